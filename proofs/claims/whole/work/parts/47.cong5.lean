theorem ld_sg_cong {h : Nat} {set : Int32} {s s2 : Nat → Int32} (e : ∀ x, x < h → s x = s2 x) : ∀ x, x < h → ld_sg set s x = ld_sg set s2 x := fun x hx => by unfold ld_sg; rw [e x hx]
theorem ld_fHa_cong {h : Nat} {s s2 : Nat → Int32} {what : Int32} (e : ∀ x, x < h → s x = s2 x) : ld_fHa h s what = ld_fHa h s2 what := by
  have ha : ∀ b, ld_apt h s b = ld_apt h s2 b := fun b => by unfold ld_apt; rw [ld_lsum_cong (ld_sg_cong e)]
  have hb : ∀ m, ld_hb h s m = ld_hb h s2 m := by
    intro m
    induction m with
    | zero => rfl
    | succ m ih => simp only [ld_hb]; rw [ih, ha, ha]
  unfold ld_fHa
  rw [hb, ha]
theorem ld_upd_cong {h k : Nat} {v : Int32} {f g : Nat → Int32} (e : ∀ x, x < h → f x = g x) : ∀ x, x < h → upd f k v x = upd g k v x := by
  intro x hx
  by_cases q : x = k
  · rw [q, pk_us, pk_us]
  · rw [pk_un q, pk_un q, e x hx]
theorem ld_rh_cong2 {h : Nat} {kd t kd2 t2 : Nat → Int32} {c : Int32} {rh rv rh2 rv2 : Nat → Int32} {q : Nat} (hrd : ∀ x, x < q → rh x = rh2 x ∧ rv x = rv2 x ∧ 0 ≤ (rh2 x).toInt ∧ (rh2 x).toInt < (h : Int)) (ek : ∀ x, x < h → kd x = kd2 x) (et : ∀ x, x < h → t x = t2 x) : ld_rh h kd t c rh rv q ↔ ld_rh h kd2 t2 c rh2 rv2 q := by
  refine Iff.trans (b := ld_rh h kd t c rh2 rv2 q) ?_ (ld_rh_cong (fun x hx => (hrd x hx).2.2) ek et)
  unfold ld_rh
  constructor <;> intro z x hx <;> have z2 := z x hx
  · rw [← (hrd x hx).1, ← (hrd x hx).2.1]; exact z2
  · rw [(hrd x hx).1, (hrd x hx).2.1]; exact z2
theorem ld_fTm_cong {h : Nat} {kd t kd2 t2 : Nat → Int32} {c : Int32} {rh rv rh2 rv2 : Nat → Int32} {q : Nat} {k : Int32} (hrd : ∀ x, x < q → rh x = rh2 x ∧ rv x = rv2 x ∧ 0 ≤ (rh2 x).toInt ∧ (rh2 x).toInt < (h : Int)) (ek : ∀ x, x < h → kd x = kd2 x) (et : ∀ x, x < h → t x = t2 x) : ld_fTm h kd t c rh rv q k = ld_fTm h kd2 t2 c rh2 rv2 q k := by
  unfold ld_fTm
  rw [ld_stt_cong (fun i _ => ld_rh_cong2 hrd ek (ld_upd_cong et))]
theorem ld_fKi_cong {h : Nat} {kd t kd2 t2 : Nat → Int32} {c : Int32} {rh rv rh2 rv2 : Nat → Int32} {q : Nat} {k : Int32} (hrd : ∀ x, x < q → rh x = rh2 x ∧ rv x = rv2 x ∧ 0 ≤ (rh2 x).toInt ∧ (rh2 x).toInt < (h : Int)) (ek : ∀ x, x < h → kd x = kd2 x) (et : ∀ x, x < h → t x = t2 x) : ld_fKi h kd t c rh rv q k = ld_fKi h kd2 t2 c rh2 rv2 q k := by
  unfold ld_fKi
  rw [ld_stt_cong (fun i _ => ld_rh_cong2 hrd (ld_upd_cong ek) et)]
theorem ld_fCs_cong {h : Nat} {kd t kd2 t2 : Nat → Int32} {rh rv rh2 rv2 : Nat → Int32} {q : Nat} {what : Int32} (hrd : ∀ x, x < q → rh x = rh2 x ∧ rv x = rv2 x ∧ 0 ≤ (rh2 x).toInt ∧ (rh2 x).toInt < (h : Int)) (ek : ∀ x, x < h → kd x = kd2 x) (et : ∀ x, x < h → t x = t2 x) : ld_fCs h (fun z => ld_rh h kd t (nI z) rh rv q) what = ld_fCs h (fun z => ld_rh h kd2 t2 (nI z) rh2 rv2 q) what := by
  have e : (fun z : Nat => ld_rh h kd t (nI z) rh rv q) = (fun z => ld_rh h kd2 t2 (nI z) rh2 rv2 q) := funext fun z => propext (ld_rh_cong2 hrd ek et)
  rw [e]
theorem ld_fOd_cong {h : Nat} {kd t kd2 t2 : Nat → Int32} {k v which : Int32} (ek : ∀ x, x < h → kd x = kd2 x) (et : ∀ x, x < h → t x = t2 x) : ld_fOd h kd t k v which = ld_fOd h kd2 t2 k v which := by
  unfold ld_fOd
  by_cases c : (0 ≤ k.toInt ∧ k.toInt < (h : Int)) ∧ (0 ≤ v.toInt ∧ v.toInt < 100) ∧ 0 ≤ which.toInt ∧ which.toInt ≤ 1
  · have e : ld_up h kd t (ld_ix k) v 100 = ld_up h kd2 t2 (ld_ix k) v 100 := by
      unfold ld_up
      exact fb_ct_cong (fun x _ => by rw [ld_dt_cong ek et (ld_ofIx c.1).2.1])
    rw [e]
  · rw [if_neg c, if_neg c]
/-- the sheets of the class and the model's are the same -/
def ld_se (ln la : Nat → Int32) (C : Nat → Nat → Int32) (ln2 la2 : Nat → Int32) (C2 : Nat → Nat → Int32) : Prop := ∀ k, k < 4 → ln k = ln2 k ∧ la k = la2 k ∧ ∀ x : Nat, (x : Int) < (ln2 k).toInt → C k x = C2 k x
theorem ld_ixv {k : Int32} (c : 0 ≤ k.toInt) : ((ld_ix k : Nat) : Int) = k.toInt := Int.toNat_of_nonneg c
theorem ld_ix4 {k : Int32} (c : 0 ≤ k.toInt ∧ k.toInt < 4) : ld_ix k < 4 := by unfold ld_ix; omega
theorem ld_fPu_cong {ln ln2 la la2 : Nat → Int32} {C C2 : Nat → Nat → Int32} {k i : Int32} (e : ld_se ln la C ln2 la2 C2) : ld_fPu ln k i = ld_fPu ln2 k i := by
  unfold ld_fPu
  by_cases c : 0 ≤ k.toInt ∧ k.toInt < 4
  · rw [(e _ (ld_ix4 c)).1]
  · rw [if_neg c, if_neg c]
theorem ld_okPu_cong {ln ln2 la la2 : Nat → Int32} {C C2 : Nat → Nat → Int32} {k i : Int32} (e : ld_se ln la C ln2 la2 C2) : ld_okPu ln k i ↔ ld_okPu ln2 k i := by
  unfold ld_okPu
  by_cases c : 0 ≤ k.toInt ∧ k.toInt < 4
  · rw [(e _ (ld_ix4 c)).1]
  · exact ⟨fun z => absurd z.1 c, fun z => absurd z.1 c⟩
theorem ld_fLo_cong {ln ln2 la la2 : Nat → Int32} {C C2 : Nat → Nat → Int32} {k : Int32} (e : ld_se ln la C ln2 la2 C2) : ld_fLo ln k = ld_fLo ln2 k := by
  unfold ld_fLo
  by_cases c : 0 ≤ k.toInt ∧ k.toInt < 4
  · rw [(e _ (ld_ix4 c)).1]
  · rw [if_neg c, if_neg c]
theorem ld_fCe_cong {ln ln2 la la2 : Nat → Int32} {C C2 : Nat → Nat → Int32} {k i lane : Int32} (e : ld_se ln la C ln2 la2 C2) : ld_fCe ln la C k i lane = ld_fCe ln2 la2 C2 k i lane := by
  unfold ld_fCe
  by_cases c : (0 ≤ k.toInt ∧ k.toInt < 4) ∧ 0 ≤ lane.toInt ∧ lane.toInt < 3
  · obtain ⟨e1, e2, e3⟩ := e _ (ld_ix4 c.1)
    rw [e1, e2, if_pos c, if_pos c]
    by_cases d : 0 ≤ i.toInt ∧ i.toInt < (ln2 (ld_ix k)).toInt
    · rw [e3 (ld_ix i) (by rw [ld_ixv d.1]; exact d.2)]
    · rw [if_neg d, if_neg d]
  · rw [if_neg c, if_neg c]
theorem ld_fCp_cong {ln ln2 la la2 : Nat → Int32} {C C2 : Nat → Nat → Int32} {k i o j n : Int32} (e : ld_se ln la C ln2 la2 C2) : ld_fCp ln la k i o j n = ld_fCp ln2 la2 k i o j n := by
  unfold ld_fCp
  by_cases c : (0 ≤ k.toInt ∧ k.toInt < 4) ∧ 0 ≤ o.toInt ∧ o.toInt < 4
  · rw [(e _ (ld_ix4 c.1)).1, (e _ (ld_ix4 c.1)).2.1, (e _ (ld_ix4 c.2)).1, (e _ (ld_ix4 c.2)).2.1]
  · rw [if_neg c, if_neg c]
theorem ld_okCp_cong {ln ln2 la la2 : Nat → Int32} {C C2 : Nat → Nat → Int32} {k i o j n : Int32} (e : ld_se ln la C ln2 la2 C2) : ld_okCp ln la k i o j n ↔ ld_okCp ln2 la2 k i o j n := by
  unfold ld_okCp
  by_cases c : (0 ≤ k.toInt ∧ k.toInt < 4) ∧ 0 ≤ o.toInt ∧ o.toInt < 4
  · rw [(e _ (ld_ix4 c.1)).1, (e _ (ld_ix4 c.1)).2.1, (e _ (ld_ix4 c.2)).1, (e _ (ld_ix4 c.2)).2.1]
  · exact ⟨fun z => absurd z.1 c, fun z => absurd z.1 c⟩
theorem ld_ftf_cong {C C2 : Nat → Int32} {n : Nat} (e : ∀ p, p < n → C p = C2 p) : ld_ftf C n = ld_ftf C2 n := by
  unfold ld_ftf
  rw [ld_fi_cong (fun p hp => by rw [e p hp])]
theorem ld_fSt_cong {ln ln2 la la2 : Nat → Int32} {C C2 : Nat → Nat → Int32} {k lane i n : Int32} (e : ld_se ln la C ln2 la2 C2) : ld_fSt ln la C k lane i n = ld_fSt ln2 la2 C2 k lane i n := by
  unfold ld_fSt
  by_cases c : 0 ≤ k.toInt ∧ k.toInt < 4
  · obtain ⟨e1, e2, e3⟩ := e _ (ld_ix4 c)
    rw [e1, e2]
    by_cases d : n.toInt < 0
    · simp only [if_pos d]
    · by_cases d2 : i.toInt < 0 ∨ (ln2 (ld_ix k)).toInt < i.toInt + n.toInt
      · simp only [if_neg d, if_pos d2]
      · have v1 := ld_ixv (k := n) (by omega)
        have v2 := ld_ixv (k := i) (by omega)
        rw [ld_ftf_cong (C := fun z => C (ld_ix k) (ld_ix i + z)) (C2 := fun z => C2 (ld_ix k) (ld_ix i + z)) (n := ld_ix n) (fun p hp => e3 _ (by omega))]
  · rw [if_neg c, if_neg c]
theorem ld_okS0_cong {ln ln2 la la2 : Nat → Int32} {C C2 : Nat → Nat → Int32} {k lane i n : Int32} (e : ld_se ln la C ln2 la2 C2) : ld_okS0 ln la k lane i n ↔ ld_okS0 ln2 la2 k lane i n := by
  unfold ld_okS0
  by_cases c : 0 ≤ k.toInt ∧ k.toInt < 4
  · rw [(e _ (ld_ix4 c)).1, (e _ (ld_ix4 c)).2.1]
  · exact ⟨fun z => absurd z.1.1 c, fun z => absurd z.1.1 c⟩
theorem ld_okSt_cong {ln ln2 la la2 : Nat → Int32} {C C2 : Nat → Nat → Int32} {k lane i n : Int32} (e : ld_se ln la C ln2 la2 C2) : ld_okSt ln la C k lane i n ↔ ld_okSt ln2 la2 C2 k lane i n := by
  unfold ld_okSt
  rw [ld_okS0_cong e]
  refine and_congr_right fun z => ?_
  unfold ld_okS0 at z
  obtain ⟨e1, e2, e3⟩ := e _ (ld_ix4 z.1.1)
  have v1 := ld_ixv (k := n) z.2.2.1
  have v2 := ld_ixv (k := i) z.2.2.2.1
  rw [ld_ftf_cong (C := fun z => C (ld_ix k) (ld_ix i + z)) (C2 := fun z => C2 (ld_ix k) (ld_ix i + z)) (n := ld_ix n) (fun p hp => e3 _ (by omega))]
theorem ld_rps_cong {h : Nat} {C C2 : Nat → Int32} : ∀ {n : Nat}, (∀ x, x < 2 * n → C x = C2 x) → ld_rps h C n = ld_rps h C2 n
  | 0, _ => rfl
  | n + 1, e => by
    simp only [ld_rps]
    rw [ld_rps_cong (n := n) (fun x hx => e x (by omega)), e (2 * n) (by omega), e (2 * n + 1) (by omega)]
theorem ld_sn_congC {h : Nat} {kd C C2 : Nat → Int32} {Q : ld_Se} : ∀ {n : Nat}, (∀ x, x < 2 * n → C x = C2 x) → ld_sn h kd C Q n = ld_sn h kd C2 Q n
  | 0, _ => rfl
  | n + 1, e => by
    simp only [ld_sn]
    rw [ld_sn_congC (n := n) (fun x hx => e x (by omega)), e (2 * n) (by omega), e (2 * n + 1) (by omega)]
theorem ld_fSe_cong {ln ln2 la la2 : Nat → Int32} {C C2 : Nat → Nat → Int32} {h : Nat} {kd kd2 : Nat → Int32} {Q U : ld_Se} {k lane i n what : Int32} (h8 : h ≤ 8) (e : ld_se ln la C ln2 la2 C2) (ek : ∀ x, x < h → kd x = kd2 x) (eq : ld_seq h Q U) : ld_fSe ln la C h kd Q k lane i n what = ld_fSe ln2 la2 C2 h kd2 U k lane i n what := by
  unfold ld_fSe
  by_cases c : 0 ≤ k.toInt ∧ k.toInt < 4
  · obtain ⟨e1, e2, e3⟩ := e _ (ld_ix4 c)
    rw [e1, e2, if_pos c, if_pos c]
    by_cases c2 : (0 ≤ lane.toInt ∧ lane.toInt < 3) ∧ (0 ≤ n.toInt ∧ n.toInt ≤ 20) ∧ ((0 ≤ what.toInt ∧ what.toInt ≤ 4) ∨ (10 ≤ what.toInt ∧ what.toInt < 18))
    · rw [if_pos c2, if_pos c2]
      by_cases d : i.toInt < 0 ∨ (ln2 (ld_ix k)).toInt < i.toInt + 2 * n.toInt
      · rw [if_pos d, if_pos d]
      · rw [if_neg d, if_neg d]
        have v1 := ld_ixv (k := n) c2.2.1.1
        have v2 := ld_ixv (k := i) (by omega)
        have eC : ∀ x, x < 2 * ld_ix n → (fun z => C (ld_ix k) (ld_ix i + z)) x = (fun z => C2 (ld_ix k) (ld_ix i + z)) x := fun x hx => e3 _ (by omega)
        rw [ld_rps_cong eC, ld_sn_congC eC]
        by_cases z : (ld_rps h (fun z => C2 (ld_ix k) (ld_ix i + z)) (ld_ix n)).toInt = 0
        · rw [if_pos z, if_pos z]
          obtain ⟨s1, s2⟩ := ld_sn_cong (n := ld_ix n) ek eq (ld_rps_z z)
          rw [← s1]
          by_cases w1 : what.toInt = 1
          · rw [if_pos w1, if_pos w1]
          · rw [if_neg w1, if_neg w1]
            by_cases v9 : (ld_nv (ld_sn h kd (fun z => C2 (ld_ix k) (ld_ix i + z)) Q (ld_ix n)).1).toInt = -9
            · have hn := ld_nv9 (fun j hj => by have := ld_sn_lt hj; unfold ld_ix at this; omega) v9
              have hs := s2 hn
              rw [if_pos v9, if_pos v9, ld_an_cong c2.2.2 w1 hs.2.1 hs.2.2 h8]
            · rw [if_neg v9, if_neg v9]
        · rw [if_neg z, if_neg z]
    · rw [if_neg c2, if_neg c2]
  · rw [if_neg c, if_neg c]
