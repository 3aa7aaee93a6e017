def ld_ix (k : Int32) : Nat := k.toInt.toNat
theorem ld_ofIx {k : Int32} {h : Nat} (c : 0 ≤ k.toInt ∧ k.toInt < (h : Int)) : k = nI (ld_ix k) ∧ ld_ix k < h ∧ ((ld_ix k : Nat) : Int) = k.toInt := by
  have e : ((ld_ix k : Nat) : Int) = k.toInt := Int.toNat_of_nonneg c.1
  have r := fb_rng k
  exact ⟨Int32.toInt_inj.mp (by rw [nI_toInt (by omega), e]), by omega, e⟩
theorem ld_ix_n {j : Nat} (h : j < 2 ^ 31) : ld_ix (nI j) = j := by unfold ld_ix; rw [nI_toInt h]; rfl
/-- the first place where p holds -/
noncomputable def ld_fi (p : Nat → Prop) : Nat → Option Nat
  | 0 => none
  | n + 1 => match ld_fi p n with
    | some k => some k
    | none => @ite _ (p n) (Classical.propDecidable _) (some n) none
theorem ld_fi_no {p : Nat → Prop} {n : Nat} (h : ld_fi p n = none) (hp : ¬ p n) : ld_fi p (n + 1) = none := by simp only [ld_fi, h]; exact if_neg hp
theorem ld_fi_yes {p : Nat → Prop} {n : Nat} (h : ld_fi p n = none) (hp : p n) : ∀ {m : Nat}, n < m → ld_fi p m = some n
  | 0, hm => absurd hm (Nat.not_lt_zero _)
  | m + 1, hm => by
    by_cases e : n = m
    · subst e; simp only [ld_fi, h]; exact if_pos hp
    · simp only [ld_fi, ld_fi_yes h hp (show n < m by omega)]
theorem ld_fi_none {p : Nat → Prop} : ∀ {n : Nat}, ld_fi p n = none → ∀ i, i < n → ¬ p i
  | 0, _, i, hi => absurd hi (Nat.not_lt_zero _)
  | n + 1, h, i, hi => by
    cases e : ld_fi p n with
    | some k => simp only [ld_fi, e] at h; cases h
    | none =>
      simp only [ld_fi, e] at h
      have hn : ¬ p n := fun z => by rw [if_pos z] at h; cases h
      by_cases q : i = n
      · subst q; exact hn
      · exact ld_fi_none e i (by omega)
theorem ld_fi_of {p : Nat → Prop} : ∀ {n : Nat}, (∀ i, i < n → ¬ p i) → ld_fi p n = none
  | 0, _ => rfl
  | n + 1, h => ld_fi_no (ld_fi_of (fun i hi => h i (by omega))) (h n (by omega))
theorem ld_fi_some {p : Nat → Prop} : ∀ {n k : Nat}, ld_fi p n = some k → k < n ∧ p k ∧ ∀ i, i < k → ¬ p i
  | 0, k, h => by cases h
  | n + 1, k, h => by
    cases e : ld_fi p n with
    | some j =>
      simp only [ld_fi, e] at h
      cases h
      obtain ⟨a, b, c⟩ := ld_fi_some e
      exact ⟨by omega, b, c⟩
    | none =>
      simp only [ld_fi, e] at h
      by_cases q : p n
      · rw [if_pos q] at h; cases h; exact ⟨by omega, q, ld_fi_none e⟩
      · rw [if_neg q] at h; cases h
theorem ld_fi_cong {p q : Nat → Prop} : ∀ {n : Nat}, (∀ i, i < n → (p i ↔ q i)) → ld_fi p n = ld_fi q n
  | 0, _ => rfl
  | n + 1, h => by simp only [ld_fi]; rw [ld_fi_cong (fun i hi => h i (by omega)), propext (h n (by omega))]
/-- texts -/
def ld_dg (c : Int32) : Prop := 48 ≤ c.toInt ∧ c.toInt < 58
def ld_go (p : Nat) (c : Int32) : Prop := p < 35 ∧ (if p = 0 then c.toInt = 108 else if p < 3 then ld_dg c else if (p - 3) % 4 = 0 then c.toInt = 59 else if (p - 3) % 4 = 1 then ¬ (ld_kl c).toInt = -9 else ld_dg c)
noncomputable def ld_ftf (C : Nat → Int32) (n : Nat) : Int32 := match ld_fi (fun p => ¬ ld_go p (C p)) n with
  | some p => nI p
  | none => if 3 < n ∧ (n - 3) % 4 = 0 then (-9 : Int32) else nI n
theorem ld_ftf_s {C : Nat → Int32} {n p : Nat} (h : ld_fi (fun p => ¬ ld_go p (C p)) n = some p) : ld_ftf C n = nI p := by simp only [ld_ftf, h]
theorem ld_ftf_n {C : Nat → Int32} {n : Nat} (h : ld_fi (fun p => ¬ ld_go p (C p)) n = none) : ld_ftf C n = if 3 < n ∧ (n - 3) % 4 = 0 then (-9 : Int32) else nI n := by simp only [ld_ftf, h]
/-- seasons -/
def ld_rp (h : Nat) (a act : Int32) : Int32 := if act.toInt = 0 then (if 0 ≤ a.toInt ∧ a.toInt ≤ 9 then nI 0 else (-2 : Int32)) else if act.toInt = 1 then (if 0 ≤ a.toInt ∧ a.toInt < (h : Int) then nI 0 else (-1 : Int32)) else if act.toInt = 2 then (if 0 ≤ a.toInt ∧ a.toInt < 100 then nI 0 else (-2 : Int32)) else (-2 : Int32)
def ld_rps (h : Nat) (C : Nat → Int32) : Nat → Int32
  | 0 => nI 0
  | n + 1 => if (ld_rps h C n).toInt = 0 then ld_rp h (C (2 * n)) (C (2 * n + 1)) else ld_rps h C n
theorem ld_rps_stop {h : Nat} {C : Nat → Int32} {n : Nat} (e : ¬ (ld_rps h C n).toInt = 0) : ∀ {m : Nat}, n ≤ m → ld_rps h C m = ld_rps h C n
  | 0, hm => by have : n = 0 := by omega
                subst this; rfl
  | m + 1, hm => by
    by_cases q : n = m + 1
    · subst q; rfl
    · have ih := ld_rps_stop e (show n ≤ m by omega)
      simp only [ld_rps]
      rw [ih, if_neg e]
theorem ld_rps_z {h : Nat} {C : Nat → Int32} {n : Nat} (e : (ld_rps h C n).toInt = 0) : ∀ x, x < n → (ld_rp h (C (2 * x)) (C (2 * x + 1))).toInt = 0 := by
  intro x hx
  by_cases q : (ld_rps h C (x + 1)).toInt = 0
  · by_cases r : (ld_rps h C x).toInt = 0
    · simp only [ld_rps] at q; rw [if_pos r] at q; exact q
    · exact absurd (by rw [ld_rps_stop r (show x ≤ n by omega)] at e; exact e) r
  · exact absurd (by rw [ld_rps_stop q (show x + 1 ≤ n by omega)] at e; exact e) q
theorem ld_rp_ok {h : Nat} {a act : Int32} (e : (ld_rp h a act).toInt = 0) : (act.toInt = 0 ∧ 0 ≤ a.toInt ∧ a.toInt ≤ 9) ∨ (act.toInt = 1 ∧ 0 ≤ a.toInt ∧ a.toInt < (h : Int)) ∨ (act.toInt = 2 ∧ 0 ≤ a.toInt ∧ a.toInt < 100) := by
  unfold ld_rp at e
  repeat' split at e
  all_goals first | omega | exact absurd e (by decide)
theorem ld_rp_n {h : Nat} {a act : Int32} (e : ¬ (ld_rp h a act).toInt = 0) : (ld_rp h a act).toInt = -1 ∨ (ld_rp h a act).toInt = -2 := by
  revert e
  unfold ld_rp
  repeat' split
  all_goals intro e; first | exact absurd (by decide) e | decide
abbrev ld_Se : Type := Int32 × ld_Tr × Int32
def ld_act (h : Nat) (kd : Nat → Int32) (a act : Int32) (Q : ld_Se) : Option ld_Se :=
  if act.toInt = 1 then (if 0 < (Q.2.1.2.1 (ld_ix a)).toInt then some (Q.1, (Q.2.1.1, ld_gv h Q.2.1.2.1 (ld_ix a), Q.2.1.2.2), Q.2.2) else none)
  else if act.toInt = 2 then some (a, Q.2.1, Q.2.2)
  else some (Q.1, ld_wks h Q.1 kd Q.2.1 (ld_ix a), Q.2.2 + nI (ld_lw h Q.1 kd Q.2.1 (ld_ix a)))
def ld_sn (h : Nat) (kd : Nat → Int32) (C : Nat → Int32) (Q0 : ld_Se) : Nat → Option Nat × ld_Se
  | 0 => (none, Q0)
  | n + 1 => match ld_sn h kd C Q0 n with
    | (some w, Q) => (some w, Q)
    | (none, Q) => match ld_act h kd (C (2 * n)) (C (2 * n + 1)) Q with
      | none => (some n, Q)
      | some Q2 => (none, Q2)
theorem ld_sn_no {h : Nat} {kd C : Nat → Int32} {Q0 Q Q2 : ld_Se} {n : Nat} (e : ld_sn h kd C Q0 n = (none, Q)) (e2 : ld_act h kd (C (2 * n)) (C (2 * n + 1)) Q = some Q2) : ld_sn h kd C Q0 (n + 1) = (none, Q2) := by simp only [ld_sn, e, e2]
theorem ld_sn_yes {h : Nat} {kd C : Nat → Int32} {Q0 Q : ld_Se} {n : Nat} (e : ld_sn h kd C Q0 n = (none, Q)) (e2 : ld_act h kd (C (2 * n)) (C (2 * n + 1)) Q = none) : ∀ {m : Nat}, n < m → (ld_sn h kd C Q0 m).1 = some n
  | 0, hm => absurd hm (Nat.not_lt_zero _)
  | m + 1, hm => by
    by_cases q : n = m
    · subst q; simp only [ld_sn, e, e2]
    · have ih := ld_sn_yes e e2 (show n < m by omega)
      simp only [ld_sn]
      rcases hx : ld_sn h kd C Q0 m with ⟨o, Q3⟩
      rw [hx] at ih
      dsimp only at ih
      subst ih
      rfl
/-- congruence, the kinds too -/
theorem ld_wk_cong2 {h : Nat} {c : Int32} {kd kd2 : Nat → Int32} {V U : ld_Tr} (ek : ∀ x, x < h → kd x = kd2 x) (e : ld_eqv h V U) : ld_eqv h (ld_wk h c kd V) (ld_wk h c kd2 U) := by
  have g : ∀ x, x < h → ld_wg h c kd V.1 V.2.1 V.2.2 x = ld_wg h c kd2 U.1 U.2.1 U.2.2 x := fun x hx => by
    unfold ld_wg
    rw [(e x hx).2.1, (e x hx).2.2, ld_dt_cong ek (fun y hy => (e y hy).1) hx]
  intro x hx
  simp only [ld_wk, ld_wT, ld_wS, ld_wP]
  rw [g x hx, (e x hx).1, (e x hx).2.2]
  exact ⟨rfl, rfl, rfl⟩
theorem ld_wks_cong2 {h : Nat} {c : Int32} {kd kd2 : Nat → Int32} {V U : ld_Tr} (ek : ∀ x, x < h → kd x = kd2 x) (e : ld_eqv h V U) : ∀ n, ld_eqv h (ld_wks h c kd V n) (ld_wks h c kd2 U n)
  | 0 => e
  | n + 1 => ld_wk_cong2 ek (ld_wks_cong2 ek e n)
theorem ld_lw_cong2 {h : Nat} {c : Int32} {kd kd2 : Nat → Int32} {V U : ld_Tr} (ek : ∀ x, x < h → kd x = kd2 x) (e : ld_eqv h V U) : ∀ n, ld_lw h c kd V n = ld_lw h c kd2 U n
  | 0 => rfl
  | n + 1 => by simp only [ld_lw]; rw [ld_lw_cong2 ek e n, ld_wo_cong (fun x hx => (ld_wks_cong2 ek e (n + 1) x hx).2.1)]
theorem ld_gv_cong {h : Nat} {s s2 : Nat → Int32} {k : Nat} (hk : k < h) (e : ∀ x, x < h → s x = s2 x) : ∀ x, x < h → ld_gv h s k x = ld_gv h s2 k x := by
  have e1 : ∀ x, x < h → upd s k (s k - nI 1) x = upd s2 k (s2 k - nI 1) x := fun x hx => by
    by_cases q : x = k
    · subst q; rw [pk_us, pk_us, e x hx]
    · rw [pk_un q, pk_un q, e x hx]
  exact fun x hx => ld_upd_c (ld_nb_lt hk) e1 x hx
def ld_seq (h : Nat) (Q U : ld_Se) : Prop := Q.1 = U.1 ∧ ld_eqv h Q.2.1 U.2.1 ∧ Q.2.2 = U.2.2
theorem ld_act_cong {h : Nat} {kd kd2 : Nat → Int32} {a act : Int32} {Q U : ld_Se} (hok : (ld_rp h a act).toInt = 0) (ek : ∀ x, x < h → kd x = kd2 x) (e : ld_seq h Q U) :
    (ld_act h kd a act Q = none ↔ ld_act h kd2 a act U = none) ∧ ∀ Q2, ld_act h kd a act Q = some Q2 → ∃ U2, ld_act h kd2 a act U = some U2 ∧ ld_seq h Q2 U2 := by
  obtain ⟨e1, e2, e3⟩ := e
  have ok := ld_rp_ok hok
  unfold ld_act
  by_cases a1 : act.toInt = 1
  · have hk : ld_ix a < h := by
      rcases ok with ok | ok | ok
      · omega
      · exact (ld_ofIx ok.2).2.1
      · omega
    rw [if_pos a1, if_pos a1, (e2 _ hk).2.1]
    by_cases g : 0 < (U.2.1.2.1 (ld_ix a)).toInt
    · rw [if_pos g, if_pos g]
      refine ⟨⟨(fun z => by cases z), (fun z => by cases z)⟩, fun Q2 hq => ⟨_, rfl, ?_⟩⟩
      cases hq
      exact ⟨e1, fun x hx => ⟨(e2 x hx).1, ld_gv_cong hk (fun y hy => (e2 y hy).2.1) x hx, (e2 x hx).2.2⟩, e3⟩
    · rw [if_neg g, if_neg g]
      exact ⟨⟨fun _ => rfl, fun _ => rfl⟩, fun Q2 hq => by cases hq⟩
  · rw [if_neg a1, if_neg a1]
    by_cases a2 : act.toInt = 2
    · rw [if_pos a2, if_pos a2]
      refine ⟨⟨(fun z => by cases z), (fun z => by cases z)⟩, fun Q2 hq => ⟨_, rfl, ?_⟩⟩
      cases hq
      exact ⟨rfl, e2, e3⟩
    · rw [if_neg a2, if_neg a2]
      refine ⟨⟨(fun z => by cases z), (fun z => by cases z)⟩, fun Q2 hq => ⟨_, rfl, ?_⟩⟩
      cases hq
      refine ⟨e1, ?_, ?_⟩
      · show ld_eqv h (ld_wks h Q.1 kd Q.2.1 _) (ld_wks h U.1 kd2 U.2.1 _)
        rw [e1]; exact ld_wks_cong2 ek e2 _
      · show Q.2.2 + nI (ld_lw h Q.1 kd Q.2.1 _) = U.2.2 + nI (ld_lw h U.1 kd2 U.2.1 _)
        rw [e1, e3, ld_lw_cong2 ek e2]
def ld_an (h : Nat) (V : ld_Tr) (lean what : Int32) : Int32 := if what.toInt = 0 then l_sum V.2.1 h else if what.toInt = 2 then l_sum V.1 h else if what.toInt = 3 then lean else if what.toInt = 4 then l_sum V.2.2 h else if what.toInt - 10 < (h : Int) then V.1 (ld_ix (what - nI 10)) else (-9 : Int32)
/-- halves -/
def ld_in1 (set : Int32) (k : Nat) : Prop := ((set >>> (nI k &&& 31)) &&& nI 1).toInt = 1
def ld_sg (set : Int32) (s : Nat → Int32) (k : Nat) : Int32 := if ((set >>> (nI k &&& 31)) &&& nI 1).toInt = 1 then s k else -(s k)
def ld_abs (w : Int32) : Int32 := if 0 ≤ w then w else 0 - w
/-- readings -/
def ld_rh (h : Nat) (kd t : Nat → Int32) (c : Int32) (rh rv : Nat → Int32) (q : Nat) : Prop := ∀ x, x < q → (ld_dt h kd t c (ld_ix (rh x))).toInt = (rv x).toInt
