theorem ld_wcp1 : Cond.native arraycopyName ∈ wsL_law := ld_w559
theorem ld_wcp2 : Cond.static arraycopyName ∈ wsL_law := ld_w560
theorem ld_wcp3 : Cond.initialized "java/lang/System" ∈ wsL_law := ld_w561
theorem ld_acopy {l : Launch} {K : ld_St → List (Nat × Value) → List Value → Nat → Prop} {ad : Nat → Nat} {cc : ByteArray} {nL : Nat} {own : String} {R : Room} {σ : ld_St} {lv : List (Nat × Value)} {st : List Value} {pc : Nat} (O : ld_Ok l K ad cc nL own R) {ix : Nat} (a b i j n : Nat) (ha : a < 38) (hb0 : b < 38) (h4 : i + n ≤ ld_len a) (h5 : j + n ≤ ld_len b) (f g : Nat → Int32) (hf : σ a = f) (hg : σ b = g) (hfr : 1 ≤ R.frames) (hlo : (st.map fun v => v.category).sum + 18 ≤ R.locals) (hw : Cond.methodLink own ix arraycopyName ∈ wsL_law) (hd : decode cc pc = .ok (.invokestatic ix, 3)) (k : K (us σ b (va_cpy f g i j n)) lv st (pc + 3)) : K σ lv (.int (nI n) :: .int (nI j) :: .ref (ad (9 + b)) :: .int (nI i) :: .ref (ad (9 + a)) :: st) pc := by
  subst hf; subst hg
  obtain ⟨X, p, e, s, m, args, below, meth, c, cells, slots, A, Q, hx, hb, hml, hown, hts, hinj, hK, hN, hA1, hA2, hR, rfl⟩ := O
  intro H locs ls hP hS hl
  have hb2 : ∀ z, ld_len z ≤ 240 := fun z => by unfold ld_len; repeat' split
                                                all_goals decide
  have l1 := hb2 a
  have l2 := hb2 b
  have ci : (nI i).toNatClampNeg = i := nI_clamp (by omega)
  have cj : (nI j).toNatClampNeg = j := nI_clamp (by omega)
  have cn : (nI n).toNatClampNeg = n := nI_clamp (by omega)
  refine va_copyi (D := X.1) (cl := ld_cl) (tys := ld_tys X) (ty := .int) hx hb (hml.trans hl.1.symm) hown (hts _ hw) (hts _ ld_wcp1) (hts _ ld_wcp2) (hts _ ld_wcp3) hK hP (ld_D hinj hA1 X σ) hS (9 + a) (9 + b) 0 0 (ld_atA X ad σ ha) (ld_atA X ad σ hb0) rfl rfl rfl (nI_pos (by omega)) (nI_pos (by omega)) (nI_pos (by omega)) (by rw [ci, cn]; exact h4) (by rw [cj, cn]; exact h5) (fun _ _ => rfl) hfr hlo hd (fun H locs hP hD hS => ?_)
  rw [ci, cj, cn] at hP
  exact k H locs ls (ld_setA X ad σ hb0 _ ▸ hP) hS hl
def ld_sh (k : Int32) : Prop := 0 ≤ k.toInt ∧ k.toInt < 4
def ld_la (k : Int32) : Prop := 0 ≤ k.toInt ∧ k.toInt < 3
def ld_fSh (k lane n : Int32) : Int32 × Int32 := if 0 ≤ k.toInt ∧ k.toInt < 4 then (if (0 ≤ lane.toInt ∧ lane.toInt < 3) ∧ n.toInt ≤ 60 then (if n.toInt < 0 then ((-10 : Int32) - nI 4, nI 4) else (nI 1, nI 0)) else ((-2 : Int32), nI 0)) else ((-1 : Int32), nI 0)
def ld_okSh (k lane n : Int32) : Prop := (0 ≤ k.toInt ∧ k.toInt < 4) ∧ (0 ≤ lane.toInt ∧ lane.toInt < 3) ∧ 0 ≤ n.toInt ∧ n.toInt ≤ 60
def ld_fPu (ln : Nat → Int32) (k i : Int32) : Int32 × Int32 := if 0 ≤ k.toInt ∧ k.toInt < 4 then (if (ln (ld_ix k)).toInt = -1 then ((-10 : Int32) - nI 1, nI 1) else if 0 ≤ i.toInt ∧ i.toInt < (ln (ld_ix k)).toInt then (nI 1, nI 0) else ((-10 : Int32) - nI 3, nI 3)) else ((-1 : Int32), nI 0)
def ld_okPu (ln : Nat → Int32) (k i : Int32) : Prop := (0 ≤ k.toInt ∧ k.toInt < 4) ∧ ¬ (ln (ld_ix k)).toInt = -1 ∧ 0 ≤ i.toInt ∧ i.toInt < (ln (ld_ix k)).toInt
def ld_fCe (ln la : Nat → Int32) (C : Nat → Nat → Int32) (k i lane : Int32) : Int64 × Int32 := if (0 ≤ k.toInt ∧ k.toInt < 4) ∧ 0 ≤ lane.toInt ∧ lane.toInt < 3 then (if (ld_fa (ln (ld_ix k)) (la (ld_ix k)) lane).toInt = 0 then (if 0 ≤ i.toInt ∧ i.toInt < (ln (ld_ix k)).toInt then ((C (ld_ix k) (ld_ix i)).toInt64, nI 0) else ((-9223372036854775808 : Int64), nI 3)) else ((-9223372036854775808 : Int64), ld_fa (ln (ld_ix k)) (la (ld_ix k)) lane)) else ((-9223372036854775808 : Int64), nI 0)
def ld_bad (len i n : Int32) : Prop := i.toInt < 0 ∨ n.toInt < 0 ∨ len.toInt < i.toInt + n.toInt
def ld_okCp (ln la : Nat → Int32) (k i o j n : Int32) : Prop := ((0 ≤ k.toInt ∧ k.toInt < 4) ∧ 0 ≤ o.toInt ∧ o.toInt < 4) ∧ (¬ (ln (ld_ix k)).toInt = -1 ∧ ¬ (ln (ld_ix o)).toInt = -1) ∧ (la (ld_ix k)).toInt = (la (ld_ix o)).toInt ∧ ¬ (i.toInt < 0 ∨ n.toInt < 0 ∨ (ln (ld_ix k)).toInt < i.toInt + n.toInt) ∧ ¬ (j.toInt < 0 ∨ n.toInt < 0 ∨ (ln (ld_ix o)).toInt < j.toInt + n.toInt)
def ld_fCp (ln la : Nat → Int32) (k i o j n : Int32) : Int32 × Int32 := if (0 ≤ k.toInt ∧ k.toInt < 4) ∧ 0 ≤ o.toInt ∧ o.toInt < 4 then (if (ln (ld_ix k)).toInt = -1 ∨ (ln (ld_ix o)).toInt = -1 then ((-10 : Int32) - nI 1, nI 1) else if (la (ld_ix k)).toInt = (la (ld_ix o)).toInt then (if (i.toInt < 0 ∨ n.toInt < 0 ∨ (ln (ld_ix k)).toInt < i.toInt + n.toInt) ∨ (j.toInt < 0 ∨ n.toInt < 0 ∨ (ln (ld_ix o)).toInt < j.toInt + n.toInt) then ((-10 : Int32) - nI 3, nI 3) else (n, nI 0)) else ((-10 : Int32) - nI 2, nI 2)) else ((-1 : Int32), nI 0)
/-- street -/
def ld_okS0 (ln la : Nat → Int32) (k lane i n : Int32) : Prop := ((0 ≤ k.toInt ∧ k.toInt < 4) ∧ 0 ≤ lane.toInt ∧ lane.toInt < 3) ∧ (ld_fa (ln (ld_ix k)) (la (ld_ix k)) lane).toInt = 0 ∧ 0 ≤ n.toInt ∧ 0 ≤ i.toInt ∧ i.toInt + n.toInt ≤ (ln (ld_ix k)).toInt
def ld_okSt (ln la : Nat → Int32) (C : Nat → Nat → Int32) (k lane i n : Int32) : Prop := ld_okS0 ln la k lane i n ∧ (ld_ftf (fun z => C (ld_ix k) (ld_ix i + z)) (ld_ix n)).toInt = -9
noncomputable def ld_fSt (ln la : Nat → Int32) (C : Nat → Nat → Int32) (k lane i n : Int32) : Int32 × Int32 := if 0 ≤ k.toInt ∧ k.toInt < 4 then (if 0 ≤ lane.toInt ∧ lane.toInt < 3 then (if (ld_fa (ln (ld_ix k)) (la (ld_ix k)) lane).toInt = 0 then (if n.toInt < 0 then ((-10 : Int32) - nI 4, nI 4) else if i.toInt < 0 ∨ (ln (ld_ix k)).toInt < i.toInt + n.toInt then ((-10 : Int32) - nI 3, nI 3) else if (ld_ftf (fun z => C (ld_ix k) (ld_ix i + z)) (ld_ix n)).toInt = -9 then (nI ((ld_ix n - 3) / 4), nI 0) else ((-100 : Int32) - ld_ftf (fun z => C (ld_ix k) (ld_ix i + z)) (ld_ix n), nI 0)) else ((-10 : Int32) - ld_fa (ln (ld_ix k)) (la (ld_ix k)) lane, ld_fa (ln (ld_ix k)) (la (ld_ix k)) lane)) else ((-2 : Int32), nI 0)) else ((-1 : Int32), nI 0)
theorem ld_ftf_ok {C : Nat → Int32} {n : Nat} (hn : n < 2 ^ 31) (h : (ld_ftf C n).toInt = -9) : ld_fi (fun p => ¬ ld_go p (C p)) n = none ∧ 3 < n ∧ (n - 3) % 4 = 0 ∧ n ≤ 35 := by
  cases e : ld_fi (fun p => ¬ ld_go p (C p)) n with
  | some p =>
    rw [ld_ftf_s e, nI_toInt (Nat.lt_trans (ld_fi_some e).1 hn)] at h
    omega
  | none =>
    rw [ld_ftf_n e] at h
    by_cases q : 3 < n ∧ (n - 3) % 4 = 0
    · refine ⟨rfl, q.1, q.2, ?_⟩
      have z := ld_fi_none e (n - 1) (by omega)
      have z2 : ld_go (n - 1) (C (n - 1)) := Classical.byContradiction z
      have z3 := z2.1
      omega
    · rw [if_neg q, nI_toInt hn] at h
      omega
/-- a season's pairs, the kinds too -/
theorem ld_sn_cong {h : Nat} {kd kd2 C : Nat → Int32} {Q U : ld_Se} (ek : ∀ x, x < h → kd x = kd2 x) (e : ld_seq h Q U) : ∀ {n : Nat}, (∀ x, x < n → (ld_rp h (C (2 * x)) (C (2 * x + 1))).toInt = 0) → (ld_sn h kd C Q n).1 = (ld_sn h kd2 C U n).1 ∧ ((ld_sn h kd C Q n).1 = none → ld_seq h (ld_sn h kd C Q n).2 (ld_sn h kd2 C U n).2)
  | 0, _ => ⟨rfl, fun _ => e⟩
  | n + 1, hp => by
    obtain ⟨i1, i2⟩ := ld_sn_cong ek e (n := n) (fun x hx => hp x (by omega))
    simp only [ld_sn]
    rcases h1 : ld_sn h kd C Q n with ⟨o, Q3⟩
    rcases h2 : ld_sn h kd2 C U n with ⟨o2, U3⟩
    rw [h1, h2] at i1 i2
    dsimp only at i1 i2
    subst i1
    cases o with
    | some w => exact ⟨rfl, fun z => by cases z⟩
    | none =>
      have hc := ld_act_cong (kd := kd) (kd2 := kd2) (hp n (by omega)) ek (i2 rfl)
      dsimp only
      cases h3 : ld_act h kd (C (2 * n)) (C (2 * n + 1)) Q3 with
      | none => rw [hc.1.mp h3]; exact ⟨rfl, fun z => by cases z⟩
      | some Q2 =>
        obtain ⟨U2, hU, hs⟩ := hc.2 Q2 h3
        rw [hU]
        exact ⟨rfl, fun _ => hs⟩
theorem ld_an_cong {h : Nat} {V U : ld_Tr} {lean lean2 what : Int32} (hw : (0 ≤ what.toInt ∧ what.toInt ≤ 4) ∨ (10 ≤ what.toInt ∧ what.toInt < 18)) (hw1 : ¬ what.toInt = 1) (e : ld_eqv h V U) (el : lean = lean2) (hh : h ≤ 8) : ld_an h V lean what = ld_an h U lean2 what := by
  subst el
  unfold ld_an
  rw [ld_lsum_cong (fun x hx => (e x hx).2.1), ld_lsum_cong (fun x hx => (e x hx).1), ld_lsum_cong (fun x hx => (e x hx).2.2)]
  repeat' split
  all_goals first | rfl | skip
  have h1 : (what - nI 10).toInt = what.toInt - 10 := by rw [fb_subI (by rw [nI_toInt (by decide)]; omega) (by rw [nI_toInt (by decide)]; omega), nI_toInt (by decide)]; rfl
  have g := (ld_ofIx (k := what - nI 10) (h := h) (by omega)).2.1
  exact (e _ g).1
noncomputable def ld_fSe (ln la : Nat → Int32) (C : Nat → Nat → Int32) (h : Nat) (kd : Nat → Int32) (Q0 : ld_Se) (k lane i n what : Int32) : Int32 × Int32 :=
  if 0 ≤ k.toInt ∧ k.toInt < 4 then (if (0 ≤ lane.toInt ∧ lane.toInt < 3) ∧ (0 ≤ n.toInt ∧ n.toInt ≤ 20) ∧ ((0 ≤ what.toInt ∧ what.toInt ≤ 4) ∨ (10 ≤ what.toInt ∧ what.toInt < 18)) then (if 0 < h then (if (ld_fa (ln (ld_ix k)) (la (ld_ix k)) lane).toInt = 0 then (if i.toInt < 0 ∨ (ln (ld_ix k)).toInt < i.toInt + 2 * n.toInt then ((-10 : Int32) - nI 3, nI 3)
    else if (ld_rps h (fun z => C (ld_ix k) (ld_ix i + z)) (ld_ix n)).toInt = 0 then (if what.toInt = 1 then (ld_nv (ld_sn h kd (fun z => C (ld_ix k) (ld_ix i + z)) Q0 (ld_ix n)).1, nI 0) else if (ld_nv (ld_sn h kd (fun z => C (ld_ix k) (ld_ix i + z)) Q0 (ld_ix n)).1).toInt = -9 then (ld_an h (ld_sn h kd (fun z => C (ld_ix k) (ld_ix i + z)) Q0 (ld_ix n)).2.2.1 (ld_sn h kd (fun z => C (ld_ix k) (ld_ix i + z)) Q0 (ld_ix n)).2.2.2 what, nI 0) else ((-100 : Int32) - ld_nv (ld_sn h kd (fun z => C (ld_ix k) (ld_ix i + z)) Q0 (ld_ix n)).1, nI 0)) else (ld_rps h (fun z => C (ld_ix k) (ld_ix i + z)) (ld_ix n), nI 0))
    else ((-10 : Int32) - ld_fa (ln (ld_ix k)) (la (ld_ix k)) lane, ld_fa (ln (ld_ix k)) (la (ld_ix k)) lane)) else ((-3 : Int32), nI 0)) else ((-2 : Int32), nI 0)) else ((-1 : Int32), nI 0)
theorem ld_nv9 {o : Option Nat} (ho : ∀ j, o = some j → j < 2 ^ 31) (h : (ld_nv o).toInt = -9) : o = none := by
  cases o with
  | none => rfl
  | some j => exact absurd h (by show ¬ (nI j).toInt = -9; rw [nI_toInt (ho j rfl)]; omega)
theorem ld_sn_lt {h : Nat} {kd C : Nat → Int32} {Q0 : ld_Se} : ∀ {n j : Nat}, (ld_sn h kd C Q0 n).1 = some j → j < n
  | 0, j, e => by cases e
  | n + 1, j, e => by
    simp only [ld_sn] at e
    rcases h1 : ld_sn h kd C Q0 n with ⟨o, Q3⟩
    rw [h1] at e
    cases o with
    | some w =>
      dsimp only at e
      have ih := ld_sn_lt (h := h) (kd := kd) (C := C) (Q0 := Q0) (n := n) (j := w) (by rw [h1])
      cases e; omega
    | none =>
      dsimp only at e
      cases h3 : ld_act h kd (C (2 * n)) (C (2 * n + 1)) Q3 with
      | none => rw [h3] at e; cases e; omega
      | some Q2 => rw [h3] at e; cases e
set_option maxHeartbeats 4000000 in
set_option maxRecDepth 100000 in
theorem c_X2_sheet (l : Launch) (ad : Nat → Nat) (σ : ld_St) (k lane n : Int32) : ld_Ctr l yX2_sheet cX2_sheet 4 (some .int) (1, 23) [.ref (ad 0), .int k, .int lane, .int n] ad σ (ld_I (fun (r : Int32) (σ2 : ld_St) => r = (ld_fSh k lane n).1 ∧ ∃ f : Nat → Int32, f 0 = (ld_fSh k lane n).2 ∧ ((ld_okSh k lane n ∧ ∃ g : Nat → Int32, σ2 = us (us (us (us σ 102 f) 130 (upd (σ 130) (ld_ix k) lane)) 131 (upd (σ 131) (ld_ix k) (nI (ld_ix n)))) (16 + ld_ix k) g ∧ ∀ x, x < ld_ix n → g x = nI 0) ∨ (¬ ld_okSh k lane n ∧ σ2 = us σ 102 f)))) := by
  refine ld_entry (by decide +kernel) (Nat.le_of_ble_eq_true rfl) (fun K O E => ?_)
  have O : ld_Ok l K ad cX2_sheet 4 RX2 (ld_rm (1, 23)) := O
  show K σ [(0, .ref (ad 0)), (1, .int k), (2, .int lane), (3, .int n)] [] 0
  refine ld_aload_n O (pc := 0) 0 dX2_sheet_0 rfl rfl ?_
  refine ld_iconst O (pc := 1) (v := nI 0) dX2_sheet_1 (by decide) ?_
  refine ld_p_LD_lastFault O (pc := 2) ld_w24 dX2_sheet_2 ?_
  refine ld_iload_n O (pc := 5) 1 dX2_sheet_5 rfl rfl ?_
  refine ld_callSi O (pc := 6) (As := [.int k]) (st := []) (c_X2_isSheet l ad (us σ 102 (fun _ => nI 0)) k) ld_mw_X2_isSheet ld_w73 rfl rfl ⟨by decide, by decide⟩ (Nat.le_of_ble_eq_true rfl) dX2_sheet_6 (fun r_p6 σ_p6 h_p6 => ?_)
  obtain ⟨rfl, hσ_p6⟩ := h_p6
  rw [hσ_p6]
  show K (us σ 102 (fun _ => nI 0)) [(0, .ref (ad 0)), (1, .int k), (2, .int lane), (3, .int n)] [.int (ld_b (0 ≤ (k).toInt ∧ (k).toInt < 4))] 9
  refine ld_ifb_ne O (pc := 9) 14 dX2_sheet_9 (by decide) (fun c1 => ?_) (fun c1 => ?_)
  · obtain ⟨ek_k, hk_k, ik_k⟩ := ld_ofIx (k := k) (h := 4) (by omega)
    rw [ek_k]
    refine ld_iload_n O (pc := 14) 2 dX2_sheet_14 rfl rfl ?_
    refine ld_callSi O (pc := 15) (As := [.int lane]) (st := []) (c_X2_isLane l ad (us σ 102 (fun _ => nI 0)) lane) ld_mw_X2_isLane ld_w76 rfl rfl ⟨by decide, by decide⟩ (Nat.le_of_ble_eq_true rfl) dX2_sheet_15 (fun r_p15 σ_p15 h_p15 => ?_)
    obtain ⟨rfl, hσ_p15⟩ := h_p15
    rw [hσ_p15]
    show K (us σ 102 (fun _ => nI 0)) [(0, .ref (ad 0)), (1, .int (nI (ld_ix k))), (2, .int lane), (3, .int n)] [.int (ld_b (0 ≤ (lane).toInt ∧ (lane).toInt < 3))] 18
    refine ld_ifb_eq O (pc := 18) 27 dX2_sheet_18 (by decide) (fun c2 => ?_) (fun c2 => ?_)
    · refine ld_bipush O (pc := 27) (v := (-2 : Int32)) dX2_sheet_27 (by decide) ?_
      refine ld_ireti E dX2_sheet_29 ?_
      refine ⟨?_, fun _ => nI 0, ?_, Or.inr ⟨?_, ?_⟩⟩
      · unfold ld_fSh
        repeat' split
        all_goals first | rfl | (exfalso; omega)
      · unfold ld_fSh
        repeat' split
        all_goals first | rfl | (exfalso; omega)
      · exact fun z => by have z1 := z.1; have z2 := z.2.1; have z3 := z.2.2; omega
      · funext b_
        by_cases h0_ : b_ = 102
        · subst h0_; first | rfl | (simp (disch := omega) only [us_ne, us_eq]; done)
        simp only [us, h0_, if_false]
    · refine ld_iload_n O (pc := 21) 3 dX2_sheet_21 rfl rfl ?_
      refine ld_bipush O (pc := 22) (v := nI 60) dX2_sheet_22 (by decide) ?_
      refine ld_icmp_le O (pc := 24) (n).toInt 60 rfl (by decide) 30 dX2_sheet_24 (by decide) (fun c3 => ?_) (fun c3 => ?_)
      · refine ld_iload_n O (pc := 30) 3 dX2_sheet_30 rfl rfl ?_
        refine ld_if_ge O (pc := 31) (n).toInt rfl 40 dX2_sheet_31 (by decide) (fun c4 => ?_) (fun c4 => ?_)
        · obtain ⟨ek_n, hk_n, ik_n⟩ := ld_ofIx (k := n) (h := 61) (by omega)
          rw [ek_n]
          refine ld_aload_n O (pc := 40) 0 dX2_sheet_40 rfl rfl ?_
          refine ld_g_LD_sheets O (pc := 41) ld_w18 dX2_sheet_41 ?_
          refine ld_iload_n O (pc := 44) 1 dX2_sheet_44 rfl rfl ?_
          refine ld_aald O (pc := 45) (ld_ix k) rfl (by omega) dX2_sheet_45 ?_
          refine ld_iload_n O (pc := 46) 2 dX2_sheet_46 rfl rfl ?_
          refine ld_iload_n O (pc := 47) 3 dX2_sheet_47 rfl rfl ?_
          refine ld_callVNv O (pc := 48) (As := [.int lane, .int (nI (ld_ix n))]) (st := []) (ld_recvS (by omega)) (c_X0_begin l ad (us σ 102 (fun _ => nI 0)) (ld_ix k) (by omega) lane (ld_ix n) (by omega)) ld_mw_X0_begin (List.mem_of_getElem? (i := 29) rfl) rfl rfl ⟨by decide, by decide⟩ (Nat.le_of_ble_eq_true rfl) dX2_sheet_48 (fun σ_p48 h_p48 => ?_)
          obtain ⟨fb_p48, hσ_p48, hfb_p48⟩ := h_p48
          rw [hσ_p48]
          show K (us (us (us (us σ 102 (fun _ => nI 0)) 130 (upd (σ 130) (ld_ix k) lane)) 131 (upd (σ 131) (ld_ix k) (nI (ld_ix n)))) (16 + (ld_ix k)) fb_p48) [(0, .ref (ad 0)), (1, .int (nI (ld_ix k))), (2, .int lane), (3, .int (nI (ld_ix n)))] [] 51
          refine ld_iconst O (pc := 51) (v := nI 1) dX2_sheet_51 (by decide) ?_
          refine ld_ireti E dX2_sheet_52 ?_
          refine ⟨?_, fun _ => nI 0, ?_, Or.inl ⟨⟨by omega, by omega, by omega⟩, fb_p48, rfl, hfb_p48⟩⟩
          · unfold ld_fSh
            repeat' split
            all_goals first | rfl | (exfalso; omega)
          · unfold ld_fSh
            repeat' split
            all_goals first | rfl | (exfalso; omega)
        · refine ld_aload_n O (pc := 34) 0 dX2_sheet_34 rfl rfl ?_
          refine ld_iconst O (pc := 35) (v := nI 4) dX2_sheet_35 (by decide) ?_
          refine ld_callVi O (pc := 36) (As := [.int (nI 4)]) (st := []) ld_recv0 (c_X2_fails l ad (us σ 102 (fun _ => nI 0)) (nI 4)) ld_mw_X2_fails ld_w89 rfl rfl ⟨by decide, by decide⟩ (Nat.le_of_ble_eq_true rfl) dX2_sheet_36 (fun r_p36 σ_p36 h_p36 => ?_)
          obtain ⟨rfl, hσ_p36⟩ := h_p36
          rw [hσ_p36]
          show K (us (us σ 102 (fun _ => nI 0)) 102 (fun _ => nI 4)) [(0, .ref (ad 0)), (1, .int (nI (ld_ix k))), (2, .int lane), (3, .int n)] [.int ((-10 : Int32) - (nI 4))] 39
          refine ld_ireti E dX2_sheet_39 ?_
          refine ⟨?_, fun _ => nI 4, ?_, Or.inr ⟨?_, ?_⟩⟩
          · unfold ld_fSh
            repeat' split
            all_goals first | rfl | (exfalso; omega)
          · unfold ld_fSh
            repeat' split
            all_goals first | rfl | (exfalso; omega)
          · exact fun z => by have z1 := z.1; have z2 := z.2.1; have z3 := z.2.2; omega
          · funext b_
            by_cases h0_ : b_ = 102
            · subst h0_; first | rfl | (simp (disch := omega) only [us_ne, us_eq]; done)
            simp only [us, h0_, if_false]
      · refine ld_bipush O (pc := 27) (v := (-2 : Int32)) dX2_sheet_27 (by decide) ?_
        refine ld_ireti E dX2_sheet_29 ?_
        refine ⟨?_, fun _ => nI 0, ?_, Or.inr ⟨?_, ?_⟩⟩
        · unfold ld_fSh
          repeat' split
          all_goals first | rfl | (exfalso; omega)
        · unfold ld_fSh
          repeat' split
          all_goals first | rfl | (exfalso; omega)
        · exact fun z => by have z1 := z.1; have z2 := z.2.1; have z3 := z.2.2; omega
        · funext b_
          by_cases h0_ : b_ = 102
          · subst h0_; first | rfl | (simp (disch := omega) only [us_ne, us_eq]; done)
          simp only [us, h0_, if_false]
  · refine ld_iconst O (pc := 12) (v := (-1 : Int32)) dX2_sheet_12 (by decide) ?_
    refine ld_ireti E dX2_sheet_13 ?_
    refine ⟨?_, fun _ => nI 0, ?_, Or.inr ⟨?_, ?_⟩⟩
    · unfold ld_fSh
      repeat' split
      all_goals first | rfl | (exfalso; omega)
    · unfold ld_fSh
      repeat' split
      all_goals first | rfl | (exfalso; omega)
    · exact fun z => by have z1 := z.1; have z2 := z.2.1; have z3 := z.2.2; omega
    · funext b_
      by_cases h0_ : b_ = 102
      · subst h0_; first | rfl | (simp (disch := omega) only [us_ne, us_eq]; done)
      simp only [us, h0_, if_false]
set_option maxHeartbeats 4000000 in
set_option maxRecDepth 100000 in
theorem c_X2_put (l : Launch) (ad : Nat → Nat) (σ : ld_St) (hS : ∀ x, x < 4 → -1 ≤ (σ 131 x).toInt ∧ (σ 131 x).toInt ≤ 60) (k i v : Int32) : ld_Ctr l yX2_put cX2_put 5 (some .int) (1, 21) [.ref (ad 0), .int k, .int i, .int v] ad σ (ld_I (fun (r : Int32) (σ2 : ld_St) => r = (ld_fPu (σ 131) k i).1 ∧ ∃ f : Nat → Int32, f 0 = (ld_fPu (σ 131) k i).2 ∧ ((ld_okPu (σ 131) k i ∧ σ2 = us (us σ 102 f) (16 + ld_ix k) (upd (σ (16 + ld_ix k)) (ld_ix i) (ld_lc (σ 130 (ld_ix k)) v))) ∨ (¬ ld_okPu (σ 131) k i ∧ σ2 = us σ 102 f)))) := by
  refine ld_entry (by decide +kernel) (Nat.le_of_ble_eq_true rfl) (fun K O E => ?_)
  have O : ld_Ok l K ad cX2_put 5 RX2 (ld_rm (1, 21)) := O
  show K σ [(0, .ref (ad 0)), (1, .int k), (2, .int i), (3, .int v)] [] 0
  refine ld_aload_n O (pc := 0) 0 dX2_put_0 rfl rfl ?_
  refine ld_iconst O (pc := 1) (v := nI 0) dX2_put_1 (by decide) ?_
  refine ld_p_LD_lastFault O (pc := 2) ld_w24 dX2_put_2 ?_
  refine ld_iload_n O (pc := 5) 1 dX2_put_5 rfl rfl ?_
  refine ld_callSi O (pc := 6) (As := [.int k]) (st := []) (c_X2_isSheet l ad (us σ 102 (fun _ => nI 0)) k) ld_mw_X2_isSheet ld_w73 rfl rfl ⟨by decide, by decide⟩ (Nat.le_of_ble_eq_true rfl) dX2_put_6 (fun r_p6 σ_p6 h_p6 => ?_)
  obtain ⟨rfl, hσ_p6⟩ := h_p6
  rw [hσ_p6]
  show K (us σ 102 (fun _ => nI 0)) [(0, .ref (ad 0)), (1, .int k), (2, .int i), (3, .int v)] [.int (ld_b (0 ≤ (k).toInt ∧ (k).toInt < 4))] 9
  refine ld_ifb_ne O (pc := 9) 14 dX2_put_9 (by decide) (fun c1 => ?_) (fun c1 => ?_)
  · obtain ⟨ek_k, hk_k, ik_k⟩ := ld_ofIx (k := k) (h := 4) (by omega)
    rw [ek_k]
    refine ld_aload_n O (pc := 14) 0 dX2_put_14 rfl rfl ?_
    refine ld_g_LD_sheets O (pc := 15) ld_w18 dX2_put_15 ?_
    refine ld_iload_n O (pc := 18) 1 dX2_put_18 rfl rfl ?_
    refine ld_aald O (pc := 19) (ld_ix k) rfl (by omega) dX2_put_19 ?_
    refine ld_astore O (pc := 20) [(4, .ref (ad (4 + (ld_ix k)))), (0, .ref (ad 0)), (1, .int (nI (ld_ix k))), (2, .int i), (3, .int v)] dX2_put_20 (by decide) rfl ?_
    refine ld_aload O (pc := 22) 0 dX2_put_22 rfl ?_
    refine ld_callVNi O (pc := 24) (As := []) (st := []) (ld_recvS (by omega)) (c_X0_isThere l ad (us σ 102 (fun _ => nI 0)) (ld_ix k) (by omega)) ld_mw_X0_isThere (List.mem_of_getElem? (i := 30) rfl) rfl rfl ⟨by decide, by decide⟩ (Nat.le_of_ble_eq_true rfl) dX2_put_24 (fun r_p24 σ_p24 h_p24 => ?_)
    obtain ⟨rfl, hσ_p24⟩ := h_p24
    rw [hσ_p24]
    show K (us σ 102 (fun _ => nI 0)) [(4, .ref (ad (4 + (ld_ix k)))), (0, .ref (ad 0)), (1, .int (nI (ld_ix k))), (2, .int i), (3, .int v)] [.int (ld_b (¬ (σ 131 (ld_ix k)).toInt = (-1)))] 27
    refine ld_ifb_ne O (pc := 27) 36 dX2_put_27 (by decide) (fun c2 => ?_) (fun c2 => ?_)
    · refine ld_aload O (pc := 36) 0 dX2_put_36 rfl ?_
      refine ld_iload_n O (pc := 38) 3 dX2_put_38 rfl rfl ?_
      refine ld_callVNi O (pc := 39) (As := [.int i]) (st := []) (ld_recvS (by omega)) (c_X0_hasCell l ad (us σ 102 (fun _ => nI 0)) (ld_ix k) (by omega) i) ld_mw_X0_hasCell (List.mem_of_getElem? (i := 31) rfl) rfl rfl ⟨by decide, by decide⟩ (Nat.le_of_ble_eq_true rfl) dX2_put_39 (fun r_p39 σ_p39 h_p39 => ?_)
      obtain ⟨rfl, hσ_p39⟩ := h_p39
      rw [hσ_p39]
      show K (us σ 102 (fun _ => nI 0)) [(4, .ref (ad (4 + (ld_ix k)))), (0, .ref (ad 0)), (1, .int (nI (ld_ix k))), (2, .int i), (3, .int v)] [.int (ld_b (0 ≤ (i).toInt ∧ (i).toInt < (σ 131 (ld_ix k)).toInt))] 42
      refine ld_ifb_ne O (pc := 42) 51 dX2_put_42 (by decide) (fun c3 => ?_) (fun c3 => ?_)
      · have hs1_ := hS _ hk_k
        obtain ⟨ek_i, hk_i, ik_i⟩ := ld_ofIx (k := i) (h := 61) (by omega)
        rw [ek_i]
        refine ld_aload O (pc := 51) 0 dX2_put_51 rfl ?_
        refine ld_g_S_cellsN O (pc := 53) (by omega) (List.mem_of_getElem? (i := 11) rfl) dX2_put_53 ?_
        refine ld_iload_n O (pc := 56) 3 dX2_put_56 rfl rfl ?_
        refine ld_aload O (pc := 57) 0 dX2_put_57 rfl ?_
        refine ld_iload_n O (pc := 59) 4 dX2_put_59 rfl rfl ?_
        refine ld_callVNi O (pc := 60) (As := [.int v]) (st := [.int (nI (ld_ix i)), .ref (ad (9 + (16 + (ld_ix k))))]) (ld_recvS (by omega)) (c_X0_cutToLane l ad (us σ 102 (fun _ => nI 0)) (ld_ix k) (by omega) v) ld_mw_X0_cutToLane (List.mem_of_getElem? (i := 32) rfl) rfl rfl ⟨by decide, by decide⟩ (Nat.le_of_ble_eq_true rfl) dX2_put_60 (fun r_p60 σ_p60 h_p60 => ?_)
        obtain ⟨rfl, hσ_p60⟩ := h_p60
        rw [hσ_p60]
        show K (us σ 102 (fun _ => nI 0)) [(4, .ref (ad (4 + (ld_ix k)))), (0, .ref (ad 0)), (1, .int (nI (ld_ix k))), (2, .int (nI (ld_ix i))), (3, .int v)] [.int (ld_lc (σ 130 (ld_ix k)) v), .int (nI (ld_ix i)), .ref (ad (9 + (16 + (ld_ix k))))] 63
        refine ld_iastF O (pc := 63) (16 + (ld_ix k)) (ld_ix i) (σ (16 + (ld_ix k))) (by first | rfl | (simp (disch := omega) only [us_ne, us_eq]; done)) rfl (by omega) (by have := hS _ hk_k; rw [ld_lenS hk_k]; omega) dX2_put_63 ?_
        refine ld_iconst O (pc := 64) (v := nI 1) dX2_put_64 (by decide) ?_
        refine ld_ireti E dX2_put_65 ?_
        refine ⟨?_, fun _ => nI 0, ?_, Or.inl ⟨⟨by omega, by omega, by omega⟩, rfl⟩⟩
        · unfold ld_fPu
          repeat' split
          all_goals first | rfl | (exfalso; omega)
        · unfold ld_fPu
          repeat' split
          all_goals first | rfl | (exfalso; omega)
      · refine ld_aload_n O (pc := 45) 1 dX2_put_45 rfl rfl ?_
        refine ld_iconst O (pc := 46) (v := nI 3) dX2_put_46 (by decide) ?_
        refine ld_callVi O (pc := 47) (As := [.int (nI 3)]) (st := []) ld_recv0 (c_X2_fails l ad (us σ 102 (fun _ => nI 0)) (nI 3)) ld_mw_X2_fails ld_w89 rfl rfl ⟨by decide, by decide⟩ (Nat.le_of_ble_eq_true rfl) dX2_put_47 (fun r_p47 σ_p47 h_p47 => ?_)
        obtain ⟨rfl, hσ_p47⟩ := h_p47
        rw [hσ_p47]
        show K (us (us σ 102 (fun _ => nI 0)) 102 (fun _ => nI 3)) [(4, .ref (ad (4 + (ld_ix k)))), (0, .ref (ad 0)), (1, .int (nI (ld_ix k))), (2, .int i), (3, .int v)] [.int ((-10 : Int32) - (nI 3))] 50
        refine ld_ireti E dX2_put_50 ?_
        refine ⟨?_, fun _ => nI 3, ?_, Or.inr ⟨?_, ?_⟩⟩
        · unfold ld_fPu
          repeat' split
          all_goals first | rfl | (exfalso; omega)
        · unfold ld_fPu
          repeat' split
          all_goals first | rfl | (exfalso; omega)
        · exact fun z => by have z1 := z.1; have z2 := z.2.1; have z3 := z.2.2; omega
        · funext b_
          by_cases h0_ : b_ = 102
          · subst h0_; first | rfl | (simp (disch := omega) only [us_ne, us_eq]; done)
          simp only [us, h0_, if_false]
    · refine ld_aload_n O (pc := 30) 1 dX2_put_30 rfl rfl ?_
      refine ld_iconst O (pc := 31) (v := nI 1) dX2_put_31 (by decide) ?_
      refine ld_callVi O (pc := 32) (As := [.int (nI 1)]) (st := []) ld_recv0 (c_X2_fails l ad (us σ 102 (fun _ => nI 0)) (nI 1)) ld_mw_X2_fails ld_w89 rfl rfl ⟨by decide, by decide⟩ (Nat.le_of_ble_eq_true rfl) dX2_put_32 (fun r_p32 σ_p32 h_p32 => ?_)
      obtain ⟨rfl, hσ_p32⟩ := h_p32
      rw [hσ_p32]
      show K (us (us σ 102 (fun _ => nI 0)) 102 (fun _ => nI 1)) [(4, .ref (ad (4 + (ld_ix k)))), (0, .ref (ad 0)), (1, .int (nI (ld_ix k))), (2, .int i), (3, .int v)] [.int ((-10 : Int32) - (nI 1))] 35
      refine ld_ireti E dX2_put_35 ?_
      refine ⟨?_, fun _ => nI 1, ?_, Or.inr ⟨?_, ?_⟩⟩
      · unfold ld_fPu
        repeat' split
        all_goals first | rfl | (exfalso; omega)
      · unfold ld_fPu
        repeat' split
        all_goals first | rfl | (exfalso; omega)
      · exact fun z => by have z1 := z.1; have z2 := z.2.1; have z3 := z.2.2; omega
      · funext b_
        by_cases h0_ : b_ = 102
        · subst h0_; first | rfl | (simp (disch := omega) only [us_ne, us_eq]; done)
        simp only [us, h0_, if_false]
  · refine ld_iconst O (pc := 12) (v := (-1 : Int32)) dX2_put_12 (by decide) ?_
    refine ld_ireti E dX2_put_13 ?_
    refine ⟨?_, fun _ => nI 0, ?_, Or.inr ⟨?_, ?_⟩⟩
    · unfold ld_fPu
      repeat' split
      all_goals first | rfl | (exfalso; omega)
    · unfold ld_fPu
      repeat' split
      all_goals first | rfl | (exfalso; omega)
    · exact fun z => by have z1 := z.1; have z2 := z.2.1; have z3 := z.2.2; omega
    · funext b_
      by_cases h0_ : b_ = 102
      · subst h0_; first | rfl | (simp (disch := omega) only [us_ne, us_eq]; done)
      simp only [us, h0_, if_false]
set_option maxHeartbeats 4000000 in
set_option maxRecDepth 100000 in
theorem c_X2_cell (l : Launch) (ad : Nat → Nat) (σ : ld_St) (hS : ∀ x, x < 4 → -1 ≤ (σ 131 x).toInt ∧ (σ 131 x).toInt ≤ 60) (k i lane : Int32) : ld_Ctr l yX2_cell cX2_cell 6 (some .long) (2, 41) [.ref (ad 0), .int k, .int i, .int lane] ad σ (ld_L (fun (r : Int64) (σ2 : ld_St) => r = (ld_fCe (σ 131) (σ 130) (fun z => σ (16 + z)) k i lane).1 ∧ ∃ f : Nat → Int32, f 0 = (ld_fCe (σ 131) (σ 130) (fun z => σ (16 + z)) k i lane).2 ∧ σ2 = us σ 102 f)) := by
  refine ld_entry (by decide +kernel) (Nat.le_of_ble_eq_true rfl) (fun K O E => ?_)
  have O : ld_Ok l K ad cX2_cell 6 RX2 (ld_rm (2, 41)) := O
  show K σ [(0, .ref (ad 0)), (1, .int k), (2, .int i), (3, .int lane)] [] 0
  refine ld_aload_n O (pc := 0) 0 dX2_cell_0 rfl rfl ?_
  refine ld_iconst O (pc := 1) (v := nI 0) dX2_cell_1 (by decide) ?_
  refine ld_p_LD_lastFault O (pc := 2) ld_w24 dX2_cell_2 ?_
  refine ld_iload_n O (pc := 5) 1 dX2_cell_5 rfl rfl ?_
  refine ld_callSi O (pc := 6) (As := [.int k]) (st := []) (c_X2_isSheet l ad (us σ 102 (fun _ => nI 0)) k) ld_mw_X2_isSheet ld_w73 rfl rfl ⟨by decide, by decide⟩ (Nat.le_of_ble_eq_true rfl) dX2_cell_6 (fun r_p6 σ_p6 h_p6 => ?_)
  obtain ⟨rfl, hσ_p6⟩ := h_p6
  rw [hσ_p6]
  show K (us σ 102 (fun _ => nI 0)) [(0, .ref (ad 0)), (1, .int k), (2, .int i), (3, .int lane)] [.int (ld_b (0 ≤ (k).toInt ∧ (k).toInt < 4))] 9
  refine ld_ifb_eq O (pc := 9) 19 dX2_cell_9 (by decide) (fun c1 => ?_) (fun c1 => ?_)
  · refine ld_ldc2 O (pc := 19) (v := (-9223372036854775808 : Int64)) dX2_cell_19 ld_w492 ?_
    refine ld_lret E dX2_cell_22 ?_
    refine ⟨?_, fun _ => nI 0, ?_, ?_⟩
    · unfold ld_fCe
      repeat' split
      all_goals first | rfl | (exfalso; omega)
    · unfold ld_fCe
      repeat' split
      all_goals first | rfl | (exfalso; omega)
    · funext b_
      by_cases h0_ : b_ = 102
      · subst h0_; first | rfl | (simp (disch := omega) only [us_ne, us_eq]; done)
      simp only [us, h0_, if_false]
  · obtain ⟨ek_k, hk_k, ik_k⟩ := ld_ofIx (k := k) (h := 4) (by omega)
    rw [ek_k]
    refine ld_iload_n O (pc := 12) 3 dX2_cell_12 rfl rfl ?_
    refine ld_callSi O (pc := 13) (As := [.int lane]) (st := []) (c_X2_isLane l ad (us σ 102 (fun _ => nI 0)) lane) ld_mw_X2_isLane ld_w76 rfl rfl ⟨by decide, by decide⟩ (Nat.le_of_ble_eq_true rfl) dX2_cell_13 (fun r_p13 σ_p13 h_p13 => ?_)
    obtain ⟨rfl, hσ_p13⟩ := h_p13
    rw [hσ_p13]
    show K (us σ 102 (fun _ => nI 0)) [(0, .ref (ad 0)), (1, .int (nI (ld_ix k))), (2, .int i), (3, .int lane)] [.int (ld_b (0 ≤ (lane).toInt ∧ (lane).toInt < 3))] 16
    refine ld_ifb_ne O (pc := 16) 23 dX2_cell_16 (by decide) (fun c2 => ?_) (fun c2 => ?_)
    · refine ld_aload_n O (pc := 23) 0 dX2_cell_23 rfl rfl ?_
      refine ld_g_LD_sheets O (pc := 24) ld_w18 dX2_cell_24 ?_
      refine ld_iload_n O (pc := 27) 1 dX2_cell_27 rfl rfl ?_
      refine ld_aald O (pc := 28) (ld_ix k) rfl (by omega) dX2_cell_28 ?_
      refine ld_astore O (pc := 29) [(4, .ref (ad (4 + (ld_ix k)))), (0, .ref (ad 0)), (1, .int (nI (ld_ix k))), (2, .int i), (3, .int lane)] dX2_cell_29 (by decide) rfl ?_
      refine ld_aload O (pc := 31) 0 dX2_cell_31 rfl ?_
      refine ld_iload_n O (pc := 33) 4 dX2_cell_33 rfl rfl ?_
      refine ld_callVNi O (pc := 34) (As := [.int lane]) (st := []) (ld_recvS (by omega)) (c_X0_faultAs l ad (us σ 102 (fun _ => nI 0)) (ld_ix k) (by omega) lane) ld_mw_X0_faultAs (List.mem_of_getElem? (i := 14) rfl) rfl rfl ⟨by decide, by decide⟩ (Nat.le_of_ble_eq_true rfl) dX2_cell_34 (fun r_p34 σ_p34 h_p34 => ?_)
      obtain ⟨rfl, hσ_p34⟩ := h_p34
      rw [hσ_p34]
      show K (us σ 102 (fun _ => nI 0)) [(4, .ref (ad (4 + (ld_ix k)))), (0, .ref (ad 0)), (1, .int (nI (ld_ix k))), (2, .int i), (3, .int lane)] [.int (ld_fa (σ 131 (ld_ix k)) (σ 130 (ld_ix k)) lane)] 37
      refine ld_istore O (pc := 37) [(5, .int (ld_fa (σ 131 (ld_ix k)) (σ 130 (ld_ix k)) lane)), (4, .ref (ad (4 + (ld_ix k)))), (0, .ref (ad 0)), (1, .int (nI (ld_ix k))), (2, .int i), (3, .int lane)] dX2_cell_37 (by decide) rfl ?_
      refine ld_iload O (pc := 39) 0 dX2_cell_39 rfl ?_
      refine ld_if_ne O (pc := 41) (ld_fa (σ 131 (ld_ix k)) (σ 130 (ld_ix k)) lane).toInt rfl 56 dX2_cell_41 (by decide) (fun c3 => ?_) (fun c3 => ?_)
      · refine ld_iload O (pc := 56) 0 dX2_cell_56 rfl ?_
        refine ld_if_eq O (pc := 58) (ld_fa (σ 131 (ld_ix k)) (σ 130 (ld_ix k)) lane).toInt rfl 71 dX2_cell_58 (by decide) (fun z => absurd z c3) (fun c4 => ?_)
        refine ld_aload_n O (pc := 61) 2 dX2_cell_61 rfl rfl ?_
        refine ld_iload O (pc := 62) 0 dX2_cell_62 rfl ?_
        refine ld_p_LD_lastFault O (pc := 64) ld_w24 dX2_cell_64 ?_
        refine ld_ldc2 O (pc := 67) (v := (-9223372036854775808 : Int64)) dX2_cell_67 ld_w492 ?_
        refine ld_lret E dX2_cell_70 ?_
        refine ⟨?_, fun _ => ld_fa (σ 131 (ld_ix k)) (σ 130 (ld_ix k)) lane, ?_, ?_⟩
        · unfold ld_fCe
          repeat' split
          all_goals first | rfl | (exfalso; omega)
        · unfold ld_fCe
          repeat' split
          all_goals first | rfl | (exfalso; omega)
        · funext b_
          by_cases h0_ : b_ = 102
          · subst h0_; first | rfl | (simp (disch := omega) only [us_ne, us_eq]; done)
          simp only [us, h0_, if_false]
      · refine ld_aload O (pc := 44) 1 dX2_cell_44 rfl ?_
        refine ld_iload_n O (pc := 46) 4 dX2_cell_46 rfl rfl ?_
        refine ld_callVNi O (pc := 47) (As := [.int i]) (st := []) (ld_recvS (by omega)) (c_X0_hasCell l ad (us σ 102 (fun _ => nI 0)) (ld_ix k) (by omega) i) ld_mw_X0_hasCell (List.mem_of_getElem? (i := 31) rfl) rfl rfl ⟨by decide, by decide⟩ (Nat.le_of_ble_eq_true rfl) dX2_cell_47 (fun r_p47 σ_p47 h_p47 => ?_)
        obtain ⟨rfl, hσ_p47⟩ := h_p47
        rw [hσ_p47]
        show K (us σ 102 (fun _ => nI 0)) [(5, .int (ld_fa (σ 131 (ld_ix k)) (σ 130 (ld_ix k)) lane)), (4, .ref (ad (4 + (ld_ix k)))), (0, .ref (ad 0)), (1, .int (nI (ld_ix k))), (2, .int i), (3, .int lane)] [.int (ld_b (0 ≤ (i).toInt ∧ (i).toInt < (σ 131 (ld_ix k)).toInt))] 50
        refine ld_ifb_ne O (pc := 50) 56 dX2_cell_50 (by decide) (fun c5 => ?_) (fun c5 => ?_)
        · refine ld_iload O (pc := 56) 0 dX2_cell_56 rfl ?_
          refine ld_if_eq O (pc := 58) (ld_fa (σ 131 (ld_ix k)) (σ 130 (ld_ix k)) lane).toInt rfl 71 dX2_cell_58 (by decide) (fun c6 => ?_) (fun z => absurd c3 z)
          have hs1_ := hS _ hk_k
          obtain ⟨ek_i, hk_i, ik_i⟩ := ld_ofIx (k := i) (h := 61) (by omega)
          rw [ek_i]
          refine ld_aload O (pc := 71) 1 dX2_cell_71 rfl ?_
          refine ld_g_S_cellsN O (pc := 73) (by omega) (List.mem_of_getElem? (i := 11) rfl) dX2_cell_73 ?_
          refine ld_iload_n O (pc := 76) 4 dX2_cell_76 rfl rfl ?_
          refine ld_iald O (pc := 77) (16 + (ld_ix k)) (ld_ix i) (v := σ (16 + (ld_ix k)) (ld_ix i)) rfl (by omega) (by have := hS _ hk_k; rw [ld_lenS hk_k]; omega) (by simp (disch := omega) only [us_ne, us_eq]) dX2_cell_77 ?_
          have hl7 : ((σ (16 + (ld_ix k)) (ld_ix i)).toInt64).toInt = (σ (16 + (ld_ix k)) (ld_ix i)).toInt := (Int32.toInt_toInt64 _).trans rfl
          refine ld_i2l O (pc := 78) dX2_cell_78 ?_
          refine ld_lret E dX2_cell_79 ?_
          refine ⟨?_, fun _ => nI 0, ?_, ?_⟩
          · unfold ld_fCe
            repeat' split
            all_goals first | rfl | (exfalso; omega)
          · unfold ld_fCe
            repeat' split
            all_goals first | rfl | (exfalso; omega)
          · funext b_
            by_cases h0_ : b_ = 102
            · subst h0_; first | rfl | (simp (disch := omega) only [us_ne, us_eq]; done)
            simp only [us, h0_, if_false]
        · refine ld_iconst O (pc := 53) (v := nI 3) dX2_cell_53 (by decide) ?_
          refine ld_istore O (pc := 54) [(5, .int (nI 3)), (4, .ref (ad (4 + (ld_ix k)))), (0, .ref (ad 0)), (1, .int (nI (ld_ix k))), (2, .int i), (3, .int lane)] dX2_cell_54 (by decide) rfl ?_
          refine ld_iload O (pc := 56) 0 dX2_cell_56 rfl ?_
          refine ld_if_eq O (pc := 58) 3 (by decide) 71 dX2_cell_58 (by decide) (fun z => absurd z (by decide)) (fun _ => ?_)
          refine ld_aload_n O (pc := 61) 2 dX2_cell_61 rfl rfl ?_
          refine ld_iload O (pc := 62) 0 dX2_cell_62 rfl ?_
          refine ld_p_LD_lastFault O (pc := 64) ld_w24 dX2_cell_64 ?_
          refine ld_ldc2 O (pc := 67) (v := (-9223372036854775808 : Int64)) dX2_cell_67 ld_w492 ?_
          refine ld_lret E dX2_cell_70 ?_
          refine ⟨?_, fun _ => nI 3, ?_, ?_⟩
          · unfold ld_fCe
            repeat' split
            all_goals first | rfl | (exfalso; omega)
          · unfold ld_fCe
            repeat' split
            all_goals first | rfl | (exfalso; omega)
          · funext b_
            by_cases h0_ : b_ = 102
            · subst h0_; first | rfl | (simp (disch := omega) only [us_ne, us_eq]; done)
            simp only [us, h0_, if_false]
    · refine ld_ldc2 O (pc := 19) (v := (-9223372036854775808 : Int64)) dX2_cell_19 ld_w492 ?_
      refine ld_lret E dX2_cell_22 ?_
      refine ⟨?_, fun _ => nI 0, ?_, ?_⟩
      · unfold ld_fCe
        repeat' split
        all_goals first | rfl | (exfalso; omega)
      · unfold ld_fCe
        repeat' split
        all_goals first | rfl | (exfalso; omega)
      · funext b_
        by_cases h0_ : b_ = 102
        · subst h0_; first | rfl | (simp (disch := omega) only [us_ne, us_eq]; done)
        simp only [us, h0_, if_false]
set_option maxHeartbeats 4000000 in
set_option maxRecDepth 100000 in
theorem c_X2_copy (l : Launch) (ad : Nat → Nat) (σ : ld_St) (hS : ∀ x, x < 4 → -1 ≤ (σ 131 x).toInt ∧ (σ 131 x).toInt ≤ 60) (k i o j n : Int32) : ld_Ctr l yX2_copy cX2_copy 8 (some .int) (1, 40) [.ref (ad 0), .int k, .int i, .int o, .int j, .int n] ad σ (ld_I (fun (r : Int32) (σ2 : ld_St) => r = (ld_fCp (σ 131) (σ 130) k i o j n).1 ∧ ∃ f : Nat → Int32, f 0 = (ld_fCp (σ 131) (σ 130) k i o j n).2 ∧ ((ld_okCp (σ 131) (σ 130) k i o j n ∧ σ2 = us (us σ 102 f) (16 + ld_ix o) (va_cpy (σ (16 + ld_ix k)) (σ (16 + ld_ix o)) (ld_ix i) (ld_ix j) (ld_ix n))) ∨ (¬ ld_okCp (σ 131) (σ 130) k i o j n ∧ σ2 = us σ 102 f)))) := by
  refine ld_entry (by decide +kernel) (Nat.le_of_ble_eq_true rfl) (fun K O E => ?_)
  have O : ld_Ok l K ad cX2_copy 8 RX2 (ld_rm (1, 40)) := O
  show K σ [(0, .ref (ad 0)), (1, .int k), (2, .int i), (3, .int o), (4, .int j), (5, .int n)] [] 0
  refine ld_aload_n O (pc := 0) 0 dX2_copy_0 rfl rfl ?_
  refine ld_iconst O (pc := 1) (v := nI 0) dX2_copy_1 (by decide) ?_
  refine ld_p_LD_lastFault O (pc := 2) ld_w24 dX2_copy_2 ?_
  refine ld_iload_n O (pc := 5) 1 dX2_copy_5 rfl rfl ?_
  refine ld_callSi O (pc := 6) (As := [.int k]) (st := []) (c_X2_isSheet l ad (us σ 102 (fun _ => nI 0)) k) ld_mw_X2_isSheet ld_w73 rfl rfl ⟨by decide, by decide⟩ (Nat.le_of_ble_eq_true rfl) dX2_copy_6 (fun r_p6 σ_p6 h_p6 => ?_)
  obtain ⟨rfl, hσ_p6⟩ := h_p6
  rw [hσ_p6]
  show K (us σ 102 (fun _ => nI 0)) [(0, .ref (ad 0)), (1, .int k), (2, .int i), (3, .int o), (4, .int j), (5, .int n)] [.int (ld_b (0 ≤ (k).toInt ∧ (k).toInt < 4))] 9
  refine ld_ifb_eq O (pc := 9) 19 dX2_copy_9 (by decide) (fun c1 => ?_) (fun c1 => ?_)
  · refine ld_iconst O (pc := 19) (v := (-1 : Int32)) dX2_copy_19 (by decide) ?_
    refine ld_ireti E dX2_copy_20 ?_
    refine ⟨?_, fun _ => nI 0, ?_, Or.inr ⟨?_, ?_⟩⟩
    · unfold ld_fCp
      repeat' split
      all_goals first | rfl | (exfalso; omega)
    · unfold ld_fCp
      repeat' split
      all_goals first | rfl | (exfalso; omega)
    · exact fun z => by have z1 := z.1; have z2 := z.2.1; have z3 := z.2.2.1; have z4 := z.2.2.2.1; have z5 := z.2.2.2.2; omega
    · funext b_
      by_cases h0_ : b_ = 102
      · subst h0_; first | rfl | (simp (disch := omega) only [us_ne, us_eq]; done)
      simp only [us, h0_, if_false]
  · obtain ⟨ek_k, hk_k, ik_k⟩ := ld_ofIx (k := k) (h := 4) (by omega)
    rw [ek_k]
    refine ld_iload_n O (pc := 12) 3 dX2_copy_12 rfl rfl ?_
    refine ld_callSi O (pc := 13) (As := [.int o]) (st := []) (c_X2_isSheet l ad (us σ 102 (fun _ => nI 0)) o) ld_mw_X2_isSheet ld_w73 rfl rfl ⟨by decide, by decide⟩ (Nat.le_of_ble_eq_true rfl) dX2_copy_13 (fun r_p13 σ_p13 h_p13 => ?_)
    obtain ⟨rfl, hσ_p13⟩ := h_p13
    rw [hσ_p13]
    show K (us σ 102 (fun _ => nI 0)) [(0, .ref (ad 0)), (1, .int (nI (ld_ix k))), (2, .int i), (3, .int o), (4, .int j), (5, .int n)] [.int (ld_b (0 ≤ (o).toInt ∧ (o).toInt < 4))] 16
    refine ld_ifb_ne O (pc := 16) 21 dX2_copy_16 (by decide) (fun c2 => ?_) (fun c2 => ?_)
    · obtain ⟨ek_o, hk_o, ik_o⟩ := ld_ofIx (k := o) (h := 4) (by omega)
      rw [ek_o]
      refine ld_aload_n O (pc := 21) 0 dX2_copy_21 rfl rfl ?_
      refine ld_g_LD_sheets O (pc := 22) ld_w18 dX2_copy_22 ?_
      refine ld_iload_n O (pc := 25) 1 dX2_copy_25 rfl rfl ?_
      refine ld_aald O (pc := 26) (ld_ix k) rfl (by omega) dX2_copy_26 ?_
      refine ld_astore O (pc := 27) [(6, .ref (ad (4 + (ld_ix k)))), (0, .ref (ad 0)), (1, .int (nI (ld_ix k))), (2, .int i), (3, .int (nI (ld_ix o))), (4, .int j), (5, .int n)] dX2_copy_27 (by decide) rfl ?_
      refine ld_aload_n O (pc := 29) 1 dX2_copy_29 rfl rfl ?_
      refine ld_g_LD_sheets O (pc := 30) ld_w18 dX2_copy_30 ?_
      refine ld_iload_n O (pc := 33) 4 dX2_copy_33 rfl rfl ?_
      refine ld_aald O (pc := 34) (ld_ix o) rfl (by omega) dX2_copy_34 ?_
      refine ld_astore O (pc := 35) [(7, .ref (ad (4 + (ld_ix o)))), (6, .ref (ad (4 + (ld_ix k)))), (0, .ref (ad 0)), (1, .int (nI (ld_ix k))), (2, .int i), (3, .int (nI (ld_ix o))), (4, .int j), (5, .int n)] dX2_copy_35 (by decide) rfl ?_
      refine ld_aload O (pc := 37) 1 dX2_copy_37 rfl ?_
      refine ld_callVNi O (pc := 39) (As := []) (st := []) (ld_recvS (by omega)) (c_X0_isThere l ad (us σ 102 (fun _ => nI 0)) (ld_ix k) (by omega)) ld_mw_X0_isThere (List.mem_of_getElem? (i := 30) rfl) rfl rfl ⟨by decide, by decide⟩ (Nat.le_of_ble_eq_true rfl) dX2_copy_39 (fun r_p39 σ_p39 h_p39 => ?_)
      obtain ⟨rfl, hσ_p39⟩ := h_p39
      rw [hσ_p39]
      show K (us σ 102 (fun _ => nI 0)) [(7, .ref (ad (4 + (ld_ix o)))), (6, .ref (ad (4 + (ld_ix k)))), (0, .ref (ad 0)), (1, .int (nI (ld_ix k))), (2, .int i), (3, .int (nI (ld_ix o))), (4, .int j), (5, .int n)] [.int (ld_b (¬ (σ 131 (ld_ix k)).toInt = (-1)))] 42
      refine ld_ifb_eq O (pc := 42) 53 dX2_copy_42 (by decide) (fun c3 => ?_) (fun c3 => ?_)
      · refine ld_aload_n O (pc := 53) 2 dX2_copy_53 rfl rfl ?_
        refine ld_iconst O (pc := 54) (v := nI 1) dX2_copy_54 (by decide) ?_
        refine ld_callVi O (pc := 55) (As := [.int (nI 1)]) (st := []) ld_recv0 (c_X2_fails l ad (us σ 102 (fun _ => nI 0)) (nI 1)) ld_mw_X2_fails ld_w89 rfl rfl ⟨by decide, by decide⟩ (Nat.le_of_ble_eq_true rfl) dX2_copy_55 (fun r_p55 σ_p55 h_p55 => ?_)
        obtain ⟨rfl, hσ_p55⟩ := h_p55
        rw [hσ_p55]
        show K (us (us σ 102 (fun _ => nI 0)) 102 (fun _ => nI 1)) [(7, .ref (ad (4 + (ld_ix o)))), (6, .ref (ad (4 + (ld_ix k)))), (0, .ref (ad 0)), (1, .int (nI (ld_ix k))), (2, .int i), (3, .int (nI (ld_ix o))), (4, .int j), (5, .int n)] [.int ((-10 : Int32) - (nI 1))] 58
        refine ld_ireti E dX2_copy_58 ?_
        refine ⟨?_, fun _ => nI 1, ?_, Or.inr ⟨?_, ?_⟩⟩
        · unfold ld_fCp
          repeat' split
          all_goals first | rfl | (exfalso; omega)
        · unfold ld_fCp
          repeat' split
          all_goals first | rfl | (exfalso; omega)
        · exact fun z => by have z1 := z.1; have z2 := z.2.1; have z3 := z.2.2.1; have z4 := z.2.2.2.1; have z5 := z.2.2.2.2; omega
        · funext b_
          by_cases h0_ : b_ = 102
          · subst h0_; first | rfl | (simp (disch := omega) only [us_ne, us_eq]; done)
          simp only [us, h0_, if_false]
      · refine ld_aload O (pc := 45) 0 dX2_copy_45 rfl ?_
        refine ld_callVNi O (pc := 47) (As := []) (st := []) (ld_recvS (by omega)) (c_X0_isThere l ad (us σ 102 (fun _ => nI 0)) (ld_ix o) (by omega)) ld_mw_X0_isThere (List.mem_of_getElem? (i := 30) rfl) rfl rfl ⟨by decide, by decide⟩ (Nat.le_of_ble_eq_true rfl) dX2_copy_47 (fun r_p47 σ_p47 h_p47 => ?_)
        obtain ⟨rfl, hσ_p47⟩ := h_p47
        rw [hσ_p47]
        show K (us σ 102 (fun _ => nI 0)) [(7, .ref (ad (4 + (ld_ix o)))), (6, .ref (ad (4 + (ld_ix k)))), (0, .ref (ad 0)), (1, .int (nI (ld_ix k))), (2, .int i), (3, .int (nI (ld_ix o))), (4, .int j), (5, .int n)] [.int (ld_b (¬ (σ 131 (ld_ix o)).toInt = (-1)))] 50
        refine ld_ifb_ne O (pc := 50) 59 dX2_copy_50 (by decide) (fun c4 => ?_) (fun c4 => ?_)
        · refine ld_aload O (pc := 59) 1 dX2_copy_59 rfl ?_
          refine ld_g_S_laneN O (pc := 61) (v := (σ 130) (ld_ix k)) (by omega) (List.mem_of_getElem? (i := 12) rfl) rfl dX2_copy_61 ?_
          refine ld_aload O (pc := 64) 0 dX2_copy_64 rfl ?_
          refine ld_g_S_laneN O (pc := 66) (v := (σ 130) (ld_ix o)) (by omega) (List.mem_of_getElem? (i := 12) rfl) rfl dX2_copy_66 ?_
          refine ld_icmp_eq O (pc := 69) ((σ 130) (ld_ix k)).toInt ((σ 130) (ld_ix o)).toInt rfl rfl 78 dX2_copy_69 (by decide) (fun c5 => ?_) (fun c5 => ?_)
          · refine ld_aload O (pc := 78) 1 dX2_copy_78 rfl ?_
            refine ld_iload_n O (pc := 80) 4 dX2_copy_80 rfl rfl ?_
            refine ld_iload O (pc := 81) 7 dX2_copy_81 rfl ?_
            refine ld_callVNi O (pc := 83) (As := [.int i, .int n]) (st := []) (ld_recvS (by omega)) (c_X0_lacks l ad (us σ 102 (fun _ => nI 0)) (ld_ix k) (by omega) (show 0 ≤ (σ 131 (ld_ix k)).toInt by have := hS _ (show (ld_ix k) < 4 by omega); omega) (show (σ 131 (ld_ix k)).toInt ≤ 60 by have := hS _ (show (ld_ix k) < 4 by omega); omega) i n) ld_mw_X0_lacks (List.mem_of_getElem? (i := 15) rfl) rfl rfl ⟨by decide, by decide⟩ (Nat.le_of_ble_eq_true rfl) dX2_copy_83 (fun r_p83 σ_p83 h_p83 => ?_)
            obtain ⟨rfl, hσ_p83⟩ := h_p83
            rw [hσ_p83]
            show K (us σ 102 (fun _ => nI 0)) [(7, .ref (ad (4 + (ld_ix o)))), (6, .ref (ad (4 + (ld_ix k)))), (0, .ref (ad 0)), (1, .int (nI (ld_ix k))), (2, .int i), (3, .int (nI (ld_ix o))), (4, .int j), (5, .int n)] [.int (ld_b ((i).toInt < 0 ∨ (n).toInt < 0 ∨ (σ 131 (ld_ix k)).toInt < (i).toInt + (n).toInt))] 86
            refine ld_ifb_ne O (pc := 86) 101 dX2_copy_86 (by decide) (fun c6 => ?_) (fun c6 => ?_)
            · refine ld_aload_n O (pc := 101) 2 dX2_copy_101 rfl rfl ?_
              refine ld_iconst O (pc := 102) (v := nI 3) dX2_copy_102 (by decide) ?_
              refine ld_callVi O (pc := 103) (As := [.int (nI 3)]) (st := []) ld_recv0 (c_X2_fails l ad (us σ 102 (fun _ => nI 0)) (nI 3)) ld_mw_X2_fails ld_w89 rfl rfl ⟨by decide, by decide⟩ (Nat.le_of_ble_eq_true rfl) dX2_copy_103 (fun r_p103 σ_p103 h_p103 => ?_)
              obtain ⟨rfl, hσ_p103⟩ := h_p103
              rw [hσ_p103]
              show K (us (us σ 102 (fun _ => nI 0)) 102 (fun _ => nI 3)) [(7, .ref (ad (4 + (ld_ix o)))), (6, .ref (ad (4 + (ld_ix k)))), (0, .ref (ad 0)), (1, .int (nI (ld_ix k))), (2, .int i), (3, .int (nI (ld_ix o))), (4, .int j), (5, .int n)] [.int ((-10 : Int32) - (nI 3))] 106
              refine ld_ireti E dX2_copy_106 ?_
              refine ⟨?_, fun _ => nI 3, ?_, Or.inr ⟨?_, ?_⟩⟩
              · unfold ld_fCp
                repeat' split
                all_goals first | rfl | (exfalso; omega)
              · unfold ld_fCp
                repeat' split
                all_goals first | rfl | (exfalso; omega)
              · exact fun z => by have z1 := z.1; have z2 := z.2.1; have z3 := z.2.2.1; have z4 := z.2.2.2.1; have z5 := z.2.2.2.2; omega
              · funext b_
                by_cases h0_ : b_ = 102
                · subst h0_; first | rfl | (simp (disch := omega) only [us_ne, us_eq]; done)
                simp only [us, h0_, if_false]
            · refine ld_aload O (pc := 89) 0 dX2_copy_89 rfl ?_
              refine ld_iload O (pc := 91) 6 dX2_copy_91 rfl ?_
              refine ld_iload O (pc := 93) 7 dX2_copy_93 rfl ?_
              refine ld_callVNi O (pc := 95) (As := [.int j, .int n]) (st := []) (ld_recvS (by omega)) (c_X0_lacks l ad (us σ 102 (fun _ => nI 0)) (ld_ix o) (by omega) (show 0 ≤ (σ 131 (ld_ix o)).toInt by have := hS _ (show (ld_ix o) < 4 by omega); omega) (show (σ 131 (ld_ix o)).toInt ≤ 60 by have := hS _ (show (ld_ix o) < 4 by omega); omega) j n) ld_mw_X0_lacks (List.mem_of_getElem? (i := 15) rfl) rfl rfl ⟨by decide, by decide⟩ (Nat.le_of_ble_eq_true rfl) dX2_copy_95 (fun r_p95 σ_p95 h_p95 => ?_)
              obtain ⟨rfl, hσ_p95⟩ := h_p95
              rw [hσ_p95]
              show K (us σ 102 (fun _ => nI 0)) [(7, .ref (ad (4 + (ld_ix o)))), (6, .ref (ad (4 + (ld_ix k)))), (0, .ref (ad 0)), (1, .int (nI (ld_ix k))), (2, .int i), (3, .int (nI (ld_ix o))), (4, .int j), (5, .int n)] [.int (ld_b ((j).toInt < 0 ∨ (n).toInt < 0 ∨ (σ 131 (ld_ix o)).toInt < (j).toInt + (n).toInt))] 98
              refine ld_ifb_eq O (pc := 98) 107 dX2_copy_98 (by decide) (fun c7 => ?_) (fun c7 => ?_)
              · have hs1_ := hS _ hk_k
                have hs2_ := hS _ hk_o
                obtain ⟨ek_i, hk_i, ik_i⟩ := ld_ofIx (k := i) (h := 61) (by omega)
                rw [ek_i]
                obtain ⟨ek_j, hk_j, ik_j⟩ := ld_ofIx (k := j) (h := 61) (by omega)
                rw [ek_j]
                obtain ⟨ek_n, hk_n, ik_n⟩ := ld_ofIx (k := n) (h := 61) (by omega)
                rw [ek_n]
                refine ld_aload O (pc := 107) 1 dX2_copy_107 rfl ?_
                refine ld_g_S_cellsN O (pc := 109) (by omega) (List.mem_of_getElem? (i := 11) rfl) dX2_copy_109 ?_
                refine ld_iload_n O (pc := 112) 4 dX2_copy_112 rfl rfl ?_
                refine ld_aload O (pc := 113) 0 dX2_copy_113 rfl ?_
                refine ld_g_S_cellsN O (pc := 115) (by omega) (List.mem_of_getElem? (i := 11) rfl) dX2_copy_115 ?_
                refine ld_iload O (pc := 118) 6 dX2_copy_118 rfl ?_
                refine ld_iload O (pc := 120) 7 dX2_copy_120 rfl ?_
                refine ld_acopy O (pc := 122) (16 + (ld_ix k)) (16 + (ld_ix o)) (ld_ix i) (ld_ix j) (ld_ix n) (by omega) (by omega) (by rw [ld_lenS hk_k]; omega) (by rw [ld_lenS hk_o]; omega) (σ (16 + (ld_ix k))) (σ (16 + (ld_ix o))) (by first | rfl | (simp (disch := omega) only [us_ne, us_eq]; done)) (by first | rfl | (simp (disch := omega) only [us_ne, us_eq]; done)) (by decide) (by decide) ld_w558 dX2_copy_122 ?_
                refine ld_iload O (pc := 125) 7 dX2_copy_125 rfl ?_
                refine ld_ireti E dX2_copy_127 ?_
                refine ⟨?_, fun _ => nI 0, ?_, Or.inl ⟨⟨by omega, by omega, by omega, by omega, by omega⟩, rfl⟩⟩
                · rw [← ek_n]
                  unfold ld_fCp
                  repeat' split
                  all_goals first | rfl | (exfalso; omega)
                · unfold ld_fCp
                  repeat' split
                  all_goals first | rfl | (exfalso; omega)
              · refine ld_aload_n O (pc := 101) 2 dX2_copy_101 rfl rfl ?_
                refine ld_iconst O (pc := 102) (v := nI 3) dX2_copy_102 (by decide) ?_
                refine ld_callVi O (pc := 103) (As := [.int (nI 3)]) (st := []) ld_recv0 (c_X2_fails l ad (us σ 102 (fun _ => nI 0)) (nI 3)) ld_mw_X2_fails ld_w89 rfl rfl ⟨by decide, by decide⟩ (Nat.le_of_ble_eq_true rfl) dX2_copy_103 (fun r_p103 σ_p103 h_p103 => ?_)
                obtain ⟨rfl, hσ_p103⟩ := h_p103
                rw [hσ_p103]
                show K (us (us σ 102 (fun _ => nI 0)) 102 (fun _ => nI 3)) [(7, .ref (ad (4 + (ld_ix o)))), (6, .ref (ad (4 + (ld_ix k)))), (0, .ref (ad 0)), (1, .int (nI (ld_ix k))), (2, .int i), (3, .int (nI (ld_ix o))), (4, .int j), (5, .int n)] [.int ((-10 : Int32) - (nI 3))] 106
                refine ld_ireti E dX2_copy_106 ?_
                refine ⟨?_, fun _ => nI 3, ?_, Or.inr ⟨?_, ?_⟩⟩
                · unfold ld_fCp
                  repeat' split
                  all_goals first | rfl | (exfalso; omega)
                · unfold ld_fCp
                  repeat' split
                  all_goals first | rfl | (exfalso; omega)
                · exact fun z => by have z1 := z.1; have z2 := z.2.1; have z3 := z.2.2.1; have z4 := z.2.2.2.1; have z5 := z.2.2.2.2; omega
                · funext b_
                  by_cases h0_ : b_ = 102
                  · subst h0_; first | rfl | (simp (disch := omega) only [us_ne, us_eq]; done)
                  simp only [us, h0_, if_false]
          · refine ld_aload_n O (pc := 72) 2 dX2_copy_72 rfl rfl ?_
            refine ld_iconst O (pc := 73) (v := nI 2) dX2_copy_73 (by decide) ?_
            refine ld_callVi O (pc := 74) (As := [.int (nI 2)]) (st := []) ld_recv0 (c_X2_fails l ad (us σ 102 (fun _ => nI 0)) (nI 2)) ld_mw_X2_fails ld_w89 rfl rfl ⟨by decide, by decide⟩ (Nat.le_of_ble_eq_true rfl) dX2_copy_74 (fun r_p74 σ_p74 h_p74 => ?_)
            obtain ⟨rfl, hσ_p74⟩ := h_p74
            rw [hσ_p74]
            show K (us (us σ 102 (fun _ => nI 0)) 102 (fun _ => nI 2)) [(7, .ref (ad (4 + (ld_ix o)))), (6, .ref (ad (4 + (ld_ix k)))), (0, .ref (ad 0)), (1, .int (nI (ld_ix k))), (2, .int i), (3, .int (nI (ld_ix o))), (4, .int j), (5, .int n)] [.int ((-10 : Int32) - (nI 2))] 77
            refine ld_ireti E dX2_copy_77 ?_
            refine ⟨?_, fun _ => nI 2, ?_, Or.inr ⟨?_, ?_⟩⟩
            · unfold ld_fCp
              repeat' split
              all_goals first | rfl | (exfalso; omega)
            · unfold ld_fCp
              repeat' split
              all_goals first | rfl | (exfalso; omega)
            · exact fun z => by have z1 := z.1; have z2 := z.2.1; have z3 := z.2.2.1; have z4 := z.2.2.2.1; have z5 := z.2.2.2.2; omega
            · funext b_
              by_cases h0_ : b_ = 102
              · subst h0_; first | rfl | (simp (disch := omega) only [us_ne, us_eq]; done)
              simp only [us, h0_, if_false]
        · refine ld_aload_n O (pc := 53) 2 dX2_copy_53 rfl rfl ?_
          refine ld_iconst O (pc := 54) (v := nI 1) dX2_copy_54 (by decide) ?_
          refine ld_callVi O (pc := 55) (As := [.int (nI 1)]) (st := []) ld_recv0 (c_X2_fails l ad (us σ 102 (fun _ => nI 0)) (nI 1)) ld_mw_X2_fails ld_w89 rfl rfl ⟨by decide, by decide⟩ (Nat.le_of_ble_eq_true rfl) dX2_copy_55 (fun r_p55 σ_p55 h_p55 => ?_)
          obtain ⟨rfl, hσ_p55⟩ := h_p55
          rw [hσ_p55]
          show K (us (us σ 102 (fun _ => nI 0)) 102 (fun _ => nI 1)) [(7, .ref (ad (4 + (ld_ix o)))), (6, .ref (ad (4 + (ld_ix k)))), (0, .ref (ad 0)), (1, .int (nI (ld_ix k))), (2, .int i), (3, .int (nI (ld_ix o))), (4, .int j), (5, .int n)] [.int ((-10 : Int32) - (nI 1))] 58
          refine ld_ireti E dX2_copy_58 ?_
          refine ⟨?_, fun _ => nI 1, ?_, Or.inr ⟨?_, ?_⟩⟩
          · unfold ld_fCp
            repeat' split
            all_goals first | rfl | (exfalso; omega)
          · unfold ld_fCp
            repeat' split
            all_goals first | rfl | (exfalso; omega)
          · exact fun z => by have z1 := z.1; have z2 := z.2.1; have z3 := z.2.2.1; have z4 := z.2.2.2.1; have z5 := z.2.2.2.2; omega
          · funext b_
            by_cases h0_ : b_ = 102
            · subst h0_; first | rfl | (simp (disch := omega) only [us_ne, us_eq]; done)
            simp only [us, h0_, if_false]
    · refine ld_iconst O (pc := 19) (v := (-1 : Int32)) dX2_copy_19 (by decide) ?_
      refine ld_ireti E dX2_copy_20 ?_
      refine ⟨?_, fun _ => nI 0, ?_, Or.inr ⟨?_, ?_⟩⟩
      · unfold ld_fCp
        repeat' split
        all_goals first | rfl | (exfalso; omega)
      · unfold ld_fCp
        repeat' split
        all_goals first | rfl | (exfalso; omega)
      · exact fun z => by have z1 := z.1; have z2 := z.2.1; have z3 := z.2.2.1; have z4 := z.2.2.2.1; have z5 := z.2.2.2.2; omega
      · funext b_
        by_cases h0_ : b_ = 102
        · subst h0_; first | rfl | (simp (disch := omega) only [us_ne, us_eq]; done)
        simp only [us, h0_, if_false]
