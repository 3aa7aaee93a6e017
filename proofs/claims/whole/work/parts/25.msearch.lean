theorem ld_z01 {z : Nat} (h : z ≤ 1) : nI z = 0 ∨ nI z = 1 := by
  rcases (show z = 0 ∨ z = 1 by omega) with rfl | rfl
  · exact Or.inl rfl
  · exact Or.inr rfl
theorem ld_hbs {h : Nat} {s : Nat → Int32} {m b : Nat} (hb : b = ld_hb h s (m - 1)) : ((ld_apt h s (2 * m + 1)).toInt < (ld_apt h s b).toInt → 2 * m + 1 = ld_hb h s (m + 1 - 1)) ∧ (¬ (ld_apt h s (2 * m + 1)).toInt < (ld_apt h s b).toInt → b = ld_hb h s (m + 1 - 1)) := by
  cases m with
  | zero => subst hb; exact ⟨fun z => absurd z (by show ¬ (ld_apt h s 1).toInt < (ld_apt h s 1).toInt; omega), fun _ => rfl⟩
  | succ j =>
    subst hb
    show ((ld_apt h s (2 * j + 3)).toInt < (ld_apt h s (ld_hb h s j)).toInt → 2 * j + 3 = ld_hb h s (j + 1)) ∧ (¬ (ld_apt h s (2 * j + 3)).toInt < (ld_apt h s (ld_hb h s j)).toInt → ld_hb h s j = ld_hb h s (j + 1))
    exact ⟨fun z => (if_pos z).symm, fun z => (if_neg z).symm⟩
theorem ld_fi_uq {p : Nat → Prop} {n : Nat} {o : Option Nat} (h1 : ∀ j, o = some j → j < n ∧ p j ∧ ∀ x, x < j → ¬ p x) (h2 : o = none → ∀ x, x < n → ¬ p x) : o = ld_fi p n := by
  cases o with
  | none => exact (ld_fi_of (h2 rfl)).symm
  | some j =>
    obtain ⟨a, b, c⟩ := h1 j rfl
    exact (ld_fi_yes (ld_fi_of c) b a).symm
theorem ld_gz {y : Nat} (hy : y < 2 ^ 31) (h : ¬ ((y : Nat) : Int) = 0) : ¬ lN y = 0 := fun z => by
  have e := congrArg Int64.toInt z
  rw [lN_toInt hy] at e
  exact h e
set_option maxHeartbeats 4000000 in
set_option maxRecDepth 100000 in
theorem c_X3_apart (l : Launch) (ad : Nat → Nat) (σ : ld_St) (h : Nat) (hh : σ 141 0 = nI h) (h8 : h ≤ 8) (hkt : ld_kt h (σ 20) (σ 21)) (set : Int32) : ld_Ctr l yX3_apart cX3_apart 4 (some .int) (1, 22) [.ref (ad 8), .int set] ad σ (ld_I (fun (r : Int32) (σ2 : ld_St) => r = ld_abs (l_sum (ld_sg set (ld_ss (σ 20) (σ 21))) h) ∧ σ2 = σ)) := by
  refine ld_entry (by decide +kernel) (Nat.le_of_ble_eq_true rfl) (fun K O E => ?_)
  have O : ld_Ok l K ad cX3_apart 4 RX3 (ld_rm (1, 22)) := O
  show K σ [(0, .ref (ad 8)), (1, .int set)] [] 0
  refine ld_iconst O (pc := 0) (v := nI 0) dX3_apart_0 (by decide) ?_
  refine ld_istore_n O (pc := 1) [(2, .int (nI 0)), (0, .ref (ad 8)), (1, .int set)] dX3_apart_1 rfl (by decide) rfl ?_
  refine ld_iconst O (pc := 2) (v := nI 0) dX3_apart_2 (by decide) ?_
  refine ld_istore_n O (pc := 3) [(3, .int (nI 0)), (2, .int (nI 0)), (0, .ref (ad 8)), (1, .int set)] dX3_apart_3 rfl (by decide) rfl ?_
  have L4 : ∀ (m_4 : Nat) (i : Nat) (w : Int32), h - i < m_4 → (i ≤ h) → (w = l_sum (ld_sg set (ld_ss (σ 20) (σ 21))) i) → K σ [(0, .ref (ad 8)), (1, .int set), (2, .int w), (3, .int (nI i))] [] 4 := by
    intro m_4
    induction m_4 with
    | zero => intro i w hm_; exact absurd hm_ (Nat.not_lt_zero _)
    | succ m_4 ih4 =>
      intro i w hm_4 hi hw
      refine ld_iload_n O (pc := 4) 3 dX3_apart_4 rfl rfl ?_
      refine ld_aload_n O (pc := 5) 0 dX3_apart_5 rfl rfl ?_
      refine ld_g_M_houses O (pc := 6) (v := nI h) ld_w119 hh dX3_apart_6 ?_
      refine ld_icmp_ge O (pc := 9) ((i : Nat) : Int) ((h : Nat) : Int) (nI_toInt (by omega)) (nI_toInt (by omega)) 43 dX3_apart_9 (by decide) (fun c1 => ?_) (fun c1 => ?_)
      · refine ld_iload_n O (pc := 43) 2 dX3_apart_43 rfl rfl ?_
        refine ld_if_ge O (pc := 44) (w).toInt rfl 52 dX3_apart_44 (by decide) (fun c2 => ?_) (fun c2 => ?_)
        · refine ld_iload_n O (pc := 52) 2 dX3_apart_52 rfl rfl ?_
          refine ld_ireti E dX3_apart_53 ?_
          refine ⟨?_, rfl⟩
          rw [show i = h by omega] at hw
          rw [← hw]
          unfold ld_abs
          first | exact (if_pos (Int32.le_iff_toInt_le.mpr (by show (0 : Int32).toInt ≤ _; rw [ld_zi]; omega))).symm | (rw [if_neg (fun z => by have z2 := Int32.le_iff_toInt_le.mp z; rw [ld_zi] at z2; omega)]; exact (Int32.zero_sub _).symm)
        · refine ld_iload_n O (pc := 47) 2 dX3_apart_47 rfl rfl ?_
          refine ld_ineg O (pc := 48) dX3_apart_48 ?_
          refine ld_goto O (pc := 49) 53 dX3_apart_49 (by decide) ?_
          refine ld_ireti E dX3_apart_53 ?_
          refine ⟨?_, rfl⟩
          rw [show i = h by omega] at hw
          rw [← hw]
          unfold ld_abs
          first | exact (if_pos (Int32.le_iff_toInt_le.mpr (by show (0 : Int32).toInt ≤ _; rw [ld_zi]; omega))).symm | (rw [if_neg (fun z => by have z2 := Int32.le_iff_toInt_le.mp z; rw [ld_zi] at z2; omega)]; exact (Int32.zero_sub _).symm)
      · refine ld_iload_n O (pc := 12) 2 dX3_apart_12 rfl rfl ?_
        refine ld_iload_n O (pc := 13) 1 dX3_apart_13 rfl rfl ?_
        refine ld_iload_n O (pc := 14) 3 dX3_apart_14 rfl rfl ?_
        refine ld_callSi O (pc := 15) (As := [.int set, .int (nI i)]) (st := [.int w]) (c_X3_isIn l ad σ set i) ld_mw_X3_isIn ld_w437 rfl rfl ⟨by decide, by decide⟩ (Nat.le_of_ble_eq_true rfl) dX3_apart_15 (fun r_p15 σ_p15 h_p15 => ?_)
        obtain ⟨rfl, hσ_p15⟩ := h_p15
        rw [hσ_p15]
        show K σ [(0, .ref (ad 8)), (1, .int set), (2, .int w), (3, .int (nI i))] [.int (ld_b (((set >>> (nI i &&& 31)) &&& nI 1).toInt = 1)), .int w] 18
        refine ld_ifb_eq O (pc := 18) 29 dX3_apart_18 (by decide) (fun c3 => ?_) (fun c3 => ?_)
        · refine ld_aload_n O (pc := 29) 0 dX3_apart_29 rfl rfl ?_
          refine ld_iload_n O (pc := 30) 3 dX3_apart_30 rfl rfl ?_
          refine ld_callVi O (pc := 31) (As := [.int (nI i)]) (st := [.int w]) ld_recv8 (c_X3_sourOf l ad σ i (by omega) (hkt _ (by omega)).1) ld_mw_X3_sourOf ld_w198 rfl rfl ⟨by decide, by decide⟩ (Nat.le_of_ble_eq_true rfl) dX3_apart_31 (fun r_p31 σ_p31 h_p31 => ?_)
          obtain ⟨rfl, hσ_p31⟩ := h_p31
          rw [hσ_p31]
          show K σ [(0, .ref (ad 8)), (1, .int set), (2, .int w), (3, .int (nI i))] [.int (ld_sr (σ 20 i) (σ 21 i)), .int w] 34
          refine ld_ineg O (pc := 34) dX3_apart_34 ?_
          refine ld_iadd O (pc := 35) dX3_apart_35 ?_
          refine ld_istore_n O (pc := 36) [(2, .int (w + (-(ld_sr (σ 20 i) (σ 21 i))))), (0, .ref (ad 8)), (1, .int set), (3, .int (nI i))] dX3_apart_36 rfl (by decide) rfl ?_
          refine ld_iincN O (pc := 37) [(3, .int (nI (i + 1))), (2, .int (w + (-(ld_sr (σ 20 i) (σ 21 i))))), (0, .ref (ad 8)), (1, .int set)] 3 dX3_apart_37 rfl (by decide) rfl ?_
          refine ld_goto O (pc := 40) 4 dX3_apart_40 (by decide) ?_
          refine ld_less O [2, 3, 1, 0] (lv2 := [(0, .ref (ad 8)), (1, .int set), (2, .int (w + (-(ld_sr (σ 20 i) (σ 21 i))))), (3, .int (nI (i + 1)))]) rfl ?_
          exact ih4 (i + 1) (w + (-(ld_sr (σ 20 i) (σ 21 i)))) (by omega) (by omega) (by rw [hw]; show _ = l_sum _ i + ld_sg _ _ i; unfold ld_sg; first | (rw [if_pos c3]; rfl) | (rw [if_neg c3]; rfl))
        · refine ld_aload_n O (pc := 21) 0 dX3_apart_21 rfl rfl ?_
          refine ld_iload_n O (pc := 22) 3 dX3_apart_22 rfl rfl ?_
          refine ld_callVi O (pc := 23) (As := [.int (nI i)]) (st := [.int w]) ld_recv8 (c_X3_sourOf l ad σ i (by omega) (hkt _ (by omega)).1) ld_mw_X3_sourOf ld_w198 rfl rfl ⟨by decide, by decide⟩ (Nat.le_of_ble_eq_true rfl) dX3_apart_23 (fun r_p23 σ_p23 h_p23 => ?_)
          obtain ⟨rfl, hσ_p23⟩ := h_p23
          rw [hσ_p23]
          show K σ [(0, .ref (ad 8)), (1, .int set), (2, .int w), (3, .int (nI i))] [.int (ld_sr (σ 20 i) (σ 21 i)), .int w] 26
          refine ld_goto O (pc := 26) 35 dX3_apart_26 (by decide) ?_
          refine ld_iadd O (pc := 35) dX3_apart_35 ?_
          refine ld_istore_n O (pc := 36) [(2, .int (w + (ld_sr (σ 20 i) (σ 21 i)))), (0, .ref (ad 8)), (1, .int set), (3, .int (nI i))] dX3_apart_36 rfl (by decide) rfl ?_
          refine ld_iincN O (pc := 37) [(3, .int (nI (i + 1))), (2, .int (w + (ld_sr (σ 20 i) (σ 21 i)))), (0, .ref (ad 8)), (1, .int set)] 3 dX3_apart_37 rfl (by decide) rfl ?_
          refine ld_goto O (pc := 40) 4 dX3_apart_40 (by decide) ?_
          refine ld_less O [2, 3, 1, 0] (lv2 := [(0, .ref (ad 8)), (1, .int set), (2, .int (w + (ld_sr (σ 20 i) (σ 21 i)))), (3, .int (nI (i + 1)))]) rfl ?_
          exact ih4 (i + 1) (w + (ld_sr (σ 20 i) (σ 21 i))) (by omega) (by omega) (by rw [hw]; show _ = l_sum _ i + ld_sg _ _ i; unfold ld_sg; first | (rw [if_pos c3]; rfl) | (rw [if_neg c3]; rfl))
  refine ld_less O [2, 3, 1, 0] (lv2 := [(0, .ref (ad 8)), (1, .int set), (2, .int (nI 0)), (3, .int (nI 0))]) rfl ?_
  exact L4 _ 0 (nI 0) (Nat.lt_succ_self _) (Nat.zero_le _) rfl
set_option maxHeartbeats 4000000 in
set_option maxRecDepth 100000 in
theorem c_X3_halves (l : Launch) (ad : Nat → Nat) (σ : ld_St) (h : Nat) (hh : σ 141 0 = nI h) (h8 : h ≤ 8) (hkt : ld_kt h (σ 20) (σ 21)) (what : Int32) : ld_Ctr l yX3_halves cX3_halves 4 (some .int) (2, 45) [.ref (ad 8), .int what] ad σ (ld_I (fun (r : Int32) (σ2 : ld_St) => r = ld_fHa h (ld_ss (σ 20) (σ 21)) what ∧ σ2 = σ)) := by
  refine ld_entry (by decide +kernel) (Nat.le_of_ble_eq_true rfl) (fun K O E => ?_)
  have O : ld_Ok l K ad cX3_halves 4 RX3 (ld_rm (2, 45)) := O
  show K σ [(0, .ref (ad 8)), (1, .int what)] [] 0
  refine ld_aload_n O (pc := 0) 0 dX3_halves_0 rfl rfl ?_
  refine ld_g_M_houses O (pc := 1) (v := nI h) ld_w119 hh dX3_halves_1 ?_
  refine ld_if_ne O (pc := 4) ((h : Nat) : Int) (nI_toInt (by omega)) 10 dX3_halves_4 (by decide) (fun c1 => ?_) (fun c1 => ?_)
  · refine ld_iload_n O (pc := 10) 1 dX3_halves_10 rfl rfl ?_
    have hl2 : (what.toInt64).toInt = (what).toInt := (Int32.toInt_toInt64 _).trans rfl
    refine ld_i2l O (pc := 11) dX3_halves_11 ?_
    refine ld_lconst O (pc := 12) (v := (0 : Int64)) dX3_halves_12 (by decide) ?_
    refine ld_lconst O (pc := 13) (v := (1 : Int64)) dX3_halves_13 (by decide) ?_
    refine ld_callSi O (pc := 14) (As := [.long what.toInt64, .long (0 : Int64), .long (1 : Int64)]) (st := []) (c_X3_in l ad σ what.toInt64 (0 : Int64) (1 : Int64) ((what).toInt) 0 1 hl2 (by decide) (by decide)) ld_mw_X3_in ld_w128 rfl rfl ⟨by decide, by decide⟩ (Nat.le_of_ble_eq_true rfl) dX3_halves_14 (fun r_p14 σ_p14 h_p14 => ?_)
    obtain ⟨rfl, hσ_p14⟩ := h_p14
    rw [hσ_p14]
    show K σ [(0, .ref (ad 8)), (1, .int what)] [.int (ld_b (0 ≤ (what).toInt ∧ (what).toInt ≤ 1))] 17
    refine ld_ifb_ne O (pc := 17) 23 dX3_halves_17 (by decide) (fun c3 => ?_) (fun c3 => ?_)
    · have hp_ := ld_pw2 h8 (by omega)
      refine ld_iconst O (pc := 23) (v := nI 1) dX3_halves_23 (by decide) ?_
      refine ld_istore_n O (pc := 24) [(2, .int (nI 1)), (0, .ref (ad 8)), (1, .int what)] dX3_halves_24 rfl (by decide) rfl ?_
      refine ld_iconst O (pc := 25) (v := nI 1) dX3_halves_25 (by decide) ?_
      refine ld_istore_n O (pc := 26) [(3, .int (nI 1)), (2, .int (nI 1)), (0, .ref (ad 8)), (1, .int what)] dX3_halves_26 rfl (by decide) rfl ?_
      have L27 : ∀ (m_27 : Nat) (m : Nat) (b : Nat), 2 ^ h - (2 * m + 1) < m_27 → (2 * m ≤ 2 ^ h) → (b = ld_hb h (ld_ss (σ 20) (σ 21)) (m - 1)) → K σ [(0, .ref (ad 8)), (1, .int what), (2, .int (nI b)), (3, .int (nI (2 * m + 1)))] [] 27 := by
        intro m_27
        induction m_27 with
        | zero => intro m b hm_; exact absurd hm_ (Nat.not_lt_zero _)
        | succ m_27 ih27 =>
          intro m b hm_27 hm hb
          refine ld_iload_n O (pc := 27) 3 dX3_halves_27 rfl rfl ?_
          refine ld_iconst O (pc := 28) (v := nI 1) dX3_halves_28 (by decide) ?_
          refine ld_aload_n O (pc := 29) 0 dX3_halves_29 rfl rfl ?_
          refine ld_g_M_houses O (pc := 30) (v := nI h) ld_w119 hh dX3_halves_30 ?_
          refine ld_ishl O (pc := 33) dX3_halves_33 ?_
          rw [ld_pw h8]
          refine ld_icmp_ge O (pc := 34) ((2 * m + 1 : Nat) : Int) ((2 ^ h : Nat) : Int) (nI_toInt (by omega)) (nI_toInt (by omega)) 62 dX3_halves_34 (by decide) (fun c4 => ?_) (fun c4 => ?_)
          · refine ld_iload_n O (pc := 62) 1 dX3_halves_62 rfl rfl ?_
            refine ld_if_ne O (pc := 63) (what).toInt rfl 70 dX3_halves_63 (by decide) (fun c5 => ?_) (fun c5 => ?_)
            · refine ld_aload_n O (pc := 70) 0 dX3_halves_70 rfl rfl ?_
              refine ld_iload_n O (pc := 71) 2 dX3_halves_71 rfl rfl ?_
              refine ld_callVi O (pc := 72) (As := [.int (nI b)]) (st := []) ld_recv8 (c_X3_apart l ad σ h hh h8 hkt (nI b)) ld_mw_X3_apart ld_w433 rfl rfl ⟨by decide, by decide⟩ (Nat.le_of_ble_eq_true rfl) dX3_halves_72 (fun r_p72 σ_p72 h_p72 => ?_)
              obtain ⟨rfl, hσ_p72⟩ := h_p72
              rw [hσ_p72]
              show K σ [(0, .ref (ad 8)), (1, .int what), (2, .int (nI b)), (3, .int (nI (2 * m + 1)))] [.int (ld_abs (l_sum (ld_sg (nI b) (ld_ss (σ 20) (σ 21))) h))] 75
              refine ld_ireti E dX3_halves_75 ?_
              refine ⟨?_, rfl⟩
              unfold ld_fHa
              rw [show m - 1 = 2 ^ h / 2 - 1 by omega] at hb
              rw [if_pos (by omega), if_pos (by omega), ← hb]
              first | (rw [if_pos (by omega)]; done) | (rw [if_neg (by omega)]; rfl)
            · refine ld_iload_n O (pc := 66) 2 dX3_halves_66 rfl rfl ?_
              refine ld_goto O (pc := 67) 75 dX3_halves_67 (by decide) ?_
              refine ld_ireti E dX3_halves_75 ?_
              refine ⟨?_, rfl⟩
              unfold ld_fHa
              rw [show m - 1 = 2 ^ h / 2 - 1 by omega] at hb
              rw [if_pos (by omega), if_pos (by omega), ← hb]
              first | (rw [if_pos (by omega)]; done) | (rw [if_neg (by omega)]; rfl)
          · refine ld_aload_n O (pc := 37) 0 dX3_halves_37 rfl rfl ?_
            refine ld_iload_n O (pc := 38) 3 dX3_halves_38 rfl rfl ?_
            refine ld_callVi O (pc := 39) (As := [.int (nI (2 * m + 1))]) (st := []) ld_recv8 (c_X3_apart l ad σ h hh h8 hkt (nI (2 * m + 1))) ld_mw_X3_apart ld_w433 rfl rfl ⟨by decide, by decide⟩ (Nat.le_of_ble_eq_true rfl) dX3_halves_39 (fun r_p39 σ_p39 h_p39 => ?_)
            obtain ⟨rfl, hσ_p39⟩ := h_p39
            rw [hσ_p39]
            show K σ [(0, .ref (ad 8)), (1, .int what), (2, .int (nI b)), (3, .int (nI (2 * m + 1)))] [.int (ld_abs (l_sum (ld_sg (nI (2 * m + 1)) (ld_ss (σ 20) (σ 21))) h))] 42
            refine ld_aload_n O (pc := 42) 0 dX3_halves_42 rfl rfl ?_
            refine ld_iload_n O (pc := 43) 2 dX3_halves_43 rfl rfl ?_
            refine ld_callVi O (pc := 44) (As := [.int (nI b)]) (st := [.int (ld_abs (l_sum (ld_sg (nI (2 * m + 1)) (ld_ss (σ 20) (σ 21))) h))]) ld_recv8 (c_X3_apart l ad σ h hh h8 hkt (nI b)) ld_mw_X3_apart ld_w433 rfl rfl ⟨by decide, by decide⟩ (Nat.le_of_ble_eq_true rfl) dX3_halves_44 (fun r_p44 σ_p44 h_p44 => ?_)
            obtain ⟨rfl, hσ_p44⟩ := h_p44
            rw [hσ_p44]
            show K σ [(0, .ref (ad 8)), (1, .int what), (2, .int (nI b)), (3, .int (nI (2 * m + 1)))] [.int (ld_abs (l_sum (ld_sg (nI b) (ld_ss (σ 20) (σ 21))) h)), .int (ld_abs (l_sum (ld_sg (nI (2 * m + 1)) (ld_ss (σ 20) (σ 21))) h))] 47
            refine ld_icmp_ge O (pc := 47) (ld_abs (l_sum (ld_sg (nI (2 * m + 1)) (ld_ss (σ 20) (σ 21))) h)).toInt (ld_abs (l_sum (ld_sg (nI b) (ld_ss (σ 20) (σ 21))) h)).toInt rfl rfl 54 dX3_halves_47 (by decide) (fun c6 => ?_) (fun c6 => ?_)
            · refine ld_iload_n O (pc := 54) 2 dX3_halves_54 rfl rfl ?_
              refine ld_istore_n O (pc := 55) [(2, .int (nI b)), (0, .ref (ad 8)), (1, .int what), (3, .int (nI (2 * m + 1)))] dX3_halves_55 rfl (by decide) rfl ?_
              refine ld_iincN O (pc := 56) [(3, .int (nI ((2 * m + 1) + 2))), (2, .int (nI b)), (0, .ref (ad 8)), (1, .int what)] 3 dX3_halves_56 rfl (by decide) rfl ?_
              refine ld_goto O (pc := 59) 27 dX3_halves_59 (by decide) ?_
              refine ld_less O [2, 3, 1, 0] (lv2 := [(0, .ref (ad 8)), (1, .int what), (2, .int (nI b)), (3, .int (nI (2 * (m + 1) + 1)))]) rfl ?_
              exact ih27 (m + 1) b (by omega) (by omega) ((ld_hbs hb).2 (by unfold ld_apt; omega))
            · refine ld_iload_n O (pc := 50) 3 dX3_halves_50 rfl rfl ?_
              refine ld_goto O (pc := 51) 55 dX3_halves_51 (by decide) ?_
              refine ld_istore_n O (pc := 55) [(2, .int (nI (2 * m + 1))), (0, .ref (ad 8)), (1, .int what), (3, .int (nI (2 * m + 1)))] dX3_halves_55 rfl (by decide) rfl ?_
              refine ld_iincN O (pc := 56) [(3, .int (nI ((2 * m + 1) + 2))), (2, .int (nI (2 * m + 1))), (0, .ref (ad 8)), (1, .int what)] 3 dX3_halves_56 rfl (by decide) rfl ?_
              refine ld_goto O (pc := 59) 27 dX3_halves_59 (by decide) ?_
              refine ld_less O [2, 3, 1, 0] (lv2 := [(0, .ref (ad 8)), (1, .int what), (2, .int (nI (2 * m + 1))), (3, .int (nI (2 * (m + 1) + 1)))]) rfl ?_
              exact ih27 (m + 1) (2 * m + 1) (by omega) (by omega) ((ld_hbs hb).1 (by unfold ld_apt; omega))
      refine ld_less O [2, 3, 1, 0] (lv2 := [(0, .ref (ad 8)), (1, .int what), (2, .int (nI 1)), (3, .int (nI (2 * 0 + 1)))]) rfl ?_
      exact L27 _ 0 1 (Nat.lt_succ_self _) (by omega) rfl
    · refine ld_bipush O (pc := 20) (v := (-2 : Int32)) dX3_halves_20 (by decide) ?_
      refine ld_ireti E dX3_halves_22 ?_
      refine ⟨?_, rfl⟩
      unfold ld_fHa
      repeat' split
      all_goals first | (exfalso; omega) | rfl
  · refine ld_bipush O (pc := 7) (v := (-3 : Int32)) dX3_halves_7 (by decide) ?_
    refine ld_ireti E dX3_halves_9 ?_
    refine ⟨?_, rfl⟩
    unfold ld_fHa
    repeat' split
    all_goals first | (exfalso; omega) | rfl
set_option maxHeartbeats 4000000 in
set_option maxRecDepth 100000 in
theorem c_X3_areSo (l : Launch) (ad : Nat → Nat) (σ : ld_St) (h : Nat) (hh : σ 141 0 = nI h) (h8 : h ≤ 8) (q : Nat) (hq : σ 150 0 = nI q) (q8 : q ≤ 8) (hkt : ld_kt h (σ 20) (σ 21)) (hrd : ∀ x, x < q → 0 ≤ (σ 32 x).toInt ∧ (σ 32 x).toInt < (h : Int)) : ld_Ctr l yX3_areSo cX3_areSo 3 (some .boolean) (3, 74) [.ref (ad 8)] ad σ (ld_I (fun (r : Int32) (σ2 : ld_St) => r = ld_b (ld_rh h (σ 20) (σ 21) (σ 142 0) (σ 32) (σ 33) q) ∧ σ2 = σ)) := by
  refine ld_entry (by decide +kernel) (Nat.le_of_ble_eq_true rfl) (fun K O E => ?_)
  have O : ld_Ok l K ad cX3_areSo 3 RX3 (ld_rm (3, 74)) := O
  show K σ [(0, .ref (ad 8))] [] 0
  refine ld_iconst O (pc := 0) (v := nI 1) dX3_areSo_0 (by decide) ?_
  refine ld_istore_n O (pc := 1) [(1, .int (nI 1)), (0, .ref (ad 8))] dX3_areSo_1 rfl (by decide) rfl ?_
  refine ld_iconst O (pc := 2) (v := nI 0) dX3_areSo_2 (by decide) ?_
  refine ld_istore_n O (pc := 3) [(2, .int (nI 0)), (1, .int (nI 1)), (0, .ref (ad 8))] dX3_areSo_3 rfl (by decide) rfl ?_
  have L4 : ∀ (m_4 : Nat) (i : Nat) (z : Nat), q - i < m_4 → (i ≤ q) → (z ≤ 1) → (z = 1 → ld_rh h (σ 20) (σ 21) (σ 142 0) (σ 32) (σ 33) i) → (z = 0 → ¬ ld_rh h (σ 20) (σ 21) (σ 142 0) (σ 32) (σ 33) q) → K σ [(0, .ref (ad 8)), (1, .int (nI z)), (2, .int (nI i))] [] 4 := by
    intro m_4
    induction m_4 with
    | zero => intro i z hm_; exact absurd hm_ (Nat.not_lt_zero _)
    | succ m_4 ih4 =>
      intro i z hm_4 hi hz h1 h0
      refine ld_iload_n O (pc := 4) 2 dX3_areSo_4 rfl rfl ?_
      refine ld_aload_n O (pc := 5) 0 dX3_areSo_5 rfl rfl ?_
      refine ld_g_M_readings O (pc := 6) (v := nI q) ld_w123 hq dX3_areSo_6 ?_
      refine ld_icmp_ge O (pc := 9) ((i : Nat) : Int) ((q : Nat) : Int) (nI_toInt (by omega)) (nI_toInt (by omega)) 51 dX3_areSo_9 (by decide) (fun c1 => ?_) (fun c1 => ?_)
      · refine ld_iload_n O (pc := 51) 1 dX3_areSo_51 rfl rfl ?_
        refine ld_iretz E (ld_z01 hz) dX3_areSo_52 ?_
        refine ⟨?_, rfl⟩
        rw [show i = q by omega] at h1
        rcases (show z = 0 ∨ z = 1 by omega) with e_ | e_
        · rw [e_, ld_b_f (h0 e_)]
        · rw [e_, ld_b_t (h1 e_)]
      · refine ld_iload_n O (pc := 12) 1 dX3_areSo_12 rfl rfl ?_
        refine ld_if_eq O (pc := 13) ((z : Nat) : Int) (nI_toInt (by omega)) 43 dX3_areSo_13 (by decide) (fun c2 => ?_) (fun c2 => ?_)
        · refine ld_iconst O (pc := 43) (v := nI 0) dX3_areSo_43 (by decide) ?_
          refine ld_istore_n O (pc := 44) [(1, .int (nI 0)), (0, .ref (ad 8)), (2, .int (nI i))] dX3_areSo_44 rfl (by decide) rfl ?_
          refine ld_iincN O (pc := 45) [(2, .int (nI (i + 1))), (1, .int (nI 0)), (0, .ref (ad 8))] 2 dX3_areSo_45 rfl (by decide) rfl ?_
          refine ld_goto O (pc := 48) 4 dX3_areSo_48 (by decide) ?_
          refine ld_less O [2, 1, 0] (lv2 := [(0, .ref (ad 8)), (1, .int (nI 0)), (2, .int (nI (i + 1)))]) rfl ?_
          exact ih4 (i + 1) 0 (by omega) (by omega) (by decide) (fun z_ => absurd z_ (by decide)) (fun _ => by first | exact h0 (by omega) | exact fun y => c2 (y i (by omega)))
        · refine ld_aload_n O (pc := 16) 0 dX3_areSo_16 rfl rfl ?_
          refine ld_aload_n O (pc := 17) 0 dX3_areSo_17 rfl rfl ?_
          refine ld_g_M_readingOf O (pc := 18) ld_w63 dX3_areSo_18 ?_
          refine ld_iload_n O (pc := 21) 2 dX3_areSo_21 rfl rfl ?_
          refine ld_iald O (pc := 22) 32 i (v := σ 32 i) rfl (by decide) (show i < 8 by omega) rfl dX3_areSo_22 ?_
          have hr_ := ld_ofIx (hrd i (by omega))
          rw [hr_.1]
          refine ld_aload_n O (pc := 23) 0 dX3_areSo_23 rfl rfl ?_
          refine ld_g_M_crateNow O (pc := 24) (v := σ 142 0) ld_w121 rfl dX3_areSo_24 ?_
          refine ld_callVi O (pc := 27) (As := [.int (nI (ld_ix (σ 32 i))), .int (σ 142 0)]) (st := []) ld_recv8 (c_X3_dealtTo l ad σ h hh h8 hkt (ld_ix (σ 32 i)) hr_.2.1 (σ 142 0)) ld_mw_X3_dealtTo ld_w202 rfl rfl ⟨by decide, by decide⟩ (Nat.le_of_ble_eq_true rfl) dX3_areSo_27 (fun r_p27 σ_p27 h_p27 => ?_)
          obtain ⟨rfl, hσ_p27⟩ := h_p27
          rw [hσ_p27]
          show K σ [(0, .ref (ad 8)), (1, .int (nI z)), (2, .int (nI i))] [.int (ld_dt h (σ 20) (σ 21) (σ 142 0) (ld_ix (σ 32 i)))] 30
          refine ld_aload_n O (pc := 30) 0 dX3_areSo_30 rfl rfl ?_
          refine ld_g_M_readingWas O (pc := 31) ld_w64 dX3_areSo_31 ?_
          refine ld_iload_n O (pc := 34) 2 dX3_areSo_34 rfl rfl ?_
          refine ld_iald O (pc := 35) 33 i (v := σ 33 i) rfl (by decide) (show i < 8 by omega) rfl dX3_areSo_35 ?_
          refine ld_icmp_ne O (pc := 36) (ld_dt h (σ 20) (σ 21) (σ 142 0) (ld_ix (σ 32 i))).toInt (σ 33 i).toInt rfl rfl 43 dX3_areSo_36 (by decide) (fun c3 => ?_) (fun c3 => ?_)
          · refine ld_iconst O (pc := 43) (v := nI 0) dX3_areSo_43 (by decide) ?_
            refine ld_istore_n O (pc := 44) [(1, .int (nI 0)), (0, .ref (ad 8)), (2, .int (nI i))] dX3_areSo_44 rfl (by decide) rfl ?_
            refine ld_iincN O (pc := 45) [(2, .int (nI (i + 1))), (1, .int (nI 0)), (0, .ref (ad 8))] 2 dX3_areSo_45 rfl (by decide) rfl ?_
            refine ld_goto O (pc := 48) 4 dX3_areSo_48 (by decide) ?_
            refine ld_less O [2, 1, 0] (lv2 := [(0, .ref (ad 8)), (1, .int (nI 0)), (2, .int (nI (i + 1)))]) rfl ?_
            exact ih4 (i + 1) 0 (by omega) (by omega) (by decide) (fun z_ => absurd z_ (by decide)) (fun _ => by first | exact h0 (by omega) | exact fun y => c3 (y i (by omega)))
          · refine ld_iconst O (pc := 39) (v := nI 1) dX3_areSo_39 (by decide) ?_
            refine ld_goto O (pc := 40) 44 dX3_areSo_40 (by decide) ?_
            refine ld_istore_n O (pc := 44) [(1, .int (nI 1)), (0, .ref (ad 8)), (2, .int (nI i))] dX3_areSo_44 rfl (by decide) rfl ?_
            refine ld_iincN O (pc := 45) [(2, .int (nI (i + 1))), (1, .int (nI 1)), (0, .ref (ad 8))] 2 dX3_areSo_45 rfl (by decide) rfl ?_
            refine ld_goto O (pc := 48) 4 dX3_areSo_48 (by decide) ?_
            refine ld_less O [2, 1, 0] (lv2 := [(0, .ref (ad 8)), (1, .int (nI 1)), (2, .int (nI (i + 1)))]) rfl ?_
            exact ih4 (i + 1) 1 (by omega) (by omega) (by decide) (fun _ => lt_s (h1 (by omega)) c3) (fun z_ => absurd z_ (by decide))
  refine ld_less O [2, 1, 0] (lv2 := [(0, .ref (ad 8)), (1, .int (nI 1)), (2, .int (nI 0))]) rfl ?_
  exact L4 _ 0 1 (Nat.lt_succ_self _) (Nat.zero_le _) (Nat.le_refl _) (fun _ x hx => absurd hx (Nat.not_lt_zero x)) (fun z_ => absurd z_ (by decide))
set_option maxHeartbeats 4000000 in
set_option maxRecDepth 100000 in
theorem c_X3_tempers (l : Launch) (ad : Nat → Nat) (σ : ld_St) (h : Nat) (hh : σ 141 0 = nI h) (h8 : h ≤ 8) (q : Nat) (hq : σ 150 0 = nI q) (q8 : q ≤ 8) (hkt : ld_kt h (σ 20) (σ 21)) (hrd : ∀ x, x < q → 0 ≤ (σ 32 x).toInt ∧ (σ 32 x).toInt < (h : Int)) (k : Int32) : ld_Ctr l yX3_tempers cX3_tempers 5 (some .int) (4, 96) [.ref (ad 8), .int k] ad σ (ld_I (fun (r : Int32) (σ2 : ld_St) => r = ld_fTm h (σ 20) (σ 21) (σ 142 0) (σ 32) (σ 33) q k ∧ ∃ f : Nat → Int32, σ2 = us σ 21 f ∧ ∀ x, x < h → f x = σ 21 x)) := by
  refine ld_entry (by decide +kernel) (Nat.le_of_ble_eq_true rfl) (fun K O E => ?_)
  have O : ld_Ok l K ad cX3_tempers 5 RX3 (ld_rm (4, 96)) := O
  show K σ [(0, .ref (ad 8)), (1, .int k)] [] 0
  refine ld_aload_n O (pc := 0) 0 dX3_tempers_0 rfl rfl ?_
  refine ld_iload_n O (pc := 1) 1 dX3_tempers_1 rfl rfl ?_
  refine ld_callVi O (pc := 2) (As := [.int k]) (st := []) ld_recv8 (c_X3_noHouse l ad σ k h hh h8) ld_mw_X3_noHouse ld_w194 rfl rfl ⟨by decide, by decide⟩ (Nat.le_of_ble_eq_true rfl) dX3_tempers_2 (fun r_p2 σ_p2 h_p2 => ?_)
  obtain ⟨rfl, hσ_p2⟩ := h_p2
  rw [hσ_p2]
  show K σ [(0, .ref (ad 8)), (1, .int k)] [.int (ld_b (¬ (0 ≤ (k).toInt ∧ (k).toInt < (h : Int))))] 5
  refine ld_ifb_eq O (pc := 5) 10 dX3_tempers_5 (by decide) (fun c1 => ?_) (fun c1 => ?_)
  · replace c1 := Classical.byContradiction c1
    obtain ⟨ek_k, hk_k, ik_k⟩ := ld_ofIx (k := k) (h := h) (by omega)
    rw [ek_k]
    refine ld_aload_n O (pc := 10) 0 dX3_tempers_10 rfl rfl ?_
    refine ld_g_M_temperOf O (pc := 11) ld_w52 dX3_tempers_11 ?_
    refine ld_iload_n O (pc := 14) 1 dX3_tempers_14 rfl rfl ?_
    refine ld_iald O (pc := 15) 21 (ld_ix k) (v := σ 21 (ld_ix k)) rfl (by decide) (show ld_ix k < 8 by omega) rfl dX3_tempers_15 ?_
    refine ld_istore_n O (pc := 16) [(2, .int (σ 21 (ld_ix k))), (0, .ref (ad 8)), (1, .int (nI (ld_ix k)))] dX3_tempers_16 rfl (by decide) rfl ?_
    refine ld_iconst O (pc := 17) (v := nI 0) dX3_tempers_17 (by decide) ?_
    refine ld_istore_n O (pc := 18) [(3, .int (nI 0)), (2, .int (σ 21 (ld_ix k))), (0, .ref (ad 8)), (1, .int (nI (ld_ix k)))] dX3_tempers_18 rfl (by decide) rfl ?_
    refine ld_iconst O (pc := 19) (v := nI 0) dX3_tempers_19 (by decide) ?_
    refine ld_istore O (pc := 20) [(4, .int (nI 0)), (3, .int (nI 0)), (2, .int (σ 21 (ld_ix k))), (0, .ref (ad 8)), (1, .int (nI (ld_ix k)))] dX3_tempers_20 (by decide) rfl ?_
    have L22 : ∀ (m_22 : Nat) (i : Nat) (set : Int32) (w : Nat → Int32), 10 - i < m_22 → (i ≤ 10) → (∀ x, x < h → x ≠ ld_ix k → w x = σ 21 x) → (set = ld_stt (fun z => ld_rh h (σ 20) (upd (σ 21) (ld_ix k) (nI z)) (σ 142 0) (σ 32) (σ 33) q) i) → K (us σ 21 w) [(0, .ref (ad 8)), (1, .int (nI (ld_ix k))), (2, .int (σ 21 (ld_ix k))), (3, .int set), (4, .int (nI i))] [] 22 := by
      intro m_22
      induction m_22 with
      | zero => intro i set w hm_; exact absurd hm_ (Nat.not_lt_zero _)
      | succ m_22 ih22 =>
        intro i set w hm_22 hi hw hs
        refine ld_iload O (pc := 22) 4 dX3_tempers_22 rfl ?_
        refine ld_bipush O (pc := 24) (v := nI 10) dX3_tempers_24 (by decide) ?_
        refine ld_icmp_ge O (pc := 26) ((i : Nat) : Int) 10 (nI_toInt (by omega)) (by decide) 61 dX3_tempers_26 (by decide) (fun c2 => ?_) (fun c2 => ?_)
        · refine ld_aload_n O (pc := 61) 0 dX3_tempers_61 rfl rfl ?_
          refine ld_g_M_temperOf O (pc := 62) ld_w52 dX3_tempers_62 ?_
          refine ld_iload_n O (pc := 65) 1 dX3_tempers_65 rfl rfl ?_
          refine ld_iload_n O (pc := 66) 2 dX3_tempers_66 rfl rfl ?_
          refine ld_iast O (pc := 67) 21 (ld_ix k) rfl (by decide) (show ld_ix k < 8 by omega) dX3_tempers_67 ?_
          refine ld_iload_n O (pc := 68) 3 dX3_tempers_68 rfl rfl ?_
          refine ld_ireti E dX3_tempers_69 ?_
          refine ⟨?_, upd w (ld_ix k) (σ 21 (ld_ix k)), us_us _ _ _ _, fun x hx => ?_⟩
          · unfold ld_fTm; rw [if_pos (by omega), hs, show i = 10 by omega]
          · by_cases e : x = ld_ix k
            · rw [e, pk_us]
            · rw [pk_un e]; exact hw x hx e
        · refine ld_aload_n O (pc := 29) 0 dX3_tempers_29 rfl rfl ?_
          refine ld_g_M_temperOf O (pc := 30) ld_w52 dX3_tempers_30 ?_
          refine ld_iload_n O (pc := 33) 1 dX3_tempers_33 rfl rfl ?_
          refine ld_iload O (pc := 34) 4 dX3_tempers_34 rfl ?_
          refine ld_iast O (pc := 36) 21 (ld_ix k) rfl (by decide) (show ld_ix k < 8 by omega) dX3_tempers_36 ?_
          refine ld_iload_n O (pc := 37) 3 dX3_tempers_37 rfl rfl ?_
          refine ld_aload_n O (pc := 38) 0 dX3_tempers_38 rfl rfl ?_
          have hu_ : ∀ x, x < h → upd w (ld_ix k) (nI i) x = upd (σ 21) (ld_ix k) (nI i) x := by
            intro x hx
            by_cases e : x = ld_ix k
            · subst e; rw [pk_us, pk_us]
            · rw [pk_un e, pk_un e]; exact hw x hx e
          have hkt2_ : ld_kt h (σ 20) (upd w (ld_ix k) (nI i)) := by
            intro x hx
            have b := hkt x hx
            rw [hu_ x hx]
            by_cases e : x = ld_ix k
            · rw [e, pk_us, nI_toInt (by omega)]; rw [e] at b; omega
            · rw [pk_un e]; exact b
          refine ld_callVi O (pc := 39) (As := []) (st := [.int set]) ld_recv8 (c_X3_areSo l ad (us (us σ 21 w) 21 (upd (w) (ld_ix k) (nI i))) h hh h8 q hq q8 hkt2_ hrd) ld_mw_X3_areSo ld_w468 rfl rfl ⟨by decide, by decide⟩ (Nat.le_of_ble_eq_true rfl) dX3_tempers_39 (fun r_p39 σ_p39 h_p39 => ?_)
          obtain ⟨rfl, hσ_p39⟩ := h_p39
          rw [hσ_p39]
          show K (us (us σ 21 w) 21 (upd (w) (ld_ix k) (nI i))) [(0, .ref (ad 8)), (1, .int (nI (ld_ix k))), (2, .int (σ 21 (ld_ix k))), (3, .int set), (4, .int (nI i))] [.int (ld_b (ld_rh h (σ 20) (upd (w) (ld_ix k) (nI i)) (σ 142 0) (σ 32) (σ 33) q)), .int set] 42
          rw [show (ld_rh h (σ 20) (upd (w) (ld_ix k) (nI i)) (σ 142 0) (σ 32) (σ 33) q) = (ld_rh h (σ 20) (upd (σ 21) (ld_ix k) (nI i)) (σ 142 0) (σ 32) (σ 33) q) from propext (ld_rh_cong hrd (fun _ _ => rfl) hu_)]
          refine ld_ifb_eq O (pc := 42) 52 dX3_tempers_42 (by decide) (fun c3 => ?_) (fun c3 => ?_)
          · refine ld_iconst O (pc := 52) (v := nI 0) dX3_tempers_52 (by decide) ?_
            refine ld_ior O (pc := 53) dX3_tempers_53 ?_
            refine ld_istore_n O (pc := 54) [(3, .int (set ||| (nI 0))), (0, .ref (ad 8)), (1, .int (nI (ld_ix k))), (2, .int (σ 21 (ld_ix k))), (4, .int (nI i))] dX3_tempers_54 rfl (by decide) rfl ?_
            refine ld_iincN O (pc := 55) [(4, .int (nI (i + 1))), (3, .int (set ||| (nI 0))), (0, .ref (ad 8)), (1, .int (nI (ld_ix k))), (2, .int (σ 21 (ld_ix k)))] 4 dX3_tempers_55 rfl (by decide) rfl ?_
            refine ld_goto O (pc := 58) 22 dX3_tempers_58 (by decide) ?_
            refine ld_less O [2, 3, 4, 1, 0] (lv2 := [(0, .ref (ad 8)), (1, .int (nI (ld_ix k))), (2, .int (σ 21 (ld_ix k))), (3, .int (set ||| (nI 0))), (4, .int (nI (i + 1)))]) rfl ?_
            have hs4 : us (us σ 21 w) 21 (upd (w) (ld_ix k) (nI i)) = us σ 21 (upd (w) (ld_ix k) (nI i)) := by
              funext b_
              by_cases h0_ : b_ = 21
              · subst h0_; exact (us_eq _ _ _).trans (us_eq _ _ _).symm
              simp only [us, h0_, if_false]
            refine ld_cv hs4 ?_
            exact ih22 (i + 1) (set ||| (nI 0)) (upd (w) (ld_ix k) (nI i)) (by omega) (by omega) (fun x hx hn => (pk_un hn).trans (hw x hx hn)) (by rw [hs]; first | exact (ld_stt_t (P := fun z => ld_rh h (σ 20) (upd (σ 21) (ld_ix k) (nI z)) (σ 142 0) (σ 32) (σ 33) q) (n := i) c3).symm | exact (Int32.or_zero).trans (ld_stt_f (P := fun z => ld_rh h (σ 20) (upd (σ 21) (ld_ix k) (nI z)) (σ 142 0) (σ 32) (σ 33) q) (n := i) c3).symm)
          · refine ld_iconst O (pc := 45) (v := nI 1) dX3_tempers_45 (by decide) ?_
            refine ld_iload O (pc := 46) 4 dX3_tempers_46 rfl ?_
            refine ld_ishl O (pc := 48) dX3_tempers_48 ?_
            refine ld_goto O (pc := 49) 53 dX3_tempers_49 (by decide) ?_
            refine ld_ior O (pc := 53) dX3_tempers_53 ?_
            refine ld_istore_n O (pc := 54) [(3, .int (set ||| ((nI 1) <<< ((nI i) &&& 31)))), (0, .ref (ad 8)), (1, .int (nI (ld_ix k))), (2, .int (σ 21 (ld_ix k))), (4, .int (nI i))] dX3_tempers_54 rfl (by decide) rfl ?_
            refine ld_iincN O (pc := 55) [(4, .int (nI (i + 1))), (3, .int (set ||| ((nI 1) <<< ((nI i) &&& 31)))), (0, .ref (ad 8)), (1, .int (nI (ld_ix k))), (2, .int (σ 21 (ld_ix k)))] 4 dX3_tempers_55 rfl (by decide) rfl ?_
            refine ld_goto O (pc := 58) 22 dX3_tempers_58 (by decide) ?_
            refine ld_less O [2, 3, 4, 1, 0] (lv2 := [(0, .ref (ad 8)), (1, .int (nI (ld_ix k))), (2, .int (σ 21 (ld_ix k))), (3, .int (set ||| ((nI 1) <<< ((nI i) &&& 31)))), (4, .int (nI (i + 1)))]) rfl ?_
            have hs5 : us (us σ 21 w) 21 (upd (w) (ld_ix k) (nI i)) = us σ 21 (upd (w) (ld_ix k) (nI i)) := by
              funext b_
              by_cases h0_ : b_ = 21
              · subst h0_; exact (us_eq _ _ _).trans (us_eq _ _ _).symm
              simp only [us, h0_, if_false]
            refine ld_cv hs5 ?_
            exact ih22 (i + 1) (set ||| ((nI 1) <<< ((nI i) &&& 31))) (upd (w) (ld_ix k) (nI i)) (by omega) (by omega) (fun x hx hn => (pk_un hn).trans (hw x hx hn)) (by rw [hs]; first | exact (ld_stt_t (P := fun z => ld_rh h (σ 20) (upd (σ 21) (ld_ix k) (nI z)) (σ 142 0) (σ 32) (σ 33) q) (n := i) c3).symm | exact (Int32.or_zero).trans (ld_stt_f (P := fun z => ld_rh h (σ 20) (upd (σ 21) (ld_ix k) (nI z)) (σ 142 0) (σ 32) (σ 33) q) (n := i) c3).symm)
    refine ld_less O [3, 4, 2, 1, 0] (lv2 := [(0, .ref (ad 8)), (1, .int (nI (ld_ix k))), (2, .int (σ 21 (ld_ix k))), (3, .int (nI 0)), (4, .int (nI 0))]) rfl ?_
    have hs6 : σ = us σ 21 (σ 21) := by
      funext b_
      by_cases h0_ : b_ = 21
      · subst h0_; exact (rfl).trans (us_eq _ _ _).symm
      simp only [us, h0_, if_false]
    refine ld_cv hs6 ?_
    exact L22 _ 0 (nI 0) (σ 21) (Nat.lt_succ_self _) (Nat.zero_le _) (fun _ _ _ => rfl) rfl
  · refine ld_iconst O (pc := 8) (v := (-1 : Int32)) dX3_tempers_8 (by decide) ?_
    refine ld_ireti E dX3_tempers_9 ?_
    refine ⟨?_, σ 21, (us_self _ _).symm, fun _ _ => rfl⟩
    unfold ld_fTm
    rw [if_neg (by omega)]
set_option maxHeartbeats 4000000 in
set_option maxRecDepth 100000 in
theorem c_X3_kinds (l : Launch) (ad : Nat → Nat) (σ : ld_St) (h : Nat) (hh : σ 141 0 = nI h) (h8 : h ≤ 8) (q : Nat) (hq : σ 150 0 = nI q) (q8 : q ≤ 8) (hkt : ld_kt h (σ 20) (σ 21)) (hrd : ∀ x, x < q → 0 ≤ (σ 32 x).toInt ∧ (σ 32 x).toInt < (h : Int)) (k : Int32) : ld_Ctr l yX3_kinds cX3_kinds 5 (some .int) (4, 96) [.ref (ad 8), .int k] ad σ (ld_I (fun (r : Int32) (σ2 : ld_St) => r = ld_fKi h (σ 20) (σ 21) (σ 142 0) (σ 32) (σ 33) q k ∧ ∃ f : Nat → Int32, σ2 = us σ 20 f ∧ ∀ x, x < h → f x = σ 20 x)) := by
  refine ld_entry (by decide +kernel) (Nat.le_of_ble_eq_true rfl) (fun K O E => ?_)
  have O : ld_Ok l K ad cX3_kinds 5 RX3 (ld_rm (4, 96)) := O
  show K σ [(0, .ref (ad 8)), (1, .int k)] [] 0
  refine ld_aload_n O (pc := 0) 0 dX3_kinds_0 rfl rfl ?_
  refine ld_iload_n O (pc := 1) 1 dX3_kinds_1 rfl rfl ?_
  refine ld_callVi O (pc := 2) (As := [.int k]) (st := []) ld_recv8 (c_X3_noHouse l ad σ k h hh h8) ld_mw_X3_noHouse ld_w194 rfl rfl ⟨by decide, by decide⟩ (Nat.le_of_ble_eq_true rfl) dX3_kinds_2 (fun r_p2 σ_p2 h_p2 => ?_)
  obtain ⟨rfl, hσ_p2⟩ := h_p2
  rw [hσ_p2]
  show K σ [(0, .ref (ad 8)), (1, .int k)] [.int (ld_b (¬ (0 ≤ (k).toInt ∧ (k).toInt < (h : Int))))] 5
  refine ld_ifb_eq O (pc := 5) 10 dX3_kinds_5 (by decide) (fun c1 => ?_) (fun c1 => ?_)
  · replace c1 := Classical.byContradiction c1
    obtain ⟨ek_k, hk_k, ik_k⟩ := ld_ofIx (k := k) (h := h) (by omega)
    rw [ek_k]
    refine ld_aload_n O (pc := 10) 0 dX3_kinds_10 rfl rfl ?_
    refine ld_g_M_kindOf O (pc := 11) ld_w51 dX3_kinds_11 ?_
    refine ld_iload_n O (pc := 14) 1 dX3_kinds_14 rfl rfl ?_
    refine ld_iald O (pc := 15) 20 (ld_ix k) (v := σ 20 (ld_ix k)) rfl (by decide) (show ld_ix k < 8 by omega) rfl dX3_kinds_15 ?_
    refine ld_istore_n O (pc := 16) [(2, .int (σ 20 (ld_ix k))), (0, .ref (ad 8)), (1, .int (nI (ld_ix k)))] dX3_kinds_16 rfl (by decide) rfl ?_
    refine ld_iconst O (pc := 17) (v := nI 0) dX3_kinds_17 (by decide) ?_
    refine ld_istore_n O (pc := 18) [(3, .int (nI 0)), (2, .int (σ 20 (ld_ix k))), (0, .ref (ad 8)), (1, .int (nI (ld_ix k)))] dX3_kinds_18 rfl (by decide) rfl ?_
    refine ld_iconst O (pc := 19) (v := nI 0) dX3_kinds_19 (by decide) ?_
    refine ld_istore O (pc := 20) [(4, .int (nI 0)), (3, .int (nI 0)), (2, .int (σ 20 (ld_ix k))), (0, .ref (ad 8)), (1, .int (nI (ld_ix k)))] dX3_kinds_20 (by decide) rfl ?_
    have L22 : ∀ (m_22 : Nat) (i : Nat) (set : Int32) (w : Nat → Int32), 3 - i < m_22 → (i ≤ 3) → (∀ x, x < h → x ≠ ld_ix k → w x = σ 20 x) → (set = ld_stt (fun z => ld_rh h (upd (σ 20) (ld_ix k) (nI z)) (σ 21) (σ 142 0) (σ 32) (σ 33) q) i) → K (us σ 20 w) [(0, .ref (ad 8)), (1, .int (nI (ld_ix k))), (2, .int (σ 20 (ld_ix k))), (3, .int set), (4, .int (nI i))] [] 22 := by
      intro m_22
      induction m_22 with
      | zero => intro i set w hm_; exact absurd hm_ (Nat.not_lt_zero _)
      | succ m_22 ih22 =>
        intro i set w hm_22 hi hw hs
        refine ld_iload O (pc := 22) 4 dX3_kinds_22 rfl ?_
        refine ld_iconst O (pc := 24) (v := nI 3) dX3_kinds_24 (by decide) ?_
        refine ld_icmp_ge O (pc := 25) ((i : Nat) : Int) 3 (nI_toInt (by omega)) (by decide) 60 dX3_kinds_25 (by decide) (fun c2 => ?_) (fun c2 => ?_)
        · refine ld_aload_n O (pc := 60) 0 dX3_kinds_60 rfl rfl ?_
          refine ld_g_M_kindOf O (pc := 61) ld_w51 dX3_kinds_61 ?_
          refine ld_iload_n O (pc := 64) 1 dX3_kinds_64 rfl rfl ?_
          refine ld_iload_n O (pc := 65) 2 dX3_kinds_65 rfl rfl ?_
          refine ld_iast O (pc := 66) 20 (ld_ix k) rfl (by decide) (show ld_ix k < 8 by omega) dX3_kinds_66 ?_
          refine ld_iload_n O (pc := 67) 3 dX3_kinds_67 rfl rfl ?_
          refine ld_ireti E dX3_kinds_68 ?_
          refine ⟨?_, upd w (ld_ix k) (σ 20 (ld_ix k)), us_us _ _ _ _, fun x hx => ?_⟩
          · unfold ld_fKi; rw [if_pos (by omega), hs, show i = 3 by omega]
          · by_cases e : x = ld_ix k
            · rw [e, pk_us]
            · rw [pk_un e]; exact hw x hx e
        · refine ld_aload_n O (pc := 28) 0 dX3_kinds_28 rfl rfl ?_
          refine ld_g_M_kindOf O (pc := 29) ld_w51 dX3_kinds_29 ?_
          refine ld_iload_n O (pc := 32) 1 dX3_kinds_32 rfl rfl ?_
          refine ld_iload O (pc := 33) 4 dX3_kinds_33 rfl ?_
          refine ld_iast O (pc := 35) 20 (ld_ix k) rfl (by decide) (show ld_ix k < 8 by omega) dX3_kinds_35 ?_
          refine ld_iload_n O (pc := 36) 3 dX3_kinds_36 rfl rfl ?_
          refine ld_aload_n O (pc := 37) 0 dX3_kinds_37 rfl rfl ?_
          have hu_ : ∀ x, x < h → upd w (ld_ix k) (nI i) x = upd (σ 20) (ld_ix k) (nI i) x := by
            intro x hx
            by_cases e : x = ld_ix k
            · subst e; rw [pk_us, pk_us]
            · rw [pk_un e, pk_un e]; exact hw x hx e
          have hkt2_ : ld_kt h (upd w (ld_ix k) (nI i)) (σ 21) := by
            intro x hx
            have b := hkt x hx
            rw [hu_ x hx]
            by_cases e : x = ld_ix k
            · rw [e, pk_us, nI_toInt (by omega)]; rw [e] at b; omega
            · rw [pk_un e]; exact b
          refine ld_callVi O (pc := 38) (As := []) (st := [.int set]) ld_recv8 (c_X3_areSo l ad (us (us σ 20 w) 20 (upd (w) (ld_ix k) (nI i))) h hh h8 q hq q8 hkt2_ hrd) ld_mw_X3_areSo ld_w468 rfl rfl ⟨by decide, by decide⟩ (Nat.le_of_ble_eq_true rfl) dX3_kinds_38 (fun r_p38 σ_p38 h_p38 => ?_)
          obtain ⟨rfl, hσ_p38⟩ := h_p38
          rw [hσ_p38]
          show K (us (us σ 20 w) 20 (upd (w) (ld_ix k) (nI i))) [(0, .ref (ad 8)), (1, .int (nI (ld_ix k))), (2, .int (σ 20 (ld_ix k))), (3, .int set), (4, .int (nI i))] [.int (ld_b (ld_rh h (upd (w) (ld_ix k) (nI i)) (σ 21) (σ 142 0) (σ 32) (σ 33) q)), .int set] 41
          rw [show (ld_rh h (upd (w) (ld_ix k) (nI i)) (σ 21) (σ 142 0) (σ 32) (σ 33) q) = (ld_rh h (upd (σ 20) (ld_ix k) (nI i)) (σ 21) (σ 142 0) (σ 32) (σ 33) q) from propext (ld_rh_cong hrd hu_ (fun _ _ => rfl))]
          refine ld_ifb_eq O (pc := 41) 51 dX3_kinds_41 (by decide) (fun c3 => ?_) (fun c3 => ?_)
          · refine ld_iconst O (pc := 51) (v := nI 0) dX3_kinds_51 (by decide) ?_
            refine ld_ior O (pc := 52) dX3_kinds_52 ?_
            refine ld_istore_n O (pc := 53) [(3, .int (set ||| (nI 0))), (0, .ref (ad 8)), (1, .int (nI (ld_ix k))), (2, .int (σ 20 (ld_ix k))), (4, .int (nI i))] dX3_kinds_53 rfl (by decide) rfl ?_
            refine ld_iincN O (pc := 54) [(4, .int (nI (i + 1))), (3, .int (set ||| (nI 0))), (0, .ref (ad 8)), (1, .int (nI (ld_ix k))), (2, .int (σ 20 (ld_ix k)))] 4 dX3_kinds_54 rfl (by decide) rfl ?_
            refine ld_goto O (pc := 57) 22 dX3_kinds_57 (by decide) ?_
            refine ld_less O [2, 3, 4, 1, 0] (lv2 := [(0, .ref (ad 8)), (1, .int (nI (ld_ix k))), (2, .int (σ 20 (ld_ix k))), (3, .int (set ||| (nI 0))), (4, .int (nI (i + 1)))]) rfl ?_
            have hs4 : us (us σ 20 w) 20 (upd (w) (ld_ix k) (nI i)) = us σ 20 (upd (w) (ld_ix k) (nI i)) := by
              funext b_
              by_cases h0_ : b_ = 20
              · subst h0_; exact (us_eq _ _ _).trans (us_eq _ _ _).symm
              simp only [us, h0_, if_false]
            refine ld_cv hs4 ?_
            exact ih22 (i + 1) (set ||| (nI 0)) (upd (w) (ld_ix k) (nI i)) (by omega) (by omega) (fun x hx hn => (pk_un hn).trans (hw x hx hn)) (by rw [hs]; first | exact (ld_stt_t (P := fun z => ld_rh h (upd (σ 20) (ld_ix k) (nI z)) (σ 21) (σ 142 0) (σ 32) (σ 33) q) (n := i) c3).symm | exact (Int32.or_zero).trans (ld_stt_f (P := fun z => ld_rh h (upd (σ 20) (ld_ix k) (nI z)) (σ 21) (σ 142 0) (σ 32) (σ 33) q) (n := i) c3).symm)
          · refine ld_iconst O (pc := 44) (v := nI 1) dX3_kinds_44 (by decide) ?_
            refine ld_iload O (pc := 45) 4 dX3_kinds_45 rfl ?_
            refine ld_ishl O (pc := 47) dX3_kinds_47 ?_
            refine ld_goto O (pc := 48) 52 dX3_kinds_48 (by decide) ?_
            refine ld_ior O (pc := 52) dX3_kinds_52 ?_
            refine ld_istore_n O (pc := 53) [(3, .int (set ||| ((nI 1) <<< ((nI i) &&& 31)))), (0, .ref (ad 8)), (1, .int (nI (ld_ix k))), (2, .int (σ 20 (ld_ix k))), (4, .int (nI i))] dX3_kinds_53 rfl (by decide) rfl ?_
            refine ld_iincN O (pc := 54) [(4, .int (nI (i + 1))), (3, .int (set ||| ((nI 1) <<< ((nI i) &&& 31)))), (0, .ref (ad 8)), (1, .int (nI (ld_ix k))), (2, .int (σ 20 (ld_ix k)))] 4 dX3_kinds_54 rfl (by decide) rfl ?_
            refine ld_goto O (pc := 57) 22 dX3_kinds_57 (by decide) ?_
            refine ld_less O [2, 3, 4, 1, 0] (lv2 := [(0, .ref (ad 8)), (1, .int (nI (ld_ix k))), (2, .int (σ 20 (ld_ix k))), (3, .int (set ||| ((nI 1) <<< ((nI i) &&& 31)))), (4, .int (nI (i + 1)))]) rfl ?_
            have hs5 : us (us σ 20 w) 20 (upd (w) (ld_ix k) (nI i)) = us σ 20 (upd (w) (ld_ix k) (nI i)) := by
              funext b_
              by_cases h0_ : b_ = 20
              · subst h0_; exact (us_eq _ _ _).trans (us_eq _ _ _).symm
              simp only [us, h0_, if_false]
            refine ld_cv hs5 ?_
            exact ih22 (i + 1) (set ||| ((nI 1) <<< ((nI i) &&& 31))) (upd (w) (ld_ix k) (nI i)) (by omega) (by omega) (fun x hx hn => (pk_un hn).trans (hw x hx hn)) (by rw [hs]; first | exact (ld_stt_t (P := fun z => ld_rh h (upd (σ 20) (ld_ix k) (nI z)) (σ 21) (σ 142 0) (σ 32) (σ 33) q) (n := i) c3).symm | exact (Int32.or_zero).trans (ld_stt_f (P := fun z => ld_rh h (upd (σ 20) (ld_ix k) (nI z)) (σ 21) (σ 142 0) (σ 32) (σ 33) q) (n := i) c3).symm)
    refine ld_less O [3, 4, 2, 1, 0] (lv2 := [(0, .ref (ad 8)), (1, .int (nI (ld_ix k))), (2, .int (σ 20 (ld_ix k))), (3, .int (nI 0)), (4, .int (nI 0))]) rfl ?_
    have hs6 : σ = us σ 20 (σ 20) := by
      funext b_
      by_cases h0_ : b_ = 20
      · subst h0_; exact (rfl).trans (us_eq _ _ _).symm
      simp only [us, h0_, if_false]
    refine ld_cv hs6 ?_
    exact L22 _ 0 (nI 0) (σ 20) (Nat.lt_succ_self _) (Nat.zero_le _) (fun _ _ _ => rfl) rfl
  · refine ld_iconst O (pc := 8) (v := (-1 : Int32)) dX3_kinds_8 (by decide) ?_
    refine ld_ireti E dX3_kinds_9 ?_
    refine ⟨?_, σ 20, (us_self _ _).symm, fun _ _ => rfl⟩
    unfold ld_fKi
    rw [if_neg (by omega)]
set_option maxHeartbeats 4000000 in
set_option maxRecDepth 100000 in
theorem c_X3_crates (l : Launch) (ad : Nat → Nat) (σ : ld_St) (h : Nat) (hh : σ 141 0 = nI h) (h8 : h ≤ 8) (q : Nat) (hq : σ 150 0 = nI q) (q8 : q ≤ 8) (hkt : ld_kt h (σ 20) (σ 21)) (hrd : ∀ x, x < q → 0 ≤ (σ 32 x).toInt ∧ (σ 32 x).toInt < (h : Int)) (cr : Nat) (hcr : σ 142 0 = nI cr) (what : Int32) : ld_Ctr l yX3_crates cX3_crates 8 (some .int) (4, 96) [.ref (ad 8), .int what] ad σ (ld_I (fun (r : Int32) (σ2 : ld_St) => r = ld_fCs h (fun z => ld_rh h (σ 20) (σ 21) (nI z) (σ 32) (σ 33) q) what ∧ ∃ f : Nat → Int32, σ2 = us σ 142 f ∧ f 0 = nI cr)) := by
  refine ld_entry (by decide +kernel) (Nat.le_of_ble_eq_true rfl) (fun K O E => ?_)
  have O : ld_Ok l K ad cX3_crates 8 RX3 (ld_rm (4, 96)) := O
  show K σ [(0, .ref (ad 8)), (1, .int what)] [] 0
  refine ld_aload_n O (pc := 0) 0 dX3_crates_0 rfl rfl ?_
  refine ld_g_M_houses O (pc := 1) (v := nI h) ld_w119 hh dX3_crates_1 ?_
  refine ld_if_ne O (pc := 4) ((h : Nat) : Int) (nI_toInt (by omega)) 10 dX3_crates_4 (by decide) (fun c1 => ?_) (fun c1 => ?_)
  · refine ld_iload_n O (pc := 10) 1 dX3_crates_10 rfl rfl ?_
    have hl2 : (what.toInt64).toInt = (what).toInt := (Int32.toInt_toInt64 _).trans rfl
    refine ld_i2l O (pc := 11) dX3_crates_11 ?_
    refine ld_lconst O (pc := 12) (v := (0 : Int64)) dX3_crates_12 (by decide) ?_
    refine ld_ldc2 O (pc := 13) (v := (2 : Int64)) dX3_crates_13 ld_w116 ?_
    refine ld_callSi O (pc := 16) (As := [.long what.toInt64, .long (0 : Int64), .long (2 : Int64)]) (st := []) (c_X3_in l ad σ what.toInt64 (0 : Int64) (2 : Int64) ((what).toInt) 0 (2) hl2 (by decide) (by decide)) ld_mw_X3_in ld_w128 rfl rfl ⟨by decide, by decide⟩ (Nat.le_of_ble_eq_true rfl) dX3_crates_16 (fun r_p16 σ_p16 h_p16 => ?_)
    obtain ⟨rfl, hσ_p16⟩ := h_p16
    rw [hσ_p16]
    show K σ [(0, .ref (ad 8)), (1, .int what)] [.int (ld_b (0 ≤ (what).toInt ∧ (what).toInt ≤ (2)))] 19
    refine ld_ifb_ne O (pc := 19) 25 dX3_crates_19 (by decide) (fun c3 => ?_) (fun c3 => ?_)
    · refine ld_aload_n O (pc := 25) 0 dX3_crates_25 rfl rfl ?_
      refine ld_g_M_crateNow O (pc := 26) (v := nI cr) ld_w121 hcr dX3_crates_26 ?_
      refine ld_istore_n O (pc := 29) [(2, .int (nI cr)), (0, .ref (ad 8)), (1, .int what)] dX3_crates_29 rfl (by decide) rfl ?_
      refine ld_iconst O (pc := 30) (v := nI 0) dX3_crates_30 (by decide) ?_
      refine ld_istore_n O (pc := 31) [(3, .int (nI 0)), (2, .int (nI cr)), (0, .ref (ad 8)), (1, .int what)] dX3_crates_31 rfl (by decide) rfl ?_
      refine ld_bipush O (pc := 32) (v := (-9 : Int32)) dX3_crates_32 (by decide) ?_
      refine ld_istore O (pc := 34) [(4, .int (-9 : Int32)), (3, .int (nI 0)), (2, .int (nI cr)), (0, .ref (ad 8)), (1, .int what)] dX3_crates_34 (by decide) rfl ?_
      refine ld_bipush O (pc := 36) (v := (-9 : Int32)) dX3_crates_36 (by decide) ?_
      refine ld_istore O (pc := 38) [(5, .int (-9 : Int32)), (4, .int (-9 : Int32)), (3, .int (nI 0)), (2, .int (nI cr)), (0, .ref (ad 8)), (1, .int what)] dX3_crates_38 (by decide) rfl ?_
      refine ld_iconst O (pc := 40) (v := nI 0) dX3_crates_40 (by decide) ?_
      refine ld_istore O (pc := 41) [(6, .int (nI 0)), (5, .int (-9 : Int32)), (4, .int (-9 : Int32)), (3, .int (nI 0)), (2, .int (nI cr)), (0, .ref (ad 8)), (1, .int what)] dX3_crates_41 (by decide) rfl ?_
      have L43 : ∀ (m_43 : Nat) (i : Nat) (fo : Nat) (le : Int32) (gr : Int32) (gc : Nat → Int32), 100 - i < m_43 → (i ≤ 100) → (fo = ld_cn (fun z => ld_rh h (σ 20) (σ 21) (nI z) (σ 32) (σ 33) q) i) → (fo ≤ i) → (le = ld_ls (fun z => ld_rh h (σ 20) (σ 21) (nI z) (σ 32) (σ 33) q) i) → ((fo = 0 → le.toInt = -9)) → ((0 < fo → 0 ≤ le.toInt)) → (gr = ld_gr (fun z => ld_rh h (σ 20) (σ 21) (nI z) (σ 32) (σ 33) q) i) → K (us σ 142 gc) [(0, .ref (ad 8)), (1, .int what), (2, .int (nI cr)), (3, .int (nI fo)), (4, .int le), (5, .int gr), (6, .int (nI i))] [] 43 := by
        intro m_43
        induction m_43 with
        | zero => intro i fo le gr gc hm_; exact absurd hm_ (Nat.not_lt_zero _)
        | succ m_43 ih43 =>
          intro i fo le gr gc hm_43 hi hfo hfi hle hl0 hl1 hgr
          refine ld_iload O (pc := 43) 6 dX3_crates_43 rfl ?_
          refine ld_bipush O (pc := 45) (v := nI 100) dX3_crates_45 (by decide) ?_
          refine ld_icmp_ge O (pc := 47) ((i : Nat) : Int) 100 (nI_toInt (by omega)) (by decide) 114 dX3_crates_47 (by decide) (fun c4 => ?_) (fun c4 => ?_)
          · refine ld_aload_n O (pc := 114) 0 dX3_crates_114 rfl rfl ?_
            refine ld_iload_n O (pc := 115) 2 dX3_crates_115 rfl rfl ?_
            refine ld_p_M_crateNow O (pc := 116) ld_w121 dX3_crates_116 ?_
            refine ld_iload_n O (pc := 119) 1 dX3_crates_119 rfl rfl ?_
            refine ld_if_ne O (pc := 120) (what).toInt rfl 127 dX3_crates_120 (by decide) (fun c5 => ?_) (fun c5 => ?_)
            · refine ld_iload_n O (pc := 127) 1 dX3_crates_127 rfl rfl ?_
              refine ld_iconst O (pc := 128) (v := nI 1) dX3_crates_128 (by decide) ?_
              refine ld_icmp_ne O (pc := 129) (what).toInt 1 rfl (by decide) 137 dX3_crates_129 (by decide) (fun c6 => ?_) (fun c6 => ?_)
              · refine ld_iload O (pc := 137) 5 dX3_crates_137 rfl ?_
                refine ld_ireti E dX3_crates_139 ?_
                refine ⟨?_, _, us_us _ _ _ _, rfl⟩
                unfold ld_fCs
                rw [if_pos (by omega), if_pos (by omega)]
                rw [show i = 100 by omega] at hfo hle hgr
                rw [← hfo, ← hle, ← hgr]
                repeat' split
                all_goals first | (exfalso; omega) | rfl
              · refine ld_iload O (pc := 132) 4 dX3_crates_132 rfl ?_
                refine ld_goto O (pc := 134) 139 dX3_crates_134 (by decide) ?_
                refine ld_ireti E dX3_crates_139 ?_
                refine ⟨?_, _, us_us _ _ _ _, rfl⟩
                unfold ld_fCs
                rw [if_pos (by omega), if_pos (by omega)]
                rw [show i = 100 by omega] at hfo hle hgr
                rw [← hfo, ← hle, ← hgr]
                repeat' split
                all_goals first | (exfalso; omega) | rfl
            · refine ld_iload_n O (pc := 123) 3 dX3_crates_123 rfl rfl ?_
              refine ld_goto O (pc := 124) 139 dX3_crates_124 (by decide) ?_
              refine ld_ireti E dX3_crates_139 ?_
              refine ⟨?_, _, us_us _ _ _ _, rfl⟩
              unfold ld_fCs
              rw [if_pos (by omega), if_pos (by omega)]
              rw [show i = 100 by omega] at hfo hle hgr
              rw [← hfo, ← hle, ← hgr]
              repeat' split
              all_goals first | (exfalso; omega) | rfl
          · refine ld_aload_n O (pc := 50) 0 dX3_crates_50 rfl rfl ?_
            refine ld_iload O (pc := 51) 6 dX3_crates_51 rfl ?_
            refine ld_p_M_crateNow O (pc := 53) ld_w121 dX3_crates_53 ?_
            refine ld_aload_n O (pc := 56) 0 dX3_crates_56 rfl rfl ?_
            refine ld_callVi O (pc := 57) (As := []) (st := []) ld_recv8 (c_X3_areSo l ad (us (us σ 142 gc) 142 (fun _ => nI i)) h hh h8 q hq q8 hkt hrd) ld_mw_X3_areSo ld_w468 rfl rfl ⟨by decide, by decide⟩ (Nat.le_of_ble_eq_true rfl) dX3_crates_57 (fun r_p57 σ_p57 h_p57 => ?_)
            obtain ⟨rfl, hσ_p57⟩ := h_p57
            rw [hσ_p57]
            show K (us (us σ 142 gc) 142 (fun _ => nI i)) [(0, .ref (ad 8)), (1, .int what), (2, .int (nI cr)), (3, .int (nI fo)), (4, .int le), (5, .int gr), (6, .int (nI i))] [.int (ld_b (ld_rh h (σ 20) (σ 21) (nI i) (σ 32) (σ 33) q))] 60
            refine ld_istore O (pc := 60) [(7, .int (ld_b (ld_rh h (σ 20) (σ 21) (nI i) (σ 32) (σ 33) q))), (0, .ref (ad 8)), (1, .int what), (2, .int (nI cr)), (3, .int (nI fo)), (4, .int le), (5, .int gr), (6, .int (nI i))] dX3_crates_60 (by decide) rfl ?_
            refine ld_iload_n O (pc := 62) 4 dX3_crates_62 rfl rfl ?_
            refine ld_iload O (pc := 63) 0 dX3_crates_63 rfl ?_
            refine ld_ifb_eq O (pc := 65) 72 dX3_crates_65 (by decide) (fun c7 => ?_) (fun c7 => ?_)
            · refine ld_iconst O (pc := 72) (v := nI 0) dX3_crates_72 (by decide) ?_
              refine ld_iaddN O (pc := 73) dX3_crates_73 ?_
              refine ld_istore_n O (pc := 74) [(3, .int (nI (fo + 0))), (7, .int (ld_b (ld_rh h (σ 20) (σ 21) (nI i) (σ 32) (σ 33) q))), (0, .ref (ad 8)), (1, .int what), (2, .int (nI cr)), (4, .int le), (5, .int gr), (6, .int (nI i))] dX3_crates_74 rfl (by decide) rfl ?_
              refine ld_iload O (pc := 75) 1 dX3_crates_75 rfl ?_
              refine ld_ifb_eq O (pc := 77) 90 dX3_crates_77 (by decide) (fun c8 => ?_) (fun z => absurd z c7)
              refine ld_iload O (pc := 90) 5 dX3_crates_90 rfl ?_
              refine ld_istore O (pc := 92) [(4, .int le), (3, .int (nI (fo + 0))), (7, .int (ld_b (ld_rh h (σ 20) (σ 21) (nI i) (σ 32) (σ 33) q))), (0, .ref (ad 8)), (1, .int what), (2, .int (nI cr)), (5, .int gr), (6, .int (nI i))] dX3_crates_92 (by decide) rfl ?_
              refine ld_iload O (pc := 94) 2 dX3_crates_94 rfl ?_
              refine ld_ifb_eq O (pc := 96) 104 dX3_crates_96 (by decide) (fun c9 => ?_) (fun z => absurd z c7)
              refine ld_iload O (pc := 104) 6 dX3_crates_104 rfl ?_
              refine ld_istore O (pc := 106) [(5, .int gr), (4, .int le), (3, .int (nI (fo + 0))), (7, .int (ld_b (ld_rh h (σ 20) (σ 21) (nI i) (σ 32) (σ 33) q))), (0, .ref (ad 8)), (1, .int what), (2, .int (nI cr)), (6, .int (nI i))] dX3_crates_106 (by decide) rfl ?_
              have hP_ := c7
              refine ld_iincN O (pc := 108) [(6, .int (nI (i + 1))), (5, .int gr), (4, .int le), (3, .int (nI (fo + 0))), (7, .int (ld_b (ld_rh h (σ 20) (σ 21) (nI i) (σ 32) (σ 33) q))), (0, .ref (ad 8)), (1, .int what), (2, .int (nI cr))] 7 dX3_crates_108 rfl (by decide) rfl ?_
              refine ld_goto O (pc := 111) 43 dX3_crates_111 (by decide) ?_
              refine ld_less O [5, 6, 7, 3, 2, 1, 0] (lv2 := [(0, .ref (ad 8)), (1, .int what), (2, .int (nI cr)), (3, .int (nI (fo + 0))), (4, .int le), (5, .int gr), (6, .int (nI (i + 1)))]) rfl ?_
              have hs10 : us (us σ 142 gc) 142 (fun _ => nI i) = us σ 142 (fun _ => nI i) := by
                funext b_
                by_cases h0_ : b_ = 142
                · subst h0_; exact (us_eq _ _ _).trans (us_eq _ _ _).symm
                simp only [us, h0_, if_false]
              refine ld_cv hs10 ?_
              exact ih43 (i + 1) (fo + 0) le gr (fun _ => nI i) (by omega) (by omega) (by rw [hfo]; first | exact (ld_cn_t (P := (fun z => ld_rh h (σ 20) (σ 21) (nI z) (σ 32) (σ 33) q)) (n := i) hP_).symm | exact (ld_cn_f (P := (fun z => ld_rh h (σ 20) (σ 21) (nI z) (σ 32) (σ 33) q)) (n := i) hP_).symm) (by omega) (by first | (rw [ld_ls_f (P := (fun z => ld_rh h (σ 20) (σ 21) (nI z) (σ 32) (σ 33) q)) (n := i) hP_]; exact hle) | (rw [ld_ls_t (P := (fun z => ld_rh h (σ 20) (σ 21) (nI z) (σ 32) (σ 33) q)) (n := i) hP_, ← hfo, if_pos (by omega)]; done) | (rw [ld_ls_t (P := (fun z => ld_rh h (σ 20) (σ 21) (nI z) (σ 32) (σ 33) q)) (n := i) hP_, ← hfo, if_neg (by omega)]; exact hle)) (by first | omega | (intro z_; omega)) (by first | omega | (intro z_; rw [nI_toInt (by omega)]; omega)) (by first | (rw [ld_gr_f (P := (fun z => ld_rh h (σ 20) (σ 21) (nI z) (σ 32) (σ 33) q)) (n := i) hP_]; exact hgr) | exact (ld_gr_t (P := (fun z => ld_rh h (σ 20) (σ 21) (nI z) (σ 32) (σ 33) q)) (n := i) hP_).symm)
            · refine ld_iconst O (pc := 68) (v := nI 1) dX3_crates_68 (by decide) ?_
              refine ld_goto O (pc := 69) 73 dX3_crates_69 (by decide) ?_
              refine ld_iaddN O (pc := 73) dX3_crates_73 ?_
              refine ld_istore_n O (pc := 74) [(3, .int (nI (fo + 1))), (7, .int (ld_b (ld_rh h (σ 20) (σ 21) (nI i) (σ 32) (σ 33) q))), (0, .ref (ad 8)), (1, .int what), (2, .int (nI cr)), (4, .int le), (5, .int gr), (6, .int (nI i))] dX3_crates_74 rfl (by decide) rfl ?_
              refine ld_iload O (pc := 75) 1 dX3_crates_75 rfl ?_
              refine ld_ifb_eq O (pc := 77) 90 dX3_crates_77 (by decide) (fun z => absurd c7 z) (fun c11 => ?_)
              refine ld_iload O (pc := 80) 5 dX3_crates_80 rfl ?_
              refine ld_if_ge O (pc := 82) (le).toInt rfl 90 dX3_crates_82 (by decide) (fun c12 => ?_) (fun c12 => ?_)
              · refine ld_iload O (pc := 90) 5 dX3_crates_90 rfl ?_
                refine ld_istore O (pc := 92) [(4, .int le), (3, .int (nI (fo + 1))), (7, .int (ld_b (ld_rh h (σ 20) (σ 21) (nI i) (σ 32) (σ 33) q))), (0, .ref (ad 8)), (1, .int what), (2, .int (nI cr)), (5, .int gr), (6, .int (nI i))] dX3_crates_92 (by decide) rfl ?_
                refine ld_iload O (pc := 94) 2 dX3_crates_94 rfl ?_
                refine ld_ifb_eq O (pc := 96) 104 dX3_crates_96 (by decide) (fun z => absurd c7 z) (fun c13 => ?_)
                refine ld_iload O (pc := 99) 7 dX3_crates_99 rfl ?_
                refine ld_goto O (pc := 101) 106 dX3_crates_101 (by decide) ?_
                refine ld_istore O (pc := 106) [(5, .int (nI i)), (4, .int le), (3, .int (nI (fo + 1))), (7, .int (ld_b (ld_rh h (σ 20) (σ 21) (nI i) (σ 32) (σ 33) q))), (0, .ref (ad 8)), (1, .int what), (2, .int (nI cr)), (6, .int (nI i))] dX3_crates_106 (by decide) rfl ?_
                have hP_ := c7
                refine ld_iincN O (pc := 108) [(6, .int (nI (i + 1))), (5, .int (nI i)), (4, .int le), (3, .int (nI (fo + 1))), (7, .int (ld_b (ld_rh h (σ 20) (σ 21) (nI i) (σ 32) (σ 33) q))), (0, .ref (ad 8)), (1, .int what), (2, .int (nI cr))] 7 dX3_crates_108 rfl (by decide) rfl ?_
                refine ld_goto O (pc := 111) 43 dX3_crates_111 (by decide) ?_
                refine ld_less O [5, 6, 7, 3, 2, 1, 0] (lv2 := [(0, .ref (ad 8)), (1, .int what), (2, .int (nI cr)), (3, .int (nI (fo + 1))), (4, .int le), (5, .int (nI i)), (6, .int (nI (i + 1)))]) rfl ?_
                have hs14 : us (us σ 142 gc) 142 (fun _ => nI i) = us σ 142 (fun _ => nI i) := by
                  funext b_
                  by_cases h0_ : b_ = 142
                  · subst h0_; exact (us_eq _ _ _).trans (us_eq _ _ _).symm
                  simp only [us, h0_, if_false]
                refine ld_cv hs14 ?_
                exact ih43 (i + 1) (fo + 1) le (nI i) (fun _ => nI i) (by omega) (by omega) (by rw [hfo]; first | exact (ld_cn_t (P := (fun z => ld_rh h (σ 20) (σ 21) (nI z) (σ 32) (σ 33) q)) (n := i) hP_).symm | exact (ld_cn_f (P := (fun z => ld_rh h (σ 20) (σ 21) (nI z) (σ 32) (σ 33) q)) (n := i) hP_).symm) (by omega) (by first | (rw [ld_ls_f (P := (fun z => ld_rh h (σ 20) (σ 21) (nI z) (σ 32) (σ 33) q)) (n := i) hP_]; exact hle) | (rw [ld_ls_t (P := (fun z => ld_rh h (σ 20) (σ 21) (nI z) (σ 32) (σ 33) q)) (n := i) hP_, ← hfo, if_pos (by omega)]; done) | (rw [ld_ls_t (P := (fun z => ld_rh h (σ 20) (σ 21) (nI z) (σ 32) (σ 33) q)) (n := i) hP_, ← hfo, if_neg (by omega)]; exact hle)) (by first | omega | (intro z_; omega)) (by first | omega | (intro z_; rw [nI_toInt (by omega)]; omega)) (by first | (rw [ld_gr_f (P := (fun z => ld_rh h (σ 20) (σ 21) (nI z) (σ 32) (σ 33) q)) (n := i) hP_]; exact hgr) | exact (ld_gr_t (P := (fun z => ld_rh h (σ 20) (σ 21) (nI z) (σ 32) (σ 33) q)) (n := i) hP_).symm)
              · refine ld_iload O (pc := 85) 7 dX3_crates_85 rfl ?_
                refine ld_goto O (pc := 87) 92 dX3_crates_87 (by decide) ?_
                refine ld_istore O (pc := 92) [(4, .int (nI i)), (3, .int (nI (fo + 1))), (7, .int (ld_b (ld_rh h (σ 20) (σ 21) (nI i) (σ 32) (σ 33) q))), (0, .ref (ad 8)), (1, .int what), (2, .int (nI cr)), (5, .int gr), (6, .int (nI i))] dX3_crates_92 (by decide) rfl ?_
                refine ld_iload O (pc := 94) 2 dX3_crates_94 rfl ?_
                refine ld_ifb_eq O (pc := 96) 104 dX3_crates_96 (by decide) (fun z => absurd c7 z) (fun c15 => ?_)
                refine ld_iload O (pc := 99) 7 dX3_crates_99 rfl ?_
                refine ld_goto O (pc := 101) 106 dX3_crates_101 (by decide) ?_
                refine ld_istore O (pc := 106) [(5, .int (nI i)), (4, .int (nI i)), (3, .int (nI (fo + 1))), (7, .int (ld_b (ld_rh h (σ 20) (σ 21) (nI i) (σ 32) (σ 33) q))), (0, .ref (ad 8)), (1, .int what), (2, .int (nI cr)), (6, .int (nI i))] dX3_crates_106 (by decide) rfl ?_
                have hP_ := c7
                refine ld_iincN O (pc := 108) [(6, .int (nI (i + 1))), (5, .int (nI i)), (4, .int (nI i)), (3, .int (nI (fo + 1))), (7, .int (ld_b (ld_rh h (σ 20) (σ 21) (nI i) (σ 32) (σ 33) q))), (0, .ref (ad 8)), (1, .int what), (2, .int (nI cr))] 7 dX3_crates_108 rfl (by decide) rfl ?_
                refine ld_goto O (pc := 111) 43 dX3_crates_111 (by decide) ?_
                refine ld_less O [5, 6, 7, 3, 2, 1, 0] (lv2 := [(0, .ref (ad 8)), (1, .int what), (2, .int (nI cr)), (3, .int (nI (fo + 1))), (4, .int (nI i)), (5, .int (nI i)), (6, .int (nI (i + 1)))]) rfl ?_
                have hs16 : us (us σ 142 gc) 142 (fun _ => nI i) = us σ 142 (fun _ => nI i) := by
                  funext b_
                  by_cases h0_ : b_ = 142
                  · subst h0_; exact (us_eq _ _ _).trans (us_eq _ _ _).symm
                  simp only [us, h0_, if_false]
                refine ld_cv hs16 ?_
                exact ih43 (i + 1) (fo + 1) (nI i) (nI i) (fun _ => nI i) (by omega) (by omega) (by rw [hfo]; first | exact (ld_cn_t (P := (fun z => ld_rh h (σ 20) (σ 21) (nI z) (σ 32) (σ 33) q)) (n := i) hP_).symm | exact (ld_cn_f (P := (fun z => ld_rh h (σ 20) (σ 21) (nI z) (σ 32) (σ 33) q)) (n := i) hP_).symm) (by omega) (by first | (rw [ld_ls_f (P := (fun z => ld_rh h (σ 20) (σ 21) (nI z) (σ 32) (σ 33) q)) (n := i) hP_]; exact hle) | (rw [ld_ls_t (P := (fun z => ld_rh h (σ 20) (σ 21) (nI z) (σ 32) (σ 33) q)) (n := i) hP_, ← hfo, if_pos (by omega)]; done) | (rw [ld_ls_t (P := (fun z => ld_rh h (σ 20) (σ 21) (nI z) (σ 32) (σ 33) q)) (n := i) hP_, ← hfo, if_neg (by omega)]; exact hle)) (by first | omega | (intro z_; omega)) (by first | omega | (intro z_; rw [nI_toInt (by omega)]; omega)) (by first | (rw [ld_gr_f (P := (fun z => ld_rh h (σ 20) (σ 21) (nI z) (σ 32) (σ 33) q)) (n := i) hP_]; exact hgr) | exact (ld_gr_t (P := (fun z => ld_rh h (σ 20) (σ 21) (nI z) (σ 32) (σ 33) q)) (n := i) hP_).symm)
      refine ld_less O [5, 6, 4, 3, 2, 1, 0] (lv2 := [(0, .ref (ad 8)), (1, .int what), (2, .int (nI cr)), (3, .int (nI 0)), (4, .int (-9 : Int32)), (5, .int (-9 : Int32)), (6, .int (nI 0))]) rfl ?_
      have hs17 : σ = us σ 142 (σ 142) := by
        funext b_
        by_cases h0_ : b_ = 142
        · subst h0_; exact (rfl).trans (us_eq _ _ _).symm
        simp only [us, h0_, if_false]
      refine ld_cv hs17 ?_
      exact L43 _ 0 0 (-9 : Int32) (-9 : Int32) (σ 142) (Nat.lt_succ_self _) (Nat.zero_le _) rfl (Nat.le_refl _) rfl (fun _ => by decide) (fun z_ => absurd z_ (by decide)) rfl
    · refine ld_bipush O (pc := 22) (v := (-2 : Int32)) dX3_crates_22 (by decide) ?_
      refine ld_ireti E dX3_crates_24 ?_
      refine ⟨?_, σ 142, (us_self _ _).symm, hcr⟩
      unfold ld_fCs
      repeat' split
      all_goals first | (exfalso; omega) | rfl
  · refine ld_bipush O (pc := 7) (v := (-3 : Int32)) dX3_crates_7 (by decide) ?_
    refine ld_ireti E dX3_crates_9 ?_
    refine ⟨?_, σ 142, (us_self _ _).symm, hcr⟩
    unfold ld_fCs
    repeat' split
    all_goals first | (exfalso; omega) | rfl
set_option maxHeartbeats 4000000 in
set_option maxRecDepth 100000 in
theorem c_X3_share (l : Launch) (ad : Nat → Nat) (σ : ld_St) (u : Nat) (hu : u ≤ 100) (which : Int32) : ld_Ctr l yX3_share cX3_share 11 (some .long) (0, 0) [.long (lN u), .long (100 : Int64), .int which] ad σ (ld_L (fun (r : Int64) (σ2 : ld_St) => r = (if which.toInt = 0 then lN (u / Nat.gcd u 100) else lN (100 / Nat.gcd u 100)) ∧ σ2 = σ)) := by
  refine ld_entry (by decide +kernel) (Nat.le_of_ble_eq_true rfl) (fun K O E => ?_)
  have O : ld_Ok l K ad cX3_share 11 RX3 (ld_rm (0, 0)) := O
  show K σ [(0, .long (lN u)), (2, .long (100 : Int64)), (4, .int which)] [] 0
  refine ld_lload_n O (pc := 0) 0 dX3_share_0 rfl rfl ?_
  refine ld_lstore O (pc := 1) [(5, .long (lN u)), (0, .long (lN u)), (2, .long (100 : Int64)), (4, .int which)] dX3_share_1 (by decide) rfl ?_
  refine ld_lload_n O (pc := 3) 2 dX3_share_3 rfl rfl ?_
  refine ld_lstore O (pc := 4) [(7, .long (100 : Int64)), (5, .long (lN u)), (0, .long (lN u)), (2, .long (100 : Int64)), (4, .int which)] dX3_share_4 (by decide) rfl ?_
  have L6 : ∀ (m_6 : Nat) (x : Nat) (y : Nat), y < m_6 → (Nat.gcd x y = Nat.gcd u 100) → (x ≤ 100) → (y ≤ 100) → K σ [(0, .long (lN u)), (2, .long (100 : Int64)), (4, .int which), (5, .long (lN x)), (7, .long (lN y))] [] 6 := by
    intro m_6
    induction m_6 with
    | zero => intro x y hm_; exact absurd hm_ (Nat.not_lt_zero _)
    | succ m_6 ih6 =>
      intro x y hm_6 hg hx hy
      refine ld_lload O (pc := 6) 4 dX3_share_6 rfl ?_
      refine ld_lconst O (pc := 8) (v := (0 : Int64)) dX3_share_8 (by decide) ?_
      refine ld_lcmp O (pc := 9) dX3_share_9 ?_
      have hq2 := ld_cmp_i (x := lN y) (y := (0 : Int64)) (X := ((y : Nat) : Int)) (Y := 0) (lN_toInt (by omega)) (by decide)
      refine ld_if_eq O (pc := 10) _ rfl 31 dX3_share_10 (by decide) (fun c1 => ?_) (fun c1 => ?_)
      · have c1 : ((y : Nat) : Int) = 0 := by omega
        have hp_ : 0 < Nat.gcd u 100 := Nat.gcd_pos_of_pos_right u (by decide)
        have hx0_ : x = Nat.gcd u 100 := by rw [← hg, show y = 0 by omega, Nat.gcd_zero_right]
        refine ld_iload O (pc := 31) 2 dX3_share_31 rfl ?_
        refine ld_if_ne O (pc := 33) (which).toInt rfl 40 dX3_share_33 (by decide) (fun c3 => ?_) (fun c3 => ?_)
        · refine ld_lload_n O (pc := 40) 1 dX3_share_40 rfl rfl ?_
          refine ld_lload O (pc := 41) 3 dX3_share_41 rfl ?_
          refine ld_ldiv O (pc := 43) dX3_share_43 (ld_gz (by omega) (by omega)) ?_
          refine ld_lret E dX3_share_44 ?_
          refine ⟨?_, rfl⟩
          first | (rw [if_pos (by omega), ← hx0_]; exact pk_lDiv (by omega) (by omega) (by omega)) | (rw [if_neg (by omega), ← hx0_]; exact pk_lDiv (a := 100) (by omega) (by omega) (by omega))
        · refine ld_lload_n O (pc := 36) 0 dX3_share_36 rfl rfl ?_
          refine ld_goto O (pc := 37) 41 dX3_share_37 (by decide) ?_
          refine ld_lload O (pc := 41) 3 dX3_share_41 rfl ?_
          refine ld_ldiv O (pc := 43) dX3_share_43 (ld_gz (by omega) (by omega)) ?_
          refine ld_lret E dX3_share_44 ?_
          refine ⟨?_, rfl⟩
          first | (rw [if_pos (by omega), ← hx0_]; exact pk_lDiv (by omega) (by omega) (by omega)) | (rw [if_neg (by omega), ← hx0_]; exact pk_lDiv (a := 100) (by omega) (by omega) (by omega))
      · have c1 : ¬ ((y : Nat) : Int) = 0 := by omega
        have hm_ := Nat.mod_lt x (show 0 < y by omega)
        refine ld_lload O (pc := 13) 3 dX3_share_13 rfl ?_
        refine ld_lload O (pc := 15) 4 dX3_share_15 rfl ?_
        refine ld_lrem O (pc := 17) dX3_share_17 (ld_gz (by omega) (by omega)) ?_
        rw [pk_lRem (by omega) (by omega) (by omega)]
        refine ld_lstore O (pc := 18) [(9, .long (lN (x % y))), (0, .long (lN u)), (2, .long (100 : Int64)), (4, .int which), (5, .long (lN x)), (7, .long (lN y))] dX3_share_18 (by decide) rfl ?_
        refine ld_lload O (pc := 20) 5 dX3_share_20 rfl ?_
        refine ld_lstore O (pc := 22) [(5, .long (lN y)), (9, .long (lN (x % y))), (0, .long (lN u)), (2, .long (100 : Int64)), (4, .int which), (7, .long (lN y))] dX3_share_22 (by decide) rfl ?_
        refine ld_lload O (pc := 24) 1 dX3_share_24 rfl ?_
        refine ld_lstore O (pc := 26) [(7, .long (lN (x % y))), (5, .long (lN y)), (9, .long (lN (x % y))), (0, .long (lN u)), (2, .long (100 : Int64)), (4, .int which)] dX3_share_26 (by decide) rfl ?_
        refine ld_goto O (pc := 28) 6 dX3_share_28 (by decide) ?_
        refine ld_less O [3, 4, 5, 1, 0] (lv2 := [(0, .long (lN u)), (2, .long (100 : Int64)), (4, .int which), (5, .long (lN y)), (7, .long (lN (x % y)))]) rfl ?_
        exact ih6 y (x % y) (by omega) (by rw [← hg, Nat.gcd_comm x y, Nat.gcd_rec y x, Nat.gcd_comm]) hy (Nat.le_trans (Nat.le_of_lt (Nat.mod_lt x (by omega))) hy)
  refine ld_less O [2, 3, 4, 1, 0] (lv2 := [(0, .long (lN u)), (2, .long (100 : Int64)), (4, .int which), (5, .long (lN u)), (7, .long (lN 100))]) rfl ?_
  exact L6 _ u 100 (Nat.lt_succ_self _) rfl hu (Nat.le_refl _)
set_option maxHeartbeats 4000000 in
set_option maxRecDepth 100000 in
theorem c_X3_odds (l : Launch) (ad : Nat → Nat) (σ : ld_St) (h : Nat) (hh : σ 141 0 = nI h) (h8 : h ≤ 8) (hkt : ld_kt h (σ 20) (σ 21)) (k v which : Int32) : ld_Ctr l yX3_odds cX3_odds 7 (some .long) (3, 74) [.ref (ad 8), .int k, .int v, .int which] ad σ (ld_L (fun (r : Int64) (σ2 : ld_St) => r = ld_fOd h (σ 20) (σ 21) k v which ∧ σ2 = σ)) := by
  refine ld_entry (by decide +kernel) (Nat.le_of_ble_eq_true rfl) (fun K O E => ?_)
  have O : ld_Ok l K ad cX3_odds 7 RX3 (ld_rm (3, 74)) := O
  show K σ [(0, .ref (ad 8)), (1, .int k), (2, .int v), (3, .int which)] [] 0
  refine ld_aload_n O (pc := 0) 0 dX3_odds_0 rfl rfl ?_
  refine ld_iload_n O (pc := 1) 1 dX3_odds_1 rfl rfl ?_
  refine ld_callVi O (pc := 2) (As := [.int k]) (st := []) ld_recv8 (c_X3_noHouse l ad σ k h hh h8) ld_mw_X3_noHouse ld_w194 rfl rfl ⟨by decide, by decide⟩ (Nat.le_of_ble_eq_true rfl) dX3_odds_2 (fun r_p2 σ_p2 h_p2 => ?_)
  obtain ⟨rfl, hσ_p2⟩ := h_p2
  rw [hσ_p2]
  show K σ [(0, .ref (ad 8)), (1, .int k), (2, .int v), (3, .int which)] [.int (ld_b (¬ (0 ≤ (k).toInt ∧ (k).toInt < (h : Int))))] 5
  refine ld_ifb_ne O (pc := 5) 25 dX3_odds_5 (by decide) (fun c1 => ?_) (fun c1 => ?_)
  · refine ld_callSl O (pc := 25) (As := []) (st := []) (c_X3_lost l ad σ ) ld_mw_X3_lost ld_w498 rfl rfl ⟨by decide, by decide⟩ (Nat.le_of_ble_eq_true rfl) dX3_odds_25 (fun r_p25 σ_p25 h_p25 => ?_)
    obtain ⟨rfl, hσ_p25⟩ := h_p25
    rw [hσ_p25]
    show K σ [(0, .ref (ad 8)), (1, .int k), (2, .int v), (3, .int which)] [.long (-9223372036854775808 : Int64)] 28
    refine ld_lret E dX3_odds_28 ?_
    refine ⟨?_, rfl⟩
    unfold ld_fOd
    rw [if_neg (by omega)]
  · replace c1 := Classical.byContradiction c1
    obtain ⟨ek_k, hk_k, ik_k⟩ := ld_ofIx (k := k) (h := h) (by omega)
    rw [ek_k]
    refine ld_iload_n O (pc := 8) 2 dX3_odds_8 rfl rfl ?_
    refine ld_callSi O (pc := 9) (As := [.int v]) (st := []) (c_X3_isCrate l ad σ v) ld_mw_X3_isCrate ld_w240 rfl rfl ⟨by decide, by decide⟩ (Nat.le_of_ble_eq_true rfl) dX3_odds_9 (fun r_p9 σ_p9 h_p9 => ?_)
    obtain ⟨rfl, hσ_p9⟩ := h_p9
    rw [hσ_p9]
    show K σ [(0, .ref (ad 8)), (1, .int (nI (ld_ix k))), (2, .int v), (3, .int which)] [.int (ld_b (0 ≤ (v).toInt ∧ (v).toInt < 100))] 12
    refine ld_ifb_eq O (pc := 12) 25 dX3_odds_12 (by decide) (fun c2 => ?_) (fun c2 => ?_)
    · refine ld_callSl O (pc := 25) (As := []) (st := []) (c_X3_lost l ad σ ) ld_mw_X3_lost ld_w498 rfl rfl ⟨by decide, by decide⟩ (Nat.le_of_ble_eq_true rfl) dX3_odds_25 (fun r_p25 σ_p25 h_p25 => ?_)
      obtain ⟨rfl, hσ_p25⟩ := h_p25
      rw [hσ_p25]
      show K σ [(0, .ref (ad 8)), (1, .int (nI (ld_ix k))), (2, .int v), (3, .int which)] [.long (-9223372036854775808 : Int64)] 28
      refine ld_lret E dX3_odds_28 ?_
      refine ⟨?_, rfl⟩
      unfold ld_fOd
      rw [if_neg (by omega)]
    · refine ld_iload_n O (pc := 15) 3 dX3_odds_15 rfl rfl ?_
      have hl3 : (which.toInt64).toInt = (which).toInt := (Int32.toInt_toInt64 _).trans rfl
      refine ld_i2l O (pc := 16) dX3_odds_16 ?_
      refine ld_lconst O (pc := 17) (v := (0 : Int64)) dX3_odds_17 (by decide) ?_
      refine ld_lconst O (pc := 18) (v := (1 : Int64)) dX3_odds_18 (by decide) ?_
      refine ld_callSi O (pc := 19) (As := [.long which.toInt64, .long (0 : Int64), .long (1 : Int64)]) (st := []) (c_X3_in l ad σ which.toInt64 (0 : Int64) (1 : Int64) ((which).toInt) 0 1 hl3 (by decide) (by decide)) ld_mw_X3_in ld_w128 rfl rfl ⟨by decide, by decide⟩ (Nat.le_of_ble_eq_true rfl) dX3_odds_19 (fun r_p19 σ_p19 h_p19 => ?_)
      obtain ⟨rfl, hσ_p19⟩ := h_p19
      rw [hσ_p19]
      show K σ [(0, .ref (ad 8)), (1, .int (nI (ld_ix k))), (2, .int v), (3, .int which)] [.int (ld_b (0 ≤ (which).toInt ∧ (which).toInt ≤ 1))] 22
      refine ld_ifb_ne O (pc := 22) 29 dX3_odds_22 (by decide) (fun c4 => ?_) (fun c4 => ?_)
      · refine ld_lconst O (pc := 29) (v := (0 : Int64)) dX3_odds_29 (by decide) ?_
        refine ld_lstore O (pc := 30) [(4, .long (0 : Int64)), (0, .ref (ad 8)), (1, .int (nI (ld_ix k))), (2, .int v), (3, .int which)] dX3_odds_30 (by decide) rfl ?_
        refine ld_iconst O (pc := 32) (v := nI 0) dX3_odds_32 (by decide) ?_
        refine ld_istore O (pc := 33) [(6, .int (nI 0)), (4, .long (0 : Int64)), (0, .ref (ad 8)), (1, .int (nI (ld_ix k))), (2, .int v), (3, .int which)] dX3_odds_33 (by decide) rfl ?_
        have L35 : ∀ (m_35 : Nat) (i : Nat) (up : Nat), 100 - i < m_35 → (i ≤ 100) → (up = ld_up h (σ 20) (σ 21) (ld_ix k) v i) → (up ≤ i) → K σ [(0, .ref (ad 8)), (1, .int (nI (ld_ix k))), (2, .int v), (3, .int which), (4, .long (lN up)), (6, .int (nI i))] [] 35 := by
          intro m_35
          induction m_35 with
          | zero => intro i up hm_; exact absurd hm_ (Nat.not_lt_zero _)
          | succ m_35 ih35 =>
            intro i up hm_35 hi hu hui
            refine ld_iload O (pc := 35) 5 dX3_odds_35 rfl ?_
            refine ld_bipush O (pc := 37) (v := nI 100) dX3_odds_37 (by decide) ?_
            refine ld_icmp_ge O (pc := 39) ((i : Nat) : Int) 100 (nI_toInt (by omega)) (by decide) 69 dX3_odds_39 (by decide) (fun c5 => ?_) (fun c5 => ?_)
            · refine ld_lload O (pc := 69) 4 dX3_odds_69 rfl ?_
              refine ld_ldc2 O (pc := 71) (v := (100 : Int64)) dX3_odds_71 ld_w497 ?_
              refine ld_iload_n O (pc := 74) 3 dX3_odds_74 rfl rfl ?_
              refine ld_callSl O (pc := 75) (As := [.long (lN up), .long (100 : Int64), .int which]) (st := []) (c_X3_share l ad σ up (by omega) which) ld_mw_X3_share ld_w502 rfl rfl ⟨by decide, by decide⟩ (Nat.le_of_ble_eq_true rfl) dX3_odds_75 (fun r_p75 σ_p75 h_p75 => ?_)
              obtain ⟨rfl, hσ_p75⟩ := h_p75
              rw [hσ_p75]
              show K σ [(0, .ref (ad 8)), (1, .int (nI (ld_ix k))), (2, .int v), (3, .int which), (4, .long (lN up)), (6, .int (nI i))] [.long (if (which).toInt = 0 then lN (up / Nat.gcd up 100) else lN (100 / Nat.gcd up 100))] 78
              refine ld_lret E dX3_odds_78 ?_
              refine ⟨?_, rfl⟩
              unfold ld_fOd
              rw [show i = 100 by omega] at hu
              rw [← hu]
              exact (if_pos ⟨by omega, by omega, by omega⟩).symm
            · refine ld_lload O (pc := 42) 4 dX3_odds_42 rfl ?_
              refine ld_aload_n O (pc := 44) 0 dX3_odds_44 rfl rfl ?_
              refine ld_iload_n O (pc := 45) 1 dX3_odds_45 rfl rfl ?_
              refine ld_iload O (pc := 46) 5 dX3_odds_46 rfl ?_
              refine ld_callVi O (pc := 48) (As := [.int (nI (ld_ix k)), .int (nI i)]) (st := [.long (lN up)]) ld_recv8 (c_X3_dealtTo l ad σ h hh h8 hkt (ld_ix k) (by omega) (nI i)) ld_mw_X3_dealtTo ld_w202 rfl rfl ⟨by decide, by decide⟩ (Nat.le_of_ble_eq_true rfl) dX3_odds_48 (fun r_p48 σ_p48 h_p48 => ?_)
              obtain ⟨rfl, hσ_p48⟩ := h_p48
              rw [hσ_p48]
              show K σ [(0, .ref (ad 8)), (1, .int (nI (ld_ix k))), (2, .int v), (3, .int which), (4, .long (lN up)), (6, .int (nI i))] [.int (ld_dt h (σ 20) (σ 21) (nI i) (ld_ix k)), .long (lN up)] 51
              refine ld_iload_n O (pc := 51) 2 dX3_odds_51 rfl rfl ?_
              refine ld_icmp_lt O (pc := 52) (ld_dt h (σ 20) (σ 21) (nI i) (ld_ix k)).toInt (v).toInt rfl rfl 59 dX3_odds_52 (by decide) (fun c6 => ?_) (fun c6 => ?_)
              · refine ld_lconst O (pc := 59) (v := (0 : Int64)) dX3_odds_59 (by decide) ?_
                have hl7 : ((lN up) + (0 : Int64)).toInt = ((up : Nat) : Int) + 0 := by
                  have a1 : (lN up).toInt = ((up : Nat) : Int) := (lN_toInt (by omega))
                  have a2 : (0 : Int64).toInt = 0 := (by decide)
                  rw [ld_fb_addL a1 a2 (by omega) (by omega)]
                refine ld_ladd O (pc := 60) dX3_odds_60 ?_
                rw [Int64.add_zero]
                refine ld_lstore O (pc := 61) [(4, .long (lN up)), (0, .ref (ad 8)), (1, .int (nI (ld_ix k))), (2, .int v), (3, .int which), (6, .int (nI i))] dX3_odds_61 (by decide) rfl ?_
                refine ld_iincN O (pc := 63) [(6, .int (nI (i + 1))), (4, .long (lN up)), (0, .ref (ad 8)), (1, .int (nI (ld_ix k))), (2, .int v), (3, .int which)] 5 dX3_odds_63 rfl (by decide) rfl ?_
                refine ld_goto O (pc := 66) 35 dX3_odds_66 (by decide) ?_
                refine ld_less O [2, 3, 4, 5, 1, 0] (lv2 := [(0, .ref (ad 8)), (1, .int (nI (ld_ix k))), (2, .int v), (3, .int which), (4, .long (lN up)), (6, .int (nI (i + 1)))]) rfl ?_
                exact ih35 (i + 1) up (by omega) (by omega) (ld_ct_f hu (fun z => by have z2 := of_decide_eq_true z; omega)) (by omega)
              · refine ld_lconst O (pc := 55) (v := (1 : Int64)) dX3_odds_55 (by decide) ?_
                refine ld_goto O (pc := 56) 60 dX3_odds_56 (by decide) ?_
                have hl8 : ((lN up) + (1 : Int64)).toInt = ((up : Nat) : Int) + 1 := by
                  have a1 : (lN up).toInt = ((up : Nat) : Int) := (lN_toInt (by omega))
                  have a2 : (1 : Int64).toInt = 1 := (by decide)
                  rw [ld_fb_addL a1 a2 (by omega) (by omega)]
                refine ld_ladd O (pc := 60) dX3_odds_60 ?_
                rw [lN_1]
                refine ld_lstore O (pc := 61) [(4, .long (lN (up + 1))), (0, .ref (ad 8)), (1, .int (nI (ld_ix k))), (2, .int v), (3, .int which), (6, .int (nI i))] dX3_odds_61 (by decide) rfl ?_
                refine ld_iincN O (pc := 63) [(6, .int (nI (i + 1))), (4, .long (lN (up + 1))), (0, .ref (ad 8)), (1, .int (nI (ld_ix k))), (2, .int v), (3, .int which)] 5 dX3_odds_63 rfl (by decide) rfl ?_
                refine ld_goto O (pc := 66) 35 dX3_odds_66 (by decide) ?_
                refine ld_less O [2, 3, 4, 5, 1, 0] (lv2 := [(0, .ref (ad 8)), (1, .int (nI (ld_ix k))), (2, .int v), (3, .int which), (4, .long (lN (up + 1))), (6, .int (nI (i + 1)))]) rfl ?_
                exact ih35 (i + 1) (up + 1) (by omega) (by omega) (ld_ct_t hu (decide_eq_true (by omega))) (by omega)
        refine ld_less O [2, 3, 4, 5, 1, 0] (lv2 := [(0, .ref (ad 8)), (1, .int (nI (ld_ix k))), (2, .int v), (3, .int which), (4, .long (lN 0)), (6, .int (nI 0))]) rfl ?_
        exact L35 _ 0 0 (Nat.lt_succ_self _) (Nat.zero_le _) rfl (Nat.le_refl _)
      · refine ld_callSl O (pc := 25) (As := []) (st := []) (c_X3_lost l ad σ ) ld_mw_X3_lost ld_w498 rfl rfl ⟨by decide, by decide⟩ (Nat.le_of_ble_eq_true rfl) dX3_odds_25 (fun r_p25 σ_p25 h_p25 => ?_)
        obtain ⟨rfl, hσ_p25⟩ := h_p25
        rw [hσ_p25]
        show K σ [(0, .ref (ad 8)), (1, .int (nI (ld_ix k))), (2, .int v), (3, .int which)] [.long (-9223372036854775808 : Int64)] 28
        refine ld_lret E dX3_odds_28 ?_
        refine ⟨?_, rfl⟩
        unfold ld_fOd
        rw [if_neg (by omega)]
