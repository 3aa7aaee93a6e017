set_option maxHeartbeats 4000000 in
set_option maxRecDepth 100000 in
theorem c_X3_ofHouse (l : Launch) (ad : Nat → Nat) (σ : ld_St) (h : Nat) (hh : σ 141 0 = nI h) (h8 : h ≤ 8) (hkt : ld_kt h (σ 20) (σ 21)) (k what : Int32) : ld_Ctr l yX3_ofHouse cX3_ofHouse 3 (some .int) (3, 74) [.ref (ad 8), .int k, .int what] ad σ (ld_I (fun (r : Int32) (σ2 : ld_St) => r = ld_fOf h (σ 142 0) (σ 20) (σ 21) (σ 22) (σ 23) k what ∧ σ2 = σ)) := by
  refine ld_entry (by decide +kernel) (Nat.le_of_ble_eq_true rfl) (fun K O E => ?_)
  have O : ld_Ok l K ad cX3_ofHouse 3 RX3 (ld_rm (3, 74)) := O
  show K σ [(0, .ref (ad 8)), (1, .int k), (2, .int what)] [] 0
  refine ld_aload_n O (pc := 0) 0 dX3_ofHouse_0 rfl rfl ?_
  refine ld_iload_n O (pc := 1) 1 dX3_ofHouse_1 rfl rfl ?_
  refine ld_callVi O (pc := 2) (As := [.int k]) (st := []) ld_recv8 (c_X3_noHouse l ad σ k h hh h8) ld_mw_X3_noHouse ld_w194 rfl rfl ⟨by decide, by decide⟩ (Nat.le_of_ble_eq_true rfl) dX3_ofHouse_2 (fun r_p2 σ_p2 h_p2 => ?_)
  obtain ⟨rfl, hσ_p2⟩ := h_p2
  rw [hσ_p2]
  show K σ [(0, .ref (ad 8)), (1, .int k), (2, .int what)] [.int (ld_b (¬ (0 ≤ (k).toInt ∧ (k).toInt < (h : Int))))] 5
  refine ld_ifb_eq O (pc := 5) 10 dX3_ofHouse_5 (by decide) (fun c1 => ?_) (fun c1 => ?_)
  · replace c1 := Classical.byContradiction c1
    obtain ⟨ek_k, hk_k, ik_k⟩ := ld_ofIx (k := k) (h := h) (by omega)
    rw [ek_k]
    refine ld_iload_n O (pc := 10) 2 dX3_ofHouse_10 rfl rfl ?_
    by_cases t2 : (what).toInt = 0
    · refine ld_tabIn O (pc := 11) 52 dX3_ofHouse_11 (by omega) (by omega) (off := 41) (by rw [t2]; rfl) (by decide) ?_
      refine ld_aload_n O (pc := 52) 0 dX3_ofHouse_52 rfl rfl ?_
      refine ld_g_M_kindOf O (pc := 53) ld_w51 dX3_ofHouse_53 ?_
      refine ld_iload_n O (pc := 56) 1 dX3_ofHouse_56 rfl rfl ?_
      refine ld_iald O (pc := 57) 20 (ld_ix k) (v := σ 20 (ld_ix k)) rfl (by decide) (show ld_ix k < 8 by omega) rfl dX3_ofHouse_57 ?_
      refine ld_ireti E dX3_ofHouse_58 ?_
      refine ⟨?_, rfl⟩
      unfold ld_fOf
      repeat' split
      all_goals first | (exfalso; omega) | rfl
    by_cases t3 : (what).toInt = 1
    · refine ld_tabIn O (pc := 11) 59 dX3_ofHouse_11 (by omega) (by omega) (off := 48) (by rw [t3]; rfl) (by decide) ?_
      refine ld_aload_n O (pc := 59) 0 dX3_ofHouse_59 rfl rfl ?_
      refine ld_g_M_temperOf O (pc := 60) ld_w52 dX3_ofHouse_60 ?_
      refine ld_iload_n O (pc := 63) 1 dX3_ofHouse_63 rfl rfl ?_
      refine ld_iald O (pc := 64) 21 (ld_ix k) (v := σ 21 (ld_ix k)) rfl (by decide) (show ld_ix k < 8 by omega) rfl dX3_ofHouse_64 ?_
      refine ld_ireti E dX3_ofHouse_65 ?_
      refine ⟨?_, rfl⟩
      unfold ld_fOf
      repeat' split
      all_goals first | (exfalso; omega) | rfl
    by_cases t4 : (what).toInt = 2
    · refine ld_tabIn O (pc := 11) 66 dX3_ofHouse_11 (by omega) (by omega) (off := 55) (by rw [t4]; rfl) (by decide) ?_
      refine ld_aload_n O (pc := 66) 0 dX3_ofHouse_66 rfl rfl ?_
      refine ld_g_M_stockOf O (pc := 67) ld_w53 dX3_ofHouse_67 ?_
      refine ld_iload_n O (pc := 70) 1 dX3_ofHouse_70 rfl rfl ?_
      refine ld_iald O (pc := 71) 22 (ld_ix k) (v := σ 22 (ld_ix k)) rfl (by decide) (show ld_ix k < 8 by omega) rfl dX3_ofHouse_71 ?_
      refine ld_ireti E dX3_ofHouse_72 ?_
      refine ⟨?_, rfl⟩
      unfold ld_fOf
      repeat' split
      all_goals first | (exfalso; omega) | rfl
    by_cases t5 : (what).toInt = 3
    · refine ld_tabIn O (pc := 11) 73 dX3_ofHouse_11 (by omega) (by omega) (off := 62) (by rw [t5]; rfl) (by decide) ?_
      refine ld_aload_n O (pc := 73) 0 dX3_ofHouse_73 rfl rfl ?_
      refine ld_g_M_pipsOf O (pc := 74) ld_w54 dX3_ofHouse_74 ?_
      refine ld_iload_n O (pc := 77) 1 dX3_ofHouse_77 rfl rfl ?_
      refine ld_iald O (pc := 78) 23 (ld_ix k) (v := σ 23 (ld_ix k)) rfl (by decide) (show ld_ix k < 8 by omega) rfl dX3_ofHouse_78 ?_
      refine ld_ireti E dX3_ofHouse_79 ?_
      refine ⟨?_, rfl⟩
      unfold ld_fOf
      repeat' split
      all_goals first | (exfalso; omega) | rfl
    by_cases t6 : (what).toInt = 4
    · refine ld_tabIn O (pc := 11) 80 dX3_ofHouse_11 (by omega) (by omega) (off := 69) (by rw [t6]; rfl) (by decide) ?_
      refine ld_aload_n O (pc := 80) 0 dX3_ofHouse_80 rfl rfl ?_
      refine ld_g_M_pipsOf O (pc := 81) ld_w54 dX3_ofHouse_81 ?_
      refine ld_iload_n O (pc := 84) 1 dX3_ofHouse_84 rfl rfl ?_
      refine ld_iald O (pc := 85) 23 (ld_ix k) (v := σ 23 (ld_ix k)) rfl (by decide) (show ld_ix k < 8 by omega) rfl dX3_ofHouse_85 ?_
      refine ld_iconst O (pc := 86) (v := nI 4) dX3_ofHouse_86 (by decide) ?_
      refine ld_idiv O (pc := 87) dX3_ofHouse_87 (by decide) ?_
      refine ld_ireti E dX3_ofHouse_88 ?_
      refine ⟨?_, rfl⟩
      unfold ld_fOf
      repeat' split
      all_goals first | (exfalso; omega) | rfl
    by_cases t7 : (what).toInt = 5
    · refine ld_tabIn O (pc := 11) 89 dX3_ofHouse_11 (by omega) (by omega) (off := 78) (by rw [t7]; rfl) (by decide) ?_
      refine ld_aload_n O (pc := 89) 0 dX3_ofHouse_89 rfl rfl ?_
      refine ld_iload_n O (pc := 90) 1 dX3_ofHouse_90 rfl rfl ?_
      refine ld_callVi O (pc := 91) (As := [.int (nI (ld_ix k))]) (st := []) ld_recv8 (c_X3_sourOf l ad σ (ld_ix k) (by omega) (hkt _ (by omega)).1) ld_mw_X3_sourOf ld_w198 rfl rfl ⟨by decide, by decide⟩ (Nat.le_of_ble_eq_true rfl) dX3_ofHouse_91 (fun r_p91 σ_p91 h_p91 => ?_)
      obtain ⟨rfl, hσ_p91⟩ := h_p91
      rw [hσ_p91]
      show K σ [(0, .ref (ad 8)), (1, .int (nI (ld_ix k))), (2, .int what)] [.int (ld_sr (σ 20 (ld_ix k)) (σ 21 (ld_ix k)))] 94
      refine ld_ireti E dX3_ofHouse_94 ?_
      refine ⟨?_, rfl⟩
      unfold ld_fOf
      repeat' split
      all_goals first | (exfalso; omega) | rfl
    by_cases t8 : (what).toInt = 6
    · refine ld_tabIn O (pc := 11) 95 dX3_ofHouse_11 (by omega) (by omega) (off := 84) (by rw [t8]; rfl) (by decide) ?_
      refine ld_aload_n O (pc := 95) 0 dX3_ofHouse_95 rfl rfl ?_
      refine ld_iload_n O (pc := 96) 1 dX3_ofHouse_96 rfl rfl ?_
      refine ld_aload_n O (pc := 97) 0 dX3_ofHouse_97 rfl rfl ?_
      refine ld_g_M_crateNow O (pc := 98) (v := σ 142 0) ld_w121 rfl dX3_ofHouse_98 ?_
      refine ld_callVi O (pc := 101) (As := [.int (nI (ld_ix k)), .int (σ 142 0)]) (st := []) ld_recv8 (c_X3_dealtTo l ad σ h hh h8 hkt (ld_ix k) (by omega) (σ 142 0)) ld_mw_X3_dealtTo ld_w202 rfl rfl ⟨by decide, by decide⟩ (Nat.le_of_ble_eq_true rfl) dX3_ofHouse_101 (fun r_p101 σ_p101 h_p101 => ?_)
      obtain ⟨rfl, hσ_p101⟩ := h_p101
      rw [hσ_p101]
      show K σ [(0, .ref (ad 8)), (1, .int (nI (ld_ix k))), (2, .int what)] [.int (ld_dt h (σ 20) (σ 21) (σ 142 0) (ld_ix k))] 104
      refine ld_ireti E dX3_ofHouse_104 ?_
      refine ⟨?_, rfl⟩
      unfold ld_fOf
      repeat' split
      all_goals first | (exfalso; omega) | rfl
    refine ld_tabOut O (pc := 11) 105 dX3_ofHouse_11 (by omega) (by decide) ?_
    refine ld_bipush O (pc := 105) (v := (-2 : Int32)) dX3_ofHouse_105 (by decide) ?_
    refine ld_ireti E dX3_ofHouse_107 ?_
    refine ⟨?_, rfl⟩
    unfold ld_fOf
    repeat' split
    all_goals first | (exfalso; omega) | rfl
  · refine ld_iconst O (pc := 8) (v := (-1 : Int32)) dX3_ofHouse_8 (by decide) ?_
    refine ld_ireti E dX3_ofHouse_9 ?_
    refine ⟨?_, rfl⟩
    unfold ld_fOf
    repeat' split
    all_goals first | (exfalso; omega) | rfl
set_option maxHeartbeats 4000000 in
set_option maxRecDepth 100000 in
theorem c_X3_anger (l : Launch) (ad : Nat → Nat) (σ : ld_St) (h : Nat) (hh : σ 141 0 = nI h) (h8 : h ≤ 8) (k v : Int32) : ld_Ctr l yX3_anger cX3_anger 4 (some .int) (2, 46) [.ref (ad 8), .int k, .int v] ad σ (ld_I (fun (r : Int32) (σ2 : ld_St) => r = ld_fAn h (σ 21) k v ∧ σ2 = us σ 21 (ld_gAn h (σ 21) k v))) := by
  refine ld_entry (by decide +kernel) (Nat.le_of_ble_eq_true rfl) (fun K O E => ?_)
  have O : ld_Ok l K ad cX3_anger 4 RX3 (ld_rm (2, 46)) := O
  show K σ [(0, .ref (ad 8)), (1, .int k), (2, .int v)] [] 0
  refine ld_aload_n O (pc := 0) 0 dX3_anger_0 rfl rfl ?_
  refine ld_iload_n O (pc := 1) 1 dX3_anger_1 rfl rfl ?_
  refine ld_callVi O (pc := 2) (As := [.int k]) (st := []) ld_recv8 (c_X3_noHouse l ad σ k h hh h8) ld_mw_X3_noHouse ld_w194 rfl rfl ⟨by decide, by decide⟩ (Nat.le_of_ble_eq_true rfl) dX3_anger_2 (fun r_p2 σ_p2 h_p2 => ?_)
  obtain ⟨rfl, hσ_p2⟩ := h_p2
  rw [hσ_p2]
  show K σ [(0, .ref (ad 8)), (1, .int k), (2, .int v)] [.int (ld_b (¬ (0 ≤ (k).toInt ∧ (k).toInt < (h : Int))))] 5
  refine ld_ifb_eq O (pc := 5) 10 dX3_anger_5 (by decide) (fun c1 => ?_) (fun c1 => ?_)
  · replace c1 := Classical.byContradiction c1
    obtain ⟨ek_k, hk_k, ik_k⟩ := ld_ofIx (k := k) (h := h) (by omega)
    rw [ek_k]
    refine ld_iload_n O (pc := 10) 2 dX3_anger_10 rfl rfl ?_
    have hl2 : (v.toInt64).toInt = (v).toInt := (Int32.toInt_toInt64 _).trans rfl
    refine ld_i2l O (pc := 11) dX3_anger_11 ?_
    refine ld_lconst O (pc := 12) (v := (0 : Int64)) dX3_anger_12 (by decide) ?_
    refine ld_ldc2 O (pc := 13) (v := (9 : Int64)) dX3_anger_13 ld_w159 ?_
    refine ld_callSi O (pc := 16) (As := [.long v.toInt64, .long (0 : Int64), .long (9 : Int64)]) (st := []) (c_X3_in l ad σ v.toInt64 (0 : Int64) (9 : Int64) ((v).toInt) 0 (9) hl2 (by decide) (by decide)) ld_mw_X3_in ld_w128 rfl rfl ⟨by decide, by decide⟩ (Nat.le_of_ble_eq_true rfl) dX3_anger_16 (fun r_p16 σ_p16 h_p16 => ?_)
    obtain ⟨rfl, hσ_p16⟩ := h_p16
    rw [hσ_p16]
    show K σ [(0, .ref (ad 8)), (1, .int (nI (ld_ix k))), (2, .int v)] [.int (ld_b (0 ≤ (v).toInt ∧ (v).toInt ≤ (9)))] 19
    refine ld_ifb_ne O (pc := 19) 25 dX3_anger_19 (by decide) (fun c3 => ?_) (fun c3 => ?_)
    · refine ld_aload_n O (pc := 25) 0 dX3_anger_25 rfl rfl ?_
      refine ld_g_M_temperOf O (pc := 26) ld_w52 dX3_anger_26 ?_
      refine ld_iload_n O (pc := 29) 1 dX3_anger_29 rfl rfl ?_
      refine ld_iald O (pc := 30) 21 (ld_ix k) (v := σ 21 (ld_ix k)) rfl (by decide) (show ld_ix k < 8 by omega) rfl dX3_anger_30 ?_
      refine ld_istore_n O (pc := 31) [(3, .int (σ 21 (ld_ix k))), (0, .ref (ad 8)), (1, .int (nI (ld_ix k))), (2, .int v)] dX3_anger_31 rfl (by decide) rfl ?_
      refine ld_aload_n O (pc := 32) 1 dX3_anger_32 rfl rfl ?_
      refine ld_g_M_temperOf O (pc := 33) ld_w52 dX3_anger_33 ?_
      refine ld_iload_n O (pc := 36) 2 dX3_anger_36 rfl rfl ?_
      refine ld_iload_n O (pc := 37) 3 dX3_anger_37 rfl rfl ?_
      refine ld_iast O (pc := 38) 21 (ld_ix k) rfl (by decide) (show ld_ix k < 8 by omega) dX3_anger_38 ?_
      refine ld_iload_n O (pc := 39) 0 dX3_anger_39 rfl rfl ?_
      refine ld_ireti E dX3_anger_40 ?_
      refine ⟨?_, ?_⟩
      · unfold ld_fAn
        repeat' split
        all_goals first | (exfalso; omega) | rfl
      · unfold ld_gAn; rw [if_pos (by omega)]
    · refine ld_bipush O (pc := 22) (v := (-2 : Int32)) dX3_anger_22 (by decide) ?_
      refine ld_ireti E dX3_anger_24 ?_
      refine ⟨?_, ?_⟩
      · unfold ld_fAn
        repeat' split
        all_goals first | (exfalso; omega) | rfl
      · unfold ld_gAn; rw [if_neg (by omega), us_self]
  · refine ld_iconst O (pc := 8) (v := (-1 : Int32)) dX3_anger_8 (by decide) ?_
    refine ld_ireti E dX3_anger_9 ?_
    refine ⟨?_, ?_⟩
    · unfold ld_fAn
      repeat' split
      all_goals first | (exfalso; omega) | rfl
    · unfold ld_gAn; rw [if_neg (by omega), us_self]
set_option maxHeartbeats 4000000 in
set_option maxRecDepth 100000 in
theorem c_X3_crate (l : Launch) (ad : Nat → Nat) (σ : ld_St) (h : Nat) (hh : σ 141 0 = nI h) (h8 : h ≤ 8) (v : Int32) : ld_Ctr l yX3_crate cX3_crate 3 (some .int) (2, 45) [.ref (ad 8), .int v] ad σ (ld_I (fun (r : Int32) (σ2 : ld_St) => r = ld_fCr h (σ 142 0) v ∧ ∃ f : Nat → Int32, σ2 = us σ 142 f ∧ f 0 = ld_gCr h (σ 142 0) v)) := by
  refine ld_entry (by decide +kernel) (Nat.le_of_ble_eq_true rfl) (fun K O E => ?_)
  have O : ld_Ok l K ad cX3_crate 3 RX3 (ld_rm (2, 45)) := O
  show K σ [(0, .ref (ad 8)), (1, .int v)] [] 0
  refine ld_aload_n O (pc := 0) 0 dX3_crate_0 rfl rfl ?_
  refine ld_g_M_houses O (pc := 1) (v := nI h) ld_w119 hh dX3_crate_1 ?_
  refine ld_if_ne O (pc := 4) ((h : Nat) : Int) (nI_toInt (by omega)) 10 dX3_crate_4 (by decide) (fun c1 => ?_) (fun c1 => ?_)
  · refine ld_iload_n O (pc := 10) 1 dX3_crate_10 rfl rfl ?_
    refine ld_callSi O (pc := 11) (As := [.int v]) (st := []) (c_X3_isCrate l ad σ v) ld_mw_X3_isCrate ld_w240 rfl rfl ⟨by decide, by decide⟩ (Nat.le_of_ble_eq_true rfl) dX3_crate_11 (fun r_p11 σ_p11 h_p11 => ?_)
    obtain ⟨rfl, hσ_p11⟩ := h_p11
    rw [hσ_p11]
    show K σ [(0, .ref (ad 8)), (1, .int v)] [.int (ld_b (0 ≤ (v).toInt ∧ (v).toInt < 100))] 14
    refine ld_ifb_ne O (pc := 14) 20 dX3_crate_14 (by decide) (fun c2 => ?_) (fun c2 => ?_)
    · refine ld_aload_n O (pc := 20) 0 dX3_crate_20 rfl rfl ?_
      refine ld_g_M_crateNow O (pc := 21) (v := σ 142 0) ld_w121 rfl dX3_crate_21 ?_
      refine ld_istore_n O (pc := 24) [(2, .int (σ 142 0)), (0, .ref (ad 8)), (1, .int v)] dX3_crate_24 rfl (by decide) rfl ?_
      refine ld_aload_n O (pc := 25) 1 dX3_crate_25 rfl rfl ?_
      refine ld_iload_n O (pc := 26) 2 dX3_crate_26 rfl rfl ?_
      refine ld_p_M_crateNow O (pc := 27) ld_w121 dX3_crate_27 ?_
      refine ld_iload_n O (pc := 30) 0 dX3_crate_30 rfl rfl ?_
      refine ld_ireti E dX3_crate_31 ?_
      refine ⟨?_, fun _ => v, rfl, ?_⟩
      · unfold ld_fCr
        repeat' split
        all_goals first | (exfalso; omega) | rfl
      · unfold ld_gCr
        repeat' split
        all_goals first | (exfalso; omega) | rfl
    · refine ld_bipush O (pc := 17) (v := (-2 : Int32)) dX3_crate_17 (by decide) ?_
      refine ld_ireti E dX3_crate_19 ?_
      refine ⟨?_, σ 142, (us_self _ _).symm, ?_⟩
      · unfold ld_fCr
        repeat' split
        all_goals first | (exfalso; omega) | rfl
      · unfold ld_gCr
        repeat' split
        all_goals first | (exfalso; omega) | rfl
  · refine ld_bipush O (pc := 7) (v := (-3 : Int32)) dX3_crate_7 (by decide) ?_
    refine ld_ireti E dX3_crate_9 ?_
    refine ⟨?_, σ 142, (us_self _ _).symm, ?_⟩
    · unfold ld_fCr
      repeat' split
      all_goals first | (exfalso; omega) | rfl
    · unfold ld_gCr
      repeat' split
      all_goals first | (exfalso; omega) | rfl
set_option maxHeartbeats 4000000 in
set_option maxRecDepth 100000 in
theorem c_X3_deal (l : Launch) (ad : Nat → Nat) (σ : ld_St) (h : Nat) (hh : σ 141 0 = nI h) (h8 : h ≤ 8) (hkt : ld_kt h (σ 20) (σ 21)) (k c : Int32) : ld_Ctr l yX3_deal cX3_deal 3 (some .int) (3, 74) [.ref (ad 8), .int k, .int c] ad σ (ld_I (fun (r : Int32) (σ2 : ld_St) => r = ld_fDe h (σ 20) (σ 21) k c ∧ σ2 = σ)) := by
  refine ld_entry (by decide +kernel) (Nat.le_of_ble_eq_true rfl) (fun K O E => ?_)
  have O : ld_Ok l K ad cX3_deal 3 RX3 (ld_rm (3, 74)) := O
  show K σ [(0, .ref (ad 8)), (1, .int k), (2, .int c)] [] 0
  refine ld_aload_n O (pc := 0) 0 dX3_deal_0 rfl rfl ?_
  refine ld_iload_n O (pc := 1) 1 dX3_deal_1 rfl rfl ?_
  refine ld_callVi O (pc := 2) (As := [.int k]) (st := []) ld_recv8 (c_X3_noHouse l ad σ k h hh h8) ld_mw_X3_noHouse ld_w194 rfl rfl ⟨by decide, by decide⟩ (Nat.le_of_ble_eq_true rfl) dX3_deal_2 (fun r_p2 σ_p2 h_p2 => ?_)
  obtain ⟨rfl, hσ_p2⟩ := h_p2
  rw [hσ_p2]
  show K σ [(0, .ref (ad 8)), (1, .int k), (2, .int c)] [.int (ld_b (¬ (0 ≤ (k).toInt ∧ (k).toInt < (h : Int))))] 5
  refine ld_ifb_eq O (pc := 5) 10 dX3_deal_5 (by decide) (fun c1 => ?_) (fun c1 => ?_)
  · replace c1 := Classical.byContradiction c1
    obtain ⟨ek_k, hk_k, ik_k⟩ := ld_ofIx (k := k) (h := h) (by omega)
    rw [ek_k]
    refine ld_iload_n O (pc := 10) 2 dX3_deal_10 rfl rfl ?_
    refine ld_callSi O (pc := 11) (As := [.int c]) (st := []) (c_X3_isCrate l ad σ c) ld_mw_X3_isCrate ld_w240 rfl rfl ⟨by decide, by decide⟩ (Nat.le_of_ble_eq_true rfl) dX3_deal_11 (fun r_p11 σ_p11 h_p11 => ?_)
    obtain ⟨rfl, hσ_p11⟩ := h_p11
    rw [hσ_p11]
    show K σ [(0, .ref (ad 8)), (1, .int (nI (ld_ix k))), (2, .int c)] [.int (ld_b (0 ≤ (c).toInt ∧ (c).toInt < 100))] 14
    refine ld_ifb_eq O (pc := 14) 26 dX3_deal_14 (by decide) (fun c2 => ?_) (fun c2 => ?_)
    · refine ld_bipush O (pc := 26) (v := (-2 : Int32)) dX3_deal_26 (by decide) ?_
      refine ld_ireti E dX3_deal_28 ?_
      refine ⟨?_, rfl⟩
      unfold ld_fDe
      repeat' split
      all_goals first | (exfalso; omega) | rfl
    · refine ld_aload_n O (pc := 17) 0 dX3_deal_17 rfl rfl ?_
      refine ld_iload_n O (pc := 18) 1 dX3_deal_18 rfl rfl ?_
      refine ld_iload_n O (pc := 19) 2 dX3_deal_19 rfl rfl ?_
      refine ld_callVi O (pc := 20) (As := [.int (nI (ld_ix k)), .int c]) (st := []) ld_recv8 (c_X3_dealtTo l ad σ h hh h8 hkt (ld_ix k) (by omega) c) ld_mw_X3_dealtTo ld_w202 rfl rfl ⟨by decide, by decide⟩ (Nat.le_of_ble_eq_true rfl) dX3_deal_20 (fun r_p20 σ_p20 h_p20 => ?_)
      obtain ⟨rfl, hσ_p20⟩ := h_p20
      rw [hσ_p20]
      show K σ [(0, .ref (ad 8)), (1, .int (nI (ld_ix k))), (2, .int c)] [.int (ld_dt h (σ 20) (σ 21) c (ld_ix k))] 23
      refine ld_goto O (pc := 23) 28 dX3_deal_23 (by decide) ?_
      refine ld_ireti E dX3_deal_28 ?_
      refine ⟨?_, rfl⟩
      unfold ld_fDe
      repeat' split
      all_goals first | (exfalso; omega) | rfl
  · refine ld_iconst O (pc := 8) (v := (-1 : Int32)) dX3_deal_8 (by decide) ?_
    refine ld_ireti E dX3_deal_9 ?_
    refine ⟨?_, rfl⟩
    unfold ld_fDe
    repeat' split
    all_goals first | (exfalso; omega) | rfl
set_option maxHeartbeats 4000000 in
set_option maxRecDepth 100000 in
theorem c_X3_weeks (l : Launch) (ad : Nat → Nat) (σ : ld_St) (h : Nat) (hh : σ 141 0 = nI h) (h8 : h ≤ 8) (cr : Nat) (hcr : σ 142 0 = nI cr) (c99 : cr ≤ 99) (T : Nat) (hT : T ≤ 8900) (hbd : ld_bd h (σ 20) (σ 21) (σ 22) (σ 23) T) (n : Int32) : ld_Ctr l yX3_weeks cX3_weeks 3 (some .int) (4, 97) [.ref (ad 8), .int n] ad σ (ld_I (fun (r : Int32) (σ2 : ld_St) => r = ld_fWk h (nI cr) (σ 20) (σ 21, σ 22, σ 23) n ∧ ∃ ft fs fp fd fw : Nat → Int32, σ2 = us (us (us (us (us σ 21 ft) 22 fs) 23 fp) 27 fd) 143 fw ∧ ld_eqv h (ft, fs, fp) (ld_wks h (nI cr) (σ 20) (σ 21, σ 22, σ 23) (ld_gWk h n)) ∧ fw 0 = σ 143 0 + nI (ld_gWk h n))) := by
  refine ld_entry (by decide +kernel) (Nat.le_of_ble_eq_true rfl) (fun K O E => ?_)
  have O : ld_Ok l K ad cX3_weeks 3 RX3 (ld_rm (4, 97)) := O
  show K σ [(0, .ref (ad 8)), (1, .int n)] [] 0
  refine ld_iload_n O (pc := 0) 1 dX3_weeks_0 rfl rfl ?_
  have hl1 : (n.toInt64).toInt = (n).toInt := (Int32.toInt_toInt64 _).trans rfl
  refine ld_i2l O (pc := 1) dX3_weeks_1 ?_
  refine ld_lconst O (pc := 2) (v := (1 : Int64)) dX3_weeks_2 (by decide) ?_
  refine ld_ldc2 O (pc := 3) (v := (60 : Int64)) dX3_weeks_3 ld_w279 ?_
  refine ld_callSi O (pc := 6) (As := [.long n.toInt64, .long (1 : Int64), .long (60 : Int64)]) (st := []) (c_X3_in l ad σ n.toInt64 (1 : Int64) (60 : Int64) ((n).toInt) 1 (60) hl1 (by decide) (by decide)) ld_mw_X3_in ld_w128 rfl rfl ⟨by decide, by decide⟩ (Nat.le_of_ble_eq_true rfl) dX3_weeks_6 (fun r_p6 σ_p6 h_p6 => ?_)
  obtain ⟨rfl, hσ_p6⟩ := h_p6
  rw [hσ_p6]
  show K σ [(0, .ref (ad 8)), (1, .int n)] [.int (ld_b (1 ≤ (n).toInt ∧ (n).toInt ≤ (60)))] 9
  refine ld_ifb_ne O (pc := 9) 15 dX3_weeks_9 (by decide) (fun c2 => ?_) (fun c2 => ?_)
  · refine ld_aload_n O (pc := 15) 0 dX3_weeks_15 rfl rfl ?_
    refine ld_g_M_houses O (pc := 16) (v := nI h) ld_w119 hh dX3_weeks_16 ?_
    refine ld_if_ne O (pc := 19) ((h : Nat) : Int) (nI_toInt (by omega)) 25 dX3_weeks_19 (by decide) (fun c3 => ?_) (fun c3 => ?_)
    · obtain ⟨ek_, hk_, ik_⟩ := ld_ofIx (k := n) (h := 61) (by omega)
      rw [ek_]
      refine ld_iconst O (pc := 25) (v := nI 0) dX3_weeks_25 (by decide) ?_
      refine ld_istore_n O (pc := 26) [(2, .int (nI 0)), (0, .ref (ad 8)), (1, .int (nI (ld_ix n)))] dX3_weeks_26 rfl (by decide) rfl ?_
      have L27 : ∀ (m_27 : Nat) (i : Nat) (ft : Nat → Int32) (fs : Nat → Int32) (fp : Nat → Int32) (fd : Nat → Int32) (fw : Nat → Int32), ld_ix n - i < m_27 → (i ≤ ld_ix n) → (ld_eqv h (ft, fs, fp) (ld_wks h (nI cr) (σ 20) (σ 21, σ 22, σ 23) i)) → (fw 0 = σ 143 0 + nI i) → K (us (us (us (us (us σ 21 ft) 22 fs) 23 fp) 27 fd) 143 fw) [(0, .ref (ad 8)), (1, .int (nI (ld_ix n))), (2, .int (nI i))] [] 27 := by
        intro m_27
        induction m_27 with
        | zero => intro i ft fs fp fd fw hm_; exact absurd hm_ (Nat.not_lt_zero _)
        | succ m_27 ih27 =>
          intro i ft fs fp fd fw hm_27 hi he hw
          refine ld_iload_n O (pc := 27) 2 dX3_weeks_27 rfl rfl ?_
          refine ld_iload_n O (pc := 28) 1 dX3_weeks_28 rfl rfl ?_
          refine ld_icmp_ge O (pc := 29) ((i : Nat) : Int) ((ld_ix n : Nat) : Int) (nI_toInt (by omega)) (nI_toInt (by omega)) 42 dX3_weeks_29 (by decide) (fun c4 => ?_) (fun c4 => ?_)
          · refine ld_aload_n O (pc := 42) 0 dX3_weeks_42 rfl rfl ?_
            refine ld_callVi O (pc := 43) (As := []) (st := []) ld_recv8 (c_X3_without l ad (us (us (us (us (us σ 21 ft) 22 fs) 23 fp) 27 fd) 143 fw) h hh h8 (fun x hx => (ld_bd_cong he (ld_bd_wks hbd h8 (by omega) (by omega)) x hx).2.2.1)) ld_mw_X3_without ld_w284 rfl rfl ⟨by decide, by decide⟩ (Nat.le_of_ble_eq_true rfl) dX3_weeks_43 (fun r_p43 σ_p43 h_p43 => ?_)
            obtain ⟨rfl, hσ_p43⟩ := h_p43
            rw [hσ_p43]
            show K (us (us (us (us (us σ 21 ft) 22 fs) 23 fp) 27 fd) 143 fw) [(0, .ref (ad 8)), (1, .int (nI (ld_ix n))), (2, .int (nI i))] [.int (nI (ld_wo h fs))] 46
            refine ld_ireti E dX3_weeks_46 ?_
            have ei : i = ld_ix n := by omega
            rw [ei] at he hw
            refine ⟨?_, ft, fs, fp, fd, fw, ?_, ?_, ?_⟩
            · unfold ld_fWk
              rw [if_pos (by omega), if_pos (by omega), ld_wo_cong (fun x hx => (he x hx).2.1)]
            · funext b_
              by_cases h0_ : b_ = 21
              · subst h0_; exact ((us_ne _ _ (by decide)).trans ((us_ne _ _ (by decide)).trans ((us_ne _ _ (by decide)).trans ((us_ne _ _ (by decide)).trans (us_eq _ _ _))))).trans ((us_ne _ _ (by decide)).trans ((us_ne _ _ (by decide)).trans ((us_ne _ _ (by decide)).trans ((us_ne _ _ (by decide)).trans (us_eq _ _ _))))).symm
              by_cases h1_ : b_ = 22
              · subst h1_; exact ((us_ne _ _ (by decide)).trans ((us_ne _ _ (by decide)).trans ((us_ne _ _ (by decide)).trans (us_eq _ _ _)))).trans ((us_ne _ _ (by decide)).trans ((us_ne _ _ (by decide)).trans ((us_ne _ _ (by decide)).trans (us_eq _ _ _)))).symm
              by_cases h2_ : b_ = 23
              · subst h2_; exact ((us_ne _ _ (by decide)).trans ((us_ne _ _ (by decide)).trans (us_eq _ _ _))).trans ((us_ne _ _ (by decide)).trans ((us_ne _ _ (by decide)).trans (us_eq _ _ _))).symm
              by_cases h3_ : b_ = 27
              · subst h3_; exact ((us_ne _ _ (by decide)).trans (us_eq _ _ _)).trans ((us_ne _ _ (by decide)).trans (us_eq _ _ _)).symm
              by_cases h4_ : b_ = 143
              · subst h4_; exact (us_eq _ _ _).trans (us_eq _ _ _).symm
              simp only [us, h0_, h1_, h2_, h3_, h4_, if_false]
            · unfold ld_gWk
              rw [if_pos (by omega)]
              exact he
            · unfold ld_gWk
              rw [if_pos (by omega)]
              exact hw
          · refine ld_aload_n O (pc := 32) 0 dX3_weeks_32 rfl rfl ?_
            refine ld_callVv O (pc := 33) (As := []) (st := []) ld_recv8 (c_X3_passes l ad (us (us (us (us (us σ 21 ft) 22 fs) 23 fp) 27 fd) 143 fw) h hh h8 cr hcr (by omega) (T + i) (by omega) (ld_bd_cong he (ld_bd_wks hbd h8 (by omega) (by omega)))) ld_mw_X3_passes ld_w280 rfl rfl ⟨by decide, by decide⟩ (Nat.le_of_ble_eq_true rfl) dX3_weeks_33 (fun σ_p33 h_p33 => ?_)
            obtain ⟨ft_p33, fs_p33, fp_p33, fd_p33, fw_p33, hσ_p33, ht_p33, hs_p33, hp_p33, hw_p33⟩ := h_p33
            rw [hσ_p33]
            have ht_p33 : ∀ x, x < h → ft_p33 x = ld_wT h (nI cr) (σ 20) ft fs fp x := ht_p33
            have hs_p33 : ∀ x, x < h → fs_p33 x = ld_wS h (nI cr) (σ 20) ft fs fp x := hs_p33
            have hp_p33 : ∀ x, x < h → fp_p33 x = ld_wP h (nI cr) (σ 20) ft fs fp x := hp_p33
            have hw_p33 : fw_p33 0 = (fw 0) + nI 1 := hw_p33
            show K (us (us (us (us (us (us (us (us (us (us σ 21 ft) 22 fs) 23 fp) 27 fd) 143 fw) 21 ft_p33) 22 fs_p33) 23 fp_p33) 27 fd_p33) 143 fw_p33) [(0, .ref (ad 8)), (1, .int (nI (ld_ix n))), (2, .int (nI i))] [] 36
            have he_ : ld_eqv h (ft_p33, fs_p33, fp_p33) (ld_wks h (nI cr) (σ 20) (σ 21, σ 22, σ 23) (i + 1)) := ld_eqv.tr (U := ld_wk h (nI cr) (σ 20) (ft, fs, fp)) (fun x hx => ⟨ht_p33 x hx, hs_p33 x hx, hp_p33 x hx⟩) (ld_wk_cong he)
            refine ld_iincN O (pc := 36) [(2, .int (nI (i + 1))), (0, .ref (ad 8)), (1, .int (nI (ld_ix n)))] 2 dX3_weeks_36 rfl (by decide) rfl ?_
            refine ld_goto O (pc := 39) 27 dX3_weeks_39 (by decide) ?_
            refine ld_less O [1, 2, 0] (lv2 := [(0, .ref (ad 8)), (1, .int (nI (ld_ix n))), (2, .int (nI (i + 1)))]) rfl ?_
            have hs5 : us (us (us (us (us (us (us (us (us (us σ 21 ft) 22 fs) 23 fp) 27 fd) 143 fw) 21 ft_p33) 22 fs_p33) 23 fp_p33) 27 fd_p33) 143 fw_p33 = us (us (us (us (us σ 21 ft_p33) 22 fs_p33) 23 fp_p33) 27 fd_p33) 143 fw_p33 := by
              funext b_
              by_cases h0_ : b_ = 21
              · subst h0_; exact ((us_ne _ _ (by decide)).trans ((us_ne _ _ (by decide)).trans ((us_ne _ _ (by decide)).trans ((us_ne _ _ (by decide)).trans (us_eq _ _ _))))).trans ((us_ne _ _ (by decide)).trans ((us_ne _ _ (by decide)).trans ((us_ne _ _ (by decide)).trans ((us_ne _ _ (by decide)).trans (us_eq _ _ _))))).symm
              by_cases h1_ : b_ = 22
              · subst h1_; exact ((us_ne _ _ (by decide)).trans ((us_ne _ _ (by decide)).trans ((us_ne _ _ (by decide)).trans (us_eq _ _ _)))).trans ((us_ne _ _ (by decide)).trans ((us_ne _ _ (by decide)).trans ((us_ne _ _ (by decide)).trans (us_eq _ _ _)))).symm
              by_cases h2_ : b_ = 23
              · subst h2_; exact ((us_ne _ _ (by decide)).trans ((us_ne _ _ (by decide)).trans (us_eq _ _ _))).trans ((us_ne _ _ (by decide)).trans ((us_ne _ _ (by decide)).trans (us_eq _ _ _))).symm
              by_cases h3_ : b_ = 27
              · subst h3_; exact ((us_ne _ _ (by decide)).trans (us_eq _ _ _)).trans ((us_ne _ _ (by decide)).trans (us_eq _ _ _)).symm
              by_cases h4_ : b_ = 143
              · subst h4_; exact (us_eq _ _ _).trans (us_eq _ _ _).symm
              simp only [us, h0_, h1_, h2_, h3_, h4_, if_false]
            refine ld_cv hs5 ?_
            exact ih27 (i + 1) ft_p33 fs_p33 fp_p33 fd_p33 fw_p33 (by omega) (by omega) he_ (by rw [hw_p33, hw, Int32.add_assoc, nI_add])
      refine ld_less O [1, 2, 0] (lv2 := [(0, .ref (ad 8)), (1, .int (nI (ld_ix n))), (2, .int (nI 0))]) rfl ?_
      have hs6 : σ = us (us (us (us (us σ 21 (σ 21)) 22 (σ 22)) 23 (σ 23)) 27 (σ 27)) 143 (σ 143) := by
        funext b_
        by_cases h0_ : b_ = 21
        · subst h0_; exact (rfl).trans ((us_ne _ _ (by decide)).trans ((us_ne _ _ (by decide)).trans ((us_ne _ _ (by decide)).trans ((us_ne _ _ (by decide)).trans (us_eq _ _ _))))).symm
        by_cases h1_ : b_ = 22
        · subst h1_; exact (rfl).trans ((us_ne _ _ (by decide)).trans ((us_ne _ _ (by decide)).trans ((us_ne _ _ (by decide)).trans (us_eq _ _ _)))).symm
        by_cases h2_ : b_ = 23
        · subst h2_; exact (rfl).trans ((us_ne _ _ (by decide)).trans ((us_ne _ _ (by decide)).trans (us_eq _ _ _))).symm
        by_cases h3_ : b_ = 27
        · subst h3_; exact (rfl).trans ((us_ne _ _ (by decide)).trans (us_eq _ _ _)).symm
        by_cases h4_ : b_ = 143
        · subst h4_; exact (rfl).trans (us_eq _ _ _).symm
        simp only [us, h0_, h1_, h2_, h3_, h4_, if_false]
      refine ld_cv hs6 ?_
      exact L27 _ 0 (σ 21) (σ 22) (σ 23) (σ 27) (σ 143) (Nat.lt_succ_self _) (Nat.zero_le _) ld_eqv.rf (Int32.add_zero _).symm
    · refine ld_bipush O (pc := 22) (v := (-3 : Int32)) dX3_weeks_22 (by decide) ?_
      refine ld_ireti E dX3_weeks_24 ?_
      refine ⟨?_, σ 21, σ 22, σ 23, σ 27, σ 143, ?_, ?_, ?_⟩
      · unfold ld_fWk
        repeat' split
        all_goals first | (exfalso; omega) | rfl
      · funext b_
        by_cases h0_ : b_ = 21
        · subst h0_; exact (rfl).trans ((us_ne _ _ (by decide)).trans ((us_ne _ _ (by decide)).trans ((us_ne _ _ (by decide)).trans ((us_ne _ _ (by decide)).trans (us_eq _ _ _))))).symm
        by_cases h1_ : b_ = 22
        · subst h1_; exact (rfl).trans ((us_ne _ _ (by decide)).trans ((us_ne _ _ (by decide)).trans ((us_ne _ _ (by decide)).trans (us_eq _ _ _)))).symm
        by_cases h2_ : b_ = 23
        · subst h2_; exact (rfl).trans ((us_ne _ _ (by decide)).trans ((us_ne _ _ (by decide)).trans (us_eq _ _ _))).symm
        by_cases h3_ : b_ = 27
        · subst h3_; exact (rfl).trans ((us_ne _ _ (by decide)).trans (us_eq _ _ _)).symm
        by_cases h4_ : b_ = 143
        · subst h4_; exact (rfl).trans (us_eq _ _ _).symm
        simp only [us, h0_, h1_, h2_, h3_, h4_, if_false]
      · unfold ld_gWk
        rw [if_neg (by omega)]
        exact ld_eqv.rf
      · unfold ld_gWk
        rw [if_neg (by omega)]
        exact (Int32.add_zero _).symm
  · refine ld_bipush O (pc := 12) (v := (-2 : Int32)) dX3_weeks_12 (by decide) ?_
    refine ld_ireti E dX3_weeks_14 ?_
    refine ⟨?_, σ 21, σ 22, σ 23, σ 27, σ 143, ?_, ?_, ?_⟩
    · unfold ld_fWk
      repeat' split
      all_goals first | (exfalso; omega) | rfl
    · funext b_
      by_cases h0_ : b_ = 21
      · subst h0_; exact (rfl).trans ((us_ne _ _ (by decide)).trans ((us_ne _ _ (by decide)).trans ((us_ne _ _ (by decide)).trans ((us_ne _ _ (by decide)).trans (us_eq _ _ _))))).symm
      by_cases h1_ : b_ = 22
      · subst h1_; exact (rfl).trans ((us_ne _ _ (by decide)).trans ((us_ne _ _ (by decide)).trans ((us_ne _ _ (by decide)).trans (us_eq _ _ _)))).symm
      by_cases h2_ : b_ = 23
      · subst h2_; exact (rfl).trans ((us_ne _ _ (by decide)).trans ((us_ne _ _ (by decide)).trans (us_eq _ _ _))).symm
      by_cases h3_ : b_ = 27
      · subst h3_; exact (rfl).trans ((us_ne _ _ (by decide)).trans (us_eq _ _ _)).symm
      by_cases h4_ : b_ = 143
      · subst h4_; exact (rfl).trans (us_eq _ _ _).symm
      simp only [us, h0_, h1_, h2_, h3_, h4_, if_false]
    · unfold ld_gWk
      rw [if_neg (by omega)]
      exact ld_eqv.rf
    · unfold ld_gWk
      rw [if_neg (by omega)]
      exact (Int32.add_zero _).symm
set_option maxHeartbeats 4000000 in
set_option maxRecDepth 100000 in
theorem c_X3_gift (l : Launch) (ad : Nat → Nat) (σ : ld_St) (h : Nat) (hh : σ 141 0 = nI h) (h8 : h ≤ 8) (k : Int32) : ld_Ctr l yX3_gift cX3_gift 2 (some .int) (2, 46) [.ref (ad 8), .int k] ad σ (ld_I (fun (r : Int32) (σ2 : ld_St) => r = ld_fGi h (σ 22) k ∧ σ2 = us σ 22 (ld_gGi h (σ 22) k))) := by
  refine ld_entry (by decide +kernel) (Nat.le_of_ble_eq_true rfl) (fun K O E => ?_)
  have O : ld_Ok l K ad cX3_gift 2 RX3 (ld_rm (2, 46)) := O
  show K σ [(0, .ref (ad 8)), (1, .int k)] [] 0
  refine ld_aload_n O (pc := 0) 0 dX3_gift_0 rfl rfl ?_
  refine ld_iload_n O (pc := 1) 1 dX3_gift_1 rfl rfl ?_
  refine ld_callVi O (pc := 2) (As := [.int k]) (st := []) ld_recv8 (c_X3_noHouse l ad σ k h hh h8) ld_mw_X3_noHouse ld_w194 rfl rfl ⟨by decide, by decide⟩ (Nat.le_of_ble_eq_true rfl) dX3_gift_2 (fun r_p2 σ_p2 h_p2 => ?_)
  obtain ⟨rfl, hσ_p2⟩ := h_p2
  rw [hσ_p2]
  show K σ [(0, .ref (ad 8)), (1, .int k)] [.int (ld_b (¬ (0 ≤ (k).toInt ∧ (k).toInt < (h : Int))))] 5
  refine ld_ifb_eq O (pc := 5) 10 dX3_gift_5 (by decide) (fun c1 => ?_) (fun c1 => ?_)
  · replace c1 := Classical.byContradiction c1
    obtain ⟨ek_k, hk_k, ik_k⟩ := ld_ofIx (k := k) (h := h) (by omega)
    rw [ek_k]
    refine ld_aload_n O (pc := 10) 0 dX3_gift_10 rfl rfl ?_
    refine ld_iload_n O (pc := 11) 1 dX3_gift_11 rfl rfl ?_
    refine ld_callVi O (pc := 12) (As := [.int (nI (ld_ix k))]) (st := []) ld_recv8 (c_X3_gave l ad σ h hh h8 (ld_ix k) (by omega)) ld_mw_X3_gave ld_w299 rfl rfl ⟨by decide, by decide⟩ (Nat.le_of_ble_eq_true rfl) dX3_gift_12 (fun r_p12 σ_p12 h_p12 => ?_)
    obtain ⟨rfl, fg_p12, hσ_p12, hg_p12⟩ := h_p12
    rw [hσ_p12]
    have hg_p12 : (0 < (σ 22 (ld_ix k)).toInt → fg_p12 = ld_gv h (σ 22) (ld_ix k)) ∧ (¬ 0 < (σ 22 (ld_ix k)).toInt → fg_p12 = σ 22) := hg_p12
    show K (us σ 22 fg_p12) [(0, .ref (ad 8)), (1, .int (nI (ld_ix k)))] [.int (ld_b (0 < (σ 22 (ld_ix k)).toInt))] 15
    refine ld_ifb_eq O (pc := 15) 27 dX3_gift_15 (by decide) (fun c2 => ?_) (fun c2 => ?_)
    · refine ld_bipush O (pc := 27) (v := (-3 : Int32)) dX3_gift_27 (by decide) ?_
      refine ld_ireti E dX3_gift_29 ?_
      rw [hg_p12.2 c2]
      refine ⟨?_, ?_⟩
      · unfold ld_fGi
        repeat' split
        all_goals first | (exfalso; omega) | rfl
      · unfold ld_gGi; rw [if_neg (fun z => c2 z.2)]
    · refine ld_aload_n O (pc := 18) 0 dX3_gift_18 rfl rfl ?_
      refine ld_g_M_stockOf O (pc := 19) ld_w53 dX3_gift_19 ?_
      refine ld_iload_n O (pc := 22) 1 dX3_gift_22 rfl rfl ?_
      refine ld_iald O (pc := 23) 22 (ld_ix k) (v := fg_p12 (ld_ix k)) rfl (by decide) (show ld_ix k < 8 by omega) rfl dX3_gift_23 ?_
      refine ld_goto O (pc := 24) 29 dX3_gift_24 (by decide) ?_
      refine ld_ireti E dX3_gift_29 ?_
      rw [hg_p12.1 c2]
      refine ⟨?_, ?_⟩
      · unfold ld_fGi
        repeat' split
        all_goals first | (exfalso; omega) | rfl
      · unfold ld_gGi; rw [if_pos ⟨by omega, c2⟩]
  · refine ld_iconst O (pc := 8) (v := (-1 : Int32)) dX3_gift_8 (by decide) ?_
    refine ld_ireti E dX3_gift_9 ?_
    refine ⟨?_, ?_⟩
    · unfold ld_fGi
      repeat' split
      all_goals first | (exfalso; omega) | rfl
    · unfold ld_gGi; rw [if_neg (fun z => absurd z.1 (by omega)), us_self]
set_option maxHeartbeats 4000000 in
set_option maxRecDepth 100000 in
theorem c_X3_reading (l : Launch) (ad : Nat → Nat) (σ : ld_St) (h : Nat) (hh : σ 141 0 = nI h) (h8 : h ≤ 8) (q : Nat) (hq : σ 150 0 = nI q) (q8 : q ≤ 8) (k v : Int32) : ld_Ctr l yX3_reading cX3_reading 3 (some .int) (2, 46) [.ref (ad 8), .int k, .int v] ad σ (ld_I (fun (r : Int32) (σ2 : ld_St) => r = ld_fRe h q k v ∧ ∃ a b f : Nat → Int32, σ2 = us (us (us σ 32 a) 33 b) 150 f ∧ a = @ite _ (ld_oRe h q k v) (Classical.propDecidable _) (upd (σ 32) q k) (σ 32) ∧ b = @ite _ (ld_oRe h q k v) (Classical.propDecidable _) (upd (σ 33) q v) (σ 33) ∧ f 0 = @ite _ (ld_oRe h q k v) (Classical.propDecidable _) (nI (q + 1)) (nI q))) := by
  refine ld_entry (by decide +kernel) (Nat.le_of_ble_eq_true rfl) (fun K O E => ?_)
  have O : ld_Ok l K ad cX3_reading 3 RX3 (ld_rm (2, 46)) := O
  show K σ [(0, .ref (ad 8)), (1, .int k), (2, .int v)] [] 0
  refine ld_aload_n O (pc := 0) 0 dX3_reading_0 rfl rfl ?_
  refine ld_iload_n O (pc := 1) 1 dX3_reading_1 rfl rfl ?_
  refine ld_callVi O (pc := 2) (As := [.int k]) (st := []) ld_recv8 (c_X3_noHouse l ad σ k h hh h8) ld_mw_X3_noHouse ld_w194 rfl rfl ⟨by decide, by decide⟩ (Nat.le_of_ble_eq_true rfl) dX3_reading_2 (fun r_p2 σ_p2 h_p2 => ?_)
  obtain ⟨rfl, hσ_p2⟩ := h_p2
  rw [hσ_p2]
  show K σ [(0, .ref (ad 8)), (1, .int k), (2, .int v)] [.int (ld_b (¬ (0 ≤ (k).toInt ∧ (k).toInt < (h : Int))))] 5
  refine ld_ifb_eq O (pc := 5) 10 dX3_reading_5 (by decide) (fun c1 => ?_) (fun c1 => ?_)
  · replace c1 := Classical.byContradiction c1
    obtain ⟨ek_k, hk_k, ik_k⟩ := ld_ofIx (k := k) (h := h) (by omega)
    rw [ek_k]
    refine ld_iload_n O (pc := 10) 2 dX3_reading_10 rfl rfl ?_
    refine ld_callSi O (pc := 11) (As := [.int v]) (st := []) (c_X3_isCrate l ad σ v) ld_mw_X3_isCrate ld_w240 rfl rfl ⟨by decide, by decide⟩ (Nat.le_of_ble_eq_true rfl) dX3_reading_11 (fun r_p11 σ_p11 h_p11 => ?_)
    obtain ⟨rfl, hσ_p11⟩ := h_p11
    rw [hσ_p11]
    show K σ [(0, .ref (ad 8)), (1, .int (nI (ld_ix k))), (2, .int v)] [.int (ld_b (0 ≤ (v).toInt ∧ (v).toInt < 100))] 14
    refine ld_ifb_ne O (pc := 14) 20 dX3_reading_14 (by decide) (fun c2 => ?_) (fun c2 => ?_)
    · refine ld_aload_n O (pc := 20) 0 dX3_reading_20 rfl rfl ?_
      refine ld_g_M_readings O (pc := 21) (v := nI q) ld_w123 hq dX3_reading_21 ?_
      refine ld_bipush O (pc := 24) (v := nI 8) dX3_reading_24 (by decide) ?_
      refine ld_icmp_ne O (pc := 26) ((q : Nat) : Int) 8 (nI_toInt (by omega)) (by decide) 32 dX3_reading_26 (by decide) (fun c3 => ?_) (fun c3 => ?_)
      · refine ld_aload_n O (pc := 32) 0 dX3_reading_32 rfl rfl ?_
        refine ld_g_M_readingOf O (pc := 33) ld_w63 dX3_reading_33 ?_
        refine ld_aload_n O (pc := 36) 0 dX3_reading_36 rfl rfl ?_
        refine ld_g_M_readings O (pc := 37) (v := nI q) ld_w123 hq dX3_reading_37 ?_
        refine ld_iload_n O (pc := 40) 1 dX3_reading_40 rfl rfl ?_
        refine ld_iast O (pc := 41) 32 q rfl (by decide) (show q < 8 by omega) dX3_reading_41 ?_
        refine ld_aload_n O (pc := 42) 0 dX3_reading_42 rfl rfl ?_
        refine ld_g_M_readingWas O (pc := 43) ld_w64 dX3_reading_43 ?_
        refine ld_aload_n O (pc := 46) 0 dX3_reading_46 rfl rfl ?_
        refine ld_g_M_readings O (pc := 47) (v := nI q) ld_w123 hq dX3_reading_47 ?_
        refine ld_iload_n O (pc := 50) 2 dX3_reading_50 rfl rfl ?_
        refine ld_iast O (pc := 51) 33 q rfl (by decide) (show q < 8 by omega) dX3_reading_51 ?_
        refine ld_aload_n O (pc := 52) 0 dX3_reading_52 rfl rfl ?_
        refine ld_dup O (pc := 53) dX3_reading_53 rfl ?_
        refine ld_g_M_readings O (pc := 54) (v := nI q) ld_w123 hq dX3_reading_54 ?_
        refine ld_iconst O (pc := 57) (v := nI 1) dX3_reading_57 (by decide) ?_
        refine ld_iaddN O (pc := 58) dX3_reading_58 ?_
        refine ld_p_M_readings O (pc := 59) ld_w123 dX3_reading_59 ?_
        refine ld_aload_n O (pc := 62) 0 dX3_reading_62 rfl rfl ?_
        refine ld_g_M_readings O (pc := 63) (v := nI (q + 1)) ld_w123 rfl dX3_reading_63 ?_
        refine ld_iconst O (pc := 66) (v := nI 1) dX3_reading_66 (by decide) ?_
        refine ld_isubN O (pc := 67) (by omega) dX3_reading_67 ?_
        refine ld_ireti E dX3_reading_68 ?_
        refine ⟨?_, upd (σ 32) q (nI (ld_ix k)), upd (σ 33) q v, fun _ => nI (q + 1), ?_, ?_, ?_, ?_⟩
        · show nI (q + 1 - 1) = _
          unfold ld_fRe
          rw [if_pos (by omega), if_pos (by omega), if_pos (by omega)]
          rfl
        · funext b_
          by_cases h0_ : b_ = 32
          · subst h0_; exact ((us_ne _ _ (by decide)).trans ((us_ne _ _ (by decide)).trans (us_eq _ _ _))).trans ((us_ne _ _ (by decide)).trans ((us_ne _ _ (by decide)).trans (us_eq _ _ _))).symm
          by_cases h1_ : b_ = 33
          · subst h1_; exact ((us_ne _ _ (by decide)).trans (us_eq _ _ _)).trans ((us_ne _ _ (by decide)).trans (us_eq _ _ _)).symm
          by_cases h2_ : b_ = 150
          · subst h2_; exact (us_eq _ _ _).trans (us_eq _ _ _).symm
          simp only [us, h0_, h1_, h2_, if_false]
        · rw [if_pos ⟨by omega, by omega, by omega⟩, ← ek_k]
        · rw [if_pos ⟨by omega, by omega, by omega⟩]
        · rw [if_pos ⟨by omega, by omega, by omega⟩]
      · refine ld_bipush O (pc := 29) (v := (-4 : Int32)) dX3_reading_29 (by decide) ?_
        refine ld_ireti E dX3_reading_31 ?_
        refine ⟨?_, σ 32, σ 33, σ 150, ?_, ?_, ?_, ?_⟩
        · unfold ld_fRe
          repeat' split
          all_goals first | (exfalso; omega) | rfl
        · funext b_
          by_cases h0_ : b_ = 32
          · subst h0_; exact (rfl).trans ((us_ne _ _ (by decide)).trans ((us_ne _ _ (by decide)).trans (us_eq _ _ _))).symm
          by_cases h1_ : b_ = 33
          · subst h1_; exact (rfl).trans ((us_ne _ _ (by decide)).trans (us_eq _ _ _)).symm
          by_cases h2_ : b_ = 150
          · subst h2_; exact (rfl).trans (us_eq _ _ _).symm
          simp only [us, h0_, h1_, h2_, if_false]
        · rw [if_neg (fun z => by have z1 := z.1; have z2 := z.2.1; have z3 := z.2.2; omega)]
        · rw [if_neg (fun z => by have z1 := z.1; have z2 := z.2.1; have z3 := z.2.2; omega)]
        · rw [if_neg (fun z => by have z1 := z.1; have z2 := z.2.1; have z3 := z.2.2; omega)]; exact hq
    · refine ld_bipush O (pc := 17) (v := (-2 : Int32)) dX3_reading_17 (by decide) ?_
      refine ld_ireti E dX3_reading_19 ?_
      refine ⟨?_, σ 32, σ 33, σ 150, ?_, ?_, ?_, ?_⟩
      · unfold ld_fRe
        repeat' split
        all_goals first | (exfalso; omega) | rfl
      · funext b_
        by_cases h0_ : b_ = 32
        · subst h0_; exact (rfl).trans ((us_ne _ _ (by decide)).trans ((us_ne _ _ (by decide)).trans (us_eq _ _ _))).symm
        by_cases h1_ : b_ = 33
        · subst h1_; exact (rfl).trans ((us_ne _ _ (by decide)).trans (us_eq _ _ _)).symm
        by_cases h2_ : b_ = 150
        · subst h2_; exact (rfl).trans (us_eq _ _ _).symm
        simp only [us, h0_, h1_, h2_, if_false]
      · rw [if_neg (fun z => by have z1 := z.1; have z2 := z.2.1; have z3 := z.2.2; omega)]
      · rw [if_neg (fun z => by have z1 := z.1; have z2 := z.2.1; have z3 := z.2.2; omega)]
      · rw [if_neg (fun z => by have z1 := z.1; have z2 := z.2.1; have z3 := z.2.2; omega)]; exact hq
  · refine ld_iconst O (pc := 8) (v := (-1 : Int32)) dX3_reading_8 (by decide) ?_
    refine ld_ireti E dX3_reading_9 ?_
    refine ⟨?_, σ 32, σ 33, σ 150, ?_, ?_, ?_, ?_⟩
    · unfold ld_fRe
      repeat' split
      all_goals first | (exfalso; omega) | rfl
    · funext b_
      by_cases h0_ : b_ = 32
      · subst h0_; exact (rfl).trans ((us_ne _ _ (by decide)).trans ((us_ne _ _ (by decide)).trans (us_eq _ _ _))).symm
      by_cases h1_ : b_ = 33
      · subst h1_; exact (rfl).trans ((us_ne _ _ (by decide)).trans (us_eq _ _ _)).symm
      by_cases h2_ : b_ = 150
      · subst h2_; exact (rfl).trans (us_eq _ _ _).symm
      simp only [us, h0_, h1_, h2_, if_false]
    · rw [if_neg (fun z => by have z1 := z.1; have z2 := z.2.1; have z3 := z.2.2; omega)]
    · rw [if_neg (fun z => by have z1 := z.1; have z2 := z.2.1; have z3 := z.2.2; omega)]
    · rw [if_neg (fun z => by have z1 := z.1; have z2 := z.2.1; have z3 := z.2.2; omega)]; exact hq
set_option maxHeartbeats 4000000 in
set_option maxRecDepth 100000 in
theorem c_X3_back (l : Launch) (ad : Nat → Nat) (σ : ld_St) (q : Nat) (hq : σ 150 0 = nI q) (q8 : q ≤ 8) (k : Int32) : ld_Ctr l yX3_back cX3_back 2 (some .int) (1, 25) [.ref (ad 8), .int k] ad σ (ld_I (fun (r : Int32) (σ2 : ld_St) => r = ld_fBa q k ∧ ∃ f : Nat → Int32, σ2 = us σ 150 f ∧ f 0 = nI (ld_gBa q k))) := by
  refine ld_entry (by decide +kernel) (Nat.le_of_ble_eq_true rfl) (fun K O E => ?_)
  have O : ld_Ok l K ad cX3_back 2 RX3 (ld_rm (1, 25)) := O
  show K σ [(0, .ref (ad 8)), (1, .int k)] [] 0
  refine ld_iload_n O (pc := 0) 1 dX3_back_0 rfl rfl ?_
  have hl1 : (k.toInt64).toInt = (k).toInt := (Int32.toInt_toInt64 _).trans rfl
  refine ld_i2l O (pc := 1) dX3_back_1 ?_
  refine ld_lconst O (pc := 2) (v := (0 : Int64)) dX3_back_2 (by decide) ?_
  refine ld_aload_n O (pc := 3) 0 dX3_back_3 rfl rfl ?_
  refine ld_g_M_readings O (pc := 4) (v := nI q) ld_w123 hq dX3_back_4 ?_
  have hl2 : ((nI q).toInt64).toInt = ((q : Nat) : Int) := (Int32.toInt_toInt64 _).trans (nI_toInt (by omega))
  refine ld_i2l O (pc := 7) dX3_back_7 ?_
  refine ld_callSi O (pc := 8) (As := [.long k.toInt64, .long (0 : Int64), .long ((nI q).toInt64)]) (st := []) (c_X3_in l ad σ k.toInt64 (0 : Int64) ((nI q).toInt64) ((k).toInt) 0 ((q : Nat) : Int) hl1 (by decide) hl2) ld_mw_X3_in ld_w128 rfl rfl ⟨by decide, by decide⟩ (Nat.le_of_ble_eq_true rfl) dX3_back_8 (fun r_p8 σ_p8 h_p8 => ?_)
  obtain ⟨rfl, hσ_p8⟩ := h_p8
  rw [hσ_p8]
  show K σ [(0, .ref (ad 8)), (1, .int k)] [.int (ld_b (0 ≤ (k).toInt ∧ (k).toInt ≤ ((q : Nat) : Int)))] 11
  refine ld_ifb_ne O (pc := 11) 17 dX3_back_11 (by decide) (fun c3 => ?_) (fun c3 => ?_)
  · obtain ⟨ek_, hk_, ik_⟩ := ld_ofIx (k := k) (h := q + 1) (by omega)
    rw [ek_]
    refine ld_aload_n O (pc := 17) 0 dX3_back_17 rfl rfl ?_
    refine ld_dup O (pc := 18) dX3_back_18 rfl ?_
    refine ld_g_M_readings O (pc := 19) (v := nI q) ld_w123 hq dX3_back_19 ?_
    refine ld_iload_n O (pc := 22) 1 dX3_back_22 rfl rfl ?_
    refine ld_isubN O (pc := 23) (by omega) dX3_back_23 ?_
    refine ld_p_M_readings O (pc := 24) ld_w123 dX3_back_24 ?_
    refine ld_aload_n O (pc := 27) 0 dX3_back_27 rfl rfl ?_
    refine ld_g_M_readings O (pc := 28) (v := nI (q - (ld_ix k))) ld_w123 rfl dX3_back_28 ?_
    refine ld_ireti E dX3_back_31 ?_
    refine ⟨?_, fun _ => nI (q - (ld_ix k)), rfl, ?_⟩
    · unfold ld_fBa
      repeat' split
      all_goals first | (exfalso; omega) | rfl
    · unfold ld_gBa; rw [if_pos (by omega)]
  · refine ld_bipush O (pc := 14) (v := (-2 : Int32)) dX3_back_14 (by decide) ?_
    refine ld_ireti E dX3_back_16 ?_
    refine ⟨?_, σ 150, (us_self _ _).symm, ?_⟩
    · unfold ld_fBa
      repeat' split
      all_goals first | (exfalso; omega) | rfl
    · unfold ld_gBa; rw [if_neg (by omega)]; exact hq
theorem ld_tt (t : Int32) : nI 2 * t + nI 100 = t + nI 100 + t := by
  have h : nI 2 * t = t + t := by rw [show nI 2 = (1 : Int32) + 1 by decide, Int32.add_mul, Int32.one_mul]
  rw [h, Int32.add_assoc, Int32.add_assoc, Int32.add_comm t (nI 100)]
set_option maxHeartbeats 4000000 in
set_option maxRecDepth 100000 in
theorem c_X3_tell (l : Launch) (ad : Nat → Nat) (σ : ld_St) (h : Nat) (hh : σ 141 0 = nI h) (h8 : h ≤ 8) (hkt : ld_kt h (σ 20) (σ 21)) (k : Int32) : ld_Ctr l yX3_tell cX3_tell 4 (some .int) (2, 46) [.ref (ad 8), .int k] ad σ (ld_I (fun (r : Int32) (σ2 : ld_St) => r = ld_fTe h (σ 20) (σ 21) k ∧ ∃ f : Nat → Int32, σ2 = us σ 151 f ∧ f 0 = ld_gTe h (σ 20) (σ 151 0) k)) := by
  refine ld_entry (by decide +kernel) (Nat.le_of_ble_eq_true rfl) (fun K O E => ?_)
  have O : ld_Ok l K ad cX3_tell 4 RX3 (ld_rm (2, 46)) := O
  show K σ [(0, .ref (ad 8)), (1, .int k)] [] 0
  refine ld_aload_n O (pc := 0) 0 dX3_tell_0 rfl rfl ?_
  refine ld_iload_n O (pc := 1) 1 dX3_tell_1 rfl rfl ?_
  refine ld_callVi O (pc := 2) (As := [.int k]) (st := []) ld_recv8 (c_X3_noHouse l ad σ k h hh h8) ld_mw_X3_noHouse ld_w194 rfl rfl ⟨by decide, by decide⟩ (Nat.le_of_ble_eq_true rfl) dX3_tell_2 (fun r_p2 σ_p2 h_p2 => ?_)
  obtain ⟨rfl, hσ_p2⟩ := h_p2
  rw [hσ_p2]
  show K σ [(0, .ref (ad 8)), (1, .int k)] [.int (ld_b (¬ (0 ≤ (k).toInt ∧ (k).toInt < (h : Int))))] 5
  refine ld_ifb_eq O (pc := 5) 10 dX3_tell_5 (by decide) (fun c1 => ?_) (fun c1 => ?_)
  · replace c1 := Classical.byContradiction c1
    obtain ⟨ek_k, hk_k, ik_k⟩ := ld_ofIx (k := k) (h := h) (by omega)
    rw [ek_k]
    refine ld_aload_n O (pc := 10) 0 dX3_tell_10 rfl rfl ?_
    refine ld_g_M_kindOf O (pc := 11) ld_w51 dX3_tell_11 ?_
    refine ld_iload_n O (pc := 14) 1 dX3_tell_14 rfl rfl ?_
    refine ld_iald O (pc := 15) 20 (ld_ix k) (v := σ 20 (ld_ix k)) rfl (by decide) (show ld_ix k < 8 by omega) rfl dX3_tell_15 ?_
    refine ld_istore_n O (pc := 16) [(2, .int (σ 20 (ld_ix k))), (0, .ref (ad 8)), (1, .int (nI (ld_ix k)))] dX3_tell_16 rfl (by decide) rfl ?_
    refine ld_iload_n O (pc := 17) 0 dX3_tell_17 rfl rfl ?_
    refine ld_iconst O (pc := 18) (v := nI 2) dX3_tell_18 (by decide) ?_
    refine ld_icmp_ne O (pc := 19) (σ 20 (ld_ix k)).toInt 2 rfl (by decide) 27 dX3_tell_19 (by decide) (fun c2 => ?_) (fun c2 => ?_)
    · refine ld_iload_n O (pc := 27) 0 dX3_tell_27 rfl rfl ?_
      refine ld_if_le O (pc := 28) (σ 20 (ld_ix k)).toInt rfl 36 dX3_tell_28 (by decide) (fun c3 => ?_) (fun c3 => ?_)
      · refine ld_aload_n O (pc := 36) 1 dX3_tell_36 rfl rfl ?_
        refine ld_iconst O (pc := 37) (v := nI 1) dX3_tell_37 (by decide) ?_
        refine ld_callVv O (pc := 38) (As := [.int (nI 1)]) (st := []) ld_recv8 (c_X3_traced l ad σ (nI 1)) ld_mw_X3_traced ld_w590 rfl rfl ⟨by decide, by decide⟩ (Nat.le_of_ble_eq_true rfl) dX3_tell_38 (fun σ_p38 h_p38 => ?_)
        have hσ_p38 := h_p38
        rw [hσ_p38]
        show K (us σ 151 (fun _ => nI 31 * (σ 151 0) + (nI 1))) [(2, .int (σ 20 (ld_ix k))), (0, .ref (ad 8)), (1, .int (nI (ld_ix k)))] [] 41
        refine ld_iload_n O (pc := 41) 0 dX3_tell_41 rfl rfl ?_
        refine ld_iconst O (pc := 42) (v := nI 2) dX3_tell_42 (by decide) ?_
        refine ld_icmp_ne O (pc := 43) (σ 20 (ld_ix k)).toInt 2 rfl (by decide) 51 dX3_tell_43 (by decide) (fun c4 => ?_) (fun z => absurd z c2)
        refine ld_aload_n O (pc := 51) 1 dX3_tell_51 rfl rfl ?_
        refine ld_g_M_temperOf O (pc := 52) ld_w52 dX3_tell_52 ?_
        refine ld_iload_n O (pc := 55) 2 dX3_tell_55 rfl rfl ?_
        refine ld_iald O (pc := 56) 21 (ld_ix k) (v := σ 21 (ld_ix k)) rfl (by decide) (show ld_ix k < 8 by omega) rfl dX3_tell_56 ?_
        refine ld_istore_n O (pc := 57) [(3, .int (σ 21 (ld_ix k))), (2, .int (σ 20 (ld_ix k))), (0, .ref (ad 8)), (1, .int (nI (ld_ix k)))] dX3_tell_57 rfl (by decide) rfl ?_
        refine ld_iload_n O (pc := 58) 1 dX3_tell_58 rfl rfl ?_
        refine ld_if_ne O (pc := 59) (σ 20 (ld_ix k)).toInt rfl 66 dX3_tell_59 (by decide) (fun c5 => ?_) (fun c5 => ?_)
        · refine ld_iload_n O (pc := 66) 1 dX3_tell_66 rfl rfl ?_
          refine ld_iconst O (pc := 67) (v := nI 1) dX3_tell_67 (by decide) ?_
          refine ld_icmp_ne O (pc := 68) (σ 20 (ld_ix k)).toInt 1 rfl (by decide) 78 dX3_tell_68 (by decide) (fun c6 => ?_) (fun c6 => ?_)
          · refine ld_iconst O (pc := 78) (v := nI 2) dX3_tell_78 (by decide) ?_
            refine ld_iload_n O (pc := 79) 0 dX3_tell_79 rfl rfl ?_
            refine ld_imul O (pc := 80) dX3_tell_80 ?_
            refine ld_bipush O (pc := 81) (v := nI 100) dX3_tell_81 (by decide) ?_
            refine ld_iadd O (pc := 83) dX3_tell_83 ?_
            refine ld_ireti E dX3_tell_84 ?_
            have hkt_ := (hkt _ hk_k).1
            refine ⟨?_, fun _ => nI 31 * (σ 151 0) + (nI 1), ?_, ?_⟩
            · unfold ld_fTe
              repeat' split
              all_goals first | (exfalso; omega) | rfl | exact ld_tt _
            · funext b_
              by_cases h0_ : b_ = 151
              · subst h0_; exact (us_eq _ _ _).trans (us_eq _ _ _).symm
              simp only [us, h0_, if_false]
            · unfold ld_gTe
              repeat' split
              all_goals first | (exfalso; omega) | rfl
          · refine ld_iload_n O (pc := 71) 0 dX3_tell_71 rfl rfl ?_
            refine ld_bipush O (pc := 72) (v := nI 100) dX3_tell_72 (by decide) ?_
            refine ld_iadd O (pc := 74) dX3_tell_74 ?_
            refine ld_goto O (pc := 75) 84 dX3_tell_75 (by decide) ?_
            refine ld_ireti E dX3_tell_84 ?_
            have hkt_ := (hkt _ hk_k).1
            refine ⟨?_, fun _ => nI 31 * (σ 151 0) + (nI 1), ?_, ?_⟩
            · unfold ld_fTe
              repeat' split
              all_goals first | (exfalso; omega) | rfl | exact ld_tt _
            · funext b_
              by_cases h0_ : b_ = 151
              · subst h0_; exact (us_eq _ _ _).trans (us_eq _ _ _).symm
              simp only [us, h0_, if_false]
            · unfold ld_gTe
              repeat' split
              all_goals first | (exfalso; omega) | rfl
        · refine ld_iload_n O (pc := 62) 0 dX3_tell_62 rfl rfl ?_
          refine ld_goto O (pc := 63) 84 dX3_tell_63 (by decide) ?_
          refine ld_ireti E dX3_tell_84 ?_
          have hkt_ := (hkt _ hk_k).1
          refine ⟨?_, fun _ => nI 31 * (σ 151 0) + (nI 1), ?_, ?_⟩
          · unfold ld_fTe
            repeat' split
            all_goals first | (exfalso; omega) | rfl | exact ld_tt _
          · funext b_
            by_cases h0_ : b_ = 151
            · subst h0_; exact (us_eq _ _ _).trans (us_eq _ _ _).symm
            simp only [us, h0_, if_false]
          · unfold ld_gTe
            repeat' split
            all_goals first | (exfalso; omega) | rfl
      · refine ld_aload_n O (pc := 31) 1 dX3_tell_31 rfl rfl ?_
        refine ld_iconst O (pc := 32) (v := nI 2) dX3_tell_32 (by decide) ?_
        refine ld_callVv O (pc := 33) (As := [.int (nI 2)]) (st := []) ld_recv8 (c_X3_traced l ad σ (nI 2)) ld_mw_X3_traced ld_w590 rfl rfl ⟨by decide, by decide⟩ (Nat.le_of_ble_eq_true rfl) dX3_tell_33 (fun σ_p33 h_p33 => ?_)
        have hσ_p33 := h_p33
        rw [hσ_p33]
        show K (us σ 151 (fun _ => nI 31 * (σ 151 0) + (nI 2))) [(2, .int (σ 20 (ld_ix k))), (0, .ref (ad 8)), (1, .int (nI (ld_ix k)))] [] 36
        refine ld_aload_n O (pc := 36) 1 dX3_tell_36 rfl rfl ?_
        refine ld_iconst O (pc := 37) (v := nI 1) dX3_tell_37 (by decide) ?_
        refine ld_callVv O (pc := 38) (As := [.int (nI 1)]) (st := []) ld_recv8 (c_X3_traced l ad (us σ 151 (fun _ => nI 31 * (σ 151 0) + (nI 2))) (nI 1)) ld_mw_X3_traced ld_w590 rfl rfl ⟨by decide, by decide⟩ (Nat.le_of_ble_eq_true rfl) dX3_tell_38 (fun σ_p38 h_p38 => ?_)
        have hσ_p38 := h_p38
        rw [hσ_p38]
        show K (us (us σ 151 (fun _ => nI 31 * (σ 151 0) + (nI 2))) 151 (fun _ => nI 31 * ((fun _ => nI 31 * (σ 151 0) + (nI 2)) 0) + (nI 1))) [(2, .int (σ 20 (ld_ix k))), (0, .ref (ad 8)), (1, .int (nI (ld_ix k)))] [] 41
        refine ld_iload_n O (pc := 41) 0 dX3_tell_41 rfl rfl ?_
        refine ld_iconst O (pc := 42) (v := nI 2) dX3_tell_42 (by decide) ?_
        refine ld_icmp_ne O (pc := 43) (σ 20 (ld_ix k)).toInt 2 rfl (by decide) 51 dX3_tell_43 (by decide) (fun c7 => ?_) (fun z => absurd z c2)
        refine ld_aload_n O (pc := 51) 1 dX3_tell_51 rfl rfl ?_
        refine ld_g_M_temperOf O (pc := 52) ld_w52 dX3_tell_52 ?_
        refine ld_iload_n O (pc := 55) 2 dX3_tell_55 rfl rfl ?_
        refine ld_iald O (pc := 56) 21 (ld_ix k) (v := σ 21 (ld_ix k)) rfl (by decide) (show ld_ix k < 8 by omega) rfl dX3_tell_56 ?_
        refine ld_istore_n O (pc := 57) [(3, .int (σ 21 (ld_ix k))), (2, .int (σ 20 (ld_ix k))), (0, .ref (ad 8)), (1, .int (nI (ld_ix k)))] dX3_tell_57 rfl (by decide) rfl ?_
        refine ld_iload_n O (pc := 58) 1 dX3_tell_58 rfl rfl ?_
        refine ld_if_ne O (pc := 59) (σ 20 (ld_ix k)).toInt rfl 66 dX3_tell_59 (by decide) (fun c8 => ?_) (fun c8 => ?_)
        · refine ld_iload_n O (pc := 66) 1 dX3_tell_66 rfl rfl ?_
          refine ld_iconst O (pc := 67) (v := nI 1) dX3_tell_67 (by decide) ?_
          refine ld_icmp_ne O (pc := 68) (σ 20 (ld_ix k)).toInt 1 rfl (by decide) 78 dX3_tell_68 (by decide) (fun c9 => ?_) (fun c9 => ?_)
          · refine ld_iconst O (pc := 78) (v := nI 2) dX3_tell_78 (by decide) ?_
            refine ld_iload_n O (pc := 79) 0 dX3_tell_79 rfl rfl ?_
            refine ld_imul O (pc := 80) dX3_tell_80 ?_
            refine ld_bipush O (pc := 81) (v := nI 100) dX3_tell_81 (by decide) ?_
            refine ld_iadd O (pc := 83) dX3_tell_83 ?_
            refine ld_ireti E dX3_tell_84 ?_
            have hkt_ := (hkt _ hk_k).1
            refine ⟨?_, fun _ => nI 31 * ((fun _ => nI 31 * (σ 151 0) + (nI 2)) 0) + (nI 1), ?_, ?_⟩
            · unfold ld_fTe
              repeat' split
              all_goals first | (exfalso; omega) | rfl | exact ld_tt _
            · funext b_
              by_cases h0_ : b_ = 151
              · subst h0_; exact (us_eq _ _ _).trans (us_eq _ _ _).symm
              simp only [us, h0_, if_false]
            · unfold ld_gTe
              repeat' split
              all_goals first | (exfalso; omega) | rfl
          · refine ld_iload_n O (pc := 71) 0 dX3_tell_71 rfl rfl ?_
            refine ld_bipush O (pc := 72) (v := nI 100) dX3_tell_72 (by decide) ?_
            refine ld_iadd O (pc := 74) dX3_tell_74 ?_
            refine ld_goto O (pc := 75) 84 dX3_tell_75 (by decide) ?_
            refine ld_ireti E dX3_tell_84 ?_
            have hkt_ := (hkt _ hk_k).1
            refine ⟨?_, fun _ => nI 31 * ((fun _ => nI 31 * (σ 151 0) + (nI 2)) 0) + (nI 1), ?_, ?_⟩
            · unfold ld_fTe
              repeat' split
              all_goals first | (exfalso; omega) | rfl | exact ld_tt _
            · funext b_
              by_cases h0_ : b_ = 151
              · subst h0_; exact (us_eq _ _ _).trans (us_eq _ _ _).symm
              simp only [us, h0_, if_false]
            · unfold ld_gTe
              repeat' split
              all_goals first | (exfalso; omega) | rfl
        · refine ld_iload_n O (pc := 62) 0 dX3_tell_62 rfl rfl ?_
          refine ld_goto O (pc := 63) 84 dX3_tell_63 (by decide) ?_
          refine ld_ireti E dX3_tell_84 ?_
          have hkt_ := (hkt _ hk_k).1
          refine ⟨?_, fun _ => nI 31 * ((fun _ => nI 31 * (σ 151 0) + (nI 2)) 0) + (nI 1), ?_, ?_⟩
          · unfold ld_fTe
            repeat' split
            all_goals first | (exfalso; omega) | rfl | exact ld_tt _
          · funext b_
            by_cases h0_ : b_ = 151
            · subst h0_; exact (us_eq _ _ _).trans (us_eq _ _ _).symm
            simp only [us, h0_, if_false]
          · unfold ld_gTe
            repeat' split
            all_goals first | (exfalso; omega) | rfl
    · refine ld_aload_n O (pc := 22) 1 dX3_tell_22 rfl rfl ?_
      refine ld_iconst O (pc := 23) (v := nI 3) dX3_tell_23 (by decide) ?_
      refine ld_callVv O (pc := 24) (As := [.int (nI 3)]) (st := []) ld_recv8 (c_X3_traced l ad σ (nI 3)) ld_mw_X3_traced ld_w590 rfl rfl ⟨by decide, by decide⟩ (Nat.le_of_ble_eq_true rfl) dX3_tell_24 (fun σ_p24 h_p24 => ?_)
      have hσ_p24 := h_p24
      rw [hσ_p24]
      show K (us σ 151 (fun _ => nI 31 * (σ 151 0) + (nI 3))) [(2, .int (σ 20 (ld_ix k))), (0, .ref (ad 8)), (1, .int (nI (ld_ix k)))] [] 27
      refine ld_iload_n O (pc := 27) 0 dX3_tell_27 rfl rfl ?_
      refine ld_if_le O (pc := 28) (σ 20 (ld_ix k)).toInt rfl 36 dX3_tell_28 (by decide) (fun c10 => ?_) (fun c10 => ?_)
      · refine ld_aload_n O (pc := 36) 1 dX3_tell_36 rfl rfl ?_
        refine ld_iconst O (pc := 37) (v := nI 1) dX3_tell_37 (by decide) ?_
        refine ld_callVv O (pc := 38) (As := [.int (nI 1)]) (st := []) ld_recv8 (c_X3_traced l ad (us σ 151 (fun _ => nI 31 * (σ 151 0) + (nI 3))) (nI 1)) ld_mw_X3_traced ld_w590 rfl rfl ⟨by decide, by decide⟩ (Nat.le_of_ble_eq_true rfl) dX3_tell_38 (fun σ_p38 h_p38 => ?_)
        have hσ_p38 := h_p38
        rw [hσ_p38]
        show K (us (us σ 151 (fun _ => nI 31 * (σ 151 0) + (nI 3))) 151 (fun _ => nI 31 * ((fun _ => nI 31 * (σ 151 0) + (nI 3)) 0) + (nI 1))) [(2, .int (σ 20 (ld_ix k))), (0, .ref (ad 8)), (1, .int (nI (ld_ix k)))] [] 41
        refine ld_iload_n O (pc := 41) 0 dX3_tell_41 rfl rfl ?_
        refine ld_iconst O (pc := 42) (v := nI 2) dX3_tell_42 (by decide) ?_
        refine ld_icmp_ne O (pc := 43) (σ 20 (ld_ix k)).toInt 2 rfl (by decide) 51 dX3_tell_43 (by decide) (fun z => absurd c2 z) (fun c11 => ?_)
        refine ld_aload_n O (pc := 46) 1 dX3_tell_46 rfl rfl ?_
        refine ld_iconst O (pc := 47) (v := nI 1) dX3_tell_47 (by decide) ?_
        refine ld_callVv O (pc := 48) (As := [.int (nI 1)]) (st := []) ld_recv8 (c_X3_traced l ad (us (us σ 151 (fun _ => nI 31 * (σ 151 0) + (nI 3))) 151 (fun _ => nI 31 * ((fun _ => nI 31 * (σ 151 0) + (nI 3)) 0) + (nI 1))) (nI 1)) ld_mw_X3_traced ld_w590 rfl rfl ⟨by decide, by decide⟩ (Nat.le_of_ble_eq_true rfl) dX3_tell_48 (fun σ_p48 h_p48 => ?_)
        have hσ_p48 := h_p48
        rw [hσ_p48]
        show K (us (us (us σ 151 (fun _ => nI 31 * (σ 151 0) + (nI 3))) 151 (fun _ => nI 31 * ((fun _ => nI 31 * (σ 151 0) + (nI 3)) 0) + (nI 1))) 151 (fun _ => nI 31 * ((fun _ => nI 31 * ((fun _ => nI 31 * (σ 151 0) + (nI 3)) 0) + (nI 1)) 0) + (nI 1))) [(2, .int (σ 20 (ld_ix k))), (0, .ref (ad 8)), (1, .int (nI (ld_ix k)))] [] 51
        refine ld_aload_n O (pc := 51) 1 dX3_tell_51 rfl rfl ?_
        refine ld_g_M_temperOf O (pc := 52) ld_w52 dX3_tell_52 ?_
        refine ld_iload_n O (pc := 55) 2 dX3_tell_55 rfl rfl ?_
        refine ld_iald O (pc := 56) 21 (ld_ix k) (v := σ 21 (ld_ix k)) rfl (by decide) (show ld_ix k < 8 by omega) rfl dX3_tell_56 ?_
        refine ld_istore_n O (pc := 57) [(3, .int (σ 21 (ld_ix k))), (2, .int (σ 20 (ld_ix k))), (0, .ref (ad 8)), (1, .int (nI (ld_ix k)))] dX3_tell_57 rfl (by decide) rfl ?_
        refine ld_iload_n O (pc := 58) 1 dX3_tell_58 rfl rfl ?_
        refine ld_if_ne O (pc := 59) (σ 20 (ld_ix k)).toInt rfl 66 dX3_tell_59 (by decide) (fun c12 => ?_) (fun c12 => ?_)
        · refine ld_iload_n O (pc := 66) 1 dX3_tell_66 rfl rfl ?_
          refine ld_iconst O (pc := 67) (v := nI 1) dX3_tell_67 (by decide) ?_
          refine ld_icmp_ne O (pc := 68) (σ 20 (ld_ix k)).toInt 1 rfl (by decide) 78 dX3_tell_68 (by decide) (fun c13 => ?_) (fun c13 => ?_)
          · refine ld_iconst O (pc := 78) (v := nI 2) dX3_tell_78 (by decide) ?_
            refine ld_iload_n O (pc := 79) 0 dX3_tell_79 rfl rfl ?_
            refine ld_imul O (pc := 80) dX3_tell_80 ?_
            refine ld_bipush O (pc := 81) (v := nI 100) dX3_tell_81 (by decide) ?_
            refine ld_iadd O (pc := 83) dX3_tell_83 ?_
            refine ld_ireti E dX3_tell_84 ?_
            have hkt_ := (hkt _ hk_k).1
            refine ⟨?_, fun _ => nI 31 * ((fun _ => nI 31 * ((fun _ => nI 31 * (σ 151 0) + (nI 3)) 0) + (nI 1)) 0) + (nI 1), ?_, ?_⟩
            · unfold ld_fTe
              repeat' split
              all_goals first | (exfalso; omega) | rfl | exact ld_tt _
            · funext b_
              by_cases h0_ : b_ = 151
              · subst h0_; exact (us_eq _ _ _).trans (us_eq _ _ _).symm
              simp only [us, h0_, if_false]
            · unfold ld_gTe
              repeat' split
              all_goals first | (exfalso; omega) | rfl
          · refine ld_iload_n O (pc := 71) 0 dX3_tell_71 rfl rfl ?_
            refine ld_bipush O (pc := 72) (v := nI 100) dX3_tell_72 (by decide) ?_
            refine ld_iadd O (pc := 74) dX3_tell_74 ?_
            refine ld_goto O (pc := 75) 84 dX3_tell_75 (by decide) ?_
            refine ld_ireti E dX3_tell_84 ?_
            have hkt_ := (hkt _ hk_k).1
            refine ⟨?_, fun _ => nI 31 * ((fun _ => nI 31 * ((fun _ => nI 31 * (σ 151 0) + (nI 3)) 0) + (nI 1)) 0) + (nI 1), ?_, ?_⟩
            · unfold ld_fTe
              repeat' split
              all_goals first | (exfalso; omega) | rfl | exact ld_tt _
            · funext b_
              by_cases h0_ : b_ = 151
              · subst h0_; exact (us_eq _ _ _).trans (us_eq _ _ _).symm
              simp only [us, h0_, if_false]
            · unfold ld_gTe
              repeat' split
              all_goals first | (exfalso; omega) | rfl
        · refine ld_iload_n O (pc := 62) 0 dX3_tell_62 rfl rfl ?_
          refine ld_goto O (pc := 63) 84 dX3_tell_63 (by decide) ?_
          refine ld_ireti E dX3_tell_84 ?_
          have hkt_ := (hkt _ hk_k).1
          refine ⟨?_, fun _ => nI 31 * ((fun _ => nI 31 * ((fun _ => nI 31 * (σ 151 0) + (nI 3)) 0) + (nI 1)) 0) + (nI 1), ?_, ?_⟩
          · unfold ld_fTe
            repeat' split
            all_goals first | (exfalso; omega) | rfl | exact ld_tt _
          · funext b_
            by_cases h0_ : b_ = 151
            · subst h0_; exact (us_eq _ _ _).trans (us_eq _ _ _).symm
            simp only [us, h0_, if_false]
          · unfold ld_gTe
            repeat' split
            all_goals first | (exfalso; omega) | rfl
      · refine ld_aload_n O (pc := 31) 1 dX3_tell_31 rfl rfl ?_
        refine ld_iconst O (pc := 32) (v := nI 2) dX3_tell_32 (by decide) ?_
        refine ld_callVv O (pc := 33) (As := [.int (nI 2)]) (st := []) ld_recv8 (c_X3_traced l ad (us σ 151 (fun _ => nI 31 * (σ 151 0) + (nI 3))) (nI 2)) ld_mw_X3_traced ld_w590 rfl rfl ⟨by decide, by decide⟩ (Nat.le_of_ble_eq_true rfl) dX3_tell_33 (fun σ_p33 h_p33 => ?_)
        have hσ_p33 := h_p33
        rw [hσ_p33]
        show K (us (us σ 151 (fun _ => nI 31 * (σ 151 0) + (nI 3))) 151 (fun _ => nI 31 * ((fun _ => nI 31 * (σ 151 0) + (nI 3)) 0) + (nI 2))) [(2, .int (σ 20 (ld_ix k))), (0, .ref (ad 8)), (1, .int (nI (ld_ix k)))] [] 36
        refine ld_aload_n O (pc := 36) 1 dX3_tell_36 rfl rfl ?_
        refine ld_iconst O (pc := 37) (v := nI 1) dX3_tell_37 (by decide) ?_
        refine ld_callVv O (pc := 38) (As := [.int (nI 1)]) (st := []) ld_recv8 (c_X3_traced l ad (us (us σ 151 (fun _ => nI 31 * (σ 151 0) + (nI 3))) 151 (fun _ => nI 31 * ((fun _ => nI 31 * (σ 151 0) + (nI 3)) 0) + (nI 2))) (nI 1)) ld_mw_X3_traced ld_w590 rfl rfl ⟨by decide, by decide⟩ (Nat.le_of_ble_eq_true rfl) dX3_tell_38 (fun σ_p38 h_p38 => ?_)
        have hσ_p38 := h_p38
        rw [hσ_p38]
        show K (us (us (us σ 151 (fun _ => nI 31 * (σ 151 0) + (nI 3))) 151 (fun _ => nI 31 * ((fun _ => nI 31 * (σ 151 0) + (nI 3)) 0) + (nI 2))) 151 (fun _ => nI 31 * ((fun _ => nI 31 * ((fun _ => nI 31 * (σ 151 0) + (nI 3)) 0) + (nI 2)) 0) + (nI 1))) [(2, .int (σ 20 (ld_ix k))), (0, .ref (ad 8)), (1, .int (nI (ld_ix k)))] [] 41
        refine ld_iload_n O (pc := 41) 0 dX3_tell_41 rfl rfl ?_
        refine ld_iconst O (pc := 42) (v := nI 2) dX3_tell_42 (by decide) ?_
        refine ld_icmp_ne O (pc := 43) (σ 20 (ld_ix k)).toInt 2 rfl (by decide) 51 dX3_tell_43 (by decide) (fun z => absurd c2 z) (fun c14 => ?_)
        refine ld_aload_n O (pc := 46) 1 dX3_tell_46 rfl rfl ?_
        refine ld_iconst O (pc := 47) (v := nI 1) dX3_tell_47 (by decide) ?_
        refine ld_callVv O (pc := 48) (As := [.int (nI 1)]) (st := []) ld_recv8 (c_X3_traced l ad (us (us (us σ 151 (fun _ => nI 31 * (σ 151 0) + (nI 3))) 151 (fun _ => nI 31 * ((fun _ => nI 31 * (σ 151 0) + (nI 3)) 0) + (nI 2))) 151 (fun _ => nI 31 * ((fun _ => nI 31 * ((fun _ => nI 31 * (σ 151 0) + (nI 3)) 0) + (nI 2)) 0) + (nI 1))) (nI 1)) ld_mw_X3_traced ld_w590 rfl rfl ⟨by decide, by decide⟩ (Nat.le_of_ble_eq_true rfl) dX3_tell_48 (fun σ_p48 h_p48 => ?_)
        have hσ_p48 := h_p48
        rw [hσ_p48]
        show K (us (us (us (us σ 151 (fun _ => nI 31 * (σ 151 0) + (nI 3))) 151 (fun _ => nI 31 * ((fun _ => nI 31 * (σ 151 0) + (nI 3)) 0) + (nI 2))) 151 (fun _ => nI 31 * ((fun _ => nI 31 * ((fun _ => nI 31 * (σ 151 0) + (nI 3)) 0) + (nI 2)) 0) + (nI 1))) 151 (fun _ => nI 31 * ((fun _ => nI 31 * ((fun _ => nI 31 * ((fun _ => nI 31 * (σ 151 0) + (nI 3)) 0) + (nI 2)) 0) + (nI 1)) 0) + (nI 1))) [(2, .int (σ 20 (ld_ix k))), (0, .ref (ad 8)), (1, .int (nI (ld_ix k)))] [] 51
        refine ld_aload_n O (pc := 51) 1 dX3_tell_51 rfl rfl ?_
        refine ld_g_M_temperOf O (pc := 52) ld_w52 dX3_tell_52 ?_
        refine ld_iload_n O (pc := 55) 2 dX3_tell_55 rfl rfl ?_
        refine ld_iald O (pc := 56) 21 (ld_ix k) (v := σ 21 (ld_ix k)) rfl (by decide) (show ld_ix k < 8 by omega) rfl dX3_tell_56 ?_
        refine ld_istore_n O (pc := 57) [(3, .int (σ 21 (ld_ix k))), (2, .int (σ 20 (ld_ix k))), (0, .ref (ad 8)), (1, .int (nI (ld_ix k)))] dX3_tell_57 rfl (by decide) rfl ?_
        refine ld_iload_n O (pc := 58) 1 dX3_tell_58 rfl rfl ?_
        refine ld_if_ne O (pc := 59) (σ 20 (ld_ix k)).toInt rfl 66 dX3_tell_59 (by decide) (fun c15 => ?_) (fun c15 => ?_)
        · refine ld_iload_n O (pc := 66) 1 dX3_tell_66 rfl rfl ?_
          refine ld_iconst O (pc := 67) (v := nI 1) dX3_tell_67 (by decide) ?_
          refine ld_icmp_ne O (pc := 68) (σ 20 (ld_ix k)).toInt 1 rfl (by decide) 78 dX3_tell_68 (by decide) (fun c16 => ?_) (fun c16 => ?_)
          · refine ld_iconst O (pc := 78) (v := nI 2) dX3_tell_78 (by decide) ?_
            refine ld_iload_n O (pc := 79) 0 dX3_tell_79 rfl rfl ?_
            refine ld_imul O (pc := 80) dX3_tell_80 ?_
            refine ld_bipush O (pc := 81) (v := nI 100) dX3_tell_81 (by decide) ?_
            refine ld_iadd O (pc := 83) dX3_tell_83 ?_
            refine ld_ireti E dX3_tell_84 ?_
            have hkt_ := (hkt _ hk_k).1
            refine ⟨?_, fun _ => nI 31 * ((fun _ => nI 31 * ((fun _ => nI 31 * ((fun _ => nI 31 * (σ 151 0) + (nI 3)) 0) + (nI 2)) 0) + (nI 1)) 0) + (nI 1), ?_, ?_⟩
            · unfold ld_fTe
              repeat' split
              all_goals first | (exfalso; omega) | rfl | exact ld_tt _
            · funext b_
              by_cases h0_ : b_ = 151
              · subst h0_; exact (us_eq _ _ _).trans (us_eq _ _ _).symm
              simp only [us, h0_, if_false]
            · unfold ld_gTe
              repeat' split
              all_goals first | (exfalso; omega) | rfl
          · refine ld_iload_n O (pc := 71) 0 dX3_tell_71 rfl rfl ?_
            refine ld_bipush O (pc := 72) (v := nI 100) dX3_tell_72 (by decide) ?_
            refine ld_iadd O (pc := 74) dX3_tell_74 ?_
            refine ld_goto O (pc := 75) 84 dX3_tell_75 (by decide) ?_
            refine ld_ireti E dX3_tell_84 ?_
            have hkt_ := (hkt _ hk_k).1
            refine ⟨?_, fun _ => nI 31 * ((fun _ => nI 31 * ((fun _ => nI 31 * ((fun _ => nI 31 * (σ 151 0) + (nI 3)) 0) + (nI 2)) 0) + (nI 1)) 0) + (nI 1), ?_, ?_⟩
            · unfold ld_fTe
              repeat' split
              all_goals first | (exfalso; omega) | rfl | exact ld_tt _
            · funext b_
              by_cases h0_ : b_ = 151
              · subst h0_; exact (us_eq _ _ _).trans (us_eq _ _ _).symm
              simp only [us, h0_, if_false]
            · unfold ld_gTe
              repeat' split
              all_goals first | (exfalso; omega) | rfl
        · refine ld_iload_n O (pc := 62) 0 dX3_tell_62 rfl rfl ?_
          refine ld_goto O (pc := 63) 84 dX3_tell_63 (by decide) ?_
          refine ld_ireti E dX3_tell_84 ?_
          have hkt_ := (hkt _ hk_k).1
          refine ⟨?_, fun _ => nI 31 * ((fun _ => nI 31 * ((fun _ => nI 31 * ((fun _ => nI 31 * (σ 151 0) + (nI 3)) 0) + (nI 2)) 0) + (nI 1)) 0) + (nI 1), ?_, ?_⟩
          · unfold ld_fTe
            repeat' split
            all_goals first | (exfalso; omega) | rfl | exact ld_tt _
          · funext b_
            by_cases h0_ : b_ = 151
            · subst h0_; exact (us_eq _ _ _).trans (us_eq _ _ _).symm
            simp only [us, h0_, if_false]
          · unfold ld_gTe
            repeat' split
            all_goals first | (exfalso; omega) | rfl
  · refine ld_iconst O (pc := 8) (v := (-1 : Int32)) dX3_tell_8 (by decide) ?_
    refine ld_ireti E dX3_tell_9 ?_
    refine ⟨?_, σ 151, ?_, ?_⟩
    · unfold ld_fTe
      repeat' split
      all_goals first | (exfalso; omega) | rfl | exact ld_tt _
    · funext b_
      by_cases h0_ : b_ = 151
      · subst h0_; exact (rfl).trans (us_eq _ _ _).symm
      simp only [us, h0_, if_false]
    · unfold ld_gTe
      repeat' split
      all_goals first | (exfalso; omega) | rfl
set_option maxHeartbeats 4000000 in
set_option maxRecDepth 100000 in
theorem c_X3_knock (l : Launch) (ad : Nat → Nat) (σ : ld_St) (h : Nat) (hh : σ 141 0 = nI h) (h8 : h ≤ 8) (hkt : ld_kt h (σ 20) (σ 21)) (k : Int32) : ld_Ctr l yX3_knock cX3_knock 2 (some .int) (2, 46) [.ref (ad 8), .int k] ad σ (ld_I (fun (r : Int32) (σ2 : ld_St) => r = ld_fKn h (σ 20) k ∧ ∃ f : Nat → Int32, σ2 = us σ 151 f ∧ f 0 = ld_gKn h (σ 20) (σ 151 0) k)) := by
  refine ld_entry (by decide +kernel) (Nat.le_of_ble_eq_true rfl) (fun K O E => ?_)
  have O : ld_Ok l K ad cX3_knock 2 RX3 (ld_rm (2, 46)) := O
  show K σ [(0, .ref (ad 8)), (1, .int k)] [] 0
  refine ld_aload_n O (pc := 0) 0 dX3_knock_0 rfl rfl ?_
  refine ld_iload_n O (pc := 1) 1 dX3_knock_1 rfl rfl ?_
  refine ld_callVi O (pc := 2) (As := [.int k]) (st := []) ld_recv8 (c_X3_noHouse l ad σ k h hh h8) ld_mw_X3_noHouse ld_w194 rfl rfl ⟨by decide, by decide⟩ (Nat.le_of_ble_eq_true rfl) dX3_knock_2 (fun r_p2 σ_p2 h_p2 => ?_)
  obtain ⟨rfl, hσ_p2⟩ := h_p2
  rw [hσ_p2]
  show K σ [(0, .ref (ad 8)), (1, .int k)] [.int (ld_b (¬ (0 ≤ (k).toInt ∧ (k).toInt < (h : Int))))] 5
  refine ld_ifb_eq O (pc := 5) 10 dX3_knock_5 (by decide) (fun c1 => ?_) (fun c1 => ?_)
  · replace c1 := Classical.byContradiction c1
    obtain ⟨ek_k, hk_k, ik_k⟩ := ld_ofIx (k := k) (h := h) (by omega)
    rw [ek_k]
    refine ld_aload_n O (pc := 10) 0 dX3_knock_10 rfl rfl ?_
    refine ld_aload_n O (pc := 11) 0 dX3_knock_11 rfl rfl ?_
    refine ld_g_M_kindOf O (pc := 12) ld_w51 dX3_knock_12 ?_
    refine ld_iload_n O (pc := 15) 1 dX3_knock_15 rfl rfl ?_
    refine ld_iald O (pc := 16) 20 (ld_ix k) (v := σ 20 (ld_ix k)) rfl (by decide) (show ld_ix k < 8 by omega) rfl dX3_knock_16 ?_
    refine ld_iconst O (pc := 17) (v := nI 2) dX3_knock_17 (by decide) ?_
    refine ld_icmp_ne O (pc := 18) (σ 20 (ld_ix k)).toInt 2 rfl (by decide) 25 dX3_knock_18 (by decide) (fun c2 => ?_) (fun c2 => ?_)
    · refine ld_iconst O (pc := 25) (v := nI 4) dX3_knock_25 (by decide) ?_
      refine ld_callVv O (pc := 26) (As := [.int (nI 4)]) (st := []) ld_recv8 (c_X3_traced l ad σ (nI 4)) ld_mw_X3_traced ld_w590 rfl rfl ⟨by decide, by decide⟩ (Nat.le_of_ble_eq_true rfl) dX3_knock_26 (fun σ_p26 h_p26 => ?_)
      have hσ_p26 := h_p26
      rw [hσ_p26]
      show K (us σ 151 (fun _ => nI 31 * (σ 151 0) + (nI 4))) [(0, .ref (ad 8)), (1, .int (nI (ld_ix k)))] [] 29
      refine ld_aload_n O (pc := 29) 0 dX3_knock_29 rfl rfl ?_
      refine ld_g_M_kindOf O (pc := 30) ld_w51 dX3_knock_30 ?_
      refine ld_iload_n O (pc := 33) 1 dX3_knock_33 rfl rfl ?_
      refine ld_iald O (pc := 34) 20 (ld_ix k) (v := σ 20 (ld_ix k)) rfl (by decide) (show ld_ix k < 8 by omega) rfl dX3_knock_34 ?_
      refine ld_iconst O (pc := 35) (v := nI 2) dX3_knock_35 (by decide) ?_
      refine ld_icmp_ne O (pc := 36) (σ 20 (ld_ix k)).toInt 2 rfl (by decide) 44 dX3_knock_36 (by decide) (fun c3 => ?_) (fun z => absurd z c2)
      refine ld_iload_n O (pc := 44) 1 dX3_knock_44 rfl rfl ?_
      refine ld_ireti E dX3_knock_45 ?_
      have hkt_ := (hkt _ hk_k).1
      refine ⟨?_, fun _ => nI 31 * (σ 151 0) + (nI 4), ?_, ?_⟩
      · unfold ld_fKn
        repeat' split
        all_goals first | (exfalso; omega) | rfl | exact ld_tt _
      · funext b_
        by_cases h0_ : b_ = 151
        · subst h0_; exact (us_eq _ _ _).trans (us_eq _ _ _).symm
        simp only [us, h0_, if_false]
      · unfold ld_gKn
        repeat' split
        all_goals first | (exfalso; omega) | rfl
    · refine ld_iconst O (pc := 21) (v := nI 5) dX3_knock_21 (by decide) ?_
      refine ld_goto O (pc := 22) 26 dX3_knock_22 (by decide) ?_
      refine ld_callVv O (pc := 26) (As := [.int (nI 5)]) (st := []) ld_recv8 (c_X3_traced l ad σ (nI 5)) ld_mw_X3_traced ld_w590 rfl rfl ⟨by decide, by decide⟩ (Nat.le_of_ble_eq_true rfl) dX3_knock_26 (fun σ_p26 h_p26 => ?_)
      have hσ_p26 := h_p26
      rw [hσ_p26]
      show K (us σ 151 (fun _ => nI 31 * (σ 151 0) + (nI 5))) [(0, .ref (ad 8)), (1, .int (nI (ld_ix k)))] [] 29
      refine ld_aload_n O (pc := 29) 0 dX3_knock_29 rfl rfl ?_
      refine ld_g_M_kindOf O (pc := 30) ld_w51 dX3_knock_30 ?_
      refine ld_iload_n O (pc := 33) 1 dX3_knock_33 rfl rfl ?_
      refine ld_iald O (pc := 34) 20 (ld_ix k) (v := σ 20 (ld_ix k)) rfl (by decide) (show ld_ix k < 8 by omega) rfl dX3_knock_34 ?_
      refine ld_iconst O (pc := 35) (v := nI 2) dX3_knock_35 (by decide) ?_
      refine ld_icmp_ne O (pc := 36) (σ 20 (ld_ix k)).toInt 2 rfl (by decide) 44 dX3_knock_36 (by decide) (fun z => absurd c2 z) (fun c4 => ?_)
      refine ld_bipush O (pc := 39) (v := nI 30) dX3_knock_39 (by decide) ?_
      refine ld_goto O (pc := 41) 45 dX3_knock_41 (by decide) ?_
      refine ld_ireti E dX3_knock_45 ?_
      have hkt_ := (hkt _ hk_k).1
      refine ⟨?_, fun _ => nI 31 * (σ 151 0) + (nI 5), ?_, ?_⟩
      · unfold ld_fKn
        repeat' split
        all_goals first | (exfalso; omega) | rfl | exact ld_tt _
      · funext b_
        by_cases h0_ : b_ = 151
        · subst h0_; exact (us_eq _ _ _).trans (us_eq _ _ _).symm
        simp only [us, h0_, if_false]
      · unfold ld_gKn
        repeat' split
        all_goals first | (exfalso; omega) | rfl
  · refine ld_iconst O (pc := 8) (v := (-1 : Int32)) dX3_knock_8 (by decide) ?_
    refine ld_ireti E dX3_knock_9 ?_
    refine ⟨?_, σ 151, ?_, ?_⟩
    · unfold ld_fKn
      repeat' split
      all_goals first | (exfalso; omega) | rfl | exact ld_tt _
    · funext b_
      by_cases h0_ : b_ = 151
      · subst h0_; exact (rfl).trans (us_eq _ _ _).symm
      simp only [us, h0_, if_false]
    · unfold ld_gKn
      repeat' split
      all_goals first | (exfalso; omega) | rfl
set_option maxHeartbeats 4000000 in
set_option maxRecDepth 100000 in
theorem c_X3_as (l : Launch) (ad : Nat → Nat) (σ : ld_St) (h : Nat) (hh : σ 141 0 = nI h) (h8 : h ≤ 8) (k kind : Int32) : ld_Ctr l yX3_as cX3_as 3 (some .int) (2, 46) [.ref (ad 8), .int k, .int kind] ad σ (ld_I (fun (r : Int32) (σ2 : ld_St) => r = ld_fAs h (σ 20) k kind ∧ ∃ f : Nat → Int32, σ2 = us σ 140 f ∧ f 0 = ld_eAs h (σ 20) k kind)) := by
  refine ld_entry (by decide +kernel) (Nat.le_of_ble_eq_true rfl) (fun K O E => ?_)
  have O : ld_Ok l K ad cX3_as 3 RX3 (ld_rm (2, 46)) := O
  show K σ [(0, .ref (ad 8)), (1, .int k), (2, .int kind)] [] 0
  refine ld_aload_n O (pc := 0) 0 dX3_as_0 rfl rfl ?_
  refine ld_iload_n O (pc := 1) 1 dX3_as_1 rfl rfl ?_
  refine ld_callVi O (pc := 2) (As := [.int k]) (st := []) ld_recv8 (c_X3_noHouse l ad σ k h hh h8) ld_mw_X3_noHouse ld_w194 rfl rfl ⟨by decide, by decide⟩ (Nat.le_of_ble_eq_true rfl) dX3_as_2 (fun r_p2 σ_p2 h_p2 => ?_)
  obtain ⟨rfl, hσ_p2⟩ := h_p2
  rw [hσ_p2]
  show K σ [(0, .ref (ad 8)), (1, .int k), (2, .int kind)] [.int (ld_b (¬ (0 ≤ (k).toInt ∧ (k).toInt < (h : Int))))] 5
  refine ld_ifb_eq O (pc := 5) 14 dX3_as_5 (by decide) (fun c1 => ?_) (fun c1 => ?_)
  · replace c1 := Classical.byContradiction c1
    obtain ⟨ek_k, hk_k, ik_k⟩ := ld_ofIx (k := k) (h := h) (by omega)
    rw [ek_k]
    refine ld_iload_n O (pc := 14) 2 dX3_as_14 rfl rfl ?_
    have hl2 : (kind.toInt64).toInt = (kind).toInt := (Int32.toInt_toInt64 _).trans rfl
    refine ld_i2l O (pc := 15) dX3_as_15 ?_
    refine ld_lconst O (pc := 16) (v := (0 : Int64)) dX3_as_16 (by decide) ?_
    refine ld_ldc2 O (pc := 17) (v := (2 : Int64)) dX3_as_17 ld_w116 ?_
    refine ld_callSi O (pc := 20) (As := [.long kind.toInt64, .long (0 : Int64), .long (2 : Int64)]) (st := []) (c_X3_in l ad σ kind.toInt64 (0 : Int64) (2 : Int64) ((kind).toInt) 0 (2) hl2 (by decide) (by decide)) ld_mw_X3_in ld_w128 rfl rfl ⟨by decide, by decide⟩ (Nat.le_of_ble_eq_true rfl) dX3_as_20 (fun r_p20 σ_p20 h_p20 => ?_)
    obtain ⟨rfl, hσ_p20⟩ := h_p20
    rw [hσ_p20]
    show K σ [(0, .ref (ad 8)), (1, .int (nI (ld_ix k))), (2, .int kind)] [.int (ld_b (0 ≤ (kind).toInt ∧ (kind).toInt ≤ (2)))] 23
    refine ld_ifb_ne O (pc := 23) 33 dX3_as_23 (by decide) (fun c3 => ?_) (fun c3 => ?_)
    · refine ld_aload_n O (pc := 33) 0 dX3_as_33 rfl rfl ?_
      refine ld_g_M_kindOf O (pc := 34) ld_w51 dX3_as_34 ?_
      refine ld_iload_n O (pc := 37) 1 dX3_as_37 rfl rfl ?_
      refine ld_iald O (pc := 38) 20 (ld_ix k) (v := σ 20 (ld_ix k)) rfl (by decide) (show ld_ix k < 8 by omega) rfl dX3_as_38 ?_
      refine ld_iload_n O (pc := 39) 2 dX3_as_39 rfl rfl ?_
      refine ld_icmp_lt O (pc := 40) (σ 20 (ld_ix k)).toInt (kind).toInt rfl rfl 51 dX3_as_40 (by decide) (fun c4 => ?_) (fun c4 => ?_)
      · refine ld_aload_n O (pc := 51) 0 dX3_as_51 rfl rfl ?_
        refine ld_iconst O (pc := 52) (v := nI 2) dX3_as_52 (by decide) ?_
        refine ld_callVi O (pc := 53) (As := [.int (nI 2)]) (st := []) ld_recv8 (c_X3_failed l ad σ (nI 2)) ld_mw_X3_failed ld_w140 rfl rfl ⟨by decide, by decide⟩ (Nat.le_of_ble_eq_true rfl) dX3_as_53 (fun r_p53 σ_p53 h_p53 => ?_)
        obtain ⟨rfl, hσ_p53⟩ := h_p53
        rw [hσ_p53]
        show K (us σ 140 (fun _ => nI 2)) [(0, .ref (ad 8)), (1, .int (nI (ld_ix k))), (2, .int kind)] [.int ((-10 : Int32) - (nI 2))] 56
        refine ld_ireti E dX3_as_56 ?_
        refine ⟨?_, fun _ => nI 2, ?_, ?_⟩
        · unfold ld_fAs
          repeat' split
          all_goals first | (exfalso; omega) | rfl
        · funext b_
          by_cases h0_ : b_ = 140
          · subst h0_; exact (us_eq _ _ _).trans (us_eq _ _ _).symm
          simp only [us, h0_, if_false]
        · unfold ld_eAs
          repeat' split
          all_goals first | (exfalso; omega) | rfl
      · refine ld_aload_n O (pc := 43) 0 dX3_as_43 rfl rfl ?_
        refine ld_iconst O (pc := 44) (v := nI 1) dX3_as_44 (by decide) ?_
        refine ld_callVi O (pc := 45) (As := [.int (nI 1)]) (st := []) ld_recv8 (c_X3_refused l ad σ (nI 1)) ld_mw_X3_refused ld_w131 rfl rfl ⟨by decide, by decide⟩ (Nat.le_of_ble_eq_true rfl) dX3_as_45 (fun r_p45 σ_p45 h_p45 => ?_)
        obtain ⟨rfl, hσ_p45⟩ := h_p45
        rw [hσ_p45]
        show K (us σ 140 (fun _ => nI 0)) [(0, .ref (ad 8)), (1, .int (nI (ld_ix k))), (2, .int kind)] [.int (nI 1)] 48
        refine ld_goto O (pc := 48) 56 dX3_as_48 (by decide) ?_
        refine ld_ireti E dX3_as_56 ?_
        refine ⟨?_, fun _ => nI 0, ?_, ?_⟩
        · unfold ld_fAs
          repeat' split
          all_goals first | (exfalso; omega) | rfl
        · funext b_
          by_cases h0_ : b_ = 140
          · subst h0_; exact (us_eq _ _ _).trans (us_eq _ _ _).symm
          simp only [us, h0_, if_false]
        · unfold ld_eAs
          repeat' split
          all_goals first | (exfalso; omega) | rfl
    · refine ld_aload_n O (pc := 26) 0 dX3_as_26 rfl rfl ?_
      refine ld_bipush O (pc := 27) (v := (-2 : Int32)) dX3_as_27 (by decide) ?_
      refine ld_callVi O (pc := 29) (As := [.int (-2 : Int32)]) (st := []) ld_recv8 (c_X3_refused l ad σ (-2 : Int32)) ld_mw_X3_refused ld_w131 rfl rfl ⟨by decide, by decide⟩ (Nat.le_of_ble_eq_true rfl) dX3_as_29 (fun r_p29 σ_p29 h_p29 => ?_)
      obtain ⟨rfl, hσ_p29⟩ := h_p29
      rw [hσ_p29]
      show K (us σ 140 (fun _ => nI 0)) [(0, .ref (ad 8)), (1, .int (nI (ld_ix k))), (2, .int kind)] [.int (-2 : Int32)] 32
      refine ld_ireti E dX3_as_32 ?_
      refine ⟨?_, fun _ => nI 0, ?_, ?_⟩
      · unfold ld_fAs
        repeat' split
        all_goals first | (exfalso; omega) | rfl
      · funext b_
        by_cases h0_ : b_ = 140
        · subst h0_; exact (us_eq _ _ _).trans (us_eq _ _ _).symm
        simp only [us, h0_, if_false]
      · unfold ld_eAs
        repeat' split
        all_goals first | (exfalso; omega) | rfl
  · refine ld_aload_n O (pc := 8) 0 dX3_as_8 rfl rfl ?_
    refine ld_iconst O (pc := 9) (v := (-1 : Int32)) dX3_as_9 (by decide) ?_
    refine ld_callVi O (pc := 10) (As := [.int (-1 : Int32)]) (st := []) ld_recv8 (c_X3_refused l ad σ (-1 : Int32)) ld_mw_X3_refused ld_w131 rfl rfl ⟨by decide, by decide⟩ (Nat.le_of_ble_eq_true rfl) dX3_as_10 (fun r_p10 σ_p10 h_p10 => ?_)
    obtain ⟨rfl, hσ_p10⟩ := h_p10
    rw [hσ_p10]
    show K (us σ 140 (fun _ => nI 0)) [(0, .ref (ad 8)), (1, .int k), (2, .int kind)] [.int (-1 : Int32)] 13
    refine ld_ireti E dX3_as_13 ?_
    refine ⟨?_, fun _ => nI 0, ?_, ?_⟩
    · unfold ld_fAs
      repeat' split
      all_goals first | (exfalso; omega) | rfl
    · funext b_
      by_cases h0_ : b_ = 140
      · subst h0_; exact (us_eq _ _ _).trans (us_eq _ _ _).symm
      simp only [us, h0_, if_false]
    · unfold ld_eAs
      repeat' split
      all_goals first | (exfalso; omega) | rfl
set_option maxHeartbeats 4000000 in
set_option maxRecDepth 100000 in
theorem c_X3_many (l : Launch) (ad : Nat → Nat) (σ : ld_St) (h : Nat) (hh : σ 141 0 = nI h) (h8 : h ≤ 8) (q : Nat) (hq : σ 150 0 = nI q) (q8 : q ≤ 8) (hs0 : ∀ x, x < h → 0 ≤ (σ 22 x).toInt) (what : Int32) : ld_Ctr l yX3_many cX3_many 2 (some .int) (1, 22) [.ref (ad 8), .int what] ad σ (ld_I (fun (r : Int32) (σ2 : ld_St) => r = ld_fMa h q (σ 142 0) (σ 143 0) (σ 22) what ∧ σ2 = σ)) := by
  refine ld_entry (by decide +kernel) (Nat.le_of_ble_eq_true rfl) (fun K O E => ?_)
  have O : ld_Ok l K ad cX3_many 2 RX3 (ld_rm (1, 22)) := O
  show K σ [(0, .ref (ad 8)), (1, .int what)] [] 0
  refine ld_iload_n O (pc := 0) 1 dX3_many_0 rfl rfl ?_
  by_cases t1 : (what).toInt = 0
  · refine ld_tabIn O (pc := 1) 36 dX3_many_1 (by omega) (by omega) (off := 35) (by rw [t1]; rfl) (by decide) ?_
    refine ld_aload_n O (pc := 36) 0 dX3_many_36 rfl rfl ?_
    refine ld_g_M_houses O (pc := 37) (v := nI h) ld_w119 hh dX3_many_37 ?_
    refine ld_ireti E dX3_many_40 ?_
    refine ⟨?_, rfl⟩
    unfold ld_fMa
    repeat' split
    all_goals first | (exfalso; omega) | rfl
  by_cases t2 : (what).toInt = 1
  · refine ld_tabIn O (pc := 1) 41 dX3_many_1 (by omega) (by omega) (off := 40) (by rw [t2]; rfl) (by decide) ?_
    refine ld_aload_n O (pc := 41) 0 dX3_many_41 rfl rfl ?_
    refine ld_g_M_crateNow O (pc := 42) (v := σ 142 0) ld_w121 rfl dX3_many_42 ?_
    refine ld_ireti E dX3_many_45 ?_
    refine ⟨?_, rfl⟩
    unfold ld_fMa
    repeat' split
    all_goals first | (exfalso; omega) | rfl
  by_cases t3 : (what).toInt = 2
  · refine ld_tabIn O (pc := 1) 46 dX3_many_1 (by omega) (by omega) (off := 45) (by rw [t3]; rfl) (by decide) ?_
    refine ld_aload_n O (pc := 46) 0 dX3_many_46 rfl rfl ?_
    refine ld_g_M_weekNow O (pc := 47) (v := σ 143 0) ld_w122 rfl dX3_many_47 ?_
    refine ld_ireti E dX3_many_50 ?_
    refine ⟨?_, rfl⟩
    unfold ld_fMa
    repeat' split
    all_goals first | (exfalso; omega) | rfl
  by_cases t4 : (what).toInt = 3
  · refine ld_tabIn O (pc := 1) 51 dX3_many_1 (by omega) (by omega) (off := 50) (by rw [t4]; rfl) (by decide) ?_
    refine ld_aload_n O (pc := 51) 0 dX3_many_51 rfl rfl ?_
    refine ld_callVi O (pc := 52) (As := []) (st := []) ld_recv8 (c_X3_without l ad σ h hh h8 hs0) ld_mw_X3_without ld_w284 rfl rfl ⟨by decide, by decide⟩ (Nat.le_of_ble_eq_true rfl) dX3_many_52 (fun r_p52 σ_p52 h_p52 => ?_)
    obtain ⟨rfl, hσ_p52⟩ := h_p52
    rw [hσ_p52]
    show K σ [(0, .ref (ad 8)), (1, .int what)] [.int (nI (ld_wo h (σ 22)))] 55
    refine ld_ireti E dX3_many_55 ?_
    refine ⟨?_, rfl⟩
    unfold ld_fMa
    repeat' split
    all_goals first | (exfalso; omega) | rfl
  by_cases t5 : (what).toInt = 4
  · refine ld_tabIn O (pc := 1) 56 dX3_many_1 (by omega) (by omega) (off := 55) (by rw [t5]; rfl) (by decide) ?_
    refine ld_aload_n O (pc := 56) 0 dX3_many_56 rfl rfl ?_
    refine ld_g_M_readings O (pc := 57) (v := nI q) ld_w123 hq dX3_many_57 ?_
    refine ld_ireti E dX3_many_60 ?_
    refine ⟨?_, rfl⟩
    unfold ld_fMa
    repeat' split
    all_goals first | (exfalso; omega) | rfl
  refine ld_tabOut O (pc := 1) 61 dX3_many_1 (by omega) (by decide) ?_
  refine ld_bipush O (pc := 61) (v := (-2 : Int32)) dX3_many_61 (by decide) ?_
  refine ld_ireti E dX3_many_63 ?_
  refine ⟨?_, rfl⟩
  unfold ld_fMa
  repeat' split
  all_goals first | (exfalso; omega) | rfl
set_option maxHeartbeats 4000000 in
set_option maxRecDepth 100000 in
theorem c_X3_lose (l : Launch) (ad : Nat → Nat) (σ : ld_St) (hS : ∀ x, x < 4 → -1 ≤ (σ 34 x).toInt ∧ (σ 34 x).toInt ≤ 60) (k : Int32) : ld_Ctr l yX3_lose cX3_lose 3 (some .int) (2, 45) [.ref (ad 8), .int k] ad σ (ld_I (fun (r : Int32) (σ2 : ld_St) => r = ld_fLo (σ 34) k ∧ σ2 = us σ 34 (ld_gLo (σ 34) k))) := by
  refine ld_entry (by decide +kernel) (Nat.le_of_ble_eq_true rfl) (fun K O E => ?_)
  have O : ld_Ok l K ad cX3_lose 3 RX3 (ld_rm (2, 45)) := O
  show K σ [(0, .ref (ad 8)), (1, .int k)] [] 0
  refine ld_iload_n O (pc := 0) 1 dX3_lose_0 rfl rfl ?_
  refine ld_callSi O (pc := 1) (As := [.int k]) (st := []) (c_X3_noSheet l ad σ k) ld_mw_X3_noSheet ld_w124 rfl rfl ⟨by decide, by decide⟩ (Nat.le_of_ble_eq_true rfl) dX3_lose_1 (fun r_p1 σ_p1 h_p1 => ?_)
  obtain ⟨rfl, hσ_p1⟩ := h_p1
  rw [hσ_p1]
  show K σ [(0, .ref (ad 8)), (1, .int k)] [.int (ld_b (¬ (0 ≤ (k).toInt ∧ (k).toInt < 4)))] 4
  refine ld_ifb_eq O (pc := 4) 9 dX3_lose_4 (by decide) (fun c1 => ?_) (fun c1 => ?_)
  · replace c1 := Classical.byContradiction c1
    obtain ⟨ek_k, hk_k, ik_k⟩ := ld_ofIx (k := k) (h := 4) (by omega)
    rw [ek_k]
    refine ld_aload_n O (pc := 9) 0 dX3_lose_9 rfl rfl ?_
    refine ld_g_M_sheetSize O (pc := 10) ld_w65 dX3_lose_10 ?_
    refine ld_iload_n O (pc := 13) 1 dX3_lose_13 rfl rfl ?_
    refine ld_iald O (pc := 14) 34 (ld_ix k) (v := σ 34 (ld_ix k)) rfl (by decide) (show ld_ix k < 4 by omega) rfl dX3_lose_14 ?_
    refine ld_if_ge O (pc := 15) (σ 34 (ld_ix k)).toInt rfl 22 dX3_lose_15 (by decide) (fun c2 => ?_) (fun c2 => ?_)
    · refine ld_iconst O (pc := 22) (v := nI 1) dX3_lose_22 (by decide) ?_
      refine ld_istore_n O (pc := 23) [(2, .int (nI 1)), (0, .ref (ad 8)), (1, .int (nI (ld_ix k)))] dX3_lose_23 rfl (by decide) rfl ?_
      refine ld_aload_n O (pc := 24) 1 dX3_lose_24 rfl rfl ?_
      refine ld_g_M_sheetSize O (pc := 25) ld_w65 dX3_lose_25 ?_
      refine ld_iload_n O (pc := 28) 2 dX3_lose_28 rfl rfl ?_
      refine ld_iconst O (pc := 29) (v := (-1 : Int32)) dX3_lose_29 (by decide) ?_
      refine ld_iast O (pc := 30) 34 (ld_ix k) rfl (by decide) (show ld_ix k < 4 by omega) dX3_lose_30 ?_
      refine ld_iload_n O (pc := 31) 0 dX3_lose_31 rfl rfl ?_
      refine ld_ireti E dX3_lose_32 ?_
      have hs_ := hS _ hk_k
      refine ⟨?_, ?_⟩
      · unfold ld_fLo
        repeat' split
        all_goals first | (exfalso; omega) | rfl
      · unfold ld_gLo; rw [if_pos (by omega)]
    · refine ld_iconst O (pc := 18) (v := nI 0) dX3_lose_18 (by decide) ?_
      refine ld_goto O (pc := 19) 23 dX3_lose_19 (by decide) ?_
      refine ld_istore_n O (pc := 23) [(2, .int (nI 0)), (0, .ref (ad 8)), (1, .int (nI (ld_ix k)))] dX3_lose_23 rfl (by decide) rfl ?_
      refine ld_aload_n O (pc := 24) 1 dX3_lose_24 rfl rfl ?_
      refine ld_g_M_sheetSize O (pc := 25) ld_w65 dX3_lose_25 ?_
      refine ld_iload_n O (pc := 28) 2 dX3_lose_28 rfl rfl ?_
      refine ld_iconst O (pc := 29) (v := (-1 : Int32)) dX3_lose_29 (by decide) ?_
      refine ld_iast O (pc := 30) 34 (ld_ix k) rfl (by decide) (show ld_ix k < 4 by omega) dX3_lose_30 ?_
      refine ld_iload_n O (pc := 31) 0 dX3_lose_31 rfl rfl ?_
      refine ld_ireti E dX3_lose_32 ?_
      have hs_ := hS _ hk_k
      refine ⟨?_, ?_⟩
      · unfold ld_fLo
        repeat' split
        all_goals first | (exfalso; omega) | rfl
      · unfold ld_gLo; rw [if_pos (by omega)]
  · refine ld_iconst O (pc := 7) (v := (-1 : Int32)) dX3_lose_7 (by decide) ?_
    refine ld_ireti E dX3_lose_8 ?_
    refine ⟨?_, ?_⟩
    · unfold ld_fLo
      repeat' split
      all_goals first | (exfalso; omega) | rfl
    · unfold ld_gLo; rw [if_neg (by omega), us_self]
