set_option maxHeartbeats 4000000 in
set_option maxRecDepth 100000 in
theorem c_X2_goesOn (l : Launch) (ad : Nat → Nat) (σ : ld_St) (p : Nat) (hp : p < 1000) (c : Int32) : ld_Ctr l yX2_goesOn cX2_goesOn 2 (some .boolean) (1, 20) [.int (nI p), .int c] ad σ (ld_I (fun (r : Int32) (σ2 : ld_St) => r = ld_b (ld_go p c) ∧ σ2 = σ)) := by
  refine ld_entry (by decide +kernel) (Nat.le_of_ble_eq_true rfl) (fun K O E => ?_)
  have O : ld_Ok l K ad cX2_goesOn 2 RX2 (ld_rm (1, 20)) := O
  show K σ [(0, .int (nI p)), (1, .int c)] [] 0
  refine ld_iload_n O (pc := 0) 0 dX2_goesOn_0 rfl rfl ?_
  refine ld_bipush O (pc := 1) (v := nI 35) dX2_goesOn_1 (by decide) ?_
  refine ld_icmp_lt O (pc := 3) ((p : Nat) : Int) 35 (nI_toInt (by omega)) (by decide) 8 dX2_goesOn_3 (by decide) (fun c1 => ?_) (fun c1 => ?_)
  · refine ld_iload_n O (pc := 8) 0 dX2_goesOn_8 rfl rfl ?_
    refine ld_iconst O (pc := 9) (v := nI 3) dX2_goesOn_9 (by decide) ?_
    refine ld_icmp_ge O (pc := 10) ((p : Nat) : Int) 3 (nI_toInt (by omega)) (by decide) 36 dX2_goesOn_10 (by decide) (fun c2 => ?_) (fun c2 => ?_)
    · refine ld_iload_n O (pc := 36) 0 dX2_goesOn_36 rfl rfl ?_
      refine ld_iconst O (pc := 37) (v := nI 3) dX2_goesOn_37 (by decide) ?_
      refine ld_isubN O (pc := 38) (by omega) dX2_goesOn_38 ?_
      refine ld_iconst O (pc := 39) (v := nI 4) dX2_goesOn_39 (by decide) ?_
      refine ld_irem O (pc := 40) dX2_goesOn_40 (by decide) ?_
      rw [pk_rem (by omega) (by decide) (by decide)]
      by_cases t3 : (((p - 3) % 4 : Nat) : Int) = 0
      · refine ld_look O (pc := 41) 68 dX2_goesOn_41 (by decide) (off := 27) (by rw [(nI_toInt (by omega)).trans t3]; rfl) (by decide) ?_
        refine ld_iload_n O (pc := 68) 1 dX2_goesOn_68 rfl rfl ?_
        refine ld_bipush O (pc := 69) (v := nI 59) dX2_goesOn_69 (by decide) ?_
        refine ld_icmp_ne O (pc := 71) (c).toInt 59 rfl (by decide) 78 dX2_goesOn_71 (by decide) (fun c4 => ?_) (fun c4 => ?_)
        · refine ld_iconst O (pc := 78) (v := nI 0) dX2_goesOn_78 (by decide) ?_
          refine ld_iretz E (Or.inl rfl) dX2_goesOn_79 ?_
          refine ⟨(ld_b_f ?_).symm, rfl⟩
          unfold ld_go ld_dg
          repeat' split
          all_goals omega
        · refine ld_iconst O (pc := 74) (v := nI 1) dX2_goesOn_74 (by decide) ?_
          refine ld_goto O (pc := 75) 79 dX2_goesOn_75 (by decide) ?_
          refine ld_iretz E (Or.inr rfl) dX2_goesOn_79 ?_
          refine ⟨(ld_b_t ?_).symm, rfl⟩
          unfold ld_go ld_dg
          repeat' split
          all_goals omega
      by_cases t5 : (((p - 3) % 4 : Nat) : Int) = 1
      · refine ld_look O (pc := 41) 80 dX2_goesOn_41 (by decide) (off := 39) (by rw [(nI_toInt (by omega)).trans t5]; rfl) (by decide) ?_
        refine ld_iload_n O (pc := 80) 1 dX2_goesOn_80 rfl rfl ?_
        refine ld_callSi O (pc := 81) (As := [.int c]) (st := []) (c_X2_kindByLetter l ad σ c) ld_mw_X2_kindByLetter ld_w102 rfl rfl ⟨by decide, by decide⟩ (Nat.le_of_ble_eq_true rfl) dX2_goesOn_81 (fun r_p81 σ_p81 h_p81 => ?_)
        obtain ⟨rfl, hσ_p81⟩ := h_p81
        rw [hσ_p81]
        show K σ [(0, .int (nI p)), (1, .int c)] [.int (ld_kl c)] 84
        refine ld_bipush O (pc := 84) (v := (-9 : Int32)) dX2_goesOn_84 (by decide) ?_
        refine ld_icmp_eq O (pc := 86) (ld_kl c).toInt (-9) rfl (by decide) 93 dX2_goesOn_86 (by decide) (fun c6 => ?_) (fun c6 => ?_)
        · refine ld_iconst O (pc := 93) (v := nI 0) dX2_goesOn_93 (by decide) ?_
          refine ld_iretz E (Or.inl rfl) dX2_goesOn_94 ?_
          refine ⟨(ld_b_f ?_).symm, rfl⟩
          unfold ld_go ld_dg
          repeat' split
          all_goals omega
        · refine ld_iconst O (pc := 89) (v := nI 1) dX2_goesOn_89 (by decide) ?_
          refine ld_goto O (pc := 90) 94 dX2_goesOn_90 (by decide) ?_
          refine ld_iretz E (Or.inr rfl) dX2_goesOn_94 ?_
          refine ⟨(ld_b_t ?_).symm, rfl⟩
          unfold ld_go ld_dg
          repeat' split
          all_goals omega
      refine ld_look O (pc := 41) 95 dX2_goesOn_41 (by decide) (off := 54) (by show Op.lookupswitch.offset [((0 : Int), (27 : Int)), ((1 : Int), (39 : Int))] (54) _ = _; rw [Op.lookupswitch.offset_cons, if_neg (fun z => t3 (Eq.trans (Eq.symm (nI_toInt (by omega))) z.symm)), Op.lookupswitch.offset_cons, if_neg (fun z => t5 (Eq.trans (Eq.symm (nI_toInt (by omega))) z.symm))]; rfl) (by decide) ?_
      refine ld_iload_n O (pc := 95) 1 dX2_goesOn_95 rfl rfl ?_
      refine ld_callSi O (pc := 96) (As := [.int c]) (st := []) (c_X2_isDigit l ad σ c) ld_mw_X2_isDigit ld_w99 rfl rfl ⟨by decide, by decide⟩ (Nat.le_of_ble_eq_true rfl) dX2_goesOn_96 (fun r_p96 σ_p96 h_p96 => ?_)
      obtain ⟨rfl, hσ_p96⟩ := h_p96
      rw [hσ_p96]
      show K σ [(0, .int (nI p)), (1, .int c)] [.int (ld_b (48 ≤ (c).toInt ∧ (c).toInt < 58))] 99
      refine ld_iretz E (ld_b_01 _) dX2_goesOn_99 ?_
      refine ⟨ld_b_cong ?_, rfl⟩
      unfold ld_go ld_dg
      repeat' split
      all_goals omega
    · refine ld_iload_n O (pc := 13) 0 dX2_goesOn_13 rfl rfl ?_
      refine ld_if_ne O (pc := 14) ((p : Nat) : Int) (nI_toInt (by omega)) 31 dX2_goesOn_14 (by decide) (fun c7 => ?_) (fun c7 => ?_)
      · refine ld_iload_n O (pc := 31) 1 dX2_goesOn_31 rfl rfl ?_
        refine ld_callSi O (pc := 32) (As := [.int c]) (st := []) (c_X2_isDigit l ad σ c) ld_mw_X2_isDigit ld_w99 rfl rfl ⟨by decide, by decide⟩ (Nat.le_of_ble_eq_true rfl) dX2_goesOn_32 (fun r_p32 σ_p32 h_p32 => ?_)
        obtain ⟨rfl, hσ_p32⟩ := h_p32
        rw [hσ_p32]
        show K σ [(0, .int (nI p)), (1, .int c)] [.int (ld_b (48 ≤ (c).toInt ∧ (c).toInt < 58))] 35
        refine ld_iretz E (ld_b_01 _) dX2_goesOn_35 ?_
        refine ⟨ld_b_cong ?_, rfl⟩
        unfold ld_go ld_dg
        repeat' split
        all_goals omega
      · refine ld_iload_n O (pc := 17) 1 dX2_goesOn_17 rfl rfl ?_
        refine ld_bipush O (pc := 18) (v := nI 108) dX2_goesOn_18 (by decide) ?_
        refine ld_icmp_ne O (pc := 20) (c).toInt 108 rfl (by decide) 27 dX2_goesOn_20 (by decide) (fun c8 => ?_) (fun c8 => ?_)
        · refine ld_iconst O (pc := 27) (v := nI 0) dX2_goesOn_27 (by decide) ?_
          refine ld_goto O (pc := 28) 35 dX2_goesOn_28 (by decide) ?_
          refine ld_iretz E (Or.inl rfl) dX2_goesOn_35 ?_
          refine ⟨(ld_b_f ?_).symm, rfl⟩
          unfold ld_go ld_dg
          repeat' split
          all_goals omega
        · refine ld_iconst O (pc := 23) (v := nI 1) dX2_goesOn_23 (by decide) ?_
          refine ld_goto O (pc := 24) 35 dX2_goesOn_24 (by decide) ?_
          refine ld_iretz E (Or.inr rfl) dX2_goesOn_35 ?_
          refine ⟨(ld_b_t ?_).symm, rfl⟩
          unfold ld_go ld_dg
          repeat' split
          all_goals omega
  · refine ld_iconst O (pc := 6) (v := nI 0) dX2_goesOn_6 (by decide) ?_
    refine ld_iretz E (Or.inl rfl) dX2_goesOn_7 ?_
    refine ⟨(ld_b_f ?_).symm, rfl⟩
    unfold ld_go ld_dg
    repeat' split
    all_goals omega
set_option maxHeartbeats 4000000 in
set_option maxRecDepth 100000 in
theorem c_X2_firstTextFault (l : Launch) (ad : Nat → Nat) (σ : ld_St) (k : Nat) (hk : k < 4) (i0 : Nat) (n : Nat) (hb : i0 + n ≤ 60) : ld_Ctr l yX2_firstTextFault cX2_firstTextFault 4 (some .int) (2, 41) [.ref (ad (9 + (16 + k))), .int (nI i0), .int (nI n)] ad σ (ld_I (fun (r : Int32) (σ2 : ld_St) => r = ld_ftf (fun z => σ (16 + k) (i0 + z)) n ∧ σ2 = σ)) := by
  refine ld_entry (by decide +kernel) (Nat.le_of_ble_eq_true rfl) (fun K O E => ?_)
  have O : ld_Ok l K ad cX2_firstTextFault 4 RX2 (ld_rm (2, 41)) := O
  show K σ [(0, .ref (ad (9 + (16 + k)))), (1, .int (nI i0)), (2, .int (nI n))] [] 0
  refine ld_iconst O (pc := 0) (v := nI 0) dX2_firstTextFault_0 (by decide) ?_
  refine ld_istore_n O (pc := 1) [(3, .int (nI 0)), (0, .ref (ad (9 + (16 + k)))), (1, .int (nI i0)), (2, .int (nI n))] dX2_firstTextFault_1 rfl (by decide) rfl ?_
  have L2 : ∀ (m_2 : Nat) (i : Nat), n - i < m_2 → (i ≤ n) → (ld_fi (fun p => ¬ ld_go p (σ (16 + k) (i0 + p))) i = none) → K σ [(0, .ref (ad (9 + (16 + k)))), (1, .int (nI i0)), (2, .int (nI n)), (3, .int (nI i))] [] 2 := by
    intro m_2
    induction m_2 with
    | zero => intro i hm_; exact absurd hm_ (Nat.not_lt_zero _)
    | succ m_2 ih2 =>
      intro i hm_2 hi hf
      refine ld_iload_n O (pc := 2) 3 dX2_firstTextFault_2 rfl rfl ?_
      refine ld_iload_n O (pc := 3) 2 dX2_firstTextFault_3 rfl rfl ?_
      refine ld_icmp_ge O (pc := 4) ((i : Nat) : Int) ((n : Nat) : Int) (nI_toInt (by omega)) (nI_toInt (by omega)) 27 dX2_firstTextFault_4 (by decide) (fun c1 => ?_) (fun c1 => ?_)
      · refine ld_iload_n O (pc := 27) 2 dX2_firstTextFault_27 rfl rfl ?_
        refine ld_iconst O (pc := 28) (v := nI 3) dX2_firstTextFault_28 (by decide) ?_
        refine ld_icmp_le O (pc := 29) ((n : Nat) : Int) 3 (nI_toInt (by omega)) (by decide) 44 dX2_firstTextFault_29 (by decide) (fun c2 => ?_) (fun c2 => ?_)
        · refine ld_iconst O (pc := 44) (v := nI 0) dX2_firstTextFault_44 (by decide) ?_
          refine ld_istore_n O (pc := 45) [(3, .int (nI 0)), (0, .ref (ad (9 + (16 + k)))), (1, .int (nI i0)), (2, .int (nI n))] dX2_firstTextFault_45 rfl (by decide) rfl ?_
          refine ld_iload_n O (pc := 46) 0 dX2_firstTextFault_46 rfl rfl ?_
          refine ld_if_eq O (pc := 47) 0 (by decide) 55 dX2_firstTextFault_47 (by decide) (fun _ => ?_) (fun z => absurd z (by decide))
          refine ld_iload_n O (pc := 55) 3 dX2_firstTextFault_55 rfl rfl ?_
          refine ld_ireti E dX2_firstTextFault_56 ?_
          refine ⟨?_, rfl⟩
          rw [show i = n by omega] at hf
          rw [ld_ftf_n hf]
          first | exact (if_pos (by omega)).symm | exact (if_neg (by omega)).symm
        · refine ld_iload_n O (pc := 32) 2 dX2_firstTextFault_32 rfl rfl ?_
          refine ld_iconst O (pc := 33) (v := nI 3) dX2_firstTextFault_33 (by decide) ?_
          refine ld_isubN O (pc := 34) (by omega) dX2_firstTextFault_34 ?_
          refine ld_iconst O (pc := 35) (v := nI 4) dX2_firstTextFault_35 (by decide) ?_
          refine ld_irem O (pc := 36) dX2_firstTextFault_36 (by decide) ?_
          rw [pk_rem (by omega) (by decide) (by decide)]
          refine ld_if_ne O (pc := 37) (((n - 3) % 4 : Nat) : Int) (nI_toInt (by omega)) 44 dX2_firstTextFault_37 (by decide) (fun c4 => ?_) (fun c4 => ?_)
          · refine ld_iconst O (pc := 44) (v := nI 0) dX2_firstTextFault_44 (by decide) ?_
            refine ld_istore_n O (pc := 45) [(3, .int (nI 0)), (0, .ref (ad (9 + (16 + k)))), (1, .int (nI i0)), (2, .int (nI n))] dX2_firstTextFault_45 rfl (by decide) rfl ?_
            refine ld_iload_n O (pc := 46) 0 dX2_firstTextFault_46 rfl rfl ?_
            refine ld_if_eq O (pc := 47) 0 (by decide) 55 dX2_firstTextFault_47 (by decide) (fun _ => ?_) (fun z => absurd z (by decide))
            refine ld_iload_n O (pc := 55) 3 dX2_firstTextFault_55 rfl rfl ?_
            refine ld_ireti E dX2_firstTextFault_56 ?_
            refine ⟨?_, rfl⟩
            rw [show i = n by omega] at hf
            rw [ld_ftf_n hf]
            first | exact (if_pos (by omega)).symm | exact (if_neg (by omega)).symm
          · refine ld_iconst O (pc := 40) (v := nI 1) dX2_firstTextFault_40 (by decide) ?_
            refine ld_goto O (pc := 41) 45 dX2_firstTextFault_41 (by decide) ?_
            refine ld_istore_n O (pc := 45) [(3, .int (nI 1)), (0, .ref (ad (9 + (16 + k)))), (1, .int (nI i0)), (2, .int (nI n))] dX2_firstTextFault_45 rfl (by decide) rfl ?_
            refine ld_iload_n O (pc := 46) 0 dX2_firstTextFault_46 rfl rfl ?_
            refine ld_if_eq O (pc := 47) 1 (by decide) 55 dX2_firstTextFault_47 (by decide) (fun z => absurd z (by decide)) (fun _ => ?_)
            refine ld_bipush O (pc := 50) (v := (-9 : Int32)) dX2_firstTextFault_50 (by decide) ?_
            refine ld_goto O (pc := 52) 56 dX2_firstTextFault_52 (by decide) ?_
            refine ld_ireti E dX2_firstTextFault_56 ?_
            refine ⟨?_, rfl⟩
            rw [show i = n by omega] at hf
            rw [ld_ftf_n hf]
            first | exact (if_pos (by omega)).symm | exact (if_neg (by omega)).symm
      · refine ld_iload_n O (pc := 7) 3 dX2_firstTextFault_7 rfl rfl ?_
        refine ld_aload_n O (pc := 8) 0 dX2_firstTextFault_8 rfl rfl ?_
        refine ld_iload_n O (pc := 9) 1 dX2_firstTextFault_9 rfl rfl ?_
        refine ld_iload_n O (pc := 10) 3 dX2_firstTextFault_10 rfl rfl ?_
        refine ld_iaddN O (pc := 11) dX2_firstTextFault_11 ?_
        refine ld_iald O (pc := 12) (16 + k) (i0 + i) (v := σ (16 + k) (i0 + i)) rfl (by omega) (by rw [ld_lenS hk]; omega) rfl dX2_firstTextFault_12 ?_
        refine ld_callSi O (pc := 13) (As := [.int (nI i), .int (σ (16 + k) (i0 + i))]) (st := []) (c_X2_goesOn l ad σ i (by omega) (σ (16 + k) (i0 + i))) ld_mw_X2_goesOn ld_w96 rfl rfl ⟨by decide, by decide⟩ (Nat.le_of_ble_eq_true rfl) dX2_firstTextFault_13 (fun r_p13 σ_p13 h_p13 => ?_)
        obtain ⟨rfl, hσ_p13⟩ := h_p13
        rw [hσ_p13]
        show K σ [(0, .ref (ad (9 + (16 + k)))), (1, .int (nI i0)), (2, .int (nI n)), (3, .int (nI i))] [.int (ld_b (ld_go i (σ (16 + k) (i0 + i))))] 16
        refine ld_ifb_ne O (pc := 16) 21 dX2_firstTextFault_16 (by decide) (fun c7 => ?_) (fun c7 => ?_)
        · refine ld_iincN O (pc := 21) [(3, .int (nI (i + 1))), (0, .ref (ad (9 + (16 + k)))), (1, .int (nI i0)), (2, .int (nI n))] 3 dX2_firstTextFault_21 rfl (by decide) rfl ?_
          refine ld_goto O (pc := 24) 2 dX2_firstTextFault_24 (by decide) ?_
          refine ld_less O [1, 2, 3, 0] (lv2 := [(0, .ref (ad (9 + (16 + k)))), (1, .int (nI i0)), (2, .int (nI n)), (3, .int (nI (i + 1)))]) rfl ?_
          exact ih2 (i + 1) (by omega) (by omega) (ld_fi_no hf (fun z => z c7))
        · refine ld_iload_n O (pc := 19) 3 dX2_firstTextFault_19 rfl rfl ?_
          refine ld_ireti E dX2_firstTextFault_20 ?_
          exact ⟨(ld_ftf_s (ld_fi_yes hf c7 (by omega))).symm, rfl⟩
  refine ld_less O [1, 2, 3, 0] (lv2 := [(0, .ref (ad (9 + (16 + k)))), (1, .int (nI i0)), (2, .int (nI n)), (3, .int (nI 0))]) rfl ?_
  exact L2 _ 0 (Nat.lt_succ_self _) (Nat.zero_le _) rfl
set_option maxHeartbeats 4000000 in
set_option maxRecDepth 100000 in
theorem c_X2_refusalOfPair (l : Launch) (ad : Nat → Nat) (σ : ld_St) (h : Nat) (hh : σ 110 0 = nI h) (h8 : h ≤ 8) (a act : Int32) : ld_Ctr l yX2_refusalOfPair cX2_refusalOfPair 3 (some .int) (1, 21) [.ref (ad 0), .int a, .int act] ad σ (ld_I (fun (r : Int32) (σ2 : ld_St) => r = ld_rp h a act ∧ σ2 = σ)) := by
  refine ld_entry (by decide +kernel) (Nat.le_of_ble_eq_true rfl) (fun K O E => ?_)
  have O : ld_Ok l K ad cX2_refusalOfPair 3 RX2 (ld_rm (1, 21)) := O
  show K σ [(0, .ref (ad 0)), (1, .int a), (2, .int act)] [] 0
  refine ld_iload_n O (pc := 0) 2 dX2_refusalOfPair_0 rfl rfl ?_
  by_cases t1 : (act).toInt = 0
  · refine ld_tabIn O (pc := 1) 28 dX2_refusalOfPair_1 (by omega) (by omega) (off := 27) (by rw [t1]; rfl) (by decide) ?_
    refine ld_iload_n O (pc := 28) 1 dX2_refusalOfPair_28 rfl rfl ?_
    refine ld_if_lt O (pc := 29) (a).toInt rfl 42 dX2_refusalOfPair_29 (by decide) (fun c2 => ?_) (fun c2 => ?_)
    · refine ld_bipush O (pc := 42) (v := (-2 : Int32)) dX2_refusalOfPair_42 (by decide) ?_
      refine ld_ireti E dX2_refusalOfPair_44 ?_
      refine ⟨?_, rfl⟩
      unfold ld_rp
      repeat' split
      all_goals first | rfl | (exfalso; omega)
    · refine ld_iload_n O (pc := 32) 1 dX2_refusalOfPair_32 rfl rfl ?_
      refine ld_bipush O (pc := 33) (v := nI 9) dX2_refusalOfPair_33 (by decide) ?_
      refine ld_icmp_gt O (pc := 35) (a).toInt 9 rfl (by decide) 42 dX2_refusalOfPair_35 (by decide) (fun c3 => ?_) (fun c3 => ?_)
      · refine ld_bipush O (pc := 42) (v := (-2 : Int32)) dX2_refusalOfPair_42 (by decide) ?_
        refine ld_ireti E dX2_refusalOfPair_44 ?_
        refine ⟨?_, rfl⟩
        unfold ld_rp
        repeat' split
        all_goals first | rfl | (exfalso; omega)
      · refine ld_iconst O (pc := 38) (v := nI 0) dX2_refusalOfPair_38 (by decide) ?_
        refine ld_goto O (pc := 39) 44 dX2_refusalOfPair_39 (by decide) ?_
        refine ld_ireti E dX2_refusalOfPair_44 ?_
        refine ⟨?_, rfl⟩
        unfold ld_rp
        repeat' split
        all_goals first | rfl | (exfalso; omega)
  by_cases t4 : (act).toInt = 1
  · refine ld_tabIn O (pc := 1) 45 dX2_refusalOfPair_1 (by omega) (by omega) (off := 44) (by rw [t4]; rfl) (by decide) ?_
    refine ld_aload_n O (pc := 45) 0 dX2_refusalOfPair_45 rfl rfl ?_
    refine ld_iload_n O (pc := 46) 1 dX2_refusalOfPair_46 rfl rfl ?_
    refine ld_callVi O (pc := 47) (As := [.int a]) (st := []) ld_recv0 (c_X2_isHouse l ad σ a h hh h8) ld_mw_X2_isHouse ld_w168 rfl rfl ⟨by decide, by decide⟩ (Nat.le_of_ble_eq_true rfl) dX2_refusalOfPair_47 (fun r_p47 σ_p47 h_p47 => ?_)
    obtain ⟨rfl, hσ_p47⟩ := h_p47
    rw [hσ_p47]
    show K σ [(0, .ref (ad 0)), (1, .int a), (2, .int act)] [.int (ld_b (0 ≤ (a).toInt ∧ (a).toInt < (h : Int)))] 50
    refine ld_ifb_eq O (pc := 50) 57 dX2_refusalOfPair_50 (by decide) (fun c5 => ?_) (fun c5 => ?_)
    · refine ld_iconst O (pc := 57) (v := (-1 : Int32)) dX2_refusalOfPair_57 (by decide) ?_
      refine ld_ireti E dX2_refusalOfPair_58 ?_
      refine ⟨?_, rfl⟩
      unfold ld_rp
      repeat' split
      all_goals first | rfl | (exfalso; omega)
    · refine ld_iconst O (pc := 53) (v := nI 0) dX2_refusalOfPair_53 (by decide) ?_
      refine ld_goto O (pc := 54) 58 dX2_refusalOfPair_54 (by decide) ?_
      refine ld_ireti E dX2_refusalOfPair_58 ?_
      refine ⟨?_, rfl⟩
      unfold ld_rp
      repeat' split
      all_goals first | rfl | (exfalso; omega)
  by_cases t6 : (act).toInt = 2
  · refine ld_tabIn O (pc := 1) 59 dX2_refusalOfPair_1 (by omega) (by omega) (off := 58) (by rw [t6]; rfl) (by decide) ?_
    refine ld_iload_n O (pc := 59) 1 dX2_refusalOfPair_59 rfl rfl ?_
    refine ld_callSi O (pc := 60) (As := [.int a]) (st := []) (c_X2_isCrate l ad σ a) ld_mw_X2_isCrate ld_w233 rfl rfl ⟨by decide, by decide⟩ (Nat.le_of_ble_eq_true rfl) dX2_refusalOfPair_60 (fun r_p60 σ_p60 h_p60 => ?_)
    obtain ⟨rfl, hσ_p60⟩ := h_p60
    rw [hσ_p60]
    show K σ [(0, .ref (ad 0)), (1, .int a), (2, .int act)] [.int (ld_b (0 ≤ (a).toInt ∧ (a).toInt < 100))] 63
    refine ld_ifb_eq O (pc := 63) 70 dX2_refusalOfPair_63 (by decide) (fun c7 => ?_) (fun c7 => ?_)
    · refine ld_bipush O (pc := 70) (v := (-2 : Int32)) dX2_refusalOfPair_70 (by decide) ?_
      refine ld_ireti E dX2_refusalOfPair_72 ?_
      refine ⟨?_, rfl⟩
      unfold ld_rp
      repeat' split
      all_goals first | rfl | (exfalso; omega)
    · refine ld_iconst O (pc := 66) (v := nI 0) dX2_refusalOfPair_66 (by decide) ?_
      refine ld_goto O (pc := 67) 72 dX2_refusalOfPair_67 (by decide) ?_
      refine ld_ireti E dX2_refusalOfPair_72 ?_
      refine ⟨?_, rfl⟩
      unfold ld_rp
      repeat' split
      all_goals first | rfl | (exfalso; omega)
  refine ld_tabOut O (pc := 1) 73 dX2_refusalOfPair_1 (by omega) (by decide) ?_
  refine ld_bipush O (pc := 73) (v := (-2 : Int32)) dX2_refusalOfPair_73 (by decide) ?_
  refine ld_ireti E dX2_refusalOfPair_75 ?_
  refine ⟨?_, rfl⟩
  unfold ld_rp
  repeat' split
  all_goals first | rfl | (exfalso; omega)
set_option maxHeartbeats 4000000 in
set_option maxRecDepth 100000 in
theorem c_X2_refusalOfPairs (l : Launch) (ad : Nat → Nat) (σ : ld_St) (h : Nat) (hh : σ 110 0 = nI h) (h8 : h ≤ 8) (k : Nat) (hk : k < 4) (i0 : Nat) (n : Nat) (hb : i0 + 2 * n ≤ 60) : ld_Ctr l yX2_refusalOfPairs cX2_refusalOfPairs 6 (some .int) (2, 43) [.ref (ad 0), .ref (ad (9 + (16 + k))), .int (nI i0), .int (nI n)] ad σ (ld_I (fun (r : Int32) (σ2 : ld_St) => r = ld_rps h (fun z => σ (16 + k) (i0 + z)) n ∧ σ2 = σ)) := by
  refine ld_entry (by decide +kernel) (Nat.le_of_ble_eq_true rfl) (fun K O E => ?_)
  have O : ld_Ok l K ad cX2_refusalOfPairs 6 RX2 (ld_rm (2, 43)) := O
  show K σ [(0, .ref (ad 0)), (1, .ref (ad (9 + (16 + k)))), (2, .int (nI i0)), (3, .int (nI n))] [] 0
  refine ld_iconst O (pc := 0) (v := nI 0) dX2_refusalOfPairs_0 (by decide) ?_
  refine ld_istore O (pc := 1) [(4, .int (nI 0)), (0, .ref (ad 0)), (1, .ref (ad (9 + (16 + k)))), (2, .int (nI i0)), (3, .int (nI n))] dX2_refusalOfPairs_1 (by decide) rfl ?_
  have L3 : ∀ (m_3 : Nat) (i : Nat), n - i < m_3 → (i ≤ n) → ((ld_rps h (fun z => σ (16 + k) (i0 + z)) i).toInt = 0) → K σ [(0, .ref (ad 0)), (1, .ref (ad (9 + (16 + k)))), (2, .int (nI i0)), (3, .int (nI n)), (4, .int (nI i))] [] 3 := by
    intro m_3
    induction m_3 with
    | zero => intro i hm_; exact absurd hm_ (Nat.not_lt_zero _)
    | succ m_3 ih3 =>
      intro i hm_3 hi hf
      refine ld_iload O (pc := 3) 4 dX2_refusalOfPairs_3 rfl ?_
      refine ld_iload_n O (pc := 5) 3 dX2_refusalOfPairs_5 rfl rfl ?_
      refine ld_icmp_ge O (pc := 6) ((i : Nat) : Int) ((n : Nat) : Int) (nI_toInt (by omega)) (nI_toInt (by omega)) 47 dX2_refusalOfPairs_6 (by decide) (fun c1 => ?_) (fun c1 => ?_)
      · refine ld_iconst O (pc := 47) (v := nI 0) dX2_refusalOfPairs_47 (by decide) ?_
        refine ld_ireti E dX2_refusalOfPairs_48 ?_
        exact ⟨by rw [show i = n by omega] at hf; exact Int32.toInt_inj.mp (by rw [hf]; decide), rfl⟩
      · refine ld_aload_n O (pc := 9) 0 dX2_refusalOfPairs_9 rfl rfl ?_
        refine ld_aload_n O (pc := 10) 1 dX2_refusalOfPairs_10 rfl rfl ?_
        refine ld_iload_n O (pc := 11) 2 dX2_refusalOfPairs_11 rfl rfl ?_
        refine ld_iconst O (pc := 12) (v := nI 2) dX2_refusalOfPairs_12 (by decide) ?_
        refine ld_iload O (pc := 13) 4 dX2_refusalOfPairs_13 rfl ?_
        refine ld_imulN O (pc := 15) dX2_refusalOfPairs_15 ?_
        refine ld_iaddN O (pc := 16) dX2_refusalOfPairs_16 ?_
        refine ld_iald O (pc := 17) (16 + k) (i0 + (2 * i)) (v := σ (16 + k) (i0 + (2 * i))) rfl (by omega) (by rw [ld_lenS hk]; omega) rfl dX2_refusalOfPairs_17 ?_
        refine ld_aload_n O (pc := 18) 1 dX2_refusalOfPairs_18 rfl rfl ?_
        refine ld_iload_n O (pc := 19) 2 dX2_refusalOfPairs_19 rfl rfl ?_
        refine ld_iconst O (pc := 20) (v := nI 2) dX2_refusalOfPairs_20 (by decide) ?_
        refine ld_iload O (pc := 21) 4 dX2_refusalOfPairs_21 rfl ?_
        refine ld_imulN O (pc := 23) dX2_refusalOfPairs_23 ?_
        refine ld_iaddN O (pc := 24) dX2_refusalOfPairs_24 ?_
        refine ld_iconst O (pc := 25) (v := nI 1) dX2_refusalOfPairs_25 (by decide) ?_
        refine ld_iaddN O (pc := 26) dX2_refusalOfPairs_26 ?_
        refine ld_iald O (pc := 27) (16 + k) ((i0 + (2 * i)) + 1) (v := σ (16 + k) ((i0 + (2 * i)) + 1)) rfl (by omega) (by rw [ld_lenS hk]; omega) rfl dX2_refusalOfPairs_27 ?_
        refine ld_callVi O (pc := 28) (As := [.int (σ (16 + k) (i0 + (2 * i))), .int (σ (16 + k) ((i0 + (2 * i)) + 1))]) (st := []) ld_recv0 (c_X2_refusalOfPair l ad σ h hh h8 (σ (16 + k) (i0 + (2 * i))) (σ (16 + k) ((i0 + (2 * i)) + 1))) ld_mw_X2_refusalOfPair ld_w314 rfl rfl ⟨by decide, by decide⟩ (Nat.le_of_ble_eq_true rfl) dX2_refusalOfPairs_28 (fun r_p28 σ_p28 h_p28 => ?_)
        obtain ⟨rfl, hσ_p28⟩ := h_p28
        rw [hσ_p28]
        show K σ [(0, .ref (ad 0)), (1, .ref (ad (9 + (16 + k)))), (2, .int (nI i0)), (3, .int (nI n)), (4, .int (nI i))] [.int (ld_rp h (σ (16 + k) (i0 + (2 * i))) (σ (16 + k) ((i0 + (2 * i)) + 1)))] 31
        have hr_ : ld_rps h (fun z => σ (16 + k) (i0 + z)) (i + 1) = ld_rp h (σ (16 + k) (i0 + (2 * i))) (σ (16 + k) (i0 + (2 * i) + 1)) := if_pos hf
        refine ld_istore O (pc := 31) [(5, .int (ld_rp h (σ (16 + k) (i0 + (2 * i))) (σ (16 + k) ((i0 + (2 * i)) + 1)))), (0, .ref (ad 0)), (1, .ref (ad (9 + (16 + k)))), (2, .int (nI i0)), (3, .int (nI n)), (4, .int (nI i))] dX2_refusalOfPairs_31 (by decide) rfl ?_
        refine ld_iload O (pc := 33) 0 dX2_refusalOfPairs_33 rfl ?_
        refine ld_if_eq O (pc := 35) (ld_rp h (σ (16 + k) (i0 + (2 * i))) (σ (16 + k) ((i0 + (2 * i)) + 1))).toInt rfl 41 dX2_refusalOfPairs_35 (by decide) (fun c2 => ?_) (fun c2 => ?_)
        · refine ld_iincN O (pc := 41) [(4, .int (nI (i + 1))), (5, .int (ld_rp h (σ (16 + k) (i0 + (2 * i))) (σ (16 + k) ((i0 + (2 * i)) + 1)))), (0, .ref (ad 0)), (1, .ref (ad (9 + (16 + k)))), (2, .int (nI i0)), (3, .int (nI n))] 5 dX2_refusalOfPairs_41 rfl (by decide) rfl ?_
          refine ld_goto O (pc := 44) 3 dX2_refusalOfPairs_44 (by decide) ?_
          refine ld_less O [2, 3, 4, 5, 0] (lv2 := [(0, .ref (ad 0)), (1, .ref (ad (9 + (16 + k)))), (2, .int (nI i0)), (3, .int (nI n)), (4, .int (nI (i + 1)))]) rfl ?_
          exact ih3 (i + 1) (by omega) (by omega) (by rw [hr_]; exact c2)
        · refine ld_iload O (pc := 38) 0 dX2_refusalOfPairs_38 rfl ?_
          refine ld_ireti E dX2_refusalOfPairs_40 ?_
          exact ⟨by rw [← hr_]; exact (ld_rps_stop (by rw [hr_]; exact c2) (by omega)).symm, rfl⟩
  refine ld_less O [1, 2, 3, 4, 0] (lv2 := [(0, .ref (ad 0)), (1, .ref (ad (9 + (16 + k)))), (2, .int (nI i0)), (3, .int (nI n)), (4, .int (nI 0))]) rfl ?_
  exact L3 _ 0 (Nat.lt_succ_self _) (Nat.zero_le _) (by show (nI 0).toInt = 0; decide)
set_option maxHeartbeats 4000000 in
set_option maxRecDepth 100000 in
theorem c_X2_loser (l : Launch) (ad : Nat → Nat) (σ : ld_St) (h : Nat) (hh : σ 110 0 = nI h) (hh2 : σ 120 0 = nI h) (h8 : h ≤ 8) (c : Nat) (hc : c < 1000) : ld_Ctr l yX2_loserByOneMore cX2_loserByOneMore 3 (some .int) (2, 47) [.ref (ad 0), .int (nI c)] ad σ (ld_I (fun (r : Int32) (σ2 : ld_St) => r = ld_nv (ld_fi (fun x => (ld_dt h (σ 7) (σ 8) (nI (c + 1)) x).toInt < (ld_dt h (σ 0) (σ 1) (nI c) x).toInt) h) ∧ ∃ f4 f5 f6 f11 f12 f13 : Nat → Int32, σ2 = us (us (us (us (us (us σ 4 f4) 5 f5) 6 f6) 11 f11) 12 f12) 13 f13)) := by
  refine ld_entry (by decide +kernel) (Nat.le_of_ble_eq_true rfl) (fun K O E => ?_)
  have O : ld_Ok l K ad cX2_loserByOneMore 3 RX2 (ld_rm (2, 47)) := O
  show K σ [(0, .ref (ad 0)), (1, .int (nI c))] [] 0
  refine ld_aload_n O (pc := 0) 0 dX2_loserByOneMore_0 rfl rfl ?_
  refine ld_g_LD_now O (pc := 1) ld_w15 dX2_loserByOneMore_1 ?_
  refine ld_iload_n O (pc := 4) 1 dX2_loserByOneMore_4 rfl rfl ?_
  refine ld_callVNv O (pc := 5) (As := [.int (nI c)]) (st := []) ld_recv1 (c_X1_dealOut_0 l ad σ h hh h8 (nI c)) ld_mw_X1_dealOut (List.mem_of_getElem? (i := 27) rfl) rfl rfl ⟨by decide, by decide⟩ (Nat.le_of_ble_eq_true rfl) dX2_loserByOneMore_5 (fun σ_p5 h_p5 => ?_)
  obtain ⟨f4_p5, f5_p5, f6_p5, hσ_p5, hd_p5⟩ := h_p5
  rw [hσ_p5]
  have hd_p5 : ∀ x, x < h → f5_p5 x = ld_dt h (σ 0) (σ 1) (nI c) x := hd_p5
  show K (us (us (us σ 4 f4_p5) 5 f5_p5) 6 f6_p5) [(0, .ref (ad 0)), (1, .int (nI c))] [] 8
  refine ld_aload_n O (pc := 8) 0 dX2_loserByOneMore_8 rfl rfl ?_
  refine ld_g_LD_trial O (pc := 9) ld_w16 dX2_loserByOneMore_9 ?_
  refine ld_iload_n O (pc := 12) 1 dX2_loserByOneMore_12 rfl rfl ?_
  refine ld_iconst O (pc := 13) (v := nI 1) dX2_loserByOneMore_13 (by decide) ?_
  refine ld_iaddN O (pc := 14) dX2_loserByOneMore_14 ?_
  refine ld_callVNv O (pc := 15) (As := [.int (nI (c + 1))]) (st := []) ld_recv2 (c_X1_dealOut_1 l ad (us (us (us σ 4 f4_p5) 5 f5_p5) 6 f6_p5) h hh2 h8 (nI (c + 1))) ld_mw_X1_dealOut (List.mem_of_getElem? (i := 27) rfl) rfl rfl ⟨by decide, by decide⟩ (Nat.le_of_ble_eq_true rfl) dX2_loserByOneMore_15 (fun σ_p15 h_p15 => ?_)
  obtain ⟨f4_p15, f5_p15, f6_p15, hσ_p15, hd_p15⟩ := h_p15
  rw [hσ_p15]
  have hd_p15 : ∀ x, x < h → f5_p15 x = ld_dt h (σ 7) (σ 8) (nI (c + 1)) x := hd_p15
  show K (us (us (us (us (us (us σ 4 f4_p5) 5 f5_p5) 6 f6_p5) 11 f4_p15) 12 f5_p15) 13 f6_p15) [(0, .ref (ad 0)), (1, .int (nI c))] [] 18
  refine ld_iconst O (pc := 18) (v := nI 0) dX2_loserByOneMore_18 (by decide) ?_
  refine ld_istore_n O (pc := 19) [(2, .int (nI 0)), (0, .ref (ad 0)), (1, .int (nI c))] dX2_loserByOneMore_19 rfl (by decide) rfl ?_
  have L20 : ∀ (m_20 : Nat) (i : Nat), h - i < m_20 → (i ≤ h) → (ld_fi (fun x => (ld_dt h (σ 7) (σ 8) (nI (c + 1)) x).toInt < (ld_dt h (σ 0) (σ 1) (nI c) x).toInt) i = none) → K (us (us (us (us (us (us σ 4 f4_p5) 5 f5_p5) 6 f6_p5) 11 f4_p15) 12 f5_p15) 13 f6_p15) [(0, .ref (ad 0)), (1, .int (nI c)), (2, .int (nI i))] [] 20 := by
    intro m_20
    induction m_20 with
    | zero => intro i hm_; exact absurd hm_ (Nat.not_lt_zero _)
    | succ m_20 ih20 =>
      intro i hm_20 hi hf
      refine ld_iload_n O (pc := 20) 2 dX2_loserByOneMore_20 rfl rfl ?_
      refine ld_aload_n O (pc := 21) 0 dX2_loserByOneMore_21 rfl rfl ?_
      refine ld_g_LD_now O (pc := 22) ld_w15 dX2_loserByOneMore_22 ?_
      refine ld_g_now_housesN O (pc := 25) (v := nI h) (List.mem_of_getElem? (i := 1) rfl) hh dX2_loserByOneMore_25 ?_
      refine ld_icmp_ge O (pc := 28) ((i : Nat) : Int) ((h : Nat) : Int) (nI_toInt (by omega)) (nI_toInt (by omega)) 60 dX2_loserByOneMore_28 (by decide) (fun c1 => ?_) (fun c1 => ?_)
      · refine ld_bipush O (pc := 60) (v := (-9 : Int32)) dX2_loserByOneMore_60 (by decide) ?_
        refine ld_ireti E dX2_loserByOneMore_62 ?_
        exact ⟨by rw [show i = h by omega] at hf; rw [hf]; rfl, _, _, _, _, _, _, rfl⟩
      · refine ld_aload_n O (pc := 31) 0 dX2_loserByOneMore_31 rfl rfl ?_
        refine ld_g_LD_now O (pc := 32) ld_w15 dX2_loserByOneMore_32 ?_
        refine ld_g_now_dealtN O (pc := 35) (List.mem_of_getElem? (i := 9) rfl) dX2_loserByOneMore_35 ?_
        refine ld_iload_n O (pc := 38) 2 dX2_loserByOneMore_38 rfl rfl ?_
        refine ld_iald O (pc := 39) 5 i (v := f5_p5 i) rfl (by decide) (show i < 8 by omega) rfl dX2_loserByOneMore_39 ?_
        refine ld_aload_n O (pc := 40) 0 dX2_loserByOneMore_40 rfl rfl ?_
        refine ld_g_LD_trial O (pc := 41) ld_w16 dX2_loserByOneMore_41 ?_
        refine ld_g_trial_dealtN O (pc := 44) (List.mem_of_getElem? (i := 9) rfl) dX2_loserByOneMore_44 ?_
        refine ld_iload_n O (pc := 47) 2 dX2_loserByOneMore_47 rfl rfl ?_
        refine ld_iald O (pc := 48) 12 i (v := f5_p15 i) rfl (by decide) (show i < 8 by omega) rfl dX2_loserByOneMore_48 ?_
        refine ld_icmp_le O (pc := 49) (f5_p5 i).toInt (f5_p15 i).toInt rfl rfl 54 dX2_loserByOneMore_49 (by decide) (fun c2 => ?_) (fun c2 => ?_)
        · refine ld_iincN O (pc := 54) [(2, .int (nI (i + 1))), (0, .ref (ad 0)), (1, .int (nI c))] 2 dX2_loserByOneMore_54 rfl (by decide) rfl ?_
          refine ld_goto O (pc := 57) 20 dX2_loserByOneMore_57 (by decide) ?_
          refine ld_less O [1, 2, 0] (lv2 := [(0, .ref (ad 0)), (1, .int (nI c)), (2, .int (nI (i + 1)))]) rfl ?_
          exact ih20 (i + 1) (by omega) (by omega) (ld_fi_no hf (fun z => by rw [hd_p5 i (by omega), hd_p15 i (by omega)] at c2; omega))
        · refine ld_iload_n O (pc := 52) 2 dX2_loserByOneMore_52 rfl rfl ?_
          refine ld_ireti E dX2_loserByOneMore_53 ?_
          exact ⟨by rw [ld_fi_yes hf (show (ld_dt h (σ 7) (σ 8) (nI (c + 1)) i).toInt < (ld_dt h (σ 0) (σ 1) (nI c) i).toInt by rw [← hd_p5 i (by omega), ← hd_p15 i (by omega)]; omega) (by omega)]; rfl, _, _, _, _, _, _, rfl⟩
  refine ld_less O [1, 2, 0] (lv2 := [(0, .ref (ad 0)), (1, .int (nI c)), (2, .int (nI 0))]) rfl ?_
  exact L20 _ 0 (Nat.lt_succ_self _) (Nat.zero_le _) rfl
set_option maxHeartbeats 4000000 in
set_option maxRecDepth 100000 in
theorem c_X2_apartBy (l : Launch) (ad : Nat → Nat) (σ : ld_St) (h : Nat) (hh : σ 110 0 = nI h) (h8 : h ≤ 8) (set : Int32) : ld_Ctr l yX2_apartBy cX2_apartBy 5 (some .int) (1, 21) [.ref (ad 0), .int set] ad σ (ld_I (fun (r : Int32) (σ2 : ld_St) => r = ld_abs (l_sum (ld_sg set (ld_ss (σ 0) (σ 1))) h) ∧ σ2 = σ)) := by
  refine ld_entry (by decide +kernel) (Nat.le_of_ble_eq_true rfl) (fun K O E => ?_)
  have O : ld_Ok l K ad cX2_apartBy 5 RX2 (ld_rm (1, 21)) := O
  show K σ [(0, .ref (ad 0)), (1, .int set)] [] 0
  refine ld_iconst O (pc := 0) (v := nI 0) dX2_apartBy_0 (by decide) ?_
  refine ld_istore_n O (pc := 1) [(2, .int (nI 0)), (0, .ref (ad 0)), (1, .int set)] dX2_apartBy_1 rfl (by decide) rfl ?_
  refine ld_iconst O (pc := 2) (v := nI 0) dX2_apartBy_2 (by decide) ?_
  refine ld_istore_n O (pc := 3) [(3, .int (nI 0)), (2, .int (nI 0)), (0, .ref (ad 0)), (1, .int set)] dX2_apartBy_3 rfl (by decide) rfl ?_
  have L4 : ∀ (m_4 : Nat) (i : Nat) (w : Int32), h - i < m_4 → (i ≤ h) → (w = l_sum (ld_sg set (ld_ss (σ 0) (σ 1))) i) → K σ [(0, .ref (ad 0)), (1, .int set), (2, .int w), (3, .int (nI i))] [] 4 := by
    intro m_4
    induction m_4 with
    | zero => intro i w hm_; exact absurd hm_ (Nat.not_lt_zero _)
    | succ m_4 ih4 =>
      intro i w hm_4 hi hw
      refine ld_iload_n O (pc := 4) 3 dX2_apartBy_4 rfl rfl ?_
      refine ld_aload_n O (pc := 5) 0 dX2_apartBy_5 rfl rfl ?_
      refine ld_g_LD_now O (pc := 6) ld_w15 dX2_apartBy_6 ?_
      refine ld_g_now_housesN O (pc := 9) (v := nI h) (List.mem_of_getElem? (i := 1) rfl) hh dX2_apartBy_9 ?_
      refine ld_icmp_ge O (pc := 12) ((i : Nat) : Int) ((h : Nat) : Int) (nI_toInt (by omega)) (nI_toInt (by omega)) 65 dX2_apartBy_12 (by decide) (fun c1 => ?_) (fun c1 => ?_)
      · refine ld_iload_n O (pc := 65) 2 dX2_apartBy_65 rfl rfl ?_
        refine ld_mabs O (pc := 66) ld_w426 (by decide) (Nat.le_of_ble_eq_true rfl) dX2_apartBy_66 ?_
        refine ld_ireti E dX2_apartBy_69 ?_
        exact ⟨by rw [hw, show i = h by omega]; rfl, rfl⟩
      · refine ld_iload_n O (pc := 15) 1 dX2_apartBy_15 rfl rfl ?_
        refine ld_iload_n O (pc := 16) 3 dX2_apartBy_16 rfl rfl ?_
        refine ld_ishr O (pc := 17) dX2_apartBy_17 ?_
        refine ld_iconst O (pc := 18) (v := nI 1) dX2_apartBy_18 (by decide) ?_
        refine ld_iand O (pc := 19) dX2_apartBy_19 ?_
        refine ld_iconst O (pc := 20) (v := nI 1) dX2_apartBy_20 (by decide) ?_
        refine ld_icmp_ne O (pc := 21) ((set >>> ((nI i) &&& 31)) &&& (nI 1)).toInt 1 rfl (by decide) 28 dX2_apartBy_21 (by decide) (fun c2 => ?_) (fun c2 => ?_)
        · refine ld_iconst O (pc := 28) (v := nI 0) dX2_apartBy_28 (by decide) ?_
          refine ld_istore O (pc := 29) [(4, .int (nI 0)), (0, .ref (ad 0)), (1, .int set), (2, .int w), (3, .int (nI i))] dX2_apartBy_29 (by decide) rfl ?_
          refine ld_iload_n O (pc := 31) 3 dX2_apartBy_31 rfl rfl ?_
          refine ld_iload O (pc := 32) 0 dX2_apartBy_32 rfl ?_
          refine ld_if_eq O (pc := 34) 0 (by decide) 48 dX2_apartBy_34 (by decide) (fun _ => ?_) (fun z => absurd z (by decide))
          refine ld_aload_n O (pc := 48) 1 dX2_apartBy_48 rfl rfl ?_
          refine ld_g_LD_now O (pc := 49) ld_w15 dX2_apartBy_49 ?_
          refine ld_iload_n O (pc := 52) 4 dX2_apartBy_52 rfl rfl ?_
          refine ld_callVNi O (pc := 53) (As := [.int (nI i)]) (st := [.int w]) ld_recv1 (c_X1_sourOf_0 l ad σ i (by omega)) ld_mw_X1_sourOf (List.mem_of_getElem? (i := 19) rfl) rfl rfl ⟨by decide, by decide⟩ (Nat.le_of_ble_eq_true rfl) dX2_apartBy_53 (fun r_p53 σ_p53 h_p53 => ?_)
          obtain ⟨rfl, hσ_p53⟩ := h_p53
          rw [hσ_p53]
          show K σ [(4, .int (nI 0)), (0, .ref (ad 0)), (1, .int set), (2, .int w), (3, .int (nI i))] [.int (ld_sr (σ 0 i) (σ 1 i)), .int w] 56
          refine ld_ineg O (pc := 56) dX2_apartBy_56 ?_
          refine ld_iadd O (pc := 57) dX2_apartBy_57 ?_
          refine ld_istore_n O (pc := 58) [(2, .int (w + (-(ld_sr (σ 0 i) (σ 1 i))))), (4, .int (nI 0)), (0, .ref (ad 0)), (1, .int set), (3, .int (nI i))] dX2_apartBy_58 rfl (by decide) rfl ?_
          refine ld_iincN O (pc := 59) [(3, .int (nI (i + 1))), (2, .int (w + (-(ld_sr (σ 0 i) (σ 1 i))))), (4, .int (nI 0)), (0, .ref (ad 0)), (1, .int set)] 4 dX2_apartBy_59 rfl (by decide) rfl ?_
          refine ld_goto O (pc := 62) 4 dX2_apartBy_62 (by decide) ?_
          refine ld_less O [3, 4, 1, 0] (lv2 := [(0, .ref (ad 0)), (1, .int set), (2, .int (w + (-(ld_sr (σ 0 i) (σ 1 i))))), (3, .int (nI (i + 1)))]) rfl ?_
          exact ih4 (i + 1) (w + (-(ld_sr (σ 0 i) (σ 1 i)))) (by omega) (by omega) (by rw [hw]; show _ = l_sum _ i + ld_sg _ _ i; unfold ld_sg; first | rw [if_pos c2]; rfl | rw [if_neg c2]; rfl)
        · refine ld_iconst O (pc := 24) (v := nI 1) dX2_apartBy_24 (by decide) ?_
          refine ld_goto O (pc := 25) 29 dX2_apartBy_25 (by decide) ?_
          refine ld_istore O (pc := 29) [(4, .int (nI 1)), (0, .ref (ad 0)), (1, .int set), (2, .int w), (3, .int (nI i))] dX2_apartBy_29 (by decide) rfl ?_
          refine ld_iload_n O (pc := 31) 3 dX2_apartBy_31 rfl rfl ?_
          refine ld_iload O (pc := 32) 0 dX2_apartBy_32 rfl ?_
          refine ld_if_eq O (pc := 34) 1 (by decide) 48 dX2_apartBy_34 (by decide) (fun z => absurd z (by decide)) (fun _ => ?_)
          refine ld_aload_n O (pc := 37) 1 dX2_apartBy_37 rfl rfl ?_
          refine ld_g_LD_now O (pc := 38) ld_w15 dX2_apartBy_38 ?_
          refine ld_iload_n O (pc := 41) 4 dX2_apartBy_41 rfl rfl ?_
          refine ld_callVNi O (pc := 42) (As := [.int (nI i)]) (st := [.int w]) ld_recv1 (c_X1_sourOf_0 l ad σ i (by omega)) ld_mw_X1_sourOf (List.mem_of_getElem? (i := 19) rfl) rfl rfl ⟨by decide, by decide⟩ (Nat.le_of_ble_eq_true rfl) dX2_apartBy_42 (fun r_p42 σ_p42 h_p42 => ?_)
          obtain ⟨rfl, hσ_p42⟩ := h_p42
          rw [hσ_p42]
          show K σ [(4, .int (nI 1)), (0, .ref (ad 0)), (1, .int set), (2, .int w), (3, .int (nI i))] [.int (ld_sr (σ 0 i) (σ 1 i)), .int w] 45
          refine ld_goto O (pc := 45) 57 dX2_apartBy_45 (by decide) ?_
          refine ld_iadd O (pc := 57) dX2_apartBy_57 ?_
          refine ld_istore_n O (pc := 58) [(2, .int (w + (ld_sr (σ 0 i) (σ 1 i)))), (4, .int (nI 1)), (0, .ref (ad 0)), (1, .int set), (3, .int (nI i))] dX2_apartBy_58 rfl (by decide) rfl ?_
          refine ld_iincN O (pc := 59) [(3, .int (nI (i + 1))), (2, .int (w + (ld_sr (σ 0 i) (σ 1 i)))), (4, .int (nI 1)), (0, .ref (ad 0)), (1, .int set)] 4 dX2_apartBy_59 rfl (by decide) rfl ?_
          refine ld_goto O (pc := 62) 4 dX2_apartBy_62 (by decide) ?_
          refine ld_less O [3, 4, 1, 0] (lv2 := [(0, .ref (ad 0)), (1, .int set), (2, .int (w + (ld_sr (σ 0 i) (σ 1 i)))), (3, .int (nI (i + 1)))]) rfl ?_
          exact ih4 (i + 1) (w + (ld_sr (σ 0 i) (σ 1 i))) (by omega) (by omega) (by rw [hw]; show _ = l_sum _ i + ld_sg _ _ i; unfold ld_sg; first | rw [if_pos c2]; rfl | rw [if_neg c2]; rfl)
  refine ld_less O [2, 3, 1, 0] (lv2 := [(0, .ref (ad 0)), (1, .int set), (2, .int (nI 0)), (3, .int (nI 0))]) rfl ?_
  exact L4 _ 0 (nI 0) (Nat.lt_succ_self _) (Nat.zero_le _) rfl
set_option maxHeartbeats 4000000 in
set_option maxRecDepth 100000 in
theorem c_X2_holds (l : Launch) (ad : Nat → Nat) (σ : ld_St) (h : Nat) (hh2 : σ 120 0 = nI h) (h8 : h ≤ 8) (q : Nat) (hq : σ 100 0 = nI q) (q8 : q ≤ 8) (hrd : ∀ x, x < q → 0 ≤ (σ 14 x).toInt ∧ (σ 14 x).toInt < (h : Int)) : ld_Ctr l yX2_readingsHoldInTrial cX2_readingsHoldInTrial 2 (some .boolean) (2, 47) [.ref (ad 0)] ad σ (ld_I (fun (r : Int32) (σ2 : ld_St) => r = ld_b (ld_rh h (σ 7) (σ 8) (σ 121 0) (σ 14) (σ 15) q) ∧ ∃ f11 f12 f13 : Nat → Int32, σ2 = us (us (us σ 11 f11) 12 f12) 13 f13)) := by
  refine ld_entry (by decide +kernel) (Nat.le_of_ble_eq_true rfl) (fun K O E => ?_)
  have O : ld_Ok l K ad cX2_readingsHoldInTrial 2 RX2 (ld_rm (2, 47)) := O
  show K σ [(0, .ref (ad 0))] [] 0
  refine ld_aload_n O (pc := 0) 0 dX2_readingsHoldInTrial_0 rfl rfl ?_
  refine ld_g_LD_trial O (pc := 1) ld_w16 dX2_readingsHoldInTrial_1 ?_
  refine ld_aload_n O (pc := 4) 0 dX2_readingsHoldInTrial_4 rfl rfl ?_
  refine ld_g_LD_trial O (pc := 5) ld_w16 dX2_readingsHoldInTrial_5 ?_
  refine ld_g_trial_crateN O (pc := 8) (v := σ 121 0) (List.mem_of_getElem? (i := 2) rfl) rfl dX2_readingsHoldInTrial_8 ?_
  refine ld_callVNv O (pc := 11) (As := [.int (σ 121 0)]) (st := []) ld_recv2 (c_X1_dealOut_1 l ad σ h hh2 h8 (σ 121 0)) ld_mw_X1_dealOut (List.mem_of_getElem? (i := 27) rfl) rfl rfl ⟨by decide, by decide⟩ (Nat.le_of_ble_eq_true rfl) dX2_readingsHoldInTrial_11 (fun σ_p11 h_p11 => ?_)
  obtain ⟨f4_p11, f5_p11, f6_p11, hσ_p11, hd_p11⟩ := h_p11
  rw [hσ_p11]
  have hd_p11 : ∀ x, x < h → f5_p11 x = ld_dt h (σ 7) (σ 8) (σ 121 0) x := hd_p11
  show K (us (us (us σ 11 f4_p11) 12 f5_p11) 13 f6_p11) [(0, .ref (ad 0))] [] 14
  refine ld_iconst O (pc := 14) (v := nI 0) dX2_readingsHoldInTrial_14 (by decide) ?_
  refine ld_istore_n O (pc := 15) [(1, .int (nI 0)), (0, .ref (ad 0))] dX2_readingsHoldInTrial_15 rfl (by decide) rfl ?_
  have L16 : ∀ (m_16 : Nat) (i : Nat), q - i < m_16 → (i ≤ q) → (ld_rh h (σ 7) (σ 8) (σ 121 0) (σ 14) (σ 15) i) → K (us (us (us σ 11 f4_p11) 12 f5_p11) 13 f6_p11) [(0, .ref (ad 0)), (1, .int (nI i))] [] 16 := by
    intro m_16
    induction m_16 with
    | zero => intro i hm_; exact absurd hm_ (Nat.not_lt_zero _)
    | succ m_16 ih16 =>
      intro i hm_16 hi hf
      refine ld_iload_n O (pc := 16) 1 dX2_readingsHoldInTrial_16 rfl rfl ?_
      refine ld_aload_n O (pc := 17) 0 dX2_readingsHoldInTrial_17 rfl rfl ?_
      refine ld_g_LD_readings O (pc := 18) (v := nI q) ld_w22 hq dX2_readingsHoldInTrial_18 ?_
      refine ld_icmp_ge O (pc := 21) ((i : Nat) : Int) ((q : Nat) : Int) (nI_toInt (by omega)) (nI_toInt (by omega)) 55 dX2_readingsHoldInTrial_21 (by decide) (fun c1 => ?_) (fun c1 => ?_)
      · refine ld_iconst O (pc := 55) (v := nI 1) dX2_readingsHoldInTrial_55 (by decide) ?_
        refine ld_iretz E (Or.inr rfl) dX2_readingsHoldInTrial_56 ?_
        exact ⟨(ld_b_t (by rw [show i = q by omega] at hf; exact hf)).symm, _, _, _, rfl⟩
      · have hr_ := ld_ofIx (hrd i (by omega))
        have hr2_ := hr_.2.1
        refine ld_aload_n O (pc := 24) 0 dX2_readingsHoldInTrial_24 rfl rfl ?_
        refine ld_g_LD_trial O (pc := 25) ld_w16 dX2_readingsHoldInTrial_25 ?_
        refine ld_g_trial_dealtN O (pc := 28) (List.mem_of_getElem? (i := 9) rfl) dX2_readingsHoldInTrial_28 ?_
        refine ld_aload_n O (pc := 31) 0 dX2_readingsHoldInTrial_31 rfl rfl ?_
        refine ld_g_LD_readHouse O (pc := 32) ld_w20 dX2_readingsHoldInTrial_32 ?_
        refine ld_iload_n O (pc := 35) 1 dX2_readingsHoldInTrial_35 rfl rfl ?_
        refine ld_iald O (pc := 36) 14 i (v := σ 14 i) rfl (by decide) (show i < 8 by omega) rfl dX2_readingsHoldInTrial_36 ?_
        refine ld_iald O (pc := 37) 12 (ld_ix (σ 14 i)) (v := f5_p11 (ld_ix (σ 14 i))) hr_.1 (by decide) (show ld_ix (σ 14 i) < 8 by omega) rfl dX2_readingsHoldInTrial_37 ?_
        refine ld_aload_n O (pc := 38) 0 dX2_readingsHoldInTrial_38 rfl rfl ?_
        refine ld_g_LD_readDealt O (pc := 39) ld_w21 dX2_readingsHoldInTrial_39 ?_
        refine ld_iload_n O (pc := 42) 1 dX2_readingsHoldInTrial_42 rfl rfl ?_
        refine ld_iald O (pc := 43) 15 i (v := σ 15 i) rfl (by decide) (show i < 8 by omega) rfl dX2_readingsHoldInTrial_43 ?_
        refine ld_icmp_eq O (pc := 44) (f5_p11 (ld_ix (σ 14 i))).toInt (σ 15 i).toInt rfl rfl 49 dX2_readingsHoldInTrial_44 (by decide) (fun c2 => ?_) (fun c2 => ?_)
        · refine ld_iincN O (pc := 49) [(1, .int (nI (i + 1))), (0, .ref (ad 0))] 1 dX2_readingsHoldInTrial_49 rfl (by decide) rfl ?_
          refine ld_goto O (pc := 52) 16 dX2_readingsHoldInTrial_52 (by decide) ?_
          refine ld_less O [1, 0] (lv2 := [(0, .ref (ad 0)), (1, .int (nI (i + 1)))]) rfl ?_
          exact ih16 (i + 1) (by omega) (by omega) (lt_s hf (by rw [← hd_p11 _ hr_.2.1]; exact c2))
        · refine ld_iconst O (pc := 47) (v := nI 0) dX2_readingsHoldInTrial_47 (by decide) ?_
          refine ld_iretz E (Or.inl rfl) dX2_readingsHoldInTrial_48 ?_
          exact ⟨(ld_b_f (fun z => c2 (by rw [hd_p11 _ hr_.2.1]; exact z i (by omega)))).symm, _, _, _, rfl⟩
  refine ld_less O [1, 0] (lv2 := [(0, .ref (ad 0)), (1, .int (nI 0))]) rfl ?_
  exact L16 _ 0 (Nat.lt_succ_self _) (Nat.zero_le _) (fun x hx => absurd hx (Nat.not_lt_zero x))
set_option maxHeartbeats 4000000 in
set_option maxRecDepth 100000 in
theorem c_X2_tellPlain (l : Launch) (ad : Nat → Nat) (σ : ld_St) (k : Nat) (hk : k < 8) : ld_Ctr l yX2_tellAsPlain cX2_tellAsPlain 2 (some .int) (1, 21) [.ref (ad 0), .int (nI k)] ad σ (ld_I (fun (r : Int32) (σ2 : ld_St) => r = σ 1 k ∧ σ2 = us σ 101 (fun _ => nI 31 * (σ 101 0) + nI 1))) := by
  refine ld_entry (by decide +kernel) (Nat.le_of_ble_eq_true rfl) (fun K O E => ?_)
  have O : ld_Ok l K ad cX2_tellAsPlain 2 RX2 (ld_rm (1, 21)) := O
  show K σ [(0, .ref (ad 0)), (1, .int (nI k))] [] 0
  refine ld_aload_n O (pc := 0) 0 dX2_tellAsPlain_0 rfl rfl ?_
  refine ld_iconst O (pc := 1) (v := nI 1) dX2_tellAsPlain_1 (by decide) ?_
  refine ld_callVv O (pc := 2) (As := [.int (nI 1)]) (st := []) ld_recv0 (c_X2_leaveInTrace l ad σ (nI 1)) ld_mw_X2_leaveInTrace ld_w574 rfl rfl ⟨by decide, by decide⟩ (Nat.le_of_ble_eq_true rfl) dX2_tellAsPlain_2 (fun σ_p2 h_p2 => ?_)
  have hσ_p2 := h_p2
  rw [hσ_p2]
  show K (us σ 101 (fun _ => nI 31 * (σ 101 0) + (nI 1))) [(0, .ref (ad 0)), (1, .int (nI k))] [] 5
  refine ld_aload_n O (pc := 5) 0 dX2_tellAsPlain_5 rfl rfl ?_
  refine ld_g_LD_now O (pc := 6) ld_w15 dX2_tellAsPlain_6 ?_
  refine ld_g_now_temperN O (pc := 9) (List.mem_of_getElem? (i := 6) rfl) dX2_tellAsPlain_9 ?_
  refine ld_iload_n O (pc := 12) 1 dX2_tellAsPlain_12 rfl rfl ?_
  refine ld_iald O (pc := 13) 1 k (v := σ 1 k) rfl (by decide) (show k < 8 by omega) rfl dX2_tellAsPlain_13 ?_
  refine ld_ireti E dX2_tellAsPlain_14 ?_
  refine ⟨rfl, ?_⟩
  funext b_
  by_cases h0_ : b_ = 101
  · subst h0_; first | rfl | (simp (disch := omega) only [us_ne, us_eq]; done)
  simp only [us, h0_, if_false]
set_option maxHeartbeats 4000000 in
set_option maxRecDepth 100000 in
theorem c_X2_tellTart (l : Launch) (ad : Nat → Nat) (σ : ld_St) (k : Nat) (hk : k < 8) : ld_Ctr l yX2_tellAsTart cX2_tellAsTart 2 (some .int) (2, 42) [.ref (ad 0), .int (nI k)] ad σ (ld_I (fun (r : Int32) (σ2 : ld_St) => r = σ 1 k + nI 100 ∧ σ2 = us σ 101 (fun _ => nI 31 * (nI 31 * (σ 101 0) + nI 2) + nI 1))) := by
  refine ld_entry (by decide +kernel) (Nat.le_of_ble_eq_true rfl) (fun K O E => ?_)
  have O : ld_Ok l K ad cX2_tellAsTart 2 RX2 (ld_rm (2, 42)) := O
  show K σ [(0, .ref (ad 0)), (1, .int (nI k))] [] 0
  refine ld_aload_n O (pc := 0) 0 dX2_tellAsTart_0 rfl rfl ?_
  refine ld_iconst O (pc := 1) (v := nI 2) dX2_tellAsTart_1 (by decide) ?_
  refine ld_callVv O (pc := 2) (As := [.int (nI 2)]) (st := []) ld_recv0 (c_X2_leaveInTrace l ad σ (nI 2)) ld_mw_X2_leaveInTrace ld_w574 rfl rfl ⟨by decide, by decide⟩ (Nat.le_of_ble_eq_true rfl) dX2_tellAsTart_2 (fun σ_p2 h_p2 => ?_)
  have hσ_p2 := h_p2
  rw [hσ_p2]
  show K (us σ 101 (fun _ => nI 31 * (σ 101 0) + (nI 2))) [(0, .ref (ad 0)), (1, .int (nI k))] [] 5
  refine ld_aload_n O (pc := 5) 0 dX2_tellAsTart_5 rfl rfl ?_
  refine ld_iload_n O (pc := 6) 1 dX2_tellAsTart_6 rfl rfl ?_
  refine ld_callVi O (pc := 7) (As := [.int (nI k)]) (st := []) ld_recv0 (c_X2_tellPlain l ad (us σ 101 (fun _ => nI 31 * (σ 101 0) + (nI 2))) k (by omega)) ld_mw_X2_tellAsPlain ld_w578 rfl rfl ⟨by decide, by decide⟩ (Nat.le_of_ble_eq_true rfl) dX2_tellAsTart_7 (fun r_p7 σ_p7 h_p7 => ?_)
  obtain ⟨rfl, hσ_p7⟩ := h_p7
  rw [hσ_p7]
  show K (us (us σ 101 (fun _ => nI 31 * (σ 101 0) + (nI 2))) 101 (fun _ => nI 31 * ((fun _ => nI 31 * (σ 101 0) + (nI 2)) 0) + nI 1)) [(0, .ref (ad 0)), (1, .int (nI k))] [.int (σ 1 k)] 10
  refine ld_bipush O (pc := 10) (v := nI 100) dX2_tellAsTart_10 (by decide) ?_
  refine ld_iadd O (pc := 12) dX2_tellAsTart_12 ?_
  refine ld_ireti E dX2_tellAsTart_13 ?_
  refine ⟨rfl, ?_⟩
  funext b_
  by_cases h0_ : b_ = 101
  · subst h0_; first | rfl | (simp (disch := omega) only [us_ne, us_eq]; done)
  simp only [us, h0_, if_false]
set_option maxHeartbeats 4000000 in
set_option maxRecDepth 100000 in
theorem c_X2_tellBitter (l : Launch) (ad : Nat → Nat) (σ : ld_St) (k : Nat) (hk : k < 8) : ld_Ctr l yX2_tellAsBitter cX2_tellAsBitter 3 (some .int) (3, 63) [.ref (ad 0), .int (nI k)] ad σ (ld_I (fun (r : Int32) (σ2 : ld_St) => r = σ 1 k + nI 100 + σ 1 k ∧ σ2 = us σ 101 (fun _ => nI 31 * (nI 31 * (nI 31 * (nI 31 * (σ 101 0) + nI 3) + nI 2) + nI 1) + nI 1))) := by
  refine ld_entry (by decide +kernel) (Nat.le_of_ble_eq_true rfl) (fun K O E => ?_)
  have O : ld_Ok l K ad cX2_tellAsBitter 3 RX2 (ld_rm (3, 63)) := O
  show K σ [(0, .ref (ad 0)), (1, .int (nI k))] [] 0
  refine ld_aload_n O (pc := 0) 0 dX2_tellAsBitter_0 rfl rfl ?_
  refine ld_iconst O (pc := 1) (v := nI 3) dX2_tellAsBitter_1 (by decide) ?_
  refine ld_callVv O (pc := 2) (As := [.int (nI 3)]) (st := []) ld_recv0 (c_X2_leaveInTrace l ad σ (nI 3)) ld_mw_X2_leaveInTrace ld_w574 rfl rfl ⟨by decide, by decide⟩ (Nat.le_of_ble_eq_true rfl) dX2_tellAsBitter_2 (fun σ_p2 h_p2 => ?_)
  have hσ_p2 := h_p2
  rw [hσ_p2]
  show K (us σ 101 (fun _ => nI 31 * (σ 101 0) + (nI 3))) [(0, .ref (ad 0)), (1, .int (nI k))] [] 5
  refine ld_aload_n O (pc := 5) 0 dX2_tellAsBitter_5 rfl rfl ?_
  refine ld_iload_n O (pc := 6) 1 dX2_tellAsBitter_6 rfl rfl ?_
  refine ld_callVi O (pc := 7) (As := [.int (nI k)]) (st := []) ld_recv0 (c_X2_tellTart l ad (us σ 101 (fun _ => nI 31 * (σ 101 0) + (nI 3))) k (by omega)) ld_mw_X2_tellAsTart ld_w570 rfl rfl ⟨by decide, by decide⟩ (Nat.le_of_ble_eq_true rfl) dX2_tellAsBitter_7 (fun r_p7 σ_p7 h_p7 => ?_)
  obtain ⟨rfl, hσ_p7⟩ := h_p7
  rw [hσ_p7]
  show K (us (us σ 101 (fun _ => nI 31 * (σ 101 0) + (nI 3))) 101 (fun _ => nI 31 * (nI 31 * ((fun _ => nI 31 * (σ 101 0) + (nI 3)) 0) + nI 2) + nI 1)) [(0, .ref (ad 0)), (1, .int (nI k))] [.int (σ 1 k + nI 100)] 10
  refine ld_istore_n O (pc := 10) [(2, .int (σ 1 k + nI 100)), (0, .ref (ad 0)), (1, .int (nI k))] dX2_tellAsBitter_10 rfl (by decide) rfl ?_
  refine ld_iload_n O (pc := 11) 0 dX2_tellAsBitter_11 rfl rfl ?_
  refine ld_aload_n O (pc := 12) 1 dX2_tellAsBitter_12 rfl rfl ?_
  refine ld_iload_n O (pc := 13) 2 dX2_tellAsBitter_13 rfl rfl ?_
  refine ld_callVi O (pc := 14) (As := [.int (nI k)]) (st := [.int (σ 1 k + nI 100)]) ld_recv0 (c_X2_tellPlain l ad (us (us σ 101 (fun _ => nI 31 * (σ 101 0) + (nI 3))) 101 (fun _ => nI 31 * (nI 31 * ((fun _ => nI 31 * (σ 101 0) + (nI 3)) 0) + nI 2) + nI 1)) k (by omega)) ld_mw_X2_tellAsPlain ld_w578 rfl rfl ⟨by decide, by decide⟩ (Nat.le_of_ble_eq_true rfl) dX2_tellAsBitter_14 (fun r_p14 σ_p14 h_p14 => ?_)
  obtain ⟨rfl, hσ_p14⟩ := h_p14
  rw [hσ_p14]
  show K (us (us (us σ 101 (fun _ => nI 31 * (σ 101 0) + (nI 3))) 101 (fun _ => nI 31 * (nI 31 * ((fun _ => nI 31 * (σ 101 0) + (nI 3)) 0) + nI 2) + nI 1)) 101 (fun _ => nI 31 * ((fun _ => nI 31 * (nI 31 * ((fun _ => nI 31 * (σ 101 0) + (nI 3)) 0) + nI 2) + nI 1) 0) + nI 1)) [(2, .int (σ 1 k + nI 100)), (0, .ref (ad 0)), (1, .int (nI k))] [.int (σ 1 k), .int (σ 1 k + nI 100)] 17
  refine ld_iadd O (pc := 17) dX2_tellAsBitter_17 ?_
  refine ld_ireti E dX2_tellAsBitter_18 ?_
  refine ⟨rfl, ?_⟩
  funext b_
  by_cases h0_ : b_ = 101
  · subst h0_; first | rfl | (simp (disch := omega) only [us_ne, us_eq]; done)
  simp only [us, h0_, if_false]
set_option maxHeartbeats 4000000 in
set_option maxRecDepth 100000 in
theorem c_X2_answer (l : Launch) (ad : Nat → Nat) (σ : ld_St) (h : Nat) (hh : σ 110 0 = nI h) (hh2 : σ 120 0 = nI h) (h8 : h ≤ 8) (what : Int32) (hw : (0 ≤ what.toInt ∧ what.toInt ≤ 4 ∧ ¬ what.toInt = 1) ∨ (10 ≤ what.toInt ∧ what.toInt < 18)) : ld_Ctr l yX2_answerOfSeason cX2_answerOfSeason 3 (some .int) (1, 23) [.ref (ad 0), .int what] ad σ (ld_I (fun (r : Int32) (σ2 : ld_St) => r = ld_an h (σ 8, σ 9, σ 10) (σ 123 0) what ∧ σ2 = σ)) := by
  refine ld_entry (by decide +kernel) (Nat.le_of_ble_eq_true rfl) (fun K O E => ?_)
  have O : ld_Ok l K ad cX2_answerOfSeason 3 RX2 (ld_rm (1, 23)) := O
  show K σ [(0, .ref (ad 0)), (1, .int what)] [] 0
  refine ld_iload_n O (pc := 0) 1 dX2_answerOfSeason_0 rfl rfl ?_
  by_cases t1 : (what).toInt = 0
  · refine ld_tabIn O (pc := 1) 36 dX2_answerOfSeason_1 (by omega) (by omega) (off := 35) (by rw [t1]; rfl) (by decide) ?_
    refine ld_aload_n O (pc := 36) 0 dX2_answerOfSeason_36 rfl rfl ?_
    refine ld_g_LD_trial O (pc := 37) ld_w16 dX2_answerOfSeason_37 ?_
    refine ld_aload_n O (pc := 40) 0 dX2_answerOfSeason_40 rfl rfl ?_
    refine ld_g_LD_trial O (pc := 41) ld_w16 dX2_answerOfSeason_41 ?_
    refine ld_g_trial_stockN O (pc := 44) (List.mem_of_getElem? (i := 7) rfl) dX2_answerOfSeason_44 ?_
    refine ld_callVNi O (pc := 47) (As := [.ref (ad (9 + 9))]) (st := []) ld_recv2 (c_X1_sumOf_1 l ad σ h hh2 h8 9 (by decide)) ld_mw_X1_sumOf (List.mem_of_getElem? (i := 25) rfl) rfl rfl ⟨by decide, by decide⟩ (Nat.le_of_ble_eq_true rfl) dX2_answerOfSeason_47 (fun r_p47 σ_p47 h_p47 => ?_)
    obtain ⟨rfl, hσ_p47⟩ := h_p47
    rw [hσ_p47]
    show K σ [(0, .ref (ad 0)), (1, .int what)] [.int (l_sum (σ 9) h)] 50
    refine ld_ireti E dX2_answerOfSeason_50 ?_
    refine ⟨?_, rfl⟩
    unfold ld_an
    repeat' split
    all_goals first | rfl | (exfalso; omega)
  by_cases t2 : (what).toInt = 1
  · refine ld_tabIn O (pc := 1) 89 dX2_answerOfSeason_1 (by omega) (by omega) (off := 88) (by rw [t2]; rfl) (by decide) ?_
    have hw2_ : 10 ≤ what.toInt ∧ what.toInt < 18 := by omega
    refine ld_iload_n O (pc := 89) 1 dX2_answerOfSeason_89 rfl rfl ?_
    refine ld_bipush O (pc := 90) (v := nI 10) dX2_answerOfSeason_90 (by decide) ?_
    refine ld_isub O (pc := 92) dX2_answerOfSeason_92 ?_
    have hs_ : (what - nI 10).toInt = what.toInt - 10 := by rw [fb_subI (by rw [nI_toInt (by decide)]; omega) (by rw [nI_toInt (by decide)]; omega), nI_toInt (by decide)]; rfl
    refine ld_istore_n O (pc := 93) [(2, .int (what - (nI 10))), (0, .ref (ad 0)), (1, .int what)] dX2_answerOfSeason_93 rfl (by decide) rfl ?_
    refine ld_aload_n O (pc := 94) 1 dX2_answerOfSeason_94 rfl rfl ?_
    refine ld_iload_n O (pc := 95) 0 dX2_answerOfSeason_95 rfl rfl ?_
    refine ld_callVi O (pc := 96) (As := [.int (what - (nI 10))]) (st := []) ld_recv0 (c_X2_isHouse l ad σ (what - (nI 10)) h hh h8) ld_mw_X2_isHouse ld_w168 rfl rfl ⟨by decide, by decide⟩ (Nat.le_of_ble_eq_true rfl) dX2_answerOfSeason_96 (fun r_p96 σ_p96 h_p96 => ?_)
    obtain ⟨rfl, hσ_p96⟩ := h_p96
    rw [hσ_p96]
    show K σ [(2, .int (what - (nI 10))), (0, .ref (ad 0)), (1, .int what)] [.int (ld_b (0 ≤ (what - (nI 10)).toInt ∧ (what - (nI 10)).toInt < (h : Int)))] 99
    refine ld_ifb_eq O (pc := 99) 114 dX2_answerOfSeason_99 (by decide) (fun c3 => ?_) (fun c3 => ?_)
    · refine ld_bipush O (pc := 114) (v := (-9 : Int32)) dX2_answerOfSeason_114 (by decide) ?_
      refine ld_ireti E dX2_answerOfSeason_116 ?_
      refine ⟨?_, rfl⟩
      unfold ld_an
      repeat' split
      all_goals first | rfl | (exfalso; omega)
    · obtain ⟨ek_, hk_, ik_⟩ := ld_ofIx c3
      refine ld_aload_n O (pc := 102) 1 dX2_answerOfSeason_102 rfl rfl ?_
      refine ld_g_LD_trial O (pc := 103) ld_w16 dX2_answerOfSeason_103 ?_
      refine ld_g_trial_temperN O (pc := 106) (List.mem_of_getElem? (i := 6) rfl) dX2_answerOfSeason_106 ?_
      refine ld_iload_n O (pc := 109) 0 dX2_answerOfSeason_109 rfl rfl ?_
      refine ld_iald O (pc := 110) 8 (ld_ix (what - nI 10)) (v := σ 8 (ld_ix (what - nI 10))) ek_ (by decide) (show ld_ix (what - nI 10) < 8 by omega) rfl dX2_answerOfSeason_110 ?_
      refine ld_goto O (pc := 111) 116 dX2_answerOfSeason_111 (by decide) ?_
      refine ld_ireti E dX2_answerOfSeason_116 ?_
      refine ⟨?_, rfl⟩
      unfold ld_an
      repeat' split
      all_goals first | rfl | (exfalso; omega)
  by_cases t4 : (what).toInt = 2
  · refine ld_tabIn O (pc := 1) 51 dX2_answerOfSeason_1 (by omega) (by omega) (off := 50) (by rw [t4]; rfl) (by decide) ?_
    refine ld_aload_n O (pc := 51) 0 dX2_answerOfSeason_51 rfl rfl ?_
    refine ld_g_LD_trial O (pc := 52) ld_w16 dX2_answerOfSeason_52 ?_
    refine ld_aload_n O (pc := 55) 0 dX2_answerOfSeason_55 rfl rfl ?_
    refine ld_g_LD_trial O (pc := 56) ld_w16 dX2_answerOfSeason_56 ?_
    refine ld_g_trial_temperN O (pc := 59) (List.mem_of_getElem? (i := 6) rfl) dX2_answerOfSeason_59 ?_
    refine ld_callVNi O (pc := 62) (As := [.ref (ad (9 + 8))]) (st := []) ld_recv2 (c_X1_sumOf_1 l ad σ h hh2 h8 8 (by decide)) ld_mw_X1_sumOf (List.mem_of_getElem? (i := 25) rfl) rfl rfl ⟨by decide, by decide⟩ (Nat.le_of_ble_eq_true rfl) dX2_answerOfSeason_62 (fun r_p62 σ_p62 h_p62 => ?_)
    obtain ⟨rfl, hσ_p62⟩ := h_p62
    rw [hσ_p62]
    show K σ [(0, .ref (ad 0)), (1, .int what)] [.int (l_sum (σ 8) h)] 65
    refine ld_ireti E dX2_answerOfSeason_65 ?_
    refine ⟨?_, rfl⟩
    unfold ld_an
    repeat' split
    all_goals first | rfl | (exfalso; omega)
  by_cases t5 : (what).toInt = 3
  · refine ld_tabIn O (pc := 1) 66 dX2_answerOfSeason_1 (by omega) (by omega) (off := 65) (by rw [t5]; rfl) (by decide) ?_
    refine ld_aload_n O (pc := 66) 0 dX2_answerOfSeason_66 rfl rfl ?_
    refine ld_g_LD_trial O (pc := 67) ld_w16 dX2_answerOfSeason_67 ?_
    refine ld_g_trial_leanWeeksN O (pc := 70) (v := σ 123 0) (List.mem_of_getElem? (i := 4) rfl) rfl dX2_answerOfSeason_70 ?_
    refine ld_ireti E dX2_answerOfSeason_73 ?_
    refine ⟨?_, rfl⟩
    unfold ld_an
    repeat' split
    all_goals first | rfl | (exfalso; omega)
  by_cases t6 : (what).toInt = 4
  · refine ld_tabIn O (pc := 1) 74 dX2_answerOfSeason_1 (by omega) (by omega) (off := 73) (by rw [t6]; rfl) (by decide) ?_
    refine ld_aload_n O (pc := 74) 0 dX2_answerOfSeason_74 rfl rfl ?_
    refine ld_g_LD_trial O (pc := 75) ld_w16 dX2_answerOfSeason_75 ?_
    refine ld_aload_n O (pc := 78) 0 dX2_answerOfSeason_78 rfl rfl ?_
    refine ld_g_LD_trial O (pc := 79) ld_w16 dX2_answerOfSeason_79 ?_
    refine ld_g_trial_pipsN O (pc := 82) (List.mem_of_getElem? (i := 8) rfl) dX2_answerOfSeason_82 ?_
    refine ld_callVNi O (pc := 85) (As := [.ref (ad (9 + 10))]) (st := []) ld_recv2 (c_X1_sumOf_1 l ad σ h hh2 h8 10 (by decide)) ld_mw_X1_sumOf (List.mem_of_getElem? (i := 25) rfl) rfl rfl ⟨by decide, by decide⟩ (Nat.le_of_ble_eq_true rfl) dX2_answerOfSeason_85 (fun r_p85 σ_p85 h_p85 => ?_)
    obtain ⟨rfl, hσ_p85⟩ := h_p85
    rw [hσ_p85]
    show K σ [(0, .ref (ad 0)), (1, .int what)] [.int (l_sum (σ 10) h)] 88
    refine ld_ireti E dX2_answerOfSeason_88 ?_
    refine ⟨?_, rfl⟩
    unfold ld_an
    repeat' split
    all_goals first | rfl | (exfalso; omega)
  refine ld_tabOut O (pc := 1) 89 dX2_answerOfSeason_1 (by omega) (by decide) ?_
  have hw2_ : 10 ≤ what.toInt ∧ what.toInt < 18 := by omega
  refine ld_iload_n O (pc := 89) 1 dX2_answerOfSeason_89 rfl rfl ?_
  refine ld_bipush O (pc := 90) (v := nI 10) dX2_answerOfSeason_90 (by decide) ?_
  refine ld_isub O (pc := 92) dX2_answerOfSeason_92 ?_
  have hs_ : (what - nI 10).toInt = what.toInt - 10 := by rw [fb_subI (by rw [nI_toInt (by decide)]; omega) (by rw [nI_toInt (by decide)]; omega), nI_toInt (by decide)]; rfl
  refine ld_istore_n O (pc := 93) [(2, .int (what - (nI 10))), (0, .ref (ad 0)), (1, .int what)] dX2_answerOfSeason_93 rfl (by decide) rfl ?_
  refine ld_aload_n O (pc := 94) 1 dX2_answerOfSeason_94 rfl rfl ?_
  refine ld_iload_n O (pc := 95) 0 dX2_answerOfSeason_95 rfl rfl ?_
  refine ld_callVi O (pc := 96) (As := [.int (what - (nI 10))]) (st := []) ld_recv0 (c_X2_isHouse l ad σ (what - (nI 10)) h hh h8) ld_mw_X2_isHouse ld_w168 rfl rfl ⟨by decide, by decide⟩ (Nat.le_of_ble_eq_true rfl) dX2_answerOfSeason_96 (fun r_p96 σ_p96 h_p96 => ?_)
  obtain ⟨rfl, hσ_p96⟩ := h_p96
  rw [hσ_p96]
  show K σ [(2, .int (what - (nI 10))), (0, .ref (ad 0)), (1, .int what)] [.int (ld_b (0 ≤ (what - (nI 10)).toInt ∧ (what - (nI 10)).toInt < (h : Int)))] 99
  refine ld_ifb_eq O (pc := 99) 114 dX2_answerOfSeason_99 (by decide) (fun c7 => ?_) (fun c7 => ?_)
  · refine ld_bipush O (pc := 114) (v := (-9 : Int32)) dX2_answerOfSeason_114 (by decide) ?_
    refine ld_ireti E dX2_answerOfSeason_116 ?_
    refine ⟨?_, rfl⟩
    unfold ld_an
    repeat' split
    all_goals first | rfl | (exfalso; omega)
  · obtain ⟨ek_, hk_, ik_⟩ := ld_ofIx c7
    refine ld_aload_n O (pc := 102) 1 dX2_answerOfSeason_102 rfl rfl ?_
    refine ld_g_LD_trial O (pc := 103) ld_w16 dX2_answerOfSeason_103 ?_
    refine ld_g_trial_temperN O (pc := 106) (List.mem_of_getElem? (i := 6) rfl) dX2_answerOfSeason_106 ?_
    refine ld_iload_n O (pc := 109) 0 dX2_answerOfSeason_109 rfl rfl ?_
    refine ld_iald O (pc := 110) 8 (ld_ix (what - nI 10)) (v := σ 8 (ld_ix (what - nI 10))) ek_ (by decide) (show ld_ix (what - nI 10) < 8 by omega) rfl dX2_answerOfSeason_110 ?_
    refine ld_goto O (pc := 111) 116 dX2_answerOfSeason_111 (by decide) ?_
    refine ld_ireti E dX2_answerOfSeason_116 ?_
    refine ⟨?_, rfl⟩
    unfold ld_an
    repeat' split
    all_goals first | rfl | (exfalso; omega)
