theorem ld_cbn2 {ln la lane i : Int32} {N : Int} (h : ¬ (ld_cb ln la lane i N).toInt = 0) (hN : ¬ N < 0) (X : Int32 × Int32) : (ld_cr (ld_cb ln la lane i N), ld_cb ln la lane i N) = if (ld_fa ln la lane).toInt = 0 then (if i.toInt < 0 ∨ ln.toInt < i.toInt + N then ((-10 : Int32) - nI 3, nI 3) else X) else ((-10 : Int32) - ld_fa ln la lane, ld_fa ln la lane) := (ld_cbn h X).trans (by rw [if_neg hN])
theorem ld_rps_v {h : Nat} {C : Nat → Int32} : ∀ n, (ld_rps h C n).toInt = 0 ∨ (ld_rps h C n).toInt = -1 ∨ (ld_rps h C n).toInt = -2
  | 0 => Or.inl (by show (nI 0).toInt = 0; decide)
  | n + 1 => by
    simp only [ld_rps]
    split
    · by_cases e : (ld_rp h (C (2 * n)) (C (2 * n + 1))).toInt = 0
      · exact Or.inl e
      · exact Or.inr (ld_rp_n e)
    · exact ld_rps_v n
set_option maxHeartbeats 4000000 in
set_option maxRecDepth 100000 in
theorem c_X3_season (l : Launch) (ad : Nat → Nat) (σ : ld_St) (h : Nat) (hh : σ 141 0 = nI h) (h8 : h ≤ 8) (cr : Nat) (hcr : σ 142 0 = nI cr) (c99 : cr ≤ 99) (T : Nat) (hT : T ≤ 8700) (hbd : ld_bd h (σ 20) (σ 21) (σ 22) (σ 23) T) (hS : ∀ x, x < 4 → -1 ≤ (σ 34 x).toInt ∧ (σ 34 x).toInt ≤ 60) (k lane i n what : Int32) : ld_Ctr l yX3_season cX3_season 8 (some .int) (6, 148) [.ref (ad 8), .int k, .int lane, .int i, .int n, .int what] ad σ (ld_I (fun (r : Int32) (σ2 : ld_St) => r = (ld_fSe (σ 34) (σ 35) (fun z x => σ 36 (60 * z + x)) h (σ 20) (σ 142 0, (σ 21, σ 22, σ 23), nI 0) k lane i n what).1 ∧ ∃ f t s p d k0 k1 k2 fc fw ck wk fl : Nat → Int32, f 0 = (ld_fSe (σ 34) (σ 35) (fun z x => σ 36 (60 * z + x)) h (σ 20) (σ 142 0, (σ 21, σ 22, σ 23), nI 0) k lane i n what).2 ∧ σ2 = us (us (us (us (us (us (us (us (us (us (us (us (us σ 140 f) 21 t) 22 s) 23 p) 27 d) 28 k0) 29 k1) 30 k2) 142 fc) 143 fw) 147 ck) 148 wk) 149 fl ∧ (∀ x, x < h → t x = σ 21 x ∧ s x = σ 22 x ∧ p x = σ 23 x) ∧ fc 0 = σ 142 0 ∧ fw 0 = σ 143 0)) := by
  refine ld_entry (by decide +kernel) (Nat.le_of_ble_eq_true rfl) (fun K O E => ?_)
  have O : ld_Ok l K ad cX3_season 8 RX3 (ld_rm (6, 148)) := O
  show K σ [(0, .ref (ad 8)), (1, .int k), (2, .int lane), (3, .int i), (4, .int n), (5, .int what)] [] 0
  refine ld_iload_n O (pc := 0) 1 dX3_season_0 rfl rfl ?_
  refine ld_callSi O (pc := 1) (As := [.int k]) (st := []) (c_X3_noSheet l ad σ k) ld_mw_X3_noSheet ld_w124 rfl rfl ⟨by decide, by decide⟩ (Nat.le_of_ble_eq_true rfl) dX3_season_1 (fun r_p1 σ_p1 h_p1 => ?_)
  obtain ⟨rfl, hσ_p1⟩ := h_p1
  rw [hσ_p1]
  show K σ [(0, .ref (ad 8)), (1, .int k), (2, .int lane), (3, .int i), (4, .int n), (5, .int what)] [.int (ld_b (¬ (0 ≤ (k).toInt ∧ (k).toInt < 4)))] 4
  refine ld_ifb_eq O (pc := 4) 13 dX3_season_4 (by decide) (fun c1 => ?_) (fun c1 => ?_)
  · replace c1 := Classical.byContradiction c1
    obtain ⟨ek_k, hk_k, ik_k⟩ := ld_ofIx (k := k) (h := 4) (by omega)
    rw [ek_k]
    refine ld_iload_n O (pc := 13) 2 dX3_season_13 rfl rfl ?_
    have hl2 : (lane.toInt64).toInt = (lane).toInt := (Int32.toInt_toInt64 _).trans rfl
    refine ld_i2l O (pc := 14) dX3_season_14 ?_
    refine ld_lconst O (pc := 15) (v := (0 : Int64)) dX3_season_15 (by decide) ?_
    refine ld_ldc2 O (pc := 16) (v := (2 : Int64)) dX3_season_16 ld_w116 ?_
    refine ld_callSi O (pc := 19) (As := [.long lane.toInt64, .long (0 : Int64), .long (2 : Int64)]) (st := []) (c_X3_in l ad σ lane.toInt64 (0 : Int64) (2 : Int64) ((lane).toInt) 0 (2) hl2 (by decide) (by decide)) ld_mw_X3_in ld_w128 rfl rfl ⟨by decide, by decide⟩ (Nat.le_of_ble_eq_true rfl) dX3_season_19 (fun r_p19 σ_p19 h_p19 => ?_)
    obtain ⟨rfl, hσ_p19⟩ := h_p19
    rw [hσ_p19]
    show K σ [(0, .ref (ad 8)), (1, .int (nI (ld_ix k))), (2, .int lane), (3, .int i), (4, .int n), (5, .int what)] [.int (ld_b (0 ≤ (lane).toInt ∧ (lane).toInt ≤ (2)))] 22
    refine ld_ifb_eq O (pc := 22) 66 dX3_season_22 (by decide) (fun c3 => ?_) (fun c3 => ?_)
    · refine ld_aload_n O (pc := 66) 0 dX3_season_66 rfl rfl ?_
      refine ld_bipush O (pc := 67) (v := (-2 : Int32)) dX3_season_67 (by decide) ?_
      refine ld_callVi O (pc := 69) (As := [.int (-2 : Int32)]) (st := []) ld_recv8 (c_X3_refused l ad σ (-2 : Int32)) ld_mw_X3_refused ld_w131 rfl rfl ⟨by decide, by decide⟩ (Nat.le_of_ble_eq_true rfl) dX3_season_69 (fun r_p69 σ_p69 h_p69 => ?_)
      obtain ⟨rfl, hσ_p69⟩ := h_p69
      rw [hσ_p69]
      show K (us σ 140 (fun _ => nI 0)) [(0, .ref (ad 8)), (1, .int (nI (ld_ix k))), (2, .int lane), (3, .int i), (4, .int n), (5, .int what)] [.int (-2 : Int32)] 72
      refine ld_ireti E dX3_season_72 ?_
      refine ⟨?_, fun _ => nI 0, σ 21, σ 22, σ 23, σ 27, σ 28, σ 29, σ 30, σ 142, σ 143, σ 147, σ 148, σ 149, ?_, ?_, ?_, ?_, ?_⟩
      · unfold ld_fSe
        try dsimp only
        repeat' split
        all_goals first | (exfalso; omega) | rfl
      · unfold ld_fSe
        try dsimp only
        repeat' split
        all_goals first | (exfalso; omega) | rfl
      · funext b_
        by_cases h0_ : b_ = 140
        · subst h0_; exact (us_eq _ _ _).trans ((us_ne _ _ (by decide)).trans ((us_ne _ _ (by decide)).trans ((us_ne _ _ (by decide)).trans ((us_ne _ _ (by decide)).trans ((us_ne _ _ (by decide)).trans ((us_ne _ _ (by decide)).trans ((us_ne _ _ (by decide)).trans ((us_ne _ _ (by decide)).trans ((us_ne _ _ (by decide)).trans ((us_ne _ _ (by decide)).trans ((us_ne _ _ (by decide)).trans ((us_ne _ _ (by decide)).trans (us_eq _ _ _))))))))))))).symm
        by_cases h1_ : b_ = 21
        · subst h1_; exact (us_ne _ _ (by decide)).trans ((us_ne _ _ (by decide)).trans ((us_ne _ _ (by decide)).trans ((us_ne _ _ (by decide)).trans ((us_ne _ _ (by decide)).trans ((us_ne _ _ (by decide)).trans ((us_ne _ _ (by decide)).trans ((us_ne _ _ (by decide)).trans ((us_ne _ _ (by decide)).trans ((us_ne _ _ (by decide)).trans ((us_ne _ _ (by decide)).trans ((us_ne _ _ (by decide)).trans (us_eq _ _ _)))))))))))).symm
        by_cases h2_ : b_ = 22
        · subst h2_; exact (us_ne _ _ (by decide)).trans ((us_ne _ _ (by decide)).trans ((us_ne _ _ (by decide)).trans ((us_ne _ _ (by decide)).trans ((us_ne _ _ (by decide)).trans ((us_ne _ _ (by decide)).trans ((us_ne _ _ (by decide)).trans ((us_ne _ _ (by decide)).trans ((us_ne _ _ (by decide)).trans ((us_ne _ _ (by decide)).trans ((us_ne _ _ (by decide)).trans (us_eq _ _ _))))))))))).symm
        by_cases h3_ : b_ = 23
        · subst h3_; exact (us_ne _ _ (by decide)).trans ((us_ne _ _ (by decide)).trans ((us_ne _ _ (by decide)).trans ((us_ne _ _ (by decide)).trans ((us_ne _ _ (by decide)).trans ((us_ne _ _ (by decide)).trans ((us_ne _ _ (by decide)).trans ((us_ne _ _ (by decide)).trans ((us_ne _ _ (by decide)).trans ((us_ne _ _ (by decide)).trans (us_eq _ _ _)))))))))).symm
        by_cases h4_ : b_ = 27
        · subst h4_; exact (us_ne _ _ (by decide)).trans ((us_ne _ _ (by decide)).trans ((us_ne _ _ (by decide)).trans ((us_ne _ _ (by decide)).trans ((us_ne _ _ (by decide)).trans ((us_ne _ _ (by decide)).trans ((us_ne _ _ (by decide)).trans ((us_ne _ _ (by decide)).trans ((us_ne _ _ (by decide)).trans (us_eq _ _ _))))))))).symm
        by_cases h5_ : b_ = 28
        · subst h5_; exact (us_ne _ _ (by decide)).trans ((us_ne _ _ (by decide)).trans ((us_ne _ _ (by decide)).trans ((us_ne _ _ (by decide)).trans ((us_ne _ _ (by decide)).trans ((us_ne _ _ (by decide)).trans ((us_ne _ _ (by decide)).trans ((us_ne _ _ (by decide)).trans (us_eq _ _ _)))))))).symm
        by_cases h6_ : b_ = 29
        · subst h6_; exact (us_ne _ _ (by decide)).trans ((us_ne _ _ (by decide)).trans ((us_ne _ _ (by decide)).trans ((us_ne _ _ (by decide)).trans ((us_ne _ _ (by decide)).trans ((us_ne _ _ (by decide)).trans ((us_ne _ _ (by decide)).trans (us_eq _ _ _))))))).symm
        by_cases h7_ : b_ = 30
        · subst h7_; exact (us_ne _ _ (by decide)).trans ((us_ne _ _ (by decide)).trans ((us_ne _ _ (by decide)).trans ((us_ne _ _ (by decide)).trans ((us_ne _ _ (by decide)).trans ((us_ne _ _ (by decide)).trans (us_eq _ _ _)))))).symm
        by_cases h8_ : b_ = 142
        · subst h8_; exact (us_ne _ _ (by decide)).trans ((us_ne _ _ (by decide)).trans ((us_ne _ _ (by decide)).trans ((us_ne _ _ (by decide)).trans ((us_ne _ _ (by decide)).trans (us_eq _ _ _))))).symm
        by_cases h9_ : b_ = 143
        · subst h9_; exact (us_ne _ _ (by decide)).trans ((us_ne _ _ (by decide)).trans ((us_ne _ _ (by decide)).trans ((us_ne _ _ (by decide)).trans (us_eq _ _ _)))).symm
        by_cases h10_ : b_ = 147
        · subst h10_; exact (us_ne _ _ (by decide)).trans ((us_ne _ _ (by decide)).trans ((us_ne _ _ (by decide)).trans (us_eq _ _ _))).symm
        by_cases h11_ : b_ = 148
        · subst h11_; exact (us_ne _ _ (by decide)).trans ((us_ne _ _ (by decide)).trans (us_eq _ _ _)).symm
        by_cases h12_ : b_ = 149
        · subst h12_; exact (us_ne _ _ (by decide)).trans (us_eq _ _ _).symm
        simp only [us, h0_, h1_, h2_, h3_, h4_, h5_, h6_, h7_, h8_, h9_, h10_, h11_, h12_, if_false]
      · exact fun _ _ => ⟨rfl, rfl, rfl⟩
      · rfl
      · rfl
    · refine ld_iload O (pc := 25) 4 dX3_season_25 rfl ?_
      have hl4 : (n.toInt64).toInt = (n).toInt := (Int32.toInt_toInt64 _).trans rfl
      refine ld_i2l O (pc := 27) dX3_season_27 ?_
      refine ld_lconst O (pc := 28) (v := (0 : Int64)) dX3_season_28 (by decide) ?_
      refine ld_ldc2 O (pc := 29) (v := (20 : Int64)) dX3_season_29 ld_w340 ?_
      refine ld_callSi O (pc := 32) (As := [.long n.toInt64, .long (0 : Int64), .long (20 : Int64)]) (st := []) (c_X3_in l ad σ n.toInt64 (0 : Int64) (20 : Int64) ((n).toInt) 0 (20) hl4 (by decide) (by decide)) ld_mw_X3_in ld_w128 rfl rfl ⟨by decide, by decide⟩ (Nat.le_of_ble_eq_true rfl) dX3_season_32 (fun r_p32 σ_p32 h_p32 => ?_)
      obtain ⟨rfl, hσ_p32⟩ := h_p32
      rw [hσ_p32]
      show K σ [(0, .ref (ad 8)), (1, .int (nI (ld_ix k))), (2, .int lane), (3, .int i), (4, .int n), (5, .int what)] [.int (ld_b (0 ≤ (n).toInt ∧ (n).toInt ≤ (20)))] 35
      refine ld_ifb_eq O (pc := 35) 66 dX3_season_35 (by decide) (fun c5 => ?_) (fun c5 => ?_)
      · refine ld_aload_n O (pc := 66) 0 dX3_season_66 rfl rfl ?_
        refine ld_bipush O (pc := 67) (v := (-2 : Int32)) dX3_season_67 (by decide) ?_
        refine ld_callVi O (pc := 69) (As := [.int (-2 : Int32)]) (st := []) ld_recv8 (c_X3_refused l ad σ (-2 : Int32)) ld_mw_X3_refused ld_w131 rfl rfl ⟨by decide, by decide⟩ (Nat.le_of_ble_eq_true rfl) dX3_season_69 (fun r_p69 σ_p69 h_p69 => ?_)
        obtain ⟨rfl, hσ_p69⟩ := h_p69
        rw [hσ_p69]
        show K (us σ 140 (fun _ => nI 0)) [(0, .ref (ad 8)), (1, .int (nI (ld_ix k))), (2, .int lane), (3, .int i), (4, .int n), (5, .int what)] [.int (-2 : Int32)] 72
        refine ld_ireti E dX3_season_72 ?_
        refine ⟨?_, fun _ => nI 0, σ 21, σ 22, σ 23, σ 27, σ 28, σ 29, σ 30, σ 142, σ 143, σ 147, σ 148, σ 149, ?_, ?_, ?_, ?_, ?_⟩
        · unfold ld_fSe
          try dsimp only
          repeat' split
          all_goals first | (exfalso; omega) | rfl
        · unfold ld_fSe
          try dsimp only
          repeat' split
          all_goals first | (exfalso; omega) | rfl
        · funext b_
          by_cases h0_ : b_ = 140
          · subst h0_; exact (us_eq _ _ _).trans ((us_ne _ _ (by decide)).trans ((us_ne _ _ (by decide)).trans ((us_ne _ _ (by decide)).trans ((us_ne _ _ (by decide)).trans ((us_ne _ _ (by decide)).trans ((us_ne _ _ (by decide)).trans ((us_ne _ _ (by decide)).trans ((us_ne _ _ (by decide)).trans ((us_ne _ _ (by decide)).trans ((us_ne _ _ (by decide)).trans ((us_ne _ _ (by decide)).trans ((us_ne _ _ (by decide)).trans (us_eq _ _ _))))))))))))).symm
          by_cases h1_ : b_ = 21
          · subst h1_; exact (us_ne _ _ (by decide)).trans ((us_ne _ _ (by decide)).trans ((us_ne _ _ (by decide)).trans ((us_ne _ _ (by decide)).trans ((us_ne _ _ (by decide)).trans ((us_ne _ _ (by decide)).trans ((us_ne _ _ (by decide)).trans ((us_ne _ _ (by decide)).trans ((us_ne _ _ (by decide)).trans ((us_ne _ _ (by decide)).trans ((us_ne _ _ (by decide)).trans ((us_ne _ _ (by decide)).trans (us_eq _ _ _)))))))))))).symm
          by_cases h2_ : b_ = 22
          · subst h2_; exact (us_ne _ _ (by decide)).trans ((us_ne _ _ (by decide)).trans ((us_ne _ _ (by decide)).trans ((us_ne _ _ (by decide)).trans ((us_ne _ _ (by decide)).trans ((us_ne _ _ (by decide)).trans ((us_ne _ _ (by decide)).trans ((us_ne _ _ (by decide)).trans ((us_ne _ _ (by decide)).trans ((us_ne _ _ (by decide)).trans ((us_ne _ _ (by decide)).trans (us_eq _ _ _))))))))))).symm
          by_cases h3_ : b_ = 23
          · subst h3_; exact (us_ne _ _ (by decide)).trans ((us_ne _ _ (by decide)).trans ((us_ne _ _ (by decide)).trans ((us_ne _ _ (by decide)).trans ((us_ne _ _ (by decide)).trans ((us_ne _ _ (by decide)).trans ((us_ne _ _ (by decide)).trans ((us_ne _ _ (by decide)).trans ((us_ne _ _ (by decide)).trans ((us_ne _ _ (by decide)).trans (us_eq _ _ _)))))))))).symm
          by_cases h4_ : b_ = 27
          · subst h4_; exact (us_ne _ _ (by decide)).trans ((us_ne _ _ (by decide)).trans ((us_ne _ _ (by decide)).trans ((us_ne _ _ (by decide)).trans ((us_ne _ _ (by decide)).trans ((us_ne _ _ (by decide)).trans ((us_ne _ _ (by decide)).trans ((us_ne _ _ (by decide)).trans ((us_ne _ _ (by decide)).trans (us_eq _ _ _))))))))).symm
          by_cases h5_ : b_ = 28
          · subst h5_; exact (us_ne _ _ (by decide)).trans ((us_ne _ _ (by decide)).trans ((us_ne _ _ (by decide)).trans ((us_ne _ _ (by decide)).trans ((us_ne _ _ (by decide)).trans ((us_ne _ _ (by decide)).trans ((us_ne _ _ (by decide)).trans ((us_ne _ _ (by decide)).trans (us_eq _ _ _)))))))).symm
          by_cases h6_ : b_ = 29
          · subst h6_; exact (us_ne _ _ (by decide)).trans ((us_ne _ _ (by decide)).trans ((us_ne _ _ (by decide)).trans ((us_ne _ _ (by decide)).trans ((us_ne _ _ (by decide)).trans ((us_ne _ _ (by decide)).trans ((us_ne _ _ (by decide)).trans (us_eq _ _ _))))))).symm
          by_cases h7_ : b_ = 30
          · subst h7_; exact (us_ne _ _ (by decide)).trans ((us_ne _ _ (by decide)).trans ((us_ne _ _ (by decide)).trans ((us_ne _ _ (by decide)).trans ((us_ne _ _ (by decide)).trans ((us_ne _ _ (by decide)).trans (us_eq _ _ _)))))).symm
          by_cases h8_ : b_ = 142
          · subst h8_; exact (us_ne _ _ (by decide)).trans ((us_ne _ _ (by decide)).trans ((us_ne _ _ (by decide)).trans ((us_ne _ _ (by decide)).trans ((us_ne _ _ (by decide)).trans (us_eq _ _ _))))).symm
          by_cases h9_ : b_ = 143
          · subst h9_; exact (us_ne _ _ (by decide)).trans ((us_ne _ _ (by decide)).trans ((us_ne _ _ (by decide)).trans ((us_ne _ _ (by decide)).trans (us_eq _ _ _)))).symm
          by_cases h10_ : b_ = 147
          · subst h10_; exact (us_ne _ _ (by decide)).trans ((us_ne _ _ (by decide)).trans ((us_ne _ _ (by decide)).trans (us_eq _ _ _))).symm
          by_cases h11_ : b_ = 148
          · subst h11_; exact (us_ne _ _ (by decide)).trans ((us_ne _ _ (by decide)).trans (us_eq _ _ _)).symm
          by_cases h12_ : b_ = 149
          · subst h12_; exact (us_ne _ _ (by decide)).trans (us_eq _ _ _).symm
          simp only [us, h0_, h1_, h2_, h3_, h4_, h5_, h6_, h7_, h8_, h9_, h10_, h11_, h12_, if_false]
        · exact fun _ _ => ⟨rfl, rfl, rfl⟩
        · rfl
        · rfl
      · refine ld_iload O (pc := 38) 5 dX3_season_38 rfl ?_
        have hl6 : (what.toInt64).toInt = (what).toInt := (Int32.toInt_toInt64 _).trans rfl
        refine ld_i2l O (pc := 40) dX3_season_40 ?_
        refine ld_lconst O (pc := 41) (v := (0 : Int64)) dX3_season_41 (by decide) ?_
        refine ld_ldc2 O (pc := 42) (v := (4 : Int64)) dX3_season_42 ld_w341 ?_
        refine ld_callSi O (pc := 45) (As := [.long what.toInt64, .long (0 : Int64), .long (4 : Int64)]) (st := []) (c_X3_in l ad σ what.toInt64 (0 : Int64) (4 : Int64) ((what).toInt) 0 (4) hl6 (by decide) (by decide)) ld_mw_X3_in ld_w128 rfl rfl ⟨by decide, by decide⟩ (Nat.le_of_ble_eq_true rfl) dX3_season_45 (fun r_p45 σ_p45 h_p45 => ?_)
        obtain ⟨rfl, hσ_p45⟩ := h_p45
        rw [hσ_p45]
        show K σ [(0, .ref (ad 8)), (1, .int (nI (ld_ix k))), (2, .int lane), (3, .int i), (4, .int n), (5, .int what)] [.int (ld_b (0 ≤ (what).toInt ∧ (what).toInt ≤ (4)))] 48
        refine ld_ifb_ne O (pc := 48) 73 dX3_season_48 (by decide) (fun c7 => ?_) (fun c7 => ?_)
        · refine ld_aload_n O (pc := 73) 0 dX3_season_73 rfl rfl ?_
          refine ld_g_M_houses O (pc := 74) (v := nI h) ld_w119 hh dX3_season_74 ?_
          refine ld_if_ne O (pc := 77) ((h : Nat) : Int) (nI_toInt (by omega)) 87 dX3_season_77 (by decide) (fun c8 => ?_) (fun c8 => ?_)
          · refine ld_aload_n O (pc := 87) 0 dX3_season_87 rfl rfl ?_
            refine ld_iload_n O (pc := 88) 1 dX3_season_88 rfl rfl ?_
            refine ld_iload_n O (pc := 89) 2 dX3_season_89 rfl rfl ?_
            refine ld_iload_n O (pc := 90) 3 dX3_season_90 rfl rfl ?_
            refine ld_ldc2 O (pc := 91) (v := (2 : Int64)) dX3_season_91 ld_w116 ?_
            refine ld_iload O (pc := 94) 4 dX3_season_94 rfl ?_
            have hl9 : (n.toInt64).toInt = (n).toInt := (Int32.toInt_toInt64 _).trans rfl
            refine ld_i2l O (pc := 96) dX3_season_96 ?_
            have hl10 : ((2 : Int64) * n.toInt64).toInt = (2) * (n).toInt := by
              have a1 : (2 : Int64).toInt = (2) := (by decide)
              have a2 : n.toInt64.toInt = (n).toInt := hl9
              rw [ld_fb_mulL a1 a2 (by omega) (by omega)]
            refine ld_lmul O (pc := 97) dX3_season_97 ?_
            refine ld_callVi O (pc := 98) (As := [.int (nI (ld_ix k)), .int lane, .int i, .long ((2 : Int64) * n.toInt64)]) (st := []) ld_recv8 (c_X3_cellsBarred l ad σ hS (ld_ix k) (by omega) lane i ((2 : Int64) * n.toInt64) ((2) * (n).toInt) hl10 (by omega)) ld_mw_X3_cellsBarred ld_w136 rfl rfl ⟨by decide, by decide⟩ (Nat.le_of_ble_eq_true rfl) dX3_season_98 (fun r_p98 σ_p98 h_p98 => ?_)
            obtain ⟨rfl, ff_p98, hσ_p98, hff_p98⟩ := h_p98
            rw [hσ_p98]
            have hff_p98 : ff_p98 0 = if (ld_cb (σ 34 (ld_ix k)) (σ 35 (ld_ix k)) lane i ((2) * (n).toInt)).toInt = 0 then (σ 140 0) else ld_cb (σ 34 (ld_ix k)) (σ 35 (ld_ix k)) lane i ((2) * (n).toInt) := hff_p98
            show K (us σ 140 ff_p98) [(0, .ref (ad 8)), (1, .int (nI (ld_ix k))), (2, .int lane), (3, .int i), (4, .int n), (5, .int what)] [.int (ld_cr (ld_cb (σ 34 (ld_ix k)) (σ 35 (ld_ix k)) lane i ((2) * (n).toInt)))] 101
            refine ld_istore O (pc := 101) [(6, .int (ld_cr (ld_cb (σ 34 (ld_ix k)) (σ 35 (ld_ix k)) lane i ((2) * (n).toInt)))), (0, .ref (ad 8)), (1, .int (nI (ld_ix k))), (2, .int lane), (3, .int i), (4, .int n), (5, .int what)] dX3_season_101 (by decide) rfl ?_
            have hcz_ := ld_cbz (σ 34 (ld_ix k)) (σ 35 (ld_ix k)) lane i (2 * n.toInt)
            refine ld_iload O (pc := 103) 0 dX3_season_103 rfl ?_
            refine ld_if_ge O (pc := 105) (ld_cr (ld_cb (σ 34 (ld_ix k)) (σ 35 (ld_ix k)) lane i ((2) * (n).toInt))).toInt rfl 111 dX3_season_105 (by decide) (fun c11 => ?_) (fun c11 => ?_)
            · refine ld_less O [1, 2, 3, 4, 5, 6] (lv2 := [(0, .ref (ad 8)), (1, .int (nI (ld_ix k))), (2, .int lane), (3, .int i), (4, .int n), (5, .int what)]) rfl ?_
              obtain ⟨h0a_, h0b_, h0c_, h0d_⟩ := ld_cb0 (show (ld_cb (σ 34 (ld_ix k)) (σ 35 (ld_ix k)) lane i (2 * n.toInt)).toInt = 0 by omega)
              have hs1_ := hS _ hk_k
              obtain ⟨ek_i, hk_i, ik_i⟩ := ld_ofIx (k := i) (h := 61) (by omega)
              rw [ek_i]
              obtain ⟨ek_n, hk_n, ik_n⟩ := ld_ofIx (k := n) (h := 21) (by omega)
              rw [ek_n]
              have hv_ := ld_rps_v (h := h) (C := (fun z => σ 36 (60 * ld_ix k + (ld_ix i + z)))) (ld_ix n)
              refine ld_aload_n O (pc := 111) 0 dX3_season_111 rfl rfl ?_
              refine ld_bipush O (pc := 112) (v := nI 60) dX3_season_112 (by decide) ?_
              refine ld_iload_n O (pc := 114) 1 dX3_season_114 rfl rfl ?_
              refine ld_imulN O (pc := 115) dX3_season_115 ?_
              refine ld_iload_n O (pc := 116) 3 dX3_season_116 rfl rfl ?_
              refine ld_iaddN O (pc := 117) dX3_season_117 ?_
              refine ld_iload O (pc := 118) 4 dX3_season_118 rfl ?_
              refine ld_callVi O (pc := 120) (As := [.int (nI ((60 * (ld_ix k)) + (ld_ix i))), .int (nI (ld_ix n))]) (st := []) ld_recv8 (c_X3_pairsBarred l ad (us σ 140 ff_p98) h hh h8 (fun z => σ 36 (60 * ld_ix k + (ld_ix i + z))) ((60 * (ld_ix k)) + (ld_ix i)) (ld_ix n) (fun z => by show σ 36 (60 * ld_ix k + ld_ix i + z) = σ 36 (60 * ld_ix k + (ld_ix i + z)); rw [Nat.add_assoc]) (by omega) (by omega)) ld_mw_X3_pairsBarred ld_w344 rfl rfl ⟨by decide, by decide⟩ (Nat.le_of_ble_eq_true rfl) dX3_season_120 (fun r_p120 σ_p120 h_p120 => ?_)
              obtain ⟨rfl, hσ_p120⟩ := h_p120
              rw [hσ_p120]
              show K (us σ 140 ff_p98) [(0, .ref (ad 8)), (1, .int (nI (ld_ix k))), (2, .int lane), (3, .int (nI (ld_ix i))), (4, .int (nI (ld_ix n))), (5, .int what)] [.int (ld_rps h (fun z => σ 36 (60 * ld_ix k + (ld_ix i + z))) (ld_ix n))] 123
              refine ld_istore O (pc := 123) [(6, .int (ld_rps h (fun z => σ 36 (60 * ld_ix k + (ld_ix i + z))) (ld_ix n))), (0, .ref (ad 8)), (1, .int (nI (ld_ix k))), (2, .int lane), (3, .int (nI (ld_ix i))), (4, .int (nI (ld_ix n))), (5, .int what)] dX3_season_123 (by decide) rfl ?_
              refine ld_iload O (pc := 125) 0 dX3_season_125 rfl ?_
              refine ld_if_ge O (pc := 127) (ld_rps h (fun z => σ 36 (60 * ld_ix k + (ld_ix i + z))) (ld_ix n)).toInt rfl 137 dX3_season_127 (by decide) (fun c12 => ?_) (fun c12 => ?_)
              · have hz_ : (ld_rps h (fun z => σ 36 (60 * ld_ix k + (ld_ix i + z))) (ld_ix n)).toInt = 0 := by omega
                refine ld_aload_n O (pc := 137) 1 dX3_season_137 rfl rfl ?_
                refine ld_callVv O (pc := 138) (As := []) (st := []) ld_recv8 (c_X3_keepAll l ad (us σ 140 ff_p98) h hh h8) ld_mw_X3_keepAll ld_w348 rfl rfl ⟨by decide, by decide⟩ (Nat.le_of_ble_eq_true rfl) dX3_season_138 (fun σ_p138 h_p138 => ?_)
                obtain ⟨a0_p138, a1_p138, a2_p138, hσ_p138, ha_p138⟩ := h_p138
                rw [hσ_p138]
                have ha_p138 : ∀ x, x < h → a0_p138 x = σ 21 x ∧ a1_p138 x = σ 22 x ∧ a2_p138 x = σ 23 x := ha_p138
                show K (us (us (us (us (us (us σ 140 ff_p98) 147 (fun _ => σ 142 0)) 148 (fun _ => σ 143 0)) 28 a0_p138) 29 a1_p138) 30 a2_p138) [(6, .int (ld_rps h (fun z => σ 36 (60 * ld_ix k + (ld_ix i + z))) (ld_ix n))), (0, .ref (ad 8)), (1, .int (nI (ld_ix k))), (2, .int lane), (3, .int (nI (ld_ix i))), (4, .int (nI (ld_ix n))), (5, .int what)] [] 141
                refine ld_aload_n O (pc := 141) 1 dX3_season_141 rfl rfl ?_
                refine ld_bipush O (pc := 142) (v := nI 60) dX3_season_142 (by decide) ?_
                refine ld_iload_n O (pc := 144) 2 dX3_season_144 rfl rfl ?_
                refine ld_imulN O (pc := 145) dX3_season_145 ?_
                refine ld_iload_n O (pc := 146) 4 dX3_season_146 rfl rfl ?_
                refine ld_iaddN O (pc := 147) dX3_season_147 ?_
                refine ld_iload O (pc := 148) 5 dX3_season_148 rfl ?_
                refine ld_iload O (pc := 150) 6 dX3_season_150 rfl ?_
                refine ld_callVi O (pc := 152) (As := [.int (nI ((60 * (ld_ix k)) + (ld_ix i))), .int (nI (ld_ix n)), .int what]) (st := []) ld_recv8 (c_X3_seasonBy l ad (us (us (us (us (us (us σ 140 ff_p98) 147 (fun _ => σ 142 0)) 148 (fun _ => σ 143 0)) 28 a0_p138) 29 a1_p138) 30 a2_p138) h hh h8 cr hcr (by omega) T hT hbd (fun z => σ 36 (60 * ld_ix k + (ld_ix i + z))) ((60 * (ld_ix k)) + (ld_ix i)) (ld_ix n) (fun z => by show σ 36 (60 * ld_ix k + ld_ix i + z) = σ 36 (60 * ld_ix k + (ld_ix i + z)); rw [Nat.add_assoc]) (by omega) (by omega) hz_ what (by omega)) ld_mw_X3_seasonBy ld_w354 rfl rfl ⟨by decide, by decide⟩ (Nat.le_of_ble_eq_true rfl) dX3_season_152 (fun r_p152 σ_p152 h_p152 => ?_)
                obtain ⟨rfl, ft_p152, fs_p152, fp_p152, fd_p152, fc_p152, fw_p152, fl_p152, hσ_p152⟩ := h_p152
                rw [hσ_p152]
                show K (us (us (us (us (us (us (us (us (us (us (us (us (us σ 140 ff_p98) 147 (fun _ => σ 142 0)) 148 (fun _ => σ 143 0)) 28 a0_p138) 29 a1_p138) 30 a2_p138) 21 ft_p152) 22 fs_p152) 23 fp_p152) 27 fd_p152) 142 fc_p152) 143 fw_p152) 149 fl_p152) [(6, .int (ld_rps h (fun z => σ 36 (60 * ld_ix k + (ld_ix i + z))) (ld_ix n))), (0, .ref (ad 8)), (1, .int (nI (ld_ix k))), (2, .int lane), (3, .int (nI (ld_ix i))), (4, .int (nI (ld_ix n))), (5, .int what)] [.int (ld_sr2 (ld_sn h (σ 20) (fun z => σ 36 (60 * ld_ix k + (ld_ix i + z))) (σ 142 0, (σ 21, σ 22, σ 23), nI 0) (ld_ix n)).1 h (ld_sn h (σ 20) (fun z => σ 36 (60 * ld_ix k + (ld_ix i + z))) (σ 142 0, (σ 21, σ 22, σ 23), nI 0) (ld_ix n)).2 what)] 155
                refine ld_istore O (pc := 155) [(7, .int (ld_sr2 (ld_sn h (σ 20) (fun z => σ 36 (60 * ld_ix k + (ld_ix i + z))) (σ 142 0, (σ 21, σ 22, σ 23), nI 0) (ld_ix n)).1 h (ld_sn h (σ 20) (fun z => σ 36 (60 * ld_ix k + (ld_ix i + z))) (σ 142 0, (σ 21, σ 22, σ 23), nI 0) (ld_ix n)).2 what)), (6, .int (ld_rps h (fun z => σ 36 (60 * ld_ix k + (ld_ix i + z))) (ld_ix n))), (0, .ref (ad 8)), (1, .int (nI (ld_ix k))), (2, .int lane), (3, .int (nI (ld_ix i))), (4, .int (nI (ld_ix n))), (5, .int what)] dX3_season_155 (by decide) rfl ?_
                refine ld_aload_n O (pc := 157) 2 dX3_season_157 rfl rfl ?_
                refine ld_callVv O (pc := 158) (As := []) (st := []) ld_recv8 (c_X3_bringBack l ad (us (us (us (us (us (us (us (us (us (us (us (us (us σ 140 ff_p98) 147 (fun _ => σ 142 0)) 148 (fun _ => σ 143 0)) 28 a0_p138) 29 a1_p138) 30 a2_p138) 21 ft_p152) 22 fs_p152) 23 fp_p152) 27 fd_p152) 142 fc_p152) 143 fw_p152) 149 fl_p152) h hh h8) ld_mw_X3_bringBack ld_w363 rfl rfl ⟨by decide, by decide⟩ (Nat.le_of_ble_eq_true rfl) dX3_season_158 (fun σ_p158 h_p158 => ?_)
                obtain ⟨a0_p158, a1_p158, a2_p158, hσ_p158, ha_p158⟩ := h_p158
                rw [hσ_p158]
                have ha_p158 : ∀ x, x < h → a0_p158 x = a0_p138 x ∧ a1_p158 x = a1_p138 x ∧ a2_p158 x = a2_p138 x := ha_p158
                show K (us (us (us (us (us (us (us (us (us (us (us (us (us (us (us (us (us (us σ 140 ff_p98) 147 (fun _ => σ 142 0)) 148 (fun _ => σ 143 0)) 28 a0_p138) 29 a1_p138) 30 a2_p138) 21 ft_p152) 22 fs_p152) 23 fp_p152) 27 fd_p152) 142 fc_p152) 143 fw_p152) 149 fl_p152) 142 (fun _ => σ 142 0)) 143 (fun _ => σ 143 0)) 21 a0_p158) 22 a1_p158) 23 a2_p158) [(7, .int (ld_sr2 (ld_sn h (σ 20) (fun z => σ 36 (60 * ld_ix k + (ld_ix i + z))) (σ 142 0, (σ 21, σ 22, σ 23), nI 0) (ld_ix n)).1 h (ld_sn h (σ 20) (fun z => σ 36 (60 * ld_ix k + (ld_ix i + z))) (σ 142 0, (σ 21, σ 22, σ 23), nI 0) (ld_ix n)).2 what)), (6, .int (ld_rps h (fun z => σ 36 (60 * ld_ix k + (ld_ix i + z))) (ld_ix n))), (0, .ref (ad 8)), (1, .int (nI (ld_ix k))), (2, .int lane), (3, .int (nI (ld_ix i))), (4, .int (nI (ld_ix n))), (5, .int what)] [] 161
                refine ld_aload_n O (pc := 161) 2 dX3_season_161 rfl rfl ?_
                refine ld_iload O (pc := 162) 0 dX3_season_162 rfl ?_
                refine ld_callVi O (pc := 164) (As := [.int (ld_sr2 (ld_sn h (σ 20) (fun z => σ 36 (60 * ld_ix k + (ld_ix i + z))) (σ 142 0, (σ 21, σ 22, σ 23), nI 0) (ld_ix n)).1 h (ld_sn h (σ 20) (fun z => σ 36 (60 * ld_ix k + (ld_ix i + z))) (σ 142 0, (σ 21, σ 22, σ 23), nI 0) (ld_ix n)).2 what)]) (st := []) ld_recv8 (c_X3_refused l ad (us (us (us (us (us (us (us (us (us (us (us (us (us (us (us (us (us (us σ 140 ff_p98) 147 (fun _ => σ 142 0)) 148 (fun _ => σ 143 0)) 28 a0_p138) 29 a1_p138) 30 a2_p138) 21 ft_p152) 22 fs_p152) 23 fp_p152) 27 fd_p152) 142 fc_p152) 143 fw_p152) 149 fl_p152) 142 (fun _ => σ 142 0)) 143 (fun _ => σ 143 0)) 21 a0_p158) 22 a1_p158) 23 a2_p158) (ld_sr2 (ld_sn h (σ 20) (fun z => σ 36 (60 * ld_ix k + (ld_ix i + z))) (σ 142 0, (σ 21, σ 22, σ 23), nI 0) (ld_ix n)).1 h (ld_sn h (σ 20) (fun z => σ 36 (60 * ld_ix k + (ld_ix i + z))) (σ 142 0, (σ 21, σ 22, σ 23), nI 0) (ld_ix n)).2 what)) ld_mw_X3_refused ld_w131 rfl rfl ⟨by decide, by decide⟩ (Nat.le_of_ble_eq_true rfl) dX3_season_164 (fun r_p164 σ_p164 h_p164 => ?_)
                obtain ⟨rfl, hσ_p164⟩ := h_p164
                rw [hσ_p164]
                show K (us (us (us (us (us (us (us (us (us (us (us (us (us (us (us (us (us (us (us σ 140 ff_p98) 147 (fun _ => σ 142 0)) 148 (fun _ => σ 143 0)) 28 a0_p138) 29 a1_p138) 30 a2_p138) 21 ft_p152) 22 fs_p152) 23 fp_p152) 27 fd_p152) 142 fc_p152) 143 fw_p152) 149 fl_p152) 142 (fun _ => σ 142 0)) 143 (fun _ => σ 143 0)) 21 a0_p158) 22 a1_p158) 23 a2_p158) 140 (fun _ => nI 0)) [(7, .int (ld_sr2 (ld_sn h (σ 20) (fun z => σ 36 (60 * ld_ix k + (ld_ix i + z))) (σ 142 0, (σ 21, σ 22, σ 23), nI 0) (ld_ix n)).1 h (ld_sn h (σ 20) (fun z => σ 36 (60 * ld_ix k + (ld_ix i + z))) (σ 142 0, (σ 21, σ 22, σ 23), nI 0) (ld_ix n)).2 what)), (6, .int (ld_rps h (fun z => σ 36 (60 * ld_ix k + (ld_ix i + z))) (ld_ix n))), (0, .ref (ad 8)), (1, .int (nI (ld_ix k))), (2, .int lane), (3, .int (nI (ld_ix i))), (4, .int (nI (ld_ix n))), (5, .int what)] [.int (ld_sr2 (ld_sn h (σ 20) (fun z => σ 36 (60 * ld_ix k + (ld_ix i + z))) (σ 142 0, (σ 21, σ 22, σ 23), nI 0) (ld_ix n)).1 h (ld_sn h (σ 20) (fun z => σ 36 (60 * ld_ix k + (ld_ix i + z))) (σ 142 0, (σ 21, σ 22, σ 23), nI 0) (ld_ix n)).2 what)] 167
                refine ld_ireti E dX3_season_167 ?_
                refine ⟨?_, fun _ => nI 0, a0_p158, a1_p158, a2_p158, fd_p152, a0_p138, a1_p138, a2_p138, fun _ => σ 142 0, fun _ => σ 143 0, fun _ => σ 142 0, fun _ => σ 143 0, fl_p152, ?_, ?_, ?_, ?_, ?_⟩
                · unfold ld_fSe
                  try dsimp only
                  rw [if_pos (by omega), if_pos ⟨by omega, by omega, by omega⟩, if_pos (by omega), if_pos (show (ld_fa (σ 34 (ld_ix k)) (σ 35 (ld_ix k)) lane).toInt = 0 by rw [ld_fa00 h0a_ h0b_]; decide), if_neg (by omega), if_pos hz_]
                  unfold ld_sr2
                  repeat' split
                  all_goals rfl
                · unfold ld_fSe
                  try dsimp only
                  rw [if_pos (by omega), if_pos ⟨by omega, by omega, by omega⟩, if_pos (by omega), if_pos (show (ld_fa (σ 34 (ld_ix k)) (σ 35 (ld_ix k)) lane).toInt = 0 by rw [ld_fa00 h0a_ h0b_]; decide), if_neg (by omega), if_pos hz_]
                  repeat' split
                  all_goals rfl
                · funext b_
                  by_cases h0_ : b_ = 140
                  · subst h0_; exact (us_eq _ _ _).trans ((us_ne _ _ (by decide)).trans ((us_ne _ _ (by decide)).trans ((us_ne _ _ (by decide)).trans ((us_ne _ _ (by decide)).trans ((us_ne _ _ (by decide)).trans ((us_ne _ _ (by decide)).trans ((us_ne _ _ (by decide)).trans ((us_ne _ _ (by decide)).trans ((us_ne _ _ (by decide)).trans ((us_ne _ _ (by decide)).trans ((us_ne _ _ (by decide)).trans ((us_ne _ _ (by decide)).trans (us_eq _ _ _))))))))))))).symm
                  by_cases h1_ : b_ = 147
                  · subst h1_; exact ((us_ne _ _ (by decide)).trans ((us_ne _ _ (by decide)).trans ((us_ne _ _ (by decide)).trans ((us_ne _ _ (by decide)).trans ((us_ne _ _ (by decide)).trans ((us_ne _ _ (by decide)).trans ((us_ne _ _ (by decide)).trans ((us_ne _ _ (by decide)).trans ((us_ne _ _ (by decide)).trans ((us_ne _ _ (by decide)).trans ((us_ne _ _ (by decide)).trans ((us_ne _ _ (by decide)).trans ((us_ne _ _ (by decide)).trans ((us_ne _ _ (by decide)).trans ((us_ne _ _ (by decide)).trans ((us_ne _ _ (by decide)).trans ((us_ne _ _ (by decide)).trans (us_eq _ _ _)))))))))))))))))).trans ((us_ne _ _ (by decide)).trans ((us_ne _ _ (by decide)).trans (us_eq _ _ _))).symm
                  by_cases h2_ : b_ = 148
                  · subst h2_; exact ((us_ne _ _ (by decide)).trans ((us_ne _ _ (by decide)).trans ((us_ne _ _ (by decide)).trans ((us_ne _ _ (by decide)).trans ((us_ne _ _ (by decide)).trans ((us_ne _ _ (by decide)).trans ((us_ne _ _ (by decide)).trans ((us_ne _ _ (by decide)).trans ((us_ne _ _ (by decide)).trans ((us_ne _ _ (by decide)).trans ((us_ne _ _ (by decide)).trans ((us_ne _ _ (by decide)).trans ((us_ne _ _ (by decide)).trans ((us_ne _ _ (by decide)).trans ((us_ne _ _ (by decide)).trans ((us_ne _ _ (by decide)).trans (us_eq _ _ _))))))))))))))))).trans ((us_ne _ _ (by decide)).trans (us_eq _ _ _)).symm
                  by_cases h3_ : b_ = 28
                  · subst h3_; exact ((us_ne _ _ (by decide)).trans ((us_ne _ _ (by decide)).trans ((us_ne _ _ (by decide)).trans ((us_ne _ _ (by decide)).trans ((us_ne _ _ (by decide)).trans ((us_ne _ _ (by decide)).trans ((us_ne _ _ (by decide)).trans ((us_ne _ _ (by decide)).trans ((us_ne _ _ (by decide)).trans ((us_ne _ _ (by decide)).trans ((us_ne _ _ (by decide)).trans ((us_ne _ _ (by decide)).trans ((us_ne _ _ (by decide)).trans ((us_ne _ _ (by decide)).trans ((us_ne _ _ (by decide)).trans (us_eq _ _ _)))))))))))))))).trans ((us_ne _ _ (by decide)).trans ((us_ne _ _ (by decide)).trans ((us_ne _ _ (by decide)).trans ((us_ne _ _ (by decide)).trans ((us_ne _ _ (by decide)).trans ((us_ne _ _ (by decide)).trans ((us_ne _ _ (by decide)).trans (us_eq _ _ _)))))))).symm
                  by_cases h4_ : b_ = 29
                  · subst h4_; exact ((us_ne _ _ (by decide)).trans ((us_ne _ _ (by decide)).trans ((us_ne _ _ (by decide)).trans ((us_ne _ _ (by decide)).trans ((us_ne _ _ (by decide)).trans ((us_ne _ _ (by decide)).trans ((us_ne _ _ (by decide)).trans ((us_ne _ _ (by decide)).trans ((us_ne _ _ (by decide)).trans ((us_ne _ _ (by decide)).trans ((us_ne _ _ (by decide)).trans ((us_ne _ _ (by decide)).trans ((us_ne _ _ (by decide)).trans ((us_ne _ _ (by decide)).trans (us_eq _ _ _))))))))))))))).trans ((us_ne _ _ (by decide)).trans ((us_ne _ _ (by decide)).trans ((us_ne _ _ (by decide)).trans ((us_ne _ _ (by decide)).trans ((us_ne _ _ (by decide)).trans ((us_ne _ _ (by decide)).trans (us_eq _ _ _))))))).symm
                  by_cases h5_ : b_ = 30
                  · subst h5_; exact ((us_ne _ _ (by decide)).trans ((us_ne _ _ (by decide)).trans ((us_ne _ _ (by decide)).trans ((us_ne _ _ (by decide)).trans ((us_ne _ _ (by decide)).trans ((us_ne _ _ (by decide)).trans ((us_ne _ _ (by decide)).trans ((us_ne _ _ (by decide)).trans ((us_ne _ _ (by decide)).trans ((us_ne _ _ (by decide)).trans ((us_ne _ _ (by decide)).trans ((us_ne _ _ (by decide)).trans ((us_ne _ _ (by decide)).trans (us_eq _ _ _)))))))))))))).trans ((us_ne _ _ (by decide)).trans ((us_ne _ _ (by decide)).trans ((us_ne _ _ (by decide)).trans ((us_ne _ _ (by decide)).trans ((us_ne _ _ (by decide)).trans (us_eq _ _ _)))))).symm
                  by_cases h6_ : b_ = 21
                  · subst h6_; exact ((us_ne _ _ (by decide)).trans ((us_ne _ _ (by decide)).trans ((us_ne _ _ (by decide)).trans (us_eq _ _ _)))).trans ((us_ne _ _ (by decide)).trans ((us_ne _ _ (by decide)).trans ((us_ne _ _ (by decide)).trans ((us_ne _ _ (by decide)).trans ((us_ne _ _ (by decide)).trans ((us_ne _ _ (by decide)).trans ((us_ne _ _ (by decide)).trans ((us_ne _ _ (by decide)).trans ((us_ne _ _ (by decide)).trans ((us_ne _ _ (by decide)).trans ((us_ne _ _ (by decide)).trans (us_eq _ _ _)))))))))))).symm
                  by_cases h7_ : b_ = 22
                  · subst h7_; exact ((us_ne _ _ (by decide)).trans ((us_ne _ _ (by decide)).trans (us_eq _ _ _))).trans ((us_ne _ _ (by decide)).trans ((us_ne _ _ (by decide)).trans ((us_ne _ _ (by decide)).trans ((us_ne _ _ (by decide)).trans ((us_ne _ _ (by decide)).trans ((us_ne _ _ (by decide)).trans ((us_ne _ _ (by decide)).trans ((us_ne _ _ (by decide)).trans ((us_ne _ _ (by decide)).trans ((us_ne _ _ (by decide)).trans (us_eq _ _ _))))))))))).symm
                  by_cases h8_ : b_ = 23
                  · subst h8_; exact ((us_ne _ _ (by decide)).trans (us_eq _ _ _)).trans ((us_ne _ _ (by decide)).trans ((us_ne _ _ (by decide)).trans ((us_ne _ _ (by decide)).trans ((us_ne _ _ (by decide)).trans ((us_ne _ _ (by decide)).trans ((us_ne _ _ (by decide)).trans ((us_ne _ _ (by decide)).trans ((us_ne _ _ (by decide)).trans ((us_ne _ _ (by decide)).trans (us_eq _ _ _)))))))))).symm
                  by_cases h9_ : b_ = 27
                  · subst h9_; exact ((us_ne _ _ (by decide)).trans ((us_ne _ _ (by decide)).trans ((us_ne _ _ (by decide)).trans ((us_ne _ _ (by decide)).trans ((us_ne _ _ (by decide)).trans ((us_ne _ _ (by decide)).trans ((us_ne _ _ (by decide)).trans ((us_ne _ _ (by decide)).trans ((us_ne _ _ (by decide)).trans (us_eq _ _ _)))))))))).trans ((us_ne _ _ (by decide)).trans ((us_ne _ _ (by decide)).trans ((us_ne _ _ (by decide)).trans ((us_ne _ _ (by decide)).trans ((us_ne _ _ (by decide)).trans ((us_ne _ _ (by decide)).trans ((us_ne _ _ (by decide)).trans ((us_ne _ _ (by decide)).trans (us_eq _ _ _))))))))).symm
                  by_cases h10_ : b_ = 142
                  · subst h10_; exact ((us_ne _ _ (by decide)).trans ((us_ne _ _ (by decide)).trans ((us_ne _ _ (by decide)).trans ((us_ne _ _ (by decide)).trans ((us_ne _ _ (by decide)).trans (us_eq _ _ _)))))).trans ((us_ne _ _ (by decide)).trans ((us_ne _ _ (by decide)).trans ((us_ne _ _ (by decide)).trans ((us_ne _ _ (by decide)).trans (us_eq _ _ _))))).symm
                  by_cases h11_ : b_ = 143
                  · subst h11_; exact ((us_ne _ _ (by decide)).trans ((us_ne _ _ (by decide)).trans ((us_ne _ _ (by decide)).trans ((us_ne _ _ (by decide)).trans (us_eq _ _ _))))).trans ((us_ne _ _ (by decide)).trans ((us_ne _ _ (by decide)).trans ((us_ne _ _ (by decide)).trans (us_eq _ _ _)))).symm
                  by_cases h12_ : b_ = 149
                  · subst h12_; exact ((us_ne _ _ (by decide)).trans ((us_ne _ _ (by decide)).trans ((us_ne _ _ (by decide)).trans ((us_ne _ _ (by decide)).trans ((us_ne _ _ (by decide)).trans ((us_ne _ _ (by decide)).trans (us_eq _ _ _))))))).trans (us_eq _ _ _).symm
                  simp only [us, h0_, h1_, h2_, h3_, h4_, h5_, h6_, h7_, h8_, h9_, h10_, h11_, h12_, if_false]
                · exact fun x hx => ⟨(ha_p158 x hx).1.trans (ha_p138 x hx).1, (ha_p158 x hx).2.1.trans (ha_p138 x hx).2.1, (ha_p158 x hx).2.2.trans (ha_p138 x hx).2.2⟩
                · rfl
                · rfl
              · refine ld_aload_n O (pc := 130) 1 dX3_season_130 rfl rfl ?_
                refine ld_iload O (pc := 131) 0 dX3_season_131 rfl ?_
                refine ld_callVi O (pc := 133) (As := [.int (ld_rps h (fun z => σ 36 (60 * ld_ix k + (ld_ix i + z))) (ld_ix n))]) (st := []) ld_recv8 (c_X3_refused l ad (us σ 140 ff_p98) (ld_rps h (fun z => σ 36 (60 * ld_ix k + (ld_ix i + z))) (ld_ix n))) ld_mw_X3_refused ld_w131 rfl rfl ⟨by decide, by decide⟩ (Nat.le_of_ble_eq_true rfl) dX3_season_133 (fun r_p133 σ_p133 h_p133 => ?_)
                obtain ⟨rfl, hσ_p133⟩ := h_p133
                rw [hσ_p133]
                show K (us (us σ 140 ff_p98) 140 (fun _ => nI 0)) [(6, .int (ld_rps h (fun z => σ 36 (60 * ld_ix k + (ld_ix i + z))) (ld_ix n))), (0, .ref (ad 8)), (1, .int (nI (ld_ix k))), (2, .int lane), (3, .int (nI (ld_ix i))), (4, .int (nI (ld_ix n))), (5, .int what)] [.int (ld_rps h (fun z => σ 36 (60 * ld_ix k + (ld_ix i + z))) (ld_ix n))] 136
                refine ld_ireti E dX3_season_136 ?_
                refine ⟨?_, fun _ => nI 0, σ 21, σ 22, σ 23, σ 27, σ 28, σ 29, σ 30, σ 142, σ 143, σ 147, σ 148, σ 149, ?_, ?_, ?_, ?_, ?_⟩
                · unfold ld_fSe
                  try dsimp only
                  rw [if_pos (by omega), if_pos ⟨by omega, by omega, by omega⟩, if_pos (by omega), if_pos (show (ld_fa (σ 34 (ld_ix k)) (σ 35 (ld_ix k)) lane).toInt = 0 by rw [ld_fa00 h0a_ h0b_]; decide), if_neg (by omega), if_neg (by omega)]
                · unfold ld_fSe
                  try dsimp only
                  rw [if_pos (by omega), if_pos ⟨by omega, by omega, by omega⟩, if_pos (by omega), if_pos (show (ld_fa (σ 34 (ld_ix k)) (σ 35 (ld_ix k)) lane).toInt = 0 by rw [ld_fa00 h0a_ h0b_]; decide), if_neg (by omega), if_neg (by omega)]
                · funext b_
                  by_cases h0_ : b_ = 140
                  · subst h0_; exact (us_eq _ _ _).trans ((us_ne _ _ (by decide)).trans ((us_ne _ _ (by decide)).trans ((us_ne _ _ (by decide)).trans ((us_ne _ _ (by decide)).trans ((us_ne _ _ (by decide)).trans ((us_ne _ _ (by decide)).trans ((us_ne _ _ (by decide)).trans ((us_ne _ _ (by decide)).trans ((us_ne _ _ (by decide)).trans ((us_ne _ _ (by decide)).trans ((us_ne _ _ (by decide)).trans ((us_ne _ _ (by decide)).trans (us_eq _ _ _))))))))))))).symm
                  by_cases h1_ : b_ = 21
                  · subst h1_; exact ((us_ne _ _ (by decide)).trans (us_ne _ _ (by decide))).trans ((us_ne _ _ (by decide)).trans ((us_ne _ _ (by decide)).trans ((us_ne _ _ (by decide)).trans ((us_ne _ _ (by decide)).trans ((us_ne _ _ (by decide)).trans ((us_ne _ _ (by decide)).trans ((us_ne _ _ (by decide)).trans ((us_ne _ _ (by decide)).trans ((us_ne _ _ (by decide)).trans ((us_ne _ _ (by decide)).trans ((us_ne _ _ (by decide)).trans (us_eq _ _ _)))))))))))).symm
                  by_cases h2_ : b_ = 22
                  · subst h2_; exact ((us_ne _ _ (by decide)).trans (us_ne _ _ (by decide))).trans ((us_ne _ _ (by decide)).trans ((us_ne _ _ (by decide)).trans ((us_ne _ _ (by decide)).trans ((us_ne _ _ (by decide)).trans ((us_ne _ _ (by decide)).trans ((us_ne _ _ (by decide)).trans ((us_ne _ _ (by decide)).trans ((us_ne _ _ (by decide)).trans ((us_ne _ _ (by decide)).trans ((us_ne _ _ (by decide)).trans (us_eq _ _ _))))))))))).symm
                  by_cases h3_ : b_ = 23
                  · subst h3_; exact ((us_ne _ _ (by decide)).trans (us_ne _ _ (by decide))).trans ((us_ne _ _ (by decide)).trans ((us_ne _ _ (by decide)).trans ((us_ne _ _ (by decide)).trans ((us_ne _ _ (by decide)).trans ((us_ne _ _ (by decide)).trans ((us_ne _ _ (by decide)).trans ((us_ne _ _ (by decide)).trans ((us_ne _ _ (by decide)).trans ((us_ne _ _ (by decide)).trans (us_eq _ _ _)))))))))).symm
                  by_cases h4_ : b_ = 27
                  · subst h4_; exact ((us_ne _ _ (by decide)).trans (us_ne _ _ (by decide))).trans ((us_ne _ _ (by decide)).trans ((us_ne _ _ (by decide)).trans ((us_ne _ _ (by decide)).trans ((us_ne _ _ (by decide)).trans ((us_ne _ _ (by decide)).trans ((us_ne _ _ (by decide)).trans ((us_ne _ _ (by decide)).trans ((us_ne _ _ (by decide)).trans (us_eq _ _ _))))))))).symm
                  by_cases h5_ : b_ = 28
                  · subst h5_; exact ((us_ne _ _ (by decide)).trans (us_ne _ _ (by decide))).trans ((us_ne _ _ (by decide)).trans ((us_ne _ _ (by decide)).trans ((us_ne _ _ (by decide)).trans ((us_ne _ _ (by decide)).trans ((us_ne _ _ (by decide)).trans ((us_ne _ _ (by decide)).trans ((us_ne _ _ (by decide)).trans (us_eq _ _ _)))))))).symm
                  by_cases h6_ : b_ = 29
                  · subst h6_; exact ((us_ne _ _ (by decide)).trans (us_ne _ _ (by decide))).trans ((us_ne _ _ (by decide)).trans ((us_ne _ _ (by decide)).trans ((us_ne _ _ (by decide)).trans ((us_ne _ _ (by decide)).trans ((us_ne _ _ (by decide)).trans ((us_ne _ _ (by decide)).trans (us_eq _ _ _))))))).symm
                  by_cases h7_ : b_ = 30
                  · subst h7_; exact ((us_ne _ _ (by decide)).trans (us_ne _ _ (by decide))).trans ((us_ne _ _ (by decide)).trans ((us_ne _ _ (by decide)).trans ((us_ne _ _ (by decide)).trans ((us_ne _ _ (by decide)).trans ((us_ne _ _ (by decide)).trans (us_eq _ _ _)))))).symm
                  by_cases h8_ : b_ = 142
                  · subst h8_; exact ((us_ne _ _ (by decide)).trans (us_ne _ _ (by decide))).trans ((us_ne _ _ (by decide)).trans ((us_ne _ _ (by decide)).trans ((us_ne _ _ (by decide)).trans ((us_ne _ _ (by decide)).trans (us_eq _ _ _))))).symm
                  by_cases h9_ : b_ = 143
                  · subst h9_; exact ((us_ne _ _ (by decide)).trans (us_ne _ _ (by decide))).trans ((us_ne _ _ (by decide)).trans ((us_ne _ _ (by decide)).trans ((us_ne _ _ (by decide)).trans (us_eq _ _ _)))).symm
                  by_cases h10_ : b_ = 147
                  · subst h10_; exact ((us_ne _ _ (by decide)).trans (us_ne _ _ (by decide))).trans ((us_ne _ _ (by decide)).trans ((us_ne _ _ (by decide)).trans (us_eq _ _ _))).symm
                  by_cases h11_ : b_ = 148
                  · subst h11_; exact ((us_ne _ _ (by decide)).trans (us_ne _ _ (by decide))).trans ((us_ne _ _ (by decide)).trans (us_eq _ _ _)).symm
                  by_cases h12_ : b_ = 149
                  · subst h12_; exact ((us_ne _ _ (by decide)).trans (us_ne _ _ (by decide))).trans (us_eq _ _ _).symm
                  simp only [us, h0_, h1_, h2_, h3_, h4_, h5_, h6_, h7_, h8_, h9_, h10_, h11_, h12_, if_false]
                · exact fun _ _ => ⟨rfl, rfl, rfl⟩
                · rfl
                · rfl
            · refine ld_iload O (pc := 108) 0 dX3_season_108 rfl ?_
              refine ld_ireti E dX3_season_110 ?_
              refine ⟨?_, ff_p98, σ 21, σ 22, σ 23, σ 27, σ 28, σ 29, σ 30, σ 142, σ 143, σ 147, σ 148, σ 149, ?_, ?_, ?_, ?_, ?_⟩
              · have hn_ : ¬ (ld_cb (σ 34 (ld_ix k)) (σ 35 (ld_ix k)) lane i (2 * n.toInt)).toInt = 0 := fun z => absurd (hcz_.mpr z) (by omega)
                unfold ld_fSe
                rw [if_pos (by omega), if_pos ⟨by omega, by omega, by omega⟩, if_pos (by omega)]
                exact congrArg Prod.fst (ld_cbn2 hn_ (by omega) _)
              · have hn_ : ¬ (ld_cb (σ 34 (ld_ix k)) (σ 35 (ld_ix k)) lane i (2 * n.toInt)).toInt = 0 := fun z => absurd (hcz_.mpr z) (by omega)
                rw [hff_p98, if_neg hn_]
                unfold ld_fSe
                rw [if_pos (by omega), if_pos ⟨by omega, by omega, by omega⟩, if_pos (by omega)]
                exact congrArg Prod.snd (ld_cbn2 hn_ (by omega) _)
              · funext b_
                by_cases h0_ : b_ = 140
                · subst h0_; exact (us_eq _ _ _).trans ((us_ne _ _ (by decide)).trans ((us_ne _ _ (by decide)).trans ((us_ne _ _ (by decide)).trans ((us_ne _ _ (by decide)).trans ((us_ne _ _ (by decide)).trans ((us_ne _ _ (by decide)).trans ((us_ne _ _ (by decide)).trans ((us_ne _ _ (by decide)).trans ((us_ne _ _ (by decide)).trans ((us_ne _ _ (by decide)).trans ((us_ne _ _ (by decide)).trans ((us_ne _ _ (by decide)).trans (us_eq _ _ _))))))))))))).symm
                by_cases h1_ : b_ = 21
                · subst h1_; exact (us_ne _ _ (by decide)).trans ((us_ne _ _ (by decide)).trans ((us_ne _ _ (by decide)).trans ((us_ne _ _ (by decide)).trans ((us_ne _ _ (by decide)).trans ((us_ne _ _ (by decide)).trans ((us_ne _ _ (by decide)).trans ((us_ne _ _ (by decide)).trans ((us_ne _ _ (by decide)).trans ((us_ne _ _ (by decide)).trans ((us_ne _ _ (by decide)).trans ((us_ne _ _ (by decide)).trans (us_eq _ _ _)))))))))))).symm
                by_cases h2_ : b_ = 22
                · subst h2_; exact (us_ne _ _ (by decide)).trans ((us_ne _ _ (by decide)).trans ((us_ne _ _ (by decide)).trans ((us_ne _ _ (by decide)).trans ((us_ne _ _ (by decide)).trans ((us_ne _ _ (by decide)).trans ((us_ne _ _ (by decide)).trans ((us_ne _ _ (by decide)).trans ((us_ne _ _ (by decide)).trans ((us_ne _ _ (by decide)).trans ((us_ne _ _ (by decide)).trans (us_eq _ _ _))))))))))).symm
                by_cases h3_ : b_ = 23
                · subst h3_; exact (us_ne _ _ (by decide)).trans ((us_ne _ _ (by decide)).trans ((us_ne _ _ (by decide)).trans ((us_ne _ _ (by decide)).trans ((us_ne _ _ (by decide)).trans ((us_ne _ _ (by decide)).trans ((us_ne _ _ (by decide)).trans ((us_ne _ _ (by decide)).trans ((us_ne _ _ (by decide)).trans ((us_ne _ _ (by decide)).trans (us_eq _ _ _)))))))))).symm
                by_cases h4_ : b_ = 27
                · subst h4_; exact (us_ne _ _ (by decide)).trans ((us_ne _ _ (by decide)).trans ((us_ne _ _ (by decide)).trans ((us_ne _ _ (by decide)).trans ((us_ne _ _ (by decide)).trans ((us_ne _ _ (by decide)).trans ((us_ne _ _ (by decide)).trans ((us_ne _ _ (by decide)).trans ((us_ne _ _ (by decide)).trans (us_eq _ _ _))))))))).symm
                by_cases h5_ : b_ = 28
                · subst h5_; exact (us_ne _ _ (by decide)).trans ((us_ne _ _ (by decide)).trans ((us_ne _ _ (by decide)).trans ((us_ne _ _ (by decide)).trans ((us_ne _ _ (by decide)).trans ((us_ne _ _ (by decide)).trans ((us_ne _ _ (by decide)).trans ((us_ne _ _ (by decide)).trans (us_eq _ _ _)))))))).symm
                by_cases h6_ : b_ = 29
                · subst h6_; exact (us_ne _ _ (by decide)).trans ((us_ne _ _ (by decide)).trans ((us_ne _ _ (by decide)).trans ((us_ne _ _ (by decide)).trans ((us_ne _ _ (by decide)).trans ((us_ne _ _ (by decide)).trans ((us_ne _ _ (by decide)).trans (us_eq _ _ _))))))).symm
                by_cases h7_ : b_ = 30
                · subst h7_; exact (us_ne _ _ (by decide)).trans ((us_ne _ _ (by decide)).trans ((us_ne _ _ (by decide)).trans ((us_ne _ _ (by decide)).trans ((us_ne _ _ (by decide)).trans ((us_ne _ _ (by decide)).trans (us_eq _ _ _)))))).symm
                by_cases h8_ : b_ = 142
                · subst h8_; exact (us_ne _ _ (by decide)).trans ((us_ne _ _ (by decide)).trans ((us_ne _ _ (by decide)).trans ((us_ne _ _ (by decide)).trans ((us_ne _ _ (by decide)).trans (us_eq _ _ _))))).symm
                by_cases h9_ : b_ = 143
                · subst h9_; exact (us_ne _ _ (by decide)).trans ((us_ne _ _ (by decide)).trans ((us_ne _ _ (by decide)).trans ((us_ne _ _ (by decide)).trans (us_eq _ _ _)))).symm
                by_cases h10_ : b_ = 147
                · subst h10_; exact (us_ne _ _ (by decide)).trans ((us_ne _ _ (by decide)).trans ((us_ne _ _ (by decide)).trans (us_eq _ _ _))).symm
                by_cases h11_ : b_ = 148
                · subst h11_; exact (us_ne _ _ (by decide)).trans ((us_ne _ _ (by decide)).trans (us_eq _ _ _)).symm
                by_cases h12_ : b_ = 149
                · subst h12_; exact (us_ne _ _ (by decide)).trans (us_eq _ _ _).symm
                simp only [us, h0_, h1_, h2_, h3_, h4_, h5_, h6_, h7_, h8_, h9_, h10_, h11_, h12_, if_false]
              · exact fun _ _ => ⟨rfl, rfl, rfl⟩
              · rfl
              · rfl
          · refine ld_aload_n O (pc := 80) 0 dX3_season_80 rfl rfl ?_
            refine ld_bipush O (pc := 81) (v := (-3 : Int32)) dX3_season_81 (by decide) ?_
            refine ld_callVi O (pc := 83) (As := [.int (-3 : Int32)]) (st := []) ld_recv8 (c_X3_refused l ad σ (-3 : Int32)) ld_mw_X3_refused ld_w131 rfl rfl ⟨by decide, by decide⟩ (Nat.le_of_ble_eq_true rfl) dX3_season_83 (fun r_p83 σ_p83 h_p83 => ?_)
            obtain ⟨rfl, hσ_p83⟩ := h_p83
            rw [hσ_p83]
            show K (us σ 140 (fun _ => nI 0)) [(0, .ref (ad 8)), (1, .int (nI (ld_ix k))), (2, .int lane), (3, .int i), (4, .int n), (5, .int what)] [.int (-3 : Int32)] 86
            refine ld_ireti E dX3_season_86 ?_
            refine ⟨?_, fun _ => nI 0, σ 21, σ 22, σ 23, σ 27, σ 28, σ 29, σ 30, σ 142, σ 143, σ 147, σ 148, σ 149, ?_, ?_, ?_, ?_, ?_⟩
            · unfold ld_fSe
              try dsimp only
              repeat' split
              all_goals first | (exfalso; omega) | rfl
            · unfold ld_fSe
              try dsimp only
              repeat' split
              all_goals first | (exfalso; omega) | rfl
            · funext b_
              by_cases h0_ : b_ = 140
              · subst h0_; exact (us_eq _ _ _).trans ((us_ne _ _ (by decide)).trans ((us_ne _ _ (by decide)).trans ((us_ne _ _ (by decide)).trans ((us_ne _ _ (by decide)).trans ((us_ne _ _ (by decide)).trans ((us_ne _ _ (by decide)).trans ((us_ne _ _ (by decide)).trans ((us_ne _ _ (by decide)).trans ((us_ne _ _ (by decide)).trans ((us_ne _ _ (by decide)).trans ((us_ne _ _ (by decide)).trans ((us_ne _ _ (by decide)).trans (us_eq _ _ _))))))))))))).symm
              by_cases h1_ : b_ = 21
              · subst h1_; exact (us_ne _ _ (by decide)).trans ((us_ne _ _ (by decide)).trans ((us_ne _ _ (by decide)).trans ((us_ne _ _ (by decide)).trans ((us_ne _ _ (by decide)).trans ((us_ne _ _ (by decide)).trans ((us_ne _ _ (by decide)).trans ((us_ne _ _ (by decide)).trans ((us_ne _ _ (by decide)).trans ((us_ne _ _ (by decide)).trans ((us_ne _ _ (by decide)).trans ((us_ne _ _ (by decide)).trans (us_eq _ _ _)))))))))))).symm
              by_cases h2_ : b_ = 22
              · subst h2_; exact (us_ne _ _ (by decide)).trans ((us_ne _ _ (by decide)).trans ((us_ne _ _ (by decide)).trans ((us_ne _ _ (by decide)).trans ((us_ne _ _ (by decide)).trans ((us_ne _ _ (by decide)).trans ((us_ne _ _ (by decide)).trans ((us_ne _ _ (by decide)).trans ((us_ne _ _ (by decide)).trans ((us_ne _ _ (by decide)).trans ((us_ne _ _ (by decide)).trans (us_eq _ _ _))))))))))).symm
              by_cases h3_ : b_ = 23
              · subst h3_; exact (us_ne _ _ (by decide)).trans ((us_ne _ _ (by decide)).trans ((us_ne _ _ (by decide)).trans ((us_ne _ _ (by decide)).trans ((us_ne _ _ (by decide)).trans ((us_ne _ _ (by decide)).trans ((us_ne _ _ (by decide)).trans ((us_ne _ _ (by decide)).trans ((us_ne _ _ (by decide)).trans ((us_ne _ _ (by decide)).trans (us_eq _ _ _)))))))))).symm
              by_cases h4_ : b_ = 27
              · subst h4_; exact (us_ne _ _ (by decide)).trans ((us_ne _ _ (by decide)).trans ((us_ne _ _ (by decide)).trans ((us_ne _ _ (by decide)).trans ((us_ne _ _ (by decide)).trans ((us_ne _ _ (by decide)).trans ((us_ne _ _ (by decide)).trans ((us_ne _ _ (by decide)).trans ((us_ne _ _ (by decide)).trans (us_eq _ _ _))))))))).symm
              by_cases h5_ : b_ = 28
              · subst h5_; exact (us_ne _ _ (by decide)).trans ((us_ne _ _ (by decide)).trans ((us_ne _ _ (by decide)).trans ((us_ne _ _ (by decide)).trans ((us_ne _ _ (by decide)).trans ((us_ne _ _ (by decide)).trans ((us_ne _ _ (by decide)).trans ((us_ne _ _ (by decide)).trans (us_eq _ _ _)))))))).symm
              by_cases h6_ : b_ = 29
              · subst h6_; exact (us_ne _ _ (by decide)).trans ((us_ne _ _ (by decide)).trans ((us_ne _ _ (by decide)).trans ((us_ne _ _ (by decide)).trans ((us_ne _ _ (by decide)).trans ((us_ne _ _ (by decide)).trans ((us_ne _ _ (by decide)).trans (us_eq _ _ _))))))).symm
              by_cases h7_ : b_ = 30
              · subst h7_; exact (us_ne _ _ (by decide)).trans ((us_ne _ _ (by decide)).trans ((us_ne _ _ (by decide)).trans ((us_ne _ _ (by decide)).trans ((us_ne _ _ (by decide)).trans ((us_ne _ _ (by decide)).trans (us_eq _ _ _)))))).symm
              by_cases h8_ : b_ = 142
              · subst h8_; exact (us_ne _ _ (by decide)).trans ((us_ne _ _ (by decide)).trans ((us_ne _ _ (by decide)).trans ((us_ne _ _ (by decide)).trans ((us_ne _ _ (by decide)).trans (us_eq _ _ _))))).symm
              by_cases h9_ : b_ = 143
              · subst h9_; exact (us_ne _ _ (by decide)).trans ((us_ne _ _ (by decide)).trans ((us_ne _ _ (by decide)).trans ((us_ne _ _ (by decide)).trans (us_eq _ _ _)))).symm
              by_cases h10_ : b_ = 147
              · subst h10_; exact (us_ne _ _ (by decide)).trans ((us_ne _ _ (by decide)).trans ((us_ne _ _ (by decide)).trans (us_eq _ _ _))).symm
              by_cases h11_ : b_ = 148
              · subst h11_; exact (us_ne _ _ (by decide)).trans ((us_ne _ _ (by decide)).trans (us_eq _ _ _)).symm
              by_cases h12_ : b_ = 149
              · subst h12_; exact (us_ne _ _ (by decide)).trans (us_eq _ _ _).symm
              simp only [us, h0_, h1_, h2_, h3_, h4_, h5_, h6_, h7_, h8_, h9_, h10_, h11_, h12_, if_false]
            · exact fun _ _ => ⟨rfl, rfl, rfl⟩
            · rfl
            · rfl
        · refine ld_iload O (pc := 51) 5 dX3_season_51 rfl ?_
          have hl13 : (what.toInt64).toInt = (what).toInt := (Int32.toInt_toInt64 _).trans rfl
          refine ld_i2l O (pc := 53) dX3_season_53 ?_
          refine ld_ldc2 O (pc := 54) (v := (10 : Int64)) dX3_season_54 ld_w342 ?_
          refine ld_ldc2 O (pc := 57) (v := (17 : Int64)) dX3_season_57 ld_w343 ?_
          refine ld_callSi O (pc := 60) (As := [.long what.toInt64, .long (10 : Int64), .long (17 : Int64)]) (st := []) (c_X3_in l ad σ what.toInt64 (10 : Int64) (17 : Int64) ((what).toInt) (10) (17) hl13 (by decide) (by decide)) ld_mw_X3_in ld_w128 rfl rfl ⟨by decide, by decide⟩ (Nat.le_of_ble_eq_true rfl) dX3_season_60 (fun r_p60 σ_p60 h_p60 => ?_)
          obtain ⟨rfl, hσ_p60⟩ := h_p60
          rw [hσ_p60]
          show K σ [(0, .ref (ad 8)), (1, .int (nI (ld_ix k))), (2, .int lane), (3, .int i), (4, .int n), (5, .int what)] [.int (ld_b ((10) ≤ (what).toInt ∧ (what).toInt ≤ (17)))] 63
          refine ld_ifb_ne O (pc := 63) 73 dX3_season_63 (by decide) (fun c14 => ?_) (fun c14 => ?_)
          · refine ld_aload_n O (pc := 73) 0 dX3_season_73 rfl rfl ?_
            refine ld_g_M_houses O (pc := 74) (v := nI h) ld_w119 hh dX3_season_74 ?_
            refine ld_if_ne O (pc := 77) ((h : Nat) : Int) (nI_toInt (by omega)) 87 dX3_season_77 (by decide) (fun c15 => ?_) (fun c15 => ?_)
            · refine ld_aload_n O (pc := 87) 0 dX3_season_87 rfl rfl ?_
              refine ld_iload_n O (pc := 88) 1 dX3_season_88 rfl rfl ?_
              refine ld_iload_n O (pc := 89) 2 dX3_season_89 rfl rfl ?_
              refine ld_iload_n O (pc := 90) 3 dX3_season_90 rfl rfl ?_
              refine ld_ldc2 O (pc := 91) (v := (2 : Int64)) dX3_season_91 ld_w116 ?_
              refine ld_iload O (pc := 94) 4 dX3_season_94 rfl ?_
              have hl16 : (n.toInt64).toInt = (n).toInt := (Int32.toInt_toInt64 _).trans rfl
              refine ld_i2l O (pc := 96) dX3_season_96 ?_
              have hl17 : ((2 : Int64) * n.toInt64).toInt = (2) * (n).toInt := by
                have a1 : (2 : Int64).toInt = (2) := (by decide)
                have a2 : n.toInt64.toInt = (n).toInt := hl16
                rw [ld_fb_mulL a1 a2 (by omega) (by omega)]
              refine ld_lmul O (pc := 97) dX3_season_97 ?_
              refine ld_callVi O (pc := 98) (As := [.int (nI (ld_ix k)), .int lane, .int i, .long ((2 : Int64) * n.toInt64)]) (st := []) ld_recv8 (c_X3_cellsBarred l ad σ hS (ld_ix k) (by omega) lane i ((2 : Int64) * n.toInt64) ((2) * (n).toInt) hl17 (by omega)) ld_mw_X3_cellsBarred ld_w136 rfl rfl ⟨by decide, by decide⟩ (Nat.le_of_ble_eq_true rfl) dX3_season_98 (fun r_p98 σ_p98 h_p98 => ?_)
              obtain ⟨rfl, ff_p98, hσ_p98, hff_p98⟩ := h_p98
              rw [hσ_p98]
              have hff_p98 : ff_p98 0 = if (ld_cb (σ 34 (ld_ix k)) (σ 35 (ld_ix k)) lane i ((2) * (n).toInt)).toInt = 0 then (σ 140 0) else ld_cb (σ 34 (ld_ix k)) (σ 35 (ld_ix k)) lane i ((2) * (n).toInt) := hff_p98
              show K (us σ 140 ff_p98) [(0, .ref (ad 8)), (1, .int (nI (ld_ix k))), (2, .int lane), (3, .int i), (4, .int n), (5, .int what)] [.int (ld_cr (ld_cb (σ 34 (ld_ix k)) (σ 35 (ld_ix k)) lane i ((2) * (n).toInt)))] 101
              refine ld_istore O (pc := 101) [(6, .int (ld_cr (ld_cb (σ 34 (ld_ix k)) (σ 35 (ld_ix k)) lane i ((2) * (n).toInt)))), (0, .ref (ad 8)), (1, .int (nI (ld_ix k))), (2, .int lane), (3, .int i), (4, .int n), (5, .int what)] dX3_season_101 (by decide) rfl ?_
              have hcz_ := ld_cbz (σ 34 (ld_ix k)) (σ 35 (ld_ix k)) lane i (2 * n.toInt)
              refine ld_iload O (pc := 103) 0 dX3_season_103 rfl ?_
              refine ld_if_ge O (pc := 105) (ld_cr (ld_cb (σ 34 (ld_ix k)) (σ 35 (ld_ix k)) lane i ((2) * (n).toInt))).toInt rfl 111 dX3_season_105 (by decide) (fun c18 => ?_) (fun c18 => ?_)
              · refine ld_less O [1, 2, 3, 4, 5, 6] (lv2 := [(0, .ref (ad 8)), (1, .int (nI (ld_ix k))), (2, .int lane), (3, .int i), (4, .int n), (5, .int what)]) rfl ?_
                obtain ⟨h0a_, h0b_, h0c_, h0d_⟩ := ld_cb0 (show (ld_cb (σ 34 (ld_ix k)) (σ 35 (ld_ix k)) lane i (2 * n.toInt)).toInt = 0 by omega)
                have hs1_ := hS _ hk_k
                obtain ⟨ek_i, hk_i, ik_i⟩ := ld_ofIx (k := i) (h := 61) (by omega)
                rw [ek_i]
                obtain ⟨ek_n, hk_n, ik_n⟩ := ld_ofIx (k := n) (h := 21) (by omega)
                rw [ek_n]
                have hv_ := ld_rps_v (h := h) (C := (fun z => σ 36 (60 * ld_ix k + (ld_ix i + z)))) (ld_ix n)
                refine ld_aload_n O (pc := 111) 0 dX3_season_111 rfl rfl ?_
                refine ld_bipush O (pc := 112) (v := nI 60) dX3_season_112 (by decide) ?_
                refine ld_iload_n O (pc := 114) 1 dX3_season_114 rfl rfl ?_
                refine ld_imulN O (pc := 115) dX3_season_115 ?_
                refine ld_iload_n O (pc := 116) 3 dX3_season_116 rfl rfl ?_
                refine ld_iaddN O (pc := 117) dX3_season_117 ?_
                refine ld_iload O (pc := 118) 4 dX3_season_118 rfl ?_
                refine ld_callVi O (pc := 120) (As := [.int (nI ((60 * (ld_ix k)) + (ld_ix i))), .int (nI (ld_ix n))]) (st := []) ld_recv8 (c_X3_pairsBarred l ad (us σ 140 ff_p98) h hh h8 (fun z => σ 36 (60 * ld_ix k + (ld_ix i + z))) ((60 * (ld_ix k)) + (ld_ix i)) (ld_ix n) (fun z => by show σ 36 (60 * ld_ix k + ld_ix i + z) = σ 36 (60 * ld_ix k + (ld_ix i + z)); rw [Nat.add_assoc]) (by omega) (by omega)) ld_mw_X3_pairsBarred ld_w344 rfl rfl ⟨by decide, by decide⟩ (Nat.le_of_ble_eq_true rfl) dX3_season_120 (fun r_p120 σ_p120 h_p120 => ?_)
                obtain ⟨rfl, hσ_p120⟩ := h_p120
                rw [hσ_p120]
                show K (us σ 140 ff_p98) [(0, .ref (ad 8)), (1, .int (nI (ld_ix k))), (2, .int lane), (3, .int (nI (ld_ix i))), (4, .int (nI (ld_ix n))), (5, .int what)] [.int (ld_rps h (fun z => σ 36 (60 * ld_ix k + (ld_ix i + z))) (ld_ix n))] 123
                refine ld_istore O (pc := 123) [(6, .int (ld_rps h (fun z => σ 36 (60 * ld_ix k + (ld_ix i + z))) (ld_ix n))), (0, .ref (ad 8)), (1, .int (nI (ld_ix k))), (2, .int lane), (3, .int (nI (ld_ix i))), (4, .int (nI (ld_ix n))), (5, .int what)] dX3_season_123 (by decide) rfl ?_
                refine ld_iload O (pc := 125) 0 dX3_season_125 rfl ?_
                refine ld_if_ge O (pc := 127) (ld_rps h (fun z => σ 36 (60 * ld_ix k + (ld_ix i + z))) (ld_ix n)).toInt rfl 137 dX3_season_127 (by decide) (fun c19 => ?_) (fun c19 => ?_)
                · have hz_ : (ld_rps h (fun z => σ 36 (60 * ld_ix k + (ld_ix i + z))) (ld_ix n)).toInt = 0 := by omega
                  refine ld_aload_n O (pc := 137) 1 dX3_season_137 rfl rfl ?_
                  refine ld_callVv O (pc := 138) (As := []) (st := []) ld_recv8 (c_X3_keepAll l ad (us σ 140 ff_p98) h hh h8) ld_mw_X3_keepAll ld_w348 rfl rfl ⟨by decide, by decide⟩ (Nat.le_of_ble_eq_true rfl) dX3_season_138 (fun σ_p138 h_p138 => ?_)
                  obtain ⟨a0_p138, a1_p138, a2_p138, hσ_p138, ha_p138⟩ := h_p138
                  rw [hσ_p138]
                  have ha_p138 : ∀ x, x < h → a0_p138 x = σ 21 x ∧ a1_p138 x = σ 22 x ∧ a2_p138 x = σ 23 x := ha_p138
                  show K (us (us (us (us (us (us σ 140 ff_p98) 147 (fun _ => σ 142 0)) 148 (fun _ => σ 143 0)) 28 a0_p138) 29 a1_p138) 30 a2_p138) [(6, .int (ld_rps h (fun z => σ 36 (60 * ld_ix k + (ld_ix i + z))) (ld_ix n))), (0, .ref (ad 8)), (1, .int (nI (ld_ix k))), (2, .int lane), (3, .int (nI (ld_ix i))), (4, .int (nI (ld_ix n))), (5, .int what)] [] 141
                  refine ld_aload_n O (pc := 141) 1 dX3_season_141 rfl rfl ?_
                  refine ld_bipush O (pc := 142) (v := nI 60) dX3_season_142 (by decide) ?_
                  refine ld_iload_n O (pc := 144) 2 dX3_season_144 rfl rfl ?_
                  refine ld_imulN O (pc := 145) dX3_season_145 ?_
                  refine ld_iload_n O (pc := 146) 4 dX3_season_146 rfl rfl ?_
                  refine ld_iaddN O (pc := 147) dX3_season_147 ?_
                  refine ld_iload O (pc := 148) 5 dX3_season_148 rfl ?_
                  refine ld_iload O (pc := 150) 6 dX3_season_150 rfl ?_
                  refine ld_callVi O (pc := 152) (As := [.int (nI ((60 * (ld_ix k)) + (ld_ix i))), .int (nI (ld_ix n)), .int what]) (st := []) ld_recv8 (c_X3_seasonBy l ad (us (us (us (us (us (us σ 140 ff_p98) 147 (fun _ => σ 142 0)) 148 (fun _ => σ 143 0)) 28 a0_p138) 29 a1_p138) 30 a2_p138) h hh h8 cr hcr (by omega) T hT hbd (fun z => σ 36 (60 * ld_ix k + (ld_ix i + z))) ((60 * (ld_ix k)) + (ld_ix i)) (ld_ix n) (fun z => by show σ 36 (60 * ld_ix k + ld_ix i + z) = σ 36 (60 * ld_ix k + (ld_ix i + z)); rw [Nat.add_assoc]) (by omega) (by omega) hz_ what (by omega)) ld_mw_X3_seasonBy ld_w354 rfl rfl ⟨by decide, by decide⟩ (Nat.le_of_ble_eq_true rfl) dX3_season_152 (fun r_p152 σ_p152 h_p152 => ?_)
                  obtain ⟨rfl, ft_p152, fs_p152, fp_p152, fd_p152, fc_p152, fw_p152, fl_p152, hσ_p152⟩ := h_p152
                  rw [hσ_p152]
                  show K (us (us (us (us (us (us (us (us (us (us (us (us (us σ 140 ff_p98) 147 (fun _ => σ 142 0)) 148 (fun _ => σ 143 0)) 28 a0_p138) 29 a1_p138) 30 a2_p138) 21 ft_p152) 22 fs_p152) 23 fp_p152) 27 fd_p152) 142 fc_p152) 143 fw_p152) 149 fl_p152) [(6, .int (ld_rps h (fun z => σ 36 (60 * ld_ix k + (ld_ix i + z))) (ld_ix n))), (0, .ref (ad 8)), (1, .int (nI (ld_ix k))), (2, .int lane), (3, .int (nI (ld_ix i))), (4, .int (nI (ld_ix n))), (5, .int what)] [.int (ld_sr2 (ld_sn h (σ 20) (fun z => σ 36 (60 * ld_ix k + (ld_ix i + z))) (σ 142 0, (σ 21, σ 22, σ 23), nI 0) (ld_ix n)).1 h (ld_sn h (σ 20) (fun z => σ 36 (60 * ld_ix k + (ld_ix i + z))) (σ 142 0, (σ 21, σ 22, σ 23), nI 0) (ld_ix n)).2 what)] 155
                  refine ld_istore O (pc := 155) [(7, .int (ld_sr2 (ld_sn h (σ 20) (fun z => σ 36 (60 * ld_ix k + (ld_ix i + z))) (σ 142 0, (σ 21, σ 22, σ 23), nI 0) (ld_ix n)).1 h (ld_sn h (σ 20) (fun z => σ 36 (60 * ld_ix k + (ld_ix i + z))) (σ 142 0, (σ 21, σ 22, σ 23), nI 0) (ld_ix n)).2 what)), (6, .int (ld_rps h (fun z => σ 36 (60 * ld_ix k + (ld_ix i + z))) (ld_ix n))), (0, .ref (ad 8)), (1, .int (nI (ld_ix k))), (2, .int lane), (3, .int (nI (ld_ix i))), (4, .int (nI (ld_ix n))), (5, .int what)] dX3_season_155 (by decide) rfl ?_
                  refine ld_aload_n O (pc := 157) 2 dX3_season_157 rfl rfl ?_
                  refine ld_callVv O (pc := 158) (As := []) (st := []) ld_recv8 (c_X3_bringBack l ad (us (us (us (us (us (us (us (us (us (us (us (us (us σ 140 ff_p98) 147 (fun _ => σ 142 0)) 148 (fun _ => σ 143 0)) 28 a0_p138) 29 a1_p138) 30 a2_p138) 21 ft_p152) 22 fs_p152) 23 fp_p152) 27 fd_p152) 142 fc_p152) 143 fw_p152) 149 fl_p152) h hh h8) ld_mw_X3_bringBack ld_w363 rfl rfl ⟨by decide, by decide⟩ (Nat.le_of_ble_eq_true rfl) dX3_season_158 (fun σ_p158 h_p158 => ?_)
                  obtain ⟨a0_p158, a1_p158, a2_p158, hσ_p158, ha_p158⟩ := h_p158
                  rw [hσ_p158]
                  have ha_p158 : ∀ x, x < h → a0_p158 x = a0_p138 x ∧ a1_p158 x = a1_p138 x ∧ a2_p158 x = a2_p138 x := ha_p158
                  show K (us (us (us (us (us (us (us (us (us (us (us (us (us (us (us (us (us (us σ 140 ff_p98) 147 (fun _ => σ 142 0)) 148 (fun _ => σ 143 0)) 28 a0_p138) 29 a1_p138) 30 a2_p138) 21 ft_p152) 22 fs_p152) 23 fp_p152) 27 fd_p152) 142 fc_p152) 143 fw_p152) 149 fl_p152) 142 (fun _ => σ 142 0)) 143 (fun _ => σ 143 0)) 21 a0_p158) 22 a1_p158) 23 a2_p158) [(7, .int (ld_sr2 (ld_sn h (σ 20) (fun z => σ 36 (60 * ld_ix k + (ld_ix i + z))) (σ 142 0, (σ 21, σ 22, σ 23), nI 0) (ld_ix n)).1 h (ld_sn h (σ 20) (fun z => σ 36 (60 * ld_ix k + (ld_ix i + z))) (σ 142 0, (σ 21, σ 22, σ 23), nI 0) (ld_ix n)).2 what)), (6, .int (ld_rps h (fun z => σ 36 (60 * ld_ix k + (ld_ix i + z))) (ld_ix n))), (0, .ref (ad 8)), (1, .int (nI (ld_ix k))), (2, .int lane), (3, .int (nI (ld_ix i))), (4, .int (nI (ld_ix n))), (5, .int what)] [] 161
                  refine ld_aload_n O (pc := 161) 2 dX3_season_161 rfl rfl ?_
                  refine ld_iload O (pc := 162) 0 dX3_season_162 rfl ?_
                  refine ld_callVi O (pc := 164) (As := [.int (ld_sr2 (ld_sn h (σ 20) (fun z => σ 36 (60 * ld_ix k + (ld_ix i + z))) (σ 142 0, (σ 21, σ 22, σ 23), nI 0) (ld_ix n)).1 h (ld_sn h (σ 20) (fun z => σ 36 (60 * ld_ix k + (ld_ix i + z))) (σ 142 0, (σ 21, σ 22, σ 23), nI 0) (ld_ix n)).2 what)]) (st := []) ld_recv8 (c_X3_refused l ad (us (us (us (us (us (us (us (us (us (us (us (us (us (us (us (us (us (us σ 140 ff_p98) 147 (fun _ => σ 142 0)) 148 (fun _ => σ 143 0)) 28 a0_p138) 29 a1_p138) 30 a2_p138) 21 ft_p152) 22 fs_p152) 23 fp_p152) 27 fd_p152) 142 fc_p152) 143 fw_p152) 149 fl_p152) 142 (fun _ => σ 142 0)) 143 (fun _ => σ 143 0)) 21 a0_p158) 22 a1_p158) 23 a2_p158) (ld_sr2 (ld_sn h (σ 20) (fun z => σ 36 (60 * ld_ix k + (ld_ix i + z))) (σ 142 0, (σ 21, σ 22, σ 23), nI 0) (ld_ix n)).1 h (ld_sn h (σ 20) (fun z => σ 36 (60 * ld_ix k + (ld_ix i + z))) (σ 142 0, (σ 21, σ 22, σ 23), nI 0) (ld_ix n)).2 what)) ld_mw_X3_refused ld_w131 rfl rfl ⟨by decide, by decide⟩ (Nat.le_of_ble_eq_true rfl) dX3_season_164 (fun r_p164 σ_p164 h_p164 => ?_)
                  obtain ⟨rfl, hσ_p164⟩ := h_p164
                  rw [hσ_p164]
                  show K (us (us (us (us (us (us (us (us (us (us (us (us (us (us (us (us (us (us (us σ 140 ff_p98) 147 (fun _ => σ 142 0)) 148 (fun _ => σ 143 0)) 28 a0_p138) 29 a1_p138) 30 a2_p138) 21 ft_p152) 22 fs_p152) 23 fp_p152) 27 fd_p152) 142 fc_p152) 143 fw_p152) 149 fl_p152) 142 (fun _ => σ 142 0)) 143 (fun _ => σ 143 0)) 21 a0_p158) 22 a1_p158) 23 a2_p158) 140 (fun _ => nI 0)) [(7, .int (ld_sr2 (ld_sn h (σ 20) (fun z => σ 36 (60 * ld_ix k + (ld_ix i + z))) (σ 142 0, (σ 21, σ 22, σ 23), nI 0) (ld_ix n)).1 h (ld_sn h (σ 20) (fun z => σ 36 (60 * ld_ix k + (ld_ix i + z))) (σ 142 0, (σ 21, σ 22, σ 23), nI 0) (ld_ix n)).2 what)), (6, .int (ld_rps h (fun z => σ 36 (60 * ld_ix k + (ld_ix i + z))) (ld_ix n))), (0, .ref (ad 8)), (1, .int (nI (ld_ix k))), (2, .int lane), (3, .int (nI (ld_ix i))), (4, .int (nI (ld_ix n))), (5, .int what)] [.int (ld_sr2 (ld_sn h (σ 20) (fun z => σ 36 (60 * ld_ix k + (ld_ix i + z))) (σ 142 0, (σ 21, σ 22, σ 23), nI 0) (ld_ix n)).1 h (ld_sn h (σ 20) (fun z => σ 36 (60 * ld_ix k + (ld_ix i + z))) (σ 142 0, (σ 21, σ 22, σ 23), nI 0) (ld_ix n)).2 what)] 167
                  refine ld_ireti E dX3_season_167 ?_
                  refine ⟨?_, fun _ => nI 0, a0_p158, a1_p158, a2_p158, fd_p152, a0_p138, a1_p138, a2_p138, fun _ => σ 142 0, fun _ => σ 143 0, fun _ => σ 142 0, fun _ => σ 143 0, fl_p152, ?_, ?_, ?_, ?_, ?_⟩
                  · unfold ld_fSe
                    try dsimp only
                    rw [if_pos (by omega), if_pos ⟨by omega, by omega, by omega⟩, if_pos (by omega), if_pos (show (ld_fa (σ 34 (ld_ix k)) (σ 35 (ld_ix k)) lane).toInt = 0 by rw [ld_fa00 h0a_ h0b_]; decide), if_neg (by omega), if_pos hz_]
                    unfold ld_sr2
                    repeat' split
                    all_goals rfl
                  · unfold ld_fSe
                    try dsimp only
                    rw [if_pos (by omega), if_pos ⟨by omega, by omega, by omega⟩, if_pos (by omega), if_pos (show (ld_fa (σ 34 (ld_ix k)) (σ 35 (ld_ix k)) lane).toInt = 0 by rw [ld_fa00 h0a_ h0b_]; decide), if_neg (by omega), if_pos hz_]
                    repeat' split
                    all_goals rfl
                  · funext b_
                    by_cases h0_ : b_ = 140
                    · subst h0_; exact (us_eq _ _ _).trans ((us_ne _ _ (by decide)).trans ((us_ne _ _ (by decide)).trans ((us_ne _ _ (by decide)).trans ((us_ne _ _ (by decide)).trans ((us_ne _ _ (by decide)).trans ((us_ne _ _ (by decide)).trans ((us_ne _ _ (by decide)).trans ((us_ne _ _ (by decide)).trans ((us_ne _ _ (by decide)).trans ((us_ne _ _ (by decide)).trans ((us_ne _ _ (by decide)).trans ((us_ne _ _ (by decide)).trans (us_eq _ _ _))))))))))))).symm
                    by_cases h1_ : b_ = 147
                    · subst h1_; exact ((us_ne _ _ (by decide)).trans ((us_ne _ _ (by decide)).trans ((us_ne _ _ (by decide)).trans ((us_ne _ _ (by decide)).trans ((us_ne _ _ (by decide)).trans ((us_ne _ _ (by decide)).trans ((us_ne _ _ (by decide)).trans ((us_ne _ _ (by decide)).trans ((us_ne _ _ (by decide)).trans ((us_ne _ _ (by decide)).trans ((us_ne _ _ (by decide)).trans ((us_ne _ _ (by decide)).trans ((us_ne _ _ (by decide)).trans ((us_ne _ _ (by decide)).trans ((us_ne _ _ (by decide)).trans ((us_ne _ _ (by decide)).trans ((us_ne _ _ (by decide)).trans (us_eq _ _ _)))))))))))))))))).trans ((us_ne _ _ (by decide)).trans ((us_ne _ _ (by decide)).trans (us_eq _ _ _))).symm
                    by_cases h2_ : b_ = 148
                    · subst h2_; exact ((us_ne _ _ (by decide)).trans ((us_ne _ _ (by decide)).trans ((us_ne _ _ (by decide)).trans ((us_ne _ _ (by decide)).trans ((us_ne _ _ (by decide)).trans ((us_ne _ _ (by decide)).trans ((us_ne _ _ (by decide)).trans ((us_ne _ _ (by decide)).trans ((us_ne _ _ (by decide)).trans ((us_ne _ _ (by decide)).trans ((us_ne _ _ (by decide)).trans ((us_ne _ _ (by decide)).trans ((us_ne _ _ (by decide)).trans ((us_ne _ _ (by decide)).trans ((us_ne _ _ (by decide)).trans ((us_ne _ _ (by decide)).trans (us_eq _ _ _))))))))))))))))).trans ((us_ne _ _ (by decide)).trans (us_eq _ _ _)).symm
                    by_cases h3_ : b_ = 28
                    · subst h3_; exact ((us_ne _ _ (by decide)).trans ((us_ne _ _ (by decide)).trans ((us_ne _ _ (by decide)).trans ((us_ne _ _ (by decide)).trans ((us_ne _ _ (by decide)).trans ((us_ne _ _ (by decide)).trans ((us_ne _ _ (by decide)).trans ((us_ne _ _ (by decide)).trans ((us_ne _ _ (by decide)).trans ((us_ne _ _ (by decide)).trans ((us_ne _ _ (by decide)).trans ((us_ne _ _ (by decide)).trans ((us_ne _ _ (by decide)).trans ((us_ne _ _ (by decide)).trans ((us_ne _ _ (by decide)).trans (us_eq _ _ _)))))))))))))))).trans ((us_ne _ _ (by decide)).trans ((us_ne _ _ (by decide)).trans ((us_ne _ _ (by decide)).trans ((us_ne _ _ (by decide)).trans ((us_ne _ _ (by decide)).trans ((us_ne _ _ (by decide)).trans ((us_ne _ _ (by decide)).trans (us_eq _ _ _)))))))).symm
                    by_cases h4_ : b_ = 29
                    · subst h4_; exact ((us_ne _ _ (by decide)).trans ((us_ne _ _ (by decide)).trans ((us_ne _ _ (by decide)).trans ((us_ne _ _ (by decide)).trans ((us_ne _ _ (by decide)).trans ((us_ne _ _ (by decide)).trans ((us_ne _ _ (by decide)).trans ((us_ne _ _ (by decide)).trans ((us_ne _ _ (by decide)).trans ((us_ne _ _ (by decide)).trans ((us_ne _ _ (by decide)).trans ((us_ne _ _ (by decide)).trans ((us_ne _ _ (by decide)).trans ((us_ne _ _ (by decide)).trans (us_eq _ _ _))))))))))))))).trans ((us_ne _ _ (by decide)).trans ((us_ne _ _ (by decide)).trans ((us_ne _ _ (by decide)).trans ((us_ne _ _ (by decide)).trans ((us_ne _ _ (by decide)).trans ((us_ne _ _ (by decide)).trans (us_eq _ _ _))))))).symm
                    by_cases h5_ : b_ = 30
                    · subst h5_; exact ((us_ne _ _ (by decide)).trans ((us_ne _ _ (by decide)).trans ((us_ne _ _ (by decide)).trans ((us_ne _ _ (by decide)).trans ((us_ne _ _ (by decide)).trans ((us_ne _ _ (by decide)).trans ((us_ne _ _ (by decide)).trans ((us_ne _ _ (by decide)).trans ((us_ne _ _ (by decide)).trans ((us_ne _ _ (by decide)).trans ((us_ne _ _ (by decide)).trans ((us_ne _ _ (by decide)).trans ((us_ne _ _ (by decide)).trans (us_eq _ _ _)))))))))))))).trans ((us_ne _ _ (by decide)).trans ((us_ne _ _ (by decide)).trans ((us_ne _ _ (by decide)).trans ((us_ne _ _ (by decide)).trans ((us_ne _ _ (by decide)).trans (us_eq _ _ _)))))).symm
                    by_cases h6_ : b_ = 21
                    · subst h6_; exact ((us_ne _ _ (by decide)).trans ((us_ne _ _ (by decide)).trans ((us_ne _ _ (by decide)).trans (us_eq _ _ _)))).trans ((us_ne _ _ (by decide)).trans ((us_ne _ _ (by decide)).trans ((us_ne _ _ (by decide)).trans ((us_ne _ _ (by decide)).trans ((us_ne _ _ (by decide)).trans ((us_ne _ _ (by decide)).trans ((us_ne _ _ (by decide)).trans ((us_ne _ _ (by decide)).trans ((us_ne _ _ (by decide)).trans ((us_ne _ _ (by decide)).trans ((us_ne _ _ (by decide)).trans (us_eq _ _ _)))))))))))).symm
                    by_cases h7_ : b_ = 22
                    · subst h7_; exact ((us_ne _ _ (by decide)).trans ((us_ne _ _ (by decide)).trans (us_eq _ _ _))).trans ((us_ne _ _ (by decide)).trans ((us_ne _ _ (by decide)).trans ((us_ne _ _ (by decide)).trans ((us_ne _ _ (by decide)).trans ((us_ne _ _ (by decide)).trans ((us_ne _ _ (by decide)).trans ((us_ne _ _ (by decide)).trans ((us_ne _ _ (by decide)).trans ((us_ne _ _ (by decide)).trans ((us_ne _ _ (by decide)).trans (us_eq _ _ _))))))))))).symm
                    by_cases h8_ : b_ = 23
                    · subst h8_; exact ((us_ne _ _ (by decide)).trans (us_eq _ _ _)).trans ((us_ne _ _ (by decide)).trans ((us_ne _ _ (by decide)).trans ((us_ne _ _ (by decide)).trans ((us_ne _ _ (by decide)).trans ((us_ne _ _ (by decide)).trans ((us_ne _ _ (by decide)).trans ((us_ne _ _ (by decide)).trans ((us_ne _ _ (by decide)).trans ((us_ne _ _ (by decide)).trans (us_eq _ _ _)))))))))).symm
                    by_cases h9_ : b_ = 27
                    · subst h9_; exact ((us_ne _ _ (by decide)).trans ((us_ne _ _ (by decide)).trans ((us_ne _ _ (by decide)).trans ((us_ne _ _ (by decide)).trans ((us_ne _ _ (by decide)).trans ((us_ne _ _ (by decide)).trans ((us_ne _ _ (by decide)).trans ((us_ne _ _ (by decide)).trans ((us_ne _ _ (by decide)).trans (us_eq _ _ _)))))))))).trans ((us_ne _ _ (by decide)).trans ((us_ne _ _ (by decide)).trans ((us_ne _ _ (by decide)).trans ((us_ne _ _ (by decide)).trans ((us_ne _ _ (by decide)).trans ((us_ne _ _ (by decide)).trans ((us_ne _ _ (by decide)).trans ((us_ne _ _ (by decide)).trans (us_eq _ _ _))))))))).symm
                    by_cases h10_ : b_ = 142
                    · subst h10_; exact ((us_ne _ _ (by decide)).trans ((us_ne _ _ (by decide)).trans ((us_ne _ _ (by decide)).trans ((us_ne _ _ (by decide)).trans ((us_ne _ _ (by decide)).trans (us_eq _ _ _)))))).trans ((us_ne _ _ (by decide)).trans ((us_ne _ _ (by decide)).trans ((us_ne _ _ (by decide)).trans ((us_ne _ _ (by decide)).trans (us_eq _ _ _))))).symm
                    by_cases h11_ : b_ = 143
                    · subst h11_; exact ((us_ne _ _ (by decide)).trans ((us_ne _ _ (by decide)).trans ((us_ne _ _ (by decide)).trans ((us_ne _ _ (by decide)).trans (us_eq _ _ _))))).trans ((us_ne _ _ (by decide)).trans ((us_ne _ _ (by decide)).trans ((us_ne _ _ (by decide)).trans (us_eq _ _ _)))).symm
                    by_cases h12_ : b_ = 149
                    · subst h12_; exact ((us_ne _ _ (by decide)).trans ((us_ne _ _ (by decide)).trans ((us_ne _ _ (by decide)).trans ((us_ne _ _ (by decide)).trans ((us_ne _ _ (by decide)).trans ((us_ne _ _ (by decide)).trans (us_eq _ _ _))))))).trans (us_eq _ _ _).symm
                    simp only [us, h0_, h1_, h2_, h3_, h4_, h5_, h6_, h7_, h8_, h9_, h10_, h11_, h12_, if_false]
                  · exact fun x hx => ⟨(ha_p158 x hx).1.trans (ha_p138 x hx).1, (ha_p158 x hx).2.1.trans (ha_p138 x hx).2.1, (ha_p158 x hx).2.2.trans (ha_p138 x hx).2.2⟩
                  · rfl
                  · rfl
                · refine ld_aload_n O (pc := 130) 1 dX3_season_130 rfl rfl ?_
                  refine ld_iload O (pc := 131) 0 dX3_season_131 rfl ?_
                  refine ld_callVi O (pc := 133) (As := [.int (ld_rps h (fun z => σ 36 (60 * ld_ix k + (ld_ix i + z))) (ld_ix n))]) (st := []) ld_recv8 (c_X3_refused l ad (us σ 140 ff_p98) (ld_rps h (fun z => σ 36 (60 * ld_ix k + (ld_ix i + z))) (ld_ix n))) ld_mw_X3_refused ld_w131 rfl rfl ⟨by decide, by decide⟩ (Nat.le_of_ble_eq_true rfl) dX3_season_133 (fun r_p133 σ_p133 h_p133 => ?_)
                  obtain ⟨rfl, hσ_p133⟩ := h_p133
                  rw [hσ_p133]
                  show K (us (us σ 140 ff_p98) 140 (fun _ => nI 0)) [(6, .int (ld_rps h (fun z => σ 36 (60 * ld_ix k + (ld_ix i + z))) (ld_ix n))), (0, .ref (ad 8)), (1, .int (nI (ld_ix k))), (2, .int lane), (3, .int (nI (ld_ix i))), (4, .int (nI (ld_ix n))), (5, .int what)] [.int (ld_rps h (fun z => σ 36 (60 * ld_ix k + (ld_ix i + z))) (ld_ix n))] 136
                  refine ld_ireti E dX3_season_136 ?_
                  refine ⟨?_, fun _ => nI 0, σ 21, σ 22, σ 23, σ 27, σ 28, σ 29, σ 30, σ 142, σ 143, σ 147, σ 148, σ 149, ?_, ?_, ?_, ?_, ?_⟩
                  · unfold ld_fSe
                    try dsimp only
                    rw [if_pos (by omega), if_pos ⟨by omega, by omega, by omega⟩, if_pos (by omega), if_pos (show (ld_fa (σ 34 (ld_ix k)) (σ 35 (ld_ix k)) lane).toInt = 0 by rw [ld_fa00 h0a_ h0b_]; decide), if_neg (by omega), if_neg (by omega)]
                  · unfold ld_fSe
                    try dsimp only
                    rw [if_pos (by omega), if_pos ⟨by omega, by omega, by omega⟩, if_pos (by omega), if_pos (show (ld_fa (σ 34 (ld_ix k)) (σ 35 (ld_ix k)) lane).toInt = 0 by rw [ld_fa00 h0a_ h0b_]; decide), if_neg (by omega), if_neg (by omega)]
                  · funext b_
                    by_cases h0_ : b_ = 140
                    · subst h0_; exact (us_eq _ _ _).trans ((us_ne _ _ (by decide)).trans ((us_ne _ _ (by decide)).trans ((us_ne _ _ (by decide)).trans ((us_ne _ _ (by decide)).trans ((us_ne _ _ (by decide)).trans ((us_ne _ _ (by decide)).trans ((us_ne _ _ (by decide)).trans ((us_ne _ _ (by decide)).trans ((us_ne _ _ (by decide)).trans ((us_ne _ _ (by decide)).trans ((us_ne _ _ (by decide)).trans ((us_ne _ _ (by decide)).trans (us_eq _ _ _))))))))))))).symm
                    by_cases h1_ : b_ = 21
                    · subst h1_; exact ((us_ne _ _ (by decide)).trans (us_ne _ _ (by decide))).trans ((us_ne _ _ (by decide)).trans ((us_ne _ _ (by decide)).trans ((us_ne _ _ (by decide)).trans ((us_ne _ _ (by decide)).trans ((us_ne _ _ (by decide)).trans ((us_ne _ _ (by decide)).trans ((us_ne _ _ (by decide)).trans ((us_ne _ _ (by decide)).trans ((us_ne _ _ (by decide)).trans ((us_ne _ _ (by decide)).trans ((us_ne _ _ (by decide)).trans (us_eq _ _ _)))))))))))).symm
                    by_cases h2_ : b_ = 22
                    · subst h2_; exact ((us_ne _ _ (by decide)).trans (us_ne _ _ (by decide))).trans ((us_ne _ _ (by decide)).trans ((us_ne _ _ (by decide)).trans ((us_ne _ _ (by decide)).trans ((us_ne _ _ (by decide)).trans ((us_ne _ _ (by decide)).trans ((us_ne _ _ (by decide)).trans ((us_ne _ _ (by decide)).trans ((us_ne _ _ (by decide)).trans ((us_ne _ _ (by decide)).trans ((us_ne _ _ (by decide)).trans (us_eq _ _ _))))))))))).symm
                    by_cases h3_ : b_ = 23
                    · subst h3_; exact ((us_ne _ _ (by decide)).trans (us_ne _ _ (by decide))).trans ((us_ne _ _ (by decide)).trans ((us_ne _ _ (by decide)).trans ((us_ne _ _ (by decide)).trans ((us_ne _ _ (by decide)).trans ((us_ne _ _ (by decide)).trans ((us_ne _ _ (by decide)).trans ((us_ne _ _ (by decide)).trans ((us_ne _ _ (by decide)).trans ((us_ne _ _ (by decide)).trans (us_eq _ _ _)))))))))).symm
                    by_cases h4_ : b_ = 27
                    · subst h4_; exact ((us_ne _ _ (by decide)).trans (us_ne _ _ (by decide))).trans ((us_ne _ _ (by decide)).trans ((us_ne _ _ (by decide)).trans ((us_ne _ _ (by decide)).trans ((us_ne _ _ (by decide)).trans ((us_ne _ _ (by decide)).trans ((us_ne _ _ (by decide)).trans ((us_ne _ _ (by decide)).trans ((us_ne _ _ (by decide)).trans (us_eq _ _ _))))))))).symm
                    by_cases h5_ : b_ = 28
                    · subst h5_; exact ((us_ne _ _ (by decide)).trans (us_ne _ _ (by decide))).trans ((us_ne _ _ (by decide)).trans ((us_ne _ _ (by decide)).trans ((us_ne _ _ (by decide)).trans ((us_ne _ _ (by decide)).trans ((us_ne _ _ (by decide)).trans ((us_ne _ _ (by decide)).trans ((us_ne _ _ (by decide)).trans (us_eq _ _ _)))))))).symm
                    by_cases h6_ : b_ = 29
                    · subst h6_; exact ((us_ne _ _ (by decide)).trans (us_ne _ _ (by decide))).trans ((us_ne _ _ (by decide)).trans ((us_ne _ _ (by decide)).trans ((us_ne _ _ (by decide)).trans ((us_ne _ _ (by decide)).trans ((us_ne _ _ (by decide)).trans ((us_ne _ _ (by decide)).trans (us_eq _ _ _))))))).symm
                    by_cases h7_ : b_ = 30
                    · subst h7_; exact ((us_ne _ _ (by decide)).trans (us_ne _ _ (by decide))).trans ((us_ne _ _ (by decide)).trans ((us_ne _ _ (by decide)).trans ((us_ne _ _ (by decide)).trans ((us_ne _ _ (by decide)).trans ((us_ne _ _ (by decide)).trans (us_eq _ _ _)))))).symm
                    by_cases h8_ : b_ = 142
                    · subst h8_; exact ((us_ne _ _ (by decide)).trans (us_ne _ _ (by decide))).trans ((us_ne _ _ (by decide)).trans ((us_ne _ _ (by decide)).trans ((us_ne _ _ (by decide)).trans ((us_ne _ _ (by decide)).trans (us_eq _ _ _))))).symm
                    by_cases h9_ : b_ = 143
                    · subst h9_; exact ((us_ne _ _ (by decide)).trans (us_ne _ _ (by decide))).trans ((us_ne _ _ (by decide)).trans ((us_ne _ _ (by decide)).trans ((us_ne _ _ (by decide)).trans (us_eq _ _ _)))).symm
                    by_cases h10_ : b_ = 147
                    · subst h10_; exact ((us_ne _ _ (by decide)).trans (us_ne _ _ (by decide))).trans ((us_ne _ _ (by decide)).trans ((us_ne _ _ (by decide)).trans (us_eq _ _ _))).symm
                    by_cases h11_ : b_ = 148
                    · subst h11_; exact ((us_ne _ _ (by decide)).trans (us_ne _ _ (by decide))).trans ((us_ne _ _ (by decide)).trans (us_eq _ _ _)).symm
                    by_cases h12_ : b_ = 149
                    · subst h12_; exact ((us_ne _ _ (by decide)).trans (us_ne _ _ (by decide))).trans (us_eq _ _ _).symm
                    simp only [us, h0_, h1_, h2_, h3_, h4_, h5_, h6_, h7_, h8_, h9_, h10_, h11_, h12_, if_false]
                  · exact fun _ _ => ⟨rfl, rfl, rfl⟩
                  · rfl
                  · rfl
              · refine ld_iload O (pc := 108) 0 dX3_season_108 rfl ?_
                refine ld_ireti E dX3_season_110 ?_
                refine ⟨?_, ff_p98, σ 21, σ 22, σ 23, σ 27, σ 28, σ 29, σ 30, σ 142, σ 143, σ 147, σ 148, σ 149, ?_, ?_, ?_, ?_, ?_⟩
                · have hn_ : ¬ (ld_cb (σ 34 (ld_ix k)) (σ 35 (ld_ix k)) lane i (2 * n.toInt)).toInt = 0 := fun z => absurd (hcz_.mpr z) (by omega)
                  unfold ld_fSe
                  rw [if_pos (by omega), if_pos ⟨by omega, by omega, by omega⟩, if_pos (by omega)]
                  exact congrArg Prod.fst (ld_cbn2 hn_ (by omega) _)
                · have hn_ : ¬ (ld_cb (σ 34 (ld_ix k)) (σ 35 (ld_ix k)) lane i (2 * n.toInt)).toInt = 0 := fun z => absurd (hcz_.mpr z) (by omega)
                  rw [hff_p98, if_neg hn_]
                  unfold ld_fSe
                  rw [if_pos (by omega), if_pos ⟨by omega, by omega, by omega⟩, if_pos (by omega)]
                  exact congrArg Prod.snd (ld_cbn2 hn_ (by omega) _)
                · funext b_
                  by_cases h0_ : b_ = 140
                  · subst h0_; exact (us_eq _ _ _).trans ((us_ne _ _ (by decide)).trans ((us_ne _ _ (by decide)).trans ((us_ne _ _ (by decide)).trans ((us_ne _ _ (by decide)).trans ((us_ne _ _ (by decide)).trans ((us_ne _ _ (by decide)).trans ((us_ne _ _ (by decide)).trans ((us_ne _ _ (by decide)).trans ((us_ne _ _ (by decide)).trans ((us_ne _ _ (by decide)).trans ((us_ne _ _ (by decide)).trans ((us_ne _ _ (by decide)).trans (us_eq _ _ _))))))))))))).symm
                  by_cases h1_ : b_ = 21
                  · subst h1_; exact (us_ne _ _ (by decide)).trans ((us_ne _ _ (by decide)).trans ((us_ne _ _ (by decide)).trans ((us_ne _ _ (by decide)).trans ((us_ne _ _ (by decide)).trans ((us_ne _ _ (by decide)).trans ((us_ne _ _ (by decide)).trans ((us_ne _ _ (by decide)).trans ((us_ne _ _ (by decide)).trans ((us_ne _ _ (by decide)).trans ((us_ne _ _ (by decide)).trans ((us_ne _ _ (by decide)).trans (us_eq _ _ _)))))))))))).symm
                  by_cases h2_ : b_ = 22
                  · subst h2_; exact (us_ne _ _ (by decide)).trans ((us_ne _ _ (by decide)).trans ((us_ne _ _ (by decide)).trans ((us_ne _ _ (by decide)).trans ((us_ne _ _ (by decide)).trans ((us_ne _ _ (by decide)).trans ((us_ne _ _ (by decide)).trans ((us_ne _ _ (by decide)).trans ((us_ne _ _ (by decide)).trans ((us_ne _ _ (by decide)).trans ((us_ne _ _ (by decide)).trans (us_eq _ _ _))))))))))).symm
                  by_cases h3_ : b_ = 23
                  · subst h3_; exact (us_ne _ _ (by decide)).trans ((us_ne _ _ (by decide)).trans ((us_ne _ _ (by decide)).trans ((us_ne _ _ (by decide)).trans ((us_ne _ _ (by decide)).trans ((us_ne _ _ (by decide)).trans ((us_ne _ _ (by decide)).trans ((us_ne _ _ (by decide)).trans ((us_ne _ _ (by decide)).trans ((us_ne _ _ (by decide)).trans (us_eq _ _ _)))))))))).symm
                  by_cases h4_ : b_ = 27
                  · subst h4_; exact (us_ne _ _ (by decide)).trans ((us_ne _ _ (by decide)).trans ((us_ne _ _ (by decide)).trans ((us_ne _ _ (by decide)).trans ((us_ne _ _ (by decide)).trans ((us_ne _ _ (by decide)).trans ((us_ne _ _ (by decide)).trans ((us_ne _ _ (by decide)).trans ((us_ne _ _ (by decide)).trans (us_eq _ _ _))))))))).symm
                  by_cases h5_ : b_ = 28
                  · subst h5_; exact (us_ne _ _ (by decide)).trans ((us_ne _ _ (by decide)).trans ((us_ne _ _ (by decide)).trans ((us_ne _ _ (by decide)).trans ((us_ne _ _ (by decide)).trans ((us_ne _ _ (by decide)).trans ((us_ne _ _ (by decide)).trans ((us_ne _ _ (by decide)).trans (us_eq _ _ _)))))))).symm
                  by_cases h6_ : b_ = 29
                  · subst h6_; exact (us_ne _ _ (by decide)).trans ((us_ne _ _ (by decide)).trans ((us_ne _ _ (by decide)).trans ((us_ne _ _ (by decide)).trans ((us_ne _ _ (by decide)).trans ((us_ne _ _ (by decide)).trans ((us_ne _ _ (by decide)).trans (us_eq _ _ _))))))).symm
                  by_cases h7_ : b_ = 30
                  · subst h7_; exact (us_ne _ _ (by decide)).trans ((us_ne _ _ (by decide)).trans ((us_ne _ _ (by decide)).trans ((us_ne _ _ (by decide)).trans ((us_ne _ _ (by decide)).trans ((us_ne _ _ (by decide)).trans (us_eq _ _ _)))))).symm
                  by_cases h8_ : b_ = 142
                  · subst h8_; exact (us_ne _ _ (by decide)).trans ((us_ne _ _ (by decide)).trans ((us_ne _ _ (by decide)).trans ((us_ne _ _ (by decide)).trans ((us_ne _ _ (by decide)).trans (us_eq _ _ _))))).symm
                  by_cases h9_ : b_ = 143
                  · subst h9_; exact (us_ne _ _ (by decide)).trans ((us_ne _ _ (by decide)).trans ((us_ne _ _ (by decide)).trans ((us_ne _ _ (by decide)).trans (us_eq _ _ _)))).symm
                  by_cases h10_ : b_ = 147
                  · subst h10_; exact (us_ne _ _ (by decide)).trans ((us_ne _ _ (by decide)).trans ((us_ne _ _ (by decide)).trans (us_eq _ _ _))).symm
                  by_cases h11_ : b_ = 148
                  · subst h11_; exact (us_ne _ _ (by decide)).trans ((us_ne _ _ (by decide)).trans (us_eq _ _ _)).symm
                  by_cases h12_ : b_ = 149
                  · subst h12_; exact (us_ne _ _ (by decide)).trans (us_eq _ _ _).symm
                  simp only [us, h0_, h1_, h2_, h3_, h4_, h5_, h6_, h7_, h8_, h9_, h10_, h11_, h12_, if_false]
                · exact fun _ _ => ⟨rfl, rfl, rfl⟩
                · rfl
                · rfl
            · refine ld_aload_n O (pc := 80) 0 dX3_season_80 rfl rfl ?_
              refine ld_bipush O (pc := 81) (v := (-3 : Int32)) dX3_season_81 (by decide) ?_
              refine ld_callVi O (pc := 83) (As := [.int (-3 : Int32)]) (st := []) ld_recv8 (c_X3_refused l ad σ (-3 : Int32)) ld_mw_X3_refused ld_w131 rfl rfl ⟨by decide, by decide⟩ (Nat.le_of_ble_eq_true rfl) dX3_season_83 (fun r_p83 σ_p83 h_p83 => ?_)
              obtain ⟨rfl, hσ_p83⟩ := h_p83
              rw [hσ_p83]
              show K (us σ 140 (fun _ => nI 0)) [(0, .ref (ad 8)), (1, .int (nI (ld_ix k))), (2, .int lane), (3, .int i), (4, .int n), (5, .int what)] [.int (-3 : Int32)] 86
              refine ld_ireti E dX3_season_86 ?_
              refine ⟨?_, fun _ => nI 0, σ 21, σ 22, σ 23, σ 27, σ 28, σ 29, σ 30, σ 142, σ 143, σ 147, σ 148, σ 149, ?_, ?_, ?_, ?_, ?_⟩
              · unfold ld_fSe
                try dsimp only
                repeat' split
                all_goals first | (exfalso; omega) | rfl
              · unfold ld_fSe
                try dsimp only
                repeat' split
                all_goals first | (exfalso; omega) | rfl
              · funext b_
                by_cases h0_ : b_ = 140
                · subst h0_; exact (us_eq _ _ _).trans ((us_ne _ _ (by decide)).trans ((us_ne _ _ (by decide)).trans ((us_ne _ _ (by decide)).trans ((us_ne _ _ (by decide)).trans ((us_ne _ _ (by decide)).trans ((us_ne _ _ (by decide)).trans ((us_ne _ _ (by decide)).trans ((us_ne _ _ (by decide)).trans ((us_ne _ _ (by decide)).trans ((us_ne _ _ (by decide)).trans ((us_ne _ _ (by decide)).trans ((us_ne _ _ (by decide)).trans (us_eq _ _ _))))))))))))).symm
                by_cases h1_ : b_ = 21
                · subst h1_; exact (us_ne _ _ (by decide)).trans ((us_ne _ _ (by decide)).trans ((us_ne _ _ (by decide)).trans ((us_ne _ _ (by decide)).trans ((us_ne _ _ (by decide)).trans ((us_ne _ _ (by decide)).trans ((us_ne _ _ (by decide)).trans ((us_ne _ _ (by decide)).trans ((us_ne _ _ (by decide)).trans ((us_ne _ _ (by decide)).trans ((us_ne _ _ (by decide)).trans ((us_ne _ _ (by decide)).trans (us_eq _ _ _)))))))))))).symm
                by_cases h2_ : b_ = 22
                · subst h2_; exact (us_ne _ _ (by decide)).trans ((us_ne _ _ (by decide)).trans ((us_ne _ _ (by decide)).trans ((us_ne _ _ (by decide)).trans ((us_ne _ _ (by decide)).trans ((us_ne _ _ (by decide)).trans ((us_ne _ _ (by decide)).trans ((us_ne _ _ (by decide)).trans ((us_ne _ _ (by decide)).trans ((us_ne _ _ (by decide)).trans ((us_ne _ _ (by decide)).trans (us_eq _ _ _))))))))))).symm
                by_cases h3_ : b_ = 23
                · subst h3_; exact (us_ne _ _ (by decide)).trans ((us_ne _ _ (by decide)).trans ((us_ne _ _ (by decide)).trans ((us_ne _ _ (by decide)).trans ((us_ne _ _ (by decide)).trans ((us_ne _ _ (by decide)).trans ((us_ne _ _ (by decide)).trans ((us_ne _ _ (by decide)).trans ((us_ne _ _ (by decide)).trans ((us_ne _ _ (by decide)).trans (us_eq _ _ _)))))))))).symm
                by_cases h4_ : b_ = 27
                · subst h4_; exact (us_ne _ _ (by decide)).trans ((us_ne _ _ (by decide)).trans ((us_ne _ _ (by decide)).trans ((us_ne _ _ (by decide)).trans ((us_ne _ _ (by decide)).trans ((us_ne _ _ (by decide)).trans ((us_ne _ _ (by decide)).trans ((us_ne _ _ (by decide)).trans ((us_ne _ _ (by decide)).trans (us_eq _ _ _))))))))).symm
                by_cases h5_ : b_ = 28
                · subst h5_; exact (us_ne _ _ (by decide)).trans ((us_ne _ _ (by decide)).trans ((us_ne _ _ (by decide)).trans ((us_ne _ _ (by decide)).trans ((us_ne _ _ (by decide)).trans ((us_ne _ _ (by decide)).trans ((us_ne _ _ (by decide)).trans ((us_ne _ _ (by decide)).trans (us_eq _ _ _)))))))).symm
                by_cases h6_ : b_ = 29
                · subst h6_; exact (us_ne _ _ (by decide)).trans ((us_ne _ _ (by decide)).trans ((us_ne _ _ (by decide)).trans ((us_ne _ _ (by decide)).trans ((us_ne _ _ (by decide)).trans ((us_ne _ _ (by decide)).trans ((us_ne _ _ (by decide)).trans (us_eq _ _ _))))))).symm
                by_cases h7_ : b_ = 30
                · subst h7_; exact (us_ne _ _ (by decide)).trans ((us_ne _ _ (by decide)).trans ((us_ne _ _ (by decide)).trans ((us_ne _ _ (by decide)).trans ((us_ne _ _ (by decide)).trans ((us_ne _ _ (by decide)).trans (us_eq _ _ _)))))).symm
                by_cases h8_ : b_ = 142
                · subst h8_; exact (us_ne _ _ (by decide)).trans ((us_ne _ _ (by decide)).trans ((us_ne _ _ (by decide)).trans ((us_ne _ _ (by decide)).trans ((us_ne _ _ (by decide)).trans (us_eq _ _ _))))).symm
                by_cases h9_ : b_ = 143
                · subst h9_; exact (us_ne _ _ (by decide)).trans ((us_ne _ _ (by decide)).trans ((us_ne _ _ (by decide)).trans ((us_ne _ _ (by decide)).trans (us_eq _ _ _)))).symm
                by_cases h10_ : b_ = 147
                · subst h10_; exact (us_ne _ _ (by decide)).trans ((us_ne _ _ (by decide)).trans ((us_ne _ _ (by decide)).trans (us_eq _ _ _))).symm
                by_cases h11_ : b_ = 148
                · subst h11_; exact (us_ne _ _ (by decide)).trans ((us_ne _ _ (by decide)).trans (us_eq _ _ _)).symm
                by_cases h12_ : b_ = 149
                · subst h12_; exact (us_ne _ _ (by decide)).trans (us_eq _ _ _).symm
                simp only [us, h0_, h1_, h2_, h3_, h4_, h5_, h6_, h7_, h8_, h9_, h10_, h11_, h12_, if_false]
              · exact fun _ _ => ⟨rfl, rfl, rfl⟩
              · rfl
              · rfl
          · refine ld_aload_n O (pc := 66) 0 dX3_season_66 rfl rfl ?_
            refine ld_bipush O (pc := 67) (v := (-2 : Int32)) dX3_season_67 (by decide) ?_
            refine ld_callVi O (pc := 69) (As := [.int (-2 : Int32)]) (st := []) ld_recv8 (c_X3_refused l ad σ (-2 : Int32)) ld_mw_X3_refused ld_w131 rfl rfl ⟨by decide, by decide⟩ (Nat.le_of_ble_eq_true rfl) dX3_season_69 (fun r_p69 σ_p69 h_p69 => ?_)
            obtain ⟨rfl, hσ_p69⟩ := h_p69
            rw [hσ_p69]
            show K (us σ 140 (fun _ => nI 0)) [(0, .ref (ad 8)), (1, .int (nI (ld_ix k))), (2, .int lane), (3, .int i), (4, .int n), (5, .int what)] [.int (-2 : Int32)] 72
            refine ld_ireti E dX3_season_72 ?_
            refine ⟨?_, fun _ => nI 0, σ 21, σ 22, σ 23, σ 27, σ 28, σ 29, σ 30, σ 142, σ 143, σ 147, σ 148, σ 149, ?_, ?_, ?_, ?_, ?_⟩
            · unfold ld_fSe
              try dsimp only
              repeat' split
              all_goals first | (exfalso; omega) | rfl
            · unfold ld_fSe
              try dsimp only
              repeat' split
              all_goals first | (exfalso; omega) | rfl
            · funext b_
              by_cases h0_ : b_ = 140
              · subst h0_; exact (us_eq _ _ _).trans ((us_ne _ _ (by decide)).trans ((us_ne _ _ (by decide)).trans ((us_ne _ _ (by decide)).trans ((us_ne _ _ (by decide)).trans ((us_ne _ _ (by decide)).trans ((us_ne _ _ (by decide)).trans ((us_ne _ _ (by decide)).trans ((us_ne _ _ (by decide)).trans ((us_ne _ _ (by decide)).trans ((us_ne _ _ (by decide)).trans ((us_ne _ _ (by decide)).trans ((us_ne _ _ (by decide)).trans (us_eq _ _ _))))))))))))).symm
              by_cases h1_ : b_ = 21
              · subst h1_; exact (us_ne _ _ (by decide)).trans ((us_ne _ _ (by decide)).trans ((us_ne _ _ (by decide)).trans ((us_ne _ _ (by decide)).trans ((us_ne _ _ (by decide)).trans ((us_ne _ _ (by decide)).trans ((us_ne _ _ (by decide)).trans ((us_ne _ _ (by decide)).trans ((us_ne _ _ (by decide)).trans ((us_ne _ _ (by decide)).trans ((us_ne _ _ (by decide)).trans ((us_ne _ _ (by decide)).trans (us_eq _ _ _)))))))))))).symm
              by_cases h2_ : b_ = 22
              · subst h2_; exact (us_ne _ _ (by decide)).trans ((us_ne _ _ (by decide)).trans ((us_ne _ _ (by decide)).trans ((us_ne _ _ (by decide)).trans ((us_ne _ _ (by decide)).trans ((us_ne _ _ (by decide)).trans ((us_ne _ _ (by decide)).trans ((us_ne _ _ (by decide)).trans ((us_ne _ _ (by decide)).trans ((us_ne _ _ (by decide)).trans ((us_ne _ _ (by decide)).trans (us_eq _ _ _))))))))))).symm
              by_cases h3_ : b_ = 23
              · subst h3_; exact (us_ne _ _ (by decide)).trans ((us_ne _ _ (by decide)).trans ((us_ne _ _ (by decide)).trans ((us_ne _ _ (by decide)).trans ((us_ne _ _ (by decide)).trans ((us_ne _ _ (by decide)).trans ((us_ne _ _ (by decide)).trans ((us_ne _ _ (by decide)).trans ((us_ne _ _ (by decide)).trans ((us_ne _ _ (by decide)).trans (us_eq _ _ _)))))))))).symm
              by_cases h4_ : b_ = 27
              · subst h4_; exact (us_ne _ _ (by decide)).trans ((us_ne _ _ (by decide)).trans ((us_ne _ _ (by decide)).trans ((us_ne _ _ (by decide)).trans ((us_ne _ _ (by decide)).trans ((us_ne _ _ (by decide)).trans ((us_ne _ _ (by decide)).trans ((us_ne _ _ (by decide)).trans ((us_ne _ _ (by decide)).trans (us_eq _ _ _))))))))).symm
              by_cases h5_ : b_ = 28
              · subst h5_; exact (us_ne _ _ (by decide)).trans ((us_ne _ _ (by decide)).trans ((us_ne _ _ (by decide)).trans ((us_ne _ _ (by decide)).trans ((us_ne _ _ (by decide)).trans ((us_ne _ _ (by decide)).trans ((us_ne _ _ (by decide)).trans ((us_ne _ _ (by decide)).trans (us_eq _ _ _)))))))).symm
              by_cases h6_ : b_ = 29
              · subst h6_; exact (us_ne _ _ (by decide)).trans ((us_ne _ _ (by decide)).trans ((us_ne _ _ (by decide)).trans ((us_ne _ _ (by decide)).trans ((us_ne _ _ (by decide)).trans ((us_ne _ _ (by decide)).trans ((us_ne _ _ (by decide)).trans (us_eq _ _ _))))))).symm
              by_cases h7_ : b_ = 30
              · subst h7_; exact (us_ne _ _ (by decide)).trans ((us_ne _ _ (by decide)).trans ((us_ne _ _ (by decide)).trans ((us_ne _ _ (by decide)).trans ((us_ne _ _ (by decide)).trans ((us_ne _ _ (by decide)).trans (us_eq _ _ _)))))).symm
              by_cases h8_ : b_ = 142
              · subst h8_; exact (us_ne _ _ (by decide)).trans ((us_ne _ _ (by decide)).trans ((us_ne _ _ (by decide)).trans ((us_ne _ _ (by decide)).trans ((us_ne _ _ (by decide)).trans (us_eq _ _ _))))).symm
              by_cases h9_ : b_ = 143
              · subst h9_; exact (us_ne _ _ (by decide)).trans ((us_ne _ _ (by decide)).trans ((us_ne _ _ (by decide)).trans ((us_ne _ _ (by decide)).trans (us_eq _ _ _)))).symm
              by_cases h10_ : b_ = 147
              · subst h10_; exact (us_ne _ _ (by decide)).trans ((us_ne _ _ (by decide)).trans ((us_ne _ _ (by decide)).trans (us_eq _ _ _))).symm
              by_cases h11_ : b_ = 148
              · subst h11_; exact (us_ne _ _ (by decide)).trans ((us_ne _ _ (by decide)).trans (us_eq _ _ _)).symm
              by_cases h12_ : b_ = 149
              · subst h12_; exact (us_ne _ _ (by decide)).trans (us_eq _ _ _).symm
              simp only [us, h0_, h1_, h2_, h3_, h4_, h5_, h6_, h7_, h8_, h9_, h10_, h11_, h12_, if_false]
            · exact fun _ _ => ⟨rfl, rfl, rfl⟩
            · rfl
            · rfl
  · refine ld_aload_n O (pc := 7) 0 dX3_season_7 rfl rfl ?_
    refine ld_iconst O (pc := 8) (v := (-1 : Int32)) dX3_season_8 (by decide) ?_
    refine ld_callVi O (pc := 9) (As := [.int (-1 : Int32)]) (st := []) ld_recv8 (c_X3_refused l ad σ (-1 : Int32)) ld_mw_X3_refused ld_w131 rfl rfl ⟨by decide, by decide⟩ (Nat.le_of_ble_eq_true rfl) dX3_season_9 (fun r_p9 σ_p9 h_p9 => ?_)
    obtain ⟨rfl, hσ_p9⟩ := h_p9
    rw [hσ_p9]
    show K (us σ 140 (fun _ => nI 0)) [(0, .ref (ad 8)), (1, .int k), (2, .int lane), (3, .int i), (4, .int n), (5, .int what)] [.int (-1 : Int32)] 12
    refine ld_ireti E dX3_season_12 ?_
    refine ⟨?_, fun _ => nI 0, σ 21, σ 22, σ 23, σ 27, σ 28, σ 29, σ 30, σ 142, σ 143, σ 147, σ 148, σ 149, ?_, ?_, ?_, ?_, ?_⟩
    · unfold ld_fSe
      try dsimp only
      repeat' split
      all_goals first | (exfalso; omega) | rfl
    · unfold ld_fSe
      try dsimp only
      repeat' split
      all_goals first | (exfalso; omega) | rfl
    · funext b_
      by_cases h0_ : b_ = 140
      · subst h0_; exact (us_eq _ _ _).trans ((us_ne _ _ (by decide)).trans ((us_ne _ _ (by decide)).trans ((us_ne _ _ (by decide)).trans ((us_ne _ _ (by decide)).trans ((us_ne _ _ (by decide)).trans ((us_ne _ _ (by decide)).trans ((us_ne _ _ (by decide)).trans ((us_ne _ _ (by decide)).trans ((us_ne _ _ (by decide)).trans ((us_ne _ _ (by decide)).trans ((us_ne _ _ (by decide)).trans ((us_ne _ _ (by decide)).trans (us_eq _ _ _))))))))))))).symm
      by_cases h1_ : b_ = 21
      · subst h1_; exact (us_ne _ _ (by decide)).trans ((us_ne _ _ (by decide)).trans ((us_ne _ _ (by decide)).trans ((us_ne _ _ (by decide)).trans ((us_ne _ _ (by decide)).trans ((us_ne _ _ (by decide)).trans ((us_ne _ _ (by decide)).trans ((us_ne _ _ (by decide)).trans ((us_ne _ _ (by decide)).trans ((us_ne _ _ (by decide)).trans ((us_ne _ _ (by decide)).trans ((us_ne _ _ (by decide)).trans (us_eq _ _ _)))))))))))).symm
      by_cases h2_ : b_ = 22
      · subst h2_; exact (us_ne _ _ (by decide)).trans ((us_ne _ _ (by decide)).trans ((us_ne _ _ (by decide)).trans ((us_ne _ _ (by decide)).trans ((us_ne _ _ (by decide)).trans ((us_ne _ _ (by decide)).trans ((us_ne _ _ (by decide)).trans ((us_ne _ _ (by decide)).trans ((us_ne _ _ (by decide)).trans ((us_ne _ _ (by decide)).trans ((us_ne _ _ (by decide)).trans (us_eq _ _ _))))))))))).symm
      by_cases h3_ : b_ = 23
      · subst h3_; exact (us_ne _ _ (by decide)).trans ((us_ne _ _ (by decide)).trans ((us_ne _ _ (by decide)).trans ((us_ne _ _ (by decide)).trans ((us_ne _ _ (by decide)).trans ((us_ne _ _ (by decide)).trans ((us_ne _ _ (by decide)).trans ((us_ne _ _ (by decide)).trans ((us_ne _ _ (by decide)).trans ((us_ne _ _ (by decide)).trans (us_eq _ _ _)))))))))).symm
      by_cases h4_ : b_ = 27
      · subst h4_; exact (us_ne _ _ (by decide)).trans ((us_ne _ _ (by decide)).trans ((us_ne _ _ (by decide)).trans ((us_ne _ _ (by decide)).trans ((us_ne _ _ (by decide)).trans ((us_ne _ _ (by decide)).trans ((us_ne _ _ (by decide)).trans ((us_ne _ _ (by decide)).trans ((us_ne _ _ (by decide)).trans (us_eq _ _ _))))))))).symm
      by_cases h5_ : b_ = 28
      · subst h5_; exact (us_ne _ _ (by decide)).trans ((us_ne _ _ (by decide)).trans ((us_ne _ _ (by decide)).trans ((us_ne _ _ (by decide)).trans ((us_ne _ _ (by decide)).trans ((us_ne _ _ (by decide)).trans ((us_ne _ _ (by decide)).trans ((us_ne _ _ (by decide)).trans (us_eq _ _ _)))))))).symm
      by_cases h6_ : b_ = 29
      · subst h6_; exact (us_ne _ _ (by decide)).trans ((us_ne _ _ (by decide)).trans ((us_ne _ _ (by decide)).trans ((us_ne _ _ (by decide)).trans ((us_ne _ _ (by decide)).trans ((us_ne _ _ (by decide)).trans ((us_ne _ _ (by decide)).trans (us_eq _ _ _))))))).symm
      by_cases h7_ : b_ = 30
      · subst h7_; exact (us_ne _ _ (by decide)).trans ((us_ne _ _ (by decide)).trans ((us_ne _ _ (by decide)).trans ((us_ne _ _ (by decide)).trans ((us_ne _ _ (by decide)).trans ((us_ne _ _ (by decide)).trans (us_eq _ _ _)))))).symm
      by_cases h8_ : b_ = 142
      · subst h8_; exact (us_ne _ _ (by decide)).trans ((us_ne _ _ (by decide)).trans ((us_ne _ _ (by decide)).trans ((us_ne _ _ (by decide)).trans ((us_ne _ _ (by decide)).trans (us_eq _ _ _))))).symm
      by_cases h9_ : b_ = 143
      · subst h9_; exact (us_ne _ _ (by decide)).trans ((us_ne _ _ (by decide)).trans ((us_ne _ _ (by decide)).trans ((us_ne _ _ (by decide)).trans (us_eq _ _ _)))).symm
      by_cases h10_ : b_ = 147
      · subst h10_; exact (us_ne _ _ (by decide)).trans ((us_ne _ _ (by decide)).trans ((us_ne _ _ (by decide)).trans (us_eq _ _ _))).symm
      by_cases h11_ : b_ = 148
      · subst h11_; exact (us_ne _ _ (by decide)).trans ((us_ne _ _ (by decide)).trans (us_eq _ _ _)).symm
      by_cases h12_ : b_ = 149
      · subst h12_; exact (us_ne _ _ (by decide)).trans (us_eq _ _ _).symm
      simp only [us, h0_, h1_, h2_, h3_, h4_, h5_, h6_, h7_, h8_, h9_, h10_, h11_, h12_, if_false]
    · exact fun _ _ => ⟨rfl, rfl, rfl⟩
    · rfl
    · rfl
