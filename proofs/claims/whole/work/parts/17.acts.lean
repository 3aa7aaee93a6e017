theorem ld_act1 {h : Nat} {kd : Nat → Int32} {a act : Int32} {Q : ld_Se} (e : act.toInt = 1) (g : 0 < (Q.2.1.2.1 (ld_ix a)).toInt) : ld_act h kd a act Q = some (Q.1, (Q.2.1.1, ld_gv h Q.2.1.2.1 (ld_ix a), Q.2.1.2.2), Q.2.2) := by unfold ld_act; rw [if_pos e, if_pos g]
theorem ld_act1n {h : Nat} {kd : Nat → Int32} {a act : Int32} {Q : ld_Se} (e : act.toInt = 1) (g : ¬ 0 < (Q.2.1.2.1 (ld_ix a)).toInt) : ld_act h kd a act Q = none := by unfold ld_act; rw [if_pos e, if_neg g]
theorem ld_act2 {h : Nat} {kd : Nat → Int32} {a act : Int32} {Q : ld_Se} (e1 : ¬ act.toInt = 1) (e : act.toInt = 2) : ld_act h kd a act Q = some (a, Q.2.1, Q.2.2) := by unfold ld_act; rw [if_neg e1, if_pos e]
theorem ld_act0 {h : Nat} {kd : Nat → Int32} {a act : Int32} {Q : ld_Se} (e1 : ¬ act.toInt = 1) (e : ¬ act.toInt = 2) : ld_act h kd a act Q = some (Q.1, ld_wks h Q.1 kd Q.2.1 (ld_ix a), Q.2.2 + nI (ld_lw h Q.1 kd Q.2.1 (ld_ix a))) := by unfold ld_act; rw [if_neg e1, if_neg e]
theorem ld_nno {α : Type} {o : Option α} {a : α} (h : o = some a) : ¬ o = none := fun z => by rw [h] at z; cases z
theorem ld_seq.tr {h : Nat} {Q U Z : ld_Se} (a : ld_seq h Q U) (b : ld_seq h U Z) : ld_seq h Q Z := ⟨a.1.trans b.1, a.2.1.tr b.2.1, a.2.2.trans b.2.2⟩
theorem ld_seq.rf {h : Nat} {Q : ld_Se} : ld_seq h Q Q := ⟨rfl, ld_eqv.rf, rfl⟩
set_option maxHeartbeats 4000000 in
set_option maxRecDepth 100000 in
theorem c_X2_actPair (l : Launch) (ad : Nat → Nat) (σ : ld_St) (h : Nat) (hh2 : σ 120 0 = nI h) (h8 : h ≤ 8) (a act : Int32) (hok : (ld_rp h a act).toInt = 0) : ld_Ctr l yX2_actPair cX2_actPair 3 (some .boolean) (4, 90) [.ref (ad 0), .int a, .int act] ad σ (ld_I (fun (r : Int32) (σ2 : ld_St) => ∃ ft fs fp f4 f5 f6 fc fw fl : Nat → Int32, σ2 = us (us (us (us (us (us (us (us (us σ 8 ft) 9 fs) 10 fp) 11 f4) 12 f5) 13 f6) 121 fc) 122 fw) 123 fl ∧ r = ld_b (¬ ld_act h (σ 7) a act (σ 121 0, (σ 8, σ 9, σ 10), σ 123 0) = none) ∧ ∀ Q2, ld_act h (σ 7) a act (σ 121 0, (σ 8, σ 9, σ 10), σ 123 0) = some Q2 → ld_seq h (fc 0, (ft, fs, fp), fl 0) Q2)) := by
  refine ld_entry (by decide +kernel) (Nat.le_of_ble_eq_true rfl) (fun K O E => ?_)
  have O : ld_Ok l K ad cX2_actPair 3 RX2 (ld_rm (4, 90)) := O
  show K σ [(0, .ref (ad 0)), (1, .int a), (2, .int act)] [] 0
  refine ld_iload_n O (pc := 0) 2 dX2_actPair_0 rfl rfl ?_
  refine ld_iconst O (pc := 1) (v := nI 1) dX2_actPair_1 (by decide) ?_
  refine ld_icmp_ne O (pc := 2) (act).toInt 1 rfl (by decide) 14 dX2_actPair_2 (by decide) (fun c1 => ?_) (fun c1 => ?_)
  · refine ld_iload_n O (pc := 14) 2 dX2_actPair_14 rfl rfl ?_
    refine ld_iconst O (pc := 15) (v := nI 2) dX2_actPair_15 (by decide) ?_
    refine ld_icmp_ne O (pc := 16) (act).toInt 2 rfl (by decide) 30 dX2_actPair_16 (by decide) (fun c2 => ?_) (fun c2 => ?_)
    · refine ld_aload_n O (pc := 30) 0 dX2_actPair_30 rfl rfl ?_
      refine ld_g_LD_trial O (pc := 31) ld_w16 dX2_actPair_31 ?_
      refine ld_iload_n O (pc := 34) 1 dX2_actPair_34 rfl rfl ?_
      have ok_ := ld_rp_ok hok
      obtain ⟨ek_, hk_, ik_⟩ := ld_ofIx (k := a) (h := 10) (by omega)
      rw [ek_]
      refine ld_callVNv O (pc := 35) (As := [.int (nI (ld_ix a))]) (st := []) ld_recv2 (c_X1_passWeeks_1 l ad σ h hh2 h8 (ld_ix a) (by omega)) ld_mw_X1_passWeeks (List.mem_of_getElem? (i := 21) rfl) rfl rfl ⟨by decide, by decide⟩ (Nat.le_of_ble_eq_true rfl) dX2_actPair_35 (fun σ_p35 h_p35 => ?_)
      obtain ⟨ft_p35, fs_p35, fp_p35, f4_p35, f5_p35, f6_p35, fw_p35, fl_p35, hσ_p35, he_p35, hw_p35, hl_p35⟩ := h_p35
      rw [hσ_p35]
      have he_p35 : ld_eqv h (ft_p35, fs_p35, fp_p35) (ld_wks h (σ 121 0) (σ 7) (σ 8, σ 9, σ 10) (ld_ix a)) := he_p35
      have hw_p35 : fw_p35 0 = (σ 122 0) + nI (ld_ix a) := hw_p35
      have hl_p35 : fl_p35 0 = (σ 123 0) + nI (ld_lw h (σ 121 0) (σ 7) (σ 8, σ 9, σ 10) (ld_ix a)) := hl_p35
      show K (us (us (us (us (us (us (us (us σ 8 ft_p35) 9 fs_p35) 10 fp_p35) 11 f4_p35) 12 f5_p35) 13 f6_p35) 122 fw_p35) 123 fl_p35) [(0, .ref (ad 0)), (1, .int (nI (ld_ix a))), (2, .int act)] [] 38
      refine ld_iconst O (pc := 38) (v := nI 1) dX2_actPair_38 (by decide) ?_
      refine ld_iretz E (Or.inr rfl) dX2_actPair_39 ?_
      refine ⟨ft_p35, fs_p35, fp_p35, f4_p35, f5_p35, f6_p35, σ 121, fw_p35, fl_p35, ?_, (ld_b_t (ld_nno (ld_act0 c1 c2))).symm, ?_⟩
      · funext b_
        by_cases h0_ : b_ = 8
        · subst h0_; first | rfl | (simp (disch := omega) only [us_ne, us_eq]; done)
        by_cases h1_ : b_ = 9
        · subst h1_; first | rfl | (simp (disch := omega) only [us_ne, us_eq]; done)
        by_cases h2_ : b_ = 10
        · subst h2_; first | rfl | (simp (disch := omega) only [us_ne, us_eq]; done)
        by_cases h3_ : b_ = 11
        · subst h3_; first | rfl | (simp (disch := omega) only [us_ne, us_eq]; done)
        by_cases h4_ : b_ = 12
        · subst h4_; first | rfl | (simp (disch := omega) only [us_ne, us_eq]; done)
        by_cases h5_ : b_ = 13
        · subst h5_; first | rfl | (simp (disch := omega) only [us_ne, us_eq]; done)
        by_cases h6_ : b_ = 122
        · subst h6_; first | rfl | (simp (disch := omega) only [us_ne, us_eq]; done)
        by_cases h7_ : b_ = 123
        · subst h7_; first | rfl | (simp (disch := omega) only [us_ne, us_eq]; done)
        by_cases h8_ : b_ = 121
        · subst h8_; first | rfl | (simp (disch := omega) only [us_ne, us_eq]; done)
        simp only [us, h0_, h1_, h2_, h3_, h4_, h5_, h6_, h7_, h8_, if_false]
      · intro Q2 hQ
        rw [ld_act0 c1 c2] at hQ; cases hQ; exact ⟨rfl, he_p35, hl_p35⟩
    · refine ld_aload_n O (pc := 19) 0 dX2_actPair_19 rfl rfl ?_
      refine ld_g_LD_trial O (pc := 20) ld_w16 dX2_actPair_20 ?_
      refine ld_iload_n O (pc := 23) 1 dX2_actPair_23 rfl rfl ?_
      refine ld_p_trial_crateN O (pc := 24) (List.mem_of_getElem? (i := 2) rfl) dX2_actPair_24 ?_
      refine ld_goto O (pc := 27) 38 dX2_actPair_27 (by decide) ?_
      refine ld_iconst O (pc := 38) (v := nI 1) dX2_actPair_38 (by decide) ?_
      refine ld_iretz E (Or.inr rfl) dX2_actPair_39 ?_
      refine ⟨σ 8, σ 9, σ 10, σ 11, σ 12, σ 13, fun _ => a, σ 122, σ 123, ?_, (ld_b_t (ld_nno (ld_act2 c1 c2))).symm, ?_⟩
      · funext b_
        by_cases h0_ : b_ = 121
        · subst h0_; first | rfl | (simp (disch := omega) only [us_ne, us_eq]; done)
        by_cases h1_ : b_ = 9
        · subst h1_; first | rfl | (simp (disch := omega) only [us_ne, us_eq]; done)
        by_cases h2_ : b_ = 10
        · subst h2_; first | rfl | (simp (disch := omega) only [us_ne, us_eq]; done)
        by_cases h3_ : b_ = 11
        · subst h3_; first | rfl | (simp (disch := omega) only [us_ne, us_eq]; done)
        by_cases h4_ : b_ = 12
        · subst h4_; first | rfl | (simp (disch := omega) only [us_ne, us_eq]; done)
        by_cases h5_ : b_ = 13
        · subst h5_; first | rfl | (simp (disch := omega) only [us_ne, us_eq]; done)
        by_cases h6_ : b_ = 122
        · subst h6_; first | rfl | (simp (disch := omega) only [us_ne, us_eq]; done)
        by_cases h7_ : b_ = 123
        · subst h7_; first | rfl | (simp (disch := omega) only [us_ne, us_eq]; done)
        by_cases h8_ : b_ = 8
        · subst h8_; first | rfl | (simp (disch := omega) only [us_ne, us_eq]; done)
        simp only [us, h0_, h1_, h2_, h3_, h4_, h5_, h6_, h7_, h8_, if_false]
      · intro Q2 hQ
        rw [ld_act2 c1 c2] at hQ; cases hQ; exact ld_seq.rf
  · refine ld_aload_n O (pc := 5) 0 dX2_actPair_5 rfl rfl ?_
    refine ld_g_LD_trial O (pc := 6) ld_w16 dX2_actPair_6 ?_
    refine ld_iload_n O (pc := 9) 1 dX2_actPair_9 rfl rfl ?_
    have ok_ := ld_rp_ok hok
    obtain ⟨ek_, hk_, ik_⟩ := ld_ofIx (k := a) (h := h) (by omega)
    rw [ek_]
    refine ld_callVNi O (pc := 10) (As := [.int (nI (ld_ix a))]) (st := []) ld_recv2 (c_X1_give_1 l ad σ h hh2 h8 (ld_ix a) (by omega)) ld_mw_X1_giveOneFrom (List.mem_of_getElem? (i := 23) rfl) rfl rfl ⟨by decide, by decide⟩ (Nat.le_of_ble_eq_true rfl) dX2_actPair_10 (fun r_p10 σ_p10 h_p10 => ?_)
    obtain ⟨rfl, fg_p10, hσ_p10, hg_p10⟩ := h_p10
    rw [hσ_p10]
    have hg_p10 : (0 < (σ 9 (ld_ix a)).toInt → fg_p10 = ld_gv h (σ 9) (ld_ix a)) ∧ (¬ 0 < (σ 9 (ld_ix a)).toInt → fg_p10 = σ 9) := hg_p10
    show K (us σ 9 fg_p10) [(0, .ref (ad 0)), (1, .int (nI (ld_ix a))), (2, .int act)] [.int (ld_b (0 < (σ 9 (ld_ix a)).toInt))] 13
    refine ld_iretz E (ld_b_01 _) dX2_actPair_13 ?_
    refine ⟨σ 8, fg_p10, σ 10, σ 11, σ 12, σ 13, σ 121, σ 122, σ 123, ?_, ?_, ?_⟩
    · funext b_
      by_cases h0_ : b_ = 9
      · subst h0_; first | rfl | (simp (disch := omega) only [us_ne, us_eq]; done)
      by_cases h1_ : b_ = 10
      · subst h1_; first | rfl | (simp (disch := omega) only [us_ne, us_eq]; done)
      by_cases h2_ : b_ = 11
      · subst h2_; first | rfl | (simp (disch := omega) only [us_ne, us_eq]; done)
      by_cases h3_ : b_ = 12
      · subst h3_; first | rfl | (simp (disch := omega) only [us_ne, us_eq]; done)
      by_cases h4_ : b_ = 13
      · subst h4_; first | rfl | (simp (disch := omega) only [us_ne, us_eq]; done)
      by_cases h5_ : b_ = 121
      · subst h5_; first | rfl | (simp (disch := omega) only [us_ne, us_eq]; done)
      by_cases h6_ : b_ = 122
      · subst h6_; first | rfl | (simp (disch := omega) only [us_ne, us_eq]; done)
      by_cases h7_ : b_ = 123
      · subst h7_; first | rfl | (simp (disch := omega) only [us_ne, us_eq]; done)
      by_cases h8_ : b_ = 8
      · subst h8_; first | rfl | (simp (disch := omega) only [us_ne, us_eq]; done)
      simp only [us, h0_, h1_, h2_, h3_, h4_, h5_, h6_, h7_, h8_, if_false]
    · by_cases g_ : 0 < (σ 9 (ld_ix a)).toInt
      · rw [ld_b_t g_, ld_b_t (ld_nno (ld_act1 c1 g_))]
      · rw [ld_b_f g_, ld_b_f (fun z => z (ld_act1n c1 g_))]
    · intro Q2 hQ
      by_cases g_ : 0 < (σ 9 (ld_ix a)).toInt
      · rw [ld_act1 c1 g_] at hQ; cases hQ; exact ⟨rfl, fun x hx => ⟨rfl, by rw [hg_p10.1 g_], rfl⟩, rfl⟩
      · rw [ld_act1n c1 g_] at hQ; cases hQ
set_option maxHeartbeats 4000000 in
set_option maxRecDepth 100000 in
theorem c_X2_actPairs (l : Launch) (ad : Nat → Nat) (σ : ld_St) (h : Nat) (hh2 : σ 120 0 = nI h) (h8 : h ≤ 8) (k : Nat) (hk : k < 4) (i0 : Nat) (n : Nat) (hb : i0 + 2 * n ≤ 60) (hok : (ld_rps h (fun z => σ (16 + k) (i0 + z)) n).toInt = 0) : ld_Ctr l yX2_actPairs cX2_actPairs 5 (some .int) (5, 112) [.ref (ad 0), .ref (ad (9 + (16 + k))), .int (nI i0), .int (nI n)] ad σ (ld_I (fun (r : Int32) (σ2 : ld_St) => r = ld_nv (ld_sn h (σ 7) (fun z => σ (16 + k) (i0 + z)) (σ 121 0, (σ 8, σ 9, σ 10), σ 123 0) n).1 ∧ ∃ ft fs fp f4 f5 f6 fc fw fl : Nat → Int32, σ2 = us (us (us (us (us (us (us (us (us σ 8 ft) 9 fs) 10 fp) 11 f4) 12 f5) 13 f6) 121 fc) 122 fw) 123 fl ∧ ((ld_sn h (σ 7) (fun z => σ (16 + k) (i0 + z)) (σ 121 0, (σ 8, σ 9, σ 10), σ 123 0) n).1 = none → ld_seq h (fc 0, (ft, fs, fp), fl 0) (ld_sn h (σ 7) (fun z => σ (16 + k) (i0 + z)) (σ 121 0, (σ 8, σ 9, σ 10), σ 123 0) n).2))) := by
  refine ld_entry (by decide +kernel) (Nat.le_of_ble_eq_true rfl) (fun K O E => ?_)
  have O : ld_Ok l K ad cX2_actPairs 5 RX2 (ld_rm (5, 112)) := O
  have hrp := ld_rps_z hok
  show K σ [(0, .ref (ad 0)), (1, .ref (ad (9 + (16 + k)))), (2, .int (nI i0)), (3, .int (nI n))] [] 0
  refine ld_iconst O (pc := 0) (v := nI 0) dX2_actPairs_0 (by decide) ?_
  refine ld_istore O (pc := 1) [(4, .int (nI 0)), (0, .ref (ad 0)), (1, .ref (ad (9 + (16 + k)))), (2, .int (nI i0)), (3, .int (nI n))] dX2_actPairs_1 (by decide) rfl ?_
  have L3 : ∀ (m_3 : Nat) (i : Nat) (ft : Nat → Int32) (fs : Nat → Int32) (fp : Nat → Int32) (f4 : Nat → Int32) (f5 : Nat → Int32) (f6 : Nat → Int32) (fc : Nat → Int32) (fw : Nat → Int32) (fl : Nat → Int32) (Q : ld_Se), n - i < m_3 → (i ≤ n) → (ld_sn h (σ 7) (fun z => σ (16 + k) (i0 + z)) (σ 121 0, (σ 8, σ 9, σ 10), σ 123 0) i = (none, Q)) → (ld_seq h (fc 0, (ft, fs, fp), fl 0) Q) → K (us (us (us (us (us (us (us (us (us σ 8 ft) 9 fs) 10 fp) 11 f4) 12 f5) 13 f6) 121 fc) 122 fw) 123 fl) [(0, .ref (ad 0)), (1, .ref (ad (9 + (16 + k)))), (2, .int (nI i0)), (3, .int (nI n)), (4, .int (nI i))] [] 3 := by
    intro m_3
    induction m_3 with
    | zero => intro i ft fs fp f4 f5 f6 fc fw fl Q hm_; exact absurd hm_ (Nat.not_lt_zero _)
    | succ m_3 ih3 =>
      intro i ft fs fp f4 f5 f6 fc fw fl Q hm_3 hi hs hq
      refine ld_iload O (pc := 3) 4 dX2_actPairs_3 rfl ?_
      refine ld_iload_n O (pc := 5) 3 dX2_actPairs_5 rfl rfl ?_
      refine ld_icmp_ge O (pc := 6) ((i : Nat) : Int) ((n : Nat) : Int) (nI_toInt (by omega)) (nI_toInt (by omega)) 43 dX2_actPairs_6 (by decide) (fun c1 => ?_) (fun c1 => ?_)
      · refine ld_bipush O (pc := 43) (v := (-9 : Int32)) dX2_actPairs_43 (by decide) ?_
        refine ld_ireti E dX2_actPairs_45 ?_
        rw [show i = n by omega] at hs
        exact ⟨by rw [hs]; rfl, _, _, _, _, _, _, _, _, _, rfl, fun _ => by rw [hs]; exact hq⟩
      · refine ld_aload_n O (pc := 9) 0 dX2_actPairs_9 rfl rfl ?_
        refine ld_aload_n O (pc := 10) 1 dX2_actPairs_10 rfl rfl ?_
        refine ld_iload_n O (pc := 11) 2 dX2_actPairs_11 rfl rfl ?_
        refine ld_iconst O (pc := 12) (v := nI 2) dX2_actPairs_12 (by decide) ?_
        refine ld_iload O (pc := 13) 4 dX2_actPairs_13 rfl ?_
        refine ld_imulN O (pc := 15) dX2_actPairs_15 ?_
        refine ld_iaddN O (pc := 16) dX2_actPairs_16 ?_
        refine ld_iald O (pc := 17) (16 + k) (i0 + (2 * i)) (v := σ (16 + k) (i0 + (2 * i))) rfl (by omega) (by rw [ld_lenS hk]; omega) (by simp (disch := omega) only [us_ne, us_eq]) dX2_actPairs_17 ?_
        refine ld_aload_n O (pc := 18) 1 dX2_actPairs_18 rfl rfl ?_
        refine ld_iload_n O (pc := 19) 2 dX2_actPairs_19 rfl rfl ?_
        refine ld_iconst O (pc := 20) (v := nI 2) dX2_actPairs_20 (by decide) ?_
        refine ld_iload O (pc := 21) 4 dX2_actPairs_21 rfl ?_
        refine ld_imulN O (pc := 23) dX2_actPairs_23 ?_
        refine ld_iaddN O (pc := 24) dX2_actPairs_24 ?_
        refine ld_iconst O (pc := 25) (v := nI 1) dX2_actPairs_25 (by decide) ?_
        refine ld_iaddN O (pc := 26) dX2_actPairs_26 ?_
        refine ld_iald O (pc := 27) (16 + k) ((i0 + (2 * i)) + 1) (v := σ (16 + k) ((i0 + (2 * i)) + 1)) rfl (by omega) (by rw [ld_lenS hk]; omega) (by simp (disch := omega) only [us_ne, us_eq]) dX2_actPairs_27 ?_
        refine ld_callVi O (pc := 28) (As := [.int (σ (16 + k) (i0 + (2 * i))), .int (σ (16 + k) ((i0 + (2 * i)) + 1))]) (st := []) ld_recv0 (c_X2_actPair l ad (us (us (us (us (us (us (us (us (us σ 8 ft) 9 fs) 10 fp) 11 f4) 12 f5) 13 f6) 121 fc) 122 fw) 123 fl) h hh2 h8 (σ (16 + k) (i0 + (2 * i))) (σ (16 + k) ((i0 + (2 * i)) + 1)) (hrp i (by omega))) ld_mw_X2_actPair ld_w325 rfl rfl ⟨by decide, by decide⟩ (Nat.le_of_ble_eq_true rfl) dX2_actPairs_28 (fun r_p28 σ_p28 h_p28 => ?_)
        obtain ⟨ft_p28, fs_p28, fp_p28, f4_p28, f5_p28, f6_p28, fc_p28, fw_p28, fl_p28, hσ_p28, rfl, hq_p28⟩ := h_p28
        rw [hσ_p28]
        have hq_p28 : ∀ Q2, ld_act h (σ 7) (σ (16 + k) (i0 + (2 * i))) (σ (16 + k) ((i0 + (2 * i)) + 1)) (fc 0, (ft, fs, fp), fl 0) = some Q2 → ld_seq h (fc_p28 0, (ft_p28, fs_p28, fp_p28), fl_p28 0) Q2 := hq_p28
        show K (us (us (us (us (us (us (us (us (us (us (us (us (us (us (us (us (us (us σ 8 ft) 9 fs) 10 fp) 11 f4) 12 f5) 13 f6) 121 fc) 122 fw) 123 fl) 8 ft_p28) 9 fs_p28) 10 fp_p28) 11 f4_p28) 12 f5_p28) 13 f6_p28) 121 fc_p28) 122 fw_p28) 123 fl_p28) [(0, .ref (ad 0)), (1, .ref (ad (9 + (16 + k)))), (2, .int (nI i0)), (3, .int (nI n)), (4, .int (nI i))] [.int (ld_b (¬ ld_act h (σ 7) (σ (16 + k) (i0 + (2 * i))) (σ (16 + k) ((i0 + (2 * i)) + 1)) (fc 0, (ft, fs, fp), fl 0) = none))] 31
        have hc_ := ld_act_cong (kd := σ 7) (kd2 := σ 7) (hrp i (by omega)) (fun _ _ => rfl) hq
        refine ld_ifb_ne O (pc := 31) 37 dX2_actPairs_31 (by decide) (fun c2 => ?_) (fun c2 => ?_)
        · obtain ⟨Q1_, hQ1_⟩ := Option.ne_none_iff_exists'.mp c2
          obtain ⟨U2_, hU_, hqU_⟩ := hc_.2 Q1_ hQ1_
          have hq2_ := ld_seq.tr (hq_p28 Q1_ hQ1_) hqU_
          refine ld_iincN O (pc := 37) [(4, .int (nI (i + 1))), (0, .ref (ad 0)), (1, .ref (ad (9 + (16 + k)))), (2, .int (nI i0)), (3, .int (nI n))] 4 dX2_actPairs_37 rfl (by decide) rfl ?_
          refine ld_goto O (pc := 40) 3 dX2_actPairs_40 (by decide) ?_
          refine ld_less O [1, 2, 3, 4, 0] (lv2 := [(0, .ref (ad 0)), (1, .ref (ad (9 + (16 + k)))), (2, .int (nI i0)), (3, .int (nI n)), (4, .int (nI (i + 1)))]) rfl ?_
          have hs3 : us (us (us (us (us (us (us (us (us (us (us (us (us (us (us (us (us (us σ 8 ft) 9 fs) 10 fp) 11 f4) 12 f5) 13 f6) 121 fc) 122 fw) 123 fl) 8 ft_p28) 9 fs_p28) 10 fp_p28) 11 f4_p28) 12 f5_p28) 13 f6_p28) 121 fc_p28) 122 fw_p28) 123 fl_p28 = us (us (us (us (us (us (us (us (us σ 8 ft_p28) 9 fs_p28) 10 fp_p28) 11 f4_p28) 12 f5_p28) 13 f6_p28) 121 fc_p28) 122 fw_p28) 123 fl_p28 := by
            funext b_
            by_cases h0_ : b_ = 8
            · subst h0_; rfl
            by_cases h1_ : b_ = 9
            · subst h1_; rfl
            by_cases h2_ : b_ = 10
            · subst h2_; rfl
            by_cases h3_ : b_ = 11
            · subst h3_; rfl
            by_cases h4_ : b_ = 12
            · subst h4_; rfl
            by_cases h5_ : b_ = 13
            · subst h5_; rfl
            by_cases h6_ : b_ = 121
            · subst h6_; rfl
            by_cases h7_ : b_ = 122
            · subst h7_; rfl
            by_cases h8_ : b_ = 123
            · subst h8_; rfl
            simp only [us, h0_, h1_, h2_, h3_, h4_, h5_, h6_, h7_, h8_, if_false]
          refine ld_cv hs3 ?_
          exact ih3 (i + 1) ft_p28 fs_p28 fp_p28 f4_p28 f5_p28 f6_p28 fc_p28 fw_p28 fl_p28 U2_ (by omega) (by omega) (ld_sn_no hs hU_) hq2_
        · refine ld_iload O (pc := 34) 4 dX2_actPairs_34 rfl ?_
          refine ld_ireti E dX2_actPairs_36 ?_
          refine ⟨by rw [ld_sn_yes hs (hc_.1.mp (Classical.byContradiction c2)) (by omega)]; rfl, ft_p28, fs_p28, fp_p28, f4_p28, f5_p28, f6_p28, fc_p28, fw_p28, fl_p28, ?_, fun z => ?_⟩
          · funext b_
            by_cases h0_ : b_ = 8
            · subst h0_; first | rfl | (simp (disch := omega) only [us_ne, us_eq]; done)
            by_cases h1_ : b_ = 9
            · subst h1_; first | rfl | (simp (disch := omega) only [us_ne, us_eq]; done)
            by_cases h2_ : b_ = 10
            · subst h2_; first | rfl | (simp (disch := omega) only [us_ne, us_eq]; done)
            by_cases h3_ : b_ = 11
            · subst h3_; first | rfl | (simp (disch := omega) only [us_ne, us_eq]; done)
            by_cases h4_ : b_ = 12
            · subst h4_; first | rfl | (simp (disch := omega) only [us_ne, us_eq]; done)
            by_cases h5_ : b_ = 13
            · subst h5_; first | rfl | (simp (disch := omega) only [us_ne, us_eq]; done)
            by_cases h6_ : b_ = 121
            · subst h6_; first | rfl | (simp (disch := omega) only [us_ne, us_eq]; done)
            by_cases h7_ : b_ = 122
            · subst h7_; first | rfl | (simp (disch := omega) only [us_ne, us_eq]; done)
            by_cases h8_ : b_ = 123
            · subst h8_; first | rfl | (simp (disch := omega) only [us_ne, us_eq]; done)
            simp only [us, h0_, h1_, h2_, h3_, h4_, h5_, h6_, h7_, h8_, if_false]
          · rw [ld_sn_yes hs (hc_.1.mp (Classical.byContradiction c2)) (by omega)] at z; cases z
  refine ld_less O [1, 2, 3, 4, 0] (lv2 := [(0, .ref (ad 0)), (1, .ref (ad (9 + (16 + k)))), (2, .int (nI i0)), (3, .int (nI n)), (4, .int (nI 0))]) rfl ?_
  have hs4 : σ = us (us (us (us (us (us (us (us (us σ 8 (σ 8)) 9 (σ 9)) 10 (σ 10)) 11 (σ 11)) 12 (σ 12)) 13 (σ 13)) 121 (σ 121)) 122 (σ 122)) 123 (σ 123) := by
    funext b_
    by_cases h0_ : b_ = 8
    · subst h0_; rfl
    by_cases h1_ : b_ = 9
    · subst h1_; rfl
    by_cases h2_ : b_ = 10
    · subst h2_; rfl
    by_cases h3_ : b_ = 11
    · subst h3_; rfl
    by_cases h4_ : b_ = 12
    · subst h4_; rfl
    by_cases h5_ : b_ = 13
    · subst h5_; rfl
    by_cases h6_ : b_ = 121
    · subst h6_; rfl
    by_cases h7_ : b_ = 122
    · subst h7_; rfl
    by_cases h8_ : b_ = 123
    · subst h8_; rfl
    simp only [us, h0_, h1_, h2_, h3_, h4_, h5_, h6_, h7_, h8_, if_false]
  refine ld_cv hs4 ?_
  exact L3 _ 0 (σ 8) (σ 9) (σ 10) (σ 11) (σ 12) (σ 13) (σ 121) (σ 122) (σ 123) (σ 121 0, (σ 8, σ 9, σ 10), σ 123 0) (Nat.lt_succ_self _) (Nat.zero_le _) rfl ld_seq.rf
