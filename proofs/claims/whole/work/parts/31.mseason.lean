theorem ld_act_bd {h : Nat} {kd : Nat → Int32} {a act : Int32} {Q Q2 : ld_Se} {T cr : Nat} (h8 : h ≤ 8) (hok : (ld_rp h a act).toInt = 0) (hc : Q.1 = nI cr) (c99 : cr ≤ 99) (b : ld_bd h kd Q.2.1.1 Q.2.1.2.1 Q.2.1.2.2 T) (hT : T + 10 ≤ 9000) (e : ld_act h kd a act Q = some Q2) : ∃ cr2 : Nat, cr2 ≤ 99 ∧ Q2.1 = nI cr2 ∧ ld_bd h kd Q2.2.1.1 Q2.2.1.2.1 Q2.2.1.2.2 (T + 10) := by
  have ok := ld_rp_ok hok
  unfold ld_act at e
  by_cases a1 : act.toInt = 1
  · have hk : ld_ix a < h := by
      rcases ok with ok | ok | ok
      · omega
      · exact (ld_ofIx ok.2).2.1
      · omega
    rw [if_pos a1] at e
    by_cases g : 0 < (Q.2.1.2.1 (ld_ix a)).toInt
    · rw [if_pos g] at e
      cases e
      exact ⟨cr, c99, hc, ld_bd_mono (ld_bd_gv b (by omega) hk g) (by omega)⟩
    · rw [if_neg g] at e; cases e
  · rw [if_neg a1] at e
    by_cases a2 : act.toInt = 2
    · rw [if_pos a2] at e
      cases e
      obtain ⟨z1, z2, z3⟩ := ld_ofIx (k := a) (h := 100) (by omega)
      exact ⟨ld_ix a, by omega, z1, ld_bd_mono b (by omega)⟩
    · rw [if_neg a2] at e
      cases e
      obtain ⟨z1, z2, z3⟩ := ld_ofIx (k := a) (h := 10) (by omega)
      refine ⟨cr, c99, hc, ?_⟩
      show ld_bd h kd (ld_wks h Q.1 kd Q.2.1 (ld_ix a)).1 (ld_wks h Q.1 kd Q.2.1 (ld_ix a)).2.1 (ld_wks h Q.1 kd Q.2.1 (ld_ix a)).2.2 (T + 10)
      rw [hc]
      exact ld_bd_mono (ld_bd_wks b h8 (by omega) (n := ld_ix a) (by omega)) (by omega)
set_option maxHeartbeats 4000000 in
set_option maxRecDepth 100000 in
theorem c_X3_did (l : Launch) (ad : Nat → Nat) (σ : ld_St) (h : Nat) (hh : σ 141 0 = nI h) (h8 : h ≤ 8) (cr : Nat) (hcr : σ 142 0 = nI cr) (c99 : cr ≤ 99) (T : Nat) (hT : T ≤ 8900) (hbd : ld_bd h (σ 20) (σ 21) (σ 22) (σ 23) T) (a act : Int32) (hok : (ld_rp h a act).toInt = 0) : ld_Ctr l yX3_did cX3_did 4 (some .boolean) (4, 97) [.ref (ad 8), .int a, .int act] ad σ (ld_I (fun (r : Int32) (σ2 : ld_St) => ∃ ft fs fp fd fc fw fl : Nat → Int32, σ2 = us (us (us (us (us (us (us σ 21 ft) 22 fs) 23 fp) 27 fd) 142 fc) 143 fw) 149 fl ∧ r = ld_b (¬ ld_act h (σ 20) a act (σ 142 0, (σ 21, σ 22, σ 23), σ 149 0) = none) ∧ ∀ Q2, ld_act h (σ 20) a act (σ 142 0, (σ 21, σ 22, σ 23), σ 149 0) = some Q2 → ld_seq h (fc 0, (ft, fs, fp), fl 0) Q2)) := by
  refine ld_entry (by decide +kernel) (Nat.le_of_ble_eq_true rfl) (fun K O E => ?_)
  have O : ld_Ok l K ad cX3_did 4 RX3 (ld_rm (4, 97)) := O
  show K σ [(0, .ref (ad 8)), (1, .int a), (2, .int act)] [] 0
  refine ld_iload_n O (pc := 0) 2 dX3_did_0 rfl rfl ?_
  refine ld_iconst O (pc := 1) (v := nI 1) dX3_did_1 (by decide) ?_
  refine ld_icmp_ne O (pc := 2) (act).toInt 1 rfl (by decide) 11 dX3_did_2 (by decide) (fun c1 => ?_) (fun c1 => ?_)
  · refine ld_iload_n O (pc := 11) 2 dX3_did_11 rfl rfl ?_
    refine ld_iconst O (pc := 12) (v := nI 2) dX3_did_12 (by decide) ?_
    refine ld_icmp_ne O (pc := 13) (act).toInt 2 rfl (by decide) 23 dX3_did_13 (by decide) (fun c2 => ?_) (fun c2 => ?_)
    · have ok_ := ld_rp_ok hok
      obtain ⟨ek_, hk_, ik_⟩ := ld_ofIx (k := a) (h := 10) (by omega)
      rw [ek_]
      refine ld_iconst O (pc := 23) (v := nI 0) dX3_did_23 (by decide) ?_
      refine ld_istore_n O (pc := 24) [(3, .int (nI 0)), (0, .ref (ad 8)), (1, .int (nI (ld_ix a))), (2, .int act)] dX3_did_24 rfl (by decide) rfl ?_
      have L25 : ∀ (m_25 : Nat) (j : Nat) (ft : Nat → Int32) (fs : Nat → Int32) (fp : Nat → Int32) (fd : Nat → Int32) (fw : Nat → Int32) (fl : Nat → Int32), ld_ix a - j < m_25 → (j ≤ ld_ix a) → (ld_eqv h (ft, fs, fp) (ld_wks h (nI cr) (σ 20) (σ 21, σ 22, σ 23) j)) → (fl 0 = σ 149 0 + nI (ld_lw h (nI cr) (σ 20) (σ 21, σ 22, σ 23) j)) → K (us (us (us (us (us (us σ 21 ft) 22 fs) 23 fp) 27 fd) 143 fw) 149 fl) [(0, .ref (ad 8)), (1, .int (nI (ld_ix a))), (2, .int act), (3, .int (nI j))] [] 25 := by
        intro m_25
        induction m_25 with
        | zero => intro j ft fs fp fd fw fl hm_; exact absurd hm_ (Nat.not_lt_zero _)
        | succ m_25 ih25 =>
          intro j ft fs fp fd fw fl hm_25 hj he hl
          refine ld_iload_n O (pc := 25) 3 dX3_did_25 rfl rfl ?_
          refine ld_iload_n O (pc := 26) 1 dX3_did_26 rfl rfl ?_
          refine ld_icmp_ge O (pc := 27) ((j : Nat) : Int) ((ld_ix a : Nat) : Int) (nI_toInt (by omega)) (nI_toInt (by omega)) 61 dX3_did_27 (by decide) (fun c3 => ?_) (fun c3 => ?_)
          · refine ld_iconst O (pc := 61) (v := nI 1) dX3_did_61 (by decide) ?_
            refine ld_iretz E (Or.inr rfl) dX3_did_62 ?_
            rw [show j = ld_ix a by omega] at he hl
            refine ⟨ft, fs, fp, fd, σ 142, fw, fl, ?_, (ld_b_t (ld_nno (ld_act0 c1 c2))).symm, ?_⟩
            · funext b_
              by_cases h0_ : b_ = 21
              · subst h0_; exact ((us_ne _ _ (by decide)).trans ((us_ne _ _ (by decide)).trans ((us_ne _ _ (by decide)).trans ((us_ne _ _ (by decide)).trans ((us_ne _ _ (by decide)).trans (us_eq _ _ _)))))).trans ((us_ne _ _ (by decide)).trans ((us_ne _ _ (by decide)).trans ((us_ne _ _ (by decide)).trans ((us_ne _ _ (by decide)).trans ((us_ne _ _ (by decide)).trans ((us_ne _ _ (by decide)).trans (us_eq _ _ _))))))).symm
              by_cases h1_ : b_ = 22
              · subst h1_; exact ((us_ne _ _ (by decide)).trans ((us_ne _ _ (by decide)).trans ((us_ne _ _ (by decide)).trans ((us_ne _ _ (by decide)).trans (us_eq _ _ _))))).trans ((us_ne _ _ (by decide)).trans ((us_ne _ _ (by decide)).trans ((us_ne _ _ (by decide)).trans ((us_ne _ _ (by decide)).trans ((us_ne _ _ (by decide)).trans (us_eq _ _ _)))))).symm
              by_cases h2_ : b_ = 23
              · subst h2_; exact ((us_ne _ _ (by decide)).trans ((us_ne _ _ (by decide)).trans ((us_ne _ _ (by decide)).trans (us_eq _ _ _)))).trans ((us_ne _ _ (by decide)).trans ((us_ne _ _ (by decide)).trans ((us_ne _ _ (by decide)).trans ((us_ne _ _ (by decide)).trans (us_eq _ _ _))))).symm
              by_cases h3_ : b_ = 27
              · subst h3_; exact ((us_ne _ _ (by decide)).trans ((us_ne _ _ (by decide)).trans (us_eq _ _ _))).trans ((us_ne _ _ (by decide)).trans ((us_ne _ _ (by decide)).trans ((us_ne _ _ (by decide)).trans (us_eq _ _ _)))).symm
              by_cases h4_ : b_ = 143
              · subst h4_; exact ((us_ne _ _ (by decide)).trans (us_eq _ _ _)).trans ((us_ne _ _ (by decide)).trans (us_eq _ _ _)).symm
              by_cases h5_ : b_ = 149
              · subst h5_; exact (us_eq _ _ _).trans (us_eq _ _ _).symm
              by_cases h6_ : b_ = 142
              · subst h6_; exact ((us_ne _ _ (by decide)).trans ((us_ne _ _ (by decide)).trans ((us_ne _ _ (by decide)).trans ((us_ne _ _ (by decide)).trans ((us_ne _ _ (by decide)).trans (us_ne _ _ (by decide))))))).trans ((us_ne _ _ (by decide)).trans ((us_ne _ _ (by decide)).trans (us_eq _ _ _))).symm
              simp only [us, h0_, h1_, h2_, h3_, h4_, h5_, h6_, if_false]
            · intro Q2 hQ
              rw [ld_act0 c1 c2] at hQ; cases hQ
              refine ⟨rfl, ?_, ?_⟩
              · show ld_eqv h _ (ld_wks h (σ 142 0) (σ 20) (σ 21, σ 22, σ 23) (ld_ix a)); rw [hcr]; exact he
              · show fl 0 = σ 149 0 + nI (ld_lw h (σ 142 0) (σ 20) (σ 21, σ 22, σ 23) (ld_ix a)); rw [hcr]; exact hl
          · refine ld_aload_n O (pc := 30) 0 dX3_did_30 rfl rfl ?_
            refine ld_callVv O (pc := 31) (As := []) (st := []) ld_recv8 (c_X3_passes l ad (us (us (us (us (us (us σ 21 ft) 22 fs) 23 fp) 27 fd) 143 fw) 149 fl) h hh h8 cr hcr (by omega) (T + j) (by omega) (ld_bd_cong he (ld_bd_wks hbd h8 (by omega) (by omega)))) ld_mw_X3_passes ld_w280 rfl rfl ⟨by decide, by decide⟩ (Nat.le_of_ble_eq_true rfl) dX3_did_31 (fun σ_p31 h_p31 => ?_)
            obtain ⟨ft_p31, fs_p31, fp_p31, fd_p31, fw_p31, hσ_p31, ht_p31, hs_p31, hp_p31, hw_p31⟩ := h_p31
            rw [hσ_p31]
            have ht_p31 : ∀ x, x < h → ft_p31 x = ld_wT h (nI cr) (σ 20) ft fs fp x := ht_p31
            have hs_p31 : ∀ x, x < h → fs_p31 x = ld_wS h (nI cr) (σ 20) ft fs fp x := hs_p31
            have hp_p31 : ∀ x, x < h → fp_p31 x = ld_wP h (nI cr) (σ 20) ft fs fp x := hp_p31
            have hw_p31 : fw_p31 0 = (fw 0) + nI 1 := hw_p31
            show K (us (us (us (us (us (us (us (us (us (us (us σ 21 ft) 22 fs) 23 fp) 27 fd) 143 fw) 149 fl) 21 ft_p31) 22 fs_p31) 23 fp_p31) 27 fd_p31) 143 fw_p31) [(0, .ref (ad 8)), (1, .int (nI (ld_ix a))), (2, .int act), (3, .int (nI j))] [] 34
            have he_ : ld_eqv h (ft_p31, fs_p31, fp_p31) (ld_wks h (nI cr) (σ 20) (σ 21, σ 22, σ 23) (j + 1)) := ld_eqv.tr (U := ld_wk h (nI cr) (σ 20) (ft, fs, fp)) (fun x hx => ⟨ht_p31 x hx, hs_p31 x hx, hp_p31 x hx⟩) (ld_wk_cong he)
            refine ld_aload_n O (pc := 34) 0 dX3_did_34 rfl rfl ?_
            refine ld_dup O (pc := 35) dX3_did_35 rfl ?_
            refine ld_g_M_weeksWithout O (pc := 36) (v := fl 0) ld_w358 rfl dX3_did_36 ?_
            refine ld_aload_n O (pc := 39) 0 dX3_did_39 rfl rfl ?_
            refine ld_callVi O (pc := 40) (As := []) (st := [.int (fl 0), .ref (ad 8)]) ld_recv8 (c_X3_without l ad (us (us (us (us (us (us (us (us (us (us (us σ 21 ft) 22 fs) 23 fp) 27 fd) 143 fw) 149 fl) 21 ft_p31) 22 fs_p31) 23 fp_p31) 27 fd_p31) 143 fw_p31) h hh h8 (fun x hx => (ld_bd_cong he_ (ld_bd_wks hbd h8 (by omega) (by omega)) x hx).2.2.1)) ld_mw_X3_without ld_w284 rfl rfl ⟨by decide, by decide⟩ (Nat.le_of_ble_eq_true rfl) dX3_did_40 (fun r_p40 σ_p40 h_p40 => ?_)
            obtain ⟨rfl, hσ_p40⟩ := h_p40
            rw [hσ_p40]
            show K (us (us (us (us (us (us (us (us (us (us (us σ 21 ft) 22 fs) 23 fp) 27 fd) 143 fw) 149 fl) 21 ft_p31) 22 fs_p31) 23 fp_p31) 27 fd_p31) 143 fw_p31) [(0, .ref (ad 8)), (1, .int (nI (ld_ix a))), (2, .int act), (3, .int (nI j))] [.int (nI (ld_wo h fs_p31)), .int (fl 0), .ref (ad 8)] 43
            have hwol_ : ld_wo h fs_p31 ≤ h := fb_ct_le _ _
            refine ld_if_le O (pc := 43) ((ld_wo h fs_p31 : Nat) : Int) (nI_toInt (by omega)) 50 dX3_did_43 (by decide) (fun c4 => ?_) (fun c4 => ?_)
            · refine ld_iconst O (pc := 50) (v := nI 0) dX3_did_50 (by decide) ?_
              refine ld_iadd O (pc := 51) dX3_did_51 ?_
              refine ld_p_M_weeksWithout O (pc := 52) ld_w358 dX3_did_52 ?_
              have hwo_ : ld_wo h fs_p31 = ld_wo h (ld_wks h (nI cr) (σ 20) (σ 21, σ 22, σ 23) (j + 1)).2.1 := ld_wo_cong (fun x hx => (he_ x hx).2.1)
              refine ld_iincN O (pc := 55) [(3, .int (nI (j + 1))), (0, .ref (ad 8)), (1, .int (nI (ld_ix a))), (2, .int act)] 3 dX3_did_55 rfl (by decide) rfl ?_
              refine ld_goto O (pc := 58) 25 dX3_did_58 (by decide) ?_
              refine ld_less O [1, 2, 3, 0] (lv2 := [(0, .ref (ad 8)), (1, .int (nI (ld_ix a))), (2, .int act), (3, .int (nI (j + 1)))]) rfl ?_
              have hs5 : us (us (us (us (us (us (us (us (us (us (us (us σ 21 ft) 22 fs) 23 fp) 27 fd) 143 fw) 149 fl) 21 ft_p31) 22 fs_p31) 23 fp_p31) 27 fd_p31) 143 fw_p31) 149 (fun _ => (fl 0) + (nI 0)) = us (us (us (us (us (us σ 21 ft_p31) 22 fs_p31) 23 fp_p31) 27 fd_p31) 143 fw_p31) 149 (fun _ => (fl 0) + (nI 0)) := by
                funext b_
                by_cases h0_ : b_ = 21
                · subst h0_; exact ((us_ne _ _ (by decide)).trans ((us_ne _ _ (by decide)).trans ((us_ne _ _ (by decide)).trans ((us_ne _ _ (by decide)).trans ((us_ne _ _ (by decide)).trans (us_eq _ _ _)))))).trans ((us_ne _ _ (by decide)).trans ((us_ne _ _ (by decide)).trans ((us_ne _ _ (by decide)).trans ((us_ne _ _ (by decide)).trans ((us_ne _ _ (by decide)).trans (us_eq _ _ _)))))).symm
                by_cases h1_ : b_ = 22
                · subst h1_; exact ((us_ne _ _ (by decide)).trans ((us_ne _ _ (by decide)).trans ((us_ne _ _ (by decide)).trans ((us_ne _ _ (by decide)).trans (us_eq _ _ _))))).trans ((us_ne _ _ (by decide)).trans ((us_ne _ _ (by decide)).trans ((us_ne _ _ (by decide)).trans ((us_ne _ _ (by decide)).trans (us_eq _ _ _))))).symm
                by_cases h2_ : b_ = 23
                · subst h2_; exact ((us_ne _ _ (by decide)).trans ((us_ne _ _ (by decide)).trans ((us_ne _ _ (by decide)).trans (us_eq _ _ _)))).trans ((us_ne _ _ (by decide)).trans ((us_ne _ _ (by decide)).trans ((us_ne _ _ (by decide)).trans (us_eq _ _ _)))).symm
                by_cases h3_ : b_ = 27
                · subst h3_; exact ((us_ne _ _ (by decide)).trans ((us_ne _ _ (by decide)).trans (us_eq _ _ _))).trans ((us_ne _ _ (by decide)).trans ((us_ne _ _ (by decide)).trans (us_eq _ _ _))).symm
                by_cases h4_ : b_ = 143
                · subst h4_; exact ((us_ne _ _ (by decide)).trans (us_eq _ _ _)).trans ((us_ne _ _ (by decide)).trans (us_eq _ _ _)).symm
                by_cases h5_ : b_ = 149
                · subst h5_; exact (us_eq _ _ _).trans (us_eq _ _ _).symm
                simp only [us, h0_, h1_, h2_, h3_, h4_, h5_, if_false]
              refine ld_cv hs5 ?_
              exact ih25 (j + 1) ft_p31 fs_p31 fp_p31 fd_p31 fw_p31 (fun _ => (fl 0) + (nI 0)) (by omega) (by omega) he_ (by show fl 0 + nI 0 = _; rw [hl, Int32.add_assoc, nI_add]; simp only [ld_lw]; rw [← hwo_, if_neg (by omega)])
            · refine ld_iconst O (pc := 46) (v := nI 1) dX3_did_46 (by decide) ?_
              refine ld_goto O (pc := 47) 51 dX3_did_47 (by decide) ?_
              refine ld_iadd O (pc := 51) dX3_did_51 ?_
              refine ld_p_M_weeksWithout O (pc := 52) ld_w358 dX3_did_52 ?_
              have hwo_ : ld_wo h fs_p31 = ld_wo h (ld_wks h (nI cr) (σ 20) (σ 21, σ 22, σ 23) (j + 1)).2.1 := ld_wo_cong (fun x hx => (he_ x hx).2.1)
              refine ld_iincN O (pc := 55) [(3, .int (nI (j + 1))), (0, .ref (ad 8)), (1, .int (nI (ld_ix a))), (2, .int act)] 3 dX3_did_55 rfl (by decide) rfl ?_
              refine ld_goto O (pc := 58) 25 dX3_did_58 (by decide) ?_
              refine ld_less O [1, 2, 3, 0] (lv2 := [(0, .ref (ad 8)), (1, .int (nI (ld_ix a))), (2, .int act), (3, .int (nI (j + 1)))]) rfl ?_
              have hs6 : us (us (us (us (us (us (us (us (us (us (us (us σ 21 ft) 22 fs) 23 fp) 27 fd) 143 fw) 149 fl) 21 ft_p31) 22 fs_p31) 23 fp_p31) 27 fd_p31) 143 fw_p31) 149 (fun _ => (fl 0) + (nI 1)) = us (us (us (us (us (us σ 21 ft_p31) 22 fs_p31) 23 fp_p31) 27 fd_p31) 143 fw_p31) 149 (fun _ => (fl 0) + (nI 1)) := by
                funext b_
                by_cases h0_ : b_ = 21
                · subst h0_; exact ((us_ne _ _ (by decide)).trans ((us_ne _ _ (by decide)).trans ((us_ne _ _ (by decide)).trans ((us_ne _ _ (by decide)).trans ((us_ne _ _ (by decide)).trans (us_eq _ _ _)))))).trans ((us_ne _ _ (by decide)).trans ((us_ne _ _ (by decide)).trans ((us_ne _ _ (by decide)).trans ((us_ne _ _ (by decide)).trans ((us_ne _ _ (by decide)).trans (us_eq _ _ _)))))).symm
                by_cases h1_ : b_ = 22
                · subst h1_; exact ((us_ne _ _ (by decide)).trans ((us_ne _ _ (by decide)).trans ((us_ne _ _ (by decide)).trans ((us_ne _ _ (by decide)).trans (us_eq _ _ _))))).trans ((us_ne _ _ (by decide)).trans ((us_ne _ _ (by decide)).trans ((us_ne _ _ (by decide)).trans ((us_ne _ _ (by decide)).trans (us_eq _ _ _))))).symm
                by_cases h2_ : b_ = 23
                · subst h2_; exact ((us_ne _ _ (by decide)).trans ((us_ne _ _ (by decide)).trans ((us_ne _ _ (by decide)).trans (us_eq _ _ _)))).trans ((us_ne _ _ (by decide)).trans ((us_ne _ _ (by decide)).trans ((us_ne _ _ (by decide)).trans (us_eq _ _ _)))).symm
                by_cases h3_ : b_ = 27
                · subst h3_; exact ((us_ne _ _ (by decide)).trans ((us_ne _ _ (by decide)).trans (us_eq _ _ _))).trans ((us_ne _ _ (by decide)).trans ((us_ne _ _ (by decide)).trans (us_eq _ _ _))).symm
                by_cases h4_ : b_ = 143
                · subst h4_; exact ((us_ne _ _ (by decide)).trans (us_eq _ _ _)).trans ((us_ne _ _ (by decide)).trans (us_eq _ _ _)).symm
                by_cases h5_ : b_ = 149
                · subst h5_; exact (us_eq _ _ _).trans (us_eq _ _ _).symm
                simp only [us, h0_, h1_, h2_, h3_, h4_, h5_, if_false]
              refine ld_cv hs6 ?_
              exact ih25 (j + 1) ft_p31 fs_p31 fp_p31 fd_p31 fw_p31 (fun _ => (fl 0) + (nI 1)) (by omega) (by omega) he_ (by show fl 0 + nI 1 = _; rw [hl, Int32.add_assoc, nI_add]; simp only [ld_lw]; rw [← hwo_, if_pos (by omega)])
      refine ld_less O [1, 2, 3, 0] (lv2 := [(0, .ref (ad 8)), (1, .int (nI (ld_ix a))), (2, .int act), (3, .int (nI 0))]) rfl ?_
      have hs7 : σ = us (us (us (us (us (us σ 21 (σ 21)) 22 (σ 22)) 23 (σ 23)) 27 (σ 27)) 143 (σ 143)) 149 (σ 149) := by
        funext b_
        by_cases h0_ : b_ = 21
        · subst h0_; exact (rfl).trans ((us_ne _ _ (by decide)).trans ((us_ne _ _ (by decide)).trans ((us_ne _ _ (by decide)).trans ((us_ne _ _ (by decide)).trans ((us_ne _ _ (by decide)).trans (us_eq _ _ _)))))).symm
        by_cases h1_ : b_ = 22
        · subst h1_; exact (rfl).trans ((us_ne _ _ (by decide)).trans ((us_ne _ _ (by decide)).trans ((us_ne _ _ (by decide)).trans ((us_ne _ _ (by decide)).trans (us_eq _ _ _))))).symm
        by_cases h2_ : b_ = 23
        · subst h2_; exact (rfl).trans ((us_ne _ _ (by decide)).trans ((us_ne _ _ (by decide)).trans ((us_ne _ _ (by decide)).trans (us_eq _ _ _)))).symm
        by_cases h3_ : b_ = 27
        · subst h3_; exact (rfl).trans ((us_ne _ _ (by decide)).trans ((us_ne _ _ (by decide)).trans (us_eq _ _ _))).symm
        by_cases h4_ : b_ = 143
        · subst h4_; exact (rfl).trans ((us_ne _ _ (by decide)).trans (us_eq _ _ _)).symm
        by_cases h5_ : b_ = 149
        · subst h5_; exact (rfl).trans (us_eq _ _ _).symm
        simp only [us, h0_, h1_, h2_, h3_, h4_, h5_, if_false]
      refine ld_cv hs7 ?_
      exact L25 _ 0 (σ 21) (σ 22) (σ 23) (σ 27) (σ 143) (σ 149) (Nat.lt_succ_self _) (Nat.zero_le _) ld_eqv.rf (Int32.add_zero _).symm
    · refine ld_aload_n O (pc := 16) 0 dX3_did_16 rfl rfl ?_
      refine ld_iload_n O (pc := 17) 1 dX3_did_17 rfl rfl ?_
      refine ld_p_M_crateNow O (pc := 18) ld_w121 dX3_did_18 ?_
      refine ld_iconst O (pc := 21) (v := nI 1) dX3_did_21 (by decide) ?_
      refine ld_iretz E (Or.inr rfl) dX3_did_22 ?_
      refine ⟨σ 21, σ 22, σ 23, σ 27, fun _ => a, σ 143, σ 149, ?_, (ld_b_t (ld_nno (ld_act2 c1 c2))).symm, ?_⟩
      · funext b_
        by_cases h0_ : b_ = 142
        · subst h0_; exact (us_eq _ _ _).trans ((us_ne _ _ (by decide)).trans ((us_ne _ _ (by decide)).trans (us_eq _ _ _))).symm
        by_cases h1_ : b_ = 21
        · subst h1_; exact (us_ne _ _ (by decide)).trans ((us_ne _ _ (by decide)).trans ((us_ne _ _ (by decide)).trans ((us_ne _ _ (by decide)).trans ((us_ne _ _ (by decide)).trans ((us_ne _ _ (by decide)).trans ((us_ne _ _ (by decide)).trans (us_eq _ _ _))))))).symm
        by_cases h2_ : b_ = 22
        · subst h2_; exact (us_ne _ _ (by decide)).trans ((us_ne _ _ (by decide)).trans ((us_ne _ _ (by decide)).trans ((us_ne _ _ (by decide)).trans ((us_ne _ _ (by decide)).trans ((us_ne _ _ (by decide)).trans (us_eq _ _ _)))))).symm
        by_cases h3_ : b_ = 23
        · subst h3_; exact (us_ne _ _ (by decide)).trans ((us_ne _ _ (by decide)).trans ((us_ne _ _ (by decide)).trans ((us_ne _ _ (by decide)).trans ((us_ne _ _ (by decide)).trans (us_eq _ _ _))))).symm
        by_cases h4_ : b_ = 27
        · subst h4_; exact (us_ne _ _ (by decide)).trans ((us_ne _ _ (by decide)).trans ((us_ne _ _ (by decide)).trans ((us_ne _ _ (by decide)).trans (us_eq _ _ _)))).symm
        by_cases h5_ : b_ = 143
        · subst h5_; exact (us_ne _ _ (by decide)).trans ((us_ne _ _ (by decide)).trans (us_eq _ _ _)).symm
        by_cases h6_ : b_ = 149
        · subst h6_; exact (us_ne _ _ (by decide)).trans (us_eq _ _ _).symm
        simp only [us, h0_, h1_, h2_, h3_, h4_, h5_, h6_, if_false]
      · intro Q2 hQ
        rw [ld_act2 c1 c2] at hQ; cases hQ; exact ld_seq.rf
  · have ok_ := ld_rp_ok hok
    obtain ⟨ek_, hk_, ik_⟩ := ld_ofIx (k := a) (h := h) (by omega)
    rw [ek_]
    refine ld_aload_n O (pc := 5) 0 dX3_did_5 rfl rfl ?_
    refine ld_iload_n O (pc := 6) 1 dX3_did_6 rfl rfl ?_
    refine ld_callVi O (pc := 7) (As := [.int (nI (ld_ix a))]) (st := []) ld_recv8 (c_X3_gave l ad σ h hh h8 (ld_ix a) (by omega)) ld_mw_X3_gave ld_w299 rfl rfl ⟨by decide, by decide⟩ (Nat.le_of_ble_eq_true rfl) dX3_did_7 (fun r_p7 σ_p7 h_p7 => ?_)
    obtain ⟨rfl, fg_p7, hσ_p7, hg_p7⟩ := h_p7
    rw [hσ_p7]
    have hg_p7 : (0 < (σ 22 (ld_ix a)).toInt → fg_p7 = ld_gv h (σ 22) (ld_ix a)) ∧ (¬ 0 < (σ 22 (ld_ix a)).toInt → fg_p7 = σ 22) := hg_p7
    show K (us σ 22 fg_p7) [(0, .ref (ad 8)), (1, .int (nI (ld_ix a))), (2, .int act)] [.int (ld_b (0 < (σ 22 (ld_ix a)).toInt))] 10
    refine ld_iretz E (ld_b_01 _) dX3_did_10 ?_
    refine ⟨σ 21, fg_p7, σ 23, σ 27, σ 142, σ 143, σ 149, ?_, ?_, ?_⟩
    · funext b_
      by_cases h0_ : b_ = 22
      · subst h0_; exact (us_eq _ _ _).trans ((us_ne _ _ (by decide)).trans ((us_ne _ _ (by decide)).trans ((us_ne _ _ (by decide)).trans ((us_ne _ _ (by decide)).trans ((us_ne _ _ (by decide)).trans (us_eq _ _ _)))))).symm
      by_cases h1_ : b_ = 21
      · subst h1_; exact (us_ne _ _ (by decide)).trans ((us_ne _ _ (by decide)).trans ((us_ne _ _ (by decide)).trans ((us_ne _ _ (by decide)).trans ((us_ne _ _ (by decide)).trans ((us_ne _ _ (by decide)).trans ((us_ne _ _ (by decide)).trans (us_eq _ _ _))))))).symm
      by_cases h2_ : b_ = 23
      · subst h2_; exact (us_ne _ _ (by decide)).trans ((us_ne _ _ (by decide)).trans ((us_ne _ _ (by decide)).trans ((us_ne _ _ (by decide)).trans ((us_ne _ _ (by decide)).trans (us_eq _ _ _))))).symm
      by_cases h3_ : b_ = 27
      · subst h3_; exact (us_ne _ _ (by decide)).trans ((us_ne _ _ (by decide)).trans ((us_ne _ _ (by decide)).trans ((us_ne _ _ (by decide)).trans (us_eq _ _ _)))).symm
      by_cases h4_ : b_ = 142
      · subst h4_; exact (us_ne _ _ (by decide)).trans ((us_ne _ _ (by decide)).trans ((us_ne _ _ (by decide)).trans (us_eq _ _ _))).symm
      by_cases h5_ : b_ = 143
      · subst h5_; exact (us_ne _ _ (by decide)).trans ((us_ne _ _ (by decide)).trans (us_eq _ _ _)).symm
      by_cases h6_ : b_ = 149
      · subst h6_; exact (us_ne _ _ (by decide)).trans (us_eq _ _ _).symm
      simp only [us, h0_, h1_, h2_, h3_, h4_, h5_, h6_, if_false]
    · by_cases g_ : 0 < (σ 22 (ld_ix a)).toInt
      · rw [ld_b_t g_, ld_b_t (ld_nno (ld_act1 c1 g_))]
      · rw [ld_b_f g_, ld_b_f (fun z => z (ld_act1n c1 g_))]
    · intro Q2 hQ
      by_cases g_ : 0 < (σ 22 (ld_ix a)).toInt
      · rw [ld_act1 c1 g_] at hQ; cases hQ; exact ⟨rfl, fun x hx => ⟨rfl, by rw [hg_p7.1 g_], rfl⟩, rfl⟩
      · rw [ld_act1n c1 g_] at hQ; cases hQ
