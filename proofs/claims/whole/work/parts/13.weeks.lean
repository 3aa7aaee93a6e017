theorem ld_lenS {k : Nat} (h : k < 4) : ld_len (16 + k) = 60 := by
  unfold ld_len
  rw [if_neg (by omega), if_pos (by omega)]
theorem ld_lw_step {h : Nat} {c : Int32} {kd : Nat → Int32} {V : ld_Tr} {i : Nat} {b0 y z : Int32} {fs : Nat → Int32} (hl : y = b0 + nI (ld_lw h c kd V i)) (e : ∀ x, x < h → fs x = (ld_wks h c kd V (i + 1)).2.1 x) (hz : z = if 0 < ld_wo h fs then y + nI 1 else y) : z = b0 + nI (ld_lw h c kd V (i + 1)) := by
  rw [hz, ld_wo_cong e, hl]
  show _ = b0 + nI (ld_lw h c kd V i + (if 0 < ld_wo h (ld_wks h c kd V (i + 1)).2.1 then 1 else 0))
  by_cases g : 0 < ld_wo h (ld_wks h c kd V (i + 1)).2.1
  · rw [if_pos g, if_pos g, Int32.add_assoc, nI_add]
  · rw [if_neg g, if_neg g]; rfl
theorem ld_upd_c {g G : Nat → Int32} {h j : Nat} (hj : j < h) (hg : ∀ x, x < h → g x = G x) : ∀ x, x < h → upd g j (g j + nI 1) x = upd G j (G j + nI 1) x := by
  intro x hx
  by_cases e : x = j
  · subst e; rw [pk_us, pk_us, hg x hx]
  · rw [pk_un e, pk_un e, hg x hx]
set_option maxHeartbeats 4000000 in
set_option maxRecDepth 100000 in
theorem c_X1_dealtTo_0 (l : Launch) (ad : Nat → Nat) (σ : ld_St) (h : Nat) (hh : σ 110 0 = nI h) (h8 : h ≤ 8) (k : Nat) (hk : k < h) (c : Int32) : ld_Ctr l yX1_dealtTo cX1_dealtTo 3 (some .int) (2, 47) [.ref (ad 1), .int (nI k), .int c] ad σ (ld_I (fun (r : Int32) (σ2 : ld_St) => ∃ f4 f5 f6 : Nat → Int32, r = ld_dt h (σ 0) (σ 1) c k ∧ σ2 = us (us (us σ 4 f4) 5 f5) 6 f6)) := by
  refine ld_entry (by decide +kernel) (Nat.le_of_ble_eq_true rfl) (fun K O E => ?_)
  have O : ld_Ok l K ad cX1_dealtTo 3 RX1 (ld_rm (2, 47)) := O
  show K σ [(0, .ref (ad 1)), (1, .int (nI k)), (2, .int c)] [] 0
  refine ld_aload_n O (pc := 0) 0 dX1_dealtTo_0 rfl rfl ?_
  refine ld_iload_n O (pc := 1) 2 dX1_dealtTo_1 rfl rfl ?_
  refine ld_callVv O (pc := 2) (As := [.int c]) (st := []) ld_recv1 (c_X1_dealOut_0 l ad σ h hh h8 c) ld_mw_X1_dealOut ld_w181 rfl rfl ⟨by decide, by decide⟩ (Nat.le_of_ble_eq_true rfl) dX1_dealtTo_2 (fun σ_p2 h_p2 => ?_)
  obtain ⟨f4_p2, f5_p2, f6_p2, hσ_p2, hd_p2⟩ := h_p2
  rw [hσ_p2]
  have hd_p2 : ∀ x, x < h → f5_p2 x = ld_dt h (σ 0) (σ 1) c x := hd_p2
  show K (us (us (us σ 4 f4_p2) 5 f5_p2) 6 f6_p2) [(0, .ref (ad 1)), (1, .int (nI k)), (2, .int c)] [] 5
  refine ld_aload_n O (pc := 5) 0 dX1_dealtTo_5 rfl rfl ?_
  refine ld_g_now_dealt O (pc := 6) ld_w39 dX1_dealtTo_6 ?_
  refine ld_iload_n O (pc := 9) 1 dX1_dealtTo_9 rfl rfl ?_
  refine ld_iald O (pc := 10) 5 k (v := f5_p2 k) rfl (by decide) (show k < 8 by omega) rfl dX1_dealtTo_10 ?_
  refine ld_ireti E dX1_dealtTo_11 ?_
  exact ⟨_, _, _, hd_p2 k hk, rfl⟩
set_option maxHeartbeats 4000000 in
set_option maxRecDepth 100000 in
theorem c_X1_suck_0 (l : Launch) (ad : Nat → Nat) (σ : ld_St) (k : Nat) (hk : k < 8) (tk : Int32) (htk : σ 1 k = tk) (sk : Int32) (hsk : σ 2 k = sk) (pk : Int32) (hpk : σ 3 k = pk) : ld_Ctr l yX1_suck cX1_suck 2 none (1, 21) [.ref (ad 1), .int (nI k)] ad σ (ld_V (fun (σ2 : ld_St) => ∃ vt vs vp : Int32, σ2 = us (us (us σ 1 (upd (σ 1) k vt)) 2 (upd (σ 2) k vs)) 3 (upd (σ 3) k vp) ∧ vt = (if sk.toInt ≤ 0 then (if nI 9 < tk + nI 1 then nI 9 else tk + nI 1) else (if tk - nI 1 < nI 0 then nI 0 else tk - nI 1)) ∧ vs = (if sk.toInt ≤ 0 then sk else sk - nI 1) ∧ vp = (if sk.toInt ≤ 0 then pk else pk + nI 1))) := by
  refine ld_entry (by decide +kernel) (Nat.le_of_ble_eq_true rfl) (fun K O E => ?_)
  have O : ld_Ok l K ad cX1_suck 2 RX1 (ld_rm (1, 21)) := O
  show K σ [(0, .ref (ad 1)), (1, .int (nI k))] [] 0
  refine ld_aload_n O (pc := 0) 0 dX1_suck_0 rfl rfl ?_
  refine ld_g_now_stock O (pc := 1) ld_w36 dX1_suck_1 ?_
  refine ld_iload_n O (pc := 4) 1 dX1_suck_4 rfl rfl ?_
  refine ld_iald O (pc := 5) 2 k (v := σ 2 k) rfl (by decide) (show k < 8 by omega) rfl dX1_suck_5 ?_
  rw [hsk]
  refine ld_if_le O (pc := 6) (sk).toInt rfl 50 dX1_suck_6 (by decide) (fun c1 => ?_) (fun c1 => ?_)
  · refine ld_aload_n O (pc := 50) 0 dX1_suck_50 rfl rfl ?_
    refine ld_g_now_temper O (pc := 51) ld_w35 dX1_suck_51 ?_
    refine ld_iload_n O (pc := 54) 1 dX1_suck_54 rfl rfl ?_
    refine ld_aload_n O (pc := 55) 0 dX1_suck_55 rfl rfl ?_
    refine ld_g_now_temper O (pc := 56) ld_w35 dX1_suck_56 ?_
    refine ld_iload_n O (pc := 59) 1 dX1_suck_59 rfl rfl ?_
    refine ld_iald O (pc := 60) 1 k (v := σ 1 k) rfl (by decide) (show k < 8 by omega) rfl dX1_suck_60 ?_
    refine ld_iconst O (pc := 61) (v := nI 1) dX1_suck_61 (by decide) ?_
    refine ld_iadd O (pc := 62) dX1_suck_62 ?_
    refine ld_bipush O (pc := 63) (v := nI 9) dX1_suck_63 (by decide) ?_
    refine ld_mmin O (pc := 65) ld_w108 (by decide) (Nat.le_of_ble_eq_true rfl) dX1_suck_65 ?_
    refine ld_iast O (pc := 68) 1 k rfl (by decide) (show k < 8 by omega) dX1_suck_68 ?_
    refine ld_vret E dX1_suck_69 ?_
    refine ⟨_, sk, pk, ?_, rfl, (if_pos c1).symm, (if_pos c1).symm⟩
    rw [if_pos c1, fa_upd_same hsk, fa_upd_same hpk, ← htk]
    funext b_
    by_cases h0_ : b_ = 1
    · subst h0_; first | rfl | (simp (disch := omega) only [us_ne, us_eq]; done)
    by_cases h1_ : b_ = 2
    · subst h1_; first | rfl | (simp (disch := omega) only [us_ne, us_eq]; done)
    by_cases h2_ : b_ = 3
    · subst h2_; first | rfl | (simp (disch := omega) only [us_ne, us_eq]; done)
    simp only [us, h0_, h1_, h2_, if_false]
  · refine ld_aload_n O (pc := 9) 0 dX1_suck_9 rfl rfl ?_
    refine ld_g_now_stock O (pc := 10) ld_w36 dX1_suck_10 ?_
    refine ld_iload_n O (pc := 13) 1 dX1_suck_13 rfl rfl ?_
    refine ld_dup2 O (pc := 14) dX1_suck_14 rfl rfl ?_
    refine ld_iald O (pc := 15) 2 k (v := σ 2 k) rfl (by decide) (show k < 8 by omega) rfl dX1_suck_15 ?_
    refine ld_iconst O (pc := 16) (v := nI 1) dX1_suck_16 (by decide) ?_
    refine ld_isub O (pc := 17) dX1_suck_17 ?_
    refine ld_iast O (pc := 18) 2 k rfl (by decide) (show k < 8 by omega) dX1_suck_18 ?_
    refine ld_aload_n O (pc := 19) 0 dX1_suck_19 rfl rfl ?_
    refine ld_g_now_temper O (pc := 20) ld_w35 dX1_suck_20 ?_
    refine ld_iload_n O (pc := 23) 1 dX1_suck_23 rfl rfl ?_
    refine ld_aload_n O (pc := 24) 0 dX1_suck_24 rfl rfl ?_
    refine ld_g_now_temper O (pc := 25) ld_w35 dX1_suck_25 ?_
    refine ld_iload_n O (pc := 28) 1 dX1_suck_28 rfl rfl ?_
    refine ld_iald O (pc := 29) 1 k (v := σ 1 k) rfl (by decide) (show k < 8 by omega) rfl dX1_suck_29 ?_
    refine ld_iconst O (pc := 30) (v := nI 1) dX1_suck_30 (by decide) ?_
    refine ld_isub O (pc := 31) dX1_suck_31 ?_
    refine ld_iconst O (pc := 32) (v := nI 0) dX1_suck_32 (by decide) ?_
    refine ld_mmax O (pc := 33) ld_w268 (by decide) (Nat.le_of_ble_eq_true rfl) dX1_suck_33 ?_
    refine ld_iast O (pc := 36) 1 k rfl (by decide) (show k < 8 by omega) dX1_suck_36 ?_
    refine ld_aload_n O (pc := 37) 0 dX1_suck_37 rfl rfl ?_
    refine ld_g_now_pips O (pc := 38) ld_w37 dX1_suck_38 ?_
    refine ld_iload_n O (pc := 41) 1 dX1_suck_41 rfl rfl ?_
    refine ld_dup2 O (pc := 42) dX1_suck_42 rfl rfl ?_
    refine ld_iald O (pc := 43) 3 k (v := σ 3 k) rfl (by decide) (show k < 8 by omega) rfl dX1_suck_43 ?_
    refine ld_iconst O (pc := 44) (v := nI 1) dX1_suck_44 (by decide) ?_
    refine ld_iadd O (pc := 45) dX1_suck_45 ?_
    refine ld_iast O (pc := 46) 3 k rfl (by decide) (show k < 8 by omega) dX1_suck_46 ?_
    refine ld_goto O (pc := 47) 69 dX1_suck_47 (by decide) ?_
    refine ld_vret E dX1_suck_69 ?_
    refine ⟨_, _, _, ?_, rfl, rfl, rfl⟩
    rw [if_neg c1, if_neg c1, if_neg c1, ← hsk, ← htk, ← hpk]
    funext b_
    by_cases h0_ : b_ = 2
    · subst h0_; first | rfl | (simp (disch := omega) only [us_ne, us_eq]; done)
    by_cases h1_ : b_ = 1
    · subst h1_; first | rfl | (simp (disch := omega) only [us_ne, us_eq]; done)
    by_cases h2_ : b_ = 3
    · subst h2_; first | rfl | (simp (disch := omega) only [us_ne, us_eq]; done)
    simp only [us, h0_, h1_, h2_, if_false]
set_option maxHeartbeats 4000000 in
set_option maxRecDepth 100000 in
theorem c_X1_without_0 (l : Launch) (ad : Nat → Nat) (σ : ld_St) (h : Nat) (hh : σ 110 0 = nI h) (h8 : h ≤ 8) : ld_Ctr l yX1_withoutStock cX1_withoutStock 3 (some .int) (0, 0) [.ref (ad 1)] ad σ (ld_I (fun (r : Int32) (σ2 : ld_St) => r = nI (ld_wo h (σ 2)) ∧ σ2 = σ)) := by
  refine ld_entry (by decide +kernel) (Nat.le_of_ble_eq_true rfl) (fun K O E => ?_)
  have O : ld_Ok l K ad cX1_withoutStock 3 RX1 (ld_rm (0, 0)) := O
  show K σ [(0, .ref (ad 1))] [] 0
  refine ld_iconst O (pc := 0) (v := nI 0) dX1_withoutStock_0 (by decide) ?_
  refine ld_istore_n O (pc := 1) [(1, .int (nI 0)), (0, .ref (ad 1))] dX1_withoutStock_1 rfl (by decide) rfl ?_
  refine ld_iconst O (pc := 2) (v := nI 0) dX1_withoutStock_2 (by decide) ?_
  refine ld_istore_n O (pc := 3) [(2, .int (nI 0)), (1, .int (nI 0)), (0, .ref (ad 1))] dX1_withoutStock_3 rfl (by decide) rfl ?_
  have L4 : ∀ (m_4 : Nat) (i : Nat) (m : Nat), h - i < m_4 → (i ≤ h) → (m = fb_ct (ld_wp (σ 2)) i) → K σ [(0, .ref (ad 1)), (1, .int (nI m)), (2, .int (nI i))] [] 4 := by
    intro m_4
    induction m_4 with
    | zero => intro i m hm_; exact absurd hm_ (Nat.not_lt_zero _)
    | succ m_4 ih4 =>
      intro i m hm_4 hi hm
      refine ld_iload_n O (pc := 4) 2 dX1_withoutStock_4 rfl rfl ?_
      refine ld_aload_n O (pc := 5) 0 dX1_withoutStock_5 rfl rfl ?_
      refine ld_g_now_houses O (pc := 6) (v := nI h) ld_w30 hh dX1_withoutStock_6 ?_
      refine ld_icmp_ge O (pc := 9) ((i : Nat) : Int) ((h : Nat) : Int) (nI_toInt (by omega)) (nI_toInt (by omega)) 30 dX1_withoutStock_9 (by decide) (fun c1 => ?_) (fun c1 => ?_)
      · refine ld_iload_n O (pc := 30) 1 dX1_withoutStock_30 rfl rfl ?_
        refine ld_ireti E dX1_withoutStock_31 ?_
        exact ⟨by rw [hm, show i = h by omega]; rfl, rfl⟩
      · refine ld_aload_n O (pc := 12) 0 dX1_withoutStock_12 rfl rfl ?_
        refine ld_g_now_stock O (pc := 13) ld_w36 dX1_withoutStock_13 ?_
        refine ld_iload_n O (pc := 16) 2 dX1_withoutStock_16 rfl rfl ?_
        refine ld_iald O (pc := 17) 2 i (v := σ 2 i) rfl (by decide) (show i < 8 by omega) rfl dX1_withoutStock_17 ?_
        refine ld_if_gt O (pc := 18) (σ 2 i).toInt rfl 24 dX1_withoutStock_18 (by decide) (fun c2 => ?_) (fun c2 => ?_)
        · refine ld_iincN O (pc := 24) [(2, .int (nI (i + 1))), (0, .ref (ad 1)), (1, .int (nI m))] 2 dX1_withoutStock_24 rfl (by decide) rfl ?_
          refine ld_goto O (pc := 27) 4 dX1_withoutStock_27 (by decide) ?_
          refine ld_less O [1, 2, 0] (lv2 := [(0, .ref (ad 1)), (1, .int (nI m)), (2, .int (nI (i + 1)))]) rfl ?_
          exact ih4 (i + 1) m (by omega) (by omega) (ld_ct_f hm (by unfold ld_wp; intro z; have z2 := of_decide_eq_true z; omega))
        · refine ld_iincN O (pc := 21) [(1, .int (nI (m + 1))), (0, .ref (ad 1)), (2, .int (nI i))] 1 dX1_withoutStock_21 rfl (by decide) rfl ?_
          refine ld_iincN O (pc := 24) [(2, .int (nI (i + 1))), (1, .int (nI (m + 1))), (0, .ref (ad 1))] 2 dX1_withoutStock_24 rfl (by decide) rfl ?_
          refine ld_goto O (pc := 27) 4 dX1_withoutStock_27 (by decide) ?_
          refine ld_less O [2, 1, 0] (lv2 := [(0, .ref (ad 1)), (1, .int (nI (m + 1))), (2, .int (nI (i + 1)))]) rfl ?_
          exact ih4 (i + 1) (m + 1) (by omega) (by omega) (ld_ct_t hm (by unfold ld_wp; exact decide_eq_true (by omega)))
  refine ld_less O [2, 1, 0] (lv2 := [(0, .ref (ad 1)), (1, .int (nI 0)), (2, .int (nI 0))]) rfl ?_
  exact L4 _ 0 0 (Nat.lt_succ_self _) (Nat.zero_le _) rfl
set_option maxHeartbeats 4000000 in
set_option maxRecDepth 100000 in
theorem c_X1_passWeek_0 (l : Launch) (ad : Nat → Nat) (σ : ld_St) (h : Nat) (hh : σ 110 0 = nI h) (h8 : h ≤ 8) : ld_Ctr l yX1_passWeek cX1_passWeek 2 none (2, 47) [.ref (ad 1)] ad σ (ld_V (fun (σ2 : ld_St) => ∃ ft fs fp f4 f5 f6 fw fl : Nat → Int32, σ2 = us (us (us (us (us (us (us (us σ 1 ft) 2 fs) 3 fp) 4 f4) 5 f5) 6 f6) 112 fw) 113 fl ∧ (∀ x, x < h → ft x = ld_wT h (σ 111 0) (σ 0) (σ 1) (σ 2) (σ 3) x) ∧ (∀ x, x < h → fs x = ld_wS h (σ 111 0) (σ 0) (σ 1) (σ 2) (σ 3) x) ∧ (∀ x, x < h → fp x = ld_wP h (σ 111 0) (σ 0) (σ 1) (σ 2) (σ 3) x) ∧ fw 0 = σ 112 0 + nI 1 ∧ fl 0 = (if 0 < ld_wo h fs then σ 113 0 + nI 1 else σ 113 0))) := by
  refine ld_entry (by decide +kernel) (Nat.le_of_ble_eq_true rfl) (fun K O E => ?_)
  have O : ld_Ok l K ad cX1_passWeek 2 RX1 (ld_rm (2, 47)) := O
  show K σ [(0, .ref (ad 1))] [] 0
  refine ld_aload_n O (pc := 0) 0 dX1_passWeek_0 rfl rfl ?_
  refine ld_aload_n O (pc := 1) 0 dX1_passWeek_1 rfl rfl ?_
  refine ld_g_now_crate O (pc := 2) (v := σ 111 0) ld_w31 rfl dX1_passWeek_2 ?_
  refine ld_callVv O (pc := 5) (As := [.int (σ 111 0)]) (st := []) ld_recv1 (c_X1_dealOut_0 l ad σ h hh h8 (σ 111 0)) ld_mw_X1_dealOut ld_w181 rfl rfl ⟨by decide, by decide⟩ (Nat.le_of_ble_eq_true rfl) dX1_passWeek_5 (fun σ_p5 h_p5 => ?_)
  obtain ⟨f4_p5, f5_p5, f6_p5, hσ_p5, hd_p5⟩ := h_p5
  rw [hσ_p5]
  have hd_p5 : ∀ x, x < h → f5_p5 x = ld_dt h (σ 0) (σ 1) (σ 111 0) x := hd_p5
  show K (us (us (us σ 4 f4_p5) 5 f5_p5) 6 f6_p5) [(0, .ref (ad 1))] [] 8
  refine ld_iconst O (pc := 8) (v := nI 0) dX1_passWeek_8 (by decide) ?_
  refine ld_istore_n O (pc := 9) [(1, .int (nI 0)), (0, .ref (ad 1))] dX1_passWeek_9 rfl (by decide) rfl ?_
  have L10 : ∀ (m_10 : Nat) (i : Nat) (ft : Nat → Int32) (fs : Nat → Int32) (fp : Nat → Int32), h - i < m_10 → (i ≤ h) → (∀ x, x < i → ft x = ld_wT h (σ 111 0) (σ 0) (σ 1) (σ 2) (σ 3) x) → (∀ x, i ≤ x → x < h → ft x = σ 1 x) → (∀ x, x < i → fs x = ld_wS h (σ 111 0) (σ 0) (σ 1) (σ 2) (σ 3) x) → (∀ x, i ≤ x → x < h → fs x = σ 2 x) → (∀ x, x < i → fp x = ld_wP h (σ 111 0) (σ 0) (σ 1) (σ 2) (σ 3) x) → (∀ x, i ≤ x → x < h → fp x = σ 3 x) → K (us (us (us (us (us (us σ 1 ft) 2 fs) 3 fp) 4 f4_p5) 5 f5_p5) 6 f6_p5) [(0, .ref (ad 1)), (1, .int (nI i))] [] 10 := by
    intro m_10
    induction m_10 with
    | zero => intro i ft fs fp hm_; exact absurd hm_ (Nat.not_lt_zero _)
    | succ m_10 ih10 =>
      intro i ft fs fp hm_10 hi ht ht2 hs hs2 hp hp2
      refine ld_iload_n O (pc := 10) 1 dX1_passWeek_10 rfl rfl ?_
      refine ld_aload_n O (pc := 11) 0 dX1_passWeek_11 rfl rfl ?_
      refine ld_g_now_houses O (pc := 12) (v := nI h) ld_w30 hh dX1_passWeek_12 ?_
      refine ld_icmp_ge O (pc := 15) ((i : Nat) : Int) ((h : Nat) : Int) (nI_toInt (by omega)) (nI_toInt (by omega)) 50 dX1_passWeek_15 (by decide) (fun c1 => ?_) (fun c1 => ?_)
      · refine ld_aload_n O (pc := 50) 0 dX1_passWeek_50 rfl rfl ?_
        refine ld_dup O (pc := 51) dX1_passWeek_51 rfl ?_
        refine ld_g_now_week O (pc := 52) (v := σ 112 0) ld_w32 rfl dX1_passWeek_52 ?_
        refine ld_iconst O (pc := 55) (v := nI 1) dX1_passWeek_55 (by decide) ?_
        refine ld_iadd O (pc := 56) dX1_passWeek_56 ?_
        refine ld_p_now_week O (pc := 57) ld_w32 dX1_passWeek_57 ?_
        refine ld_aload_n O (pc := 60) 0 dX1_passWeek_60 rfl rfl ?_
        refine ld_callVi O (pc := 61) (As := []) (st := []) ld_recv1 (c_X1_without_0 l ad (us (us (us (us (us (us (us σ 1 ft) 2 fs) 3 fp) 4 f4_p5) 5 f5_p5) 6 f6_p5) 112 (fun _ => (σ 112 0) + (nI 1))) h hh h8) ld_mw_X1_withoutStock ld_w271 rfl rfl ⟨by decide, by decide⟩ (Nat.le_of_ble_eq_true rfl) dX1_passWeek_61 (fun r_p61 σ_p61 h_p61 => ?_)
        obtain ⟨rfl, hσ_p61⟩ := h_p61
        rw [hσ_p61]
        show K (us (us (us (us (us (us (us σ 1 ft) 2 fs) 3 fp) 4 f4_p5) 5 f5_p5) 6 f6_p5) 112 (fun _ => (σ 112 0) + (nI 1))) [(0, .ref (ad 1)), (1, .int (nI i))] [.int (nI (ld_wo h fs))] 64
        have hb_ := ld_wo_le h fs
        refine ld_if_le O (pc := 64) ((ld_wo h fs : Nat) : Int) (nI_toInt (by omega)) 77 dX1_passWeek_64 (by decide) (fun c2 => ?_) (fun c2 => ?_)
        · refine ld_vret E dX1_passWeek_77 ?_
          have ei : i = h := by omega
          rw [ei] at ht hs hp
          refine ⟨ft, fs, fp, f4_p5, f5_p5, f6_p5, fun _ => σ 112 0 + nI 1, σ 113, ?_, ht, hs, hp, rfl, (if_neg (by omega)).symm⟩
          funext b_
          by_cases h0_ : b_ = 1
          · subst h0_; first | rfl | (simp (disch := omega) only [us_ne, us_eq]; done)
          by_cases h1_ : b_ = 2
          · subst h1_; first | rfl | (simp (disch := omega) only [us_ne, us_eq]; done)
          by_cases h2_ : b_ = 3
          · subst h2_; first | rfl | (simp (disch := omega) only [us_ne, us_eq]; done)
          by_cases h3_ : b_ = 4
          · subst h3_; first | rfl | (simp (disch := omega) only [us_ne, us_eq]; done)
          by_cases h4_ : b_ = 5
          · subst h4_; first | rfl | (simp (disch := omega) only [us_ne, us_eq]; done)
          by_cases h5_ : b_ = 6
          · subst h5_; first | rfl | (simp (disch := omega) only [us_ne, us_eq]; done)
          by_cases h6_ : b_ = 112
          · subst h6_; first | rfl | (simp (disch := omega) only [us_ne, us_eq]; done)
          by_cases h7_ : b_ = 113
          · subst h7_; first | rfl | (simp (disch := omega) only [us_ne, us_eq]; done)
          simp only [us, h0_, h1_, h2_, h3_, h4_, h5_, h6_, h7_, if_false]
        · refine ld_aload_n O (pc := 67) 0 dX1_passWeek_67 rfl rfl ?_
          refine ld_dup O (pc := 68) dX1_passWeek_68 rfl ?_
          refine ld_g_now_leanWeeks O (pc := 69) (v := σ 113 0) ld_w33 rfl dX1_passWeek_69 ?_
          refine ld_iconst O (pc := 72) (v := nI 1) dX1_passWeek_72 (by decide) ?_
          refine ld_iadd O (pc := 73) dX1_passWeek_73 ?_
          refine ld_p_now_leanWeeks O (pc := 74) ld_w33 dX1_passWeek_74 ?_
          refine ld_vret E dX1_passWeek_77 ?_
          have ei : i = h := by omega
          rw [ei] at ht hs hp
          refine ⟨ft, fs, fp, f4_p5, f5_p5, f6_p5, fun _ => σ 112 0 + nI 1, fun _ => σ 113 0 + nI 1, ?_, ht, hs, hp, rfl, (if_pos (by omega)).symm⟩
          funext b_
          by_cases h0_ : b_ = 1
          · subst h0_; first | rfl | (simp (disch := omega) only [us_ne, us_eq]; done)
          by_cases h1_ : b_ = 2
          · subst h1_; first | rfl | (simp (disch := omega) only [us_ne, us_eq]; done)
          by_cases h2_ : b_ = 3
          · subst h2_; first | rfl | (simp (disch := omega) only [us_ne, us_eq]; done)
          by_cases h3_ : b_ = 4
          · subst h3_; first | rfl | (simp (disch := omega) only [us_ne, us_eq]; done)
          by_cases h4_ : b_ = 5
          · subst h4_; first | rfl | (simp (disch := omega) only [us_ne, us_eq]; done)
          by_cases h5_ : b_ = 6
          · subst h5_; first | rfl | (simp (disch := omega) only [us_ne, us_eq]; done)
          by_cases h6_ : b_ = 112
          · subst h6_; first | rfl | (simp (disch := omega) only [us_ne, us_eq]; done)
          by_cases h7_ : b_ = 113
          · subst h7_; first | rfl | (simp (disch := omega) only [us_ne, us_eq]; done)
          simp only [us, h0_, h1_, h2_, h3_, h4_, h5_, h6_, h7_, if_false]
      · refine ld_aload_n O (pc := 18) 0 dX1_passWeek_18 rfl rfl ?_
        refine ld_g_now_stock O (pc := 19) ld_w36 dX1_passWeek_19 ?_
        refine ld_iload_n O (pc := 22) 1 dX1_passWeek_22 rfl rfl ?_
        refine ld_dup2 O (pc := 23) dX1_passWeek_23 rfl rfl ?_
        refine ld_iald O (pc := 24) 2 i (v := fs i) rfl (by decide) (show i < 8 by omega) rfl dX1_passWeek_24 ?_
        refine ld_aload_n O (pc := 25) 0 dX1_passWeek_25 rfl rfl ?_
        refine ld_g_now_dealt O (pc := 26) ld_w39 dX1_passWeek_26 ?_
        refine ld_iload_n O (pc := 29) 1 dX1_passWeek_29 rfl rfl ?_
        refine ld_iald O (pc := 30) 5 i (v := f5_p5 i) rfl (by decide) (show i < 8 by omega) rfl dX1_passWeek_30 ?_
        refine ld_aload_n O (pc := 31) 0 dX1_passWeek_31 rfl rfl ?_
        refine ld_iload_n O (pc := 32) 1 dX1_passWeek_32 rfl rfl ?_
        refine ld_callVi O (pc := 33) (As := [.int (nI i)]) (st := [.int (f5_p5 i), .int (fs i), .int (nI i), .ref (ad (9 + 2))]) ld_recv1 (c_X1_treesOf_0 l ad (us (us (us (us (us (us σ 1 ft) 2 fs) 3 fp) 4 f4_p5) 5 f5_p5) 6 f6_p5) i (by omega)) ld_mw_X1_treesOf ld_w263 rfl rfl ⟨by decide, by decide⟩ (Nat.le_of_ble_eq_true rfl) dX1_passWeek_33 (fun r_p33 σ_p33 h_p33 => ?_)
        obtain ⟨rfl, hσ_p33⟩ := h_p33
        rw [hσ_p33]
        show K (us (us (us (us (us (us σ 1 ft) 2 fs) 3 fp) 4 f4_p5) 5 f5_p5) 6 f6_p5) [(0, .ref (ad 1)), (1, .int (nI i))] [.int (fp i / nI 4), .int (f5_p5 i), .int (fs i), .int (nI i), .ref (ad (9 + 2))] 36
        refine ld_iadd O (pc := 36) dX1_passWeek_36 ?_
        refine ld_iadd O (pc := 37) dX1_passWeek_37 ?_
        refine ld_iast O (pc := 38) 2 i rfl (by decide) (show i < 8 by omega) dX1_passWeek_38 ?_
        refine ld_aload_n O (pc := 39) 0 dX1_passWeek_39 rfl rfl ?_
        refine ld_iload_n O (pc := 40) 1 dX1_passWeek_40 rfl rfl ?_
        refine ld_callVv O (pc := 41) (As := [.int (nI i)]) (st := []) ld_recv1 (c_X1_suck_0 l ad (us (us (us (us (us (us (us σ 1 ft) 2 fs) 3 fp) 4 f4_p5) 5 f5_p5) 6 f6_p5) 2 (upd (fs) i ((fs i) + ((f5_p5 i) + (fp i / nI 4))))) i (by omega) (ft i) rfl ((fs i) + ((f5_p5 i) + (fp i / nI 4))) (by show (upd (fs) i ((fs i) + ((f5_p5 i) + (fp i / nI 4)))) i = _; exact pk_us) (fp i) rfl) ld_mw_X1_suck ld_w264 rfl rfl ⟨by decide, by decide⟩ (Nat.le_of_ble_eq_true rfl) dX1_passWeek_41 (fun σ_p41 h_p41 => ?_)
        obtain ⟨vt_p41, vs_p41, vp_p41, hσ_p41, hvt_p41, hvs_p41, hvp_p41⟩ := h_p41
        rw [hσ_p41]
        show K (us (us (us (us (us (us (us (us (us (us σ 1 ft) 2 fs) 3 fp) 4 f4_p5) 5 f5_p5) 6 f6_p5) 2 (upd (fs) i ((fs i) + ((f5_p5 i) + (fp i / nI 4))))) 1 (upd (ft) i vt_p41)) 2 (upd (upd (fs) i ((fs i) + ((f5_p5 i) + (fp i / nI 4)))) i vs_p41)) 3 (upd (fp) i vp_p41)) [(0, .ref (ad 1)), (1, .int (nI i))] [] 44
        have hg_ : fs i + (f5_p5 i + fp i / nI 4) = ld_wg h (σ 111 0) (σ 0) (σ 1) (σ 2) (σ 3) i := by rw [hs2 i (Nat.le_refl _) (by omega), hp2 i (Nat.le_refl _) (by omega), hd_p5 i (by omega)]; rfl
        rw [hg_] at hvt_p41 hvs_p41 hvp_p41
        rw [ht2 i (Nat.le_refl _) (by omega)] at hvt_p41
        rw [hp2 i (Nat.le_refl _) (by omega)] at hvp_p41
        have hvt_ : vt_p41 = ld_wT h (σ 111 0) (σ 0) (σ 1) (σ 2) (σ 3) i := hvt_p41
        have hvs_ : vs_p41 = ld_wS h (σ 111 0) (σ 0) (σ 1) (σ 2) (σ 3) i := hvs_p41
        have hvp_ : vp_p41 = ld_wP h (σ 111 0) (σ 0) (σ 1) (σ 2) (σ 3) i := hvp_p41
        refine ld_iincN O (pc := 44) [(1, .int (nI (i + 1))), (0, .ref (ad 1))] 1 dX1_passWeek_44 rfl (by decide) rfl ?_
        refine ld_goto O (pc := 47) 10 dX1_passWeek_47 (by decide) ?_
        refine ld_less O [1, 0] (lv2 := [(0, .ref (ad 1)), (1, .int (nI (i + 1)))]) rfl ?_
        have hs3 : us (us (us (us (us (us (us (us (us (us σ 1 ft) 2 fs) 3 fp) 4 f4_p5) 5 f5_p5) 6 f6_p5) 2 (upd (fs) i ((fs i) + ((f5_p5 i) + (fp i / nI 4))))) 1 (upd (ft) i vt_p41)) 2 (upd (upd (fs) i ((fs i) + ((f5_p5 i) + (fp i / nI 4)))) i vs_p41)) 3 (upd (fp) i vp_p41) = us (us (us (us (us (us σ 1 (upd (ft) i vt_p41)) 2 (upd (upd (fs) i ((fs i) + ((f5_p5 i) + (fp i / nI 4)))) i vs_p41)) 3 (upd (fp) i vp_p41)) 4 f4_p5) 5 f5_p5) 6 f6_p5 := by
          funext b_
          by_cases h0_ : b_ = 1
          · subst h0_; rfl
          by_cases h1_ : b_ = 2
          · subst h1_; rfl
          by_cases h2_ : b_ = 3
          · subst h2_; rfl
          by_cases h3_ : b_ = 4
          · subst h3_; rfl
          by_cases h4_ : b_ = 5
          · subst h4_; rfl
          by_cases h5_ : b_ = 6
          · subst h5_; rfl
          simp only [us, h0_, h1_, h2_, h3_, h4_, h5_, if_false]
        refine ld_cv hs3 ?_
        exact ih10 (i + 1) (upd (ft) i vt_p41) (upd (upd (fs) i ((fs i) + ((f5_p5 i) + (fp i / nI 4)))) i vs_p41) (upd (fp) i vp_p41) (by omega) (by omega) (ld_ext ht hvt_) (ld_exk ht2) (ld_ext (fun x hx => (pk_un (by omega)).trans (hs x hx)) hvs_) (fun x h1 h2 => (pk_un (by omega)).trans ((pk_un (by omega)).trans (hs2 x (by omega) h2))) (ld_ext hp hvp_) (ld_exk hp2)
  refine ld_less O [1, 0] (lv2 := [(0, .ref (ad 1)), (1, .int (nI 0))]) rfl ?_
  have hs4 : us (us (us σ 4 f4_p5) 5 f5_p5) 6 f6_p5 = us (us (us (us (us (us σ 1 (σ 1)) 2 (σ 2)) 3 (σ 3)) 4 f4_p5) 5 f5_p5) 6 f6_p5 := by
    funext b_
    by_cases h0_ : b_ = 4
    · subst h0_; rfl
    by_cases h1_ : b_ = 5
    · subst h1_; rfl
    by_cases h2_ : b_ = 6
    · subst h2_; rfl
    by_cases h3_ : b_ = 1
    · subst h3_; rfl
    by_cases h4_ : b_ = 2
    · subst h4_; rfl
    by_cases h5_ : b_ = 3
    · subst h5_; rfl
    simp only [us, h0_, h1_, h2_, h3_, h4_, h5_, if_false]
  refine ld_cv hs4 ?_
  exact L10 _ 0 (σ 1) (σ 2) (σ 3) (Nat.lt_succ_self _) (Nat.zero_le _) (fun x hx => absurd hx (Nat.not_lt_zero x)) (fun _ _ _ => rfl) (fun x hx => absurd hx (Nat.not_lt_zero x)) (fun _ _ _ => rfl) (fun x hx => absurd hx (Nat.not_lt_zero x)) (fun _ _ _ => rfl)
set_option maxHeartbeats 4000000 in
set_option maxRecDepth 100000 in
theorem c_X1_passWeeks_0 (l : Launch) (ad : Nat → Nat) (σ : ld_St) (h : Nat) (hh : σ 110 0 = nI h) (h8 : h ≤ 8) (n : Nat) (hn : n ≤ 1000) : ld_Ctr l yX1_passWeeks cX1_passWeeks 3 none (3, 68) [.ref (ad 1), .int (nI n)] ad σ (ld_V (fun (σ2 : ld_St) => ∃ ft fs fp f4 f5 f6 fw fl : Nat → Int32, σ2 = us (us (us (us (us (us (us (us σ 1 ft) 2 fs) 3 fp) 4 f4) 5 f5) 6 f6) 112 fw) 113 fl ∧ ld_eqv h (ft, fs, fp) (ld_wks h (σ 111 0) (σ 0) (σ 1, σ 2, σ 3) n) ∧ fw 0 = σ 112 0 + nI n ∧ fl 0 = σ 113 0 + nI (ld_lw h (σ 111 0) (σ 0) (σ 1, σ 2, σ 3) n))) := by
  refine ld_entry (by decide +kernel) (Nat.le_of_ble_eq_true rfl) (fun K O E => ?_)
  have O : ld_Ok l K ad cX1_passWeeks 3 RX1 (ld_rm (3, 68)) := O
  show K σ [(0, .ref (ad 1)), (1, .int (nI n))] [] 0
  refine ld_iconst O (pc := 0) (v := nI 0) dX1_passWeeks_0 (by decide) ?_
  refine ld_istore_n O (pc := 1) [(2, .int (nI 0)), (0, .ref (ad 1)), (1, .int (nI n))] dX1_passWeeks_1 rfl (by decide) rfl ?_
  have L2 : ∀ (m_2 : Nat) (i : Nat) (ft : Nat → Int32) (fs : Nat → Int32) (fp : Nat → Int32) (f4 : Nat → Int32) (f5 : Nat → Int32) (f6 : Nat → Int32) (fw : Nat → Int32) (fl : Nat → Int32), n - i < m_2 → (i ≤ n) → (ld_eqv h (ft, fs, fp) (ld_wks h (σ 111 0) (σ 0) (σ 1, σ 2, σ 3) i)) → (fw 0 = σ 112 0 + nI i) → (fl 0 = σ 113 0 + nI (ld_lw h (σ 111 0) (σ 0) (σ 1, σ 2, σ 3) i)) → K (us (us (us (us (us (us (us (us σ 1 ft) 2 fs) 3 fp) 4 f4) 5 f5) 6 f6) 112 fw) 113 fl) [(0, .ref (ad 1)), (1, .int (nI n)), (2, .int (nI i))] [] 2 := by
    intro m_2
    induction m_2 with
    | zero => intro i ft fs fp f4 f5 f6 fw fl hm_; exact absurd hm_ (Nat.not_lt_zero _)
    | succ m_2 ih2 =>
      intro i ft fs fp f4 f5 f6 fw fl hm_2 hi he hw hl
      refine ld_iload_n O (pc := 2) 2 dX1_passWeeks_2 rfl rfl ?_
      refine ld_iload_n O (pc := 3) 1 dX1_passWeeks_3 rfl rfl ?_
      refine ld_icmp_ge O (pc := 4) ((i : Nat) : Int) ((n : Nat) : Int) (nI_toInt (by omega)) (nI_toInt (by omega)) 17 dX1_passWeeks_4 (by decide) (fun c1 => ?_) (fun c1 => ?_)
      · refine ld_vret E dX1_passWeeks_17 ?_
        have ei : i = n := by omega
        rw [ei] at he hw hl
        exact ⟨_, _, _, _, _, _, _, _, rfl, he, hw, hl⟩
      · refine ld_aload_n O (pc := 7) 0 dX1_passWeeks_7 rfl rfl ?_
        refine ld_callVv O (pc := 8) (As := []) (st := []) ld_recv1 (c_X1_passWeek_0 l ad (us (us (us (us (us (us (us (us σ 1 ft) 2 fs) 3 fp) 4 f4) 5 f5) 6 f6) 112 fw) 113 fl) h hh h8) ld_mw_X1_passWeek ld_w259 rfl rfl ⟨by decide, by decide⟩ (Nat.le_of_ble_eq_true rfl) dX1_passWeeks_8 (fun σ_p8 h_p8 => ?_)
        obtain ⟨ft_p8, fs_p8, fp_p8, f4_p8, f5_p8, f6_p8, fw_p8, fl_p8, hσ_p8, ht_p8, hs_p8, hp_p8, hw_p8, hl_p8⟩ := h_p8
        rw [hσ_p8]
        have ht_p8 : ∀ x, x < h → ft_p8 x = ld_wT h (σ 111 0) (σ 0) ft fs fp x := ht_p8
        have hs_p8 : ∀ x, x < h → fs_p8 x = ld_wS h (σ 111 0) (σ 0) ft fs fp x := hs_p8
        have hp_p8 : ∀ x, x < h → fp_p8 x = ld_wP h (σ 111 0) (σ 0) ft fs fp x := hp_p8
        have hw_p8 : fw_p8 0 = (fw 0) + nI 1 := hw_p8
        have hl_p8 : fl_p8 0 = (if 0 < ld_wo h fs_p8 then (fl 0) + nI 1 else (fl 0)) := hl_p8
        show K (us (us (us (us (us (us (us (us (us (us (us (us (us (us (us (us σ 1 ft) 2 fs) 3 fp) 4 f4) 5 f5) 6 f6) 112 fw) 113 fl) 1 ft_p8) 2 fs_p8) 3 fp_p8) 4 f4_p8) 5 f5_p8) 6 f6_p8) 112 fw_p8) 113 fl_p8) [(0, .ref (ad 1)), (1, .int (nI n)), (2, .int (nI i))] [] 11
        have he_ : ld_eqv h (ft_p8, fs_p8, fp_p8) (ld_wks h (σ 111 0) (σ 0) (σ 1, σ 2, σ 3) (i + 1)) := ld_eqv.tr (U := ld_wk h (σ 111 0) (σ 0) (ft, fs, fp)) (fun x hx => ⟨ht_p8 x hx, hs_p8 x hx, hp_p8 x hx⟩) (ld_wk_cong he)
        refine ld_iincN O (pc := 11) [(2, .int (nI (i + 1))), (0, .ref (ad 1)), (1, .int (nI n))] 2 dX1_passWeeks_11 rfl (by decide) rfl ?_
        refine ld_goto O (pc := 14) 2 dX1_passWeeks_14 (by decide) ?_
        refine ld_less O [1, 2, 0] (lv2 := [(0, .ref (ad 1)), (1, .int (nI n)), (2, .int (nI (i + 1)))]) rfl ?_
        have hs2 : us (us (us (us (us (us (us (us (us (us (us (us (us (us (us (us σ 1 ft) 2 fs) 3 fp) 4 f4) 5 f5) 6 f6) 112 fw) 113 fl) 1 ft_p8) 2 fs_p8) 3 fp_p8) 4 f4_p8) 5 f5_p8) 6 f6_p8) 112 fw_p8) 113 fl_p8 = us (us (us (us (us (us (us (us σ 1 ft_p8) 2 fs_p8) 3 fp_p8) 4 f4_p8) 5 f5_p8) 6 f6_p8) 112 fw_p8) 113 fl_p8 := by
          funext b_
          by_cases h0_ : b_ = 1
          · subst h0_; rfl
          by_cases h1_ : b_ = 2
          · subst h1_; rfl
          by_cases h2_ : b_ = 3
          · subst h2_; rfl
          by_cases h3_ : b_ = 4
          · subst h3_; rfl
          by_cases h4_ : b_ = 5
          · subst h4_; rfl
          by_cases h5_ : b_ = 6
          · subst h5_; rfl
          by_cases h6_ : b_ = 112
          · subst h6_; rfl
          by_cases h7_ : b_ = 113
          · subst h7_; rfl
          simp only [us, h0_, h1_, h2_, h3_, h4_, h5_, h6_, h7_, if_false]
        refine ld_cv hs2 ?_
        exact ih2 (i + 1) ft_p8 fs_p8 fp_p8 f4_p8 f5_p8 f6_p8 fw_p8 fl_p8 (by omega) (by omega) (he_) (by rw [hw_p8, hw, Int32.add_assoc, nI_add]) (ld_lw_step hl (fun x hx => (he_ x hx).2.1) hl_p8)
  refine ld_less O [1, 2, 0] (lv2 := [(0, .ref (ad 1)), (1, .int (nI n)), (2, .int (nI 0))]) rfl ?_
  have hs3 : σ = us (us (us (us (us (us (us (us σ 1 (σ 1)) 2 (σ 2)) 3 (σ 3)) 4 (σ 4)) 5 (σ 5)) 6 (σ 6)) 112 (σ 112)) 113 (σ 113) := by
    funext b_
    by_cases h0_ : b_ = 1
    · subst h0_; rfl
    by_cases h1_ : b_ = 2
    · subst h1_; rfl
    by_cases h2_ : b_ = 3
    · subst h2_; rfl
    by_cases h3_ : b_ = 4
    · subst h3_; rfl
    by_cases h4_ : b_ = 5
    · subst h4_; rfl
    by_cases h5_ : b_ = 6
    · subst h5_; rfl
    by_cases h6_ : b_ = 112
    · subst h6_; rfl
    by_cases h7_ : b_ = 113
    · subst h7_; rfl
    simp only [us, h0_, h1_, h2_, h3_, h4_, h5_, h6_, h7_, if_false]
  refine ld_cv hs3 ?_
  exact L2 _ 0 (σ 1) (σ 2) (σ 3) (σ 4) (σ 5) (σ 6) (σ 112) (σ 113) (Nat.lt_succ_self _) (Nat.zero_le _) ld_eqv.rf (Int32.add_zero _).symm (Int32.add_zero _).symm
set_option maxHeartbeats 4000000 in
set_option maxRecDepth 100000 in
theorem c_X1_give_0 (l : Launch) (ad : Nat → Nat) (σ : ld_St) (h : Nat) (hh : σ 110 0 = nI h) (h8 : h ≤ 8) (k : Nat) (hk : k < h) : ld_Ctr l yX1_giveOneFrom cX1_giveOneFrom 2 (some .boolean) (0, 0) [.ref (ad 1), .int (nI k)] ad σ (ld_I (fun (r : Int32) (σ2 : ld_St) => r = ld_b (0 < (σ 2 k).toInt) ∧ ∃ f : Nat → Int32, σ2 = us σ 2 f ∧ (0 < (σ 2 k).toInt → f = ld_gv h (σ 2) k) ∧ (¬ 0 < (σ 2 k).toInt → f = σ 2))) := by
  refine ld_entry (by decide +kernel) (Nat.le_of_ble_eq_true rfl) (fun K O E => ?_)
  have O : ld_Ok l K ad cX1_giveOneFrom 2 RX1 (ld_rm (0, 0)) := O
  show K σ [(0, .ref (ad 1)), (1, .int (nI k))] [] 0
  refine ld_aload_n O (pc := 0) 0 dX1_giveOneFrom_0 rfl rfl ?_
  refine ld_g_now_stock O (pc := 1) ld_w36 dX1_giveOneFrom_1 ?_
  refine ld_iload_n O (pc := 4) 1 dX1_giveOneFrom_4 rfl rfl ?_
  refine ld_iald O (pc := 5) 2 k (v := σ 2 k) rfl (by decide) (show k < 8 by omega) rfl dX1_giveOneFrom_5 ?_
  refine ld_if_gt O (pc := 6) (σ 2 k).toInt rfl 11 dX1_giveOneFrom_6 (by decide) (fun c1 => ?_) (fun c1 => ?_)
  · refine ld_aload_n O (pc := 11) 0 dX1_giveOneFrom_11 rfl rfl ?_
    refine ld_g_now_stock O (pc := 12) ld_w36 dX1_giveOneFrom_12 ?_
    refine ld_iload_n O (pc := 15) 1 dX1_giveOneFrom_15 rfl rfl ?_
    refine ld_dup2 O (pc := 16) dX1_giveOneFrom_16 rfl rfl ?_
    refine ld_iald O (pc := 17) 2 k (v := σ 2 k) rfl (by decide) (show k < 8 by omega) rfl dX1_giveOneFrom_17 ?_
    refine ld_iconst O (pc := 18) (v := nI 1) dX1_giveOneFrom_18 (by decide) ?_
    refine ld_isub O (pc := 19) dX1_giveOneFrom_19 ?_
    refine ld_iast O (pc := 20) 2 k rfl (by decide) (show k < 8 by omega) dX1_giveOneFrom_20 ?_
    refine ld_aload_n O (pc := 21) 0 dX1_giveOneFrom_21 rfl rfl ?_
    refine ld_g_now_stock O (pc := 22) ld_w36 dX1_giveOneFrom_22 ?_
    refine ld_iload_n O (pc := 25) 1 dX1_giveOneFrom_25 rfl rfl ?_
    refine ld_iconst O (pc := 26) (v := nI 1) dX1_giveOneFrom_26 (by decide) ?_
    refine ld_iaddN O (pc := 27) dX1_giveOneFrom_27 ?_
    refine ld_aload_n O (pc := 28) 0 dX1_giveOneFrom_28 rfl rfl ?_
    refine ld_g_now_houses O (pc := 29) (v := nI h) ld_w30 hh dX1_giveOneFrom_29 ?_
    refine ld_icmp_ge O (pc := 32) ((k + 1 : Nat) : Int) ((h : Nat) : Int) (nI_toInt (by omega)) (nI_toInt (by omega)) 41 dX1_giveOneFrom_32 (by decide) (fun c2 => ?_) (fun c2 => ?_)
    · refine ld_iconst O (pc := 41) (v := nI 0) dX1_giveOneFrom_41 (by decide) ?_
      refine ld_dup2 O (pc := 42) dX1_giveOneFrom_42 rfl rfl ?_
      refine ld_iald O (pc := 43) 2 0 (v := (upd (σ 2) k ((σ 2 k) - (nI 1))) 0) rfl (by decide) (show 0 < 8 by omega) rfl dX1_giveOneFrom_43 ?_
      refine ld_iconst O (pc := 44) (v := nI 1) dX1_giveOneFrom_44 (by decide) ?_
      refine ld_iadd O (pc := 45) dX1_giveOneFrom_45 ?_
      refine ld_iast O (pc := 46) 2 0 rfl (by decide) (show 0 < 8 by omega) dX1_giveOneFrom_46 ?_
      refine ld_iconst O (pc := 47) (v := nI 1) dX1_giveOneFrom_47 (by decide) ?_
      refine ld_iretz E (Or.inr rfl) dX1_giveOneFrom_48 ?_
      refine ⟨(ld_b_t (by omega)).symm, _, us_us _ _ _ _, fun _ => ?_, fun z => absurd (by omega) z⟩
      unfold ld_gv ld_nb
      rw [if_neg (by omega)]
      rfl
    · refine ld_iload_n O (pc := 35) 1 dX1_giveOneFrom_35 rfl rfl ?_
      refine ld_iconst O (pc := 36) (v := nI 1) dX1_giveOneFrom_36 (by decide) ?_
      refine ld_iaddN O (pc := 37) dX1_giveOneFrom_37 ?_
      refine ld_goto O (pc := 38) 42 dX1_giveOneFrom_38 (by decide) ?_
      refine ld_dup2 O (pc := 42) dX1_giveOneFrom_42 rfl rfl ?_
      refine ld_iald O (pc := 43) 2 (k + 1) (v := (upd (σ 2) k ((σ 2 k) - (nI 1))) (k + 1)) rfl (by decide) (show k + 1 < 8 by omega) rfl dX1_giveOneFrom_43 ?_
      refine ld_iconst O (pc := 44) (v := nI 1) dX1_giveOneFrom_44 (by decide) ?_
      refine ld_iadd O (pc := 45) dX1_giveOneFrom_45 ?_
      refine ld_iast O (pc := 46) 2 (k + 1) rfl (by decide) (show k + 1 < 8 by omega) dX1_giveOneFrom_46 ?_
      refine ld_iconst O (pc := 47) (v := nI 1) dX1_giveOneFrom_47 (by decide) ?_
      refine ld_iretz E (Or.inr rfl) dX1_giveOneFrom_48 ?_
      refine ⟨(ld_b_t (by omega)).symm, _, us_us _ _ _ _, fun _ => ?_, fun z => absurd (by omega) z⟩
      unfold ld_gv ld_nb
      rw [if_pos (by omega)]
      rfl
  · refine ld_iconst O (pc := 9) (v := nI 0) dX1_giveOneFrom_9 (by decide) ?_
    refine ld_iretz E (Or.inl rfl) dX1_giveOneFrom_10 ?_
    exact ⟨(ld_b_f (by omega)).symm, σ 2, (us_self _ _).symm, fun z => absurd z (by omega), fun _ => rfl⟩
set_option maxHeartbeats 4000000 in
set_option maxRecDepth 100000 in
theorem c_X1_suck_1 (l : Launch) (ad : Nat → Nat) (σ : ld_St) (k : Nat) (hk : k < 8) (tk : Int32) (htk : σ 8 k = tk) (sk : Int32) (hsk : σ 9 k = sk) (pk : Int32) (hpk : σ 10 k = pk) : ld_Ctr l yX1_suck cX1_suck 2 none (1, 21) [.ref (ad 2), .int (nI k)] ad σ (ld_V (fun (σ2 : ld_St) => ∃ vt vs vp : Int32, σ2 = us (us (us σ 8 (upd (σ 8) k vt)) 9 (upd (σ 9) k vs)) 10 (upd (σ 10) k vp) ∧ vt = (if sk.toInt ≤ 0 then (if nI 9 < tk + nI 1 then nI 9 else tk + nI 1) else (if tk - nI 1 < nI 0 then nI 0 else tk - nI 1)) ∧ vs = (if sk.toInt ≤ 0 then sk else sk - nI 1) ∧ vp = (if sk.toInt ≤ 0 then pk else pk + nI 1))) := by
  refine ld_entry (by decide +kernel) (Nat.le_of_ble_eq_true rfl) (fun K O E => ?_)
  have O : ld_Ok l K ad cX1_suck 2 RX1 (ld_rm (1, 21)) := O
  show K σ [(0, .ref (ad 2)), (1, .int (nI k))] [] 0
  refine ld_aload_n O (pc := 0) 0 dX1_suck_0 rfl rfl ?_
  refine ld_g_trial_stock O (pc := 1) ld_w36 dX1_suck_1 ?_
  refine ld_iload_n O (pc := 4) 1 dX1_suck_4 rfl rfl ?_
  refine ld_iald O (pc := 5) 9 k (v := σ 9 k) rfl (by decide) (show k < 8 by omega) rfl dX1_suck_5 ?_
  rw [hsk]
  refine ld_if_le O (pc := 6) (sk).toInt rfl 50 dX1_suck_6 (by decide) (fun c1 => ?_) (fun c1 => ?_)
  · refine ld_aload_n O (pc := 50) 0 dX1_suck_50 rfl rfl ?_
    refine ld_g_trial_temper O (pc := 51) ld_w35 dX1_suck_51 ?_
    refine ld_iload_n O (pc := 54) 1 dX1_suck_54 rfl rfl ?_
    refine ld_aload_n O (pc := 55) 0 dX1_suck_55 rfl rfl ?_
    refine ld_g_trial_temper O (pc := 56) ld_w35 dX1_suck_56 ?_
    refine ld_iload_n O (pc := 59) 1 dX1_suck_59 rfl rfl ?_
    refine ld_iald O (pc := 60) 8 k (v := σ 8 k) rfl (by decide) (show k < 8 by omega) rfl dX1_suck_60 ?_
    refine ld_iconst O (pc := 61) (v := nI 1) dX1_suck_61 (by decide) ?_
    refine ld_iadd O (pc := 62) dX1_suck_62 ?_
    refine ld_bipush O (pc := 63) (v := nI 9) dX1_suck_63 (by decide) ?_
    refine ld_mmin O (pc := 65) ld_w108 (by decide) (Nat.le_of_ble_eq_true rfl) dX1_suck_65 ?_
    refine ld_iast O (pc := 68) 8 k rfl (by decide) (show k < 8 by omega) dX1_suck_68 ?_
    refine ld_vret E dX1_suck_69 ?_
    refine ⟨_, sk, pk, ?_, rfl, (if_pos c1).symm, (if_pos c1).symm⟩
    rw [if_pos c1, fa_upd_same hsk, fa_upd_same hpk, ← htk]
    funext b_
    by_cases h0_ : b_ = 8
    · subst h0_; first | rfl | (simp (disch := omega) only [us_ne, us_eq]; done)
    by_cases h1_ : b_ = 9
    · subst h1_; first | rfl | (simp (disch := omega) only [us_ne, us_eq]; done)
    by_cases h2_ : b_ = 10
    · subst h2_; first | rfl | (simp (disch := omega) only [us_ne, us_eq]; done)
    simp only [us, h0_, h1_, h2_, if_false]
  · refine ld_aload_n O (pc := 9) 0 dX1_suck_9 rfl rfl ?_
    refine ld_g_trial_stock O (pc := 10) ld_w36 dX1_suck_10 ?_
    refine ld_iload_n O (pc := 13) 1 dX1_suck_13 rfl rfl ?_
    refine ld_dup2 O (pc := 14) dX1_suck_14 rfl rfl ?_
    refine ld_iald O (pc := 15) 9 k (v := σ 9 k) rfl (by decide) (show k < 8 by omega) rfl dX1_suck_15 ?_
    refine ld_iconst O (pc := 16) (v := nI 1) dX1_suck_16 (by decide) ?_
    refine ld_isub O (pc := 17) dX1_suck_17 ?_
    refine ld_iast O (pc := 18) 9 k rfl (by decide) (show k < 8 by omega) dX1_suck_18 ?_
    refine ld_aload_n O (pc := 19) 0 dX1_suck_19 rfl rfl ?_
    refine ld_g_trial_temper O (pc := 20) ld_w35 dX1_suck_20 ?_
    refine ld_iload_n O (pc := 23) 1 dX1_suck_23 rfl rfl ?_
    refine ld_aload_n O (pc := 24) 0 dX1_suck_24 rfl rfl ?_
    refine ld_g_trial_temper O (pc := 25) ld_w35 dX1_suck_25 ?_
    refine ld_iload_n O (pc := 28) 1 dX1_suck_28 rfl rfl ?_
    refine ld_iald O (pc := 29) 8 k (v := σ 8 k) rfl (by decide) (show k < 8 by omega) rfl dX1_suck_29 ?_
    refine ld_iconst O (pc := 30) (v := nI 1) dX1_suck_30 (by decide) ?_
    refine ld_isub O (pc := 31) dX1_suck_31 ?_
    refine ld_iconst O (pc := 32) (v := nI 0) dX1_suck_32 (by decide) ?_
    refine ld_mmax O (pc := 33) ld_w268 (by decide) (Nat.le_of_ble_eq_true rfl) dX1_suck_33 ?_
    refine ld_iast O (pc := 36) 8 k rfl (by decide) (show k < 8 by omega) dX1_suck_36 ?_
    refine ld_aload_n O (pc := 37) 0 dX1_suck_37 rfl rfl ?_
    refine ld_g_trial_pips O (pc := 38) ld_w37 dX1_suck_38 ?_
    refine ld_iload_n O (pc := 41) 1 dX1_suck_41 rfl rfl ?_
    refine ld_dup2 O (pc := 42) dX1_suck_42 rfl rfl ?_
    refine ld_iald O (pc := 43) 10 k (v := σ 10 k) rfl (by decide) (show k < 8 by omega) rfl dX1_suck_43 ?_
    refine ld_iconst O (pc := 44) (v := nI 1) dX1_suck_44 (by decide) ?_
    refine ld_iadd O (pc := 45) dX1_suck_45 ?_
    refine ld_iast O (pc := 46) 10 k rfl (by decide) (show k < 8 by omega) dX1_suck_46 ?_
    refine ld_goto O (pc := 47) 69 dX1_suck_47 (by decide) ?_
    refine ld_vret E dX1_suck_69 ?_
    refine ⟨_, _, _, ?_, rfl, rfl, rfl⟩
    rw [if_neg c1, if_neg c1, if_neg c1, ← hsk, ← htk, ← hpk]
    funext b_
    by_cases h0_ : b_ = 9
    · subst h0_; first | rfl | (simp (disch := omega) only [us_ne, us_eq]; done)
    by_cases h1_ : b_ = 8
    · subst h1_; first | rfl | (simp (disch := omega) only [us_ne, us_eq]; done)
    by_cases h2_ : b_ = 10
    · subst h2_; first | rfl | (simp (disch := omega) only [us_ne, us_eq]; done)
    simp only [us, h0_, h1_, h2_, if_false]
set_option maxHeartbeats 4000000 in
set_option maxRecDepth 100000 in
theorem c_X1_without_1 (l : Launch) (ad : Nat → Nat) (σ : ld_St) (h : Nat) (hh : σ 120 0 = nI h) (h8 : h ≤ 8) : ld_Ctr l yX1_withoutStock cX1_withoutStock 3 (some .int) (0, 0) [.ref (ad 2)] ad σ (ld_I (fun (r : Int32) (σ2 : ld_St) => r = nI (ld_wo h (σ 9)) ∧ σ2 = σ)) := by
  refine ld_entry (by decide +kernel) (Nat.le_of_ble_eq_true rfl) (fun K O E => ?_)
  have O : ld_Ok l K ad cX1_withoutStock 3 RX1 (ld_rm (0, 0)) := O
  show K σ [(0, .ref (ad 2))] [] 0
  refine ld_iconst O (pc := 0) (v := nI 0) dX1_withoutStock_0 (by decide) ?_
  refine ld_istore_n O (pc := 1) [(1, .int (nI 0)), (0, .ref (ad 2))] dX1_withoutStock_1 rfl (by decide) rfl ?_
  refine ld_iconst O (pc := 2) (v := nI 0) dX1_withoutStock_2 (by decide) ?_
  refine ld_istore_n O (pc := 3) [(2, .int (nI 0)), (1, .int (nI 0)), (0, .ref (ad 2))] dX1_withoutStock_3 rfl (by decide) rfl ?_
  have L4 : ∀ (m_4 : Nat) (i : Nat) (m : Nat), h - i < m_4 → (i ≤ h) → (m = fb_ct (ld_wp (σ 9)) i) → K σ [(0, .ref (ad 2)), (1, .int (nI m)), (2, .int (nI i))] [] 4 := by
    intro m_4
    induction m_4 with
    | zero => intro i m hm_; exact absurd hm_ (Nat.not_lt_zero _)
    | succ m_4 ih4 =>
      intro i m hm_4 hi hm
      refine ld_iload_n O (pc := 4) 2 dX1_withoutStock_4 rfl rfl ?_
      refine ld_aload_n O (pc := 5) 0 dX1_withoutStock_5 rfl rfl ?_
      refine ld_g_trial_houses O (pc := 6) (v := nI h) ld_w30 hh dX1_withoutStock_6 ?_
      refine ld_icmp_ge O (pc := 9) ((i : Nat) : Int) ((h : Nat) : Int) (nI_toInt (by omega)) (nI_toInt (by omega)) 30 dX1_withoutStock_9 (by decide) (fun c1 => ?_) (fun c1 => ?_)
      · refine ld_iload_n O (pc := 30) 1 dX1_withoutStock_30 rfl rfl ?_
        refine ld_ireti E dX1_withoutStock_31 ?_
        exact ⟨by rw [hm, show i = h by omega]; rfl, rfl⟩
      · refine ld_aload_n O (pc := 12) 0 dX1_withoutStock_12 rfl rfl ?_
        refine ld_g_trial_stock O (pc := 13) ld_w36 dX1_withoutStock_13 ?_
        refine ld_iload_n O (pc := 16) 2 dX1_withoutStock_16 rfl rfl ?_
        refine ld_iald O (pc := 17) 9 i (v := σ 9 i) rfl (by decide) (show i < 8 by omega) rfl dX1_withoutStock_17 ?_
        refine ld_if_gt O (pc := 18) (σ 9 i).toInt rfl 24 dX1_withoutStock_18 (by decide) (fun c2 => ?_) (fun c2 => ?_)
        · refine ld_iincN O (pc := 24) [(2, .int (nI (i + 1))), (0, .ref (ad 2)), (1, .int (nI m))] 2 dX1_withoutStock_24 rfl (by decide) rfl ?_
          refine ld_goto O (pc := 27) 4 dX1_withoutStock_27 (by decide) ?_
          refine ld_less O [1, 2, 0] (lv2 := [(0, .ref (ad 2)), (1, .int (nI m)), (2, .int (nI (i + 1)))]) rfl ?_
          exact ih4 (i + 1) m (by omega) (by omega) (ld_ct_f hm (by unfold ld_wp; intro z; have z2 := of_decide_eq_true z; omega))
        · refine ld_iincN O (pc := 21) [(1, .int (nI (m + 1))), (0, .ref (ad 2)), (2, .int (nI i))] 1 dX1_withoutStock_21 rfl (by decide) rfl ?_
          refine ld_iincN O (pc := 24) [(2, .int (nI (i + 1))), (1, .int (nI (m + 1))), (0, .ref (ad 2))] 2 dX1_withoutStock_24 rfl (by decide) rfl ?_
          refine ld_goto O (pc := 27) 4 dX1_withoutStock_27 (by decide) ?_
          refine ld_less O [2, 1, 0] (lv2 := [(0, .ref (ad 2)), (1, .int (nI (m + 1))), (2, .int (nI (i + 1)))]) rfl ?_
          exact ih4 (i + 1) (m + 1) (by omega) (by omega) (ld_ct_t hm (by unfold ld_wp; exact decide_eq_true (by omega)))
  refine ld_less O [2, 1, 0] (lv2 := [(0, .ref (ad 2)), (1, .int (nI 0)), (2, .int (nI 0))]) rfl ?_
  exact L4 _ 0 0 (Nat.lt_succ_self _) (Nat.zero_le _) rfl
set_option maxHeartbeats 4000000 in
set_option maxRecDepth 100000 in
theorem c_X1_passWeek_1 (l : Launch) (ad : Nat → Nat) (σ : ld_St) (h : Nat) (hh : σ 120 0 = nI h) (h8 : h ≤ 8) : ld_Ctr l yX1_passWeek cX1_passWeek 2 none (2, 47) [.ref (ad 2)] ad σ (ld_V (fun (σ2 : ld_St) => ∃ ft fs fp f4 f5 f6 fw fl : Nat → Int32, σ2 = us (us (us (us (us (us (us (us σ 8 ft) 9 fs) 10 fp) 11 f4) 12 f5) 13 f6) 122 fw) 123 fl ∧ (∀ x, x < h → ft x = ld_wT h (σ 121 0) (σ 7) (σ 8) (σ 9) (σ 10) x) ∧ (∀ x, x < h → fs x = ld_wS h (σ 121 0) (σ 7) (σ 8) (σ 9) (σ 10) x) ∧ (∀ x, x < h → fp x = ld_wP h (σ 121 0) (σ 7) (σ 8) (σ 9) (σ 10) x) ∧ fw 0 = σ 122 0 + nI 1 ∧ fl 0 = (if 0 < ld_wo h fs then σ 123 0 + nI 1 else σ 123 0))) := by
  refine ld_entry (by decide +kernel) (Nat.le_of_ble_eq_true rfl) (fun K O E => ?_)
  have O : ld_Ok l K ad cX1_passWeek 2 RX1 (ld_rm (2, 47)) := O
  show K σ [(0, .ref (ad 2))] [] 0
  refine ld_aload_n O (pc := 0) 0 dX1_passWeek_0 rfl rfl ?_
  refine ld_aload_n O (pc := 1) 0 dX1_passWeek_1 rfl rfl ?_
  refine ld_g_trial_crate O (pc := 2) (v := σ 121 0) ld_w31 rfl dX1_passWeek_2 ?_
  refine ld_callVv O (pc := 5) (As := [.int (σ 121 0)]) (st := []) ld_recv2 (c_X1_dealOut_1 l ad σ h hh h8 (σ 121 0)) ld_mw_X1_dealOut ld_w181 rfl rfl ⟨by decide, by decide⟩ (Nat.le_of_ble_eq_true rfl) dX1_passWeek_5 (fun σ_p5 h_p5 => ?_)
  obtain ⟨f4_p5, f5_p5, f6_p5, hσ_p5, hd_p5⟩ := h_p5
  rw [hσ_p5]
  have hd_p5 : ∀ x, x < h → f5_p5 x = ld_dt h (σ 7) (σ 8) (σ 121 0) x := hd_p5
  show K (us (us (us σ 11 f4_p5) 12 f5_p5) 13 f6_p5) [(0, .ref (ad 2))] [] 8
  refine ld_iconst O (pc := 8) (v := nI 0) dX1_passWeek_8 (by decide) ?_
  refine ld_istore_n O (pc := 9) [(1, .int (nI 0)), (0, .ref (ad 2))] dX1_passWeek_9 rfl (by decide) rfl ?_
  have L10 : ∀ (m_10 : Nat) (i : Nat) (ft : Nat → Int32) (fs : Nat → Int32) (fp : Nat → Int32), h - i < m_10 → (i ≤ h) → (∀ x, x < i → ft x = ld_wT h (σ 121 0) (σ 7) (σ 8) (σ 9) (σ 10) x) → (∀ x, i ≤ x → x < h → ft x = σ 8 x) → (∀ x, x < i → fs x = ld_wS h (σ 121 0) (σ 7) (σ 8) (σ 9) (σ 10) x) → (∀ x, i ≤ x → x < h → fs x = σ 9 x) → (∀ x, x < i → fp x = ld_wP h (σ 121 0) (σ 7) (σ 8) (σ 9) (σ 10) x) → (∀ x, i ≤ x → x < h → fp x = σ 10 x) → K (us (us (us (us (us (us σ 8 ft) 9 fs) 10 fp) 11 f4_p5) 12 f5_p5) 13 f6_p5) [(0, .ref (ad 2)), (1, .int (nI i))] [] 10 := by
    intro m_10
    induction m_10 with
    | zero => intro i ft fs fp hm_; exact absurd hm_ (Nat.not_lt_zero _)
    | succ m_10 ih10 =>
      intro i ft fs fp hm_10 hi ht ht2 hs hs2 hp hp2
      refine ld_iload_n O (pc := 10) 1 dX1_passWeek_10 rfl rfl ?_
      refine ld_aload_n O (pc := 11) 0 dX1_passWeek_11 rfl rfl ?_
      refine ld_g_trial_houses O (pc := 12) (v := nI h) ld_w30 hh dX1_passWeek_12 ?_
      refine ld_icmp_ge O (pc := 15) ((i : Nat) : Int) ((h : Nat) : Int) (nI_toInt (by omega)) (nI_toInt (by omega)) 50 dX1_passWeek_15 (by decide) (fun c1 => ?_) (fun c1 => ?_)
      · refine ld_aload_n O (pc := 50) 0 dX1_passWeek_50 rfl rfl ?_
        refine ld_dup O (pc := 51) dX1_passWeek_51 rfl ?_
        refine ld_g_trial_week O (pc := 52) (v := σ 122 0) ld_w32 rfl dX1_passWeek_52 ?_
        refine ld_iconst O (pc := 55) (v := nI 1) dX1_passWeek_55 (by decide) ?_
        refine ld_iadd O (pc := 56) dX1_passWeek_56 ?_
        refine ld_p_trial_week O (pc := 57) ld_w32 dX1_passWeek_57 ?_
        refine ld_aload_n O (pc := 60) 0 dX1_passWeek_60 rfl rfl ?_
        refine ld_callVi O (pc := 61) (As := []) (st := []) ld_recv2 (c_X1_without_1 l ad (us (us (us (us (us (us (us σ 8 ft) 9 fs) 10 fp) 11 f4_p5) 12 f5_p5) 13 f6_p5) 122 (fun _ => (σ 122 0) + (nI 1))) h hh h8) ld_mw_X1_withoutStock ld_w271 rfl rfl ⟨by decide, by decide⟩ (Nat.le_of_ble_eq_true rfl) dX1_passWeek_61 (fun r_p61 σ_p61 h_p61 => ?_)
        obtain ⟨rfl, hσ_p61⟩ := h_p61
        rw [hσ_p61]
        show K (us (us (us (us (us (us (us σ 8 ft) 9 fs) 10 fp) 11 f4_p5) 12 f5_p5) 13 f6_p5) 122 (fun _ => (σ 122 0) + (nI 1))) [(0, .ref (ad 2)), (1, .int (nI i))] [.int (nI (ld_wo h fs))] 64
        have hb_ := ld_wo_le h fs
        refine ld_if_le O (pc := 64) ((ld_wo h fs : Nat) : Int) (nI_toInt (by omega)) 77 dX1_passWeek_64 (by decide) (fun c2 => ?_) (fun c2 => ?_)
        · refine ld_vret E dX1_passWeek_77 ?_
          have ei : i = h := by omega
          rw [ei] at ht hs hp
          refine ⟨ft, fs, fp, f4_p5, f5_p5, f6_p5, fun _ => σ 122 0 + nI 1, σ 123, ?_, ht, hs, hp, rfl, (if_neg (by omega)).symm⟩
          funext b_
          by_cases h0_ : b_ = 8
          · subst h0_; first | rfl | (simp (disch := omega) only [us_ne, us_eq]; done)
          by_cases h1_ : b_ = 9
          · subst h1_; first | rfl | (simp (disch := omega) only [us_ne, us_eq]; done)
          by_cases h2_ : b_ = 10
          · subst h2_; first | rfl | (simp (disch := omega) only [us_ne, us_eq]; done)
          by_cases h3_ : b_ = 11
          · subst h3_; first | rfl | (simp (disch := omega) only [us_ne, us_eq]; done)
          by_cases h4_ : b_ = 12
          · subst h4_; first | rfl | (simp (disch := omega) only [us_ne, us_eq]; done)
          by_cases h5_ : b_ = 13
          · subst h5_; first | rfl | (simp (disch := omega) only [us_ne, us_eq]; done)
          by_cases h6_ : b_ = 122
          · subst h6_; first | rfl | (simp (disch := omega) only [us_ne, us_eq]; done)
          by_cases h7_ : b_ = 123
          · subst h7_; first | rfl | (simp (disch := omega) only [us_ne, us_eq]; done)
          simp only [us, h0_, h1_, h2_, h3_, h4_, h5_, h6_, h7_, if_false]
        · refine ld_aload_n O (pc := 67) 0 dX1_passWeek_67 rfl rfl ?_
          refine ld_dup O (pc := 68) dX1_passWeek_68 rfl ?_
          refine ld_g_trial_leanWeeks O (pc := 69) (v := σ 123 0) ld_w33 rfl dX1_passWeek_69 ?_
          refine ld_iconst O (pc := 72) (v := nI 1) dX1_passWeek_72 (by decide) ?_
          refine ld_iadd O (pc := 73) dX1_passWeek_73 ?_
          refine ld_p_trial_leanWeeks O (pc := 74) ld_w33 dX1_passWeek_74 ?_
          refine ld_vret E dX1_passWeek_77 ?_
          have ei : i = h := by omega
          rw [ei] at ht hs hp
          refine ⟨ft, fs, fp, f4_p5, f5_p5, f6_p5, fun _ => σ 122 0 + nI 1, fun _ => σ 123 0 + nI 1, ?_, ht, hs, hp, rfl, (if_pos (by omega)).symm⟩
          funext b_
          by_cases h0_ : b_ = 8
          · subst h0_; first | rfl | (simp (disch := omega) only [us_ne, us_eq]; done)
          by_cases h1_ : b_ = 9
          · subst h1_; first | rfl | (simp (disch := omega) only [us_ne, us_eq]; done)
          by_cases h2_ : b_ = 10
          · subst h2_; first | rfl | (simp (disch := omega) only [us_ne, us_eq]; done)
          by_cases h3_ : b_ = 11
          · subst h3_; first | rfl | (simp (disch := omega) only [us_ne, us_eq]; done)
          by_cases h4_ : b_ = 12
          · subst h4_; first | rfl | (simp (disch := omega) only [us_ne, us_eq]; done)
          by_cases h5_ : b_ = 13
          · subst h5_; first | rfl | (simp (disch := omega) only [us_ne, us_eq]; done)
          by_cases h6_ : b_ = 122
          · subst h6_; first | rfl | (simp (disch := omega) only [us_ne, us_eq]; done)
          by_cases h7_ : b_ = 123
          · subst h7_; first | rfl | (simp (disch := omega) only [us_ne, us_eq]; done)
          simp only [us, h0_, h1_, h2_, h3_, h4_, h5_, h6_, h7_, if_false]
      · refine ld_aload_n O (pc := 18) 0 dX1_passWeek_18 rfl rfl ?_
        refine ld_g_trial_stock O (pc := 19) ld_w36 dX1_passWeek_19 ?_
        refine ld_iload_n O (pc := 22) 1 dX1_passWeek_22 rfl rfl ?_
        refine ld_dup2 O (pc := 23) dX1_passWeek_23 rfl rfl ?_
        refine ld_iald O (pc := 24) 9 i (v := fs i) rfl (by decide) (show i < 8 by omega) rfl dX1_passWeek_24 ?_
        refine ld_aload_n O (pc := 25) 0 dX1_passWeek_25 rfl rfl ?_
        refine ld_g_trial_dealt O (pc := 26) ld_w39 dX1_passWeek_26 ?_
        refine ld_iload_n O (pc := 29) 1 dX1_passWeek_29 rfl rfl ?_
        refine ld_iald O (pc := 30) 12 i (v := f5_p5 i) rfl (by decide) (show i < 8 by omega) rfl dX1_passWeek_30 ?_
        refine ld_aload_n O (pc := 31) 0 dX1_passWeek_31 rfl rfl ?_
        refine ld_iload_n O (pc := 32) 1 dX1_passWeek_32 rfl rfl ?_
        refine ld_callVi O (pc := 33) (As := [.int (nI i)]) (st := [.int (f5_p5 i), .int (fs i), .int (nI i), .ref (ad (9 + 9))]) ld_recv2 (c_X1_treesOf_1 l ad (us (us (us (us (us (us σ 8 ft) 9 fs) 10 fp) 11 f4_p5) 12 f5_p5) 13 f6_p5) i (by omega)) ld_mw_X1_treesOf ld_w263 rfl rfl ⟨by decide, by decide⟩ (Nat.le_of_ble_eq_true rfl) dX1_passWeek_33 (fun r_p33 σ_p33 h_p33 => ?_)
        obtain ⟨rfl, hσ_p33⟩ := h_p33
        rw [hσ_p33]
        show K (us (us (us (us (us (us σ 8 ft) 9 fs) 10 fp) 11 f4_p5) 12 f5_p5) 13 f6_p5) [(0, .ref (ad 2)), (1, .int (nI i))] [.int (fp i / nI 4), .int (f5_p5 i), .int (fs i), .int (nI i), .ref (ad (9 + 9))] 36
        refine ld_iadd O (pc := 36) dX1_passWeek_36 ?_
        refine ld_iadd O (pc := 37) dX1_passWeek_37 ?_
        refine ld_iast O (pc := 38) 9 i rfl (by decide) (show i < 8 by omega) dX1_passWeek_38 ?_
        refine ld_aload_n O (pc := 39) 0 dX1_passWeek_39 rfl rfl ?_
        refine ld_iload_n O (pc := 40) 1 dX1_passWeek_40 rfl rfl ?_
        refine ld_callVv O (pc := 41) (As := [.int (nI i)]) (st := []) ld_recv2 (c_X1_suck_1 l ad (us (us (us (us (us (us (us σ 8 ft) 9 fs) 10 fp) 11 f4_p5) 12 f5_p5) 13 f6_p5) 9 (upd (fs) i ((fs i) + ((f5_p5 i) + (fp i / nI 4))))) i (by omega) (ft i) rfl ((fs i) + ((f5_p5 i) + (fp i / nI 4))) (by show (upd (fs) i ((fs i) + ((f5_p5 i) + (fp i / nI 4)))) i = _; exact pk_us) (fp i) rfl) ld_mw_X1_suck ld_w264 rfl rfl ⟨by decide, by decide⟩ (Nat.le_of_ble_eq_true rfl) dX1_passWeek_41 (fun σ_p41 h_p41 => ?_)
        obtain ⟨vt_p41, vs_p41, vp_p41, hσ_p41, hvt_p41, hvs_p41, hvp_p41⟩ := h_p41
        rw [hσ_p41]
        show K (us (us (us (us (us (us (us (us (us (us σ 8 ft) 9 fs) 10 fp) 11 f4_p5) 12 f5_p5) 13 f6_p5) 9 (upd (fs) i ((fs i) + ((f5_p5 i) + (fp i / nI 4))))) 8 (upd (ft) i vt_p41)) 9 (upd (upd (fs) i ((fs i) + ((f5_p5 i) + (fp i / nI 4)))) i vs_p41)) 10 (upd (fp) i vp_p41)) [(0, .ref (ad 2)), (1, .int (nI i))] [] 44
        have hg_ : fs i + (f5_p5 i + fp i / nI 4) = ld_wg h (σ 121 0) (σ 7) (σ 8) (σ 9) (σ 10) i := by rw [hs2 i (Nat.le_refl _) (by omega), hp2 i (Nat.le_refl _) (by omega), hd_p5 i (by omega)]; rfl
        rw [hg_] at hvt_p41 hvs_p41 hvp_p41
        rw [ht2 i (Nat.le_refl _) (by omega)] at hvt_p41
        rw [hp2 i (Nat.le_refl _) (by omega)] at hvp_p41
        have hvt_ : vt_p41 = ld_wT h (σ 121 0) (σ 7) (σ 8) (σ 9) (σ 10) i := hvt_p41
        have hvs_ : vs_p41 = ld_wS h (σ 121 0) (σ 7) (σ 8) (σ 9) (σ 10) i := hvs_p41
        have hvp_ : vp_p41 = ld_wP h (σ 121 0) (σ 7) (σ 8) (σ 9) (σ 10) i := hvp_p41
        refine ld_iincN O (pc := 44) [(1, .int (nI (i + 1))), (0, .ref (ad 2))] 1 dX1_passWeek_44 rfl (by decide) rfl ?_
        refine ld_goto O (pc := 47) 10 dX1_passWeek_47 (by decide) ?_
        refine ld_less O [1, 0] (lv2 := [(0, .ref (ad 2)), (1, .int (nI (i + 1)))]) rfl ?_
        have hs3 : us (us (us (us (us (us (us (us (us (us σ 8 ft) 9 fs) 10 fp) 11 f4_p5) 12 f5_p5) 13 f6_p5) 9 (upd (fs) i ((fs i) + ((f5_p5 i) + (fp i / nI 4))))) 8 (upd (ft) i vt_p41)) 9 (upd (upd (fs) i ((fs i) + ((f5_p5 i) + (fp i / nI 4)))) i vs_p41)) 10 (upd (fp) i vp_p41) = us (us (us (us (us (us σ 8 (upd (ft) i vt_p41)) 9 (upd (upd (fs) i ((fs i) + ((f5_p5 i) + (fp i / nI 4)))) i vs_p41)) 10 (upd (fp) i vp_p41)) 11 f4_p5) 12 f5_p5) 13 f6_p5 := by
          funext b_
          by_cases h0_ : b_ = 8
          · subst h0_; rfl
          by_cases h1_ : b_ = 9
          · subst h1_; rfl
          by_cases h2_ : b_ = 10
          · subst h2_; rfl
          by_cases h3_ : b_ = 11
          · subst h3_; rfl
          by_cases h4_ : b_ = 12
          · subst h4_; rfl
          by_cases h5_ : b_ = 13
          · subst h5_; rfl
          simp only [us, h0_, h1_, h2_, h3_, h4_, h5_, if_false]
        refine ld_cv hs3 ?_
        exact ih10 (i + 1) (upd (ft) i vt_p41) (upd (upd (fs) i ((fs i) + ((f5_p5 i) + (fp i / nI 4)))) i vs_p41) (upd (fp) i vp_p41) (by omega) (by omega) (ld_ext ht hvt_) (ld_exk ht2) (ld_ext (fun x hx => (pk_un (by omega)).trans (hs x hx)) hvs_) (fun x h1 h2 => (pk_un (by omega)).trans ((pk_un (by omega)).trans (hs2 x (by omega) h2))) (ld_ext hp hvp_) (ld_exk hp2)
  refine ld_less O [1, 0] (lv2 := [(0, .ref (ad 2)), (1, .int (nI 0))]) rfl ?_
  have hs4 : us (us (us σ 11 f4_p5) 12 f5_p5) 13 f6_p5 = us (us (us (us (us (us σ 8 (σ 8)) 9 (σ 9)) 10 (σ 10)) 11 f4_p5) 12 f5_p5) 13 f6_p5 := by
    funext b_
    by_cases h0_ : b_ = 11
    · subst h0_; rfl
    by_cases h1_ : b_ = 12
    · subst h1_; rfl
    by_cases h2_ : b_ = 13
    · subst h2_; rfl
    by_cases h3_ : b_ = 8
    · subst h3_; rfl
    by_cases h4_ : b_ = 9
    · subst h4_; rfl
    by_cases h5_ : b_ = 10
    · subst h5_; rfl
    simp only [us, h0_, h1_, h2_, h3_, h4_, h5_, if_false]
  refine ld_cv hs4 ?_
  exact L10 _ 0 (σ 8) (σ 9) (σ 10) (Nat.lt_succ_self _) (Nat.zero_le _) (fun x hx => absurd hx (Nat.not_lt_zero x)) (fun _ _ _ => rfl) (fun x hx => absurd hx (Nat.not_lt_zero x)) (fun _ _ _ => rfl) (fun x hx => absurd hx (Nat.not_lt_zero x)) (fun _ _ _ => rfl)
set_option maxHeartbeats 4000000 in
set_option maxRecDepth 100000 in
theorem c_X1_passWeeks_1 (l : Launch) (ad : Nat → Nat) (σ : ld_St) (h : Nat) (hh : σ 120 0 = nI h) (h8 : h ≤ 8) (n : Nat) (hn : n ≤ 1000) : ld_Ctr l yX1_passWeeks cX1_passWeeks 3 none (3, 68) [.ref (ad 2), .int (nI n)] ad σ (ld_V (fun (σ2 : ld_St) => ∃ ft fs fp f4 f5 f6 fw fl : Nat → Int32, σ2 = us (us (us (us (us (us (us (us σ 8 ft) 9 fs) 10 fp) 11 f4) 12 f5) 13 f6) 122 fw) 123 fl ∧ ld_eqv h (ft, fs, fp) (ld_wks h (σ 121 0) (σ 7) (σ 8, σ 9, σ 10) n) ∧ fw 0 = σ 122 0 + nI n ∧ fl 0 = σ 123 0 + nI (ld_lw h (σ 121 0) (σ 7) (σ 8, σ 9, σ 10) n))) := by
  refine ld_entry (by decide +kernel) (Nat.le_of_ble_eq_true rfl) (fun K O E => ?_)
  have O : ld_Ok l K ad cX1_passWeeks 3 RX1 (ld_rm (3, 68)) := O
  show K σ [(0, .ref (ad 2)), (1, .int (nI n))] [] 0
  refine ld_iconst O (pc := 0) (v := nI 0) dX1_passWeeks_0 (by decide) ?_
  refine ld_istore_n O (pc := 1) [(2, .int (nI 0)), (0, .ref (ad 2)), (1, .int (nI n))] dX1_passWeeks_1 rfl (by decide) rfl ?_
  have L2 : ∀ (m_2 : Nat) (i : Nat) (ft : Nat → Int32) (fs : Nat → Int32) (fp : Nat → Int32) (f4 : Nat → Int32) (f5 : Nat → Int32) (f6 : Nat → Int32) (fw : Nat → Int32) (fl : Nat → Int32), n - i < m_2 → (i ≤ n) → (ld_eqv h (ft, fs, fp) (ld_wks h (σ 121 0) (σ 7) (σ 8, σ 9, σ 10) i)) → (fw 0 = σ 122 0 + nI i) → (fl 0 = σ 123 0 + nI (ld_lw h (σ 121 0) (σ 7) (σ 8, σ 9, σ 10) i)) → K (us (us (us (us (us (us (us (us σ 8 ft) 9 fs) 10 fp) 11 f4) 12 f5) 13 f6) 122 fw) 123 fl) [(0, .ref (ad 2)), (1, .int (nI n)), (2, .int (nI i))] [] 2 := by
    intro m_2
    induction m_2 with
    | zero => intro i ft fs fp f4 f5 f6 fw fl hm_; exact absurd hm_ (Nat.not_lt_zero _)
    | succ m_2 ih2 =>
      intro i ft fs fp f4 f5 f6 fw fl hm_2 hi he hw hl
      refine ld_iload_n O (pc := 2) 2 dX1_passWeeks_2 rfl rfl ?_
      refine ld_iload_n O (pc := 3) 1 dX1_passWeeks_3 rfl rfl ?_
      refine ld_icmp_ge O (pc := 4) ((i : Nat) : Int) ((n : Nat) : Int) (nI_toInt (by omega)) (nI_toInt (by omega)) 17 dX1_passWeeks_4 (by decide) (fun c1 => ?_) (fun c1 => ?_)
      · refine ld_vret E dX1_passWeeks_17 ?_
        have ei : i = n := by omega
        rw [ei] at he hw hl
        exact ⟨_, _, _, _, _, _, _, _, rfl, he, hw, hl⟩
      · refine ld_aload_n O (pc := 7) 0 dX1_passWeeks_7 rfl rfl ?_
        refine ld_callVv O (pc := 8) (As := []) (st := []) ld_recv2 (c_X1_passWeek_1 l ad (us (us (us (us (us (us (us (us σ 8 ft) 9 fs) 10 fp) 11 f4) 12 f5) 13 f6) 122 fw) 123 fl) h hh h8) ld_mw_X1_passWeek ld_w259 rfl rfl ⟨by decide, by decide⟩ (Nat.le_of_ble_eq_true rfl) dX1_passWeeks_8 (fun σ_p8 h_p8 => ?_)
        obtain ⟨ft_p8, fs_p8, fp_p8, f4_p8, f5_p8, f6_p8, fw_p8, fl_p8, hσ_p8, ht_p8, hs_p8, hp_p8, hw_p8, hl_p8⟩ := h_p8
        rw [hσ_p8]
        have ht_p8 : ∀ x, x < h → ft_p8 x = ld_wT h (σ 121 0) (σ 7) ft fs fp x := ht_p8
        have hs_p8 : ∀ x, x < h → fs_p8 x = ld_wS h (σ 121 0) (σ 7) ft fs fp x := hs_p8
        have hp_p8 : ∀ x, x < h → fp_p8 x = ld_wP h (σ 121 0) (σ 7) ft fs fp x := hp_p8
        have hw_p8 : fw_p8 0 = (fw 0) + nI 1 := hw_p8
        have hl_p8 : fl_p8 0 = (if 0 < ld_wo h fs_p8 then (fl 0) + nI 1 else (fl 0)) := hl_p8
        show K (us (us (us (us (us (us (us (us (us (us (us (us (us (us (us (us σ 8 ft) 9 fs) 10 fp) 11 f4) 12 f5) 13 f6) 122 fw) 123 fl) 8 ft_p8) 9 fs_p8) 10 fp_p8) 11 f4_p8) 12 f5_p8) 13 f6_p8) 122 fw_p8) 123 fl_p8) [(0, .ref (ad 2)), (1, .int (nI n)), (2, .int (nI i))] [] 11
        have he_ : ld_eqv h (ft_p8, fs_p8, fp_p8) (ld_wks h (σ 121 0) (σ 7) (σ 8, σ 9, σ 10) (i + 1)) := ld_eqv.tr (U := ld_wk h (σ 121 0) (σ 7) (ft, fs, fp)) (fun x hx => ⟨ht_p8 x hx, hs_p8 x hx, hp_p8 x hx⟩) (ld_wk_cong he)
        refine ld_iincN O (pc := 11) [(2, .int (nI (i + 1))), (0, .ref (ad 2)), (1, .int (nI n))] 2 dX1_passWeeks_11 rfl (by decide) rfl ?_
        refine ld_goto O (pc := 14) 2 dX1_passWeeks_14 (by decide) ?_
        refine ld_less O [1, 2, 0] (lv2 := [(0, .ref (ad 2)), (1, .int (nI n)), (2, .int (nI (i + 1)))]) rfl ?_
        have hs2 : us (us (us (us (us (us (us (us (us (us (us (us (us (us (us (us σ 8 ft) 9 fs) 10 fp) 11 f4) 12 f5) 13 f6) 122 fw) 123 fl) 8 ft_p8) 9 fs_p8) 10 fp_p8) 11 f4_p8) 12 f5_p8) 13 f6_p8) 122 fw_p8) 123 fl_p8 = us (us (us (us (us (us (us (us σ 8 ft_p8) 9 fs_p8) 10 fp_p8) 11 f4_p8) 12 f5_p8) 13 f6_p8) 122 fw_p8) 123 fl_p8 := by
          funext b_
          by_cases h0_ : b_ = 8
          · subst h0_; rfl
          by_cases h1_ : b_ = 9
          · subst h1_; rfl
          by_cases h2_ : b_ = 10
          · subst h2_; rfl
          by_cases h3_ : b_ = 11
          · subst h3_; rfl
          by_cases h4_ : b_ = 12
          · subst h4_; rfl
          by_cases h5_ : b_ = 13
          · subst h5_; rfl
          by_cases h6_ : b_ = 122
          · subst h6_; rfl
          by_cases h7_ : b_ = 123
          · subst h7_; rfl
          simp only [us, h0_, h1_, h2_, h3_, h4_, h5_, h6_, h7_, if_false]
        refine ld_cv hs2 ?_
        exact ih2 (i + 1) ft_p8 fs_p8 fp_p8 f4_p8 f5_p8 f6_p8 fw_p8 fl_p8 (by omega) (by omega) (he_) (by rw [hw_p8, hw, Int32.add_assoc, nI_add]) (ld_lw_step hl (fun x hx => (he_ x hx).2.1) hl_p8)
  refine ld_less O [1, 2, 0] (lv2 := [(0, .ref (ad 2)), (1, .int (nI n)), (2, .int (nI 0))]) rfl ?_
  have hs3 : σ = us (us (us (us (us (us (us (us σ 8 (σ 8)) 9 (σ 9)) 10 (σ 10)) 11 (σ 11)) 12 (σ 12)) 13 (σ 13)) 122 (σ 122)) 123 (σ 123) := by
    funext b_
    by_cases h0_ : b_ = 8
    · subst h0_; rfl
    by_cases h1_ : b_ = 9
    · subst h1_; rfl
    by_cases h2_ : b_ = 10
    · subst h2_; rfl
    by_cases h3_ : b_ = 11
    · subst h3_; rfl
    by_cases h4_ : b_ = 12
    · subst h4_; rfl
    by_cases h5_ : b_ = 13
    · subst h5_; rfl
    by_cases h6_ : b_ = 122
    · subst h6_; rfl
    by_cases h7_ : b_ = 123
    · subst h7_; rfl
    simp only [us, h0_, h1_, h2_, h3_, h4_, h5_, h6_, h7_, if_false]
  refine ld_cv hs3 ?_
  exact L2 _ 0 (σ 8) (σ 9) (σ 10) (σ 11) (σ 12) (σ 13) (σ 122) (σ 123) (Nat.lt_succ_self _) (Nat.zero_le _) ld_eqv.rf (Int32.add_zero _).symm (Int32.add_zero _).symm
set_option maxHeartbeats 4000000 in
set_option maxRecDepth 100000 in
theorem c_X1_give_1 (l : Launch) (ad : Nat → Nat) (σ : ld_St) (h : Nat) (hh : σ 120 0 = nI h) (h8 : h ≤ 8) (k : Nat) (hk : k < h) : ld_Ctr l yX1_giveOneFrom cX1_giveOneFrom 2 (some .boolean) (0, 0) [.ref (ad 2), .int (nI k)] ad σ (ld_I (fun (r : Int32) (σ2 : ld_St) => r = ld_b (0 < (σ 9 k).toInt) ∧ ∃ f : Nat → Int32, σ2 = us σ 9 f ∧ (0 < (σ 9 k).toInt → f = ld_gv h (σ 9) k) ∧ (¬ 0 < (σ 9 k).toInt → f = σ 9))) := by
  refine ld_entry (by decide +kernel) (Nat.le_of_ble_eq_true rfl) (fun K O E => ?_)
  have O : ld_Ok l K ad cX1_giveOneFrom 2 RX1 (ld_rm (0, 0)) := O
  show K σ [(0, .ref (ad 2)), (1, .int (nI k))] [] 0
  refine ld_aload_n O (pc := 0) 0 dX1_giveOneFrom_0 rfl rfl ?_
  refine ld_g_trial_stock O (pc := 1) ld_w36 dX1_giveOneFrom_1 ?_
  refine ld_iload_n O (pc := 4) 1 dX1_giveOneFrom_4 rfl rfl ?_
  refine ld_iald O (pc := 5) 9 k (v := σ 9 k) rfl (by decide) (show k < 8 by omega) rfl dX1_giveOneFrom_5 ?_
  refine ld_if_gt O (pc := 6) (σ 9 k).toInt rfl 11 dX1_giveOneFrom_6 (by decide) (fun c1 => ?_) (fun c1 => ?_)
  · refine ld_aload_n O (pc := 11) 0 dX1_giveOneFrom_11 rfl rfl ?_
    refine ld_g_trial_stock O (pc := 12) ld_w36 dX1_giveOneFrom_12 ?_
    refine ld_iload_n O (pc := 15) 1 dX1_giveOneFrom_15 rfl rfl ?_
    refine ld_dup2 O (pc := 16) dX1_giveOneFrom_16 rfl rfl ?_
    refine ld_iald O (pc := 17) 9 k (v := σ 9 k) rfl (by decide) (show k < 8 by omega) rfl dX1_giveOneFrom_17 ?_
    refine ld_iconst O (pc := 18) (v := nI 1) dX1_giveOneFrom_18 (by decide) ?_
    refine ld_isub O (pc := 19) dX1_giveOneFrom_19 ?_
    refine ld_iast O (pc := 20) 9 k rfl (by decide) (show k < 8 by omega) dX1_giveOneFrom_20 ?_
    refine ld_aload_n O (pc := 21) 0 dX1_giveOneFrom_21 rfl rfl ?_
    refine ld_g_trial_stock O (pc := 22) ld_w36 dX1_giveOneFrom_22 ?_
    refine ld_iload_n O (pc := 25) 1 dX1_giveOneFrom_25 rfl rfl ?_
    refine ld_iconst O (pc := 26) (v := nI 1) dX1_giveOneFrom_26 (by decide) ?_
    refine ld_iaddN O (pc := 27) dX1_giveOneFrom_27 ?_
    refine ld_aload_n O (pc := 28) 0 dX1_giveOneFrom_28 rfl rfl ?_
    refine ld_g_trial_houses O (pc := 29) (v := nI h) ld_w30 hh dX1_giveOneFrom_29 ?_
    refine ld_icmp_ge O (pc := 32) ((k + 1 : Nat) : Int) ((h : Nat) : Int) (nI_toInt (by omega)) (nI_toInt (by omega)) 41 dX1_giveOneFrom_32 (by decide) (fun c2 => ?_) (fun c2 => ?_)
    · refine ld_iconst O (pc := 41) (v := nI 0) dX1_giveOneFrom_41 (by decide) ?_
      refine ld_dup2 O (pc := 42) dX1_giveOneFrom_42 rfl rfl ?_
      refine ld_iald O (pc := 43) 9 0 (v := (upd (σ 9) k ((σ 9 k) - (nI 1))) 0) rfl (by decide) (show 0 < 8 by omega) rfl dX1_giveOneFrom_43 ?_
      refine ld_iconst O (pc := 44) (v := nI 1) dX1_giveOneFrom_44 (by decide) ?_
      refine ld_iadd O (pc := 45) dX1_giveOneFrom_45 ?_
      refine ld_iast O (pc := 46) 9 0 rfl (by decide) (show 0 < 8 by omega) dX1_giveOneFrom_46 ?_
      refine ld_iconst O (pc := 47) (v := nI 1) dX1_giveOneFrom_47 (by decide) ?_
      refine ld_iretz E (Or.inr rfl) dX1_giveOneFrom_48 ?_
      refine ⟨(ld_b_t (by omega)).symm, _, us_us _ _ _ _, fun _ => ?_, fun z => absurd (by omega) z⟩
      unfold ld_gv ld_nb
      rw [if_neg (by omega)]
      rfl
    · refine ld_iload_n O (pc := 35) 1 dX1_giveOneFrom_35 rfl rfl ?_
      refine ld_iconst O (pc := 36) (v := nI 1) dX1_giveOneFrom_36 (by decide) ?_
      refine ld_iaddN O (pc := 37) dX1_giveOneFrom_37 ?_
      refine ld_goto O (pc := 38) 42 dX1_giveOneFrom_38 (by decide) ?_
      refine ld_dup2 O (pc := 42) dX1_giveOneFrom_42 rfl rfl ?_
      refine ld_iald O (pc := 43) 9 (k + 1) (v := (upd (σ 9) k ((σ 9 k) - (nI 1))) (k + 1)) rfl (by decide) (show k + 1 < 8 by omega) rfl dX1_giveOneFrom_43 ?_
      refine ld_iconst O (pc := 44) (v := nI 1) dX1_giveOneFrom_44 (by decide) ?_
      refine ld_iadd O (pc := 45) dX1_giveOneFrom_45 ?_
      refine ld_iast O (pc := 46) 9 (k + 1) rfl (by decide) (show k + 1 < 8 by omega) dX1_giveOneFrom_46 ?_
      refine ld_iconst O (pc := 47) (v := nI 1) dX1_giveOneFrom_47 (by decide) ?_
      refine ld_iretz E (Or.inr rfl) dX1_giveOneFrom_48 ?_
      refine ⟨(ld_b_t (by omega)).symm, _, us_us _ _ _ _, fun _ => ?_, fun z => absurd (by omega) z⟩
      unfold ld_gv ld_nb
      rw [if_pos (by omega)]
      rfl
  · refine ld_iconst O (pc := 9) (v := nI 0) dX1_giveOneFrom_9 (by decide) ?_
    refine ld_iretz E (Or.inl rfl) dX1_giveOneFrom_10 ?_
    exact ⟨(ld_b_f (by omega)).symm, σ 9, (us_self _ _).symm, fun z => absurd z (by omega), fun _ => rfl⟩
set_option maxHeartbeats 4000000 in
set_option maxRecDepth 100000 in
theorem c_X1_worst_1 (l : Launch) (ad : Nat → Nat) (σ : ld_St) (h : Nat) (hh : σ 120 0 = nI h) (h8 : h ≤ 8) : ld_Ctr l yX1_worstTemper cX1_worstTemper 3 (some .int) (1, 21) [.ref (ad 2)] ad σ (ld_I (fun (r : Int32) (σ2 : ld_St) => r = ld_wm (σ 8) h ∧ σ2 = σ)) := by
  refine ld_entry (by decide +kernel) (Nat.le_of_ble_eq_true rfl) (fun K O E => ?_)
  have O : ld_Ok l K ad cX1_worstTemper 3 RX1 (ld_rm (1, 21)) := O
  show K σ [(0, .ref (ad 2))] [] 0
  refine ld_iconst O (pc := 0) (v := nI 0) dX1_worstTemper_0 (by decide) ?_
  refine ld_istore_n O (pc := 1) [(1, .int (nI 0)), (0, .ref (ad 2))] dX1_worstTemper_1 rfl (by decide) rfl ?_
  refine ld_iconst O (pc := 2) (v := nI 0) dX1_worstTemper_2 (by decide) ?_
  refine ld_istore_n O (pc := 3) [(2, .int (nI 0)), (1, .int (nI 0)), (0, .ref (ad 2))] dX1_worstTemper_3 rfl (by decide) rfl ?_
  have L4 : ∀ (m_4 : Nat) (i : Nat) (w : Int32), h - i < m_4 → (i ≤ h) → (w = ld_wm (σ 8) i) → K σ [(0, .ref (ad 2)), (1, .int w), (2, .int (nI i))] [] 4 := by
    intro m_4
    induction m_4 with
    | zero => intro i w hm_; exact absurd hm_ (Nat.not_lt_zero _)
    | succ m_4 ih4 =>
      intro i w hm_4 hi hw
      refine ld_iload_n O (pc := 4) 2 dX1_worstTemper_4 rfl rfl ?_
      refine ld_aload_n O (pc := 5) 0 dX1_worstTemper_5 rfl rfl ?_
      refine ld_g_trial_houses O (pc := 6) (v := nI h) ld_w30 hh dX1_worstTemper_6 ?_
      refine ld_icmp_ge O (pc := 9) ((i : Nat) : Int) ((h : Nat) : Int) (nI_toInt (by omega)) (nI_toInt (by omega)) 29 dX1_worstTemper_9 (by decide) (fun c1 => ?_) (fun c1 => ?_)
      · refine ld_iload_n O (pc := 29) 1 dX1_worstTemper_29 rfl rfl ?_
        refine ld_ireti E dX1_worstTemper_30 ?_
        exact ⟨by rw [hw, show i = h by omega], rfl⟩
      · refine ld_iload_n O (pc := 12) 1 dX1_worstTemper_12 rfl rfl ?_
        refine ld_aload_n O (pc := 13) 0 dX1_worstTemper_13 rfl rfl ?_
        refine ld_g_trial_temper O (pc := 14) ld_w35 dX1_worstTemper_14 ?_
        refine ld_iload_n O (pc := 17) 2 dX1_worstTemper_17 rfl rfl ?_
        refine ld_iald O (pc := 18) 8 i (v := σ 8 i) rfl (by decide) (show i < 8 by omega) rfl dX1_worstTemper_18 ?_
        refine ld_mmax O (pc := 19) ld_w268 (by decide) (Nat.le_of_ble_eq_true rfl) dX1_worstTemper_19 ?_
        refine ld_istore_n O (pc := 22) [(1, .int (if w < (σ 8 i) then (σ 8 i) else w)), (0, .ref (ad 2)), (2, .int (nI i))] dX1_worstTemper_22 rfl (by decide) rfl ?_
        refine ld_iincN O (pc := 23) [(2, .int (nI (i + 1))), (1, .int (if w < (σ 8 i) then (σ 8 i) else w)), (0, .ref (ad 2))] 2 dX1_worstTemper_23 rfl (by decide) rfl ?_
        refine ld_goto O (pc := 26) 4 dX1_worstTemper_26 (by decide) ?_
        refine ld_less O [2, 1, 0] (lv2 := [(0, .ref (ad 2)), (1, .int (if w < (σ 8 i) then (σ 8 i) else w)), (2, .int (nI (i + 1)))]) rfl ?_
        exact ih4 (i + 1) (if w < (σ 8 i) then (σ 8 i) else w) (by omega) (by omega) (by rw [hw]; rfl)
  refine ld_less O [2, 1, 0] (lv2 := [(0, .ref (ad 2)), (1, .int (nI 0)), (2, .int (nI 0))]) rfl ?_
  exact L4 _ 0 (nI 0) (Nat.lt_succ_self _) (Nat.zero_le _) rfl
set_option maxHeartbeats 4000000 in
set_option maxRecDepth 100000 in
theorem c_X1_sumOf_1 (l : Launch) (ad : Nat → Nat) (σ : ld_St) (h : Nat) (hh : σ 120 0 = nI h) (h8 : h ≤ 8) (a : Nat) (ha : a < 16) : ld_Ctr l yX1_sumOf cX1_sumOf 4 (some .int) (0, 0) [.ref (ad 2), .ref (ad (9 + a))] ad σ (ld_I (fun (r : Int32) (σ2 : ld_St) => r = l_sum (σ a) h ∧ σ2 = σ)) := by
  refine ld_entry (by decide +kernel) (Nat.le_of_ble_eq_true rfl) (fun K O E => ?_)
  have O : ld_Ok l K ad cX1_sumOf 4 RX1 (ld_rm (0, 0)) := O
  show K σ [(0, .ref (ad 2)), (1, .ref (ad (9 + a)))] [] 0
  refine ld_iconst O (pc := 0) (v := nI 0) dX1_sumOf_0 (by decide) ?_
  refine ld_istore_n O (pc := 1) [(2, .int (nI 0)), (0, .ref (ad 2)), (1, .ref (ad (9 + a)))] dX1_sumOf_1 rfl (by decide) rfl ?_
  refine ld_iconst O (pc := 2) (v := nI 0) dX1_sumOf_2 (by decide) ?_
  refine ld_istore_n O (pc := 3) [(3, .int (nI 0)), (2, .int (nI 0)), (0, .ref (ad 2)), (1, .ref (ad (9 + a)))] dX1_sumOf_3 rfl (by decide) rfl ?_
  have L4 : ∀ (m_4 : Nat) (i : Nat) (w : Int32), h - i < m_4 → (i ≤ h) → (w = l_sum (σ a) i) → K σ [(0, .ref (ad 2)), (1, .ref (ad (9 + a))), (2, .int w), (3, .int (nI i))] [] 4 := by
    intro m_4
    induction m_4 with
    | zero => intro i w hm_; exact absurd hm_ (Nat.not_lt_zero _)
    | succ m_4 ih4 =>
      intro i w hm_4 hi hw
      refine ld_iload_n O (pc := 4) 3 dX1_sumOf_4 rfl rfl ?_
      refine ld_aload_n O (pc := 5) 0 dX1_sumOf_5 rfl rfl ?_
      refine ld_g_trial_houses O (pc := 6) (v := nI h) ld_w30 hh dX1_sumOf_6 ?_
      refine ld_icmp_ge O (pc := 9) ((i : Nat) : Int) ((h : Nat) : Int) (nI_toInt (by omega)) (nI_toInt (by omega)) 24 dX1_sumOf_9 (by decide) (fun c1 => ?_) (fun c1 => ?_)
      · refine ld_iload_n O (pc := 24) 2 dX1_sumOf_24 rfl rfl ?_
        refine ld_ireti E dX1_sumOf_25 ?_
        exact ⟨by rw [hw, show i = h by omega], rfl⟩
      · refine ld_iload_n O (pc := 12) 2 dX1_sumOf_12 rfl rfl ?_
        refine ld_aload_n O (pc := 13) 1 dX1_sumOf_13 rfl rfl ?_
        refine ld_iload_n O (pc := 14) 3 dX1_sumOf_14 rfl rfl ?_
        refine ld_iald O (pc := 15) a i (v := σ a i) rfl (by omega) (by rw [ld_len8 ha]; omega) rfl dX1_sumOf_15 ?_
        refine ld_iadd O (pc := 16) dX1_sumOf_16 ?_
        refine ld_istore_n O (pc := 17) [(2, .int (w + (σ a i))), (0, .ref (ad 2)), (1, .ref (ad (9 + a))), (3, .int (nI i))] dX1_sumOf_17 rfl (by decide) rfl ?_
        refine ld_iincN O (pc := 18) [(3, .int (nI (i + 1))), (2, .int (w + (σ a i))), (0, .ref (ad 2)), (1, .ref (ad (9 + a)))] 3 dX1_sumOf_18 rfl (by decide) rfl ?_
        refine ld_goto O (pc := 21) 4 dX1_sumOf_21 (by decide) ?_
        refine ld_less O [2, 3, 1, 0] (lv2 := [(0, .ref (ad 2)), (1, .ref (ad (9 + a))), (2, .int (w + (σ a i))), (3, .int (nI (i + 1)))]) rfl ?_
        exact ih4 (i + 1) (w + (σ a i)) (by omega) (by omega) (by rw [hw]; rfl)
  refine ld_less O [2, 3, 1, 0] (lv2 := [(0, .ref (ad 2)), (1, .ref (ad (9 + a))), (2, .int (nI 0)), (3, .int (nI 0))]) rfl ?_
  exact L4 _ 0 (nI 0) (Nat.lt_succ_self _) (Nat.zero_le _) rfl
