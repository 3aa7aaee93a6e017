set_option maxHeartbeats 4000000 in
set_option maxRecDepth 100000 in
theorem c_X1_ahead_0 (l : Launch) (ad : Nat → Nat) (σ : ld_St) (h : Nat) (hh : σ 110 0 = nI h) (h8 : h ≤ 8) (k : Nat) (hk : k < h) : ld_Ctr l yX1_aheadByRemainder cX1_aheadByRemainder 4 (some .int) (0, 0) [.ref (ad 1), .int (nI k)] ad σ (ld_I (fun (r : Int32) (σ2 : ld_St) => r = nI (ld_ah (σ 6) h k) ∧ σ2 = σ)) := by
  refine ld_entry (by decide +kernel) (Nat.le_of_ble_eq_true rfl) (fun K O E => ?_)
  have O : ld_Ok l K ad cX1_aheadByRemainder 4 RX1 (ld_rm (0, 0)) := O
  show K σ [(0, .ref (ad 1)), (1, .int (nI k))] [] 0
  refine ld_iconst O (pc := 0) (v := nI 0) dX1_aheadByRemainder_0 (by decide) ?_
  refine ld_istore_n O (pc := 1) [(2, .int (nI 0)), (0, .ref (ad 1)), (1, .int (nI k))] dX1_aheadByRemainder_1 rfl (by decide) rfl ?_
  refine ld_iconst O (pc := 2) (v := nI 0) dX1_aheadByRemainder_2 (by decide) ?_
  refine ld_istore_n O (pc := 3) [(3, .int (nI 0)), (2, .int (nI 0)), (0, .ref (ad 1)), (1, .int (nI k))] dX1_aheadByRemainder_3 rfl (by decide) rfl ?_
  have L4 : ∀ (m_4 : Nat) (i : Nat) (m : Nat), h - i < m_4 → (i ≤ h) → (m = fb_ct (ld_ap (σ 6) k) i) → (m ≤ i) → K σ [(0, .ref (ad 1)), (1, .int (nI k)), (2, .int (nI m)), (3, .int (nI i))] [] 4 := by
    intro m_4
    induction m_4 with
    | zero => intro i m hm_; exact absurd hm_ (Nat.not_lt_zero _)
    | succ m_4 ih4 =>
      intro i m hm_4 hi hm hmi
      refine ld_iload_n O (pc := 4) 3 dX1_aheadByRemainder_4 rfl rfl ?_
      refine ld_aload_n O (pc := 5) 0 dX1_aheadByRemainder_5 rfl rfl ?_
      refine ld_g_now_houses O (pc := 6) (v := nI h) ld_w30 hh dX1_aheadByRemainder_6 ?_
      refine ld_icmp_ge O (pc := 9) ((i : Nat) : Int) ((h : Nat) : Int) (nI_toInt (by omega)) (nI_toInt (by omega)) 56 dX1_aheadByRemainder_9 (by decide) (fun c1 => ?_) (fun c1 => ?_)
      · refine ld_iload_n O (pc := 56) 2 dX1_aheadByRemainder_56 rfl rfl ?_
        refine ld_ireti E dX1_aheadByRemainder_57 ?_
        exact ⟨by rw [hm, show i = h by omega]; rfl, rfl⟩
      · refine ld_aload_n O (pc := 12) 0 dX1_aheadByRemainder_12 rfl rfl ?_
        refine ld_g_now_remainder O (pc := 13) ld_w40 dX1_aheadByRemainder_13 ?_
        refine ld_iload_n O (pc := 16) 3 dX1_aheadByRemainder_16 rfl rfl ?_
        refine ld_iald O (pc := 17) 6 i (v := σ 6 i) rfl (by decide) (show i < 8 by omega) rfl dX1_aheadByRemainder_17 ?_
        refine ld_aload_n O (pc := 18) 0 dX1_aheadByRemainder_18 rfl rfl ?_
        refine ld_g_now_remainder O (pc := 19) ld_w40 dX1_aheadByRemainder_19 ?_
        refine ld_iload_n O (pc := 22) 1 dX1_aheadByRemainder_22 rfl rfl ?_
        refine ld_iald O (pc := 23) 6 k (v := σ 6 k) rfl (by decide) (show k < 8 by omega) rfl dX1_aheadByRemainder_23 ?_
        refine ld_icmp_gt O (pc := 24) (σ 6 i).toInt (σ 6 k).toInt rfl rfl 47 dX1_aheadByRemainder_24 (by decide) (fun c2 => ?_) (fun c2 => ?_)
        · refine ld_iincN O (pc := 47) [(2, .int (nI (m + 1))), (0, .ref (ad 1)), (1, .int (nI k)), (3, .int (nI i))] 2 dX1_aheadByRemainder_47 rfl (by decide) rfl ?_
          refine ld_iincN O (pc := 50) [(3, .int (nI (i + 1))), (2, .int (nI (m + 1))), (0, .ref (ad 1)), (1, .int (nI k))] 3 dX1_aheadByRemainder_50 rfl (by decide) rfl ?_
          refine ld_goto O (pc := 53) 4 dX1_aheadByRemainder_53 (by decide) ?_
          refine ld_less O [2, 3, 1, 0] (lv2 := [(0, .ref (ad 1)), (1, .int (nI k)), (2, .int (nI (m + 1))), (3, .int (nI (i + 1)))]) rfl ?_
          exact ih4 (i + 1) (m + 1) (by omega) (by omega) (ld_ct_t hm (by unfold ld_ap; exact decide_eq_true (by omega))) (by omega)
        · refine ld_aload_n O (pc := 27) 0 dX1_aheadByRemainder_27 rfl rfl ?_
          refine ld_g_now_remainder O (pc := 28) ld_w40 dX1_aheadByRemainder_28 ?_
          refine ld_iload_n O (pc := 31) 3 dX1_aheadByRemainder_31 rfl rfl ?_
          refine ld_iald O (pc := 32) 6 i (v := σ 6 i) rfl (by decide) (show i < 8 by omega) rfl dX1_aheadByRemainder_32 ?_
          refine ld_aload_n O (pc := 33) 0 dX1_aheadByRemainder_33 rfl rfl ?_
          refine ld_g_now_remainder O (pc := 34) ld_w40 dX1_aheadByRemainder_34 ?_
          refine ld_iload_n O (pc := 37) 1 dX1_aheadByRemainder_37 rfl rfl ?_
          refine ld_iald O (pc := 38) 6 k (v := σ 6 k) rfl (by decide) (show k < 8 by omega) rfl dX1_aheadByRemainder_38 ?_
          refine ld_icmp_ne O (pc := 39) (σ 6 i).toInt (σ 6 k).toInt rfl rfl 50 dX1_aheadByRemainder_39 (by decide) (fun c3 => ?_) (fun c3 => ?_)
          · refine ld_iincN O (pc := 50) [(3, .int (nI (i + 1))), (0, .ref (ad 1)), (1, .int (nI k)), (2, .int (nI m))] 3 dX1_aheadByRemainder_50 rfl (by decide) rfl ?_
            refine ld_goto O (pc := 53) 4 dX1_aheadByRemainder_53 (by decide) ?_
            refine ld_less O [1, 2, 3, 0] (lv2 := [(0, .ref (ad 1)), (1, .int (nI k)), (2, .int (nI m)), (3, .int (nI (i + 1)))]) rfl ?_
            exact ih4 (i + 1) m (by omega) (by omega) (ld_ct_f hm (by unfold ld_ap; intro z; have z2 := of_decide_eq_true z; omega)) (by omega)
          · refine ld_iload_n O (pc := 42) 3 dX1_aheadByRemainder_42 rfl rfl ?_
            refine ld_iload_n O (pc := 43) 1 dX1_aheadByRemainder_43 rfl rfl ?_
            refine ld_icmp_ge O (pc := 44) ((i : Nat) : Int) ((k : Nat) : Int) (nI_toInt (by omega)) (nI_toInt (by omega)) 50 dX1_aheadByRemainder_44 (by decide) (fun c4 => ?_) (fun c4 => ?_)
            · refine ld_iincN O (pc := 50) [(3, .int (nI (i + 1))), (0, .ref (ad 1)), (1, .int (nI k)), (2, .int (nI m))] 3 dX1_aheadByRemainder_50 rfl (by decide) rfl ?_
              refine ld_goto O (pc := 53) 4 dX1_aheadByRemainder_53 (by decide) ?_
              refine ld_less O [1, 2, 3, 0] (lv2 := [(0, .ref (ad 1)), (1, .int (nI k)), (2, .int (nI m)), (3, .int (nI (i + 1)))]) rfl ?_
              exact ih4 (i + 1) m (by omega) (by omega) (ld_ct_f hm (by unfold ld_ap; intro z; have z2 := of_decide_eq_true z; omega)) (by omega)
            · refine ld_iincN O (pc := 47) [(2, .int (nI (m + 1))), (0, .ref (ad 1)), (1, .int (nI k)), (3, .int (nI i))] 2 dX1_aheadByRemainder_47 rfl (by decide) rfl ?_
              refine ld_iincN O (pc := 50) [(3, .int (nI (i + 1))), (2, .int (nI (m + 1))), (0, .ref (ad 1)), (1, .int (nI k))] 3 dX1_aheadByRemainder_50 rfl (by decide) rfl ?_
              refine ld_goto O (pc := 53) 4 dX1_aheadByRemainder_53 (by decide) ?_
              refine ld_less O [2, 3, 1, 0] (lv2 := [(0, .ref (ad 1)), (1, .int (nI k)), (2, .int (nI (m + 1))), (3, .int (nI (i + 1)))]) rfl ?_
              exact ih4 (i + 1) (m + 1) (by omega) (by omega) (ld_ct_t hm (by unfold ld_ap; exact decide_eq_true (by omega))) (by omega)
  refine ld_less O [2, 3, 1, 0] (lv2 := [(0, .ref (ad 1)), (1, .int (nI k)), (2, .int (nI 0)), (3, .int (nI 0))]) rfl ?_
  exact L4 _ 0 0 (Nat.lt_succ_self _) (Nat.zero_le _) rfl (Nat.zero_le _)
set_option maxHeartbeats 4000000 in
set_option maxRecDepth 100000 in
theorem c_X1_dealOut_0 (l : Launch) (ad : Nat → Nat) (σ : ld_St) (h : Nat) (hh : σ 110 0 = nI h) (h8 : h ≤ 8) (c : Int32) : ld_Ctr l yX1_dealOut cX1_dealOut 5 none (1, 23) [.ref (ad 1), .int c] ad σ (ld_V (fun (σ2 : ld_St) => ∃ f4 f5 f6 : Nat → Int32, σ2 = us (us (us σ 4 f4) 5 f5) 6 f6 ∧ ∀ x, x < h → f5 x = ld_dt h (σ 0) (σ 1) c x)) := by
  refine ld_entry (by decide +kernel) (Nat.le_of_ble_eq_true rfl) (fun K O E => ?_)
  have O : ld_Ok l K ad cX1_dealOut 5 RX1 (ld_rm (1, 23)) := O
  show K σ [(0, .ref (ad 1)), (1, .int c)] [] 0
  refine ld_iconst O (pc := 0) (v := nI 0) dX1_dealOut_0 (by decide) ?_
  refine ld_istore_n O (pc := 1) [(2, .int (nI 0)), (0, .ref (ad 1)), (1, .int c)] dX1_dealOut_1 rfl (by decide) rfl ?_
  refine ld_iconst O (pc := 2) (v := nI 0) dX1_dealOut_2 (by decide) ?_
  refine ld_istore_n O (pc := 3) [(3, .int (nI 0)), (2, .int (nI 0)), (0, .ref (ad 1)), (1, .int c)] dX1_dealOut_3 rfl (by decide) rfl ?_
  have L4 : ∀ (m_4 : Nat) (i : Nat) (f : Nat → Int32) (a : Int32), h - i < m_4 → (i ≤ h) → (∀ x, x < i → f x = ld_ss (σ 0) (σ 1) x) → (a = l_sum (ld_ss (σ 0) (σ 1)) i) → K (us σ 4 f) [(0, .ref (ad 1)), (1, .int c), (2, .int a), (3, .int (nI i))] [] 4 := by
    intro m_4
    induction m_4 with
    | zero => intro i f a hm_; exact absurd hm_ (Nat.not_lt_zero _)
    | succ m_4 ih4 =>
      intro i f a hm_4 hi hf ha
      refine ld_iload_n O (pc := 4) 3 dX1_dealOut_4 rfl rfl ?_
      refine ld_aload_n O (pc := 5) 0 dX1_dealOut_5 rfl rfl ?_
      refine ld_g_now_houses O (pc := 6) (v := nI h) ld_w30 hh dX1_dealOut_6 ?_
      refine ld_icmp_ge O (pc := 9) ((i : Nat) : Int) ((h : Nat) : Int) (nI_toInt (by omega)) (nI_toInt (by omega)) 38 dX1_dealOut_9 (by decide) (fun c1 => ?_) (fun c1 => ?_)
      · have ei : i = h := by omega
        rw [ei] at hf ha
        have L51 : ∀ (m_51 : Nat) (i2 : Nat) (d : Nat → Int32) (r : Nat → Int32) (w : Int32), h - i2 < m_51 → (i2 ≤ h) → (∀ x, x < i2 → d x = ld_q a c f x) → (∀ x, x < i2 → r x = ld_r a c f x) → (w = ld_lf a c f i2) → K (us (us (us σ 4 f) 5 d) 6 r) [(0, .ref (ad 1)), (1, .int c), (2, .int a), (3, .int w), (4, .int (nI i2))] [] 51 := by
          intro m_51
          induction m_51 with
          | zero => intro i2 d r w hm_; exact absurd hm_ (Nat.not_lt_zero _)
          | succ m_51 ih51 =>
            intro i2 d r w hm_51 hi2 hd hr hw
            refine ld_iload O (pc := 51) 4 dX1_dealOut_51 rfl ?_
            refine ld_aload_n O (pc := 53) 0 dX1_dealOut_53 rfl rfl ?_
            refine ld_g_now_houses O (pc := 54) (v := nI h) ld_w30 hh dX1_dealOut_54 ?_
            refine ld_icmp_ge O (pc := 57) ((i2 : Nat) : Int) ((h : Nat) : Int) (nI_toInt (by omega)) (nI_toInt (by omega)) 128 dX1_dealOut_57 (by decide) (fun c2 => ?_) (fun c2 => ?_)
            · have ei2 : i2 = h := by omega
              rw [ei2] at hd hr hw
              refine ld_iconst O (pc := 128) (v := nI 0) dX1_dealOut_128 (by decide) ?_
              refine ld_istore O (pc := 129) [(4, .int (nI 0)), (0, .ref (ad 1)), (1, .int c), (2, .int a), (3, .int w)] dX1_dealOut_129 (by decide) rfl ?_
              have L131 : ∀ (m_131 : Nat) (i3 : Nat) (d2 : Nat → Int32), h - i3 < m_131 → (i3 ≤ h) → (∀ x, x < i3 → d2 x = ld_dl h a c f x) → (∀ x, i3 ≤ x → x < h → d2 x = ld_q a c f x) → K (us (us (us σ 4 f) 5 d2) 6 r) [(0, .ref (ad 1)), (1, .int c), (2, .int a), (3, .int w), (4, .int (nI i3))] [] 131 := by
                intro m_131
                induction m_131 with
                | zero => intro i3 d2 hm_; exact absurd hm_ (Nat.not_lt_zero _)
                | succ m_131 ih131 =>
                  intro i3 d2 hm_131 hi3 hd2 hd3
                  refine ld_iload O (pc := 131) 4 dX1_dealOut_131 rfl ?_
                  refine ld_aload_n O (pc := 133) 0 dX1_dealOut_133 rfl rfl ?_
                  refine ld_g_now_houses O (pc := 134) (v := nI h) ld_w30 hh dX1_dealOut_134 ?_
                  refine ld_icmp_ge O (pc := 137) ((i3 : Nat) : Int) ((h : Nat) : Int) (nI_toInt (by omega)) (nI_toInt (by omega)) 167 dX1_dealOut_137 (by decide) (fun c3 => ?_) (fun c3 => ?_)
                  · refine ld_vret E dX1_dealOut_167 ?_
                    exact ⟨f, d2, r, rfl, fun x hx => (hd2 x (by omega)).trans (by unfold ld_dt; rw [← ha]; exact ld_dl_cong hf hx)⟩
                  · refine ld_aload_n O (pc := 140) 0 dX1_dealOut_140 rfl rfl ?_
                    refine ld_iload O (pc := 141) 4 dX1_dealOut_141 rfl ?_
                    refine ld_callVi O (pc := 143) (As := [.int (nI i3)]) (st := []) ld_recv1 (c_X1_ahead_0 l ad (us (us (us σ 4 f) 5 d2) 6 r) h hh h8 i3 (by omega)) ld_mw_X1_aheadByRemainder ld_w186 rfl rfl ⟨by decide, by decide⟩ (Nat.le_of_ble_eq_true rfl) dX1_dealOut_143 (fun r_p143 σ_p143 h_p143 => ?_)
                    obtain ⟨rfl, hσ_p143⟩ := h_p143
                    rw [hσ_p143]
                    show K (us (us (us σ 4 f) 5 d2) 6 r) [(0, .ref (ad 1)), (1, .int c), (2, .int a), (3, .int w), (4, .int (nI i3))] [.int (nI (ld_ah r h i3))] 146
                    refine ld_iload_n O (pc := 146) 3 dX1_dealOut_146 rfl rfl ?_
                    have hb_ := ld_ah_le r h i3
                    refine ld_icmp_ge O (pc := 147) ((ld_ah r h i3 : Nat) : Int) (w).toInt (nI_toInt (by omega)) rfl 161 dX1_dealOut_147 (by decide) (fun c4 => ?_) (fun c4 => ?_)
                    · refine ld_iincN O (pc := 161) [(4, .int (nI (i3 + 1))), (0, .ref (ad 1)), (1, .int c), (2, .int a), (3, .int w)] 4 dX1_dealOut_161 rfl (by decide) rfl ?_
                      refine ld_goto O (pc := 164) 131 dX1_dealOut_164 (by decide) ?_
                      refine ld_less O [1, 2, 3, 4, 0] (lv2 := [(0, .ref (ad 1)), (1, .int c), (2, .int a), (3, .int w), (4, .int (nI (i3 + 1)))]) rfl ?_
                      exact ih131 (i3 + 1) d2 (by omega) (by omega) (lt_s hd2 (by rw [hd3 i3 (Nat.le_refl _) (by omega)]; unfold ld_dl; rw [if_neg (by rw [← ld_ah_cong hr (by omega), ← hw]; omega)])) (fun x h1 h2 => hd3 x (by omega) h2)
                    · refine ld_aload_n O (pc := 150) 0 dX1_dealOut_150 rfl rfl ?_
                      refine ld_g_now_dealt O (pc := 151) ld_w39 dX1_dealOut_151 ?_
                      refine ld_iload O (pc := 154) 4 dX1_dealOut_154 rfl ?_
                      refine ld_dup2 O (pc := 156) dX1_dealOut_156 rfl rfl ?_
                      refine ld_iald O (pc := 157) 5 i3 (v := d2 i3) rfl (by decide) (show i3 < 8 by omega) rfl dX1_dealOut_157 ?_
                      refine ld_iconst O (pc := 158) (v := nI 1) dX1_dealOut_158 (by decide) ?_
                      refine ld_iadd O (pc := 159) dX1_dealOut_159 ?_
                      refine ld_iast O (pc := 160) 5 i3 rfl (by decide) (show i3 < 8 by omega) dX1_dealOut_160 ?_
                      refine ld_iincN O (pc := 161) [(4, .int (nI (i3 + 1))), (0, .ref (ad 1)), (1, .int c), (2, .int a), (3, .int w)] 4 dX1_dealOut_161 rfl (by decide) rfl ?_
                      refine ld_goto O (pc := 164) 131 dX1_dealOut_164 (by decide) ?_
                      refine ld_less O [1, 2, 3, 4, 0] (lv2 := [(0, .ref (ad 1)), (1, .int c), (2, .int a), (3, .int w), (4, .int (nI (i3 + 1)))]) rfl ?_
                      have hs5 : us (us (us (us σ 4 f) 5 d2) 6 r) 5 (upd (d2) i3 ((d2 i3) + (nI 1))) = us (us (us σ 4 f) 5 (upd (d2) i3 ((d2 i3) + (nI 1)))) 6 r := by
                        funext b_
                        by_cases h0_ : b_ = 4
                        · subst h0_; rfl
                        by_cases h1_ : b_ = 5
                        · subst h1_; rfl
                        by_cases h2_ : b_ = 6
                        · subst h2_; rfl
                        simp only [us, h0_, h1_, h2_, if_false]
                      refine ld_cv hs5 ?_
                      exact ih131 (i3 + 1) (upd (d2) i3 ((d2 i3) + (nI 1))) (by omega) (by omega) (ld_ext hd2 (by rw [hd3 i3 (Nat.le_refl _) (by omega)]; unfold ld_dl; rw [if_pos (by rw [← ld_ah_cong hr (by omega), ← hw]; omega)])) (ld_exk hd3)
              refine ld_less O [1, 2, 3, 4, 0] (lv2 := [(0, .ref (ad 1)), (1, .int c), (2, .int a), (3, .int w), (4, .int (nI 0))]) rfl ?_
              exact L131 _ 0 d (Nat.lt_succ_self _) (Nat.zero_le _) (fun x hx => absurd hx (Nat.not_lt_zero x)) (fun x _ h2 => hd x h2)
            · refine ld_aload_n O (pc := 60) 0 dX1_dealOut_60 rfl rfl ?_
              refine ld_g_now_dealt O (pc := 61) ld_w39 dX1_dealOut_61 ?_
              refine ld_iload O (pc := 64) 4 dX1_dealOut_64 rfl ?_
              refine ld_iload_n O (pc := 66) 2 dX1_dealOut_66 rfl rfl ?_
              refine ld_if_le O (pc := 67) (a).toInt rfl 84 dX1_dealOut_67 (by decide) (fun c6 => ?_) (fun c6 => ?_)
              · refine ld_iconst O (pc := 84) (v := nI 0) dX1_dealOut_84 (by decide) ?_
                refine ld_iast O (pc := 85) 5 i2 rfl (by decide) (show i2 < 8 by omega) dX1_dealOut_85 ?_
                refine ld_aload_n O (pc := 86) 0 dX1_dealOut_86 rfl rfl ?_
                refine ld_g_now_remainder O (pc := 87) ld_w40 dX1_dealOut_87 ?_
                refine ld_iload O (pc := 90) 4 dX1_dealOut_90 rfl ?_
                refine ld_iload_n O (pc := 92) 2 dX1_dealOut_92 rfl rfl ?_
                refine ld_if_le O (pc := 93) (a).toInt rfl 110 dX1_dealOut_93 (by decide) (fun c7 => ?_) (fun z => absurd c6 z)
                refine ld_iconst O (pc := 110) (v := nI 0) dX1_dealOut_110 (by decide) ?_
                refine ld_iast O (pc := 111) 6 i2 rfl (by decide) (show i2 < 8 by omega) dX1_dealOut_111 ?_
                refine ld_iload_n O (pc := 112) 3 dX1_dealOut_112 rfl rfl ?_
                refine ld_aload_n O (pc := 113) 0 dX1_dealOut_113 rfl rfl ?_
                refine ld_g_now_dealt O (pc := 114) ld_w39 dX1_dealOut_114 ?_
                refine ld_iload O (pc := 117) 4 dX1_dealOut_117 rfl ?_
                refine ld_iald O (pc := 119) 5 i2 (v := nI 0) rfl (by decide) (show i2 < 8 by omega) (by show (upd (d) i2 (nI 0)) i2 = _; exact pk_us) dX1_dealOut_119 ?_
                refine ld_isub O (pc := 120) dX1_dealOut_120 ?_
                refine ld_istore_n O (pc := 121) [(3, .int (w - (nI 0))), (0, .ref (ad 1)), (1, .int c), (2, .int a), (4, .int (nI i2))] dX1_dealOut_121 rfl (by decide) rfl ?_
                refine ld_iincN O (pc := 122) [(4, .int (nI (i2 + 1))), (3, .int (w - (nI 0))), (0, .ref (ad 1)), (1, .int c), (2, .int a)] 4 dX1_dealOut_122 rfl (by decide) rfl ?_
                refine ld_goto O (pc := 125) 51 dX1_dealOut_125 (by decide) ?_
                refine ld_less O [2, 3, 4, 1, 0] (lv2 := [(0, .ref (ad 1)), (1, .int c), (2, .int a), (3, .int (w - (nI 0))), (4, .int (nI (i2 + 1)))]) rfl ?_
                have hs8 : us (us (us (us (us σ 4 f) 5 d) 6 r) 5 (upd (d) i2 (nI 0))) 6 (upd (r) i2 (nI 0)) = us (us (us σ 4 f) 5 (upd (d) i2 (nI 0))) 6 (upd (r) i2 (nI 0)) := by
                  funext b_
                  by_cases h0_ : b_ = 4
                  · subst h0_; rfl
                  by_cases h1_ : b_ = 5
                  · subst h1_; rfl
                  by_cases h2_ : b_ = 6
                  · subst h2_; rfl
                  simp only [us, h0_, h1_, h2_, if_false]
                refine ld_cv hs8 ?_
                exact ih51 (i2 + 1) (upd (d) i2 (nI 0)) (upd (r) i2 (nI 0)) (w - (nI 0)) (by omega) (by omega) (ld_ext hd (by simp [ld_q, c1, c2, c6])) (ld_ext hr (by simp [ld_r, c1, c2, c6])) (by rw [hw]; simp [ld_lf, ld_q, c1, c2, c6])
              · refine ld_iload_n O (pc := 70) 1 dX1_dealOut_70 rfl rfl ?_
                refine ld_aload_n O (pc := 71) 0 dX1_dealOut_71 rfl rfl ?_
                refine ld_g_now_sour O (pc := 72) ld_w38 dX1_dealOut_72 ?_
                refine ld_iload O (pc := 75) 4 dX1_dealOut_75 rfl ?_
                refine ld_iald O (pc := 77) 4 i2 (v := f i2) rfl (by decide) (show i2 < 8 by omega) rfl dX1_dealOut_77 ?_
                refine ld_imul O (pc := 78) dX1_dealOut_78 ?_
                refine ld_iload_n O (pc := 79) 2 dX1_dealOut_79 rfl rfl ?_
                refine ld_idiv O (pc := 80) dX1_dealOut_80 (fun z => c6 (by rw [z]; decide)) ?_
                refine ld_goto O (pc := 81) 85 dX1_dealOut_81 (by decide) ?_
                refine ld_iast O (pc := 85) 5 i2 rfl (by decide) (show i2 < 8 by omega) dX1_dealOut_85 ?_
                refine ld_aload_n O (pc := 86) 0 dX1_dealOut_86 rfl rfl ?_
                refine ld_g_now_remainder O (pc := 87) ld_w40 dX1_dealOut_87 ?_
                refine ld_iload O (pc := 90) 4 dX1_dealOut_90 rfl ?_
                refine ld_iload_n O (pc := 92) 2 dX1_dealOut_92 rfl rfl ?_
                refine ld_if_le O (pc := 93) (a).toInt rfl 110 dX1_dealOut_93 (by decide) (fun z => absurd z c6) (fun c9 => ?_)
                refine ld_iload_n O (pc := 96) 1 dX1_dealOut_96 rfl rfl ?_
                refine ld_aload_n O (pc := 97) 0 dX1_dealOut_97 rfl rfl ?_
                refine ld_g_now_sour O (pc := 98) ld_w38 dX1_dealOut_98 ?_
                refine ld_iload O (pc := 101) 4 dX1_dealOut_101 rfl ?_
                refine ld_iald O (pc := 103) 4 i2 (v := f i2) rfl (by decide) (show i2 < 8 by omega) rfl dX1_dealOut_103 ?_
                refine ld_imul O (pc := 104) dX1_dealOut_104 ?_
                refine ld_iload_n O (pc := 105) 2 dX1_dealOut_105 rfl rfl ?_
                refine ld_irem O (pc := 106) dX1_dealOut_106 (fun z => c6 (by rw [z]; decide)) ?_
                refine ld_goto O (pc := 107) 111 dX1_dealOut_107 (by decide) ?_
                refine ld_iast O (pc := 111) 6 i2 rfl (by decide) (show i2 < 8 by omega) dX1_dealOut_111 ?_
                refine ld_iload_n O (pc := 112) 3 dX1_dealOut_112 rfl rfl ?_
                refine ld_aload_n O (pc := 113) 0 dX1_dealOut_113 rfl rfl ?_
                refine ld_g_now_dealt O (pc := 114) ld_w39 dX1_dealOut_114 ?_
                refine ld_iload O (pc := 117) 4 dX1_dealOut_117 rfl ?_
                refine ld_iald O (pc := 119) 5 i2 (v := (c * (f i2)) / a) rfl (by decide) (show i2 < 8 by omega) (by show (upd (d) i2 ((c * (f i2)) / a)) i2 = _; exact pk_us) dX1_dealOut_119 ?_
                refine ld_isub O (pc := 120) dX1_dealOut_120 ?_
                refine ld_istore_n O (pc := 121) [(3, .int (w - ((c * (f i2)) / a))), (0, .ref (ad 1)), (1, .int c), (2, .int a), (4, .int (nI i2))] dX1_dealOut_121 rfl (by decide) rfl ?_
                refine ld_iincN O (pc := 122) [(4, .int (nI (i2 + 1))), (3, .int (w - ((c * (f i2)) / a))), (0, .ref (ad 1)), (1, .int c), (2, .int a)] 4 dX1_dealOut_122 rfl (by decide) rfl ?_
                refine ld_goto O (pc := 125) 51 dX1_dealOut_125 (by decide) ?_
                refine ld_less O [2, 3, 4, 1, 0] (lv2 := [(0, .ref (ad 1)), (1, .int c), (2, .int a), (3, .int (w - ((c * (f i2)) / a))), (4, .int (nI (i2 + 1)))]) rfl ?_
                have hs10 : us (us (us (us (us σ 4 f) 5 d) 6 r) 5 (upd (d) i2 ((c * (f i2)) / a))) 6 (upd (r) i2 ((c * (f i2)) - (c * (f i2)) / a * a)) = us (us (us σ 4 f) 5 (upd (d) i2 ((c * (f i2)) / a))) 6 (upd (r) i2 ((c * (f i2)) - (c * (f i2)) / a * a)) := by
                  funext b_
                  by_cases h0_ : b_ = 4
                  · subst h0_; rfl
                  by_cases h1_ : b_ = 5
                  · subst h1_; rfl
                  by_cases h2_ : b_ = 6
                  · subst h2_; rfl
                  simp only [us, h0_, h1_, h2_, if_false]
                refine ld_cv hs10 ?_
                exact ih51 (i2 + 1) (upd (d) i2 ((c * (f i2)) / a)) (upd (r) i2 ((c * (f i2)) - (c * (f i2)) / a * a)) (w - ((c * (f i2)) / a)) (by omega) (by omega) (ld_ext hd (by simp [ld_q, c1, c2, c6])) (ld_ext hr (by simp [ld_r, c1, c2, c6])) (by rw [hw]; simp [ld_lf, ld_q, c1, c2, c6])
        refine ld_iload_n O (pc := 38) 2 dX1_dealOut_38 rfl rfl ?_
        refine ld_if_le O (pc := 39) (a).toInt rfl 46 dX1_dealOut_39 (by decide) (fun c11 => ?_) (fun c11 => ?_)
        · refine ld_iconst O (pc := 46) (v := nI 0) dX1_dealOut_46 (by decide) ?_
          refine ld_istore_n O (pc := 47) [(3, .int (nI 0)), (0, .ref (ad 1)), (1, .int c), (2, .int a)] dX1_dealOut_47 rfl (by decide) rfl ?_
          refine ld_iconst O (pc := 48) (v := nI 0) dX1_dealOut_48 (by decide) ?_
          refine ld_istore O (pc := 49) [(4, .int (nI 0)), (3, .int (nI 0)), (0, .ref (ad 1)), (1, .int c), (2, .int a)] dX1_dealOut_49 (by decide) rfl ?_
          refine ld_less O [2, 3, 4, 1, 0] (lv2 := [(0, .ref (ad 1)), (1, .int c), (2, .int a), (3, .int (nI 0)), (4, .int (nI 0))]) rfl ?_
          have hs12 : us σ 4 f = us (us (us σ 4 f) 5 (σ 5)) 6 (σ 6) := by
            funext b_
            by_cases h0_ : b_ = 4
            · subst h0_; rfl
            by_cases h1_ : b_ = 5
            · subst h1_; rfl
            by_cases h2_ : b_ = 6
            · subst h2_; rfl
            simp only [us, h0_, h1_, h2_, if_false]
          refine ld_cv hs12 ?_
          exact L51 _ 0 (σ 5) (σ 6) (nI 0) (Nat.lt_succ_self _) (Nat.zero_le _) (fun x hx => absurd hx (Nat.not_lt_zero x)) (fun x hx => absurd hx (Nat.not_lt_zero x)) (by simp [ld_lf, c1, c11])
        · refine ld_iload_n O (pc := 42) 1 dX1_dealOut_42 rfl rfl ?_
          refine ld_goto O (pc := 43) 47 dX1_dealOut_43 (by decide) ?_
          refine ld_istore_n O (pc := 47) [(3, .int c), (0, .ref (ad 1)), (1, .int c), (2, .int a)] dX1_dealOut_47 rfl (by decide) rfl ?_
          refine ld_iconst O (pc := 48) (v := nI 0) dX1_dealOut_48 (by decide) ?_
          refine ld_istore O (pc := 49) [(4, .int (nI 0)), (3, .int c), (0, .ref (ad 1)), (1, .int c), (2, .int a)] dX1_dealOut_49 (by decide) rfl ?_
          refine ld_less O [2, 3, 4, 1, 0] (lv2 := [(0, .ref (ad 1)), (1, .int c), (2, .int a), (3, .int c), (4, .int (nI 0))]) rfl ?_
          have hs13 : us σ 4 f = us (us (us σ 4 f) 5 (σ 5)) 6 (σ 6) := by
            funext b_
            by_cases h0_ : b_ = 4
            · subst h0_; rfl
            by_cases h1_ : b_ = 5
            · subst h1_; rfl
            by_cases h2_ : b_ = 6
            · subst h2_; rfl
            simp only [us, h0_, h1_, h2_, if_false]
          refine ld_cv hs13 ?_
          exact L51 _ 0 (σ 5) (σ 6) c (Nat.lt_succ_self _) (Nat.zero_le _) (fun x hx => absurd hx (Nat.not_lt_zero x)) (fun x hx => absurd hx (Nat.not_lt_zero x)) (by simp [ld_lf, c1, c11])
      · refine ld_aload_n O (pc := 12) 0 dX1_dealOut_12 rfl rfl ?_
        refine ld_g_now_sour O (pc := 13) ld_w38 dX1_dealOut_13 ?_
        refine ld_iload_n O (pc := 16) 3 dX1_dealOut_16 rfl rfl ?_
        refine ld_aload_n O (pc := 17) 0 dX1_dealOut_17 rfl rfl ?_
        refine ld_iload_n O (pc := 18) 3 dX1_dealOut_18 rfl rfl ?_
        refine ld_callVi O (pc := 19) (As := [.int (nI i)]) (st := [.int (nI i), .ref (ad (9 + 4))]) ld_recv1 (c_X1_sourOf_0 l ad (us σ 4 f) i (by omega)) ld_mw_X1_sourOf ld_w185 rfl rfl ⟨by decide, by decide⟩ (Nat.le_of_ble_eq_true rfl) dX1_dealOut_19 (fun r_p19 σ_p19 h_p19 => ?_)
        obtain ⟨rfl, hσ_p19⟩ := h_p19
        rw [hσ_p19]
        show K (us σ 4 f) [(0, .ref (ad 1)), (1, .int c), (2, .int a), (3, .int (nI i))] [.int (ld_sr (σ 0 i) (σ 1 i)), .int (nI i), .ref (ad (9 + 4))] 22
        refine ld_iast O (pc := 22) 4 i rfl (by decide) (show i < 8 by omega) dX1_dealOut_22 ?_
        refine ld_iload_n O (pc := 23) 2 dX1_dealOut_23 rfl rfl ?_
        refine ld_aload_n O (pc := 24) 0 dX1_dealOut_24 rfl rfl ?_
        refine ld_g_now_sour O (pc := 25) ld_w38 dX1_dealOut_25 ?_
        refine ld_iload_n O (pc := 28) 3 dX1_dealOut_28 rfl rfl ?_
        refine ld_iald O (pc := 29) 4 i (v := ld_sr (σ 0 i) (σ 1 i)) rfl (by decide) (show i < 8 by omega) (by show (upd (f) i (ld_sr (σ 0 i) (σ 1 i))) i = _; exact pk_us) dX1_dealOut_29 ?_
        refine ld_iadd O (pc := 30) dX1_dealOut_30 ?_
        refine ld_istore_n O (pc := 31) [(2, .int (a + (ld_sr (σ 0 i) (σ 1 i)))), (0, .ref (ad 1)), (1, .int c), (3, .int (nI i))] dX1_dealOut_31 rfl (by decide) rfl ?_
        refine ld_iincN O (pc := 32) [(3, .int (nI (i + 1))), (2, .int (a + (ld_sr (σ 0 i) (σ 1 i)))), (0, .ref (ad 1)), (1, .int c)] 3 dX1_dealOut_32 rfl (by decide) rfl ?_
        refine ld_goto O (pc := 35) 4 dX1_dealOut_35 (by decide) ?_
        refine ld_less O [2, 3, 1, 0] (lv2 := [(0, .ref (ad 1)), (1, .int c), (2, .int (a + (ld_sr (σ 0 i) (σ 1 i)))), (3, .int (nI (i + 1)))]) rfl ?_
        have hs14 : us (us σ 4 f) 4 (upd (f) i (ld_sr (σ 0 i) (σ 1 i))) = us σ 4 (upd (f) i (ld_sr (σ 0 i) (σ 1 i))) := by
          funext b_
          by_cases h0_ : b_ = 4
          · subst h0_; rfl
          simp only [us, h0_, if_false]
        refine ld_cv hs14 ?_
        exact ih4 (i + 1) (upd (f) i (ld_sr (σ 0 i) (σ 1 i))) (a + (ld_sr (σ 0 i) (σ 1 i))) (by omega) (by omega) (ld_ext hf rfl) (by rw [ha]; rfl)
  refine ld_less O [2, 3, 1, 0] (lv2 := [(0, .ref (ad 1)), (1, .int c), (2, .int (nI 0)), (3, .int (nI 0))]) rfl ?_
  have hs15 : σ = us σ 4 (σ 4) := by
    funext b_
    by_cases h0_ : b_ = 4
    · subst h0_; rfl
    simp only [us, h0_, if_false]
  refine ld_cv hs15 ?_
  exact L4 _ 0 (σ 4) (nI 0) (Nat.lt_succ_self _) (Nat.zero_le _) (fun x hx => absurd hx (Nat.not_lt_zero x)) rfl
set_option maxHeartbeats 4000000 in
set_option maxRecDepth 100000 in
theorem c_X1_ahead_1 (l : Launch) (ad : Nat → Nat) (σ : ld_St) (h : Nat) (hh : σ 120 0 = nI h) (h8 : h ≤ 8) (k : Nat) (hk : k < h) : ld_Ctr l yX1_aheadByRemainder cX1_aheadByRemainder 4 (some .int) (0, 0) [.ref (ad 2), .int (nI k)] ad σ (ld_I (fun (r : Int32) (σ2 : ld_St) => r = nI (ld_ah (σ 13) h k) ∧ σ2 = σ)) := by
  refine ld_entry (by decide +kernel) (Nat.le_of_ble_eq_true rfl) (fun K O E => ?_)
  have O : ld_Ok l K ad cX1_aheadByRemainder 4 RX1 (ld_rm (0, 0)) := O
  show K σ [(0, .ref (ad 2)), (1, .int (nI k))] [] 0
  refine ld_iconst O (pc := 0) (v := nI 0) dX1_aheadByRemainder_0 (by decide) ?_
  refine ld_istore_n O (pc := 1) [(2, .int (nI 0)), (0, .ref (ad 2)), (1, .int (nI k))] dX1_aheadByRemainder_1 rfl (by decide) rfl ?_
  refine ld_iconst O (pc := 2) (v := nI 0) dX1_aheadByRemainder_2 (by decide) ?_
  refine ld_istore_n O (pc := 3) [(3, .int (nI 0)), (2, .int (nI 0)), (0, .ref (ad 2)), (1, .int (nI k))] dX1_aheadByRemainder_3 rfl (by decide) rfl ?_
  have L4 : ∀ (m_4 : Nat) (i : Nat) (m : Nat), h - i < m_4 → (i ≤ h) → (m = fb_ct (ld_ap (σ 13) k) i) → (m ≤ i) → K σ [(0, .ref (ad 2)), (1, .int (nI k)), (2, .int (nI m)), (3, .int (nI i))] [] 4 := by
    intro m_4
    induction m_4 with
    | zero => intro i m hm_; exact absurd hm_ (Nat.not_lt_zero _)
    | succ m_4 ih4 =>
      intro i m hm_4 hi hm hmi
      refine ld_iload_n O (pc := 4) 3 dX1_aheadByRemainder_4 rfl rfl ?_
      refine ld_aload_n O (pc := 5) 0 dX1_aheadByRemainder_5 rfl rfl ?_
      refine ld_g_trial_houses O (pc := 6) (v := nI h) ld_w30 hh dX1_aheadByRemainder_6 ?_
      refine ld_icmp_ge O (pc := 9) ((i : Nat) : Int) ((h : Nat) : Int) (nI_toInt (by omega)) (nI_toInt (by omega)) 56 dX1_aheadByRemainder_9 (by decide) (fun c1 => ?_) (fun c1 => ?_)
      · refine ld_iload_n O (pc := 56) 2 dX1_aheadByRemainder_56 rfl rfl ?_
        refine ld_ireti E dX1_aheadByRemainder_57 ?_
        exact ⟨by rw [hm, show i = h by omega]; rfl, rfl⟩
      · refine ld_aload_n O (pc := 12) 0 dX1_aheadByRemainder_12 rfl rfl ?_
        refine ld_g_trial_remainder O (pc := 13) ld_w40 dX1_aheadByRemainder_13 ?_
        refine ld_iload_n O (pc := 16) 3 dX1_aheadByRemainder_16 rfl rfl ?_
        refine ld_iald O (pc := 17) 13 i (v := σ 13 i) rfl (by decide) (show i < 8 by omega) rfl dX1_aheadByRemainder_17 ?_
        refine ld_aload_n O (pc := 18) 0 dX1_aheadByRemainder_18 rfl rfl ?_
        refine ld_g_trial_remainder O (pc := 19) ld_w40 dX1_aheadByRemainder_19 ?_
        refine ld_iload_n O (pc := 22) 1 dX1_aheadByRemainder_22 rfl rfl ?_
        refine ld_iald O (pc := 23) 13 k (v := σ 13 k) rfl (by decide) (show k < 8 by omega) rfl dX1_aheadByRemainder_23 ?_
        refine ld_icmp_gt O (pc := 24) (σ 13 i).toInt (σ 13 k).toInt rfl rfl 47 dX1_aheadByRemainder_24 (by decide) (fun c2 => ?_) (fun c2 => ?_)
        · refine ld_iincN O (pc := 47) [(2, .int (nI (m + 1))), (0, .ref (ad 2)), (1, .int (nI k)), (3, .int (nI i))] 2 dX1_aheadByRemainder_47 rfl (by decide) rfl ?_
          refine ld_iincN O (pc := 50) [(3, .int (nI (i + 1))), (2, .int (nI (m + 1))), (0, .ref (ad 2)), (1, .int (nI k))] 3 dX1_aheadByRemainder_50 rfl (by decide) rfl ?_
          refine ld_goto O (pc := 53) 4 dX1_aheadByRemainder_53 (by decide) ?_
          refine ld_less O [2, 3, 1, 0] (lv2 := [(0, .ref (ad 2)), (1, .int (nI k)), (2, .int (nI (m + 1))), (3, .int (nI (i + 1)))]) rfl ?_
          exact ih4 (i + 1) (m + 1) (by omega) (by omega) (ld_ct_t hm (by unfold ld_ap; exact decide_eq_true (by omega))) (by omega)
        · refine ld_aload_n O (pc := 27) 0 dX1_aheadByRemainder_27 rfl rfl ?_
          refine ld_g_trial_remainder O (pc := 28) ld_w40 dX1_aheadByRemainder_28 ?_
          refine ld_iload_n O (pc := 31) 3 dX1_aheadByRemainder_31 rfl rfl ?_
          refine ld_iald O (pc := 32) 13 i (v := σ 13 i) rfl (by decide) (show i < 8 by omega) rfl dX1_aheadByRemainder_32 ?_
          refine ld_aload_n O (pc := 33) 0 dX1_aheadByRemainder_33 rfl rfl ?_
          refine ld_g_trial_remainder O (pc := 34) ld_w40 dX1_aheadByRemainder_34 ?_
          refine ld_iload_n O (pc := 37) 1 dX1_aheadByRemainder_37 rfl rfl ?_
          refine ld_iald O (pc := 38) 13 k (v := σ 13 k) rfl (by decide) (show k < 8 by omega) rfl dX1_aheadByRemainder_38 ?_
          refine ld_icmp_ne O (pc := 39) (σ 13 i).toInt (σ 13 k).toInt rfl rfl 50 dX1_aheadByRemainder_39 (by decide) (fun c3 => ?_) (fun c3 => ?_)
          · refine ld_iincN O (pc := 50) [(3, .int (nI (i + 1))), (0, .ref (ad 2)), (1, .int (nI k)), (2, .int (nI m))] 3 dX1_aheadByRemainder_50 rfl (by decide) rfl ?_
            refine ld_goto O (pc := 53) 4 dX1_aheadByRemainder_53 (by decide) ?_
            refine ld_less O [1, 2, 3, 0] (lv2 := [(0, .ref (ad 2)), (1, .int (nI k)), (2, .int (nI m)), (3, .int (nI (i + 1)))]) rfl ?_
            exact ih4 (i + 1) m (by omega) (by omega) (ld_ct_f hm (by unfold ld_ap; intro z; have z2 := of_decide_eq_true z; omega)) (by omega)
          · refine ld_iload_n O (pc := 42) 3 dX1_aheadByRemainder_42 rfl rfl ?_
            refine ld_iload_n O (pc := 43) 1 dX1_aheadByRemainder_43 rfl rfl ?_
            refine ld_icmp_ge O (pc := 44) ((i : Nat) : Int) ((k : Nat) : Int) (nI_toInt (by omega)) (nI_toInt (by omega)) 50 dX1_aheadByRemainder_44 (by decide) (fun c4 => ?_) (fun c4 => ?_)
            · refine ld_iincN O (pc := 50) [(3, .int (nI (i + 1))), (0, .ref (ad 2)), (1, .int (nI k)), (2, .int (nI m))] 3 dX1_aheadByRemainder_50 rfl (by decide) rfl ?_
              refine ld_goto O (pc := 53) 4 dX1_aheadByRemainder_53 (by decide) ?_
              refine ld_less O [1, 2, 3, 0] (lv2 := [(0, .ref (ad 2)), (1, .int (nI k)), (2, .int (nI m)), (3, .int (nI (i + 1)))]) rfl ?_
              exact ih4 (i + 1) m (by omega) (by omega) (ld_ct_f hm (by unfold ld_ap; intro z; have z2 := of_decide_eq_true z; omega)) (by omega)
            · refine ld_iincN O (pc := 47) [(2, .int (nI (m + 1))), (0, .ref (ad 2)), (1, .int (nI k)), (3, .int (nI i))] 2 dX1_aheadByRemainder_47 rfl (by decide) rfl ?_
              refine ld_iincN O (pc := 50) [(3, .int (nI (i + 1))), (2, .int (nI (m + 1))), (0, .ref (ad 2)), (1, .int (nI k))] 3 dX1_aheadByRemainder_50 rfl (by decide) rfl ?_
              refine ld_goto O (pc := 53) 4 dX1_aheadByRemainder_53 (by decide) ?_
              refine ld_less O [2, 3, 1, 0] (lv2 := [(0, .ref (ad 2)), (1, .int (nI k)), (2, .int (nI (m + 1))), (3, .int (nI (i + 1)))]) rfl ?_
              exact ih4 (i + 1) (m + 1) (by omega) (by omega) (ld_ct_t hm (by unfold ld_ap; exact decide_eq_true (by omega))) (by omega)
  refine ld_less O [2, 3, 1, 0] (lv2 := [(0, .ref (ad 2)), (1, .int (nI k)), (2, .int (nI 0)), (3, .int (nI 0))]) rfl ?_
  exact L4 _ 0 0 (Nat.lt_succ_self _) (Nat.zero_le _) rfl (Nat.zero_le _)
set_option maxHeartbeats 4000000 in
set_option maxRecDepth 100000 in
theorem c_X1_dealOut_1 (l : Launch) (ad : Nat → Nat) (σ : ld_St) (h : Nat) (hh : σ 120 0 = nI h) (h8 : h ≤ 8) (c : Int32) : ld_Ctr l yX1_dealOut cX1_dealOut 5 none (1, 23) [.ref (ad 2), .int c] ad σ (ld_V (fun (σ2 : ld_St) => ∃ f4 f5 f6 : Nat → Int32, σ2 = us (us (us σ 11 f4) 12 f5) 13 f6 ∧ ∀ x, x < h → f5 x = ld_dt h (σ 7) (σ 8) c x)) := by
  refine ld_entry (by decide +kernel) (Nat.le_of_ble_eq_true rfl) (fun K O E => ?_)
  have O : ld_Ok l K ad cX1_dealOut 5 RX1 (ld_rm (1, 23)) := O
  show K σ [(0, .ref (ad 2)), (1, .int c)] [] 0
  refine ld_iconst O (pc := 0) (v := nI 0) dX1_dealOut_0 (by decide) ?_
  refine ld_istore_n O (pc := 1) [(2, .int (nI 0)), (0, .ref (ad 2)), (1, .int c)] dX1_dealOut_1 rfl (by decide) rfl ?_
  refine ld_iconst O (pc := 2) (v := nI 0) dX1_dealOut_2 (by decide) ?_
  refine ld_istore_n O (pc := 3) [(3, .int (nI 0)), (2, .int (nI 0)), (0, .ref (ad 2)), (1, .int c)] dX1_dealOut_3 rfl (by decide) rfl ?_
  have L4 : ∀ (m_4 : Nat) (i : Nat) (f : Nat → Int32) (a : Int32), h - i < m_4 → (i ≤ h) → (∀ x, x < i → f x = ld_ss (σ 7) (σ 8) x) → (a = l_sum (ld_ss (σ 7) (σ 8)) i) → K (us σ 11 f) [(0, .ref (ad 2)), (1, .int c), (2, .int a), (3, .int (nI i))] [] 4 := by
    intro m_4
    induction m_4 with
    | zero => intro i f a hm_; exact absurd hm_ (Nat.not_lt_zero _)
    | succ m_4 ih4 =>
      intro i f a hm_4 hi hf ha
      refine ld_iload_n O (pc := 4) 3 dX1_dealOut_4 rfl rfl ?_
      refine ld_aload_n O (pc := 5) 0 dX1_dealOut_5 rfl rfl ?_
      refine ld_g_trial_houses O (pc := 6) (v := nI h) ld_w30 hh dX1_dealOut_6 ?_
      refine ld_icmp_ge O (pc := 9) ((i : Nat) : Int) ((h : Nat) : Int) (nI_toInt (by omega)) (nI_toInt (by omega)) 38 dX1_dealOut_9 (by decide) (fun c1 => ?_) (fun c1 => ?_)
      · have ei : i = h := by omega
        rw [ei] at hf ha
        have L51 : ∀ (m_51 : Nat) (i2 : Nat) (d : Nat → Int32) (r : Nat → Int32) (w : Int32), h - i2 < m_51 → (i2 ≤ h) → (∀ x, x < i2 → d x = ld_q a c f x) → (∀ x, x < i2 → r x = ld_r a c f x) → (w = ld_lf a c f i2) → K (us (us (us σ 11 f) 12 d) 13 r) [(0, .ref (ad 2)), (1, .int c), (2, .int a), (3, .int w), (4, .int (nI i2))] [] 51 := by
          intro m_51
          induction m_51 with
          | zero => intro i2 d r w hm_; exact absurd hm_ (Nat.not_lt_zero _)
          | succ m_51 ih51 =>
            intro i2 d r w hm_51 hi2 hd hr hw
            refine ld_iload O (pc := 51) 4 dX1_dealOut_51 rfl ?_
            refine ld_aload_n O (pc := 53) 0 dX1_dealOut_53 rfl rfl ?_
            refine ld_g_trial_houses O (pc := 54) (v := nI h) ld_w30 hh dX1_dealOut_54 ?_
            refine ld_icmp_ge O (pc := 57) ((i2 : Nat) : Int) ((h : Nat) : Int) (nI_toInt (by omega)) (nI_toInt (by omega)) 128 dX1_dealOut_57 (by decide) (fun c2 => ?_) (fun c2 => ?_)
            · have ei2 : i2 = h := by omega
              rw [ei2] at hd hr hw
              refine ld_iconst O (pc := 128) (v := nI 0) dX1_dealOut_128 (by decide) ?_
              refine ld_istore O (pc := 129) [(4, .int (nI 0)), (0, .ref (ad 2)), (1, .int c), (2, .int a), (3, .int w)] dX1_dealOut_129 (by decide) rfl ?_
              have L131 : ∀ (m_131 : Nat) (i3 : Nat) (d2 : Nat → Int32), h - i3 < m_131 → (i3 ≤ h) → (∀ x, x < i3 → d2 x = ld_dl h a c f x) → (∀ x, i3 ≤ x → x < h → d2 x = ld_q a c f x) → K (us (us (us σ 11 f) 12 d2) 13 r) [(0, .ref (ad 2)), (1, .int c), (2, .int a), (3, .int w), (4, .int (nI i3))] [] 131 := by
                intro m_131
                induction m_131 with
                | zero => intro i3 d2 hm_; exact absurd hm_ (Nat.not_lt_zero _)
                | succ m_131 ih131 =>
                  intro i3 d2 hm_131 hi3 hd2 hd3
                  refine ld_iload O (pc := 131) 4 dX1_dealOut_131 rfl ?_
                  refine ld_aload_n O (pc := 133) 0 dX1_dealOut_133 rfl rfl ?_
                  refine ld_g_trial_houses O (pc := 134) (v := nI h) ld_w30 hh dX1_dealOut_134 ?_
                  refine ld_icmp_ge O (pc := 137) ((i3 : Nat) : Int) ((h : Nat) : Int) (nI_toInt (by omega)) (nI_toInt (by omega)) 167 dX1_dealOut_137 (by decide) (fun c3 => ?_) (fun c3 => ?_)
                  · refine ld_vret E dX1_dealOut_167 ?_
                    exact ⟨f, d2, r, rfl, fun x hx => (hd2 x (by omega)).trans (by unfold ld_dt; rw [← ha]; exact ld_dl_cong hf hx)⟩
                  · refine ld_aload_n O (pc := 140) 0 dX1_dealOut_140 rfl rfl ?_
                    refine ld_iload O (pc := 141) 4 dX1_dealOut_141 rfl ?_
                    refine ld_callVi O (pc := 143) (As := [.int (nI i3)]) (st := []) ld_recv2 (c_X1_ahead_1 l ad (us (us (us σ 11 f) 12 d2) 13 r) h hh h8 i3 (by omega)) ld_mw_X1_aheadByRemainder ld_w186 rfl rfl ⟨by decide, by decide⟩ (Nat.le_of_ble_eq_true rfl) dX1_dealOut_143 (fun r_p143 σ_p143 h_p143 => ?_)
                    obtain ⟨rfl, hσ_p143⟩ := h_p143
                    rw [hσ_p143]
                    show K (us (us (us σ 11 f) 12 d2) 13 r) [(0, .ref (ad 2)), (1, .int c), (2, .int a), (3, .int w), (4, .int (nI i3))] [.int (nI (ld_ah r h i3))] 146
                    refine ld_iload_n O (pc := 146) 3 dX1_dealOut_146 rfl rfl ?_
                    have hb_ := ld_ah_le r h i3
                    refine ld_icmp_ge O (pc := 147) ((ld_ah r h i3 : Nat) : Int) (w).toInt (nI_toInt (by omega)) rfl 161 dX1_dealOut_147 (by decide) (fun c4 => ?_) (fun c4 => ?_)
                    · refine ld_iincN O (pc := 161) [(4, .int (nI (i3 + 1))), (0, .ref (ad 2)), (1, .int c), (2, .int a), (3, .int w)] 4 dX1_dealOut_161 rfl (by decide) rfl ?_
                      refine ld_goto O (pc := 164) 131 dX1_dealOut_164 (by decide) ?_
                      refine ld_less O [1, 2, 3, 4, 0] (lv2 := [(0, .ref (ad 2)), (1, .int c), (2, .int a), (3, .int w), (4, .int (nI (i3 + 1)))]) rfl ?_
                      exact ih131 (i3 + 1) d2 (by omega) (by omega) (lt_s hd2 (by rw [hd3 i3 (Nat.le_refl _) (by omega)]; unfold ld_dl; rw [if_neg (by rw [← ld_ah_cong hr (by omega), ← hw]; omega)])) (fun x h1 h2 => hd3 x (by omega) h2)
                    · refine ld_aload_n O (pc := 150) 0 dX1_dealOut_150 rfl rfl ?_
                      refine ld_g_trial_dealt O (pc := 151) ld_w39 dX1_dealOut_151 ?_
                      refine ld_iload O (pc := 154) 4 dX1_dealOut_154 rfl ?_
                      refine ld_dup2 O (pc := 156) dX1_dealOut_156 rfl rfl ?_
                      refine ld_iald O (pc := 157) 12 i3 (v := d2 i3) rfl (by decide) (show i3 < 8 by omega) rfl dX1_dealOut_157 ?_
                      refine ld_iconst O (pc := 158) (v := nI 1) dX1_dealOut_158 (by decide) ?_
                      refine ld_iadd O (pc := 159) dX1_dealOut_159 ?_
                      refine ld_iast O (pc := 160) 12 i3 rfl (by decide) (show i3 < 8 by omega) dX1_dealOut_160 ?_
                      refine ld_iincN O (pc := 161) [(4, .int (nI (i3 + 1))), (0, .ref (ad 2)), (1, .int c), (2, .int a), (3, .int w)] 4 dX1_dealOut_161 rfl (by decide) rfl ?_
                      refine ld_goto O (pc := 164) 131 dX1_dealOut_164 (by decide) ?_
                      refine ld_less O [1, 2, 3, 4, 0] (lv2 := [(0, .ref (ad 2)), (1, .int c), (2, .int a), (3, .int w), (4, .int (nI (i3 + 1)))]) rfl ?_
                      have hs5 : us (us (us (us σ 11 f) 12 d2) 13 r) 12 (upd (d2) i3 ((d2 i3) + (nI 1))) = us (us (us σ 11 f) 12 (upd (d2) i3 ((d2 i3) + (nI 1)))) 13 r := by
                        funext b_
                        by_cases h0_ : b_ = 11
                        · subst h0_; rfl
                        by_cases h1_ : b_ = 12
                        · subst h1_; rfl
                        by_cases h2_ : b_ = 13
                        · subst h2_; rfl
                        simp only [us, h0_, h1_, h2_, if_false]
                      refine ld_cv hs5 ?_
                      exact ih131 (i3 + 1) (upd (d2) i3 ((d2 i3) + (nI 1))) (by omega) (by omega) (ld_ext hd2 (by rw [hd3 i3 (Nat.le_refl _) (by omega)]; unfold ld_dl; rw [if_pos (by rw [← ld_ah_cong hr (by omega), ← hw]; omega)])) (ld_exk hd3)
              refine ld_less O [1, 2, 3, 4, 0] (lv2 := [(0, .ref (ad 2)), (1, .int c), (2, .int a), (3, .int w), (4, .int (nI 0))]) rfl ?_
              exact L131 _ 0 d (Nat.lt_succ_self _) (Nat.zero_le _) (fun x hx => absurd hx (Nat.not_lt_zero x)) (fun x _ h2 => hd x h2)
            · refine ld_aload_n O (pc := 60) 0 dX1_dealOut_60 rfl rfl ?_
              refine ld_g_trial_dealt O (pc := 61) ld_w39 dX1_dealOut_61 ?_
              refine ld_iload O (pc := 64) 4 dX1_dealOut_64 rfl ?_
              refine ld_iload_n O (pc := 66) 2 dX1_dealOut_66 rfl rfl ?_
              refine ld_if_le O (pc := 67) (a).toInt rfl 84 dX1_dealOut_67 (by decide) (fun c6 => ?_) (fun c6 => ?_)
              · refine ld_iconst O (pc := 84) (v := nI 0) dX1_dealOut_84 (by decide) ?_
                refine ld_iast O (pc := 85) 12 i2 rfl (by decide) (show i2 < 8 by omega) dX1_dealOut_85 ?_
                refine ld_aload_n O (pc := 86) 0 dX1_dealOut_86 rfl rfl ?_
                refine ld_g_trial_remainder O (pc := 87) ld_w40 dX1_dealOut_87 ?_
                refine ld_iload O (pc := 90) 4 dX1_dealOut_90 rfl ?_
                refine ld_iload_n O (pc := 92) 2 dX1_dealOut_92 rfl rfl ?_
                refine ld_if_le O (pc := 93) (a).toInt rfl 110 dX1_dealOut_93 (by decide) (fun c7 => ?_) (fun z => absurd c6 z)
                refine ld_iconst O (pc := 110) (v := nI 0) dX1_dealOut_110 (by decide) ?_
                refine ld_iast O (pc := 111) 13 i2 rfl (by decide) (show i2 < 8 by omega) dX1_dealOut_111 ?_
                refine ld_iload_n O (pc := 112) 3 dX1_dealOut_112 rfl rfl ?_
                refine ld_aload_n O (pc := 113) 0 dX1_dealOut_113 rfl rfl ?_
                refine ld_g_trial_dealt O (pc := 114) ld_w39 dX1_dealOut_114 ?_
                refine ld_iload O (pc := 117) 4 dX1_dealOut_117 rfl ?_
                refine ld_iald O (pc := 119) 12 i2 (v := nI 0) rfl (by decide) (show i2 < 8 by omega) (by show (upd (d) i2 (nI 0)) i2 = _; exact pk_us) dX1_dealOut_119 ?_
                refine ld_isub O (pc := 120) dX1_dealOut_120 ?_
                refine ld_istore_n O (pc := 121) [(3, .int (w - (nI 0))), (0, .ref (ad 2)), (1, .int c), (2, .int a), (4, .int (nI i2))] dX1_dealOut_121 rfl (by decide) rfl ?_
                refine ld_iincN O (pc := 122) [(4, .int (nI (i2 + 1))), (3, .int (w - (nI 0))), (0, .ref (ad 2)), (1, .int c), (2, .int a)] 4 dX1_dealOut_122 rfl (by decide) rfl ?_
                refine ld_goto O (pc := 125) 51 dX1_dealOut_125 (by decide) ?_
                refine ld_less O [2, 3, 4, 1, 0] (lv2 := [(0, .ref (ad 2)), (1, .int c), (2, .int a), (3, .int (w - (nI 0))), (4, .int (nI (i2 + 1)))]) rfl ?_
                have hs8 : us (us (us (us (us σ 11 f) 12 d) 13 r) 12 (upd (d) i2 (nI 0))) 13 (upd (r) i2 (nI 0)) = us (us (us σ 11 f) 12 (upd (d) i2 (nI 0))) 13 (upd (r) i2 (nI 0)) := by
                  funext b_
                  by_cases h0_ : b_ = 11
                  · subst h0_; rfl
                  by_cases h1_ : b_ = 12
                  · subst h1_; rfl
                  by_cases h2_ : b_ = 13
                  · subst h2_; rfl
                  simp only [us, h0_, h1_, h2_, if_false]
                refine ld_cv hs8 ?_
                exact ih51 (i2 + 1) (upd (d) i2 (nI 0)) (upd (r) i2 (nI 0)) (w - (nI 0)) (by omega) (by omega) (ld_ext hd (by simp [ld_q, c1, c2, c6])) (ld_ext hr (by simp [ld_r, c1, c2, c6])) (by rw [hw]; simp [ld_lf, ld_q, c1, c2, c6])
              · refine ld_iload_n O (pc := 70) 1 dX1_dealOut_70 rfl rfl ?_
                refine ld_aload_n O (pc := 71) 0 dX1_dealOut_71 rfl rfl ?_
                refine ld_g_trial_sour O (pc := 72) ld_w38 dX1_dealOut_72 ?_
                refine ld_iload O (pc := 75) 4 dX1_dealOut_75 rfl ?_
                refine ld_iald O (pc := 77) 11 i2 (v := f i2) rfl (by decide) (show i2 < 8 by omega) rfl dX1_dealOut_77 ?_
                refine ld_imul O (pc := 78) dX1_dealOut_78 ?_
                refine ld_iload_n O (pc := 79) 2 dX1_dealOut_79 rfl rfl ?_
                refine ld_idiv O (pc := 80) dX1_dealOut_80 (fun z => c6 (by rw [z]; decide)) ?_
                refine ld_goto O (pc := 81) 85 dX1_dealOut_81 (by decide) ?_
                refine ld_iast O (pc := 85) 12 i2 rfl (by decide) (show i2 < 8 by omega) dX1_dealOut_85 ?_
                refine ld_aload_n O (pc := 86) 0 dX1_dealOut_86 rfl rfl ?_
                refine ld_g_trial_remainder O (pc := 87) ld_w40 dX1_dealOut_87 ?_
                refine ld_iload O (pc := 90) 4 dX1_dealOut_90 rfl ?_
                refine ld_iload_n O (pc := 92) 2 dX1_dealOut_92 rfl rfl ?_
                refine ld_if_le O (pc := 93) (a).toInt rfl 110 dX1_dealOut_93 (by decide) (fun z => absurd z c6) (fun c9 => ?_)
                refine ld_iload_n O (pc := 96) 1 dX1_dealOut_96 rfl rfl ?_
                refine ld_aload_n O (pc := 97) 0 dX1_dealOut_97 rfl rfl ?_
                refine ld_g_trial_sour O (pc := 98) ld_w38 dX1_dealOut_98 ?_
                refine ld_iload O (pc := 101) 4 dX1_dealOut_101 rfl ?_
                refine ld_iald O (pc := 103) 11 i2 (v := f i2) rfl (by decide) (show i2 < 8 by omega) rfl dX1_dealOut_103 ?_
                refine ld_imul O (pc := 104) dX1_dealOut_104 ?_
                refine ld_iload_n O (pc := 105) 2 dX1_dealOut_105 rfl rfl ?_
                refine ld_irem O (pc := 106) dX1_dealOut_106 (fun z => c6 (by rw [z]; decide)) ?_
                refine ld_goto O (pc := 107) 111 dX1_dealOut_107 (by decide) ?_
                refine ld_iast O (pc := 111) 13 i2 rfl (by decide) (show i2 < 8 by omega) dX1_dealOut_111 ?_
                refine ld_iload_n O (pc := 112) 3 dX1_dealOut_112 rfl rfl ?_
                refine ld_aload_n O (pc := 113) 0 dX1_dealOut_113 rfl rfl ?_
                refine ld_g_trial_dealt O (pc := 114) ld_w39 dX1_dealOut_114 ?_
                refine ld_iload O (pc := 117) 4 dX1_dealOut_117 rfl ?_
                refine ld_iald O (pc := 119) 12 i2 (v := (c * (f i2)) / a) rfl (by decide) (show i2 < 8 by omega) (by show (upd (d) i2 ((c * (f i2)) / a)) i2 = _; exact pk_us) dX1_dealOut_119 ?_
                refine ld_isub O (pc := 120) dX1_dealOut_120 ?_
                refine ld_istore_n O (pc := 121) [(3, .int (w - ((c * (f i2)) / a))), (0, .ref (ad 2)), (1, .int c), (2, .int a), (4, .int (nI i2))] dX1_dealOut_121 rfl (by decide) rfl ?_
                refine ld_iincN O (pc := 122) [(4, .int (nI (i2 + 1))), (3, .int (w - ((c * (f i2)) / a))), (0, .ref (ad 2)), (1, .int c), (2, .int a)] 4 dX1_dealOut_122 rfl (by decide) rfl ?_
                refine ld_goto O (pc := 125) 51 dX1_dealOut_125 (by decide) ?_
                refine ld_less O [2, 3, 4, 1, 0] (lv2 := [(0, .ref (ad 2)), (1, .int c), (2, .int a), (3, .int (w - ((c * (f i2)) / a))), (4, .int (nI (i2 + 1)))]) rfl ?_
                have hs10 : us (us (us (us (us σ 11 f) 12 d) 13 r) 12 (upd (d) i2 ((c * (f i2)) / a))) 13 (upd (r) i2 ((c * (f i2)) - (c * (f i2)) / a * a)) = us (us (us σ 11 f) 12 (upd (d) i2 ((c * (f i2)) / a))) 13 (upd (r) i2 ((c * (f i2)) - (c * (f i2)) / a * a)) := by
                  funext b_
                  by_cases h0_ : b_ = 11
                  · subst h0_; rfl
                  by_cases h1_ : b_ = 12
                  · subst h1_; rfl
                  by_cases h2_ : b_ = 13
                  · subst h2_; rfl
                  simp only [us, h0_, h1_, h2_, if_false]
                refine ld_cv hs10 ?_
                exact ih51 (i2 + 1) (upd (d) i2 ((c * (f i2)) / a)) (upd (r) i2 ((c * (f i2)) - (c * (f i2)) / a * a)) (w - ((c * (f i2)) / a)) (by omega) (by omega) (ld_ext hd (by simp [ld_q, c1, c2, c6])) (ld_ext hr (by simp [ld_r, c1, c2, c6])) (by rw [hw]; simp [ld_lf, ld_q, c1, c2, c6])
        refine ld_iload_n O (pc := 38) 2 dX1_dealOut_38 rfl rfl ?_
        refine ld_if_le O (pc := 39) (a).toInt rfl 46 dX1_dealOut_39 (by decide) (fun c11 => ?_) (fun c11 => ?_)
        · refine ld_iconst O (pc := 46) (v := nI 0) dX1_dealOut_46 (by decide) ?_
          refine ld_istore_n O (pc := 47) [(3, .int (nI 0)), (0, .ref (ad 2)), (1, .int c), (2, .int a)] dX1_dealOut_47 rfl (by decide) rfl ?_
          refine ld_iconst O (pc := 48) (v := nI 0) dX1_dealOut_48 (by decide) ?_
          refine ld_istore O (pc := 49) [(4, .int (nI 0)), (3, .int (nI 0)), (0, .ref (ad 2)), (1, .int c), (2, .int a)] dX1_dealOut_49 (by decide) rfl ?_
          refine ld_less O [2, 3, 4, 1, 0] (lv2 := [(0, .ref (ad 2)), (1, .int c), (2, .int a), (3, .int (nI 0)), (4, .int (nI 0))]) rfl ?_
          have hs12 : us σ 11 f = us (us (us σ 11 f) 12 (σ 12)) 13 (σ 13) := by
            funext b_
            by_cases h0_ : b_ = 11
            · subst h0_; rfl
            by_cases h1_ : b_ = 12
            · subst h1_; rfl
            by_cases h2_ : b_ = 13
            · subst h2_; rfl
            simp only [us, h0_, h1_, h2_, if_false]
          refine ld_cv hs12 ?_
          exact L51 _ 0 (σ 12) (σ 13) (nI 0) (Nat.lt_succ_self _) (Nat.zero_le _) (fun x hx => absurd hx (Nat.not_lt_zero x)) (fun x hx => absurd hx (Nat.not_lt_zero x)) (by simp [ld_lf, c1, c11])
        · refine ld_iload_n O (pc := 42) 1 dX1_dealOut_42 rfl rfl ?_
          refine ld_goto O (pc := 43) 47 dX1_dealOut_43 (by decide) ?_
          refine ld_istore_n O (pc := 47) [(3, .int c), (0, .ref (ad 2)), (1, .int c), (2, .int a)] dX1_dealOut_47 rfl (by decide) rfl ?_
          refine ld_iconst O (pc := 48) (v := nI 0) dX1_dealOut_48 (by decide) ?_
          refine ld_istore O (pc := 49) [(4, .int (nI 0)), (3, .int c), (0, .ref (ad 2)), (1, .int c), (2, .int a)] dX1_dealOut_49 (by decide) rfl ?_
          refine ld_less O [2, 3, 4, 1, 0] (lv2 := [(0, .ref (ad 2)), (1, .int c), (2, .int a), (3, .int c), (4, .int (nI 0))]) rfl ?_
          have hs13 : us σ 11 f = us (us (us σ 11 f) 12 (σ 12)) 13 (σ 13) := by
            funext b_
            by_cases h0_ : b_ = 11
            · subst h0_; rfl
            by_cases h1_ : b_ = 12
            · subst h1_; rfl
            by_cases h2_ : b_ = 13
            · subst h2_; rfl
            simp only [us, h0_, h1_, h2_, if_false]
          refine ld_cv hs13 ?_
          exact L51 _ 0 (σ 12) (σ 13) c (Nat.lt_succ_self _) (Nat.zero_le _) (fun x hx => absurd hx (Nat.not_lt_zero x)) (fun x hx => absurd hx (Nat.not_lt_zero x)) (by simp [ld_lf, c1, c11])
      · refine ld_aload_n O (pc := 12) 0 dX1_dealOut_12 rfl rfl ?_
        refine ld_g_trial_sour O (pc := 13) ld_w38 dX1_dealOut_13 ?_
        refine ld_iload_n O (pc := 16) 3 dX1_dealOut_16 rfl rfl ?_
        refine ld_aload_n O (pc := 17) 0 dX1_dealOut_17 rfl rfl ?_
        refine ld_iload_n O (pc := 18) 3 dX1_dealOut_18 rfl rfl ?_
        refine ld_callVi O (pc := 19) (As := [.int (nI i)]) (st := [.int (nI i), .ref (ad (9 + 11))]) ld_recv2 (c_X1_sourOf_1 l ad (us σ 11 f) i (by omega)) ld_mw_X1_sourOf ld_w185 rfl rfl ⟨by decide, by decide⟩ (Nat.le_of_ble_eq_true rfl) dX1_dealOut_19 (fun r_p19 σ_p19 h_p19 => ?_)
        obtain ⟨rfl, hσ_p19⟩ := h_p19
        rw [hσ_p19]
        show K (us σ 11 f) [(0, .ref (ad 2)), (1, .int c), (2, .int a), (3, .int (nI i))] [.int (ld_sr (σ 7 i) (σ 8 i)), .int (nI i), .ref (ad (9 + 11))] 22
        refine ld_iast O (pc := 22) 11 i rfl (by decide) (show i < 8 by omega) dX1_dealOut_22 ?_
        refine ld_iload_n O (pc := 23) 2 dX1_dealOut_23 rfl rfl ?_
        refine ld_aload_n O (pc := 24) 0 dX1_dealOut_24 rfl rfl ?_
        refine ld_g_trial_sour O (pc := 25) ld_w38 dX1_dealOut_25 ?_
        refine ld_iload_n O (pc := 28) 3 dX1_dealOut_28 rfl rfl ?_
        refine ld_iald O (pc := 29) 11 i (v := ld_sr (σ 7 i) (σ 8 i)) rfl (by decide) (show i < 8 by omega) (by show (upd (f) i (ld_sr (σ 7 i) (σ 8 i))) i = _; exact pk_us) dX1_dealOut_29 ?_
        refine ld_iadd O (pc := 30) dX1_dealOut_30 ?_
        refine ld_istore_n O (pc := 31) [(2, .int (a + (ld_sr (σ 7 i) (σ 8 i)))), (0, .ref (ad 2)), (1, .int c), (3, .int (nI i))] dX1_dealOut_31 rfl (by decide) rfl ?_
        refine ld_iincN O (pc := 32) [(3, .int (nI (i + 1))), (2, .int (a + (ld_sr (σ 7 i) (σ 8 i)))), (0, .ref (ad 2)), (1, .int c)] 3 dX1_dealOut_32 rfl (by decide) rfl ?_
        refine ld_goto O (pc := 35) 4 dX1_dealOut_35 (by decide) ?_
        refine ld_less O [2, 3, 1, 0] (lv2 := [(0, .ref (ad 2)), (1, .int c), (2, .int (a + (ld_sr (σ 7 i) (σ 8 i)))), (3, .int (nI (i + 1)))]) rfl ?_
        have hs14 : us (us σ 11 f) 11 (upd (f) i (ld_sr (σ 7 i) (σ 8 i))) = us σ 11 (upd (f) i (ld_sr (σ 7 i) (σ 8 i))) := by
          funext b_
          by_cases h0_ : b_ = 11
          · subst h0_; rfl
          simp only [us, h0_, if_false]
        refine ld_cv hs14 ?_
        exact ih4 (i + 1) (upd (f) i (ld_sr (σ 7 i) (σ 8 i))) (a + (ld_sr (σ 7 i) (σ 8 i))) (by omega) (by omega) (ld_ext hf rfl) (by rw [ha]; rfl)
  refine ld_less O [2, 3, 1, 0] (lv2 := [(0, .ref (ad 2)), (1, .int c), (2, .int (nI 0)), (3, .int (nI 0))]) rfl ?_
  have hs15 : σ = us σ 11 (σ 11) := by
    funext b_
    by_cases h0_ : b_ = 11
    · subst h0_; rfl
    simp only [us, h0_, if_false]
  refine ld_cv hs15 ?_
  exact L4 _ 0 (σ 11) (nI 0) (Nat.lt_succ_self _) (Nat.zero_le _) (fun x hx => absurd hx (Nat.not_lt_zero x)) rfl
