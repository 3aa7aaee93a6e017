set_option maxHeartbeats 4000000 in
set_option maxRecDepth 100000 in
theorem c_X3_street (l : Launch) (ad : Nat → Nat) (σ : ld_St) (hS : ∀ x, x < 4 → -1 ≤ (σ 34 x).toInt ∧ (σ 34 x).toInt ≤ 60) (k lane i n : Int32) : ld_Ctr l yX3_street cX3_street 7 (some .int) (4, 100) [.ref (ad 8), .int k, .int lane, .int i, .int n] ad σ (ld_I (fun (r : Int32) (σ2 : ld_St) => r = (ld_fSt (σ 34) (σ 35) (fun z x => σ 36 (60 * z + x)) k lane i n).1 ∧ ∃ f f24 f25 f26 fa fm fc : Nat → Int32, f 0 = (ld_fSt (σ 34) (σ 35) (fun z x => σ 36 (60 * z + x)) k lane i n).2 ∧ ((ld_okSt (σ 34) (σ 35) (fun z x => σ 36 (60 * z + x)) k lane i n ∧ ∃ (m : Nat) (fcr k0 k1 k2 k3 : Nat → Int32), ld_ix n = 3 + 4 * m ∧ 1 ≤ m ∧ m ≤ 8 ∧ fcr 0 = ((fun z => σ 36 (60 * ld_ix k + (ld_ix i + z))) 1 - nI 48) * nI 10 + (fun z => σ 36 (60 * ld_ix k + (ld_ix i + z))) 2 - nI 48 ∧ σ2 = us (us (us (us (us (us (us (us (us (us (us (us (us (us (us σ 140 f) 24 f24) 25 f25) 26 f26) 144 fa) 145 fm) 146 fc) 141 (fun _ => nI m)) 142 fcr) 143 (fun _ => nI 0)) 20 k0) 21 k1) 22 k2) 23 k3) 150 (fun _ => nI 0) ∧ ∀ x, x < m → k0 x = ld_kl ((fun z => σ 36 (60 * ld_ix k + (ld_ix i + z))) (3 + 4 * x + 1)) ∧ k1 x = (fun z => σ 36 (60 * ld_ix k + (ld_ix i + z))) (3 + 4 * x + 2) - nI 48 ∧ k2 x = (fun z => σ 36 (60 * ld_ix k + (ld_ix i + z))) (3 + 4 * x + 3) - nI 48 ∧ k3 x = nI 0) ∨ (¬ ld_okSt (σ 34) (σ 35) (fun z x => σ 36 (60 * z + x)) k lane i n ∧ σ2 = us (us (us (us (us (us (us σ 140 f) 24 f24) 25 f25) 26 f26) 144 fa) 145 fm) 146 fc)))) := by
  refine ld_entry (by decide +kernel) (Nat.le_of_ble_eq_true rfl) (fun K O E => ?_)
  have O : ld_Ok l K ad cX3_street 7 RX3 (ld_rm (4, 100)) := O
  show K σ [(0, .ref (ad 8)), (1, .int k), (2, .int lane), (3, .int i), (4, .int n)] [] 0
  refine ld_iload_n O (pc := 0) 1 dX3_street_0 rfl rfl ?_
  refine ld_callSi O (pc := 1) (As := [.int k]) (st := []) (c_X3_noSheet l ad σ k) ld_mw_X3_noSheet ld_w124 rfl rfl ⟨by decide, by decide⟩ (Nat.le_of_ble_eq_true rfl) dX3_street_1 (fun r_p1 σ_p1 h_p1 => ?_)
  obtain ⟨rfl, hσ_p1⟩ := h_p1
  rw [hσ_p1]
  show K σ [(0, .ref (ad 8)), (1, .int k), (2, .int lane), (3, .int i), (4, .int n)] [.int (ld_b (¬ (0 ≤ (k).toInt ∧ (k).toInt < 4)))] 4
  refine ld_ifb_eq O (pc := 4) 13 dX3_street_4 (by decide) (fun c1 => ?_) (fun c1 => ?_)
  · replace c1 := Classical.byContradiction c1
    obtain ⟨ek_k, hk_k, ik_k⟩ := ld_ofIx (k := k) (h := 4) (by omega)
    rw [ek_k]
    refine ld_iload_n O (pc := 13) 2 dX3_street_13 rfl rfl ?_
    have hl2 : (lane.toInt64).toInt = (lane).toInt := (Int32.toInt_toInt64 _).trans rfl
    refine ld_i2l O (pc := 14) dX3_street_14 ?_
    refine ld_lconst O (pc := 15) (v := (0 : Int64)) dX3_street_15 (by decide) ?_
    refine ld_ldc2 O (pc := 16) (v := (2 : Int64)) dX3_street_16 ld_w116 ?_
    refine ld_callSi O (pc := 19) (As := [.long lane.toInt64, .long (0 : Int64), .long (2 : Int64)]) (st := []) (c_X3_in l ad σ lane.toInt64 (0 : Int64) (2 : Int64) ((lane).toInt) 0 (2) hl2 (by decide) (by decide)) ld_mw_X3_in ld_w128 rfl rfl ⟨by decide, by decide⟩ (Nat.le_of_ble_eq_true rfl) dX3_street_19 (fun r_p19 σ_p19 h_p19 => ?_)
    obtain ⟨rfl, hσ_p19⟩ := h_p19
    rw [hσ_p19]
    show K σ [(0, .ref (ad 8)), (1, .int (nI (ld_ix k))), (2, .int lane), (3, .int i), (4, .int n)] [.int (ld_b (0 ≤ (lane).toInt ∧ (lane).toInt ≤ (2)))] 22
    refine ld_ifb_ne O (pc := 22) 32 dX3_street_22 (by decide) (fun c3 => ?_) (fun c3 => ?_)
    · refine ld_aload_n O (pc := 32) 0 dX3_street_32 rfl rfl ?_
      refine ld_iload_n O (pc := 33) 1 dX3_street_33 rfl rfl ?_
      refine ld_iload_n O (pc := 34) 2 dX3_street_34 rfl rfl ?_
      refine ld_iload_n O (pc := 35) 3 dX3_street_35 rfl rfl ?_
      refine ld_iload O (pc := 36) 4 dX3_street_36 rfl ?_
      have hl4 : (n.toInt64).toInt = (n).toInt := (Int32.toInt_toInt64 _).trans rfl
      refine ld_i2l O (pc := 38) dX3_street_38 ?_
      have hrn_ := fb_rng n
      refine ld_callVi O (pc := 39) (As := [.int (nI (ld_ix k)), .int lane, .int i, .long n.toInt64]) (st := []) ld_recv8 (c_X3_cellsBarred l ad σ hS (ld_ix k) (by omega) lane i n.toInt64 ((n).toInt) hl4 (by omega)) ld_mw_X3_cellsBarred ld_w136 rfl rfl ⟨by decide, by decide⟩ (Nat.le_of_ble_eq_true rfl) dX3_street_39 (fun r_p39 σ_p39 h_p39 => ?_)
      obtain ⟨rfl, ff_p39, hσ_p39, hff_p39⟩ := h_p39
      rw [hσ_p39]
      have hff_p39 : ff_p39 0 = if (ld_cb (σ 34 (ld_ix k)) (σ 35 (ld_ix k)) lane i ((n).toInt)).toInt = 0 then (σ 140 0) else ld_cb (σ 34 (ld_ix k)) (σ 35 (ld_ix k)) lane i ((n).toInt) := hff_p39
      show K (us σ 140 ff_p39) [(0, .ref (ad 8)), (1, .int (nI (ld_ix k))), (2, .int lane), (3, .int i), (4, .int n)] [.int (ld_cr (ld_cb (σ 34 (ld_ix k)) (σ 35 (ld_ix k)) lane i ((n).toInt)))] 42
      refine ld_istore O (pc := 42) [(5, .int (ld_cr (ld_cb (σ 34 (ld_ix k)) (σ 35 (ld_ix k)) lane i ((n).toInt)))), (0, .ref (ad 8)), (1, .int (nI (ld_ix k))), (2, .int lane), (3, .int i), (4, .int n)] dX3_street_42 (by decide) rfl ?_
      have hcz_ := ld_cbz (σ 34 (ld_ix k)) (σ 35 (ld_ix k)) lane i n.toInt
      refine ld_iload O (pc := 44) 0 dX3_street_44 rfl ?_
      refine ld_if_ge O (pc := 46) (ld_cr (ld_cb (σ 34 (ld_ix k)) (σ 35 (ld_ix k)) lane i ((n).toInt))).toInt rfl 52 dX3_street_46 (by decide) (fun c5 => ?_) (fun c5 => ?_)
      · refine ld_less O [1, 2, 3, 4, 5] (lv2 := [(0, .ref (ad 8)), (1, .int (nI (ld_ix k))), (2, .int lane), (3, .int i), (4, .int n)]) rfl ?_
        obtain ⟨h0a_, h0b_, h0c_, h0d_⟩ := ld_cb0 (show (ld_cb (σ 34 (ld_ix k)) (σ 35 (ld_ix k)) lane i n.toInt).toInt = 0 by omega)
        have hs1_ := hS _ hk_k
        obtain ⟨ek_i, hk_i, ik_i⟩ := ld_ofIx (k := i) (h := 61) (by omega)
        rw [ek_i]
        obtain ⟨ek_n, hk_n, ik_n⟩ := ld_ofIx (k := n) (h := 61) (by omega)
        rw [ek_n]
        refine ld_aload_n O (pc := 52) 0 dX3_street_52 rfl rfl ?_
        refine ld_bipush O (pc := 53) (v := nI 60) dX3_street_53 (by decide) ?_
        refine ld_iload_n O (pc := 55) 1 dX3_street_55 rfl rfl ?_
        refine ld_imulN O (pc := 56) dX3_street_56 ?_
        refine ld_iload_n O (pc := 57) 3 dX3_street_57 rfl rfl ?_
        refine ld_iaddN O (pc := 58) dX3_street_58 ?_
        refine ld_iload O (pc := 59) 4 dX3_street_59 rfl ?_
        refine ld_callVi O (pc := 61) (As := [.int (nI ((60 * (ld_ix k)) + (ld_ix i))), .int (nI (ld_ix n))]) (st := []) ld_recv8 (c_X3_readsStreet l ad (us σ 140 ff_p39) (fun z => σ 36 (60 * ld_ix k + (ld_ix i + z))) ((60 * (ld_ix k)) + (ld_ix i)) (ld_ix n) (fun z => by show σ 36 (60 * ld_ix k + ld_ix i + z) = σ 36 (60 * ld_ix k + (ld_ix i + z)); rw [Nat.add_assoc]) (by omega) (by omega)) ld_mw_X3_readsStreet ld_w147 rfl rfl ⟨by decide, by decide⟩ (Nat.le_of_ble_eq_true rfl) dX3_street_61 (fun r_p61 σ_p61 h_p61 => ?_)
        obtain ⟨rfl, a_p61, m_p61, f24_p61, f25_p61, f26_p61, fa_p61, fm_p61, fc_p61, hσ_p61, hfa_p61, hfm_p61, hno_p61, hyes_p61⟩ := h_p61
        rw [hσ_p61]
        show K (us (us (us (us (us (us (us σ 140 ff_p39) 24 f24_p61) 25 f25_p61) 26 f26_p61) 144 fa_p61) 145 fm_p61) 146 fc_p61) [(0, .ref (ad 8)), (1, .int (nI (ld_ix k))), (2, .int lane), (3, .int (nI (ld_ix i))), (4, .int (nI (ld_ix n)))] [.int (ld_b ((ld_ftf (fun z => σ 36 (60 * ld_ix k + (ld_ix i + z))) (ld_ix n)).toInt = -9))] 64
        refine ld_ifb_ne O (pc := 64) 79 dX3_street_64 (by decide) (fun c6 => ?_) (fun c6 => ?_)
        · have hT_ := c6
          obtain ⟨en_, m1_, m8_, hcr_, hA_⟩ := hyes_p61 hT_
          refine ld_aload_n O (pc := 79) 0 dX3_street_79 rfl rfl ?_
          refine ld_aload_n O (pc := 80) 0 dX3_street_80 rfl rfl ?_
          refine ld_g_M_readHouses O (pc := 81) (v := nI m_p61) ld_w118 hfm_p61 dX3_street_81 ?_
          refine ld_p_M_houses O (pc := 84) ld_w119 dX3_street_84 ?_
          refine ld_aload_n O (pc := 87) 0 dX3_street_87 rfl rfl ?_
          refine ld_aload_n O (pc := 88) 0 dX3_street_88 rfl rfl ?_
          refine ld_g_M_readCrate O (pc := 89) (v := fc_p61 0) ld_w120 rfl dX3_street_89 ?_
          refine ld_p_M_crateNow O (pc := 92) ld_w121 dX3_street_92 ?_
          refine ld_aload_n O (pc := 95) 0 dX3_street_95 rfl rfl ?_
          refine ld_iconst O (pc := 96) (v := nI 0) dX3_street_96 (by decide) ?_
          refine ld_p_M_weekNow O (pc := 97) ld_w122 dX3_street_97 ?_
          refine ld_iconst O (pc := 100) (v := nI 0) dX3_street_100 (by decide) ?_
          refine ld_istore O (pc := 101) [(6, .int (nI 0)), (0, .ref (ad 8)), (1, .int (nI (ld_ix k))), (2, .int lane), (3, .int (nI (ld_ix i))), (4, .int (nI (ld_ix n)))] dX3_street_101 (by decide) rfl ?_
          have L103 : ∀ (m_103 : Nat) (x : Nat) (k0 : Nat → Int32) (k1 : Nat → Int32) (k2 : Nat → Int32) (k3 : Nat → Int32), m_p61 - x < m_103 → (x ≤ m_p61) → (∀ y, y < x → k0 y = f24_p61 y) → (∀ y, y < x → k1 y = f25_p61 y) → (∀ y, y < x → k2 y = f26_p61 y) → (∀ y, y < x → k3 y = nI 0) → K (us (us (us (us (us (us (us (us (us (us (us (us (us (us σ 140 ff_p39) 24 f24_p61) 25 f25_p61) 26 f26_p61) 144 fa_p61) 145 fm_p61) 146 fc_p61) 141 (fun _ => nI m_p61)) 142 (fun _ => fc_p61 0)) 143 (fun _ => nI 0)) 20 k0) 21 k1) 22 k2) 23 k3) [(0, .ref (ad 8)), (1, .int (nI (ld_ix k))), (2, .int lane), (3, .int (nI (ld_ix i))), (4, .int (nI (ld_ix n))), (6, .int (nI x))] [] 103 := by
            intro m_103
            induction m_103 with
            | zero => intro x k0 k1 k2 k3 hm_; exact absurd hm_ (Nat.not_lt_zero _)
            | succ m_103 ih103 =>
              intro x k0 k1 k2 k3 hm_103 hx hk0 hk1 hk2 hk3
              refine ld_iload O (pc := 103) 5 dX3_street_103 rfl ?_
              refine ld_aload_n O (pc := 105) 0 dX3_street_105 rfl rfl ?_
              refine ld_g_M_houses O (pc := 106) (v := nI m_p61) ld_w119 rfl dX3_street_106 ?_
              refine ld_icmp_ge O (pc := 109) ((x : Nat) : Int) ((m_p61 : Nat) : Int) (nI_toInt (by omega)) (nI_toInt (by omega)) 168 dX3_street_109 (by decide) (fun c7 => ?_) (fun c7 => ?_)
              · refine ld_aload_n O (pc := 168) 0 dX3_street_168 rfl rfl ?_
                refine ld_iconst O (pc := 169) (v := nI 0) dX3_street_169 (by decide) ?_
                refine ld_p_M_readings O (pc := 170) ld_w123 dX3_street_170 ?_
                refine ld_aload_n O (pc := 173) 0 dX3_street_173 rfl rfl ?_
                refine ld_aload_n O (pc := 174) 0 dX3_street_174 rfl rfl ?_
                refine ld_g_M_houses O (pc := 175) (v := nI m_p61) ld_w119 rfl dX3_street_175 ?_
                refine ld_callVi O (pc := 178) (As := [.int (nI m_p61)]) (st := []) ld_recv8 (c_X3_refused l ad (us (us (us (us (us (us (us (us (us (us (us (us (us (us (us σ 140 ff_p39) 24 f24_p61) 25 f25_p61) 26 f26_p61) 144 fa_p61) 145 fm_p61) 146 fc_p61) 141 (fun _ => nI m_p61)) 142 (fun _ => fc_p61 0)) 143 (fun _ => nI 0)) 20 k0) 21 k1) 22 k2) 23 k3) 150 (fun _ => nI 0)) (nI m_p61)) ld_mw_X3_refused ld_w131 rfl rfl ⟨by decide, by decide⟩ (Nat.le_of_ble_eq_true rfl) dX3_street_178 (fun r_p178 σ_p178 h_p178 => ?_)
                obtain ⟨rfl, hσ_p178⟩ := h_p178
                rw [hσ_p178]
                show K (us (us (us (us (us (us (us (us (us (us (us (us (us (us (us (us σ 140 ff_p39) 24 f24_p61) 25 f25_p61) 26 f26_p61) 144 fa_p61) 145 fm_p61) 146 fc_p61) 141 (fun _ => nI m_p61)) 142 (fun _ => fc_p61 0)) 143 (fun _ => nI 0)) 20 k0) 21 k1) 22 k2) 23 k3) 150 (fun _ => nI 0)) 140 (fun _ => nI 0)) [(0, .ref (ad 8)), (1, .int (nI (ld_ix k))), (2, .int lane), (3, .int (nI (ld_ix i))), (4, .int (nI (ld_ix n))), (6, .int (nI x))] [.int (nI m_p61)] 181
                refine ld_ireti E dX3_street_181 ?_
                rw [show x = m_p61 by omega] at hk0 hk1 hk2 hk3
                refine ⟨?_, fun _ => nI 0, f24_p61, f25_p61, f26_p61, fa_p61, fm_p61, fc_p61, ?_, Or.inl ⟨⟨⟨by omega, by rw [ld_fa00 h0a_ h0b_]; decide, by omega, by omega, by omega⟩, hT_⟩, m_p61, fun _ => fc_p61 0, k0, k1, k2, k3, en_, m1_, m8_, hcr_, ?_, fun y hy => ⟨(hk0 y hy).trans (hA_ y hy).1, (hk1 y hy).trans (hA_ y hy).2.1, (hk2 y hy).trans (hA_ y hy).2.2, hk3 y hy⟩⟩⟩
                · unfold ld_fSt
                  rw [if_pos (by omega), if_pos (by omega), if_pos (show (ld_fa (σ 34 (ld_ix k)) (σ 35 (ld_ix k)) lane).toInt = 0 by rw [ld_fa00 h0a_ h0b_]; decide), if_neg (by omega), if_neg (by omega)]
                  refine Eq.trans ?_ (congrArg Prod.fst (if_pos hT_)).symm
                  show nI m_p61 = nI ((ld_ix n - 3) / 4)
                  rw [show (ld_ix n - 3) / 4 = m_p61 by omega]
                · unfold ld_fSt
                  rw [if_pos (by omega), if_pos (by omega), if_pos (show (ld_fa (σ 34 (ld_ix k)) (σ 35 (ld_ix k)) lane).toInt = 0 by rw [ld_fa00 h0a_ h0b_]; decide), if_neg (by omega), if_neg (by omega)]
                  refine Eq.trans ?_ (congrArg Prod.snd (if_pos hT_)).symm
                  rfl
                · funext b_
                  by_cases h0_ : b_ = 140
                  · subst h0_; exact (us_eq _ _ _).trans ((us_ne _ _ (by decide)).trans ((us_ne _ _ (by decide)).trans ((us_ne _ _ (by decide)).trans ((us_ne _ _ (by decide)).trans ((us_ne _ _ (by decide)).trans ((us_ne _ _ (by decide)).trans ((us_ne _ _ (by decide)).trans ((us_ne _ _ (by decide)).trans ((us_ne _ _ (by decide)).trans ((us_ne _ _ (by decide)).trans ((us_ne _ _ (by decide)).trans ((us_ne _ _ (by decide)).trans ((us_ne _ _ (by decide)).trans ((us_ne _ _ (by decide)).trans (us_eq _ _ _))))))))))))))).symm
                  by_cases h1_ : b_ = 24
                  · subst h1_; exact ((us_ne _ _ (by decide)).trans ((us_ne _ _ (by decide)).trans ((us_ne _ _ (by decide)).trans ((us_ne _ _ (by decide)).trans ((us_ne _ _ (by decide)).trans ((us_ne _ _ (by decide)).trans ((us_ne _ _ (by decide)).trans ((us_ne _ _ (by decide)).trans ((us_ne _ _ (by decide)).trans ((us_ne _ _ (by decide)).trans ((us_ne _ _ (by decide)).trans ((us_ne _ _ (by decide)).trans ((us_ne _ _ (by decide)).trans ((us_ne _ _ (by decide)).trans (us_eq _ _ _))))))))))))))).trans ((us_ne _ _ (by decide)).trans ((us_ne _ _ (by decide)).trans ((us_ne _ _ (by decide)).trans ((us_ne _ _ (by decide)).trans ((us_ne _ _ (by decide)).trans ((us_ne _ _ (by decide)).trans ((us_ne _ _ (by decide)).trans ((us_ne _ _ (by decide)).trans ((us_ne _ _ (by decide)).trans ((us_ne _ _ (by decide)).trans ((us_ne _ _ (by decide)).trans ((us_ne _ _ (by decide)).trans ((us_ne _ _ (by decide)).trans (us_eq _ _ _)))))))))))))).symm
                  by_cases h2_ : b_ = 25
                  · subst h2_; exact ((us_ne _ _ (by decide)).trans ((us_ne _ _ (by decide)).trans ((us_ne _ _ (by decide)).trans ((us_ne _ _ (by decide)).trans ((us_ne _ _ (by decide)).trans ((us_ne _ _ (by decide)).trans ((us_ne _ _ (by decide)).trans ((us_ne _ _ (by decide)).trans ((us_ne _ _ (by decide)).trans ((us_ne _ _ (by decide)).trans ((us_ne _ _ (by decide)).trans ((us_ne _ _ (by decide)).trans ((us_ne _ _ (by decide)).trans (us_eq _ _ _)))))))))))))).trans ((us_ne _ _ (by decide)).trans ((us_ne _ _ (by decide)).trans ((us_ne _ _ (by decide)).trans ((us_ne _ _ (by decide)).trans ((us_ne _ _ (by decide)).trans ((us_ne _ _ (by decide)).trans ((us_ne _ _ (by decide)).trans ((us_ne _ _ (by decide)).trans ((us_ne _ _ (by decide)).trans ((us_ne _ _ (by decide)).trans ((us_ne _ _ (by decide)).trans ((us_ne _ _ (by decide)).trans (us_eq _ _ _))))))))))))).symm
                  by_cases h3_ : b_ = 26
                  · subst h3_; exact ((us_ne _ _ (by decide)).trans ((us_ne _ _ (by decide)).trans ((us_ne _ _ (by decide)).trans ((us_ne _ _ (by decide)).trans ((us_ne _ _ (by decide)).trans ((us_ne _ _ (by decide)).trans ((us_ne _ _ (by decide)).trans ((us_ne _ _ (by decide)).trans ((us_ne _ _ (by decide)).trans ((us_ne _ _ (by decide)).trans ((us_ne _ _ (by decide)).trans ((us_ne _ _ (by decide)).trans (us_eq _ _ _))))))))))))).trans ((us_ne _ _ (by decide)).trans ((us_ne _ _ (by decide)).trans ((us_ne _ _ (by decide)).trans ((us_ne _ _ (by decide)).trans ((us_ne _ _ (by decide)).trans ((us_ne _ _ (by decide)).trans ((us_ne _ _ (by decide)).trans ((us_ne _ _ (by decide)).trans ((us_ne _ _ (by decide)).trans ((us_ne _ _ (by decide)).trans ((us_ne _ _ (by decide)).trans (us_eq _ _ _)))))))))))).symm
                  by_cases h4_ : b_ = 144
                  · subst h4_; exact ((us_ne _ _ (by decide)).trans ((us_ne _ _ (by decide)).trans ((us_ne _ _ (by decide)).trans ((us_ne _ _ (by decide)).trans ((us_ne _ _ (by decide)).trans ((us_ne _ _ (by decide)).trans ((us_ne _ _ (by decide)).trans ((us_ne _ _ (by decide)).trans ((us_ne _ _ (by decide)).trans ((us_ne _ _ (by decide)).trans ((us_ne _ _ (by decide)).trans (us_eq _ _ _)))))))))))).trans ((us_ne _ _ (by decide)).trans ((us_ne _ _ (by decide)).trans ((us_ne _ _ (by decide)).trans ((us_ne _ _ (by decide)).trans ((us_ne _ _ (by decide)).trans ((us_ne _ _ (by decide)).trans ((us_ne _ _ (by decide)).trans ((us_ne _ _ (by decide)).trans ((us_ne _ _ (by decide)).trans ((us_ne _ _ (by decide)).trans (us_eq _ _ _))))))))))).symm
                  by_cases h5_ : b_ = 145
                  · subst h5_; exact ((us_ne _ _ (by decide)).trans ((us_ne _ _ (by decide)).trans ((us_ne _ _ (by decide)).trans ((us_ne _ _ (by decide)).trans ((us_ne _ _ (by decide)).trans ((us_ne _ _ (by decide)).trans ((us_ne _ _ (by decide)).trans ((us_ne _ _ (by decide)).trans ((us_ne _ _ (by decide)).trans ((us_ne _ _ (by decide)).trans (us_eq _ _ _))))))))))).trans ((us_ne _ _ (by decide)).trans ((us_ne _ _ (by decide)).trans ((us_ne _ _ (by decide)).trans ((us_ne _ _ (by decide)).trans ((us_ne _ _ (by decide)).trans ((us_ne _ _ (by decide)).trans ((us_ne _ _ (by decide)).trans ((us_ne _ _ (by decide)).trans ((us_ne _ _ (by decide)).trans (us_eq _ _ _)))))))))).symm
                  by_cases h6_ : b_ = 146
                  · subst h6_; exact ((us_ne _ _ (by decide)).trans ((us_ne _ _ (by decide)).trans ((us_ne _ _ (by decide)).trans ((us_ne _ _ (by decide)).trans ((us_ne _ _ (by decide)).trans ((us_ne _ _ (by decide)).trans ((us_ne _ _ (by decide)).trans ((us_ne _ _ (by decide)).trans ((us_ne _ _ (by decide)).trans (us_eq _ _ _)))))))))).trans ((us_ne _ _ (by decide)).trans ((us_ne _ _ (by decide)).trans ((us_ne _ _ (by decide)).trans ((us_ne _ _ (by decide)).trans ((us_ne _ _ (by decide)).trans ((us_ne _ _ (by decide)).trans ((us_ne _ _ (by decide)).trans ((us_ne _ _ (by decide)).trans (us_eq _ _ _))))))))).symm
                  by_cases h7_ : b_ = 141
                  · subst h7_; exact ((us_ne _ _ (by decide)).trans ((us_ne _ _ (by decide)).trans ((us_ne _ _ (by decide)).trans ((us_ne _ _ (by decide)).trans ((us_ne _ _ (by decide)).trans ((us_ne _ _ (by decide)).trans ((us_ne _ _ (by decide)).trans ((us_ne _ _ (by decide)).trans (us_eq _ _ _))))))))).trans ((us_ne _ _ (by decide)).trans ((us_ne _ _ (by decide)).trans ((us_ne _ _ (by decide)).trans ((us_ne _ _ (by decide)).trans ((us_ne _ _ (by decide)).trans ((us_ne _ _ (by decide)).trans ((us_ne _ _ (by decide)).trans (us_eq _ _ _)))))))).symm
                  by_cases h8_ : b_ = 142
                  · subst h8_; exact ((us_ne _ _ (by decide)).trans ((us_ne _ _ (by decide)).trans ((us_ne _ _ (by decide)).trans ((us_ne _ _ (by decide)).trans ((us_ne _ _ (by decide)).trans ((us_ne _ _ (by decide)).trans ((us_ne _ _ (by decide)).trans (us_eq _ _ _)))))))).trans ((us_ne _ _ (by decide)).trans ((us_ne _ _ (by decide)).trans ((us_ne _ _ (by decide)).trans ((us_ne _ _ (by decide)).trans ((us_ne _ _ (by decide)).trans ((us_ne _ _ (by decide)).trans (us_eq _ _ _))))))).symm
                  by_cases h9_ : b_ = 143
                  · subst h9_; exact ((us_ne _ _ (by decide)).trans ((us_ne _ _ (by decide)).trans ((us_ne _ _ (by decide)).trans ((us_ne _ _ (by decide)).trans ((us_ne _ _ (by decide)).trans ((us_ne _ _ (by decide)).trans (us_eq _ _ _))))))).trans ((us_ne _ _ (by decide)).trans ((us_ne _ _ (by decide)).trans ((us_ne _ _ (by decide)).trans ((us_ne _ _ (by decide)).trans ((us_ne _ _ (by decide)).trans (us_eq _ _ _)))))).symm
                  by_cases h10_ : b_ = 20
                  · subst h10_; exact ((us_ne _ _ (by decide)).trans ((us_ne _ _ (by decide)).trans ((us_ne _ _ (by decide)).trans ((us_ne _ _ (by decide)).trans ((us_ne _ _ (by decide)).trans (us_eq _ _ _)))))).trans ((us_ne _ _ (by decide)).trans ((us_ne _ _ (by decide)).trans ((us_ne _ _ (by decide)).trans ((us_ne _ _ (by decide)).trans (us_eq _ _ _))))).symm
                  by_cases h11_ : b_ = 21
                  · subst h11_; exact ((us_ne _ _ (by decide)).trans ((us_ne _ _ (by decide)).trans ((us_ne _ _ (by decide)).trans ((us_ne _ _ (by decide)).trans (us_eq _ _ _))))).trans ((us_ne _ _ (by decide)).trans ((us_ne _ _ (by decide)).trans ((us_ne _ _ (by decide)).trans (us_eq _ _ _)))).symm
                  by_cases h12_ : b_ = 22
                  · subst h12_; exact ((us_ne _ _ (by decide)).trans ((us_ne _ _ (by decide)).trans ((us_ne _ _ (by decide)).trans (us_eq _ _ _)))).trans ((us_ne _ _ (by decide)).trans ((us_ne _ _ (by decide)).trans (us_eq _ _ _))).symm
                  by_cases h13_ : b_ = 23
                  · subst h13_; exact ((us_ne _ _ (by decide)).trans ((us_ne _ _ (by decide)).trans (us_eq _ _ _))).trans ((us_ne _ _ (by decide)).trans (us_eq _ _ _)).symm
                  by_cases h14_ : b_ = 150
                  · subst h14_; exact ((us_ne _ _ (by decide)).trans (us_eq _ _ _)).trans (us_eq _ _ _).symm
                  simp only [us, h0_, h1_, h2_, h3_, h4_, h5_, h6_, h7_, h8_, h9_, h10_, h11_, h12_, h13_, h14_, if_false]
              · refine ld_aload_n O (pc := 112) 0 dX3_street_112 rfl rfl ?_
                refine ld_g_M_kindOf O (pc := 113) ld_w51 dX3_street_113 ?_
                refine ld_iload O (pc := 116) 5 dX3_street_116 rfl ?_
                refine ld_aload_n O (pc := 118) 0 dX3_street_118 rfl rfl ?_
                refine ld_g_M_readKind O (pc := 119) ld_w55 dX3_street_119 ?_
                refine ld_iload O (pc := 122) 5 dX3_street_122 rfl ?_
                refine ld_iald O (pc := 124) 24 x (v := f24_p61 x) rfl (by decide) (show x < 8 by omega) rfl dX3_street_124 ?_
                refine ld_iast O (pc := 125) 20 x rfl (by decide) (show x < 8 by omega) dX3_street_125 ?_
                refine ld_aload_n O (pc := 126) 0 dX3_street_126 rfl rfl ?_
                refine ld_g_M_temperOf O (pc := 127) ld_w52 dX3_street_127 ?_
                refine ld_iload O (pc := 130) 5 dX3_street_130 rfl ?_
                refine ld_aload_n O (pc := 132) 0 dX3_street_132 rfl rfl ?_
                refine ld_g_M_readTemper O (pc := 133) ld_w56 dX3_street_133 ?_
                refine ld_iload O (pc := 136) 5 dX3_street_136 rfl ?_
                refine ld_iald O (pc := 138) 25 x (v := f25_p61 x) rfl (by decide) (show x < 8 by omega) rfl dX3_street_138 ?_
                refine ld_iast O (pc := 139) 21 x rfl (by decide) (show x < 8 by omega) dX3_street_139 ?_
                refine ld_aload_n O (pc := 140) 0 dX3_street_140 rfl rfl ?_
                refine ld_g_M_stockOf O (pc := 141) ld_w53 dX3_street_141 ?_
                refine ld_iload O (pc := 144) 5 dX3_street_144 rfl ?_
                refine ld_aload_n O (pc := 146) 0 dX3_street_146 rfl rfl ?_
                refine ld_g_M_readStock O (pc := 147) ld_w57 dX3_street_147 ?_
                refine ld_iload O (pc := 150) 5 dX3_street_150 rfl ?_
                refine ld_iald O (pc := 152) 26 x (v := f26_p61 x) rfl (by decide) (show x < 8 by omega) rfl dX3_street_152 ?_
                refine ld_iast O (pc := 153) 22 x rfl (by decide) (show x < 8 by omega) dX3_street_153 ?_
                refine ld_aload_n O (pc := 154) 0 dX3_street_154 rfl rfl ?_
                refine ld_g_M_pipsOf O (pc := 155) ld_w54 dX3_street_155 ?_
                refine ld_iload O (pc := 158) 5 dX3_street_158 rfl ?_
                refine ld_iconst O (pc := 160) (v := nI 0) dX3_street_160 (by decide) ?_
                refine ld_iast O (pc := 161) 23 x rfl (by decide) (show x < 8 by omega) dX3_street_161 ?_
                refine ld_iincN O (pc := 162) [(6, .int (nI (x + 1))), (0, .ref (ad 8)), (1, .int (nI (ld_ix k))), (2, .int lane), (3, .int (nI (ld_ix i))), (4, .int (nI (ld_ix n)))] 5 dX3_street_162 rfl (by decide) rfl ?_
                refine ld_goto O (pc := 165) 103 dX3_street_165 (by decide) ?_
                refine ld_less O [1, 2, 3, 4, 5, 0] (lv2 := [(0, .ref (ad 8)), (1, .int (nI (ld_ix k))), (2, .int lane), (3, .int (nI (ld_ix i))), (4, .int (nI (ld_ix n))), (6, .int (nI (x + 1)))]) rfl ?_
                have hs8 : us (us (us (us (us (us (us (us (us (us (us (us (us (us (us (us (us (us σ 140 ff_p39) 24 f24_p61) 25 f25_p61) 26 f26_p61) 144 fa_p61) 145 fm_p61) 146 fc_p61) 141 (fun _ => nI m_p61)) 142 (fun _ => fc_p61 0)) 143 (fun _ => nI 0)) 20 k0) 21 k1) 22 k2) 23 k3) 20 (upd (k0) x (f24_p61 x))) 21 (upd (k1) x (f25_p61 x))) 22 (upd (k2) x (f26_p61 x))) 23 (upd (k3) x (nI 0)) = us (us (us (us (us (us (us (us (us (us (us (us (us (us σ 140 ff_p39) 24 f24_p61) 25 f25_p61) 26 f26_p61) 144 fa_p61) 145 fm_p61) 146 fc_p61) 141 (fun _ => nI m_p61)) 142 (fun _ => fc_p61 0)) 143 (fun _ => nI 0)) 20 (upd (k0) x (f24_p61 x))) 21 (upd (k1) x (f25_p61 x))) 22 (upd (k2) x (f26_p61 x))) 23 (upd (k3) x (nI 0)) := by
                  funext b_
                  by_cases h0_ : b_ = 140
                  · subst h0_; exact ((us_ne _ _ (by decide)).trans ((us_ne _ _ (by decide)).trans ((us_ne _ _ (by decide)).trans ((us_ne _ _ (by decide)).trans ((us_ne _ _ (by decide)).trans ((us_ne _ _ (by decide)).trans ((us_ne _ _ (by decide)).trans ((us_ne _ _ (by decide)).trans ((us_ne _ _ (by decide)).trans ((us_ne _ _ (by decide)).trans ((us_ne _ _ (by decide)).trans ((us_ne _ _ (by decide)).trans ((us_ne _ _ (by decide)).trans ((us_ne _ _ (by decide)).trans ((us_ne _ _ (by decide)).trans ((us_ne _ _ (by decide)).trans ((us_ne _ _ (by decide)).trans (us_eq _ _ _)))))))))))))))))).trans ((us_ne _ _ (by decide)).trans ((us_ne _ _ (by decide)).trans ((us_ne _ _ (by decide)).trans ((us_ne _ _ (by decide)).trans ((us_ne _ _ (by decide)).trans ((us_ne _ _ (by decide)).trans ((us_ne _ _ (by decide)).trans ((us_ne _ _ (by decide)).trans ((us_ne _ _ (by decide)).trans ((us_ne _ _ (by decide)).trans ((us_ne _ _ (by decide)).trans ((us_ne _ _ (by decide)).trans ((us_ne _ _ (by decide)).trans (us_eq _ _ _)))))))))))))).symm
                  by_cases h1_ : b_ = 24
                  · subst h1_; exact ((us_ne _ _ (by decide)).trans ((us_ne _ _ (by decide)).trans ((us_ne _ _ (by decide)).trans ((us_ne _ _ (by decide)).trans ((us_ne _ _ (by decide)).trans ((us_ne _ _ (by decide)).trans ((us_ne _ _ (by decide)).trans ((us_ne _ _ (by decide)).trans ((us_ne _ _ (by decide)).trans ((us_ne _ _ (by decide)).trans ((us_ne _ _ (by decide)).trans ((us_ne _ _ (by decide)).trans ((us_ne _ _ (by decide)).trans ((us_ne _ _ (by decide)).trans ((us_ne _ _ (by decide)).trans ((us_ne _ _ (by decide)).trans (us_eq _ _ _))))))))))))))))).trans ((us_ne _ _ (by decide)).trans ((us_ne _ _ (by decide)).trans ((us_ne _ _ (by decide)).trans ((us_ne _ _ (by decide)).trans ((us_ne _ _ (by decide)).trans ((us_ne _ _ (by decide)).trans ((us_ne _ _ (by decide)).trans ((us_ne _ _ (by decide)).trans ((us_ne _ _ (by decide)).trans ((us_ne _ _ (by decide)).trans ((us_ne _ _ (by decide)).trans ((us_ne _ _ (by decide)).trans (us_eq _ _ _))))))))))))).symm
                  by_cases h2_ : b_ = 25
                  · subst h2_; exact ((us_ne _ _ (by decide)).trans ((us_ne _ _ (by decide)).trans ((us_ne _ _ (by decide)).trans ((us_ne _ _ (by decide)).trans ((us_ne _ _ (by decide)).trans ((us_ne _ _ (by decide)).trans ((us_ne _ _ (by decide)).trans ((us_ne _ _ (by decide)).trans ((us_ne _ _ (by decide)).trans ((us_ne _ _ (by decide)).trans ((us_ne _ _ (by decide)).trans ((us_ne _ _ (by decide)).trans ((us_ne _ _ (by decide)).trans ((us_ne _ _ (by decide)).trans ((us_ne _ _ (by decide)).trans (us_eq _ _ _)))))))))))))))).trans ((us_ne _ _ (by decide)).trans ((us_ne _ _ (by decide)).trans ((us_ne _ _ (by decide)).trans ((us_ne _ _ (by decide)).trans ((us_ne _ _ (by decide)).trans ((us_ne _ _ (by decide)).trans ((us_ne _ _ (by decide)).trans ((us_ne _ _ (by decide)).trans ((us_ne _ _ (by decide)).trans ((us_ne _ _ (by decide)).trans ((us_ne _ _ (by decide)).trans (us_eq _ _ _)))))))))))).symm
                  by_cases h3_ : b_ = 26
                  · subst h3_; exact ((us_ne _ _ (by decide)).trans ((us_ne _ _ (by decide)).trans ((us_ne _ _ (by decide)).trans ((us_ne _ _ (by decide)).trans ((us_ne _ _ (by decide)).trans ((us_ne _ _ (by decide)).trans ((us_ne _ _ (by decide)).trans ((us_ne _ _ (by decide)).trans ((us_ne _ _ (by decide)).trans ((us_ne _ _ (by decide)).trans ((us_ne _ _ (by decide)).trans ((us_ne _ _ (by decide)).trans ((us_ne _ _ (by decide)).trans ((us_ne _ _ (by decide)).trans (us_eq _ _ _))))))))))))))).trans ((us_ne _ _ (by decide)).trans ((us_ne _ _ (by decide)).trans ((us_ne _ _ (by decide)).trans ((us_ne _ _ (by decide)).trans ((us_ne _ _ (by decide)).trans ((us_ne _ _ (by decide)).trans ((us_ne _ _ (by decide)).trans ((us_ne _ _ (by decide)).trans ((us_ne _ _ (by decide)).trans ((us_ne _ _ (by decide)).trans (us_eq _ _ _))))))))))).symm
                  by_cases h4_ : b_ = 144
                  · subst h4_; exact ((us_ne _ _ (by decide)).trans ((us_ne _ _ (by decide)).trans ((us_ne _ _ (by decide)).trans ((us_ne _ _ (by decide)).trans ((us_ne _ _ (by decide)).trans ((us_ne _ _ (by decide)).trans ((us_ne _ _ (by decide)).trans ((us_ne _ _ (by decide)).trans ((us_ne _ _ (by decide)).trans ((us_ne _ _ (by decide)).trans ((us_ne _ _ (by decide)).trans ((us_ne _ _ (by decide)).trans ((us_ne _ _ (by decide)).trans (us_eq _ _ _)))))))))))))).trans ((us_ne _ _ (by decide)).trans ((us_ne _ _ (by decide)).trans ((us_ne _ _ (by decide)).trans ((us_ne _ _ (by decide)).trans ((us_ne _ _ (by decide)).trans ((us_ne _ _ (by decide)).trans ((us_ne _ _ (by decide)).trans ((us_ne _ _ (by decide)).trans ((us_ne _ _ (by decide)).trans (us_eq _ _ _)))))))))).symm
                  by_cases h5_ : b_ = 145
                  · subst h5_; exact ((us_ne _ _ (by decide)).trans ((us_ne _ _ (by decide)).trans ((us_ne _ _ (by decide)).trans ((us_ne _ _ (by decide)).trans ((us_ne _ _ (by decide)).trans ((us_ne _ _ (by decide)).trans ((us_ne _ _ (by decide)).trans ((us_ne _ _ (by decide)).trans ((us_ne _ _ (by decide)).trans ((us_ne _ _ (by decide)).trans ((us_ne _ _ (by decide)).trans ((us_ne _ _ (by decide)).trans (us_eq _ _ _))))))))))))).trans ((us_ne _ _ (by decide)).trans ((us_ne _ _ (by decide)).trans ((us_ne _ _ (by decide)).trans ((us_ne _ _ (by decide)).trans ((us_ne _ _ (by decide)).trans ((us_ne _ _ (by decide)).trans ((us_ne _ _ (by decide)).trans ((us_ne _ _ (by decide)).trans (us_eq _ _ _))))))))).symm
                  by_cases h6_ : b_ = 146
                  · subst h6_; exact ((us_ne _ _ (by decide)).trans ((us_ne _ _ (by decide)).trans ((us_ne _ _ (by decide)).trans ((us_ne _ _ (by decide)).trans ((us_ne _ _ (by decide)).trans ((us_ne _ _ (by decide)).trans ((us_ne _ _ (by decide)).trans ((us_ne _ _ (by decide)).trans ((us_ne _ _ (by decide)).trans ((us_ne _ _ (by decide)).trans ((us_ne _ _ (by decide)).trans (us_eq _ _ _)))))))))))).trans ((us_ne _ _ (by decide)).trans ((us_ne _ _ (by decide)).trans ((us_ne _ _ (by decide)).trans ((us_ne _ _ (by decide)).trans ((us_ne _ _ (by decide)).trans ((us_ne _ _ (by decide)).trans ((us_ne _ _ (by decide)).trans (us_eq _ _ _)))))))).symm
                  by_cases h7_ : b_ = 141
                  · subst h7_; exact ((us_ne _ _ (by decide)).trans ((us_ne _ _ (by decide)).trans ((us_ne _ _ (by decide)).trans ((us_ne _ _ (by decide)).trans ((us_ne _ _ (by decide)).trans ((us_ne _ _ (by decide)).trans ((us_ne _ _ (by decide)).trans ((us_ne _ _ (by decide)).trans ((us_ne _ _ (by decide)).trans ((us_ne _ _ (by decide)).trans (us_eq _ _ _))))))))))).trans ((us_ne _ _ (by decide)).trans ((us_ne _ _ (by decide)).trans ((us_ne _ _ (by decide)).trans ((us_ne _ _ (by decide)).trans ((us_ne _ _ (by decide)).trans ((us_ne _ _ (by decide)).trans (us_eq _ _ _))))))).symm
                  by_cases h8_ : b_ = 142
                  · subst h8_; exact ((us_ne _ _ (by decide)).trans ((us_ne _ _ (by decide)).trans ((us_ne _ _ (by decide)).trans ((us_ne _ _ (by decide)).trans ((us_ne _ _ (by decide)).trans ((us_ne _ _ (by decide)).trans ((us_ne _ _ (by decide)).trans ((us_ne _ _ (by decide)).trans ((us_ne _ _ (by decide)).trans (us_eq _ _ _)))))))))).trans ((us_ne _ _ (by decide)).trans ((us_ne _ _ (by decide)).trans ((us_ne _ _ (by decide)).trans ((us_ne _ _ (by decide)).trans ((us_ne _ _ (by decide)).trans (us_eq _ _ _)))))).symm
                  by_cases h9_ : b_ = 143
                  · subst h9_; exact ((us_ne _ _ (by decide)).trans ((us_ne _ _ (by decide)).trans ((us_ne _ _ (by decide)).trans ((us_ne _ _ (by decide)).trans ((us_ne _ _ (by decide)).trans ((us_ne _ _ (by decide)).trans ((us_ne _ _ (by decide)).trans ((us_ne _ _ (by decide)).trans (us_eq _ _ _))))))))).trans ((us_ne _ _ (by decide)).trans ((us_ne _ _ (by decide)).trans ((us_ne _ _ (by decide)).trans ((us_ne _ _ (by decide)).trans (us_eq _ _ _))))).symm
                  by_cases h10_ : b_ = 20
                  · subst h10_; exact ((us_ne _ _ (by decide)).trans ((us_ne _ _ (by decide)).trans ((us_ne _ _ (by decide)).trans (us_eq _ _ _)))).trans ((us_ne _ _ (by decide)).trans ((us_ne _ _ (by decide)).trans ((us_ne _ _ (by decide)).trans (us_eq _ _ _)))).symm
                  by_cases h11_ : b_ = 21
                  · subst h11_; exact ((us_ne _ _ (by decide)).trans ((us_ne _ _ (by decide)).trans (us_eq _ _ _))).trans ((us_ne _ _ (by decide)).trans ((us_ne _ _ (by decide)).trans (us_eq _ _ _))).symm
                  by_cases h12_ : b_ = 22
                  · subst h12_; exact ((us_ne _ _ (by decide)).trans (us_eq _ _ _)).trans ((us_ne _ _ (by decide)).trans (us_eq _ _ _)).symm
                  by_cases h13_ : b_ = 23
                  · subst h13_; exact (us_eq _ _ _).trans (us_eq _ _ _).symm
                  simp only [us, h0_, h1_, h2_, h3_, h4_, h5_, h6_, h7_, h8_, h9_, h10_, h11_, h12_, h13_, if_false]
                refine ld_cv hs8 ?_
                exact ih103 (x + 1) (upd (k0) x (f24_p61 x)) (upd (k1) x (f25_p61 x)) (upd (k2) x (f26_p61 x)) (upd (k3) x (nI 0)) (by omega) (by omega) (ld_ext hk0 rfl) (ld_ext hk1 rfl) (ld_ext hk2 rfl) (ld_ext (g := fun _ => nI 0) hk3 rfl)
          refine ld_less O [1, 2, 3, 4, 5, 0] (lv2 := [(0, .ref (ad 8)), (1, .int (nI (ld_ix k))), (2, .int lane), (3, .int (nI (ld_ix i))), (4, .int (nI (ld_ix n))), (6, .int (nI 0))]) rfl ?_
          have hs9 : us (us (us (us (us (us (us (us (us (us σ 140 ff_p39) 24 f24_p61) 25 f25_p61) 26 f26_p61) 144 fa_p61) 145 fm_p61) 146 fc_p61) 141 (fun _ => nI m_p61)) 142 (fun _ => fc_p61 0)) 143 (fun _ => nI 0) = us (us (us (us (us (us (us (us (us (us (us (us (us (us σ 140 ff_p39) 24 f24_p61) 25 f25_p61) 26 f26_p61) 144 fa_p61) 145 fm_p61) 146 fc_p61) 141 (fun _ => nI m_p61)) 142 (fun _ => fc_p61 0)) 143 (fun _ => nI 0)) 20 (σ 20)) 21 (σ 21)) 22 (σ 22)) 23 (σ 23) := by
            funext b_
            by_cases h0_ : b_ = 140
            · subst h0_; exact ((us_ne _ _ (by decide)).trans ((us_ne _ _ (by decide)).trans ((us_ne _ _ (by decide)).trans ((us_ne _ _ (by decide)).trans ((us_ne _ _ (by decide)).trans ((us_ne _ _ (by decide)).trans ((us_ne _ _ (by decide)).trans ((us_ne _ _ (by decide)).trans ((us_ne _ _ (by decide)).trans (us_eq _ _ _)))))))))).trans ((us_ne _ _ (by decide)).trans ((us_ne _ _ (by decide)).trans ((us_ne _ _ (by decide)).trans ((us_ne _ _ (by decide)).trans ((us_ne _ _ (by decide)).trans ((us_ne _ _ (by decide)).trans ((us_ne _ _ (by decide)).trans ((us_ne _ _ (by decide)).trans ((us_ne _ _ (by decide)).trans ((us_ne _ _ (by decide)).trans ((us_ne _ _ (by decide)).trans ((us_ne _ _ (by decide)).trans ((us_ne _ _ (by decide)).trans (us_eq _ _ _)))))))))))))).symm
            by_cases h1_ : b_ = 24
            · subst h1_; exact ((us_ne _ _ (by decide)).trans ((us_ne _ _ (by decide)).trans ((us_ne _ _ (by decide)).trans ((us_ne _ _ (by decide)).trans ((us_ne _ _ (by decide)).trans ((us_ne _ _ (by decide)).trans ((us_ne _ _ (by decide)).trans ((us_ne _ _ (by decide)).trans (us_eq _ _ _))))))))).trans ((us_ne _ _ (by decide)).trans ((us_ne _ _ (by decide)).trans ((us_ne _ _ (by decide)).trans ((us_ne _ _ (by decide)).trans ((us_ne _ _ (by decide)).trans ((us_ne _ _ (by decide)).trans ((us_ne _ _ (by decide)).trans ((us_ne _ _ (by decide)).trans ((us_ne _ _ (by decide)).trans ((us_ne _ _ (by decide)).trans ((us_ne _ _ (by decide)).trans ((us_ne _ _ (by decide)).trans (us_eq _ _ _))))))))))))).symm
            by_cases h2_ : b_ = 25
            · subst h2_; exact ((us_ne _ _ (by decide)).trans ((us_ne _ _ (by decide)).trans ((us_ne _ _ (by decide)).trans ((us_ne _ _ (by decide)).trans ((us_ne _ _ (by decide)).trans ((us_ne _ _ (by decide)).trans ((us_ne _ _ (by decide)).trans (us_eq _ _ _)))))))).trans ((us_ne _ _ (by decide)).trans ((us_ne _ _ (by decide)).trans ((us_ne _ _ (by decide)).trans ((us_ne _ _ (by decide)).trans ((us_ne _ _ (by decide)).trans ((us_ne _ _ (by decide)).trans ((us_ne _ _ (by decide)).trans ((us_ne _ _ (by decide)).trans ((us_ne _ _ (by decide)).trans ((us_ne _ _ (by decide)).trans ((us_ne _ _ (by decide)).trans (us_eq _ _ _)))))))))))).symm
            by_cases h3_ : b_ = 26
            · subst h3_; exact ((us_ne _ _ (by decide)).trans ((us_ne _ _ (by decide)).trans ((us_ne _ _ (by decide)).trans ((us_ne _ _ (by decide)).trans ((us_ne _ _ (by decide)).trans ((us_ne _ _ (by decide)).trans (us_eq _ _ _))))))).trans ((us_ne _ _ (by decide)).trans ((us_ne _ _ (by decide)).trans ((us_ne _ _ (by decide)).trans ((us_ne _ _ (by decide)).trans ((us_ne _ _ (by decide)).trans ((us_ne _ _ (by decide)).trans ((us_ne _ _ (by decide)).trans ((us_ne _ _ (by decide)).trans ((us_ne _ _ (by decide)).trans ((us_ne _ _ (by decide)).trans (us_eq _ _ _))))))))))).symm
            by_cases h4_ : b_ = 144
            · subst h4_; exact ((us_ne _ _ (by decide)).trans ((us_ne _ _ (by decide)).trans ((us_ne _ _ (by decide)).trans ((us_ne _ _ (by decide)).trans ((us_ne _ _ (by decide)).trans (us_eq _ _ _)))))).trans ((us_ne _ _ (by decide)).trans ((us_ne _ _ (by decide)).trans ((us_ne _ _ (by decide)).trans ((us_ne _ _ (by decide)).trans ((us_ne _ _ (by decide)).trans ((us_ne _ _ (by decide)).trans ((us_ne _ _ (by decide)).trans ((us_ne _ _ (by decide)).trans ((us_ne _ _ (by decide)).trans (us_eq _ _ _)))))))))).symm
            by_cases h5_ : b_ = 145
            · subst h5_; exact ((us_ne _ _ (by decide)).trans ((us_ne _ _ (by decide)).trans ((us_ne _ _ (by decide)).trans ((us_ne _ _ (by decide)).trans (us_eq _ _ _))))).trans ((us_ne _ _ (by decide)).trans ((us_ne _ _ (by decide)).trans ((us_ne _ _ (by decide)).trans ((us_ne _ _ (by decide)).trans ((us_ne _ _ (by decide)).trans ((us_ne _ _ (by decide)).trans ((us_ne _ _ (by decide)).trans ((us_ne _ _ (by decide)).trans (us_eq _ _ _))))))))).symm
            by_cases h6_ : b_ = 146
            · subst h6_; exact ((us_ne _ _ (by decide)).trans ((us_ne _ _ (by decide)).trans ((us_ne _ _ (by decide)).trans (us_eq _ _ _)))).trans ((us_ne _ _ (by decide)).trans ((us_ne _ _ (by decide)).trans ((us_ne _ _ (by decide)).trans ((us_ne _ _ (by decide)).trans ((us_ne _ _ (by decide)).trans ((us_ne _ _ (by decide)).trans ((us_ne _ _ (by decide)).trans (us_eq _ _ _)))))))).symm
            by_cases h7_ : b_ = 141
            · subst h7_; exact ((us_ne _ _ (by decide)).trans ((us_ne _ _ (by decide)).trans (us_eq _ _ _))).trans ((us_ne _ _ (by decide)).trans ((us_ne _ _ (by decide)).trans ((us_ne _ _ (by decide)).trans ((us_ne _ _ (by decide)).trans ((us_ne _ _ (by decide)).trans ((us_ne _ _ (by decide)).trans (us_eq _ _ _))))))).symm
            by_cases h8_ : b_ = 142
            · subst h8_; exact ((us_ne _ _ (by decide)).trans (us_eq _ _ _)).trans ((us_ne _ _ (by decide)).trans ((us_ne _ _ (by decide)).trans ((us_ne _ _ (by decide)).trans ((us_ne _ _ (by decide)).trans ((us_ne _ _ (by decide)).trans (us_eq _ _ _)))))).symm
            by_cases h9_ : b_ = 143
            · subst h9_; exact (us_eq _ _ _).trans ((us_ne _ _ (by decide)).trans ((us_ne _ _ (by decide)).trans ((us_ne _ _ (by decide)).trans ((us_ne _ _ (by decide)).trans (us_eq _ _ _))))).symm
            by_cases h10_ : b_ = 20
            · subst h10_; exact ((us_ne _ _ (by decide)).trans ((us_ne _ _ (by decide)).trans ((us_ne _ _ (by decide)).trans ((us_ne _ _ (by decide)).trans ((us_ne _ _ (by decide)).trans ((us_ne _ _ (by decide)).trans ((us_ne _ _ (by decide)).trans ((us_ne _ _ (by decide)).trans ((us_ne _ _ (by decide)).trans (us_ne _ _ (by decide))))))))))).trans ((us_ne _ _ (by decide)).trans ((us_ne _ _ (by decide)).trans ((us_ne _ _ (by decide)).trans (us_eq _ _ _)))).symm
            by_cases h11_ : b_ = 21
            · subst h11_; exact ((us_ne _ _ (by decide)).trans ((us_ne _ _ (by decide)).trans ((us_ne _ _ (by decide)).trans ((us_ne _ _ (by decide)).trans ((us_ne _ _ (by decide)).trans ((us_ne _ _ (by decide)).trans ((us_ne _ _ (by decide)).trans ((us_ne _ _ (by decide)).trans ((us_ne _ _ (by decide)).trans (us_ne _ _ (by decide))))))))))).trans ((us_ne _ _ (by decide)).trans ((us_ne _ _ (by decide)).trans (us_eq _ _ _))).symm
            by_cases h12_ : b_ = 22
            · subst h12_; exact ((us_ne _ _ (by decide)).trans ((us_ne _ _ (by decide)).trans ((us_ne _ _ (by decide)).trans ((us_ne _ _ (by decide)).trans ((us_ne _ _ (by decide)).trans ((us_ne _ _ (by decide)).trans ((us_ne _ _ (by decide)).trans ((us_ne _ _ (by decide)).trans ((us_ne _ _ (by decide)).trans (us_ne _ _ (by decide))))))))))).trans ((us_ne _ _ (by decide)).trans (us_eq _ _ _)).symm
            by_cases h13_ : b_ = 23
            · subst h13_; exact ((us_ne _ _ (by decide)).trans ((us_ne _ _ (by decide)).trans ((us_ne _ _ (by decide)).trans ((us_ne _ _ (by decide)).trans ((us_ne _ _ (by decide)).trans ((us_ne _ _ (by decide)).trans ((us_ne _ _ (by decide)).trans ((us_ne _ _ (by decide)).trans ((us_ne _ _ (by decide)).trans (us_ne _ _ (by decide))))))))))).trans (us_eq _ _ _).symm
            simp only [us, h0_, h1_, h2_, h3_, h4_, h5_, h6_, h7_, h8_, h9_, h10_, h11_, h12_, h13_, if_false]
          refine ld_cv hs9 ?_
          exact L103 _ 0 (σ 20) (σ 21) (σ 22) (σ 23) (Nat.lt_succ_self _) (Nat.zero_le _) (fun x hx => absurd hx (Nat.not_lt_zero x)) (fun x hx => absurd hx (Nat.not_lt_zero x)) (fun x hx => absurd hx (Nat.not_lt_zero x)) (fun x hx => absurd hx (Nat.not_lt_zero x))
        · refine ld_aload_n O (pc := 67) 0 dX3_street_67 rfl rfl ?_
          refine ld_bipush O (pc := 68) (v := (-100 : Int32)) dX3_street_68 (by decide) ?_
          refine ld_aload_n O (pc := 70) 0 dX3_street_70 rfl rfl ?_
          refine ld_g_M_readAt O (pc := 71) (v := nI a_p61) ld_w117 hfa_p61 dX3_street_71 ?_
          refine ld_isub O (pc := 74) dX3_street_74 ?_
          refine ld_callVi O (pc := 75) (As := [.int ((-100 : Int32) - (nI a_p61))]) (st := []) ld_recv8 (c_X3_refused l ad (us (us (us (us (us (us (us σ 140 ff_p39) 24 f24_p61) 25 f25_p61) 26 f26_p61) 144 fa_p61) 145 fm_p61) 146 fc_p61) ((-100 : Int32) - (nI a_p61))) ld_mw_X3_refused ld_w131 rfl rfl ⟨by decide, by decide⟩ (Nat.le_of_ble_eq_true rfl) dX3_street_75 (fun r_p75 σ_p75 h_p75 => ?_)
          obtain ⟨rfl, hσ_p75⟩ := h_p75
          rw [hσ_p75]
          show K (us (us (us (us (us (us (us (us σ 140 ff_p39) 24 f24_p61) 25 f25_p61) 26 f26_p61) 144 fa_p61) 145 fm_p61) 146 fc_p61) 140 (fun _ => nI 0)) [(0, .ref (ad 8)), (1, .int (nI (ld_ix k))), (2, .int lane), (3, .int (nI (ld_ix i))), (4, .int (nI (ld_ix n)))] [.int ((-100 : Int32) - (nI a_p61))] 78
          refine ld_ireti E dX3_street_78 ?_
          have hw_ := hno_p61 c6
          refine ⟨?_, fun _ => nI 0, f24_p61, f25_p61, f26_p61, fa_p61, fm_p61, fc_p61, ?_, Or.inr ⟨?_, ?_⟩⟩
          · rw [hw_]
            unfold ld_fSt
            rw [if_pos (by omega), if_pos (by omega), if_pos (show (ld_fa (σ 34 (ld_ix k)) (σ 35 (ld_ix k)) lane).toInt = 0 by rw [ld_fa00 h0a_ h0b_]; decide), if_neg (by omega), if_neg (by omega)]
            refine Eq.trans ?_ (congrArg Prod.fst (if_neg c6)).symm
            rfl
          · unfold ld_fSt
            rw [if_pos (by omega), if_pos (by omega), if_pos (show (ld_fa (σ 34 (ld_ix k)) (σ 35 (ld_ix k)) lane).toInt = 0 by rw [ld_fa00 h0a_ h0b_]; decide), if_neg (by omega), if_neg (by omega)]
            refine Eq.trans ?_ (congrArg Prod.snd (if_neg c6)).symm
            rfl
          · exact fun z => c6 z.2
          · funext b_
            by_cases h0_ : b_ = 140
            · subst h0_; exact (us_eq _ _ _).trans ((us_ne _ _ (by decide)).trans ((us_ne _ _ (by decide)).trans ((us_ne _ _ (by decide)).trans ((us_ne _ _ (by decide)).trans ((us_ne _ _ (by decide)).trans ((us_ne _ _ (by decide)).trans (us_eq _ _ _))))))).symm
            by_cases h1_ : b_ = 24
            · subst h1_; exact ((us_ne _ _ (by decide)).trans ((us_ne _ _ (by decide)).trans ((us_ne _ _ (by decide)).trans ((us_ne _ _ (by decide)).trans ((us_ne _ _ (by decide)).trans ((us_ne _ _ (by decide)).trans (us_eq _ _ _))))))).trans ((us_ne _ _ (by decide)).trans ((us_ne _ _ (by decide)).trans ((us_ne _ _ (by decide)).trans ((us_ne _ _ (by decide)).trans ((us_ne _ _ (by decide)).trans (us_eq _ _ _)))))).symm
            by_cases h2_ : b_ = 25
            · subst h2_; exact ((us_ne _ _ (by decide)).trans ((us_ne _ _ (by decide)).trans ((us_ne _ _ (by decide)).trans ((us_ne _ _ (by decide)).trans ((us_ne _ _ (by decide)).trans (us_eq _ _ _)))))).trans ((us_ne _ _ (by decide)).trans ((us_ne _ _ (by decide)).trans ((us_ne _ _ (by decide)).trans ((us_ne _ _ (by decide)).trans (us_eq _ _ _))))).symm
            by_cases h3_ : b_ = 26
            · subst h3_; exact ((us_ne _ _ (by decide)).trans ((us_ne _ _ (by decide)).trans ((us_ne _ _ (by decide)).trans ((us_ne _ _ (by decide)).trans (us_eq _ _ _))))).trans ((us_ne _ _ (by decide)).trans ((us_ne _ _ (by decide)).trans ((us_ne _ _ (by decide)).trans (us_eq _ _ _)))).symm
            by_cases h4_ : b_ = 144
            · subst h4_; exact ((us_ne _ _ (by decide)).trans ((us_ne _ _ (by decide)).trans ((us_ne _ _ (by decide)).trans (us_eq _ _ _)))).trans ((us_ne _ _ (by decide)).trans ((us_ne _ _ (by decide)).trans (us_eq _ _ _))).symm
            by_cases h5_ : b_ = 145
            · subst h5_; exact ((us_ne _ _ (by decide)).trans ((us_ne _ _ (by decide)).trans (us_eq _ _ _))).trans ((us_ne _ _ (by decide)).trans (us_eq _ _ _)).symm
            by_cases h6_ : b_ = 146
            · subst h6_; exact ((us_ne _ _ (by decide)).trans (us_eq _ _ _)).trans (us_eq _ _ _).symm
            simp only [us, h0_, h1_, h2_, h3_, h4_, h5_, h6_, if_false]
      · refine ld_iload O (pc := 49) 0 dX3_street_49 rfl ?_
        refine ld_ireti E dX3_street_51 ?_
        have hn_ : ¬ (ld_cb (σ 34 (ld_ix k)) (σ 35 (ld_ix k)) lane i n.toInt).toInt = 0 := fun z => absurd (hcz_.mpr z) (by omega)
        refine ⟨?_, ff_p39, σ 24, σ 25, σ 26, σ 144, σ 145, σ 146, ?_, Or.inr ⟨?_, ?_⟩⟩
        · unfold ld_fSt
          rw [if_pos (by omega), if_pos (by omega)]
          exact congrArg Prod.fst (ld_cbn hn_ _)
        · rw [hff_p39, if_neg hn_]
          unfold ld_fSt
          rw [if_pos (by omega), if_pos (by omega)]
          exact congrArg Prod.snd (ld_cbn hn_ _)
        · intro z
          have z1 := z.1.2.2
          have z2 := ld_fa0 z.1.2.1
          refine hn_ ?_
          unfold ld_cb
          rw [if_neg z2.1, if_neg (fun w => w z2.2), if_neg (by omega), if_neg (by omega)]
          decide
        · funext b_
          by_cases h0_ : b_ = 140
          · subst h0_; exact (us_eq _ _ _).trans ((us_ne _ _ (by decide)).trans ((us_ne _ _ (by decide)).trans ((us_ne _ _ (by decide)).trans ((us_ne _ _ (by decide)).trans ((us_ne _ _ (by decide)).trans ((us_ne _ _ (by decide)).trans (us_eq _ _ _))))))).symm
          by_cases h1_ : b_ = 24
          · subst h1_; exact (us_ne _ _ (by decide)).trans ((us_ne _ _ (by decide)).trans ((us_ne _ _ (by decide)).trans ((us_ne _ _ (by decide)).trans ((us_ne _ _ (by decide)).trans ((us_ne _ _ (by decide)).trans (us_eq _ _ _)))))).symm
          by_cases h2_ : b_ = 25
          · subst h2_; exact (us_ne _ _ (by decide)).trans ((us_ne _ _ (by decide)).trans ((us_ne _ _ (by decide)).trans ((us_ne _ _ (by decide)).trans ((us_ne _ _ (by decide)).trans (us_eq _ _ _))))).symm
          by_cases h3_ : b_ = 26
          · subst h3_; exact (us_ne _ _ (by decide)).trans ((us_ne _ _ (by decide)).trans ((us_ne _ _ (by decide)).trans ((us_ne _ _ (by decide)).trans (us_eq _ _ _)))).symm
          by_cases h4_ : b_ = 144
          · subst h4_; exact (us_ne _ _ (by decide)).trans ((us_ne _ _ (by decide)).trans ((us_ne _ _ (by decide)).trans (us_eq _ _ _))).symm
          by_cases h5_ : b_ = 145
          · subst h5_; exact (us_ne _ _ (by decide)).trans ((us_ne _ _ (by decide)).trans (us_eq _ _ _)).symm
          by_cases h6_ : b_ = 146
          · subst h6_; exact (us_ne _ _ (by decide)).trans (us_eq _ _ _).symm
          simp only [us, h0_, h1_, h2_, h3_, h4_, h5_, h6_, if_false]
    · refine ld_aload_n O (pc := 25) 0 dX3_street_25 rfl rfl ?_
      refine ld_bipush O (pc := 26) (v := (-2 : Int32)) dX3_street_26 (by decide) ?_
      refine ld_callVi O (pc := 28) (As := [.int (-2 : Int32)]) (st := []) ld_recv8 (c_X3_refused l ad σ (-2 : Int32)) ld_mw_X3_refused ld_w131 rfl rfl ⟨by decide, by decide⟩ (Nat.le_of_ble_eq_true rfl) dX3_street_28 (fun r_p28 σ_p28 h_p28 => ?_)
      obtain ⟨rfl, hσ_p28⟩ := h_p28
      rw [hσ_p28]
      show K (us σ 140 (fun _ => nI 0)) [(0, .ref (ad 8)), (1, .int (nI (ld_ix k))), (2, .int lane), (3, .int i), (4, .int n)] [.int (-2 : Int32)] 31
      refine ld_ireti E dX3_street_31 ?_
      refine ⟨?_, fun _ => nI 0, σ 24, σ 25, σ 26, σ 144, σ 145, σ 146, ?_, Or.inr ⟨?_, ?_⟩⟩
      · unfold ld_fSt
        try dsimp only
        repeat' split
        all_goals first | (exfalso; omega) | rfl
      · unfold ld_fSt
        try dsimp only
        repeat' split
        all_goals first | (exfalso; omega) | rfl
      · exact fun z => by have z1 := z.1.1; omega
      · funext b_
        by_cases h0_ : b_ = 140
        · subst h0_; exact (us_eq _ _ _).trans ((us_ne _ _ (by decide)).trans ((us_ne _ _ (by decide)).trans ((us_ne _ _ (by decide)).trans ((us_ne _ _ (by decide)).trans ((us_ne _ _ (by decide)).trans ((us_ne _ _ (by decide)).trans (us_eq _ _ _))))))).symm
        by_cases h1_ : b_ = 24
        · subst h1_; exact (us_ne _ _ (by decide)).trans ((us_ne _ _ (by decide)).trans ((us_ne _ _ (by decide)).trans ((us_ne _ _ (by decide)).trans ((us_ne _ _ (by decide)).trans ((us_ne _ _ (by decide)).trans (us_eq _ _ _)))))).symm
        by_cases h2_ : b_ = 25
        · subst h2_; exact (us_ne _ _ (by decide)).trans ((us_ne _ _ (by decide)).trans ((us_ne _ _ (by decide)).trans ((us_ne _ _ (by decide)).trans ((us_ne _ _ (by decide)).trans (us_eq _ _ _))))).symm
        by_cases h3_ : b_ = 26
        · subst h3_; exact (us_ne _ _ (by decide)).trans ((us_ne _ _ (by decide)).trans ((us_ne _ _ (by decide)).trans ((us_ne _ _ (by decide)).trans (us_eq _ _ _)))).symm
        by_cases h4_ : b_ = 144
        · subst h4_; exact (us_ne _ _ (by decide)).trans ((us_ne _ _ (by decide)).trans ((us_ne _ _ (by decide)).trans (us_eq _ _ _))).symm
        by_cases h5_ : b_ = 145
        · subst h5_; exact (us_ne _ _ (by decide)).trans ((us_ne _ _ (by decide)).trans (us_eq _ _ _)).symm
        by_cases h6_ : b_ = 146
        · subst h6_; exact (us_ne _ _ (by decide)).trans (us_eq _ _ _).symm
        simp only [us, h0_, h1_, h2_, h3_, h4_, h5_, h6_, if_false]
  · refine ld_aload_n O (pc := 7) 0 dX3_street_7 rfl rfl ?_
    refine ld_iconst O (pc := 8) (v := (-1 : Int32)) dX3_street_8 (by decide) ?_
    refine ld_callVi O (pc := 9) (As := [.int (-1 : Int32)]) (st := []) ld_recv8 (c_X3_refused l ad σ (-1 : Int32)) ld_mw_X3_refused ld_w131 rfl rfl ⟨by decide, by decide⟩ (Nat.le_of_ble_eq_true rfl) dX3_street_9 (fun r_p9 σ_p9 h_p9 => ?_)
    obtain ⟨rfl, hσ_p9⟩ := h_p9
    rw [hσ_p9]
    show K (us σ 140 (fun _ => nI 0)) [(0, .ref (ad 8)), (1, .int k), (2, .int lane), (3, .int i), (4, .int n)] [.int (-1 : Int32)] 12
    refine ld_ireti E dX3_street_12 ?_
    refine ⟨?_, fun _ => nI 0, σ 24, σ 25, σ 26, σ 144, σ 145, σ 146, ?_, Or.inr ⟨?_, ?_⟩⟩
    · unfold ld_fSt
      try dsimp only
      repeat' split
      all_goals first | (exfalso; omega) | rfl
    · unfold ld_fSt
      try dsimp only
      repeat' split
      all_goals first | (exfalso; omega) | rfl
    · exact fun z => by have z1 := z.1.1; omega
    · funext b_
      by_cases h0_ : b_ = 140
      · subst h0_; exact (us_eq _ _ _).trans ((us_ne _ _ (by decide)).trans ((us_ne _ _ (by decide)).trans ((us_ne _ _ (by decide)).trans ((us_ne _ _ (by decide)).trans ((us_ne _ _ (by decide)).trans ((us_ne _ _ (by decide)).trans (us_eq _ _ _))))))).symm
      by_cases h1_ : b_ = 24
      · subst h1_; exact (us_ne _ _ (by decide)).trans ((us_ne _ _ (by decide)).trans ((us_ne _ _ (by decide)).trans ((us_ne _ _ (by decide)).trans ((us_ne _ _ (by decide)).trans ((us_ne _ _ (by decide)).trans (us_eq _ _ _)))))).symm
      by_cases h2_ : b_ = 25
      · subst h2_; exact (us_ne _ _ (by decide)).trans ((us_ne _ _ (by decide)).trans ((us_ne _ _ (by decide)).trans ((us_ne _ _ (by decide)).trans ((us_ne _ _ (by decide)).trans (us_eq _ _ _))))).symm
      by_cases h3_ : b_ = 26
      · subst h3_; exact (us_ne _ _ (by decide)).trans ((us_ne _ _ (by decide)).trans ((us_ne _ _ (by decide)).trans ((us_ne _ _ (by decide)).trans (us_eq _ _ _)))).symm
      by_cases h4_ : b_ = 144
      · subst h4_; exact (us_ne _ _ (by decide)).trans ((us_ne _ _ (by decide)).trans ((us_ne _ _ (by decide)).trans (us_eq _ _ _))).symm
      by_cases h5_ : b_ = 145
      · subst h5_; exact (us_ne _ _ (by decide)).trans ((us_ne _ _ (by decide)).trans (us_eq _ _ _)).symm
      by_cases h6_ : b_ = 146
      · subst h6_; exact (us_ne _ _ (by decide)).trans (us_eq _ _ _).symm
      simp only [us, h0_, h1_, h2_, h3_, h4_, h5_, h6_, if_false]
set_option maxHeartbeats 4000000 in
set_option maxRecDepth 100000 in
theorem c_X3_pairsBarred (l : Launch) (ad : Nat → Nat) (σ : ld_St) (h : Nat) (hh : σ 141 0 = nI h) (h8 : h ≤ 8) (C : Nat → Int32) (i0 n : Nat) (hC : ∀ z, σ 36 (i0 + z) = C z) (hb : i0 + 2 * n ≤ 240) (n60 : n ≤ 60) : ld_Ctr l yX3_pairsBarred cX3_pairsBarred 6 (some .int) (2, 46) [.ref (ad 8), .int (nI i0), .int (nI n)] ad σ (ld_I (fun (r : Int32) (σ2 : ld_St) => r = ld_rps h C n ∧ σ2 = σ)) := by
  refine ld_entry (by decide +kernel) (Nat.le_of_ble_eq_true rfl) (fun K O E => ?_)
  have O : ld_Ok l K ad cX3_pairsBarred 6 RX3 (ld_rm (2, 46)) := O
  show K σ [(0, .ref (ad 8)), (1, .int (nI i0)), (2, .int (nI n))] [] 0
  refine ld_iconst O (pc := 0) (v := nI 0) dX3_pairsBarred_0 (by decide) ?_
  refine ld_istore_n O (pc := 1) [(3, .int (nI 0)), (0, .ref (ad 8)), (1, .int (nI i0)), (2, .int (nI n))] dX3_pairsBarred_1 rfl (by decide) rfl ?_
  have L2 : ∀ (m_2 : Nat) (i : Nat), n - i < m_2 → (i ≤ n) → ((ld_rps h C i).toInt = 0) → K σ [(0, .ref (ad 8)), (1, .int (nI i0)), (2, .int (nI n)), (3, .int (nI i))] [] 2 := by
    intro m_2
    induction m_2 with
    | zero => intro i hm_; exact absurd hm_ (Nat.not_lt_zero _)
    | succ m_2 ih2 =>
      intro i hm_2 hi hf
      refine ld_iload_n O (pc := 2) 3 dX3_pairsBarred_2 rfl rfl ?_
      refine ld_iload_n O (pc := 3) 2 dX3_pairsBarred_3 rfl rfl ?_
      refine ld_icmp_ge O (pc := 4) ((i : Nat) : Int) ((n : Nat) : Int) (nI_toInt (by omega)) (nI_toInt (by omega)) 104 dX3_pairsBarred_4 (by decide) (fun c1 => ?_) (fun c1 => ?_)
      · refine ld_iconst O (pc := 104) (v := nI 0) dX3_pairsBarred_104 (by decide) ?_
        refine ld_ireti E dX3_pairsBarred_105 ?_
        exact ⟨by rw [show i = n by omega] at hf; exact Int32.toInt_inj.mp (by rw [hf]; decide), rfl⟩
      · refine ld_aload_n O (pc := 7) 0 dX3_pairsBarred_7 rfl rfl ?_
        refine ld_g_M_sheet O (pc := 8) ld_w67 dX3_pairsBarred_8 ?_
        refine ld_iload_n O (pc := 11) 1 dX3_pairsBarred_11 rfl rfl ?_
        refine ld_iconst O (pc := 12) (v := nI 2) dX3_pairsBarred_12 (by decide) ?_
        refine ld_iload_n O (pc := 13) 3 dX3_pairsBarred_13 rfl rfl ?_
        refine ld_imulN O (pc := 14) dX3_pairsBarred_14 ?_
        refine ld_iaddN O (pc := 15) dX3_pairsBarred_15 ?_
        refine ld_iald O (pc := 16) 36 (i0 + (2 * i)) (v := σ 36 (i0 + (2 * i))) rfl (by decide) (show i0 + (2 * i) < 240 by omega) rfl dX3_pairsBarred_16 ?_
        rw [show σ 36 (i0 + (2 * i)) = C (2 * i) from hC (2 * i)]
        refine ld_istore O (pc := 17) [(4, .int (C (2 * i))), (0, .ref (ad 8)), (1, .int (nI i0)), (2, .int (nI n)), (3, .int (nI i))] dX3_pairsBarred_17 (by decide) rfl ?_
        refine ld_aload_n O (pc := 19) 1 dX3_pairsBarred_19 rfl rfl ?_
        refine ld_g_M_sheet O (pc := 20) ld_w67 dX3_pairsBarred_20 ?_
        refine ld_iload_n O (pc := 23) 2 dX3_pairsBarred_23 rfl rfl ?_
        refine ld_iconst O (pc := 24) (v := nI 2) dX3_pairsBarred_24 (by decide) ?_
        refine ld_iload_n O (pc := 25) 4 dX3_pairsBarred_25 rfl rfl ?_
        refine ld_imulN O (pc := 26) dX3_pairsBarred_26 ?_
        refine ld_iaddN O (pc := 27) dX3_pairsBarred_27 ?_
        refine ld_iconst O (pc := 28) (v := nI 1) dX3_pairsBarred_28 (by decide) ?_
        refine ld_iaddN O (pc := 29) dX3_pairsBarred_29 ?_
        refine ld_iald O (pc := 30) 36 ((i0 + (2 * i)) + 1) (v := σ 36 ((i0 + (2 * i)) + 1)) rfl (by decide) (show (i0 + (2 * i)) + 1 < 240 by omega) rfl dX3_pairsBarred_30 ?_
        rw [show σ 36 ((i0 + (2 * i)) + 1) = C (2 * i + 1) from hC (2 * i + 1)]
        refine ld_istore O (pc := 31) [(5, .int (C (2 * i + 1))), (4, .int (C (2 * i))), (0, .ref (ad 8)), (1, .int (nI i0)), (2, .int (nI n)), (3, .int (nI i))] dX3_pairsBarred_31 (by decide) rfl ?_
        refine ld_iload O (pc := 33) 0 dX3_pairsBarred_33 rfl ?_
        have hl2 : ((C (2 * i + 1)).toInt64).toInt = (C (2 * i + 1)).toInt := (Int32.toInt_toInt64 _).trans rfl
        refine ld_i2l O (pc := 35) dX3_pairsBarred_35 ?_
        refine ld_lconst O (pc := 36) (v := (0 : Int64)) dX3_pairsBarred_36 (by decide) ?_
        refine ld_ldc2 O (pc := 37) (v := (2 : Int64)) dX3_pairsBarred_37 ld_w116 ?_
        refine ld_callSi O (pc := 40) (As := [.long ((C (2 * i + 1)).toInt64), .long (0 : Int64), .long (2 : Int64)]) (st := []) (c_X3_in l ad σ ((C (2 * i + 1)).toInt64) (0 : Int64) (2 : Int64) ((C (2 * i + 1)).toInt) 0 (2) hl2 (by decide) (by decide)) ld_mw_X3_in ld_w128 rfl rfl ⟨by decide, by decide⟩ (Nat.le_of_ble_eq_true rfl) dX3_pairsBarred_40 (fun r_p40 σ_p40 h_p40 => ?_)
        obtain ⟨rfl, hσ_p40⟩ := h_p40
        rw [hσ_p40]
        show K σ [(5, .int (C (2 * i + 1))), (4, .int (C (2 * i))), (0, .ref (ad 8)), (1, .int (nI i0)), (2, .int (nI n)), (3, .int (nI i))] [.int (ld_b (0 ≤ (C (2 * i + 1)).toInt ∧ (C (2 * i + 1)).toInt ≤ (2)))] 43
        refine ld_ifb_eq O (pc := 43) 78 dX3_pairsBarred_43 (by decide) (fun c3 => ?_) (fun c3 => ?_)
        · refine ld_bipush O (pc := 78) (v := (-2 : Int32)) dX3_pairsBarred_78 (by decide) ?_
          refine ld_ireti E dX3_pairsBarred_80 ?_
          have hr_ : ld_rps h C (i + 1) = ld_rp h (C (2 * i)) (C (2 * i + 1)) := by simp only [ld_rps]; exact if_pos hf
          have hv_ : ld_rp h (C (2 * i)) (C (2 * i + 1)) = (-2 : Int32) := by
            unfold ld_rp
            repeat' split
            all_goals first | (exfalso; omega) | rfl
          refine ⟨?_, rfl⟩
          rw [ld_rps_stop (n := i + 1) (by rw [hr_, hv_]; decide) (by omega), hr_, hv_]
        · refine ld_iload O (pc := 46) 0 dX3_pairsBarred_46 rfl ?_
          refine ld_if_ne O (pc := 48) (C (2 * i + 1)).toInt rfl 64 dX3_pairsBarred_48 (by decide) (fun c4 => ?_) (fun c4 => ?_)
          · refine ld_iload O (pc := 64) 0 dX3_pairsBarred_64 rfl ?_
            refine ld_iconst O (pc := 66) (v := nI 2) dX3_pairsBarred_66 (by decide) ?_
            refine ld_icmp_ne O (pc := 67) (C (2 * i + 1)).toInt 2 rfl (by decide) 81 dX3_pairsBarred_67 (by decide) (fun c5 => ?_) (fun c5 => ?_)
            · refine ld_iload O (pc := 81) 0 dX3_pairsBarred_81 rfl ?_
              refine ld_iconst O (pc := 83) (v := nI 1) dX3_pairsBarred_83 (by decide) ?_
              refine ld_icmp_ne O (pc := 84) (C (2 * i + 1)).toInt 1 rfl (by decide) 98 dX3_pairsBarred_84 (by decide) (fun c6 => ?_) (fun c6 => ?_)
              · have hr_ : ld_rps h C (i + 1) = ld_rp h (C (2 * i)) (C (2 * i + 1)) := by simp only [ld_rps]; exact if_pos hf
                have hv_ : ld_rp h (C (2 * i)) (C (2 * i + 1)) = nI 0 := by
                  unfold ld_rp
                  repeat' split
                  all_goals first | (exfalso; omega) | rfl
                refine ld_iincN O (pc := 98) [(3, .int (nI (i + 1))), (5, .int (C (2 * i + 1))), (4, .int (C (2 * i))), (0, .ref (ad 8)), (1, .int (nI i0)), (2, .int (nI n))] 5 dX3_pairsBarred_98 rfl (by decide) rfl ?_
                refine ld_goto O (pc := 101) 2 dX3_pairsBarred_101 (by decide) ?_
                refine ld_less O [3, 4, 5, 0] (lv2 := [(0, .ref (ad 8)), (1, .int (nI i0)), (2, .int (nI n)), (3, .int (nI (i + 1)))]) rfl ?_
                exact ih2 (i + 1) (by omega) (by omega) (by rw [hr_, hv_]; decide)
              · refine ld_aload_n O (pc := 87) 2 dX3_pairsBarred_87 rfl rfl ?_
                refine ld_iload O (pc := 88) 1 dX3_pairsBarred_88 rfl ?_
                refine ld_callVi O (pc := 90) (As := [.int (C (2 * i))]) (st := []) ld_recv8 (c_X3_noHouse l ad σ (C (2 * i)) h hh h8) ld_mw_X3_noHouse ld_w194 rfl rfl ⟨by decide, by decide⟩ (Nat.le_of_ble_eq_true rfl) dX3_pairsBarred_90 (fun r_p90 σ_p90 h_p90 => ?_)
                obtain ⟨rfl, hσ_p90⟩ := h_p90
                rw [hσ_p90]
                show K σ [(5, .int (C (2 * i + 1))), (4, .int (C (2 * i))), (0, .ref (ad 8)), (1, .int (nI i0)), (2, .int (nI n)), (3, .int (nI i))] [.int (ld_b (¬ (0 ≤ (C (2 * i)).toInt ∧ (C (2 * i)).toInt < (h : Int))))] 93
                refine ld_ifb_eq O (pc := 93) 98 dX3_pairsBarred_93 (by decide) (fun c7 => ?_) (fun c7 => ?_)
                · replace c7 := Classical.byContradiction c7
                  have hr_ : ld_rps h C (i + 1) = ld_rp h (C (2 * i)) (C (2 * i + 1)) := by simp only [ld_rps]; exact if_pos hf
                  have hv_ : ld_rp h (C (2 * i)) (C (2 * i + 1)) = nI 0 := by
                    unfold ld_rp
                    repeat' split
                    all_goals first | (exfalso; omega) | rfl
                  refine ld_iincN O (pc := 98) [(3, .int (nI (i + 1))), (5, .int (C (2 * i + 1))), (4, .int (C (2 * i))), (0, .ref (ad 8)), (1, .int (nI i0)), (2, .int (nI n))] 5 dX3_pairsBarred_98 rfl (by decide) rfl ?_
                  refine ld_goto O (pc := 101) 2 dX3_pairsBarred_101 (by decide) ?_
                  refine ld_less O [3, 4, 5, 0] (lv2 := [(0, .ref (ad 8)), (1, .int (nI i0)), (2, .int (nI n)), (3, .int (nI (i + 1)))]) rfl ?_
                  exact ih2 (i + 1) (by omega) (by omega) (by rw [hr_, hv_]; decide)
                · refine ld_iconst O (pc := 96) (v := (-1 : Int32)) dX3_pairsBarred_96 (by decide) ?_
                  refine ld_ireti E dX3_pairsBarred_97 ?_
                  have hr_ : ld_rps h C (i + 1) = ld_rp h (C (2 * i)) (C (2 * i + 1)) := by simp only [ld_rps]; exact if_pos hf
                  have hv_ : ld_rp h (C (2 * i)) (C (2 * i + 1)) = (-1 : Int32) := by
                    unfold ld_rp
                    repeat' split
                    all_goals first | (exfalso; omega) | rfl
                  refine ⟨?_, rfl⟩
                  rw [ld_rps_stop (n := i + 1) (by rw [hr_, hv_]; decide) (by omega), hr_, hv_]
            · refine ld_iload O (pc := 70) 1 dX3_pairsBarred_70 rfl ?_
              refine ld_callSi O (pc := 72) (As := [.int (C (2 * i))]) (st := []) (c_X3_isCrate l ad σ (C (2 * i))) ld_mw_X3_isCrate ld_w240 rfl rfl ⟨by decide, by decide⟩ (Nat.le_of_ble_eq_true rfl) dX3_pairsBarred_72 (fun r_p72 σ_p72 h_p72 => ?_)
              obtain ⟨rfl, hσ_p72⟩ := h_p72
              rw [hσ_p72]
              show K σ [(5, .int (C (2 * i + 1))), (4, .int (C (2 * i))), (0, .ref (ad 8)), (1, .int (nI i0)), (2, .int (nI n)), (3, .int (nI i))] [.int (ld_b (0 ≤ (C (2 * i)).toInt ∧ (C (2 * i)).toInt < 100))] 75
              refine ld_ifb_ne O (pc := 75) 81 dX3_pairsBarred_75 (by decide) (fun c8 => ?_) (fun c8 => ?_)
              · refine ld_iload O (pc := 81) 0 dX3_pairsBarred_81 rfl ?_
                refine ld_iconst O (pc := 83) (v := nI 1) dX3_pairsBarred_83 (by decide) ?_
                refine ld_icmp_ne O (pc := 84) (C (2 * i + 1)).toInt 1 rfl (by decide) 98 dX3_pairsBarred_84 (by decide) (fun c9 => ?_) (fun c9 => ?_)
                · have hr_ : ld_rps h C (i + 1) = ld_rp h (C (2 * i)) (C (2 * i + 1)) := by simp only [ld_rps]; exact if_pos hf
                  have hv_ : ld_rp h (C (2 * i)) (C (2 * i + 1)) = nI 0 := by
                    unfold ld_rp
                    repeat' split
                    all_goals first | (exfalso; omega) | rfl
                  refine ld_iincN O (pc := 98) [(3, .int (nI (i + 1))), (5, .int (C (2 * i + 1))), (4, .int (C (2 * i))), (0, .ref (ad 8)), (1, .int (nI i0)), (2, .int (nI n))] 5 dX3_pairsBarred_98 rfl (by decide) rfl ?_
                  refine ld_goto O (pc := 101) 2 dX3_pairsBarred_101 (by decide) ?_
                  refine ld_less O [3, 4, 5, 0] (lv2 := [(0, .ref (ad 8)), (1, .int (nI i0)), (2, .int (nI n)), (3, .int (nI (i + 1)))]) rfl ?_
                  exact ih2 (i + 1) (by omega) (by omega) (by rw [hr_, hv_]; decide)
                · refine ld_aload_n O (pc := 87) 2 dX3_pairsBarred_87 rfl rfl ?_
                  refine ld_iload O (pc := 88) 1 dX3_pairsBarred_88 rfl ?_
                  refine ld_callVi O (pc := 90) (As := [.int (C (2 * i))]) (st := []) ld_recv8 (c_X3_noHouse l ad σ (C (2 * i)) h hh h8) ld_mw_X3_noHouse ld_w194 rfl rfl ⟨by decide, by decide⟩ (Nat.le_of_ble_eq_true rfl) dX3_pairsBarred_90 (fun r_p90 σ_p90 h_p90 => ?_)
                  obtain ⟨rfl, hσ_p90⟩ := h_p90
                  rw [hσ_p90]
                  show K σ [(5, .int (C (2 * i + 1))), (4, .int (C (2 * i))), (0, .ref (ad 8)), (1, .int (nI i0)), (2, .int (nI n)), (3, .int (nI i))] [.int (ld_b (¬ (0 ≤ (C (2 * i)).toInt ∧ (C (2 * i)).toInt < (h : Int))))] 93
                  refine ld_ifb_eq O (pc := 93) 98 dX3_pairsBarred_93 (by decide) (fun c10 => ?_) (fun c10 => ?_)
                  · replace c10 := Classical.byContradiction c10
                    have hr_ : ld_rps h C (i + 1) = ld_rp h (C (2 * i)) (C (2 * i + 1)) := by simp only [ld_rps]; exact if_pos hf
                    have hv_ : ld_rp h (C (2 * i)) (C (2 * i + 1)) = nI 0 := by
                      unfold ld_rp
                      repeat' split
                      all_goals first | (exfalso; omega) | rfl
                    refine ld_iincN O (pc := 98) [(3, .int (nI (i + 1))), (5, .int (C (2 * i + 1))), (4, .int (C (2 * i))), (0, .ref (ad 8)), (1, .int (nI i0)), (2, .int (nI n))] 5 dX3_pairsBarred_98 rfl (by decide) rfl ?_
                    refine ld_goto O (pc := 101) 2 dX3_pairsBarred_101 (by decide) ?_
                    refine ld_less O [3, 4, 5, 0] (lv2 := [(0, .ref (ad 8)), (1, .int (nI i0)), (2, .int (nI n)), (3, .int (nI (i + 1)))]) rfl ?_
                    exact ih2 (i + 1) (by omega) (by omega) (by rw [hr_, hv_]; decide)
                  · refine ld_iconst O (pc := 96) (v := (-1 : Int32)) dX3_pairsBarred_96 (by decide) ?_
                    refine ld_ireti E dX3_pairsBarred_97 ?_
                    have hr_ : ld_rps h C (i + 1) = ld_rp h (C (2 * i)) (C (2 * i + 1)) := by simp only [ld_rps]; exact if_pos hf
                    have hv_ : ld_rp h (C (2 * i)) (C (2 * i + 1)) = (-1 : Int32) := by
                      unfold ld_rp
                      repeat' split
                      all_goals first | (exfalso; omega) | rfl
                    refine ⟨?_, rfl⟩
                    rw [ld_rps_stop (n := i + 1) (by rw [hr_, hv_]; decide) (by omega), hr_, hv_]
              · refine ld_bipush O (pc := 78) (v := (-2 : Int32)) dX3_pairsBarred_78 (by decide) ?_
                refine ld_ireti E dX3_pairsBarred_80 ?_
                have hr_ : ld_rps h C (i + 1) = ld_rp h (C (2 * i)) (C (2 * i + 1)) := by simp only [ld_rps]; exact if_pos hf
                have hv_ : ld_rp h (C (2 * i)) (C (2 * i + 1)) = (-2 : Int32) := by
                  unfold ld_rp
                  repeat' split
                  all_goals first | (exfalso; omega) | rfl
                refine ⟨?_, rfl⟩
                rw [ld_rps_stop (n := i + 1) (by rw [hr_, hv_]; decide) (by omega), hr_, hv_]
          · refine ld_iload O (pc := 51) 1 dX3_pairsBarred_51 rfl ?_
            have hl11 : ((C (2 * i)).toInt64).toInt = (C (2 * i)).toInt := (Int32.toInt_toInt64 _).trans rfl
            refine ld_i2l O (pc := 53) dX3_pairsBarred_53 ?_
            refine ld_lconst O (pc := 54) (v := (0 : Int64)) dX3_pairsBarred_54 (by decide) ?_
            refine ld_ldc2 O (pc := 55) (v := (9 : Int64)) dX3_pairsBarred_55 ld_w159 ?_
            refine ld_callSi O (pc := 58) (As := [.long ((C (2 * i)).toInt64), .long (0 : Int64), .long (9 : Int64)]) (st := []) (c_X3_in l ad σ ((C (2 * i)).toInt64) (0 : Int64) (9 : Int64) ((C (2 * i)).toInt) 0 (9) hl11 (by decide) (by decide)) ld_mw_X3_in ld_w128 rfl rfl ⟨by decide, by decide⟩ (Nat.le_of_ble_eq_true rfl) dX3_pairsBarred_58 (fun r_p58 σ_p58 h_p58 => ?_)
            obtain ⟨rfl, hσ_p58⟩ := h_p58
            rw [hσ_p58]
            show K σ [(5, .int (C (2 * i + 1))), (4, .int (C (2 * i))), (0, .ref (ad 8)), (1, .int (nI i0)), (2, .int (nI n)), (3, .int (nI i))] [.int (ld_b (0 ≤ (C (2 * i)).toInt ∧ (C (2 * i)).toInt ≤ (9)))] 61
            refine ld_ifb_eq O (pc := 61) 78 dX3_pairsBarred_61 (by decide) (fun c12 => ?_) (fun c12 => ?_)
            · refine ld_bipush O (pc := 78) (v := (-2 : Int32)) dX3_pairsBarred_78 (by decide) ?_
              refine ld_ireti E dX3_pairsBarred_80 ?_
              have hr_ : ld_rps h C (i + 1) = ld_rp h (C (2 * i)) (C (2 * i + 1)) := by simp only [ld_rps]; exact if_pos hf
              have hv_ : ld_rp h (C (2 * i)) (C (2 * i + 1)) = (-2 : Int32) := by
                unfold ld_rp
                repeat' split
                all_goals first | (exfalso; omega) | rfl
              refine ⟨?_, rfl⟩
              rw [ld_rps_stop (n := i + 1) (by rw [hr_, hv_]; decide) (by omega), hr_, hv_]
            · refine ld_iload O (pc := 64) 0 dX3_pairsBarred_64 rfl ?_
              refine ld_iconst O (pc := 66) (v := nI 2) dX3_pairsBarred_66 (by decide) ?_
              refine ld_icmp_ne O (pc := 67) (C (2 * i + 1)).toInt 2 rfl (by decide) 81 dX3_pairsBarred_67 (by decide) (fun c13 => ?_) (fun c13 => ?_)
              · refine ld_iload O (pc := 81) 0 dX3_pairsBarred_81 rfl ?_
                refine ld_iconst O (pc := 83) (v := nI 1) dX3_pairsBarred_83 (by decide) ?_
                refine ld_icmp_ne O (pc := 84) (C (2 * i + 1)).toInt 1 rfl (by decide) 98 dX3_pairsBarred_84 (by decide) (fun c14 => ?_) (fun c14 => ?_)
                · have hr_ : ld_rps h C (i + 1) = ld_rp h (C (2 * i)) (C (2 * i + 1)) := by simp only [ld_rps]; exact if_pos hf
                  have hv_ : ld_rp h (C (2 * i)) (C (2 * i + 1)) = nI 0 := by
                    unfold ld_rp
                    repeat' split
                    all_goals first | (exfalso; omega) | rfl
                  refine ld_iincN O (pc := 98) [(3, .int (nI (i + 1))), (5, .int (C (2 * i + 1))), (4, .int (C (2 * i))), (0, .ref (ad 8)), (1, .int (nI i0)), (2, .int (nI n))] 5 dX3_pairsBarred_98 rfl (by decide) rfl ?_
                  refine ld_goto O (pc := 101) 2 dX3_pairsBarred_101 (by decide) ?_
                  refine ld_less O [3, 4, 5, 0] (lv2 := [(0, .ref (ad 8)), (1, .int (nI i0)), (2, .int (nI n)), (3, .int (nI (i + 1)))]) rfl ?_
                  exact ih2 (i + 1) (by omega) (by omega) (by rw [hr_, hv_]; decide)
                · refine ld_aload_n O (pc := 87) 2 dX3_pairsBarred_87 rfl rfl ?_
                  refine ld_iload O (pc := 88) 1 dX3_pairsBarred_88 rfl ?_
                  refine ld_callVi O (pc := 90) (As := [.int (C (2 * i))]) (st := []) ld_recv8 (c_X3_noHouse l ad σ (C (2 * i)) h hh h8) ld_mw_X3_noHouse ld_w194 rfl rfl ⟨by decide, by decide⟩ (Nat.le_of_ble_eq_true rfl) dX3_pairsBarred_90 (fun r_p90 σ_p90 h_p90 => ?_)
                  obtain ⟨rfl, hσ_p90⟩ := h_p90
                  rw [hσ_p90]
                  show K σ [(5, .int (C (2 * i + 1))), (4, .int (C (2 * i))), (0, .ref (ad 8)), (1, .int (nI i0)), (2, .int (nI n)), (3, .int (nI i))] [.int (ld_b (¬ (0 ≤ (C (2 * i)).toInt ∧ (C (2 * i)).toInt < (h : Int))))] 93
                  refine ld_ifb_eq O (pc := 93) 98 dX3_pairsBarred_93 (by decide) (fun c15 => ?_) (fun c15 => ?_)
                  · replace c15 := Classical.byContradiction c15
                    have hr_ : ld_rps h C (i + 1) = ld_rp h (C (2 * i)) (C (2 * i + 1)) := by simp only [ld_rps]; exact if_pos hf
                    have hv_ : ld_rp h (C (2 * i)) (C (2 * i + 1)) = nI 0 := by
                      unfold ld_rp
                      repeat' split
                      all_goals first | (exfalso; omega) | rfl
                    refine ld_iincN O (pc := 98) [(3, .int (nI (i + 1))), (5, .int (C (2 * i + 1))), (4, .int (C (2 * i))), (0, .ref (ad 8)), (1, .int (nI i0)), (2, .int (nI n))] 5 dX3_pairsBarred_98 rfl (by decide) rfl ?_
                    refine ld_goto O (pc := 101) 2 dX3_pairsBarred_101 (by decide) ?_
                    refine ld_less O [3, 4, 5, 0] (lv2 := [(0, .ref (ad 8)), (1, .int (nI i0)), (2, .int (nI n)), (3, .int (nI (i + 1)))]) rfl ?_
                    exact ih2 (i + 1) (by omega) (by omega) (by rw [hr_, hv_]; decide)
                  · refine ld_iconst O (pc := 96) (v := (-1 : Int32)) dX3_pairsBarred_96 (by decide) ?_
                    refine ld_ireti E dX3_pairsBarred_97 ?_
                    have hr_ : ld_rps h C (i + 1) = ld_rp h (C (2 * i)) (C (2 * i + 1)) := by simp only [ld_rps]; exact if_pos hf
                    have hv_ : ld_rp h (C (2 * i)) (C (2 * i + 1)) = (-1 : Int32) := by
                      unfold ld_rp
                      repeat' split
                      all_goals first | (exfalso; omega) | rfl
                    refine ⟨?_, rfl⟩
                    rw [ld_rps_stop (n := i + 1) (by rw [hr_, hv_]; decide) (by omega), hr_, hv_]
              · refine ld_iload O (pc := 70) 1 dX3_pairsBarred_70 rfl ?_
                refine ld_callSi O (pc := 72) (As := [.int (C (2 * i))]) (st := []) (c_X3_isCrate l ad σ (C (2 * i))) ld_mw_X3_isCrate ld_w240 rfl rfl ⟨by decide, by decide⟩ (Nat.le_of_ble_eq_true rfl) dX3_pairsBarred_72 (fun r_p72 σ_p72 h_p72 => ?_)
                obtain ⟨rfl, hσ_p72⟩ := h_p72
                rw [hσ_p72]
                show K σ [(5, .int (C (2 * i + 1))), (4, .int (C (2 * i))), (0, .ref (ad 8)), (1, .int (nI i0)), (2, .int (nI n)), (3, .int (nI i))] [.int (ld_b (0 ≤ (C (2 * i)).toInt ∧ (C (2 * i)).toInt < 100))] 75
                refine ld_ifb_ne O (pc := 75) 81 dX3_pairsBarred_75 (by decide) (fun c16 => ?_) (fun c16 => ?_)
                · refine ld_iload O (pc := 81) 0 dX3_pairsBarred_81 rfl ?_
                  refine ld_iconst O (pc := 83) (v := nI 1) dX3_pairsBarred_83 (by decide) ?_
                  refine ld_icmp_ne O (pc := 84) (C (2 * i + 1)).toInt 1 rfl (by decide) 98 dX3_pairsBarred_84 (by decide) (fun c17 => ?_) (fun c17 => ?_)
                  · have hr_ : ld_rps h C (i + 1) = ld_rp h (C (2 * i)) (C (2 * i + 1)) := by simp only [ld_rps]; exact if_pos hf
                    have hv_ : ld_rp h (C (2 * i)) (C (2 * i + 1)) = nI 0 := by
                      unfold ld_rp
                      repeat' split
                      all_goals first | (exfalso; omega) | rfl
                    refine ld_iincN O (pc := 98) [(3, .int (nI (i + 1))), (5, .int (C (2 * i + 1))), (4, .int (C (2 * i))), (0, .ref (ad 8)), (1, .int (nI i0)), (2, .int (nI n))] 5 dX3_pairsBarred_98 rfl (by decide) rfl ?_
                    refine ld_goto O (pc := 101) 2 dX3_pairsBarred_101 (by decide) ?_
                    refine ld_less O [3, 4, 5, 0] (lv2 := [(0, .ref (ad 8)), (1, .int (nI i0)), (2, .int (nI n)), (3, .int (nI (i + 1)))]) rfl ?_
                    exact ih2 (i + 1) (by omega) (by omega) (by rw [hr_, hv_]; decide)
                  · refine ld_aload_n O (pc := 87) 2 dX3_pairsBarred_87 rfl rfl ?_
                    refine ld_iload O (pc := 88) 1 dX3_pairsBarred_88 rfl ?_
                    refine ld_callVi O (pc := 90) (As := [.int (C (2 * i))]) (st := []) ld_recv8 (c_X3_noHouse l ad σ (C (2 * i)) h hh h8) ld_mw_X3_noHouse ld_w194 rfl rfl ⟨by decide, by decide⟩ (Nat.le_of_ble_eq_true rfl) dX3_pairsBarred_90 (fun r_p90 σ_p90 h_p90 => ?_)
                    obtain ⟨rfl, hσ_p90⟩ := h_p90
                    rw [hσ_p90]
                    show K σ [(5, .int (C (2 * i + 1))), (4, .int (C (2 * i))), (0, .ref (ad 8)), (1, .int (nI i0)), (2, .int (nI n)), (3, .int (nI i))] [.int (ld_b (¬ (0 ≤ (C (2 * i)).toInt ∧ (C (2 * i)).toInt < (h : Int))))] 93
                    refine ld_ifb_eq O (pc := 93) 98 dX3_pairsBarred_93 (by decide) (fun c18 => ?_) (fun c18 => ?_)
                    · replace c18 := Classical.byContradiction c18
                      have hr_ : ld_rps h C (i + 1) = ld_rp h (C (2 * i)) (C (2 * i + 1)) := by simp only [ld_rps]; exact if_pos hf
                      have hv_ : ld_rp h (C (2 * i)) (C (2 * i + 1)) = nI 0 := by
                        unfold ld_rp
                        repeat' split
                        all_goals first | (exfalso; omega) | rfl
                      refine ld_iincN O (pc := 98) [(3, .int (nI (i + 1))), (5, .int (C (2 * i + 1))), (4, .int (C (2 * i))), (0, .ref (ad 8)), (1, .int (nI i0)), (2, .int (nI n))] 5 dX3_pairsBarred_98 rfl (by decide) rfl ?_
                      refine ld_goto O (pc := 101) 2 dX3_pairsBarred_101 (by decide) ?_
                      refine ld_less O [3, 4, 5, 0] (lv2 := [(0, .ref (ad 8)), (1, .int (nI i0)), (2, .int (nI n)), (3, .int (nI (i + 1)))]) rfl ?_
                      exact ih2 (i + 1) (by omega) (by omega) (by rw [hr_, hv_]; decide)
                    · refine ld_iconst O (pc := 96) (v := (-1 : Int32)) dX3_pairsBarred_96 (by decide) ?_
                      refine ld_ireti E dX3_pairsBarred_97 ?_
                      have hr_ : ld_rps h C (i + 1) = ld_rp h (C (2 * i)) (C (2 * i + 1)) := by simp only [ld_rps]; exact if_pos hf
                      have hv_ : ld_rp h (C (2 * i)) (C (2 * i + 1)) = (-1 : Int32) := by
                        unfold ld_rp
                        repeat' split
                        all_goals first | (exfalso; omega) | rfl
                      refine ⟨?_, rfl⟩
                      rw [ld_rps_stop (n := i + 1) (by rw [hr_, hv_]; decide) (by omega), hr_, hv_]
                · refine ld_bipush O (pc := 78) (v := (-2 : Int32)) dX3_pairsBarred_78 (by decide) ?_
                  refine ld_ireti E dX3_pairsBarred_80 ?_
                  have hr_ : ld_rps h C (i + 1) = ld_rp h (C (2 * i)) (C (2 * i + 1)) := by simp only [ld_rps]; exact if_pos hf
                  have hv_ : ld_rp h (C (2 * i)) (C (2 * i + 1)) = (-2 : Int32) := by
                    unfold ld_rp
                    repeat' split
                    all_goals first | (exfalso; omega) | rfl
                  refine ⟨?_, rfl⟩
                  rw [ld_rps_stop (n := i + 1) (by rw [hr_, hv_]; decide) (by omega), hr_, hv_]
  refine ld_less O [1, 2, 3, 0] (lv2 := [(0, .ref (ad 8)), (1, .int (nI i0)), (2, .int (nI n)), (3, .int (nI 0))]) rfl ?_
  exact L2 _ 0 (Nat.lt_succ_self _) (Nat.zero_le _) (by show (nI 0).toInt = 0; decide)
