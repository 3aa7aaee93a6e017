theorem ld_iastF {l : Launch} {K : ld_St → List (Nat × Value) → List Value → Nat → Prop} {ad : Nat → Nat} {cc : ByteArray} {nL : Nat} {own : String} {R : Room} {σ : ld_St} {lv : List (Nat × Value)} {st : List Value} {pc : Nat} (O : ld_Ok l K ad cc nL own R) (a j : Nat) {i v : Int32} (f : Nat → Int32) (hf : σ a = f) (hi : i = nI j) (ha : a < 38) (hj : j < ld_len a) (hd : decode cc pc = .ok (.iastore, 1)) (k : K (us σ a (upd f j v)) lv st (pc + 1)) : K σ lv (.int v :: .int i :: .ref (ad (9 + a)) :: st) pc := ld_iast O a j hi ha hj hd (by rw [hf]; exact k)
set_option maxHeartbeats 4000000 in
set_option maxRecDepth 100000 in
theorem c_X1_becomeLike (l : Launch) (ad : Nat → Nat) (σ : ld_St) (h : Nat) (hh : σ 110 0 = nI h) (h8 : h ≤ 8) : ld_Ctr l yX1_becomeLike cX1_becomeLike 3 none (0, 0) [.ref (ad 2), .ref (ad 1)] ad σ (ld_V (fun (σ2 : ld_St) => ∃ k7 k8 k9 k10 : Nat → Int32, σ2 = us (us (us (us (us (us (us (us σ 120 (fun _ => nI h)) 121 (fun _ => σ 111 0)) 122 (fun _ => σ 112 0)) 123 (fun _ => nI 0)) 7 k7) 8 k8) 9 k9) 10 k10 ∧ ∀ x, x < h → k7 x = σ 0 x ∧ k8 x = σ 1 x ∧ k9 x = σ 2 x ∧ k10 x = σ 3 x)) := by
  refine ld_entry (by decide +kernel) (Nat.le_of_ble_eq_true rfl) (fun K O E => ?_)
  have O : ld_Ok l K ad cX1_becomeLike 3 RX1 (ld_rm (0, 0)) := O
  show K σ [(0, .ref (ad 2)), (1, .ref (ad 1))] [] 0
  refine ld_aload_n O (pc := 0) 0 dX1_becomeLike_0 rfl rfl ?_
  refine ld_aload_n O (pc := 1) 1 dX1_becomeLike_1 rfl rfl ?_
  refine ld_g_now_houses O (pc := 2) (v := nI h) ld_w30 hh dX1_becomeLike_2 ?_
  refine ld_p_trial_houses O (pc := 5) ld_w30 dX1_becomeLike_5 ?_
  refine ld_aload_n O (pc := 8) 0 dX1_becomeLike_8 rfl rfl ?_
  refine ld_aload_n O (pc := 9) 1 dX1_becomeLike_9 rfl rfl ?_
  refine ld_g_now_crate O (pc := 10) (v := σ 111 0) ld_w31 rfl dX1_becomeLike_10 ?_
  refine ld_p_trial_crate O (pc := 13) ld_w31 dX1_becomeLike_13 ?_
  refine ld_aload_n O (pc := 16) 0 dX1_becomeLike_16 rfl rfl ?_
  refine ld_aload_n O (pc := 17) 1 dX1_becomeLike_17 rfl rfl ?_
  refine ld_g_now_week O (pc := 18) (v := σ 112 0) ld_w32 rfl dX1_becomeLike_18 ?_
  refine ld_p_trial_week O (pc := 21) ld_w32 dX1_becomeLike_21 ?_
  refine ld_aload_n O (pc := 24) 0 dX1_becomeLike_24 rfl rfl ?_
  refine ld_iconst O (pc := 25) (v := nI 0) dX1_becomeLike_25 (by decide) ?_
  refine ld_p_trial_leanWeeks O (pc := 26) ld_w33 dX1_becomeLike_26 ?_
  refine ld_iconst O (pc := 29) (v := nI 0) dX1_becomeLike_29 (by decide) ?_
  refine ld_istore_n O (pc := 30) [(2, .int (nI 0)), (0, .ref (ad 2)), (1, .ref (ad 1))] dX1_becomeLike_30 rfl (by decide) rfl ?_
  have L31 : ∀ (m_31 : Nat) (i : Nat) (k7 : Nat → Int32) (k8 : Nat → Int32) (k9 : Nat → Int32) (k10 : Nat → Int32), h - i < m_31 → (i ≤ h) → (∀ x, x < i → k7 x = σ 0 x) → (∀ x, x < i → k8 x = σ 1 x) → (∀ x, x < i → k9 x = σ 2 x) → (∀ x, x < i → k10 x = σ 3 x) → K (us (us (us (us (us (us (us (us σ 120 (fun _ => nI h)) 121 (fun _ => σ 111 0)) 122 (fun _ => σ 112 0)) 123 (fun _ => nI 0)) 7 k7) 8 k8) 9 k9) 10 k10) [(0, .ref (ad 2)), (1, .ref (ad 1)), (2, .int (nI i))] [] 31 := by
    intro m_31
    induction m_31 with
    | zero => intro i k7 k8 k9 k10 hm_; exact absurd hm_ (Nat.not_lt_zero _)
    | succ m_31 ih31 =>
      intro i k7 k8 k9 k10 hm_31 hi e7 e8 e9 e10
      refine ld_iload_n O (pc := 31) 2 dX1_becomeLike_31 rfl rfl ?_
      refine ld_aload_n O (pc := 32) 0 dX1_becomeLike_32 rfl rfl ?_
      refine ld_g_trial_houses O (pc := 33) (v := nI h) ld_w30 rfl dX1_becomeLike_33 ?_
      refine ld_icmp_ge O (pc := 36) ((i : Nat) : Int) ((h : Nat) : Int) (nI_toInt (by omega)) (nI_toInt (by omega)) 93 dX1_becomeLike_36 (by decide) (fun c1 => ?_) (fun c1 => ?_)
      · refine ld_vret E dX1_becomeLike_93 ?_
        have ei : i = h := by omega
        rw [ei] at e7 e8 e9 e10
        exact ⟨k7, k8, k9, k10, rfl, fun x hx => ⟨e7 x hx, e8 x hx, e9 x hx, e10 x hx⟩⟩
      · refine ld_aload_n O (pc := 39) 0 dX1_becomeLike_39 rfl rfl ?_
        refine ld_g_trial_kind O (pc := 40) ld_w34 dX1_becomeLike_40 ?_
        refine ld_iload_n O (pc := 43) 2 dX1_becomeLike_43 rfl rfl ?_
        refine ld_aload_n O (pc := 44) 1 dX1_becomeLike_44 rfl rfl ?_
        refine ld_g_now_kind O (pc := 45) ld_w34 dX1_becomeLike_45 ?_
        refine ld_iload_n O (pc := 48) 2 dX1_becomeLike_48 rfl rfl ?_
        refine ld_iald O (pc := 49) 0 i (v := σ 0 i) rfl (by decide) (show i < 8 by omega) rfl dX1_becomeLike_49 ?_
        refine ld_iast O (pc := 50) 7 i rfl (by decide) (show i < 8 by omega) dX1_becomeLike_50 ?_
        refine ld_aload_n O (pc := 51) 0 dX1_becomeLike_51 rfl rfl ?_
        refine ld_g_trial_temper O (pc := 52) ld_w35 dX1_becomeLike_52 ?_
        refine ld_iload_n O (pc := 55) 2 dX1_becomeLike_55 rfl rfl ?_
        refine ld_aload_n O (pc := 56) 1 dX1_becomeLike_56 rfl rfl ?_
        refine ld_g_now_temper O (pc := 57) ld_w35 dX1_becomeLike_57 ?_
        refine ld_iload_n O (pc := 60) 2 dX1_becomeLike_60 rfl rfl ?_
        refine ld_iald O (pc := 61) 1 i (v := σ 1 i) rfl (by decide) (show i < 8 by omega) rfl dX1_becomeLike_61 ?_
        refine ld_iast O (pc := 62) 8 i rfl (by decide) (show i < 8 by omega) dX1_becomeLike_62 ?_
        refine ld_aload_n O (pc := 63) 0 dX1_becomeLike_63 rfl rfl ?_
        refine ld_g_trial_stock O (pc := 64) ld_w36 dX1_becomeLike_64 ?_
        refine ld_iload_n O (pc := 67) 2 dX1_becomeLike_67 rfl rfl ?_
        refine ld_aload_n O (pc := 68) 1 dX1_becomeLike_68 rfl rfl ?_
        refine ld_g_now_stock O (pc := 69) ld_w36 dX1_becomeLike_69 ?_
        refine ld_iload_n O (pc := 72) 2 dX1_becomeLike_72 rfl rfl ?_
        refine ld_iald O (pc := 73) 2 i (v := σ 2 i) rfl (by decide) (show i < 8 by omega) rfl dX1_becomeLike_73 ?_
        refine ld_iast O (pc := 74) 9 i rfl (by decide) (show i < 8 by omega) dX1_becomeLike_74 ?_
        refine ld_aload_n O (pc := 75) 0 dX1_becomeLike_75 rfl rfl ?_
        refine ld_g_trial_pips O (pc := 76) ld_w37 dX1_becomeLike_76 ?_
        refine ld_iload_n O (pc := 79) 2 dX1_becomeLike_79 rfl rfl ?_
        refine ld_aload_n O (pc := 80) 1 dX1_becomeLike_80 rfl rfl ?_
        refine ld_g_now_pips O (pc := 81) ld_w37 dX1_becomeLike_81 ?_
        refine ld_iload_n O (pc := 84) 2 dX1_becomeLike_84 rfl rfl ?_
        refine ld_iald O (pc := 85) 3 i (v := σ 3 i) rfl (by decide) (show i < 8 by omega) rfl dX1_becomeLike_85 ?_
        refine ld_iast O (pc := 86) 10 i rfl (by decide) (show i < 8 by omega) dX1_becomeLike_86 ?_
        refine ld_iincN O (pc := 87) [(2, .int (nI (i + 1))), (0, .ref (ad 2)), (1, .ref (ad 1))] 2 dX1_becomeLike_87 rfl (by decide) rfl ?_
        refine ld_goto O (pc := 90) 31 dX1_becomeLike_90 (by decide) ?_
        refine ld_less O [1, 2, 0] (lv2 := [(0, .ref (ad 2)), (1, .ref (ad 1)), (2, .int (nI (i + 1)))]) rfl ?_
        have hs2 : us (us (us (us (us (us (us (us (us (us (us (us σ 120 (fun _ => nI h)) 121 (fun _ => σ 111 0)) 122 (fun _ => σ 112 0)) 123 (fun _ => nI 0)) 7 k7) 8 k8) 9 k9) 10 k10) 7 (upd (k7) i (σ 0 i))) 8 (upd (k8) i (σ 1 i))) 9 (upd (k9) i (σ 2 i))) 10 (upd (k10) i (σ 3 i)) = us (us (us (us (us (us (us (us σ 120 (fun _ => nI h)) 121 (fun _ => σ 111 0)) 122 (fun _ => σ 112 0)) 123 (fun _ => nI 0)) 7 (upd (k7) i (σ 0 i))) 8 (upd (k8) i (σ 1 i))) 9 (upd (k9) i (σ 2 i))) 10 (upd (k10) i (σ 3 i)) := by
          funext b_
          by_cases h0_ : b_ = 120
          · subst h0_; rfl
          by_cases h1_ : b_ = 121
          · subst h1_; rfl
          by_cases h2_ : b_ = 122
          · subst h2_; rfl
          by_cases h3_ : b_ = 123
          · subst h3_; rfl
          by_cases h4_ : b_ = 7
          · subst h4_; rfl
          by_cases h5_ : b_ = 8
          · subst h5_; rfl
          by_cases h6_ : b_ = 9
          · subst h6_; rfl
          by_cases h7_ : b_ = 10
          · subst h7_; rfl
          simp only [us, h0_, h1_, h2_, h3_, h4_, h5_, h6_, h7_, if_false]
        refine ld_cv hs2 ?_
        exact ih31 (i + 1) (upd (k7) i (σ 0 i)) (upd (k8) i (σ 1 i)) (upd (k9) i (σ 2 i)) (upd (k10) i (σ 3 i)) (by omega) (by omega) (ld_ext e7 rfl) (ld_ext e8 rfl) (ld_ext e9 rfl) (ld_ext e10 rfl)
  refine ld_less O [1, 2, 0] (lv2 := [(0, .ref (ad 2)), (1, .ref (ad 1)), (2, .int (nI 0))]) rfl ?_
  have hs3 : us (us (us (us σ 120 (fun _ => nI h)) 121 (fun _ => σ 111 0)) 122 (fun _ => σ 112 0)) 123 (fun _ => nI 0) = us (us (us (us (us (us (us (us σ 120 (fun _ => nI h)) 121 (fun _ => σ 111 0)) 122 (fun _ => σ 112 0)) 123 (fun _ => nI 0)) 7 (σ 7)) 8 (σ 8)) 9 (σ 9)) 10 (σ 10) := by
    funext b_
    by_cases h0_ : b_ = 120
    · subst h0_; rfl
    by_cases h1_ : b_ = 121
    · subst h1_; rfl
    by_cases h2_ : b_ = 122
    · subst h2_; rfl
    by_cases h3_ : b_ = 123
    · subst h3_; rfl
    by_cases h4_ : b_ = 7
    · subst h4_; rfl
    by_cases h5_ : b_ = 8
    · subst h5_; rfl
    by_cases h6_ : b_ = 9
    · subst h6_; rfl
    by_cases h7_ : b_ = 10
    · subst h7_; rfl
    simp only [us, h0_, h1_, h2_, h3_, h4_, h5_, h6_, h7_, if_false]
  refine ld_cv hs3 ?_
  exact L31 _ 0 (σ 7) (σ 8) (σ 9) (σ 10) (Nat.lt_succ_self _) (Nat.zero_le _) (fun x hx => absurd hx (Nat.not_lt_zero x)) (fun x hx => absurd hx (Nat.not_lt_zero x)) (fun x hx => absurd hx (Nat.not_lt_zero x)) (fun x hx => absurd hx (Nat.not_lt_zero x))
set_option maxHeartbeats 4000000 in
set_option maxRecDepth 100000 in
theorem c_X1_isAhead (l : Launch) (ad : Nat → Nat) (σ : ld_St) (k : Nat) (hk : k < 8) (o : Nat) (ho : o < 8) : ld_Ctr l yX1_isAheadOneByOne cX1_isAheadOneByOne 3 (some .boolean) (0, 0) [.ref (ad 1), .int (nI k), .int (nI o)] ad σ (ld_I (fun (r : Int32) (σ2 : ld_St) => r = ld_b (ld_ao (σ 4) (σ 5) k o) ∧ σ2 = σ)) := by
  refine ld_entry (by decide +kernel) (Nat.le_of_ble_eq_true rfl) (fun K O E => ?_)
  have O : ld_Ok l K ad cX1_isAheadOneByOne 3 RX1 (ld_rm (0, 0)) := O
  show K σ [(0, .ref (ad 1)), (1, .int (nI k)), (2, .int (nI o))] [] 0
  refine ld_aload_n O (pc := 0) 0 dX1_isAheadOneByOne_0 rfl rfl ?_
  refine ld_g_now_sour O (pc := 1) ld_w38 dX1_isAheadOneByOne_1 ?_
  refine ld_iload_n O (pc := 4) 1 dX1_isAheadOneByOne_4 rfl rfl ?_
  refine ld_iald O (pc := 5) 4 k (v := σ 4 k) rfl (by decide) (show k < 8 by omega) rfl dX1_isAheadOneByOne_5 ?_
  refine ld_aload_n O (pc := 6) 0 dX1_isAheadOneByOne_6 rfl rfl ?_
  refine ld_g_now_dealt O (pc := 7) ld_w39 dX1_isAheadOneByOne_7 ?_
  refine ld_iload_n O (pc := 10) 2 dX1_isAheadOneByOne_10 rfl rfl ?_
  refine ld_iald O (pc := 11) 5 o (v := σ 5 o) rfl (by decide) (show o < 8 by omega) rfl dX1_isAheadOneByOne_11 ?_
  refine ld_iconst O (pc := 12) (v := nI 1) dX1_isAheadOneByOne_12 (by decide) ?_
  refine ld_iadd O (pc := 13) dX1_isAheadOneByOne_13 ?_
  refine ld_imul O (pc := 14) dX1_isAheadOneByOne_14 ?_
  refine ld_aload_n O (pc := 15) 0 dX1_isAheadOneByOne_15 rfl rfl ?_
  refine ld_g_now_sour O (pc := 16) ld_w38 dX1_isAheadOneByOne_16 ?_
  refine ld_iload_n O (pc := 19) 2 dX1_isAheadOneByOne_19 rfl rfl ?_
  refine ld_iald O (pc := 20) 4 o (v := σ 4 o) rfl (by decide) (show o < 8 by omega) rfl dX1_isAheadOneByOne_20 ?_
  refine ld_aload_n O (pc := 21) 0 dX1_isAheadOneByOne_21 rfl rfl ?_
  refine ld_g_now_dealt O (pc := 22) ld_w39 dX1_isAheadOneByOne_22 ?_
  refine ld_iload_n O (pc := 25) 1 dX1_isAheadOneByOne_25 rfl rfl ?_
  refine ld_iald O (pc := 26) 5 k (v := σ 5 k) rfl (by decide) (show k < 8 by omega) rfl dX1_isAheadOneByOne_26 ?_
  refine ld_iconst O (pc := 27) (v := nI 1) dX1_isAheadOneByOne_27 (by decide) ?_
  refine ld_iadd O (pc := 28) dX1_isAheadOneByOne_28 ?_
  refine ld_imul O (pc := 29) dX1_isAheadOneByOne_29 ?_
  refine ld_icmp_le O (pc := 30) ((σ 4 k) * ((σ 5 o) + (nI 1))).toInt ((σ 4 o) * ((σ 5 k) + (nI 1))).toInt rfl rfl 37 dX1_isAheadOneByOne_30 (by decide) (fun c1 => ?_) (fun c1 => ?_)
  · refine ld_iconst O (pc := 37) (v := nI 0) dX1_isAheadOneByOne_37 (by decide) ?_
    refine ld_iretz E (Or.inl rfl) dX1_isAheadOneByOne_38 ?_
    exact ⟨(ld_b_f (by unfold ld_ao; omega)).symm, rfl⟩
  · refine ld_iconst O (pc := 33) (v := nI 1) dX1_isAheadOneByOne_33 (by decide) ?_
    refine ld_goto O (pc := 34) 38 dX1_isAheadOneByOne_34 (by decide) ?_
    refine ld_iretz E (Or.inr rfl) dX1_isAheadOneByOne_38 ?_
    exact ⟨(ld_b_t (by unfold ld_ao; omega)).symm, rfl⟩
set_option maxHeartbeats 4000000 in
set_option maxRecDepth 100000 in
theorem c_X1_next (l : Launch) (ad : Nat → Nat) (σ : ld_St) (h : Nat) (hh : σ 110 0 = nI h) (h8 : h ≤ 8) : ld_Ctr l yX1_nextOneByOne cX1_nextOneByOne 3 (some .int) (1, 22) [.ref (ad 1)] ad σ (ld_I (fun (r : Int32) (σ2 : ld_St) => r = ld_nv (ld_nx (σ 4) (σ 5) h) ∧ σ2 = σ)) := by
  refine ld_entry (by decide +kernel) (Nat.le_of_ble_eq_true rfl) (fun K O E => ?_)
  have O : ld_Ok l K ad cX1_nextOneByOne 3 RX1 (ld_rm (1, 22)) := O
  show K σ [(0, .ref (ad 1))] [] 0
  refine ld_bipush O (pc := 0) (v := (-9 : Int32)) dX1_nextOneByOne_0 (by decide) ?_
  refine ld_istore_n O (pc := 2) [(1, .int (-9 : Int32)), (0, .ref (ad 1))] dX1_nextOneByOne_2 rfl (by decide) rfl ?_
  refine ld_iconst O (pc := 3) (v := nI 0) dX1_nextOneByOne_3 (by decide) ?_
  refine ld_istore_n O (pc := 4) [(2, .int (nI 0)), (1, .int (-9 : Int32)), (0, .ref (ad 1))] dX1_nextOneByOne_4 rfl (by decide) rfl ?_
  have L5 : ∀ (m_5 : Nat) (i : Nat) (o : Option Nat), h - i < m_5 → (i ≤ h) → (o = ld_nx (σ 4) (σ 5) i) → K σ [(0, .ref (ad 1)), (1, .int (ld_nv o)), (2, .int (nI i))] [] 5 := by
    intro m_5
    induction m_5 with
    | zero => intro i o hm_; exact absurd hm_ (Nat.not_lt_zero _)
    | succ m_5 ih5 =>
      intro i o hm_5 hi ho
      refine ld_iload_n O (pc := 5) 2 dX1_nextOneByOne_5 rfl rfl ?_
      refine ld_aload_n O (pc := 6) 0 dX1_nextOneByOne_6 rfl rfl ?_
      refine ld_g_now_houses O (pc := 7) (v := nI h) ld_w30 hh dX1_nextOneByOne_7 ?_
      refine ld_icmp_ge O (pc := 10) ((i : Nat) : Int) ((h : Nat) : Int) (nI_toInt (by omega)) (nI_toInt (by omega)) 45 dX1_nextOneByOne_10 (by decide) (fun c1 => ?_) (fun c1 => ?_)
      · refine ld_iload_n O (pc := 45) 1 dX1_nextOneByOne_45 rfl rfl ?_
        refine ld_ireti E dX1_nextOneByOne_46 ?_
        exact ⟨by rw [ho, show i = h by omega], rfl⟩
      · refine ld_aload_n O (pc := 13) 0 dX1_nextOneByOne_13 rfl rfl ?_
        refine ld_g_now_sour O (pc := 14) ld_w38 dX1_nextOneByOne_14 ?_
        refine ld_iload_n O (pc := 17) 2 dX1_nextOneByOne_17 rfl rfl ?_
        refine ld_iald O (pc := 18) 4 i (v := σ 4 i) rfl (by decide) (show i < 8 by omega) rfl dX1_nextOneByOne_18 ?_
        refine ld_if_le O (pc := 19) (σ 4 i).toInt rfl 39 dX1_nextOneByOne_19 (by decide) (fun c2 => ?_) (fun c2 => ?_)
        · refine ld_iincN O (pc := 39) [(2, .int (nI (i + 1))), (0, .ref (ad 1)), (1, .int (ld_nv o))] 2 dX1_nextOneByOne_39 rfl (by decide) rfl ?_
          refine ld_goto O (pc := 42) 5 dX1_nextOneByOne_42 (by decide) ?_
          refine ld_less O [1, 2, 0] (lv2 := [(0, .ref (ad 1)), (1, .int (ld_nv o)), (2, .int (nI (i + 1)))]) rfl ?_
          exact ih5 (i + 1) o (by omega) (by omega) (ld_nx_f ho (fun z => by first | exact absurd z.1 (by omega) | exact absurd (z.2 _ rfl) (by assumption)))
        · rcases o with _ | j
          · show K σ [(0, .ref (ad 1)), (1, .int (-9 : Int32)), (2, .int (nI i))] [] 22
            refine ld_iload_n O (pc := 22) 1 dX1_nextOneByOne_22 rfl rfl ?_
            refine ld_bipush O (pc := 23) (v := (-9 : Int32)) dX1_nextOneByOne_23 (by decide) ?_
            refine ld_icmp_eq O (pc := 25) (-9) (-9) (by decide) (by decide) 37 dX1_nextOneByOne_25 (by decide) (fun _ => ?_) (fun z => absurd z (by decide))
            refine ld_iload_n O (pc := 37) 2 dX1_nextOneByOne_37 rfl rfl ?_
            refine ld_istore_n O (pc := 38) [(1, .int (nI i)), (0, .ref (ad 1)), (2, .int (nI i))] dX1_nextOneByOne_38 rfl (by decide) rfl ?_
            refine ld_iincN O (pc := 39) [(2, .int (nI (i + 1))), (1, .int (nI i)), (0, .ref (ad 1))] 2 dX1_nextOneByOne_39 rfl (by decide) rfl ?_
            refine ld_goto O (pc := 42) 5 dX1_nextOneByOne_42 (by decide) ?_
            refine ld_less O [2, 1, 0] (lv2 := [(0, .ref (ad 1)), (1, .int (ld_nv (some i))), (2, .int (nI (i + 1)))]) rfl ?_
            exact ih5 (i + 1) (some i) (by omega) (by omega) (ld_nx_t ho (by omega) (fun z hz => by first | (cases hz; done) | (cases hz; assumption)))
          · have hj_ := ld_nx_lt ho.symm
            show K σ [(0, .ref (ad 1)), (1, .int (nI j)), (2, .int (nI i))] [] 22
            refine ld_iload_n O (pc := 22) 1 dX1_nextOneByOne_22 rfl rfl ?_
            refine ld_bipush O (pc := 23) (v := (-9 : Int32)) dX1_nextOneByOne_23 (by decide) ?_
            refine ld_icmp_eq O (pc := 25) ((j : Nat) : Int) (-9) (nI_toInt (by omega)) (by decide) 37 dX1_nextOneByOne_25 (by decide) (fun c4 => ?_) (fun c4 => ?_)
            · exact False.elim (by omega)
            · refine ld_aload_n O (pc := 28) 0 dX1_nextOneByOne_28 rfl rfl ?_
              refine ld_iload_n O (pc := 29) 2 dX1_nextOneByOne_29 rfl rfl ?_
              refine ld_iload_n O (pc := 30) 1 dX1_nextOneByOne_30 rfl rfl ?_
              refine ld_callVi O (pc := 31) (As := [.int (nI i), .int (nI j)]) (st := []) ld_recv1 (c_X1_isAhead l ad σ i (by omega) j (by omega)) ld_mw_X1_isAheadOneByOne ld_w406 rfl rfl ⟨by decide, by decide⟩ (Nat.le_of_ble_eq_true rfl) dX1_nextOneByOne_31 (fun r_p31 σ_p31 h_p31 => ?_)
              obtain ⟨rfl, hσ_p31⟩ := h_p31
              rw [hσ_p31]
              show K σ [(0, .ref (ad 1)), (1, .int (nI j)), (2, .int (nI i))] [.int (ld_b (ld_ao (σ 4) (σ 5) i j))] 34
              refine ld_ifb_eq O (pc := 34) 39 dX1_nextOneByOne_34 (by decide) (fun c5 => ?_) (fun c5 => ?_)
              · refine ld_iincN O (pc := 39) [(2, .int (nI (i + 1))), (0, .ref (ad 1)), (1, .int (nI j))] 2 dX1_nextOneByOne_39 rfl (by decide) rfl ?_
                refine ld_goto O (pc := 42) 5 dX1_nextOneByOne_42 (by decide) ?_
                refine ld_less O [1, 2, 0] (lv2 := [(0, .ref (ad 1)), (1, .int (ld_nv (some j))), (2, .int (nI (i + 1)))]) rfl ?_
                exact ih5 (i + 1) (some j) (by omega) (by omega) (ld_nx_f ho (fun z => by first | exact absurd z.1 (by omega) | exact absurd (z.2 _ rfl) (by assumption)))
              · refine ld_iload_n O (pc := 37) 2 dX1_nextOneByOne_37 rfl rfl ?_
                refine ld_istore_n O (pc := 38) [(1, .int (nI i)), (0, .ref (ad 1)), (2, .int (nI i))] dX1_nextOneByOne_38 rfl (by decide) rfl ?_
                refine ld_iincN O (pc := 39) [(2, .int (nI (i + 1))), (1, .int (nI i)), (0, .ref (ad 1))] 2 dX1_nextOneByOne_39 rfl (by decide) rfl ?_
                refine ld_goto O (pc := 42) 5 dX1_nextOneByOne_42 (by decide) ?_
                refine ld_less O [2, 1, 0] (lv2 := [(0, .ref (ad 1)), (1, .int (ld_nv (some i))), (2, .int (nI (i + 1)))]) rfl ?_
                exact ih5 (i + 1) (some i) (by omega) (by omega) (ld_nx_t ho (by omega) (fun z hz => by first | (cases hz; done) | (cases hz; assumption)))
  refine ld_less O [2, 1, 0] (lv2 := [(0, .ref (ad 1)), (1, .int (ld_nv none)), (2, .int (nI 0))]) rfl ?_
  exact L5 _ 0 none (Nat.lt_succ_self _) (Nat.zero_le _) rfl
set_option maxHeartbeats 4000000 in
set_option maxRecDepth 100000 in
theorem c_X1_dealOneByOne (l : Launch) (ad : Nat → Nat) (σ : ld_St) (h : Nat) (hh : σ 110 0 = nI h) (h8 : h ≤ 8) (c : Nat) (hc : c ≤ 1000) : ld_Ctr l yX1_dealOneByOne cX1_dealOneByOne 4 none (2, 44) [.ref (ad 1), .int (nI c)] ad σ (ld_V (fun (σ2 : ld_St) => ∃ f4 f5 : Nat → Int32, σ2 = us (us σ 4 f4) 5 f5 ∧ ∀ x, x < h → f5 x = ld_o1 h (ld_ss (σ 0) (σ 1)) c x)) := by
  refine ld_entry (by decide +kernel) (Nat.le_of_ble_eq_true rfl) (fun K O E => ?_)
  have O : ld_Ok l K ad cX1_dealOneByOne 4 RX1 (ld_rm (2, 44)) := O
  show K σ [(0, .ref (ad 1)), (1, .int (nI c))] [] 0
  refine ld_iconst O (pc := 0) (v := nI 0) dX1_dealOneByOne_0 (by decide) ?_
  refine ld_istore_n O (pc := 1) [(2, .int (nI 0)), (0, .ref (ad 1)), (1, .int (nI c))] dX1_dealOneByOne_1 rfl (by decide) rfl ?_
  have L2 : ∀ (m_2 : Nat) (i : Nat) (f : Nat → Int32) (g : Nat → Int32), h - i < m_2 → (i ≤ h) → (∀ x, x < i → f x = ld_ss (σ 0) (σ 1) x) → (∀ x, x < i → g x = nI 0) → K (us (us σ 4 f) 5 g) [(0, .ref (ad 1)), (1, .int (nI c)), (2, .int (nI i))] [] 2 := by
    intro m_2
    induction m_2 with
    | zero => intro i f g hm_; exact absurd hm_ (Nat.not_lt_zero _)
    | succ m_2 ih2 =>
      intro i f g hm_2 hi hf hg
      refine ld_iload_n O (pc := 2) 2 dX1_dealOneByOne_2 rfl rfl ?_
      refine ld_aload_n O (pc := 3) 0 dX1_dealOneByOne_3 rfl rfl ?_
      refine ld_g_now_houses O (pc := 4) (v := nI h) ld_w30 hh dX1_dealOneByOne_4 ?_
      refine ld_icmp_ge O (pc := 7) ((i : Nat) : Int) ((h : Nat) : Int) (nI_toInt (by omega)) (nI_toInt (by omega)) 34 dX1_dealOneByOne_7 (by decide) (fun c1 => ?_) (fun c1 => ?_)
      · have ei : i = h := by omega
        rw [ei] at hf hg
        refine ld_iconst O (pc := 34) (v := nI 0) dX1_dealOneByOne_34 (by decide) ?_
        refine ld_istore_n O (pc := 35) [(2, .int (nI 0)), (0, .ref (ad 1)), (1, .int (nI c))] dX1_dealOneByOne_35 rfl (by decide) rfl ?_
        have L36 : ∀ (m_36 : Nat) (q : Nat) (g2 : Nat → Int32), c - q < m_36 → (q ≤ c) → (∀ x, x < h → g2 x = ld_o1 h (ld_ss (σ 0) (σ 1)) q x) → K (us (us σ 4 f) 5 g2) [(0, .ref (ad 1)), (1, .int (nI c)), (2, .int (nI q))] [] 36 := by
          intro m_36
          induction m_36 with
          | zero => intro q g2 hm_; exact absurd hm_ (Nat.not_lt_zero _)
          | succ m_36 ih36 =>
            intro q g2 hm_36 hq hg2
            refine ld_iload_n O (pc := 36) 2 dX1_dealOneByOne_36 rfl rfl ?_
            refine ld_iload_n O (pc := 37) 1 dX1_dealOneByOne_37 rfl rfl ?_
            refine ld_icmp_ge O (pc := 38) ((q : Nat) : Int) ((c : Nat) : Int) (nI_toInt (by omega)) (nI_toInt (by omega)) 68 dX1_dealOneByOne_38 (by decide) (fun c2 => ?_) (fun c2 => ?_)
            · refine ld_vret E dX1_dealOneByOne_68 ?_
              have eq_ : q = c := by omega
              rw [eq_] at hg2
              exact ⟨f, g2, rfl, hg2⟩
            · refine ld_aload_n O (pc := 41) 0 dX1_dealOneByOne_41 rfl rfl ?_
              refine ld_callVi O (pc := 42) (As := []) (st := []) ld_recv1 (c_X1_next l ad (us (us σ 4 f) 5 g2) h hh h8) ld_mw_X1_nextOneByOne ld_w402 rfl rfl ⟨by decide, by decide⟩ (Nat.le_of_ble_eq_true rfl) dX1_dealOneByOne_42 (fun r_p42 σ_p42 h_p42 => ?_)
              obtain ⟨rfl, hσ_p42⟩ := h_p42
              rw [hσ_p42]
              show K (us (us σ 4 f) 5 g2) [(0, .ref (ad 1)), (1, .int (nI c)), (2, .int (nI q))] [.int (ld_nv (ld_nx f g2 h))] 45
              refine ld_istore_n O (pc := 45) [(3, .int (ld_nv (ld_nx f g2 h))), (0, .ref (ad 1)), (1, .int (nI c)), (2, .int (nI q))] dX1_dealOneByOne_45 rfl (by decide) rfl ?_
              generalize hx_ : ld_nx f g2 h = o_; rcases o_ with _ | j
              · show K (us (us σ 4 f) 5 g2) [(3, .int (-9 : Int32)), (0, .ref (ad 1)), (1, .int (nI c)), (2, .int (nI q))] [] 46
                refine ld_iload_n O (pc := 46) 0 dX1_dealOneByOne_46 rfl rfl ?_
                refine ld_bipush O (pc := 47) (v := (-9 : Int32)) dX1_dealOneByOne_47 (by decide) ?_
                refine ld_icmp_eq O (pc := 49) (-9) (-9) (by decide) (by decide) 62 dX1_dealOneByOne_49 (by decide) (fun _ => ?_) (fun z => absurd z (by decide))
                refine ld_iincN O (pc := 62) [(2, .int (nI (q + 1))), (3, .int (-9 : Int32)), (0, .ref (ad 1)), (1, .int (nI c))] 3 dX1_dealOneByOne_62 rfl (by decide) rfl ?_
                refine ld_goto O (pc := 65) 36 dX1_dealOneByOne_65 (by decide) ?_
                refine ld_less O [2, 3, 0] (lv2 := [(0, .ref (ad 1)), (1, .int (nI c)), (2, .int (nI (q + 1)))]) rfl ?_
                exact ih36 (q + 1) g2 (by omega) (by omega) (fun x hx => (hg2 x hx).trans (by rw [ld_o1_n ((ld_nx_cong (fun y hy => ⟨(hf y hy).symm, (hg2 y hy).symm⟩)).trans hx_)]))
              · have hj_ := ld_nx_lt hx_
                show K (us (us σ 4 f) 5 g2) [(3, .int (nI j)), (0, .ref (ad 1)), (1, .int (nI c)), (2, .int (nI q))] [] 46
                refine ld_iload_n O (pc := 46) 0 dX1_dealOneByOne_46 rfl rfl ?_
                refine ld_bipush O (pc := 47) (v := (-9 : Int32)) dX1_dealOneByOne_47 (by decide) ?_
                refine ld_icmp_eq O (pc := 49) ((j : Nat) : Int) (-9) (nI_toInt (by omega)) (by decide) 62 dX1_dealOneByOne_49 (by decide) (fun c4 => ?_) (fun c4 => ?_)
                · exact False.elim (by omega)
                · refine ld_aload_n O (pc := 52) 1 dX1_dealOneByOne_52 rfl rfl ?_
                  refine ld_g_now_dealt O (pc := 53) ld_w39 dX1_dealOneByOne_53 ?_
                  refine ld_iload_n O (pc := 56) 0 dX1_dealOneByOne_56 rfl rfl ?_
                  refine ld_dup2 O (pc := 57) dX1_dealOneByOne_57 rfl rfl ?_
                  refine ld_iald O (pc := 58) 5 j (v := g2 j) rfl (by decide) (show j < 8 by omega) rfl dX1_dealOneByOne_58 ?_
                  refine ld_iconst O (pc := 59) (v := nI 1) dX1_dealOneByOne_59 (by decide) ?_
                  refine ld_iadd O (pc := 60) dX1_dealOneByOne_60 ?_
                  refine ld_iast O (pc := 61) 5 j rfl (by decide) (show j < 8 by omega) dX1_dealOneByOne_61 ?_
                  refine ld_iincN O (pc := 62) [(2, .int (nI (q + 1))), (3, .int (nI j)), (0, .ref (ad 1)), (1, .int (nI c))] 3 dX1_dealOneByOne_62 rfl (by decide) rfl ?_
                  refine ld_goto O (pc := 65) 36 dX1_dealOneByOne_65 (by decide) ?_
                  refine ld_less O [2, 3, 0] (lv2 := [(0, .ref (ad 1)), (1, .int (nI c)), (2, .int (nI (q + 1)))]) rfl ?_
                  have hs5 : us (us (us σ 4 f) 5 g2) 5 (upd (g2) j ((g2 j) + (nI 1))) = us (us σ 4 f) 5 (upd (g2) j ((g2 j) + (nI 1))) := by
                    funext b_
                    by_cases h0_ : b_ = 4
                    · subst h0_; rfl
                    by_cases h1_ : b_ = 5
                    · subst h1_; rfl
                    simp only [us, h0_, h1_, if_false]
                  refine ld_cv hs5 ?_
                  exact ih36 (q + 1) (upd (g2) j ((g2 j) + (nI 1))) (by omega) (by omega) (fun x hx => (ld_upd_c (ld_nx_lt hx_) hg2 x hx).trans (by rw [ld_o1_s ((ld_nx_cong (fun y hy => ⟨(hf y hy).symm, (hg2 y hy).symm⟩)).trans hx_)]))
        refine ld_less O [1, 2, 0] (lv2 := [(0, .ref (ad 1)), (1, .int (nI c)), (2, .int (nI 0))]) rfl ?_
        exact L36 _ 0 g (Nat.lt_succ_self _) (Nat.zero_le _) hg
      · refine ld_aload_n O (pc := 10) 0 dX1_dealOneByOne_10 rfl rfl ?_
        refine ld_g_now_sour O (pc := 11) ld_w38 dX1_dealOneByOne_11 ?_
        refine ld_iload_n O (pc := 14) 2 dX1_dealOneByOne_14 rfl rfl ?_
        refine ld_aload_n O (pc := 15) 0 dX1_dealOneByOne_15 rfl rfl ?_
        refine ld_iload_n O (pc := 16) 2 dX1_dealOneByOne_16 rfl rfl ?_
        refine ld_callVi O (pc := 17) (As := [.int (nI i)]) (st := [.int (nI i), .ref (ad (9 + 4))]) ld_recv1 (c_X1_sourOf_0 l ad (us (us σ 4 f) 5 g) i (by omega)) ld_mw_X1_sourOf ld_w185 rfl rfl ⟨by decide, by decide⟩ (Nat.le_of_ble_eq_true rfl) dX1_dealOneByOne_17 (fun r_p17 σ_p17 h_p17 => ?_)
        obtain ⟨rfl, hσ_p17⟩ := h_p17
        rw [hσ_p17]
        show K (us (us σ 4 f) 5 g) [(0, .ref (ad 1)), (1, .int (nI c)), (2, .int (nI i))] [.int (ld_sr (σ 0 i) (σ 1 i)), .int (nI i), .ref (ad (9 + 4))] 20
        refine ld_iast O (pc := 20) 4 i rfl (by decide) (show i < 8 by omega) dX1_dealOneByOne_20 ?_
        refine ld_aload_n O (pc := 21) 0 dX1_dealOneByOne_21 rfl rfl ?_
        refine ld_g_now_dealt O (pc := 22) ld_w39 dX1_dealOneByOne_22 ?_
        refine ld_iload_n O (pc := 25) 2 dX1_dealOneByOne_25 rfl rfl ?_
        refine ld_iconst O (pc := 26) (v := nI 0) dX1_dealOneByOne_26 (by decide) ?_
        refine ld_iast O (pc := 27) 5 i rfl (by decide) (show i < 8 by omega) dX1_dealOneByOne_27 ?_
        refine ld_iincN O (pc := 28) [(2, .int (nI (i + 1))), (0, .ref (ad 1)), (1, .int (nI c))] 2 dX1_dealOneByOne_28 rfl (by decide) rfl ?_
        refine ld_goto O (pc := 31) 2 dX1_dealOneByOne_31 (by decide) ?_
        refine ld_less O [1, 2, 0] (lv2 := [(0, .ref (ad 1)), (1, .int (nI c)), (2, .int (nI (i + 1)))]) rfl ?_
        have hs6 : us (us (us (us σ 4 f) 5 g) 4 (upd (f) i (ld_sr (σ 0 i) (σ 1 i)))) 5 (upd (g) i (nI 0)) = us (us σ 4 (upd (f) i (ld_sr (σ 0 i) (σ 1 i)))) 5 (upd (g) i (nI 0)) := by
          funext b_
          by_cases h0_ : b_ = 4
          · subst h0_; rfl
          by_cases h1_ : b_ = 5
          · subst h1_; rfl
          simp only [us, h0_, h1_, if_false]
        refine ld_cv hs6 ?_
        exact ih2 (i + 1) (upd (f) i (ld_sr (σ 0 i) (σ 1 i))) (upd (g) i (nI 0)) (by omega) (by omega) (ld_ext hf rfl) (ld_ext (g := fun _ => nI 0) hg rfl)
  refine ld_less O [1, 2, 0] (lv2 := [(0, .ref (ad 1)), (1, .int (nI c)), (2, .int (nI 0))]) rfl ?_
  have hs7 : σ = us (us σ 4 (σ 4)) 5 (σ 5) := by
    funext b_
    by_cases h0_ : b_ = 4
    · subst h0_; rfl
    by_cases h1_ : b_ = 5
    · subst h1_; rfl
    simp only [us, h0_, h1_, if_false]
  refine ld_cv hs7 ?_
  exact L2 _ 0 (σ 4) (σ 5) (Nat.lt_succ_self _) (Nat.zero_le _) (fun x hx => absurd hx (Nat.not_lt_zero x)) (fun x hx => absurd hx (Nat.not_lt_zero x))
set_option maxHeartbeats 4000000 in
set_option maxRecDepth 100000 in
theorem c_X1_beginByText (l : Launch) (ad : Nat → Nat) (σ : ld_St) (k : Nat) (hk : k < 4) (i0 m : Nat) (hm1 : 1 ≤ m) (hm8 : m ≤ 8) (hb : i0 + (3 + 4 * m) ≤ 60) : ld_Ctr l yX1_beginByText cX1_beginByText 6 none (1, 21) [.ref (ad 1), .ref (ad (9 + (16 + k))), .int (nI i0), .int (nI (3 + 4 * m))] ad σ (ld_V (fun (σ2 : ld_St) => ∃ k0 k1 k2 k3 : Nat → Int32, σ2 = us (us (us (us (us (us (us σ 111 (fun _ => (σ (16 + k) (i0 + 1) - nI 48) * nI 10 + σ (16 + k) (i0 + 2) - nI 48)) 112 (fun _ => nI 0)) 110 (fun _ => nI m)) 0 k0) 1 k1) 2 k2) 3 k3 ∧ ∀ x, x < m → k0 x = ld_kl (σ (16 + k) (i0 + 3 + 4 * x + 1)) ∧ k1 x = σ (16 + k) (i0 + 3 + 4 * x + 2) - nI 48 ∧ k2 x = σ (16 + k) (i0 + 3 + 4 * x + 3) - nI 48 ∧ k3 x = nI 0)) := by
  refine ld_entry (by decide +kernel) (Nat.le_of_ble_eq_true rfl) (fun K O E => ?_)
  have O : ld_Ok l K ad cX1_beginByText 6 RX1 (ld_rm (1, 21)) := O
  show K σ [(0, .ref (ad 1)), (1, .ref (ad (9 + (16 + k)))), (2, .int (nI i0)), (3, .int (nI (3 + 4 * m)))] [] 0
  refine ld_aload_n O (pc := 0) 0 dX1_beginByText_0 rfl rfl ?_
  refine ld_aload_n O (pc := 1) 1 dX1_beginByText_1 rfl rfl ?_
  refine ld_iload_n O (pc := 2) 2 dX1_beginByText_2 rfl rfl ?_
  refine ld_iconst O (pc := 3) (v := nI 1) dX1_beginByText_3 (by decide) ?_
  refine ld_iaddN O (pc := 4) dX1_beginByText_4 ?_
  refine ld_iald O (pc := 5) (16 + k) (i0 + 1) (v := σ (16 + k) (i0 + 1)) rfl (by omega) (by rw [ld_lenS hk]; omega) rfl dX1_beginByText_5 ?_
  refine ld_bipush O (pc := 6) (v := nI 48) dX1_beginByText_6 (by decide) ?_
  refine ld_isub O (pc := 8) dX1_beginByText_8 ?_
  refine ld_bipush O (pc := 9) (v := nI 10) dX1_beginByText_9 (by decide) ?_
  refine ld_imul O (pc := 11) dX1_beginByText_11 ?_
  refine ld_aload_n O (pc := 12) 1 dX1_beginByText_12 rfl rfl ?_
  refine ld_iload_n O (pc := 13) 2 dX1_beginByText_13 rfl rfl ?_
  refine ld_iconst O (pc := 14) (v := nI 2) dX1_beginByText_14 (by decide) ?_
  refine ld_iaddN O (pc := 15) dX1_beginByText_15 ?_
  refine ld_iald O (pc := 16) (16 + k) (i0 + 2) (v := σ (16 + k) (i0 + 2)) rfl (by omega) (by rw [ld_lenS hk]; omega) rfl dX1_beginByText_16 ?_
  refine ld_iadd O (pc := 17) dX1_beginByText_17 ?_
  refine ld_bipush O (pc := 18) (v := nI 48) dX1_beginByText_18 (by decide) ?_
  refine ld_isub O (pc := 20) dX1_beginByText_20 ?_
  refine ld_p_now_crate O (pc := 21) ld_w31 dX1_beginByText_21 ?_
  refine ld_aload_n O (pc := 24) 0 dX1_beginByText_24 rfl rfl ?_
  refine ld_iconst O (pc := 25) (v := nI 0) dX1_beginByText_25 (by decide) ?_
  refine ld_p_now_week O (pc := 26) ld_w32 dX1_beginByText_26 ?_
  refine ld_aload_n O (pc := 29) 0 dX1_beginByText_29 rfl rfl ?_
  refine ld_iload_n O (pc := 30) 3 dX1_beginByText_30 rfl rfl ?_
  refine ld_iconst O (pc := 31) (v := nI 3) dX1_beginByText_31 (by decide) ?_
  refine ld_isubN O (pc := 32) (by omega) dX1_beginByText_32 ?_
  refine ld_iconst O (pc := 33) (v := nI 4) dX1_beginByText_33 (by decide) ?_
  refine ld_idiv O (pc := 34) dX1_beginByText_34 (by decide) ?_
  refine ld_bipush O (pc := 35) (v := nI 8) dX1_beginByText_35 (by decide) ?_
  refine ld_mmin O (pc := 37) ld_w108 (by decide) (Nat.le_of_ble_eq_true rfl) dX1_beginByText_37 ?_
  have hm_ : (if nI 8 < nI (3 + 4 * m - 3) / nI 4 then nI 8 else nI (3 + 4 * m - 3) / nI 4) = nI m := by
    rw [show 3 + 4 * m - 3 = 4 * m by omega, pk_div (by omega) (by decide) (by decide), show 4 * m / 4 = m by omega, if_neg (nI_nlt (by omega) (by decide))]
  rw [hm_]
  refine ld_p_now_houses O (pc := 40) ld_w30 dX1_beginByText_40 ?_
  refine ld_iconst O (pc := 43) (v := nI 0) dX1_beginByText_43 (by decide) ?_
  refine ld_istore O (pc := 44) [(4, .int (nI 0)), (0, .ref (ad 1)), (1, .ref (ad (9 + (16 + k)))), (2, .int (nI i0)), (3, .int (nI (3 + 4 * m)))] dX1_beginByText_44 (by decide) rfl ?_
  have L46 : ∀ (m_46 : Nat) (i : Nat) (k0 : Nat → Int32) (k1 : Nat → Int32) (k2 : Nat → Int32) (k3 : Nat → Int32), m - i < m_46 → (i ≤ m) → (∀ x, x < i → k0 x = ld_kl (σ (16 + k) (i0 + 3 + 4 * x + 1))) → (∀ x, x < i → k1 x = σ (16 + k) (i0 + 3 + 4 * x + 2) - nI 48) → (∀ x, x < i → k2 x = σ (16 + k) (i0 + 3 + 4 * x + 3) - nI 48) → (∀ x, x < i → k3 x = nI 0) → K (us (us (us (us (us (us (us σ 111 (fun _ => ((((σ (16 + k) (i0 + 1)) - (nI 48)) * (nI 10)) + (σ (16 + k) (i0 + 2))) - (nI 48))) 112 (fun _ => nI 0)) 110 (fun _ => nI m)) 0 k0) 1 k1) 2 k2) 3 k3) [(0, .ref (ad 1)), (1, .ref (ad (9 + (16 + k)))), (2, .int (nI i0)), (4, .int (nI i))] [] 46 := by
    intro m_46
    induction m_46 with
    | zero => intro i k0 k1 k2 k3 hm_; exact absurd hm_ (Nat.not_lt_zero _)
    | succ m_46 ih46 =>
      intro i k0 k1 k2 k3 hm_46 hi e0 e1 e2 e3
      refine ld_iload O (pc := 46) 3 dX1_beginByText_46 rfl ?_
      refine ld_aload_n O (pc := 48) 0 dX1_beginByText_48 rfl rfl ?_
      refine ld_g_now_houses O (pc := 49) (v := nI m) ld_w30 rfl dX1_beginByText_49 ?_
      refine ld_icmp_ge O (pc := 52) ((i : Nat) : Int) ((m : Nat) : Int) (nI_toInt (by omega)) (nI_toInt (by omega)) 127 dX1_beginByText_52 (by decide) (fun c1 => ?_) (fun c1 => ?_)
      · refine ld_vret E dX1_beginByText_127 ?_
        have ei : i = m := by omega
        rw [ei] at e0 e1 e2 e3
        exact ⟨k0, k1, k2, k3, rfl, fun x hx => ⟨e0 x hx, e1 x hx, e2 x hx, e3 x hx⟩⟩
      · refine ld_iload_n O (pc := 55) 2 dX1_beginByText_55 rfl rfl ?_
        refine ld_iconst O (pc := 56) (v := nI 3) dX1_beginByText_56 (by decide) ?_
        refine ld_iaddN O (pc := 57) dX1_beginByText_57 ?_
        refine ld_iconst O (pc := 58) (v := nI 4) dX1_beginByText_58 (by decide) ?_
        refine ld_iload O (pc := 59) 3 dX1_beginByText_59 rfl ?_
        refine ld_imulN O (pc := 61) dX1_beginByText_61 ?_
        refine ld_iaddN O (pc := 62) dX1_beginByText_62 ?_
        refine ld_istore O (pc := 63) [(5, .int (nI ((i0 + 3) + (4 * i)))), (0, .ref (ad 1)), (1, .ref (ad (9 + (16 + k)))), (2, .int (nI i0)), (4, .int (nI i))] dX1_beginByText_63 (by decide) rfl ?_
        refine ld_aload_n O (pc := 65) 1 dX1_beginByText_65 rfl rfl ?_
        refine ld_g_now_kind O (pc := 66) ld_w34 dX1_beginByText_66 ?_
        refine ld_iload O (pc := 69) 4 dX1_beginByText_69 rfl ?_
        refine ld_aload_n O (pc := 71) 2 dX1_beginByText_71 rfl rfl ?_
        refine ld_iload O (pc := 72) 0 dX1_beginByText_72 rfl ?_
        refine ld_iconst O (pc := 74) (v := nI 1) dX1_beginByText_74 (by decide) ?_
        refine ld_iaddN O (pc := 75) dX1_beginByText_75 ?_
        refine ld_iald O (pc := 76) (16 + k) (((i0 + 3) + (4 * i)) + 1) (v := σ (16 + k) (((i0 + 3) + (4 * i)) + 1)) rfl (by omega) (by rw [ld_lenS hk]; omega) (by simp (disch := omega) only [us_ne, us_eq]) dX1_beginByText_76 ?_
        refine ld_callSNi O (pc := 77) (As := [.int (σ (16 + k) (((i0 + 3) + (4 * i)) + 1))]) (st := [.int (nI i), .ref (ad (9 + 0))]) (c_X2_kindByLetter l ad (us (us (us (us (us (us (us σ 111 (fun _ => ((((σ (16 + k) (i0 + 1)) - (nI 48)) * (nI 10)) + (σ (16 + k) (i0 + 2))) - (nI 48))) 112 (fun _ => nI 0)) 110 (fun _ => nI m)) 0 k0) 1 k1) 2 k2) 3 k3) (σ (16 + k) (((i0 + 3) + (4 * i)) + 1))) ld_mw_X2_kindByLetter (List.mem_of_getElem? (i := 17) rfl) rfl rfl ⟨by decide, by decide⟩ (Nat.le_of_ble_eq_true rfl) dX1_beginByText_77 (fun r_p77 σ_p77 h_p77 => ?_)
        obtain ⟨rfl, hσ_p77⟩ := h_p77
        rw [hσ_p77]
        show K (us (us (us (us (us (us (us σ 111 (fun _ => ((((σ (16 + k) (i0 + 1)) - (nI 48)) * (nI 10)) + (σ (16 + k) (i0 + 2))) - (nI 48))) 112 (fun _ => nI 0)) 110 (fun _ => nI m)) 0 k0) 1 k1) 2 k2) 3 k3) [(5, .int (nI ((i0 + 3) + (4 * i)))), (0, .ref (ad 1)), (1, .ref (ad (9 + (16 + k)))), (2, .int (nI i0)), (4, .int (nI i))] [.int (ld_kl (σ (16 + k) (((i0 + 3) + (4 * i)) + 1))), .int (nI i), .ref (ad (9 + 0))] 80
        refine ld_iast O (pc := 80) 0 i rfl (by decide) (show i < 8 by omega) dX1_beginByText_80 ?_
        refine ld_aload_n O (pc := 81) 1 dX1_beginByText_81 rfl rfl ?_
        refine ld_g_now_temper O (pc := 82) ld_w35 dX1_beginByText_82 ?_
        refine ld_iload O (pc := 85) 4 dX1_beginByText_85 rfl ?_
        refine ld_aload_n O (pc := 87) 2 dX1_beginByText_87 rfl rfl ?_
        refine ld_iload O (pc := 88) 0 dX1_beginByText_88 rfl ?_
        refine ld_iconst O (pc := 90) (v := nI 2) dX1_beginByText_90 (by decide) ?_
        refine ld_iaddN O (pc := 91) dX1_beginByText_91 ?_
        refine ld_iald O (pc := 92) (16 + k) (((i0 + 3) + (4 * i)) + 2) (v := σ (16 + k) (((i0 + 3) + (4 * i)) + 2)) rfl (by omega) (by rw [ld_lenS hk]; omega) (by simp (disch := omega) only [us_ne, us_eq]) dX1_beginByText_92 ?_
        refine ld_bipush O (pc := 93) (v := nI 48) dX1_beginByText_93 (by decide) ?_
        refine ld_isub O (pc := 95) dX1_beginByText_95 ?_
        refine ld_iast O (pc := 96) 1 i rfl (by decide) (show i < 8 by omega) dX1_beginByText_96 ?_
        refine ld_aload_n O (pc := 97) 1 dX1_beginByText_97 rfl rfl ?_
        refine ld_g_now_stock O (pc := 98) ld_w36 dX1_beginByText_98 ?_
        refine ld_iload O (pc := 101) 4 dX1_beginByText_101 rfl ?_
        refine ld_aload_n O (pc := 103) 2 dX1_beginByText_103 rfl rfl ?_
        refine ld_iload O (pc := 104) 0 dX1_beginByText_104 rfl ?_
        refine ld_iconst O (pc := 106) (v := nI 3) dX1_beginByText_106 (by decide) ?_
        refine ld_iaddN O (pc := 107) dX1_beginByText_107 ?_
        refine ld_iald O (pc := 108) (16 + k) (((i0 + 3) + (4 * i)) + 3) (v := σ (16 + k) (((i0 + 3) + (4 * i)) + 3)) rfl (by omega) (by rw [ld_lenS hk]; omega) (by simp (disch := omega) only [us_ne, us_eq]) dX1_beginByText_108 ?_
        refine ld_bipush O (pc := 109) (v := nI 48) dX1_beginByText_109 (by decide) ?_
        refine ld_isub O (pc := 111) dX1_beginByText_111 ?_
        refine ld_iast O (pc := 112) 2 i rfl (by decide) (show i < 8 by omega) dX1_beginByText_112 ?_
        refine ld_aload_n O (pc := 113) 1 dX1_beginByText_113 rfl rfl ?_
        refine ld_g_now_pips O (pc := 114) ld_w37 dX1_beginByText_114 ?_
        refine ld_iload O (pc := 117) 4 dX1_beginByText_117 rfl ?_
        refine ld_iconst O (pc := 119) (v := nI 0) dX1_beginByText_119 (by decide) ?_
        refine ld_iast O (pc := 120) 3 i rfl (by decide) (show i < 8 by omega) dX1_beginByText_120 ?_
        refine ld_iincN O (pc := 121) [(4, .int (nI (i + 1))), (5, .int (nI ((i0 + 3) + (4 * i)))), (0, .ref (ad 1)), (1, .ref (ad (9 + (16 + k)))), (2, .int (nI i0))] 4 dX1_beginByText_121 rfl (by decide) rfl ?_
        refine ld_goto O (pc := 124) 46 dX1_beginByText_124 (by decide) ?_
        refine ld_less O [2, 3, 4, 0] (lv2 := [(0, .ref (ad 1)), (1, .ref (ad (9 + (16 + k)))), (2, .int (nI i0)), (4, .int (nI (i + 1)))]) rfl ?_
        have hs2 : us (us (us (us (us (us (us (us (us (us (us σ 111 (fun _ => ((((σ (16 + k) (i0 + 1)) - (nI 48)) * (nI 10)) + (σ (16 + k) (i0 + 2))) - (nI 48))) 112 (fun _ => nI 0)) 110 (fun _ => nI m)) 0 k0) 1 k1) 2 k2) 3 k3) 0 (upd (k0) i (ld_kl (σ (16 + k) (((i0 + 3) + (4 * i)) + 1))))) 1 (upd (k1) i ((σ (16 + k) (((i0 + 3) + (4 * i)) + 2)) - (nI 48)))) 2 (upd (k2) i ((σ (16 + k) (((i0 + 3) + (4 * i)) + 3)) - (nI 48)))) 3 (upd (k3) i (nI 0)) = us (us (us (us (us (us (us σ 111 (fun _ => ((((σ (16 + k) (i0 + 1)) - (nI 48)) * (nI 10)) + (σ (16 + k) (i0 + 2))) - (nI 48))) 112 (fun _ => nI 0)) 110 (fun _ => nI m)) 0 (upd (k0) i (ld_kl (σ (16 + k) (((i0 + 3) + (4 * i)) + 1))))) 1 (upd (k1) i ((σ (16 + k) (((i0 + 3) + (4 * i)) + 2)) - (nI 48)))) 2 (upd (k2) i ((σ (16 + k) (((i0 + 3) + (4 * i)) + 3)) - (nI 48)))) 3 (upd (k3) i (nI 0)) := by
          funext b_
          by_cases h0_ : b_ = 111
          · subst h0_; rfl
          by_cases h1_ : b_ = 112
          · subst h1_; rfl
          by_cases h2_ : b_ = 110
          · subst h2_; rfl
          by_cases h3_ : b_ = 0
          · subst h3_; rfl
          by_cases h4_ : b_ = 1
          · subst h4_; rfl
          by_cases h5_ : b_ = 2
          · subst h5_; rfl
          by_cases h6_ : b_ = 3
          · subst h6_; rfl
          simp only [us, h0_, h1_, h2_, h3_, h4_, h5_, h6_, if_false]
        refine ld_cv hs2 ?_
        exact ih46 (i + 1) (upd (k0) i (ld_kl (σ (16 + k) (((i0 + 3) + (4 * i)) + 1)))) (upd (k1) i ((σ (16 + k) (((i0 + 3) + (4 * i)) + 2)) - (nI 48))) (upd (k2) i ((σ (16 + k) (((i0 + 3) + (4 * i)) + 3)) - (nI 48))) (upd (k3) i (nI 0)) (by omega) (by omega) (ld_ext (g := fun x => ld_kl (σ (16 + k) (i0 + 3 + 4 * x + 1))) e0 rfl) (ld_ext (g := fun x => σ (16 + k) (i0 + 3 + 4 * x + 2) - nI 48) e1 rfl) (ld_ext (g := fun x => σ (16 + k) (i0 + 3 + 4 * x + 3) - nI 48) e2 rfl) (ld_ext (g := fun _ => nI 0) e3 rfl)
  refine ld_less O [1, 2, 3, 0] (lv2 := [(0, .ref (ad 1)), (1, .ref (ad (9 + (16 + k)))), (2, .int (nI i0)), (4, .int (nI 0))]) rfl ?_
  have hs3 : us (us (us σ 111 (fun _ => ((((σ (16 + k) (i0 + 1)) - (nI 48)) * (nI 10)) + (σ (16 + k) (i0 + 2))) - (nI 48))) 112 (fun _ => nI 0)) 110 (fun _ => nI m) = us (us (us (us (us (us (us σ 111 (fun _ => ((((σ (16 + k) (i0 + 1)) - (nI 48)) * (nI 10)) + (σ (16 + k) (i0 + 2))) - (nI 48))) 112 (fun _ => nI 0)) 110 (fun _ => nI m)) 0 (σ 0)) 1 (σ 1)) 2 (σ 2)) 3 (σ 3) := by
    funext b_
    by_cases h0_ : b_ = 111
    · subst h0_; rfl
    by_cases h1_ : b_ = 112
    · subst h1_; rfl
    by_cases h2_ : b_ = 110
    · subst h2_; rfl
    by_cases h3_ : b_ = 0
    · subst h3_; rfl
    by_cases h4_ : b_ = 1
    · subst h4_; rfl
    by_cases h5_ : b_ = 2
    · subst h5_; rfl
    by_cases h6_ : b_ = 3
    · subst h6_; rfl
    simp only [us, h0_, h1_, h2_, h3_, h4_, h5_, h6_, if_false]
  refine ld_cv hs3 ?_
  exact L46 _ 0 (σ 0) (σ 1) (σ 2) (σ 3) (Nat.lt_succ_self _) (Nat.zero_le _) (fun x hx => absurd hx (Nat.not_lt_zero x)) (fun x hx => absurd hx (Nat.not_lt_zero x)) (fun x hx => absurd hx (Nat.not_lt_zero x)) (fun x hx => absurd hx (Nat.not_lt_zero x))
def ld_fa (ln la as : Int32) : Int32 := if ln.toInt = -1 then nI 1 else if la.toInt = as.toInt then nI 0 else nI 2
set_option maxHeartbeats 4000000 in
set_option maxRecDepth 100000 in
theorem c_X0_isThere (l : Launch) (ad : Nat → Nat) (σ : ld_St) (k : Nat) (hk : k < 4) : ld_Ctr l yX0_isThere cX0_isThere 1 (some .boolean) (0, 0) [.ref (ad (4 + k))] ad σ (ld_I (fun (r : Int32) (σ2 : ld_St) => r = ld_b (¬ (σ 131 k).toInt = (-1)) ∧ σ2 = σ)) := by
  refine ld_entry (by decide +kernel) (Nat.le_of_ble_eq_true rfl) (fun K O E => ?_)
  have O : ld_Ok l K ad cX0_isThere 1 RX0 (ld_rm (0, 0)) := O
  show K σ [(0, .ref (ad (4 + k)))] [] 0
  refine ld_aload_n O (pc := 0) 0 dX0_isThere_0 rfl rfl ?_
  refine ld_g_S_length O (pc := 1) (v := (σ 131) k) (by omega) ld_w46 rfl dX0_isThere_1 ?_
  refine ld_iconst O (pc := 4) (v := (-1 : Int32)) dX0_isThere_4 (by decide) ?_
  refine ld_icmp_eq O (pc := 5) ((σ 131) k).toInt (-1) rfl (by decide) 12 dX0_isThere_5 (by decide) (fun c1 => ?_) (fun c1 => ?_)
  · refine ld_iconst O (pc := 12) (v := nI 0) dX0_isThere_12 (by decide) ?_
    refine ld_iretz E (Or.inl rfl) dX0_isThere_13 ?_
    exact ⟨(ld_b_f (by omega)).symm, rfl⟩
  · refine ld_iconst O (pc := 8) (v := nI 1) dX0_isThere_8 (by decide) ?_
    refine ld_goto O (pc := 9) 13 dX0_isThere_9 (by decide) ?_
    refine ld_iretz E (Or.inr rfl) dX0_isThere_13 ?_
    exact ⟨(ld_b_t (by omega)).symm, rfl⟩
set_option maxHeartbeats 4000000 in
set_option maxRecDepth 100000 in
theorem c_X0_faultAs (l : Launch) (ad : Nat → Nat) (σ : ld_St) (k : Nat) (hk : k < 4) (as : Int32) : ld_Ctr l yX0_faultAs cX0_faultAs 2 (some .int) (1, 20) [.ref (ad (4 + k)), .int as] ad σ (ld_I (fun (r : Int32) (σ2 : ld_St) => r = ld_fa (σ 131 k) (σ 130 k) as ∧ σ2 = σ)) := by
  refine ld_entry (by decide +kernel) (Nat.le_of_ble_eq_true rfl) (fun K O E => ?_)
  have O : ld_Ok l K ad cX0_faultAs 2 RX0 (ld_rm (1, 20)) := O
  show K σ [(0, .ref (ad (4 + k))), (1, .int as)] [] 0
  refine ld_aload_n O (pc := 0) 0 dX0_faultAs_0 rfl rfl ?_
  refine ld_callVi O (pc := 1) (As := []) (st := []) (ld_recvS (by omega)) (c_X0_isThere l ad σ k (by omega)) ld_mw_X0_isThere ld_w82 rfl rfl ⟨by decide, by decide⟩ (Nat.le_of_ble_eq_true rfl) dX0_faultAs_1 (fun r_p1 σ_p1 h_p1 => ?_)
  obtain ⟨rfl, hσ_p1⟩ := h_p1
  rw [hσ_p1]
  show K σ [(0, .ref (ad (4 + k))), (1, .int as)] [.int (ld_b (¬ (σ 131 k).toInt = (-1)))] 4
  refine ld_ifb_ne O (pc := 4) 9 dX0_faultAs_4 (by decide) (fun c1 => ?_) (fun c1 => ?_)
  · refine ld_aload_n O (pc := 9) 0 dX0_faultAs_9 rfl rfl ?_
    refine ld_g_S_lane O (pc := 10) (v := (σ 130) k) (by omega) ld_w45 rfl dX0_faultAs_10 ?_
    refine ld_iload_n O (pc := 13) 1 dX0_faultAs_13 rfl rfl ?_
    refine ld_icmp_ne O (pc := 14) ((σ 130) k).toInt (as).toInt rfl rfl 21 dX0_faultAs_14 (by decide) (fun c2 => ?_) (fun c2 => ?_)
    · refine ld_iconst O (pc := 21) (v := nI 2) dX0_faultAs_21 (by decide) ?_
      refine ld_ireti E dX0_faultAs_22 ?_
      exact ⟨by unfold ld_fa; rw [if_neg (by omega), if_neg (by omega)], rfl⟩
    · refine ld_iconst O (pc := 17) (v := nI 0) dX0_faultAs_17 (by decide) ?_
      refine ld_goto O (pc := 18) 22 dX0_faultAs_18 (by decide) ?_
      refine ld_ireti E dX0_faultAs_22 ?_
      exact ⟨by unfold ld_fa; rw [if_neg (by omega), if_pos (by omega)], rfl⟩
  · refine ld_iconst O (pc := 7) (v := nI 1) dX0_faultAs_7 (by decide) ?_
    refine ld_ireti E dX0_faultAs_8 ?_
    exact ⟨by unfold ld_fa; rw [if_pos (by omega)], rfl⟩
set_option maxHeartbeats 4000000 in
set_option maxRecDepth 100000 in
theorem c_X0_hasCell (l : Launch) (ad : Nat → Nat) (σ : ld_St) (k : Nat) (hk : k < 4) (i : Int32) : ld_Ctr l yX0_hasCell cX0_hasCell 2 (some .boolean) (0, 0) [.ref (ad (4 + k)), .int i] ad σ (ld_I (fun (r : Int32) (σ2 : ld_St) => r = ld_b (0 ≤ i.toInt ∧ i.toInt < (σ 131 k).toInt) ∧ σ2 = σ)) := by
  refine ld_entry (by decide +kernel) (Nat.le_of_ble_eq_true rfl) (fun K O E => ?_)
  have O : ld_Ok l K ad cX0_hasCell 2 RX0 (ld_rm (0, 0)) := O
  show K σ [(0, .ref (ad (4 + k))), (1, .int i)] [] 0
  refine ld_iload_n O (pc := 0) 1 dX0_hasCell_0 rfl rfl ?_
  refine ld_if_lt O (pc := 1) (i).toInt rfl 16 dX0_hasCell_1 (by decide) (fun c1 => ?_) (fun c1 => ?_)
  · refine ld_iconst O (pc := 16) (v := nI 0) dX0_hasCell_16 (by decide) ?_
    refine ld_iretz E (Or.inl rfl) dX0_hasCell_17 ?_
    exact ⟨(ld_b_f (by omega)).symm, rfl⟩
  · refine ld_iload_n O (pc := 4) 1 dX0_hasCell_4 rfl rfl ?_
    refine ld_aload_n O (pc := 5) 0 dX0_hasCell_5 rfl rfl ?_
    refine ld_g_S_length O (pc := 6) (v := (σ 131) k) (by omega) ld_w46 rfl dX0_hasCell_6 ?_
    refine ld_icmp_ge O (pc := 9) (i).toInt ((σ 131) k).toInt rfl rfl 16 dX0_hasCell_9 (by decide) (fun c2 => ?_) (fun c2 => ?_)
    · refine ld_iconst O (pc := 16) (v := nI 0) dX0_hasCell_16 (by decide) ?_
      refine ld_iretz E (Or.inl rfl) dX0_hasCell_17 ?_
      exact ⟨(ld_b_f (by omega)).symm, rfl⟩
    · refine ld_iconst O (pc := 12) (v := nI 1) dX0_hasCell_12 (by decide) ?_
      refine ld_goto O (pc := 13) 17 dX0_hasCell_13 (by decide) ?_
      refine ld_iretz E (Or.inr rfl) dX0_hasCell_17 ?_
      exact ⟨(ld_b_t (by omega)).symm, rfl⟩
set_option maxHeartbeats 4000000 in
set_option maxRecDepth 100000 in
theorem c_X0_lacks (l : Launch) (ad : Nat → Nat) (σ : ld_St) (k : Nat) (hk : k < 4) (hl0 : 0 ≤ (σ 131 k).toInt) (hl1 : (σ 131 k).toInt ≤ 60) (i n : Int32) : ld_Ctr l yX0_lacks cX0_lacks 3 (some .boolean) (0, 0) [.ref (ad (4 + k)), .int i, .int n] ad σ (ld_I (fun (r : Int32) (σ2 : ld_St) => r = ld_b (i.toInt < 0 ∨ n.toInt < 0 ∨ (σ 131 k).toInt < i.toInt + n.toInt) ∧ σ2 = σ)) := by
  refine ld_entry (by decide +kernel) (Nat.le_of_ble_eq_true rfl) (fun K O E => ?_)
  have O : ld_Ok l K ad cX0_lacks 3 RX0 (ld_rm (0, 0)) := O
  show K σ [(0, .ref (ad (4 + k))), (1, .int i), (2, .int n)] [] 0
  refine ld_iload_n O (pc := 0) 1 dX0_lacks_0 rfl rfl ?_
  refine ld_if_lt O (pc := 1) (i).toInt rfl 26 dX0_lacks_1 (by decide) (fun c1 => ?_) (fun c1 => ?_)
  · refine ld_iconst O (pc := 26) (v := nI 1) dX0_lacks_26 (by decide) ?_
    refine ld_goto O (pc := 27) 31 dX0_lacks_27 (by decide) ?_
    refine ld_iretz E (Or.inr rfl) dX0_lacks_31 ?_
    exact ⟨(ld_b_t (by omega)).symm, rfl⟩
  · refine ld_iload_n O (pc := 4) 2 dX0_lacks_4 rfl rfl ?_
    refine ld_if_lt O (pc := 5) (n).toInt rfl 26 dX0_lacks_5 (by decide) (fun c2 => ?_) (fun c2 => ?_)
    · refine ld_iconst O (pc := 26) (v := nI 1) dX0_lacks_26 (by decide) ?_
      refine ld_goto O (pc := 27) 31 dX0_lacks_27 (by decide) ?_
      refine ld_iretz E (Or.inr rfl) dX0_lacks_31 ?_
      exact ⟨(ld_b_t (by omega)).symm, rfl⟩
    · refine ld_iload_n O (pc := 8) 1 dX0_lacks_8 rfl rfl ?_
      refine ld_aload_n O (pc := 9) 0 dX0_lacks_9 rfl rfl ?_
      refine ld_g_S_length O (pc := 10) (v := (σ 131) k) (by omega) ld_w46 rfl dX0_lacks_10 ?_
      refine ld_icmp_gt O (pc := 13) (i).toInt ((σ 131) k).toInt rfl rfl 26 dX0_lacks_13 (by decide) (fun c3 => ?_) (fun c3 => ?_)
      · refine ld_iconst O (pc := 26) (v := nI 1) dX0_lacks_26 (by decide) ?_
        refine ld_goto O (pc := 27) 31 dX0_lacks_27 (by decide) ?_
        refine ld_iretz E (Or.inr rfl) dX0_lacks_31 ?_
        exact ⟨(ld_b_t (by omega)).symm, rfl⟩
      · refine ld_iload_n O (pc := 16) 2 dX0_lacks_16 rfl rfl ?_
        refine ld_aload_n O (pc := 17) 0 dX0_lacks_17 rfl rfl ?_
        refine ld_g_S_length O (pc := 18) (v := (σ 131) k) (by omega) ld_w46 rfl dX0_lacks_18 ?_
        refine ld_iload_n O (pc := 21) 1 dX0_lacks_21 rfl rfl ?_
        refine ld_isub O (pc := 22) dX0_lacks_22 ?_
        have hs_ : (σ 131 k - i).toInt = (σ 131 k).toInt - i.toInt := fb_subI (by omega) (by omega)
        refine ld_icmp_le O (pc := 23) (n).toInt ((σ 131 k).toInt - i.toInt) rfl hs_ 30 dX0_lacks_23 (by decide) (fun c4 => ?_) (fun c4 => ?_)
        · refine ld_iconst O (pc := 30) (v := nI 0) dX0_lacks_30 (by decide) ?_
          refine ld_iretz E (Or.inl rfl) dX0_lacks_31 ?_
          exact ⟨(ld_b_f (by omega)).symm, rfl⟩
        · refine ld_iconst O (pc := 26) (v := nI 1) dX0_lacks_26 (by decide) ?_
          refine ld_goto O (pc := 27) 31 dX0_lacks_27 (by decide) ?_
          refine ld_iretz E (Or.inr rfl) dX0_lacks_31 ?_
          exact ⟨(ld_b_t (by omega)).symm, rfl⟩
set_option maxHeartbeats 4000000 in
set_option maxRecDepth 100000 in
theorem c_X0_cutToLane (l : Launch) (ad : Nat → Nat) (σ : ld_St) (k : Nat) (hk : k < 4) (v : Int32) : ld_Ctr l yX0_cutToLane cX0_cutToLane 2 (some .int) (0, 0) [.ref (ad (4 + k)), .int v] ad σ (ld_I (fun (r : Int32) (σ2 : ld_St) => r = ld_lc (σ 130 k) v ∧ σ2 = σ)) := by
  refine ld_entry (by decide +kernel) (Nat.le_of_ble_eq_true rfl) (fun K O E => ?_)
  have O : ld_Ok l K ad cX0_cutToLane 2 RX0 (ld_rm (0, 0)) := O
  show K σ [(0, .ref (ad (4 + k))), (1, .int v)] [] 0
  refine ld_aload_n O (pc := 0) 0 dX0_cutToLane_0 rfl rfl ?_
  refine ld_g_S_lane O (pc := 1) (v := (σ 130) k) (by omega) ld_w45 rfl dX0_cutToLane_1 ?_
  by_cases t1 : ((σ 130) k).toInt = 0
  · refine ld_look O (pc := 4) 32 dX0_cutToLane_4 (by decide) (off := 28) (by rw [t1]; rfl) (by decide) ?_
    refine ld_iload_n O (pc := 32) 1 dX0_cutToLane_32 rfl rfl ?_
    refine ld_i2b O (pc := 33) dX0_cutToLane_33 ?_
    refine ld_ireti E dX0_cutToLane_34 ?_
    exact ⟨by simp [ld_lc, t1], rfl⟩
  by_cases t2 : ((σ 130) k).toInt = 1
  · refine ld_look O (pc := 4) 35 dX0_cutToLane_4 (by decide) (off := 31) (by rw [t2]; rfl) (by decide) ?_
    refine ld_iload_n O (pc := 35) 1 dX0_cutToLane_35 rfl rfl ?_
    refine ld_i2s O (pc := 36) dX0_cutToLane_36 ?_
    refine ld_ireti E dX0_cutToLane_37 ?_
    exact ⟨by simp [ld_lc, t1, t2], rfl⟩
  refine ld_look O (pc := 4) 38 dX0_cutToLane_4 (by decide) (off := 34) (by show Op.lookupswitch.offset [((0 : Int), (28 : Int)), ((1 : Int), (31 : Int))] (34) _ = _; rw [Op.lookupswitch.offset_cons, if_neg (fun z => t1 (Eq.trans (Eq.symm (Eq.refl _)) z.symm)), Op.lookupswitch.offset_cons, if_neg (fun z => t2 (Eq.trans (Eq.symm (Eq.refl _)) z.symm))]; rfl) (by decide) ?_
  refine ld_iload_n O (pc := 38) 1 dX0_cutToLane_38 rfl rfl ?_
  refine ld_ireti E dX0_cutToLane_39 ?_
  exact ⟨by simp [ld_lc, t1, t2], rfl⟩
set_option maxHeartbeats 4000000 in
set_option maxRecDepth 100000 in
theorem c_X0_begin (l : Launch) (ad : Nat → Nat) (σ : ld_St) (k : Nat) (hk : k < 4) (la : Int32) (n : Nat) (hn : n ≤ 60) : ld_Ctr l yX0_begin cX0_begin 4 none (0, 0) [.ref (ad (4 + k)), .int la, .int (nI n)] ad σ (ld_V (fun (σ2 : ld_St) => ∃ f : Nat → Int32, σ2 = us (us (us σ 130 (upd (σ 130) k la)) 131 (upd (σ 131) k (nI n))) (16 + k) f ∧ ∀ x, x < n → f x = nI 0)) := by
  refine ld_entry (by decide +kernel) (Nat.le_of_ble_eq_true rfl) (fun K O E => ?_)
  have O : ld_Ok l K ad cX0_begin 4 RX0 (ld_rm (0, 0)) := O
  show K σ [(0, .ref (ad (4 + k))), (1, .int la), (2, .int (nI n))] [] 0
  refine ld_aload_n O (pc := 0) 0 dX0_begin_0 rfl rfl ?_
  refine ld_iload_n O (pc := 1) 1 dX0_begin_1 rfl rfl ?_
  refine ld_p_S_lane O (pc := 2) (by omega) ld_w45 dX0_begin_2 ?_
  refine ld_aload_n O (pc := 5) 0 dX0_begin_5 rfl rfl ?_
  refine ld_iload_n O (pc := 6) 2 dX0_begin_6 rfl rfl ?_
  refine ld_p_S_length O (pc := 7) (by omega) ld_w46 dX0_begin_7 ?_
  refine ld_iconst O (pc := 10) (v := nI 0) dX0_begin_10 (by decide) ?_
  refine ld_istore_n O (pc := 11) [(3, .int (nI 0)), (0, .ref (ad (4 + k))), (1, .int la), (2, .int (nI n))] dX0_begin_11 rfl (by decide) rfl ?_
  have L12 : ∀ (m_12 : Nat) (i : Nat) (f : Nat → Int32), n - i < m_12 → (i ≤ n) → (∀ x, x < i → f x = nI 0) → K (us (us (us σ 130 (upd (σ 130) k la)) 131 (upd (σ 131) k (nI n))) (16 + k) f) [(0, .ref (ad (4 + k))), (1, .int la), (2, .int (nI n)), (3, .int (nI i))] [] 12 := by
    intro m_12
    induction m_12 with
    | zero => intro i f hm_; exact absurd hm_ (Nat.not_lt_zero _)
    | succ m_12 ih12 =>
      intro i f hm_12 hi hf
      refine ld_iload_n O (pc := 12) 3 dX0_begin_12 rfl rfl ?_
      refine ld_iload_n O (pc := 13) 2 dX0_begin_13 rfl rfl ?_
      refine ld_icmp_ge O (pc := 14) ((i : Nat) : Int) ((n : Nat) : Int) (nI_toInt (by omega)) (nI_toInt (by omega)) 30 dX0_begin_14 (by decide) (fun c1 => ?_) (fun c1 => ?_)
      · refine ld_vret E dX0_begin_30 ?_
        have ei : i = n := by omega
        rw [ei] at hf
        exact ⟨f, rfl, hf⟩
      · refine ld_aload_n O (pc := 17) 0 dX0_begin_17 rfl rfl ?_
        refine ld_g_S_cells O (pc := 18) (by omega) ld_w44 dX0_begin_18 ?_
        refine ld_iload_n O (pc := 21) 3 dX0_begin_21 rfl rfl ?_
        refine ld_iconst O (pc := 22) (v := nI 0) dX0_begin_22 (by decide) ?_
        refine ld_iastF O (pc := 23) (16 + k) i (f) (by first | rfl | (simp (disch := omega) only [us_ne, us_eq]; done)) rfl (by omega) (by rw [ld_lenS hk]; omega) dX0_begin_23 ?_
        refine ld_iincN O (pc := 24) [(3, .int (nI (i + 1))), (0, .ref (ad (4 + k))), (1, .int la), (2, .int (nI n))] 3 dX0_begin_24 rfl (by decide) rfl ?_
        refine ld_goto O (pc := 27) 12 dX0_begin_27 (by decide) ?_
        refine ld_less O [1, 2, 3, 0] (lv2 := [(0, .ref (ad (4 + k))), (1, .int la), (2, .int (nI n)), (3, .int (nI (i + 1)))]) rfl ?_
        have hs2 : us (us (us (us σ 130 (upd (σ 130) k la)) 131 (upd (σ 131) k (nI n))) (16 + k) f) (16 + k) (upd (f) i (nI 0)) = us (us (us σ 130 (upd (σ 130) k la)) 131 (upd (σ 131) k (nI n))) (16 + k) (upd (f) i (nI 0)) := by
          funext b_
          by_cases h0_ : b_ = 130
          · subst h0_; first | rfl | (simp (disch := omega) only [us_ne, us_eq]; done)
          by_cases h1_ : b_ = 131
          · subst h1_; first | rfl | (simp (disch := omega) only [us_ne, us_eq]; done)
          by_cases h2_ : b_ = (16 + k)
          · subst h2_; first | rfl | (simp (disch := omega) only [us_ne, us_eq]; done)
          simp only [us, h0_, h1_, h2_, if_false]
        refine ld_cv hs2 ?_
        exact ih12 (i + 1) (upd (f) i (nI 0)) (by omega) (by omega) (ld_ext (g := fun _ => nI 0) hf rfl)
  refine ld_less O [1, 2, 3, 0] (lv2 := [(0, .ref (ad (4 + k))), (1, .int la), (2, .int (nI n)), (3, .int (nI 0))]) rfl ?_
  have hs3 : us (us σ 130 (upd (σ 130) k la)) 131 (upd (σ 131) k (nI n)) = us (us (us σ 130 (upd (σ 130) k la)) 131 (upd (σ 131) k (nI n))) (16 + k) (σ (16 + k)) := by
    funext b_
    by_cases h0_ : b_ = 130
    · subst h0_; first | rfl | (simp (disch := omega) only [us_ne, us_eq]; done)
    by_cases h1_ : b_ = 131
    · subst h1_; first | rfl | (simp (disch := omega) only [us_ne, us_eq]; done)
    by_cases h2_ : b_ = (16 + k)
    · subst h2_; first | rfl | (simp (disch := omega) only [us_ne, us_eq]; done)
    simp only [us, h0_, h1_, h2_, if_false]
  refine ld_cv hs3 ?_
  exact L12 _ 0 (σ (16 + k)) (Nat.lt_succ_self _) (Nat.zero_le _) (fun x hx => absurd hx (Nat.not_lt_zero x))
