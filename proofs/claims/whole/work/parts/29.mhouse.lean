theorem ld_fga_le (b c : Int32) (a : Nat) : ld_fga b c a ≤ a + 1 := by unfold ld_fga; split <;> omega
theorem ld_FL.not {C : Nat → Int32} {n a b : Nat} (h : ld_FL C n a) (hab : a < b) : ¬ ld_GG C n b := fun g => h.2.2.1 (g a hab).1 (g a hab).2
theorem ld_goA {c : Int32} : ld_go 0 c ↔ c.toInt = 108 := by
  unfold ld_go
  rw [if_pos rfl]
  exact ⟨fun z => z.2, fun z => ⟨by omega, z⟩⟩
theorem ld_goB {p : Nat} (h0 : 0 < p) (h3 : p < 3) {c : Int32} : ld_go p c ↔ ld_dg c := by
  unfold ld_go
  rw [if_neg (by omega), if_pos h3]
  exact ⟨fun z => z.2, fun z => ⟨by omega, z⟩⟩
theorem ld_crx (x y : Int32) : nI 10 * x + (y - nI 48) = x * nI 10 + y - nI 48 := by
  rw [Int32.mul_comm, Int32.sub_eq_add_neg, Int32.sub_eq_add_neg, Int32.add_assoc]
theorem ld_nofull {b c c2 : Int32} {a : Nat} (h : ¬ 0 ≤ (ld_fgr (ld_fgr b c) c2).toInt) (q : a + 2 ≤ ld_fga (ld_fgr b c) c2 (ld_fga b c a)) : False := by
  have l1 := ld_fga_le b c a
  unfold ld_fga at q
  split at q
  · rename_i e
    refine h ?_
    have e2 : ld_fgr (ld_fgr b c) c2 = c2 - nI 48 := if_pos e
    rw [e2]
    exact ((ld_dgs c2).mpr e.2).1
  · exact absurd q (by unfold ld_fga at l1; omega)
set_option maxHeartbeats 4000000 in
set_option maxRecDepth 100000 in
theorem c_X3_readsHouse (l : Launch) (ad : Nat → Nat) (σ : ld_St) (C : Nat → Int32) (i0 n : Nat) (hC : ∀ z, σ 36 (i0 + z) = C z) (hb : i0 + n ≤ 240) (n60 : n ≤ 60) (m : Nat) (m8 : m ≤ 8) (ha : σ 144 0 = nI (3 + 4 * m)) (hm : σ 145 0 = nI m) (hg : ld_GG C n (3 + 4 * m)) (hpre : m < 1 ∨ 3 + 4 * m < n) : ld_Ctr l yX3_readsHouse cX3_readsHouse 6 (some .boolean) (2, 50) [.ref (ad 8), .int (nI i0), .int (nI n)] ad σ (ld_I (fun (r : Int32) (σ2 : ld_St) => r = ld_b (ld_GG C n (3 + 4 * m + 4)) ∧ ∃ (a2 m2 : Nat) (f24 f25 f26 fa fm : Nat → Int32), σ2 = us (us (us (us (us σ 24 f24) 25 f25) 26 f26) 144 fa) 145 fm ∧ fa 0 = nI a2 ∧ fm 0 = nI m2 ∧ ((ld_GG C n (3 + 4 * m + 4)) → a2 = 3 + 4 * m + 4 ∧ m2 = m + 1 ∧ f24 = upd (σ 24) m (ld_kl (C (3 + 4 * m + 1))) ∧ f25 = upd (σ 25) m (C (3 + 4 * m + 2) - nI 48) ∧ f26 = upd (σ 26) m (C (3 + 4 * m + 3) - nI 48)) ∧ (¬ (ld_GG C n (3 + 4 * m + 4)) → ld_FL C n a2))) := by
  refine ld_entry (by decide +kernel) (Nat.le_of_ble_eq_true rfl) (fun K O E => ?_)
  have O : ld_Ok l K ad cX3_readsHouse 6 RX3 (ld_rm (2, 50)) := O
  show K σ [(0, .ref (ad 8)), (1, .int (nI i0)), (2, .int (nI n))] [] 0
  refine ld_aload_n O (pc := 0) 0 dX3_readsHouse_0 rfl rfl ?_
  refine ld_g_M_readHouses O (pc := 1) (v := nI m) ld_w118 hm dX3_readsHouse_1 ?_
  refine ld_bipush O (pc := 4) (v := nI 8) dX3_readsHouse_4 (by decide) ?_
  refine ld_icmp_eq O (pc := 6) ((m : Nat) : Int) 8 (nI_toInt (by omega)) (by decide) 20 dX3_readsHouse_6 (by decide) (fun c1 => ?_) (fun c1 => ?_)
  · refine ld_iconst O (pc := 20) (v := nI 0) dX3_readsHouse_20 (by decide) ?_
    refine ld_iretz E (Or.inl rfl) dX3_readsHouse_21 ?_
    have hF_ : ld_FL C n (3 + 4 * m) := by
      first
      | exact hg.fl (T := fun c => c.toInt = 59) (by assumption) (fun c z => (ld_go0 (by omega)).mp z) (fun z w => by unfold ld_mo at w; omega)
      | exact ⟨hg.le, hg, fun _ z => absurd z.1 (by omega), fun z w => by omega⟩
    refine ⟨(ld_b_f (hF_.not (by omega))).symm, 3 + 4 * m, m, σ 24, σ 25, σ 26, σ 144, σ 145, ?_, ha, hm, fun z => absurd z (hF_.not (by omega)), fun _ => hF_⟩
    funext b_
    by_cases h0_ : b_ = 24
    · subst h0_; exact (rfl).trans ((us_ne _ _ (by decide)).trans ((us_ne _ _ (by decide)).trans ((us_ne _ _ (by decide)).trans ((us_ne _ _ (by decide)).trans (us_eq _ _ _))))).symm
    by_cases h1_ : b_ = 25
    · subst h1_; exact (rfl).trans ((us_ne _ _ (by decide)).trans ((us_ne _ _ (by decide)).trans ((us_ne _ _ (by decide)).trans (us_eq _ _ _)))).symm
    by_cases h2_ : b_ = 26
    · subst h2_; exact (rfl).trans ((us_ne _ _ (by decide)).trans ((us_ne _ _ (by decide)).trans (us_eq _ _ _))).symm
    by_cases h3_ : b_ = 144
    · subst h3_; exact (rfl).trans ((us_ne _ _ (by decide)).trans (us_eq _ _ _)).symm
    by_cases h4_ : b_ = 145
    · subst h4_; exact (rfl).trans (us_eq _ _ _).symm
    simp only [us, h0_, h1_, h2_, h3_, h4_, if_false]
  · refine ld_aload_n O (pc := 9) 0 dX3_readsHouse_9 rfl rfl ?_
    refine ld_iload_n O (pc := 10) 1 dX3_readsHouse_10 rfl rfl ?_
    refine ld_iload_n O (pc := 11) 2 dX3_readsHouse_11 rfl rfl ?_
    refine ld_callVi O (pc := 12) (As := [.int (nI i0), .int (nI n)]) (st := []) ld_recv8 (c_X3_codeAt l ad σ C i0 n hC hb n60 (3 + 4 * m) ha (by omega)) ld_mw_X3_codeAt ld_w151 rfl rfl ⟨by decide, by decide⟩ (Nat.le_of_ble_eq_true rfl) dX3_readsHouse_12 (fun r_p12 σ_p12 h_p12 => ?_)
    obtain ⟨rfl, hσ_p12⟩ := h_p12
    rw [hσ_p12]
    show K σ [(0, .ref (ad 8)), (1, .int (nI i0)), (2, .int (nI n))] [.int (ld_ca C n (3 + 4 * m))] 15
    refine ld_bipush O (pc := 15) (v := nI 59) dX3_readsHouse_15 (by decide) ?_
    refine ld_icmp_eq O (pc := 17) (ld_ca C n (3 + 4 * m)).toInt 59 rfl (by decide) 22 dX3_readsHouse_17 (by decide) (fun c2 => ?_) (fun c2 => ?_)
    · refine ld_aload_n O (pc := 22) 0 dX3_readsHouse_22 rfl rfl ?_
      refine ld_dup O (pc := 23) dX3_readsHouse_23 rfl ?_
      refine ld_g_M_readAt O (pc := 24) (v := nI (3 + 4 * m)) ld_w117 ha dX3_readsHouse_24 ?_
      refine ld_iconst O (pc := 27) (v := nI 1) dX3_readsHouse_27 (by decide) ?_
      refine ld_iaddN O (pc := 28) dX3_readsHouse_28 ?_
      refine ld_p_M_readAt O (pc := 29) ld_w117 dX3_readsHouse_29 ?_
      refine ld_aload_n O (pc := 32) 0 dX3_readsHouse_32 rfl rfl ?_
      refine ld_iload_n O (pc := 33) 1 dX3_readsHouse_33 rfl rfl ?_
      refine ld_iload_n O (pc := 34) 2 dX3_readsHouse_34 rfl rfl ?_
      refine ld_callVi O (pc := 35) (As := [.int (nI i0), .int (nI n)]) (st := []) ld_recv8 (c_X3_codeAt l ad (us σ 144 (fun _ => nI ((3 + 4 * m) + 1))) C i0 n hC hb n60 ((3 + 4 * m) + 1) rfl (by omega)) ld_mw_X3_codeAt ld_w151 rfl rfl ⟨by decide, by decide⟩ (Nat.le_of_ble_eq_true rfl) dX3_readsHouse_35 (fun r_p35 σ_p35 h_p35 => ?_)
      obtain ⟨rfl, hσ_p35⟩ := h_p35
      rw [hσ_p35]
      show K (us σ 144 (fun _ => nI ((3 + 4 * m) + 1))) [(0, .ref (ad 8)), (1, .int (nI i0)), (2, .int (nI n))] [.int (ld_ca C n ((3 + 4 * m) + 1))] 38
      refine ld_istore_n O (pc := 38) [(3, .int (ld_ca C n ((3 + 4 * m) + 1))), (0, .ref (ad 8)), (1, .int (nI i0)), (2, .int (nI n))] dX3_readsHouse_38 rfl (by decide) rfl ?_
      refine ld_iload_n O (pc := 39) 0 dX3_readsHouse_39 rfl rfl ?_
      refine ld_bipush O (pc := 40) (v := nI 112) dX3_readsHouse_40 (by decide) ?_
      refine ld_icmp_eq O (pc := 42) (ld_ca C n ((3 + 4 * m) + 1)).toInt 112 rfl (by decide) 59 dX3_readsHouse_42 (by decide) (fun c3 => ?_) (fun c3 => ?_)
      · refine ld_aload_n O (pc := 59) 1 dX3_readsHouse_59 rfl rfl ?_
        refine ld_dup O (pc := 60) dX3_readsHouse_60 rfl ?_
        refine ld_g_M_readAt O (pc := 61) (v := nI ((3 + 4 * m) + 1)) ld_w117 rfl dX3_readsHouse_61 ?_
        refine ld_iconst O (pc := 64) (v := nI 1) dX3_readsHouse_64 (by decide) ?_
        refine ld_iaddN O (pc := 65) dX3_readsHouse_65 ?_
        refine ld_p_M_readAt O (pc := 66) ld_w117 dX3_readsHouse_66 ?_
        refine ld_aload_n O (pc := 69) 1 dX3_readsHouse_69 rfl rfl ?_
        refine ld_iload_n O (pc := 70) 2 dX3_readsHouse_70 rfl rfl ?_
        refine ld_iload_n O (pc := 71) 3 dX3_readsHouse_71 rfl rfl ?_
        refine ld_iconst O (pc := 72) (v := nI 0) dX3_readsHouse_72 (by decide) ?_
        refine ld_callVi O (pc := 73) (As := [.int (nI i0), .int (nI n), .int (nI 0)]) (st := []) ld_recv8 (c_X3_figure l ad (us (us σ 144 (fun _ => nI ((3 + 4 * m) + 1))) 144 (fun _ => nI (((3 + 4 * m) + 1) + 1))) C i0 n hC hb n60 (((3 + 4 * m) + 1) + 1) rfl (by omega) (nI 0)) ld_mw_X3_figure ld_w155 rfl rfl ⟨by decide, by decide⟩ (Nat.le_of_ble_eq_true rfl) dX3_readsHouse_73 (fun r_p73 σ_p73 h_p73 => ?_)
        obtain ⟨rfl, hσ_p73⟩ := h_p73
        rw [hσ_p73]
        show K (us (us (us σ 144 (fun _ => nI ((3 + 4 * m) + 1))) 144 (fun _ => nI (((3 + 4 * m) + 1) + 1))) 144 (fun _ => nI (ld_fga (nI 0) (ld_ca C n (((3 + 4 * m) + 1) + 1)) (((3 + 4 * m) + 1) + 1)))) [(3, .int (ld_ca C n ((3 + 4 * m) + 1))), (0, .ref (ad 8)), (1, .int (nI i0)), (2, .int (nI n))] [.int (ld_fgr (nI 0) (ld_ca C n (((3 + 4 * m) + 1) + 1)))] 76
        refine ld_istore O (pc := 76) [(4, .int (ld_fgr (nI 0) (ld_ca C n (((3 + 4 * m) + 1) + 1)))), (3, .int (ld_ca C n ((3 + 4 * m) + 1))), (0, .ref (ad 8)), (1, .int (nI i0)), (2, .int (nI n))] dX3_readsHouse_76 (by decide) rfl ?_
        refine ld_aload_n O (pc := 78) 2 dX3_readsHouse_78 rfl rfl ?_
        refine ld_iload_n O (pc := 79) 3 dX3_readsHouse_79 rfl rfl ?_
        refine ld_iload_n O (pc := 80) 4 dX3_readsHouse_80 rfl rfl ?_
        refine ld_iload O (pc := 81) 0 dX3_readsHouse_81 rfl ?_
        refine ld_callVi O (pc := 83) (As := [.int (nI i0), .int (nI n), .int (ld_fgr (nI 0) (ld_ca C n (((3 + 4 * m) + 1) + 1)))]) (st := []) ld_recv8 (c_X3_figure l ad (us (us (us σ 144 (fun _ => nI ((3 + 4 * m) + 1))) 144 (fun _ => nI (((3 + 4 * m) + 1) + 1))) 144 (fun _ => nI (ld_fga (nI 0) (ld_ca C n (((3 + 4 * m) + 1) + 1)) (((3 + 4 * m) + 1) + 1)))) C i0 n hC hb n60 (ld_fga (nI 0) (ld_ca C n (((3 + 4 * m) + 1) + 1)) (((3 + 4 * m) + 1) + 1)) rfl (Nat.le_trans (ld_fga_le _ _ _) (by omega)) (ld_fgr (nI 0) (ld_ca C n (((3 + 4 * m) + 1) + 1)))) ld_mw_X3_figure ld_w155 rfl rfl ⟨by decide, by decide⟩ (Nat.le_of_ble_eq_true rfl) dX3_readsHouse_83 (fun r_p83 σ_p83 h_p83 => ?_)
        obtain ⟨rfl, hσ_p83⟩ := h_p83
        rw [hσ_p83]
        show K (us (us (us (us σ 144 (fun _ => nI ((3 + 4 * m) + 1))) 144 (fun _ => nI (((3 + 4 * m) + 1) + 1))) 144 (fun _ => nI (ld_fga (nI 0) (ld_ca C n (((3 + 4 * m) + 1) + 1)) (((3 + 4 * m) + 1) + 1)))) 144 (fun _ => nI (ld_fga (ld_fgr (nI 0) (ld_ca C n (((3 + 4 * m) + 1) + 1))) (ld_ca C n (ld_fga (nI 0) (ld_ca C n (((3 + 4 * m) + 1) + 1)) (((3 + 4 * m) + 1) + 1))) (ld_fga (nI 0) (ld_ca C n (((3 + 4 * m) + 1) + 1)) (((3 + 4 * m) + 1) + 1))))) [(4, .int (ld_fgr (nI 0) (ld_ca C n (((3 + 4 * m) + 1) + 1)))), (3, .int (ld_ca C n ((3 + 4 * m) + 1))), (0, .ref (ad 8)), (1, .int (nI i0)), (2, .int (nI n))] [.int (ld_fgr (ld_fgr (nI 0) (ld_ca C n (((3 + 4 * m) + 1) + 1))) (ld_ca C n (ld_fga (nI 0) (ld_ca C n (((3 + 4 * m) + 1) + 1)) (((3 + 4 * m) + 1) + 1))))] 86
        refine ld_istore O (pc := 86) [(5, .int (ld_fgr (ld_fgr (nI 0) (ld_ca C n (((3 + 4 * m) + 1) + 1))) (ld_ca C n (ld_fga (nI 0) (ld_ca C n (((3 + 4 * m) + 1) + 1)) (((3 + 4 * m) + 1) + 1))))), (4, .int (ld_fgr (nI 0) (ld_ca C n (((3 + 4 * m) + 1) + 1)))), (3, .int (ld_ca C n ((3 + 4 * m) + 1))), (0, .ref (ad 8)), (1, .int (nI i0)), (2, .int (nI n))] dX3_readsHouse_86 (by decide) rfl ?_
        refine ld_aload_n O (pc := 88) 3 dX3_readsHouse_88 rfl rfl ?_
        refine ld_g_M_readKind O (pc := 89) ld_w55 dX3_readsHouse_89 ?_
        refine ld_aload_n O (pc := 92) 3 dX3_readsHouse_92 rfl rfl ?_
        refine ld_g_M_readHouses O (pc := 93) (v := nI m) ld_w118 hm dX3_readsHouse_93 ?_
        refine ld_iload_n O (pc := 96) 2 dX3_readsHouse_96 rfl rfl ?_
        refine ld_bipush O (pc := 97) (v := nI 112) dX3_readsHouse_97 (by decide) ?_
        refine ld_icmp_ne O (pc := 99) (ld_ca C n ((3 + 4 * m) + 1)).toInt 112 rfl (by decide) 106 dX3_readsHouse_99 (by decide) (fun z => absurd c3 z) (fun c4 => ?_)
        refine ld_iconst O (pc := 102) (v := nI 0) dX3_readsHouse_102 (by decide) ?_
        refine ld_goto O (pc := 103) 117 dX3_readsHouse_103 (by decide) ?_
        refine ld_iast O (pc := 117) 24 m rfl (by decide) (show m < 8 by omega) dX3_readsHouse_117 ?_
        refine ld_aload_n O (pc := 118) 3 dX3_readsHouse_118 rfl rfl ?_
        refine ld_g_M_readTemper O (pc := 119) ld_w56 dX3_readsHouse_119 ?_
        refine ld_aload_n O (pc := 122) 3 dX3_readsHouse_122 rfl rfl ?_
        refine ld_g_M_readHouses O (pc := 123) (v := nI m) ld_w118 hm dX3_readsHouse_123 ?_
        refine ld_iload O (pc := 126) 1 dX3_readsHouse_126 rfl ?_
        refine ld_iast O (pc := 128) 25 m rfl (by decide) (show m < 8 by omega) dX3_readsHouse_128 ?_
        refine ld_aload_n O (pc := 129) 3 dX3_readsHouse_129 rfl rfl ?_
        refine ld_g_M_readStock O (pc := 130) ld_w57 dX3_readsHouse_130 ?_
        refine ld_aload_n O (pc := 133) 3 dX3_readsHouse_133 rfl rfl ?_
        refine ld_g_M_readHouses O (pc := 134) (v := nI m) ld_w118 hm dX3_readsHouse_134 ?_
        refine ld_iload O (pc := 137) 0 dX3_readsHouse_137 rfl ?_
        refine ld_iast O (pc := 139) 26 m rfl (by decide) (show m < 8 by omega) dX3_readsHouse_139 ?_
        refine ld_aload_n O (pc := 140) 3 dX3_readsHouse_140 rfl rfl ?_
        refine ld_dup O (pc := 141) dX3_readsHouse_141 rfl ?_
        refine ld_g_M_readHouses O (pc := 142) (v := nI m) ld_w118 hm dX3_readsHouse_142 ?_
        refine ld_iconst O (pc := 145) (v := nI 1) dX3_readsHouse_145 (by decide) ?_
        refine ld_iaddN O (pc := 146) dX3_readsHouse_146 ?_
        refine ld_p_M_readHouses O (pc := 147) ld_w118 dX3_readsHouse_147 ?_
        refine ld_iload O (pc := 150) 0 dX3_readsHouse_150 rfl ?_
        refine ld_if_lt O (pc := 152) (ld_fgr (ld_fgr (nI 0) (ld_ca C n (((3 + 4 * m) + 1) + 1))) (ld_ca C n (ld_fga (nI 0) (ld_ca C n (((3 + 4 * m) + 1) + 1)) (((3 + 4 * m) + 1) + 1)))).toInt rfl 159 dX3_readsHouse_152 (by decide) (fun c5 => ?_) (fun c5 => ?_)
        · refine ld_iconst O (pc := 159) (v := nI 0) dX3_readsHouse_159 (by decide) ?_
          refine ld_iretz E (Or.inl rfl) dX3_readsHouse_160 ?_
          have h59_ : (ld_ca C n (3 + 4 * m)).toInt = 59 := by assumption
          obtain ⟨g1_, e1_⟩ := hg.up (T := fun c => c.toInt = 59) h59_ (fun c z => (ld_go0 (by omega)).mpr z) (by decide)
          have hk_ : ld_kl (ld_ca C n (3 + 4 * m + 1)) = nI 0 := by
            unfold ld_kl
            repeat' split
            all_goals first | (exfalso; omega) | rfl
          obtain ⟨g2_, e2_⟩ := g1_.up (T := fun c => ¬ (ld_kl c).toInt = -9) (by rw [hk_]; decide) (fun c z => (ld_go1 (by omega)).mpr z) (by decide)
          have two_ := ld_two g2_ (fun c => ld_go2 (by omega)) (fun c => ld_go3 (by omega)) (fun z w => by unfold ld_mo at w; omega) (fun z w => by unfold ld_mo at w; omega)
          have hF_ := two_.2 (fun z => by omega)
          have le1_ := ld_fga_le (nI 0) (ld_ca C n (3 + 4 * m + 1 + 1)) (3 + 4 * m + 1 + 1)
          have hlt_ := hF_.2.1
          have hno_ : ¬ ld_GG C n (3 + 4 * m + 4) := fun g => by
            have le2_ := ld_fga_le (ld_fgr (nI 0) (ld_ca C n (3 + 4 * m + 1 + 1))) (ld_ca C n (ld_fga (nI 0) (ld_ca C n (3 + 4 * m + 1 + 1)) (3 + 4 * m + 1 + 1))) (ld_fga (nI 0) (ld_ca C n (3 + 4 * m + 1 + 1)) (3 + 4 * m + 1 + 1))
            by_cases q : ld_fga (ld_fgr (nI 0) (ld_ca C n (3 + 4 * m + 1 + 1))) (ld_ca C n (ld_fga (nI 0) (ld_ca C n (3 + 4 * m + 1 + 1)) (3 + 4 * m + 1 + 1))) (ld_fga (nI 0) (ld_ca C n (3 + 4 * m + 1 + 1)) (3 + 4 * m + 1 + 1)) < 3 + 4 * m + 4
            · exact hF_.not q g
            · exact ld_nofull (a := 3 + 4 * m + 1 + 1) (Int.not_le.mpr c5) (by omega)
          refine ⟨(ld_b_f hno_).symm, _, m + 1, upd (σ 24) m (nI 0), upd (σ 25) m (ld_fgr (nI 0) (ld_ca C n (((3 + 4 * m) + 1) + 1))), upd (σ 26) m (ld_fgr (ld_fgr (nI 0) (ld_ca C n (((3 + 4 * m) + 1) + 1))) (ld_ca C n (ld_fga (nI 0) (ld_ca C n (((3 + 4 * m) + 1) + 1)) (((3 + 4 * m) + 1) + 1)))), fun _ => nI (ld_fga (ld_fgr (nI 0) (ld_ca C n (((3 + 4 * m) + 1) + 1))) (ld_ca C n (ld_fga (nI 0) (ld_ca C n (((3 + 4 * m) + 1) + 1)) (((3 + 4 * m) + 1) + 1))) (ld_fga (nI 0) (ld_ca C n (((3 + 4 * m) + 1) + 1)) (((3 + 4 * m) + 1) + 1))), fun _ => nI (m + 1), ?_, rfl, rfl, fun z => absurd z hno_, fun _ => hF_⟩
          funext b_
          by_cases h0_ : b_ = 144
          · subst h0_; exact ((us_ne _ _ (by decide)).trans ((us_ne _ _ (by decide)).trans ((us_ne _ _ (by decide)).trans ((us_ne _ _ (by decide)).trans (us_eq _ _ _))))).trans ((us_ne _ _ (by decide)).trans (us_eq _ _ _)).symm
          by_cases h1_ : b_ = 24
          · subst h1_; exact ((us_ne _ _ (by decide)).trans ((us_ne _ _ (by decide)).trans ((us_ne _ _ (by decide)).trans (us_eq _ _ _)))).trans ((us_ne _ _ (by decide)).trans ((us_ne _ _ (by decide)).trans ((us_ne _ _ (by decide)).trans ((us_ne _ _ (by decide)).trans (us_eq _ _ _))))).symm
          by_cases h2_ : b_ = 25
          · subst h2_; exact ((us_ne _ _ (by decide)).trans ((us_ne _ _ (by decide)).trans (us_eq _ _ _))).trans ((us_ne _ _ (by decide)).trans ((us_ne _ _ (by decide)).trans ((us_ne _ _ (by decide)).trans (us_eq _ _ _)))).symm
          by_cases h3_ : b_ = 26
          · subst h3_; exact ((us_ne _ _ (by decide)).trans (us_eq _ _ _)).trans ((us_ne _ _ (by decide)).trans ((us_ne _ _ (by decide)).trans (us_eq _ _ _))).symm
          by_cases h4_ : b_ = 145
          · subst h4_; exact (us_eq _ _ _).trans (us_eq _ _ _).symm
          simp only [us, h0_, h1_, h2_, h3_, h4_, if_false]
        · refine ld_iconst O (pc := 155) (v := nI 1) dX3_readsHouse_155 (by decide) ?_
          refine ld_goto O (pc := 156) 160 dX3_readsHouse_156 (by decide) ?_
          refine ld_iretz E (Or.inr rfl) dX3_readsHouse_160 ?_
          have h59_ : (ld_ca C n (3 + 4 * m)).toInt = 59 := by assumption
          obtain ⟨g1_, e1_⟩ := hg.up (T := fun c => c.toInt = 59) h59_ (fun c z => (ld_go0 (by omega)).mpr z) (by decide)
          have hk_ : ld_kl (ld_ca C n (3 + 4 * m + 1)) = nI 0 := by
            unfold ld_kl
            repeat' split
            all_goals first | (exfalso; omega) | rfl
          obtain ⟨g2_, e2_⟩ := g1_.up (T := fun c => ¬ (ld_kl c).toInt = -9) (by rw [hk_]; decide) (fun c z => (ld_go1 (by omega)).mpr z) (by decide)
          have two_ := ld_two g2_ (fun c => ld_go2 (by omega)) (fun c => ld_go3 (by omega)) (fun z w => by unfold ld_mo at w; omega) (fun z w => by unfold ld_mo at w; omega)
          obtain ⟨w1_, w2_, w3_, w4_⟩ := two_.1 (Int.not_lt.mp c5)
          refine ⟨(ld_b_t w2_).symm, _, m + 1, upd (σ 24) m (nI 0), upd (σ 25) m (ld_fgr (nI 0) (ld_ca C n (((3 + 4 * m) + 1) + 1))), upd (σ 26) m (ld_fgr (ld_fgr (nI 0) (ld_ca C n (((3 + 4 * m) + 1) + 1))) (ld_ca C n (ld_fga (nI 0) (ld_ca C n (((3 + 4 * m) + 1) + 1)) (((3 + 4 * m) + 1) + 1)))), fun _ => nI (ld_fga (ld_fgr (nI 0) (ld_ca C n (((3 + 4 * m) + 1) + 1))) (ld_ca C n (ld_fga (nI 0) (ld_ca C n (((3 + 4 * m) + 1) + 1)) (((3 + 4 * m) + 1) + 1))) (ld_fga (nI 0) (ld_ca C n (((3 + 4 * m) + 1) + 1)) (((3 + 4 * m) + 1) + 1))), fun _ => nI (m + 1), ?_, rfl, rfl, fun _ => ⟨w1_, rfl, ?_, ?_, ?_⟩, fun z => absurd w2_ z⟩
          · funext b_
            by_cases h0_ : b_ = 144
            · subst h0_; exact ((us_ne _ _ (by decide)).trans ((us_ne _ _ (by decide)).trans ((us_ne _ _ (by decide)).trans ((us_ne _ _ (by decide)).trans (us_eq _ _ _))))).trans ((us_ne _ _ (by decide)).trans (us_eq _ _ _)).symm
            by_cases h1_ : b_ = 24
            · subst h1_; exact ((us_ne _ _ (by decide)).trans ((us_ne _ _ (by decide)).trans ((us_ne _ _ (by decide)).trans (us_eq _ _ _)))).trans ((us_ne _ _ (by decide)).trans ((us_ne _ _ (by decide)).trans ((us_ne _ _ (by decide)).trans ((us_ne _ _ (by decide)).trans (us_eq _ _ _))))).symm
            by_cases h2_ : b_ = 25
            · subst h2_; exact ((us_ne _ _ (by decide)).trans ((us_ne _ _ (by decide)).trans (us_eq _ _ _))).trans ((us_ne _ _ (by decide)).trans ((us_ne _ _ (by decide)).trans ((us_ne _ _ (by decide)).trans (us_eq _ _ _)))).symm
            by_cases h3_ : b_ = 26
            · subst h3_; exact ((us_ne _ _ (by decide)).trans (us_eq _ _ _)).trans ((us_ne _ _ (by decide)).trans ((us_ne _ _ (by decide)).trans (us_eq _ _ _))).symm
            by_cases h4_ : b_ = 145
            · subst h4_; exact (us_eq _ _ _).trans (us_eq _ _ _).symm
            simp only [us, h0_, h1_, h2_, h3_, h4_, if_false]
          · rw [← e2_, hk_]
          · exact congrArg (upd (σ 25) m) w3_
          · exact congrArg (upd (σ 26) m) w4_
      · refine ld_iload_n O (pc := 45) 0 dX3_readsHouse_45 rfl rfl ?_
        refine ld_bipush O (pc := 46) (v := nI 116) dX3_readsHouse_46 (by decide) ?_
        refine ld_icmp_eq O (pc := 48) (ld_ca C n ((3 + 4 * m) + 1)).toInt 116 rfl (by decide) 59 dX3_readsHouse_48 (by decide) (fun c6 => ?_) (fun c6 => ?_)
        · refine ld_aload_n O (pc := 59) 1 dX3_readsHouse_59 rfl rfl ?_
          refine ld_dup O (pc := 60) dX3_readsHouse_60 rfl ?_
          refine ld_g_M_readAt O (pc := 61) (v := nI ((3 + 4 * m) + 1)) ld_w117 rfl dX3_readsHouse_61 ?_
          refine ld_iconst O (pc := 64) (v := nI 1) dX3_readsHouse_64 (by decide) ?_
          refine ld_iaddN O (pc := 65) dX3_readsHouse_65 ?_
          refine ld_p_M_readAt O (pc := 66) ld_w117 dX3_readsHouse_66 ?_
          refine ld_aload_n O (pc := 69) 1 dX3_readsHouse_69 rfl rfl ?_
          refine ld_iload_n O (pc := 70) 2 dX3_readsHouse_70 rfl rfl ?_
          refine ld_iload_n O (pc := 71) 3 dX3_readsHouse_71 rfl rfl ?_
          refine ld_iconst O (pc := 72) (v := nI 0) dX3_readsHouse_72 (by decide) ?_
          refine ld_callVi O (pc := 73) (As := [.int (nI i0), .int (nI n), .int (nI 0)]) (st := []) ld_recv8 (c_X3_figure l ad (us (us σ 144 (fun _ => nI ((3 + 4 * m) + 1))) 144 (fun _ => nI (((3 + 4 * m) + 1) + 1))) C i0 n hC hb n60 (((3 + 4 * m) + 1) + 1) rfl (by omega) (nI 0)) ld_mw_X3_figure ld_w155 rfl rfl ⟨by decide, by decide⟩ (Nat.le_of_ble_eq_true rfl) dX3_readsHouse_73 (fun r_p73 σ_p73 h_p73 => ?_)
          obtain ⟨rfl, hσ_p73⟩ := h_p73
          rw [hσ_p73]
          show K (us (us (us σ 144 (fun _ => nI ((3 + 4 * m) + 1))) 144 (fun _ => nI (((3 + 4 * m) + 1) + 1))) 144 (fun _ => nI (ld_fga (nI 0) (ld_ca C n (((3 + 4 * m) + 1) + 1)) (((3 + 4 * m) + 1) + 1)))) [(3, .int (ld_ca C n ((3 + 4 * m) + 1))), (0, .ref (ad 8)), (1, .int (nI i0)), (2, .int (nI n))] [.int (ld_fgr (nI 0) (ld_ca C n (((3 + 4 * m) + 1) + 1)))] 76
          refine ld_istore O (pc := 76) [(4, .int (ld_fgr (nI 0) (ld_ca C n (((3 + 4 * m) + 1) + 1)))), (3, .int (ld_ca C n ((3 + 4 * m) + 1))), (0, .ref (ad 8)), (1, .int (nI i0)), (2, .int (nI n))] dX3_readsHouse_76 (by decide) rfl ?_
          refine ld_aload_n O (pc := 78) 2 dX3_readsHouse_78 rfl rfl ?_
          refine ld_iload_n O (pc := 79) 3 dX3_readsHouse_79 rfl rfl ?_
          refine ld_iload_n O (pc := 80) 4 dX3_readsHouse_80 rfl rfl ?_
          refine ld_iload O (pc := 81) 0 dX3_readsHouse_81 rfl ?_
          refine ld_callVi O (pc := 83) (As := [.int (nI i0), .int (nI n), .int (ld_fgr (nI 0) (ld_ca C n (((3 + 4 * m) + 1) + 1)))]) (st := []) ld_recv8 (c_X3_figure l ad (us (us (us σ 144 (fun _ => nI ((3 + 4 * m) + 1))) 144 (fun _ => nI (((3 + 4 * m) + 1) + 1))) 144 (fun _ => nI (ld_fga (nI 0) (ld_ca C n (((3 + 4 * m) + 1) + 1)) (((3 + 4 * m) + 1) + 1)))) C i0 n hC hb n60 (ld_fga (nI 0) (ld_ca C n (((3 + 4 * m) + 1) + 1)) (((3 + 4 * m) + 1) + 1)) rfl (Nat.le_trans (ld_fga_le _ _ _) (by omega)) (ld_fgr (nI 0) (ld_ca C n (((3 + 4 * m) + 1) + 1)))) ld_mw_X3_figure ld_w155 rfl rfl ⟨by decide, by decide⟩ (Nat.le_of_ble_eq_true rfl) dX3_readsHouse_83 (fun r_p83 σ_p83 h_p83 => ?_)
          obtain ⟨rfl, hσ_p83⟩ := h_p83
          rw [hσ_p83]
          show K (us (us (us (us σ 144 (fun _ => nI ((3 + 4 * m) + 1))) 144 (fun _ => nI (((3 + 4 * m) + 1) + 1))) 144 (fun _ => nI (ld_fga (nI 0) (ld_ca C n (((3 + 4 * m) + 1) + 1)) (((3 + 4 * m) + 1) + 1)))) 144 (fun _ => nI (ld_fga (ld_fgr (nI 0) (ld_ca C n (((3 + 4 * m) + 1) + 1))) (ld_ca C n (ld_fga (nI 0) (ld_ca C n (((3 + 4 * m) + 1) + 1)) (((3 + 4 * m) + 1) + 1))) (ld_fga (nI 0) (ld_ca C n (((3 + 4 * m) + 1) + 1)) (((3 + 4 * m) + 1) + 1))))) [(4, .int (ld_fgr (nI 0) (ld_ca C n (((3 + 4 * m) + 1) + 1)))), (3, .int (ld_ca C n ((3 + 4 * m) + 1))), (0, .ref (ad 8)), (1, .int (nI i0)), (2, .int (nI n))] [.int (ld_fgr (ld_fgr (nI 0) (ld_ca C n (((3 + 4 * m) + 1) + 1))) (ld_ca C n (ld_fga (nI 0) (ld_ca C n (((3 + 4 * m) + 1) + 1)) (((3 + 4 * m) + 1) + 1))))] 86
          refine ld_istore O (pc := 86) [(5, .int (ld_fgr (ld_fgr (nI 0) (ld_ca C n (((3 + 4 * m) + 1) + 1))) (ld_ca C n (ld_fga (nI 0) (ld_ca C n (((3 + 4 * m) + 1) + 1)) (((3 + 4 * m) + 1) + 1))))), (4, .int (ld_fgr (nI 0) (ld_ca C n (((3 + 4 * m) + 1) + 1)))), (3, .int (ld_ca C n ((3 + 4 * m) + 1))), (0, .ref (ad 8)), (1, .int (nI i0)), (2, .int (nI n))] dX3_readsHouse_86 (by decide) rfl ?_
          refine ld_aload_n O (pc := 88) 3 dX3_readsHouse_88 rfl rfl ?_
          refine ld_g_M_readKind O (pc := 89) ld_w55 dX3_readsHouse_89 ?_
          refine ld_aload_n O (pc := 92) 3 dX3_readsHouse_92 rfl rfl ?_
          refine ld_g_M_readHouses O (pc := 93) (v := nI m) ld_w118 hm dX3_readsHouse_93 ?_
          refine ld_iload_n O (pc := 96) 2 dX3_readsHouse_96 rfl rfl ?_
          refine ld_bipush O (pc := 97) (v := nI 112) dX3_readsHouse_97 (by decide) ?_
          refine ld_icmp_ne O (pc := 99) (ld_ca C n ((3 + 4 * m) + 1)).toInt 112 rfl (by decide) 106 dX3_readsHouse_99 (by decide) (fun c7 => ?_) (fun z => absurd z c3)
          refine ld_iload_n O (pc := 106) 2 dX3_readsHouse_106 rfl rfl ?_
          refine ld_bipush O (pc := 107) (v := nI 116) dX3_readsHouse_107 (by decide) ?_
          refine ld_icmp_ne O (pc := 109) (ld_ca C n ((3 + 4 * m) + 1)).toInt 116 rfl (by decide) 116 dX3_readsHouse_109 (by decide) (fun z => absurd c6 z) (fun c8 => ?_)
          refine ld_iconst O (pc := 112) (v := nI 1) dX3_readsHouse_112 (by decide) ?_
          refine ld_goto O (pc := 113) 117 dX3_readsHouse_113 (by decide) ?_
          refine ld_iast O (pc := 117) 24 m rfl (by decide) (show m < 8 by omega) dX3_readsHouse_117 ?_
          refine ld_aload_n O (pc := 118) 3 dX3_readsHouse_118 rfl rfl ?_
          refine ld_g_M_readTemper O (pc := 119) ld_w56 dX3_readsHouse_119 ?_
          refine ld_aload_n O (pc := 122) 3 dX3_readsHouse_122 rfl rfl ?_
          refine ld_g_M_readHouses O (pc := 123) (v := nI m) ld_w118 hm dX3_readsHouse_123 ?_
          refine ld_iload O (pc := 126) 1 dX3_readsHouse_126 rfl ?_
          refine ld_iast O (pc := 128) 25 m rfl (by decide) (show m < 8 by omega) dX3_readsHouse_128 ?_
          refine ld_aload_n O (pc := 129) 3 dX3_readsHouse_129 rfl rfl ?_
          refine ld_g_M_readStock O (pc := 130) ld_w57 dX3_readsHouse_130 ?_
          refine ld_aload_n O (pc := 133) 3 dX3_readsHouse_133 rfl rfl ?_
          refine ld_g_M_readHouses O (pc := 134) (v := nI m) ld_w118 hm dX3_readsHouse_134 ?_
          refine ld_iload O (pc := 137) 0 dX3_readsHouse_137 rfl ?_
          refine ld_iast O (pc := 139) 26 m rfl (by decide) (show m < 8 by omega) dX3_readsHouse_139 ?_
          refine ld_aload_n O (pc := 140) 3 dX3_readsHouse_140 rfl rfl ?_
          refine ld_dup O (pc := 141) dX3_readsHouse_141 rfl ?_
          refine ld_g_M_readHouses O (pc := 142) (v := nI m) ld_w118 hm dX3_readsHouse_142 ?_
          refine ld_iconst O (pc := 145) (v := nI 1) dX3_readsHouse_145 (by decide) ?_
          refine ld_iaddN O (pc := 146) dX3_readsHouse_146 ?_
          refine ld_p_M_readHouses O (pc := 147) ld_w118 dX3_readsHouse_147 ?_
          refine ld_iload O (pc := 150) 0 dX3_readsHouse_150 rfl ?_
          refine ld_if_lt O (pc := 152) (ld_fgr (ld_fgr (nI 0) (ld_ca C n (((3 + 4 * m) + 1) + 1))) (ld_ca C n (ld_fga (nI 0) (ld_ca C n (((3 + 4 * m) + 1) + 1)) (((3 + 4 * m) + 1) + 1)))).toInt rfl 159 dX3_readsHouse_152 (by decide) (fun c9 => ?_) (fun c9 => ?_)
          · refine ld_iconst O (pc := 159) (v := nI 0) dX3_readsHouse_159 (by decide) ?_
            refine ld_iretz E (Or.inl rfl) dX3_readsHouse_160 ?_
            have h59_ : (ld_ca C n (3 + 4 * m)).toInt = 59 := by assumption
            obtain ⟨g1_, e1_⟩ := hg.up (T := fun c => c.toInt = 59) h59_ (fun c z => (ld_go0 (by omega)).mpr z) (by decide)
            have hk_ : ld_kl (ld_ca C n (3 + 4 * m + 1)) = nI 1 := by
              unfold ld_kl
              repeat' split
              all_goals first | (exfalso; omega) | rfl
            obtain ⟨g2_, e2_⟩ := g1_.up (T := fun c => ¬ (ld_kl c).toInt = -9) (by rw [hk_]; decide) (fun c z => (ld_go1 (by omega)).mpr z) (by decide)
            have two_ := ld_two g2_ (fun c => ld_go2 (by omega)) (fun c => ld_go3 (by omega)) (fun z w => by unfold ld_mo at w; omega) (fun z w => by unfold ld_mo at w; omega)
            have hF_ := two_.2 (fun z => by omega)
            have le1_ := ld_fga_le (nI 0) (ld_ca C n (3 + 4 * m + 1 + 1)) (3 + 4 * m + 1 + 1)
            have hlt_ := hF_.2.1
            have hno_ : ¬ ld_GG C n (3 + 4 * m + 4) := fun g => by
              have le2_ := ld_fga_le (ld_fgr (nI 0) (ld_ca C n (3 + 4 * m + 1 + 1))) (ld_ca C n (ld_fga (nI 0) (ld_ca C n (3 + 4 * m + 1 + 1)) (3 + 4 * m + 1 + 1))) (ld_fga (nI 0) (ld_ca C n (3 + 4 * m + 1 + 1)) (3 + 4 * m + 1 + 1))
              by_cases q : ld_fga (ld_fgr (nI 0) (ld_ca C n (3 + 4 * m + 1 + 1))) (ld_ca C n (ld_fga (nI 0) (ld_ca C n (3 + 4 * m + 1 + 1)) (3 + 4 * m + 1 + 1))) (ld_fga (nI 0) (ld_ca C n (3 + 4 * m + 1 + 1)) (3 + 4 * m + 1 + 1)) < 3 + 4 * m + 4
              · exact hF_.not q g
              · exact ld_nofull (a := 3 + 4 * m + 1 + 1) (Int.not_le.mpr c9) (by omega)
            refine ⟨(ld_b_f hno_).symm, _, m + 1, upd (σ 24) m (nI 1), upd (σ 25) m (ld_fgr (nI 0) (ld_ca C n (((3 + 4 * m) + 1) + 1))), upd (σ 26) m (ld_fgr (ld_fgr (nI 0) (ld_ca C n (((3 + 4 * m) + 1) + 1))) (ld_ca C n (ld_fga (nI 0) (ld_ca C n (((3 + 4 * m) + 1) + 1)) (((3 + 4 * m) + 1) + 1)))), fun _ => nI (ld_fga (ld_fgr (nI 0) (ld_ca C n (((3 + 4 * m) + 1) + 1))) (ld_ca C n (ld_fga (nI 0) (ld_ca C n (((3 + 4 * m) + 1) + 1)) (((3 + 4 * m) + 1) + 1))) (ld_fga (nI 0) (ld_ca C n (((3 + 4 * m) + 1) + 1)) (((3 + 4 * m) + 1) + 1))), fun _ => nI (m + 1), ?_, rfl, rfl, fun z => absurd z hno_, fun _ => hF_⟩
            funext b_
            by_cases h0_ : b_ = 144
            · subst h0_; exact ((us_ne _ _ (by decide)).trans ((us_ne _ _ (by decide)).trans ((us_ne _ _ (by decide)).trans ((us_ne _ _ (by decide)).trans (us_eq _ _ _))))).trans ((us_ne _ _ (by decide)).trans (us_eq _ _ _)).symm
            by_cases h1_ : b_ = 24
            · subst h1_; exact ((us_ne _ _ (by decide)).trans ((us_ne _ _ (by decide)).trans ((us_ne _ _ (by decide)).trans (us_eq _ _ _)))).trans ((us_ne _ _ (by decide)).trans ((us_ne _ _ (by decide)).trans ((us_ne _ _ (by decide)).trans ((us_ne _ _ (by decide)).trans (us_eq _ _ _))))).symm
            by_cases h2_ : b_ = 25
            · subst h2_; exact ((us_ne _ _ (by decide)).trans ((us_ne _ _ (by decide)).trans (us_eq _ _ _))).trans ((us_ne _ _ (by decide)).trans ((us_ne _ _ (by decide)).trans ((us_ne _ _ (by decide)).trans (us_eq _ _ _)))).symm
            by_cases h3_ : b_ = 26
            · subst h3_; exact ((us_ne _ _ (by decide)).trans (us_eq _ _ _)).trans ((us_ne _ _ (by decide)).trans ((us_ne _ _ (by decide)).trans (us_eq _ _ _))).symm
            by_cases h4_ : b_ = 145
            · subst h4_; exact (us_eq _ _ _).trans (us_eq _ _ _).symm
            simp only [us, h0_, h1_, h2_, h3_, h4_, if_false]
          · refine ld_iconst O (pc := 155) (v := nI 1) dX3_readsHouse_155 (by decide) ?_
            refine ld_goto O (pc := 156) 160 dX3_readsHouse_156 (by decide) ?_
            refine ld_iretz E (Or.inr rfl) dX3_readsHouse_160 ?_
            have h59_ : (ld_ca C n (3 + 4 * m)).toInt = 59 := by assumption
            obtain ⟨g1_, e1_⟩ := hg.up (T := fun c => c.toInt = 59) h59_ (fun c z => (ld_go0 (by omega)).mpr z) (by decide)
            have hk_ : ld_kl (ld_ca C n (3 + 4 * m + 1)) = nI 1 := by
              unfold ld_kl
              repeat' split
              all_goals first | (exfalso; omega) | rfl
            obtain ⟨g2_, e2_⟩ := g1_.up (T := fun c => ¬ (ld_kl c).toInt = -9) (by rw [hk_]; decide) (fun c z => (ld_go1 (by omega)).mpr z) (by decide)
            have two_ := ld_two g2_ (fun c => ld_go2 (by omega)) (fun c => ld_go3 (by omega)) (fun z w => by unfold ld_mo at w; omega) (fun z w => by unfold ld_mo at w; omega)
            obtain ⟨w1_, w2_, w3_, w4_⟩ := two_.1 (Int.not_lt.mp c9)
            refine ⟨(ld_b_t w2_).symm, _, m + 1, upd (σ 24) m (nI 1), upd (σ 25) m (ld_fgr (nI 0) (ld_ca C n (((3 + 4 * m) + 1) + 1))), upd (σ 26) m (ld_fgr (ld_fgr (nI 0) (ld_ca C n (((3 + 4 * m) + 1) + 1))) (ld_ca C n (ld_fga (nI 0) (ld_ca C n (((3 + 4 * m) + 1) + 1)) (((3 + 4 * m) + 1) + 1)))), fun _ => nI (ld_fga (ld_fgr (nI 0) (ld_ca C n (((3 + 4 * m) + 1) + 1))) (ld_ca C n (ld_fga (nI 0) (ld_ca C n (((3 + 4 * m) + 1) + 1)) (((3 + 4 * m) + 1) + 1))) (ld_fga (nI 0) (ld_ca C n (((3 + 4 * m) + 1) + 1)) (((3 + 4 * m) + 1) + 1))), fun _ => nI (m + 1), ?_, rfl, rfl, fun _ => ⟨w1_, rfl, ?_, ?_, ?_⟩, fun z => absurd w2_ z⟩
            · funext b_
              by_cases h0_ : b_ = 144
              · subst h0_; exact ((us_ne _ _ (by decide)).trans ((us_ne _ _ (by decide)).trans ((us_ne _ _ (by decide)).trans ((us_ne _ _ (by decide)).trans (us_eq _ _ _))))).trans ((us_ne _ _ (by decide)).trans (us_eq _ _ _)).symm
              by_cases h1_ : b_ = 24
              · subst h1_; exact ((us_ne _ _ (by decide)).trans ((us_ne _ _ (by decide)).trans ((us_ne _ _ (by decide)).trans (us_eq _ _ _)))).trans ((us_ne _ _ (by decide)).trans ((us_ne _ _ (by decide)).trans ((us_ne _ _ (by decide)).trans ((us_ne _ _ (by decide)).trans (us_eq _ _ _))))).symm
              by_cases h2_ : b_ = 25
              · subst h2_; exact ((us_ne _ _ (by decide)).trans ((us_ne _ _ (by decide)).trans (us_eq _ _ _))).trans ((us_ne _ _ (by decide)).trans ((us_ne _ _ (by decide)).trans ((us_ne _ _ (by decide)).trans (us_eq _ _ _)))).symm
              by_cases h3_ : b_ = 26
              · subst h3_; exact ((us_ne _ _ (by decide)).trans (us_eq _ _ _)).trans ((us_ne _ _ (by decide)).trans ((us_ne _ _ (by decide)).trans (us_eq _ _ _))).symm
              by_cases h4_ : b_ = 145
              · subst h4_; exact (us_eq _ _ _).trans (us_eq _ _ _).symm
              simp only [us, h0_, h1_, h2_, h3_, h4_, if_false]
            · rw [← e2_, hk_]
            · exact congrArg (upd (σ 25) m) w3_
            · exact congrArg (upd (σ 26) m) w4_
        · refine ld_iload_n O (pc := 51) 0 dX3_readsHouse_51 rfl rfl ?_
          refine ld_bipush O (pc := 52) (v := nI 98) dX3_readsHouse_52 (by decide) ?_
          refine ld_icmp_eq O (pc := 54) (ld_ca C n ((3 + 4 * m) + 1)).toInt 98 rfl (by decide) 59 dX3_readsHouse_54 (by decide) (fun c10 => ?_) (fun c10 => ?_)
          · refine ld_aload_n O (pc := 59) 1 dX3_readsHouse_59 rfl rfl ?_
            refine ld_dup O (pc := 60) dX3_readsHouse_60 rfl ?_
            refine ld_g_M_readAt O (pc := 61) (v := nI ((3 + 4 * m) + 1)) ld_w117 rfl dX3_readsHouse_61 ?_
            refine ld_iconst O (pc := 64) (v := nI 1) dX3_readsHouse_64 (by decide) ?_
            refine ld_iaddN O (pc := 65) dX3_readsHouse_65 ?_
            refine ld_p_M_readAt O (pc := 66) ld_w117 dX3_readsHouse_66 ?_
            refine ld_aload_n O (pc := 69) 1 dX3_readsHouse_69 rfl rfl ?_
            refine ld_iload_n O (pc := 70) 2 dX3_readsHouse_70 rfl rfl ?_
            refine ld_iload_n O (pc := 71) 3 dX3_readsHouse_71 rfl rfl ?_
            refine ld_iconst O (pc := 72) (v := nI 0) dX3_readsHouse_72 (by decide) ?_
            refine ld_callVi O (pc := 73) (As := [.int (nI i0), .int (nI n), .int (nI 0)]) (st := []) ld_recv8 (c_X3_figure l ad (us (us σ 144 (fun _ => nI ((3 + 4 * m) + 1))) 144 (fun _ => nI (((3 + 4 * m) + 1) + 1))) C i0 n hC hb n60 (((3 + 4 * m) + 1) + 1) rfl (by omega) (nI 0)) ld_mw_X3_figure ld_w155 rfl rfl ⟨by decide, by decide⟩ (Nat.le_of_ble_eq_true rfl) dX3_readsHouse_73 (fun r_p73 σ_p73 h_p73 => ?_)
            obtain ⟨rfl, hσ_p73⟩ := h_p73
            rw [hσ_p73]
            show K (us (us (us σ 144 (fun _ => nI ((3 + 4 * m) + 1))) 144 (fun _ => nI (((3 + 4 * m) + 1) + 1))) 144 (fun _ => nI (ld_fga (nI 0) (ld_ca C n (((3 + 4 * m) + 1) + 1)) (((3 + 4 * m) + 1) + 1)))) [(3, .int (ld_ca C n ((3 + 4 * m) + 1))), (0, .ref (ad 8)), (1, .int (nI i0)), (2, .int (nI n))] [.int (ld_fgr (nI 0) (ld_ca C n (((3 + 4 * m) + 1) + 1)))] 76
            refine ld_istore O (pc := 76) [(4, .int (ld_fgr (nI 0) (ld_ca C n (((3 + 4 * m) + 1) + 1)))), (3, .int (ld_ca C n ((3 + 4 * m) + 1))), (0, .ref (ad 8)), (1, .int (nI i0)), (2, .int (nI n))] dX3_readsHouse_76 (by decide) rfl ?_
            refine ld_aload_n O (pc := 78) 2 dX3_readsHouse_78 rfl rfl ?_
            refine ld_iload_n O (pc := 79) 3 dX3_readsHouse_79 rfl rfl ?_
            refine ld_iload_n O (pc := 80) 4 dX3_readsHouse_80 rfl rfl ?_
            refine ld_iload O (pc := 81) 0 dX3_readsHouse_81 rfl ?_
            refine ld_callVi O (pc := 83) (As := [.int (nI i0), .int (nI n), .int (ld_fgr (nI 0) (ld_ca C n (((3 + 4 * m) + 1) + 1)))]) (st := []) ld_recv8 (c_X3_figure l ad (us (us (us σ 144 (fun _ => nI ((3 + 4 * m) + 1))) 144 (fun _ => nI (((3 + 4 * m) + 1) + 1))) 144 (fun _ => nI (ld_fga (nI 0) (ld_ca C n (((3 + 4 * m) + 1) + 1)) (((3 + 4 * m) + 1) + 1)))) C i0 n hC hb n60 (ld_fga (nI 0) (ld_ca C n (((3 + 4 * m) + 1) + 1)) (((3 + 4 * m) + 1) + 1)) rfl (Nat.le_trans (ld_fga_le _ _ _) (by omega)) (ld_fgr (nI 0) (ld_ca C n (((3 + 4 * m) + 1) + 1)))) ld_mw_X3_figure ld_w155 rfl rfl ⟨by decide, by decide⟩ (Nat.le_of_ble_eq_true rfl) dX3_readsHouse_83 (fun r_p83 σ_p83 h_p83 => ?_)
            obtain ⟨rfl, hσ_p83⟩ := h_p83
            rw [hσ_p83]
            show K (us (us (us (us σ 144 (fun _ => nI ((3 + 4 * m) + 1))) 144 (fun _ => nI (((3 + 4 * m) + 1) + 1))) 144 (fun _ => nI (ld_fga (nI 0) (ld_ca C n (((3 + 4 * m) + 1) + 1)) (((3 + 4 * m) + 1) + 1)))) 144 (fun _ => nI (ld_fga (ld_fgr (nI 0) (ld_ca C n (((3 + 4 * m) + 1) + 1))) (ld_ca C n (ld_fga (nI 0) (ld_ca C n (((3 + 4 * m) + 1) + 1)) (((3 + 4 * m) + 1) + 1))) (ld_fga (nI 0) (ld_ca C n (((3 + 4 * m) + 1) + 1)) (((3 + 4 * m) + 1) + 1))))) [(4, .int (ld_fgr (nI 0) (ld_ca C n (((3 + 4 * m) + 1) + 1)))), (3, .int (ld_ca C n ((3 + 4 * m) + 1))), (0, .ref (ad 8)), (1, .int (nI i0)), (2, .int (nI n))] [.int (ld_fgr (ld_fgr (nI 0) (ld_ca C n (((3 + 4 * m) + 1) + 1))) (ld_ca C n (ld_fga (nI 0) (ld_ca C n (((3 + 4 * m) + 1) + 1)) (((3 + 4 * m) + 1) + 1))))] 86
            refine ld_istore O (pc := 86) [(5, .int (ld_fgr (ld_fgr (nI 0) (ld_ca C n (((3 + 4 * m) + 1) + 1))) (ld_ca C n (ld_fga (nI 0) (ld_ca C n (((3 + 4 * m) + 1) + 1)) (((3 + 4 * m) + 1) + 1))))), (4, .int (ld_fgr (nI 0) (ld_ca C n (((3 + 4 * m) + 1) + 1)))), (3, .int (ld_ca C n ((3 + 4 * m) + 1))), (0, .ref (ad 8)), (1, .int (nI i0)), (2, .int (nI n))] dX3_readsHouse_86 (by decide) rfl ?_
            refine ld_aload_n O (pc := 88) 3 dX3_readsHouse_88 rfl rfl ?_
            refine ld_g_M_readKind O (pc := 89) ld_w55 dX3_readsHouse_89 ?_
            refine ld_aload_n O (pc := 92) 3 dX3_readsHouse_92 rfl rfl ?_
            refine ld_g_M_readHouses O (pc := 93) (v := nI m) ld_w118 hm dX3_readsHouse_93 ?_
            refine ld_iload_n O (pc := 96) 2 dX3_readsHouse_96 rfl rfl ?_
            refine ld_bipush O (pc := 97) (v := nI 112) dX3_readsHouse_97 (by decide) ?_
            refine ld_icmp_ne O (pc := 99) (ld_ca C n ((3 + 4 * m) + 1)).toInt 112 rfl (by decide) 106 dX3_readsHouse_99 (by decide) (fun c11 => ?_) (fun z => absurd z c3)
            refine ld_iload_n O (pc := 106) 2 dX3_readsHouse_106 rfl rfl ?_
            refine ld_bipush O (pc := 107) (v := nI 116) dX3_readsHouse_107 (by decide) ?_
            refine ld_icmp_ne O (pc := 109) (ld_ca C n ((3 + 4 * m) + 1)).toInt 116 rfl (by decide) 116 dX3_readsHouse_109 (by decide) (fun c12 => ?_) (fun z => absurd z c6)
            refine ld_iconst O (pc := 116) (v := nI 2) dX3_readsHouse_116 (by decide) ?_
            refine ld_iast O (pc := 117) 24 m rfl (by decide) (show m < 8 by omega) dX3_readsHouse_117 ?_
            refine ld_aload_n O (pc := 118) 3 dX3_readsHouse_118 rfl rfl ?_
            refine ld_g_M_readTemper O (pc := 119) ld_w56 dX3_readsHouse_119 ?_
            refine ld_aload_n O (pc := 122) 3 dX3_readsHouse_122 rfl rfl ?_
            refine ld_g_M_readHouses O (pc := 123) (v := nI m) ld_w118 hm dX3_readsHouse_123 ?_
            refine ld_iload O (pc := 126) 1 dX3_readsHouse_126 rfl ?_
            refine ld_iast O (pc := 128) 25 m rfl (by decide) (show m < 8 by omega) dX3_readsHouse_128 ?_
            refine ld_aload_n O (pc := 129) 3 dX3_readsHouse_129 rfl rfl ?_
            refine ld_g_M_readStock O (pc := 130) ld_w57 dX3_readsHouse_130 ?_
            refine ld_aload_n O (pc := 133) 3 dX3_readsHouse_133 rfl rfl ?_
            refine ld_g_M_readHouses O (pc := 134) (v := nI m) ld_w118 hm dX3_readsHouse_134 ?_
            refine ld_iload O (pc := 137) 0 dX3_readsHouse_137 rfl ?_
            refine ld_iast O (pc := 139) 26 m rfl (by decide) (show m < 8 by omega) dX3_readsHouse_139 ?_
            refine ld_aload_n O (pc := 140) 3 dX3_readsHouse_140 rfl rfl ?_
            refine ld_dup O (pc := 141) dX3_readsHouse_141 rfl ?_
            refine ld_g_M_readHouses O (pc := 142) (v := nI m) ld_w118 hm dX3_readsHouse_142 ?_
            refine ld_iconst O (pc := 145) (v := nI 1) dX3_readsHouse_145 (by decide) ?_
            refine ld_iaddN O (pc := 146) dX3_readsHouse_146 ?_
            refine ld_p_M_readHouses O (pc := 147) ld_w118 dX3_readsHouse_147 ?_
            refine ld_iload O (pc := 150) 0 dX3_readsHouse_150 rfl ?_
            refine ld_if_lt O (pc := 152) (ld_fgr (ld_fgr (nI 0) (ld_ca C n (((3 + 4 * m) + 1) + 1))) (ld_ca C n (ld_fga (nI 0) (ld_ca C n (((3 + 4 * m) + 1) + 1)) (((3 + 4 * m) + 1) + 1)))).toInt rfl 159 dX3_readsHouse_152 (by decide) (fun c13 => ?_) (fun c13 => ?_)
            · refine ld_iconst O (pc := 159) (v := nI 0) dX3_readsHouse_159 (by decide) ?_
              refine ld_iretz E (Or.inl rfl) dX3_readsHouse_160 ?_
              have h59_ : (ld_ca C n (3 + 4 * m)).toInt = 59 := by assumption
              obtain ⟨g1_, e1_⟩ := hg.up (T := fun c => c.toInt = 59) h59_ (fun c z => (ld_go0 (by omega)).mpr z) (by decide)
              have hk_ : ld_kl (ld_ca C n (3 + 4 * m + 1)) = nI 2 := by
                unfold ld_kl
                repeat' split
                all_goals first | (exfalso; omega) | rfl
              obtain ⟨g2_, e2_⟩ := g1_.up (T := fun c => ¬ (ld_kl c).toInt = -9) (by rw [hk_]; decide) (fun c z => (ld_go1 (by omega)).mpr z) (by decide)
              have two_ := ld_two g2_ (fun c => ld_go2 (by omega)) (fun c => ld_go3 (by omega)) (fun z w => by unfold ld_mo at w; omega) (fun z w => by unfold ld_mo at w; omega)
              have hF_ := two_.2 (fun z => by omega)
              have le1_ := ld_fga_le (nI 0) (ld_ca C n (3 + 4 * m + 1 + 1)) (3 + 4 * m + 1 + 1)
              have hlt_ := hF_.2.1
              have hno_ : ¬ ld_GG C n (3 + 4 * m + 4) := fun g => by
                have le2_ := ld_fga_le (ld_fgr (nI 0) (ld_ca C n (3 + 4 * m + 1 + 1))) (ld_ca C n (ld_fga (nI 0) (ld_ca C n (3 + 4 * m + 1 + 1)) (3 + 4 * m + 1 + 1))) (ld_fga (nI 0) (ld_ca C n (3 + 4 * m + 1 + 1)) (3 + 4 * m + 1 + 1))
                by_cases q : ld_fga (ld_fgr (nI 0) (ld_ca C n (3 + 4 * m + 1 + 1))) (ld_ca C n (ld_fga (nI 0) (ld_ca C n (3 + 4 * m + 1 + 1)) (3 + 4 * m + 1 + 1))) (ld_fga (nI 0) (ld_ca C n (3 + 4 * m + 1 + 1)) (3 + 4 * m + 1 + 1)) < 3 + 4 * m + 4
                · exact hF_.not q g
                · exact ld_nofull (a := 3 + 4 * m + 1 + 1) (Int.not_le.mpr c13) (by omega)
              refine ⟨(ld_b_f hno_).symm, _, m + 1, upd (σ 24) m (nI 2), upd (σ 25) m (ld_fgr (nI 0) (ld_ca C n (((3 + 4 * m) + 1) + 1))), upd (σ 26) m (ld_fgr (ld_fgr (nI 0) (ld_ca C n (((3 + 4 * m) + 1) + 1))) (ld_ca C n (ld_fga (nI 0) (ld_ca C n (((3 + 4 * m) + 1) + 1)) (((3 + 4 * m) + 1) + 1)))), fun _ => nI (ld_fga (ld_fgr (nI 0) (ld_ca C n (((3 + 4 * m) + 1) + 1))) (ld_ca C n (ld_fga (nI 0) (ld_ca C n (((3 + 4 * m) + 1) + 1)) (((3 + 4 * m) + 1) + 1))) (ld_fga (nI 0) (ld_ca C n (((3 + 4 * m) + 1) + 1)) (((3 + 4 * m) + 1) + 1))), fun _ => nI (m + 1), ?_, rfl, rfl, fun z => absurd z hno_, fun _ => hF_⟩
              funext b_
              by_cases h0_ : b_ = 144
              · subst h0_; exact ((us_ne _ _ (by decide)).trans ((us_ne _ _ (by decide)).trans ((us_ne _ _ (by decide)).trans ((us_ne _ _ (by decide)).trans (us_eq _ _ _))))).trans ((us_ne _ _ (by decide)).trans (us_eq _ _ _)).symm
              by_cases h1_ : b_ = 24
              · subst h1_; exact ((us_ne _ _ (by decide)).trans ((us_ne _ _ (by decide)).trans ((us_ne _ _ (by decide)).trans (us_eq _ _ _)))).trans ((us_ne _ _ (by decide)).trans ((us_ne _ _ (by decide)).trans ((us_ne _ _ (by decide)).trans ((us_ne _ _ (by decide)).trans (us_eq _ _ _))))).symm
              by_cases h2_ : b_ = 25
              · subst h2_; exact ((us_ne _ _ (by decide)).trans ((us_ne _ _ (by decide)).trans (us_eq _ _ _))).trans ((us_ne _ _ (by decide)).trans ((us_ne _ _ (by decide)).trans ((us_ne _ _ (by decide)).trans (us_eq _ _ _)))).symm
              by_cases h3_ : b_ = 26
              · subst h3_; exact ((us_ne _ _ (by decide)).trans (us_eq _ _ _)).trans ((us_ne _ _ (by decide)).trans ((us_ne _ _ (by decide)).trans (us_eq _ _ _))).symm
              by_cases h4_ : b_ = 145
              · subst h4_; exact (us_eq _ _ _).trans (us_eq _ _ _).symm
              simp only [us, h0_, h1_, h2_, h3_, h4_, if_false]
            · refine ld_iconst O (pc := 155) (v := nI 1) dX3_readsHouse_155 (by decide) ?_
              refine ld_goto O (pc := 156) 160 dX3_readsHouse_156 (by decide) ?_
              refine ld_iretz E (Or.inr rfl) dX3_readsHouse_160 ?_
              have h59_ : (ld_ca C n (3 + 4 * m)).toInt = 59 := by assumption
              obtain ⟨g1_, e1_⟩ := hg.up (T := fun c => c.toInt = 59) h59_ (fun c z => (ld_go0 (by omega)).mpr z) (by decide)
              have hk_ : ld_kl (ld_ca C n (3 + 4 * m + 1)) = nI 2 := by
                unfold ld_kl
                repeat' split
                all_goals first | (exfalso; omega) | rfl
              obtain ⟨g2_, e2_⟩ := g1_.up (T := fun c => ¬ (ld_kl c).toInt = -9) (by rw [hk_]; decide) (fun c z => (ld_go1 (by omega)).mpr z) (by decide)
              have two_ := ld_two g2_ (fun c => ld_go2 (by omega)) (fun c => ld_go3 (by omega)) (fun z w => by unfold ld_mo at w; omega) (fun z w => by unfold ld_mo at w; omega)
              obtain ⟨w1_, w2_, w3_, w4_⟩ := two_.1 (Int.not_lt.mp c13)
              refine ⟨(ld_b_t w2_).symm, _, m + 1, upd (σ 24) m (nI 2), upd (σ 25) m (ld_fgr (nI 0) (ld_ca C n (((3 + 4 * m) + 1) + 1))), upd (σ 26) m (ld_fgr (ld_fgr (nI 0) (ld_ca C n (((3 + 4 * m) + 1) + 1))) (ld_ca C n (ld_fga (nI 0) (ld_ca C n (((3 + 4 * m) + 1) + 1)) (((3 + 4 * m) + 1) + 1)))), fun _ => nI (ld_fga (ld_fgr (nI 0) (ld_ca C n (((3 + 4 * m) + 1) + 1))) (ld_ca C n (ld_fga (nI 0) (ld_ca C n (((3 + 4 * m) + 1) + 1)) (((3 + 4 * m) + 1) + 1))) (ld_fga (nI 0) (ld_ca C n (((3 + 4 * m) + 1) + 1)) (((3 + 4 * m) + 1) + 1))), fun _ => nI (m + 1), ?_, rfl, rfl, fun _ => ⟨w1_, rfl, ?_, ?_, ?_⟩, fun z => absurd w2_ z⟩
              · funext b_
                by_cases h0_ : b_ = 144
                · subst h0_; exact ((us_ne _ _ (by decide)).trans ((us_ne _ _ (by decide)).trans ((us_ne _ _ (by decide)).trans ((us_ne _ _ (by decide)).trans (us_eq _ _ _))))).trans ((us_ne _ _ (by decide)).trans (us_eq _ _ _)).symm
                by_cases h1_ : b_ = 24
                · subst h1_; exact ((us_ne _ _ (by decide)).trans ((us_ne _ _ (by decide)).trans ((us_ne _ _ (by decide)).trans (us_eq _ _ _)))).trans ((us_ne _ _ (by decide)).trans ((us_ne _ _ (by decide)).trans ((us_ne _ _ (by decide)).trans ((us_ne _ _ (by decide)).trans (us_eq _ _ _))))).symm
                by_cases h2_ : b_ = 25
                · subst h2_; exact ((us_ne _ _ (by decide)).trans ((us_ne _ _ (by decide)).trans (us_eq _ _ _))).trans ((us_ne _ _ (by decide)).trans ((us_ne _ _ (by decide)).trans ((us_ne _ _ (by decide)).trans (us_eq _ _ _)))).symm
                by_cases h3_ : b_ = 26
                · subst h3_; exact ((us_ne _ _ (by decide)).trans (us_eq _ _ _)).trans ((us_ne _ _ (by decide)).trans ((us_ne _ _ (by decide)).trans (us_eq _ _ _))).symm
                by_cases h4_ : b_ = 145
                · subst h4_; exact (us_eq _ _ _).trans (us_eq _ _ _).symm
                simp only [us, h0_, h1_, h2_, h3_, h4_, if_false]
              · rw [← e2_, hk_]
              · exact congrArg (upd (σ 25) m) w3_
              · exact congrArg (upd (σ 26) m) w4_
          · refine ld_iconst O (pc := 57) (v := nI 0) dX3_readsHouse_57 (by decide) ?_
            refine ld_iretz E (Or.inl rfl) dX3_readsHouse_58 ?_
            have h59_ : (ld_ca C n (3 + 4 * m)).toInt = 59 := by assumption
            obtain ⟨g1_, e1_⟩ := hg.up (T := fun c => c.toInt = 59) h59_ (fun c z => (ld_go0 (by omega)).mpr z) (by decide)
            have hF_ := g1_.fl (T := fun c => ¬ (ld_kl c).toInt = -9) (fun z => z (by unfold ld_kl; rw [if_neg (by omega), if_neg (by omega), if_neg (by omega)]; decide)) (fun c z => (ld_go1 (by omega)).mp z) (fun z w => by unfold ld_mo at w; omega)
            refine ⟨(ld_b_f (hF_.not (by omega))).symm, 3 + 4 * m + 1, m, σ 24, σ 25, σ 26, fun _ => nI ((3 + 4 * m) + 1), σ 145, ?_, rfl, hm, fun z => absurd z (hF_.not (by omega)), fun _ => hF_⟩
            funext b_
            by_cases h0_ : b_ = 144
            · subst h0_; exact (us_eq _ _ _).trans ((us_ne _ _ (by decide)).trans (us_eq _ _ _)).symm
            by_cases h1_ : b_ = 24
            · subst h1_; exact (us_ne _ _ (by decide)).trans ((us_ne _ _ (by decide)).trans ((us_ne _ _ (by decide)).trans ((us_ne _ _ (by decide)).trans ((us_ne _ _ (by decide)).trans (us_eq _ _ _))))).symm
            by_cases h2_ : b_ = 25
            · subst h2_; exact (us_ne _ _ (by decide)).trans ((us_ne _ _ (by decide)).trans ((us_ne _ _ (by decide)).trans ((us_ne _ _ (by decide)).trans (us_eq _ _ _)))).symm
            by_cases h3_ : b_ = 26
            · subst h3_; exact (us_ne _ _ (by decide)).trans ((us_ne _ _ (by decide)).trans ((us_ne _ _ (by decide)).trans (us_eq _ _ _))).symm
            by_cases h4_ : b_ = 145
            · subst h4_; exact (us_ne _ _ (by decide)).trans (us_eq _ _ _).symm
            simp only [us, h0_, h1_, h2_, h3_, h4_, if_false]
    · refine ld_iconst O (pc := 20) (v := nI 0) dX3_readsHouse_20 (by decide) ?_
      refine ld_iretz E (Or.inl rfl) dX3_readsHouse_21 ?_
      have hF_ : ld_FL C n (3 + 4 * m) := by
        first
        | exact hg.fl (T := fun c => c.toInt = 59) (by assumption) (fun c z => (ld_go0 (by omega)).mp z) (fun z w => by unfold ld_mo at w; omega)
        | exact ⟨hg.le, hg, fun _ z => absurd z.1 (by omega), fun z w => by omega⟩
      refine ⟨(ld_b_f (hF_.not (by omega))).symm, 3 + 4 * m, m, σ 24, σ 25, σ 26, σ 144, σ 145, ?_, ha, hm, fun z => absurd z (hF_.not (by omega)), fun _ => hF_⟩
      funext b_
      by_cases h0_ : b_ = 24
      · subst h0_; exact (rfl).trans ((us_ne _ _ (by decide)).trans ((us_ne _ _ (by decide)).trans ((us_ne _ _ (by decide)).trans ((us_ne _ _ (by decide)).trans (us_eq _ _ _))))).symm
      by_cases h1_ : b_ = 25
      · subst h1_; exact (rfl).trans ((us_ne _ _ (by decide)).trans ((us_ne _ _ (by decide)).trans ((us_ne _ _ (by decide)).trans (us_eq _ _ _)))).symm
      by_cases h2_ : b_ = 26
      · subst h2_; exact (rfl).trans ((us_ne _ _ (by decide)).trans ((us_ne _ _ (by decide)).trans (us_eq _ _ _))).symm
      by_cases h3_ : b_ = 144
      · subst h3_; exact (rfl).trans ((us_ne _ _ (by decide)).trans (us_eq _ _ _)).symm
      by_cases h4_ : b_ = 145
      · subst h4_; exact (rfl).trans (us_eq _ _ _).symm
      simp only [us, h0_, h1_, h2_, h3_, h4_, if_false]
set_option maxHeartbeats 4000000 in
set_option maxRecDepth 100000 in
theorem c_X3_readsStreet (l : Launch) (ad : Nat → Nat) (σ : ld_St) (C : Nat → Int32) (i0 n : Nat) (hC : ∀ z, σ 36 (i0 + z) = C z) (hb : i0 + n ≤ 240) (n60 : n ≤ 60) : ld_Ctr l yX3_readsStreet cX3_readsStreet 6 (some .boolean) (3, 75) [.ref (ad 8), .int (nI i0), .int (nI n)] ad σ (ld_I (fun (r : Int32) (σ2 : ld_St) => r = ld_b ((ld_ftf C n).toInt = -9) ∧ ∃ (a m : Nat) (f24 f25 f26 fa fm fc : Nat → Int32), σ2 = us (us (us (us (us (us σ 24 f24) 25 f25) 26 f26) 144 fa) 145 fm) 146 fc ∧ fa 0 = nI a ∧ fm 0 = nI m ∧ (¬ (ld_ftf C n).toInt = -9 → nI a = ld_ftf C n) ∧ ((ld_ftf C n).toInt = -9 → n = 3 + 4 * m ∧ 1 ≤ m ∧ m ≤ 8 ∧ fc 0 = (C 1 - nI 48) * nI 10 + C 2 - nI 48 ∧ ∀ x, x < m → f24 x = ld_kl (C (3 + 4 * x + 1)) ∧ f25 x = C (3 + 4 * x + 2) - nI 48 ∧ f26 x = C (3 + 4 * x + 3) - nI 48))) := by
  refine ld_entry (by decide +kernel) (Nat.le_of_ble_eq_true rfl) (fun K O E => ?_)
  have O : ld_Ok l K ad cX3_readsStreet 6 RX3 (ld_rm (3, 75)) := O
  show K σ [(0, .ref (ad 8)), (1, .int (nI i0)), (2, .int (nI n))] [] 0
  refine ld_aload_n O (pc := 0) 0 dX3_readsStreet_0 rfl rfl ?_
  refine ld_iconst O (pc := 1) (v := nI 0) dX3_readsStreet_1 (by decide) ?_
  refine ld_p_M_readAt O (pc := 2) ld_w117 dX3_readsStreet_2 ?_
  refine ld_aload_n O (pc := 5) 0 dX3_readsStreet_5 rfl rfl ?_
  refine ld_iconst O (pc := 6) (v := nI 0) dX3_readsStreet_6 (by decide) ?_
  refine ld_p_M_readHouses O (pc := 7) ld_w118 dX3_readsStreet_7 ?_
  refine ld_aload_n O (pc := 10) 0 dX3_readsStreet_10 rfl rfl ?_
  refine ld_iload_n O (pc := 11) 1 dX3_readsStreet_11 rfl rfl ?_
  refine ld_iload_n O (pc := 12) 2 dX3_readsStreet_12 rfl rfl ?_
  refine ld_callVi O (pc := 13) (As := [.int (nI i0), .int (nI n)]) (st := []) ld_recv8 (c_X3_codeAt l ad (us (us σ 144 (fun _ => nI 0)) 145 (fun _ => nI 0)) C i0 n hC hb n60 0 rfl (by omega)) ld_mw_X3_codeAt ld_w151 rfl rfl ⟨by decide, by decide⟩ (Nat.le_of_ble_eq_true rfl) dX3_readsStreet_13 (fun r_p13 σ_p13 h_p13 => ?_)
  obtain ⟨rfl, hσ_p13⟩ := h_p13
  rw [hσ_p13]
  show K (us (us σ 144 (fun _ => nI 0)) 145 (fun _ => nI 0)) [(0, .ref (ad 8)), (1, .int (nI i0)), (2, .int (nI n))] [.int (ld_ca C n 0)] 16
  refine ld_bipush O (pc := 16) (v := nI 108) dX3_readsStreet_16 (by decide) ?_
  refine ld_icmp_eq O (pc := 18) (ld_ca C n 0).toInt 108 rfl (by decide) 23 dX3_readsStreet_18 (by decide) (fun c1 => ?_) (fun c1 => ?_)
  · refine ld_aload_n O (pc := 23) 0 dX3_readsStreet_23 rfl rfl ?_
    refine ld_dup O (pc := 24) dX3_readsStreet_24 rfl ?_
    refine ld_g_M_readAt O (pc := 25) (v := nI 0) ld_w117 rfl dX3_readsStreet_25 ?_
    refine ld_iconst O (pc := 28) (v := nI 1) dX3_readsStreet_28 (by decide) ?_
    refine ld_iaddN O (pc := 29) dX3_readsStreet_29 ?_
    refine ld_p_M_readAt O (pc := 30) ld_w117 dX3_readsStreet_30 ?_
    refine ld_aload_n O (pc := 33) 0 dX3_readsStreet_33 rfl rfl ?_
    refine ld_iload_n O (pc := 34) 1 dX3_readsStreet_34 rfl rfl ?_
    refine ld_iload_n O (pc := 35) 2 dX3_readsStreet_35 rfl rfl ?_
    refine ld_iconst O (pc := 36) (v := nI 0) dX3_readsStreet_36 (by decide) ?_
    refine ld_callVi O (pc := 37) (As := [.int (nI i0), .int (nI n), .int (nI 0)]) (st := []) ld_recv8 (c_X3_figure l ad (us (us (us σ 144 (fun _ => nI 0)) 145 (fun _ => nI 0)) 144 (fun _ => nI (0 + 1))) C i0 n hC hb n60 (0 + 1) rfl (by omega) (nI 0)) ld_mw_X3_figure ld_w155 rfl rfl ⟨by decide, by decide⟩ (Nat.le_of_ble_eq_true rfl) dX3_readsStreet_37 (fun r_p37 σ_p37 h_p37 => ?_)
    obtain ⟨rfl, hσ_p37⟩ := h_p37
    rw [hσ_p37]
    show K (us (us (us (us σ 144 (fun _ => nI 0)) 145 (fun _ => nI 0)) 144 (fun _ => nI (0 + 1))) 144 (fun _ => nI (ld_fga (nI 0) (ld_ca C n (0 + 1)) (0 + 1)))) [(0, .ref (ad 8)), (1, .int (nI i0)), (2, .int (nI n))] [.int (ld_fgr (nI 0) (ld_ca C n (0 + 1)))] 40
    refine ld_istore_n O (pc := 40) [(3, .int (ld_fgr (nI 0) (ld_ca C n (0 + 1)))), (0, .ref (ad 8)), (1, .int (nI i0)), (2, .int (nI n))] dX3_readsStreet_40 rfl (by decide) rfl ?_
    refine ld_aload_n O (pc := 41) 1 dX3_readsStreet_41 rfl rfl ?_
    refine ld_iload_n O (pc := 42) 2 dX3_readsStreet_42 rfl rfl ?_
    refine ld_iload_n O (pc := 43) 3 dX3_readsStreet_43 rfl rfl ?_
    refine ld_iload_n O (pc := 44) 0 dX3_readsStreet_44 rfl rfl ?_
    refine ld_callVi O (pc := 45) (As := [.int (nI i0), .int (nI n), .int (ld_fgr (nI 0) (ld_ca C n (0 + 1)))]) (st := []) ld_recv8 (c_X3_figure l ad (us (us (us (us σ 144 (fun _ => nI 0)) 145 (fun _ => nI 0)) 144 (fun _ => nI (0 + 1))) 144 (fun _ => nI (ld_fga (nI 0) (ld_ca C n (0 + 1)) (0 + 1)))) C i0 n hC hb n60 (ld_fga (nI 0) (ld_ca C n (0 + 1)) (0 + 1)) rfl (Nat.le_trans (ld_fga_le _ _ _) (by omega)) (ld_fgr (nI 0) (ld_ca C n (0 + 1)))) ld_mw_X3_figure ld_w155 rfl rfl ⟨by decide, by decide⟩ (Nat.le_of_ble_eq_true rfl) dX3_readsStreet_45 (fun r_p45 σ_p45 h_p45 => ?_)
    obtain ⟨rfl, hσ_p45⟩ := h_p45
    rw [hσ_p45]
    show K (us (us (us (us (us σ 144 (fun _ => nI 0)) 145 (fun _ => nI 0)) 144 (fun _ => nI (0 + 1))) 144 (fun _ => nI (ld_fga (nI 0) (ld_ca C n (0 + 1)) (0 + 1)))) 144 (fun _ => nI (ld_fga (ld_fgr (nI 0) (ld_ca C n (0 + 1))) (ld_ca C n (ld_fga (nI 0) (ld_ca C n (0 + 1)) (0 + 1))) (ld_fga (nI 0) (ld_ca C n (0 + 1)) (0 + 1))))) [(3, .int (ld_fgr (nI 0) (ld_ca C n (0 + 1)))), (0, .ref (ad 8)), (1, .int (nI i0)), (2, .int (nI n))] [.int (ld_fgr (ld_fgr (nI 0) (ld_ca C n (0 + 1))) (ld_ca C n (ld_fga (nI 0) (ld_ca C n (0 + 1)) (0 + 1))))] 48
    refine ld_istore O (pc := 48) [(4, .int (ld_fgr (ld_fgr (nI 0) (ld_ca C n (0 + 1))) (ld_ca C n (ld_fga (nI 0) (ld_ca C n (0 + 1)) (0 + 1))))), (3, .int (ld_fgr (nI 0) (ld_ca C n (0 + 1)))), (0, .ref (ad 8)), (1, .int (nI i0)), (2, .int (nI n))] dX3_readsStreet_48 (by decide) rfl ?_
    have hg0_ : ld_GG C n 0 := fun p hp => absurd hp (Nat.not_lt_zero p)
    obtain ⟨g1_, e1_⟩ := hg0_.up (T := fun c => c.toInt = 108) (by assumption) (fun c z => ld_goA.mpr z) (by decide)
    have two_ := ld_two g1_ (fun c => ld_goB (by omega) (by omega)) (fun c => ld_goB (by omega) (by omega)) (fun z w => by unfold ld_mo at w; omega) (fun z w => by unfold ld_mo at w; omega)
    refine ld_aload_n O (pc := 50) 2 dX3_readsStreet_50 rfl rfl ?_
    refine ld_bipush O (pc := 51) (v := nI 10) dX3_readsStreet_51 (by decide) ?_
    refine ld_iload_n O (pc := 53) 1 dX3_readsStreet_53 rfl rfl ?_
    refine ld_imul O (pc := 54) dX3_readsStreet_54 ?_
    refine ld_iload O (pc := 55) 0 dX3_readsStreet_55 rfl ?_
    refine ld_iadd O (pc := 57) dX3_readsStreet_57 ?_
    refine ld_p_M_readCrate O (pc := 58) ld_w120 dX3_readsStreet_58 ?_
    refine ld_iload O (pc := 61) 0 dX3_readsStreet_61 rfl ?_
    refine ld_if_lt O (pc := 63) (ld_fgr (ld_fgr (nI 0) (ld_ca C n (0 + 1))) (ld_ca C n (ld_fga (nI 0) (ld_ca C n (0 + 1)) (0 + 1)))).toInt rfl 70 dX3_readsStreet_63 (by decide) (fun c2 => ?_) (fun c2 => ?_)
    · refine ld_iconst O (pc := 70) (v := nI 0) dX3_readsStreet_70 (by decide) ?_
      refine Eq.mp (congrArg (fun z_ => K (us (us (us (us (us (us σ 144 (fun _ => nI 0)) 145 (fun _ => nI 0)) 144 (fun _ => nI (0 + 1))) 144 (fun _ => nI (ld_fga (nI 0) (ld_ca C n (0 + 1)) (0 + 1)))) 144 (fun _ => nI (ld_fga (ld_fgr (nI 0) (ld_ca C n (0 + 1))) (ld_ca C n (ld_fga (nI 0) (ld_ca C n (0 + 1)) (0 + 1))) (ld_fga (nI 0) (ld_ca C n (0 + 1)) (0 + 1))))) 146 (fun _ => ((nI 10) * (ld_fgr (nI 0) (ld_ca C n (0 + 1)))) + (ld_fgr (ld_fgr (nI 0) (ld_ca C n (0 + 1))) (ld_ca C n (ld_fga (nI 0) (ld_ca C n (0 + 1)) (0 + 1)))))) [(4, .int (ld_fgr (ld_fgr (nI 0) (ld_ca C n (0 + 1))) (ld_ca C n (ld_fga (nI 0) (ld_ca C n (0 + 1)) (0 + 1))))), (3, .int (ld_fgr (nI 0) (ld_ca C n (0 + 1)))), (0, .ref (ad 8)), (1, .int (nI i0)), (2, .int (nI n))] [.int z_] 71) (ld_b_f (p := False) id)) ?_
      show K (us (us (us (us (us (us σ 144 (fun _ => nI 0)) 145 (fun _ => nI 0)) 144 (fun _ => nI (0 + 1))) 144 (fun _ => nI (ld_fga (nI 0) (ld_ca C n (0 + 1)) (0 + 1)))) 144 (fun _ => nI (ld_fga (ld_fgr (nI 0) (ld_ca C n (0 + 1))) (ld_ca C n (ld_fga (nI 0) (ld_ca C n (0 + 1)) (0 + 1))) (ld_fga (nI 0) (ld_ca C n (0 + 1)) (0 + 1))))) 146 (fun _ => ((nI 10) * (ld_fgr (nI 0) (ld_ca C n (0 + 1)))) + (ld_fgr (ld_fgr (nI 0) (ld_ca C n (0 + 1))) (ld_ca C n (ld_fga (nI 0) (ld_ca C n (0 + 1)) (0 + 1)))))) [(4, .int (ld_fgr (ld_fgr (nI 0) (ld_ca C n (0 + 1))) (ld_ca C n (ld_fga (nI 0) (ld_ca C n (0 + 1)) (0 + 1))))), (3, .int (ld_fgr (nI 0) (ld_ca C n (0 + 1)))), (0, .ref (ad 8)), (1, .int (nI i0)), (2, .int (nI n))] [.int (ld_b False)] 71
      refine ld_istore O (pc := 71) [(5, .int (ld_b False)), (4, .int (ld_fgr (ld_fgr (nI 0) (ld_ca C n (0 + 1))) (ld_ca C n (ld_fga (nI 0) (ld_ca C n (0 + 1)) (0 + 1))))), (3, .int (ld_fgr (nI 0) (ld_ca C n (0 + 1)))), (0, .ref (ad 8)), (1, .int (nI i0)), (2, .int (nI n))] dX3_readsStreet_71 (by decide) rfl ?_
      have L73 : ∀ (m_73 : Nat) (d : Nat) (a : Nat) (m : Nat) (P : Prop) (f24 : Nat → Int32) (f25 : Nat → Int32) (f26 : Nat → Int32) (fa : Nat → Int32) (fm : Nat → Int32), d < m_73 → (fa 0 = nI a) → (fm 0 = nI m) → (P → a = 3 + 4 * m ∧ m ≤ 8 ∧ ld_GG C n a ∧ d + m = 9 ∧ ∀ x, x < m → f24 x = ld_kl (C (3 + 4 * x + 1)) ∧ f25 x = C (3 + 4 * x + 2) - nI 48 ∧ f26 x = C (3 + 4 * x + 3) - nI 48) → (¬ P → ld_FL C n a) → (P → (fun _ => ((nI 10) * (ld_fgr (nI 0) (ld_ca C n (0 + 1)))) + (ld_fgr (ld_fgr (nI 0) (ld_ca C n (0 + 1))) (ld_ca C n (ld_fga (nI 0) (ld_ca C n (0 + 1)) (0 + 1))))) 0 = (C 1 - nI 48) * nI 10 + C 2 - nI 48) → K (us (us (us (us (us (us σ 146 (fun _ => ((nI 10) * (ld_fgr (nI 0) (ld_ca C n (0 + 1)))) + (ld_fgr (ld_fgr (nI 0) (ld_ca C n (0 + 1))) (ld_ca C n (ld_fga (nI 0) (ld_ca C n (0 + 1)) (0 + 1)))))) 24 f24) 25 f25) 26 f26) 144 fa) 145 fm) [(0, .ref (ad 8)), (1, .int (nI i0)), (2, .int (nI n)), (5, .int (ld_b P))] [] 73 := by
        intro m_73
        induction m_73 with
        | zero => intro d a m P f24 f25 f26 fa fm hm_; exact absurd hm_ (Nat.not_lt_zero _)
        | succ m_73 ih73 =>
          intro d a m P f24 f25 f26 fa fm hm_73 hfa hfm hP hN hfc
          refine ld_iload O (pc := 73) 3 dX3_readsStreet_73 rfl ?_
          refine ld_ifb_eq O (pc := 75) 105 dX3_readsStreet_75 (by decide) (fun c3 => ?_) (fun c3 => ?_)
          · refine ld_iload O (pc := 105) 3 dX3_readsStreet_105 rfl ?_
            refine ld_iretz E (ld_b_01 _) dX3_readsStreet_107 ?_
            have hp_ : ¬ P := c3
            have hF_ := hN hp_
            refine ⟨by rw [ld_b_f hp_, ld_b_f (hF_.no n60)], _, m, f24, f25, f26, fa, fm, fun _ => ((nI 10) * (ld_fgr (nI 0) (ld_ca C n (0 + 1)))) + (ld_fgr (ld_fgr (nI 0) (ld_ca C n (0 + 1))) (ld_ca C n (ld_fga (nI 0) (ld_ca C n (0 + 1)) (0 + 1)))), ?_, hfa, hfm, fun _ => hF_.ftf.symm, fun z => absurd z (hF_.no n60)⟩
            funext b_
            by_cases h0_ : b_ = 146
            · subst h0_; exact ((us_ne _ _ (by decide)).trans ((us_ne _ _ (by decide)).trans ((us_ne _ _ (by decide)).trans ((us_ne _ _ (by decide)).trans ((us_ne _ _ (by decide)).trans (us_eq _ _ _)))))).trans (us_eq _ _ _).symm
            by_cases h1_ : b_ = 24
            · subst h1_; exact ((us_ne _ _ (by decide)).trans ((us_ne _ _ (by decide)).trans ((us_ne _ _ (by decide)).trans ((us_ne _ _ (by decide)).trans (us_eq _ _ _))))).trans ((us_ne _ _ (by decide)).trans ((us_ne _ _ (by decide)).trans ((us_ne _ _ (by decide)).trans ((us_ne _ _ (by decide)).trans ((us_ne _ _ (by decide)).trans (us_eq _ _ _)))))).symm
            by_cases h2_ : b_ = 25
            · subst h2_; exact ((us_ne _ _ (by decide)).trans ((us_ne _ _ (by decide)).trans ((us_ne _ _ (by decide)).trans (us_eq _ _ _)))).trans ((us_ne _ _ (by decide)).trans ((us_ne _ _ (by decide)).trans ((us_ne _ _ (by decide)).trans ((us_ne _ _ (by decide)).trans (us_eq _ _ _))))).symm
            by_cases h3_ : b_ = 26
            · subst h3_; exact ((us_ne _ _ (by decide)).trans ((us_ne _ _ (by decide)).trans (us_eq _ _ _))).trans ((us_ne _ _ (by decide)).trans ((us_ne _ _ (by decide)).trans ((us_ne _ _ (by decide)).trans (us_eq _ _ _)))).symm
            by_cases h4_ : b_ = 144
            · subst h4_; exact ((us_ne _ _ (by decide)).trans (us_eq _ _ _)).trans ((us_ne _ _ (by decide)).trans ((us_ne _ _ (by decide)).trans (us_eq _ _ _))).symm
            by_cases h5_ : b_ = 145
            · subst h5_; exact (us_eq _ _ _).trans ((us_ne _ _ (by decide)).trans (us_eq _ _ _)).symm
            simp only [us, h0_, h1_, h2_, h3_, h4_, h5_, if_false]
          · have hc_ := c3
            obtain ⟨ea_, hm8_, hG_, hd_, hA_⟩ := hP c3
            subst ea_
            refine ld_aload_n O (pc := 78) 0 dX3_readsStreet_78 rfl rfl ?_
            refine ld_g_M_readHouses O (pc := 79) (v := nI m) ld_w118 hfm dX3_readsStreet_79 ?_
            refine ld_iconst O (pc := 82) (v := nI 1) dX3_readsStreet_82 (by decide) ?_
            refine ld_icmp_lt O (pc := 83) ((m : Nat) : Int) 1 (nI_toInt (by omega)) (by decide) 94 dX3_readsStreet_83 (by decide) (fun c4 => ?_) (fun c4 => ?_)
            · refine ld_aload_n O (pc := 94) 0 dX3_readsStreet_94 rfl rfl ?_
              refine ld_iload_n O (pc := 95) 1 dX3_readsStreet_95 rfl rfl ?_
              refine ld_iload_n O (pc := 96) 2 dX3_readsStreet_96 rfl rfl ?_
              refine ld_callVi O (pc := 97) (As := [.int (nI i0), .int (nI n)]) (st := []) ld_recv8 (c_X3_readsHouse l ad (us (us (us (us (us (us σ 146 (fun _ => ((nI 10) * (ld_fgr (nI 0) (ld_ca C n (0 + 1)))) + (ld_fgr (ld_fgr (nI 0) (ld_ca C n (0 + 1))) (ld_ca C n (ld_fga (nI 0) (ld_ca C n (0 + 1)) (0 + 1)))))) 24 f24) 25 f25) 26 f26) 144 fa) 145 fm) C i0 n hC hb n60 m (by omega) hfa hfm hG_ (by omega)) ld_mw_X3_readsHouse ld_w160 rfl rfl ⟨by decide, by decide⟩ (Nat.le_of_ble_eq_true rfl) dX3_readsStreet_97 (fun r_p97 σ_p97 h_p97 => ?_)
              obtain ⟨rfl, a2_p97, m2_p97, f24_p97, f25_p97, f26_p97, fa_p97, fm_p97, hσ_p97, hfa_p97, hfm_p97, hok_p97, hno_p97⟩ := h_p97
              rw [hσ_p97]
              show K (us (us (us (us (us (us (us (us (us (us (us σ 146 (fun _ => ((nI 10) * (ld_fgr (nI 0) (ld_ca C n (0 + 1)))) + (ld_fgr (ld_fgr (nI 0) (ld_ca C n (0 + 1))) (ld_ca C n (ld_fga (nI 0) (ld_ca C n (0 + 1)) (0 + 1)))))) 24 f24) 25 f25) 26 f26) 144 fa) 145 fm) 24 f24_p97) 25 f25_p97) 26 f26_p97) 144 fa_p97) 145 fm_p97) [(0, .ref (ad 8)), (1, .int (nI i0)), (2, .int (nI n)), (5, .int (ld_b P))] [.int (ld_b (ld_GG C n (3 + 4 * m + 4)))] 100
              have hP2_ : ld_GG C n (3 + 4 * m + 4) → a2_p97 = 3 + 4 * m2_p97 ∧ m2_p97 ≤ 8 ∧ ld_GG C n a2_p97 ∧ d - 1 + m2_p97 = 9 ∧ ∀ x, x < m2_p97 → f24_p97 x = ld_kl (C (3 + 4 * x + 1)) ∧ f25_p97 x = C (3 + 4 * x + 2) - nI 48 ∧ f26_p97 x = C (3 + 4 * x + 3) - nI 48 := by
                intro g
                obtain ⟨q1, q2, q3, q4, q5⟩ := hok_p97 g
                have g8 := (g (3 + 4 * m) (by omega)).2.1
                refine ⟨by omega, by omega, by rw [q1]; exact g, by omega, fun x hx => ?_⟩
                rw [q3, q4, q5]
                by_cases e : x = m
                · subst e; rw [pk_us, pk_us, pk_us]; exact ⟨rfl, rfl, rfl⟩
                · rw [pk_un e, pk_un e, pk_un e]; exact hA_ x (by omega)
              refine ld_istore O (pc := 100) [(5, .int (ld_b (ld_GG C n (3 + 4 * m + 4)))), (0, .ref (ad 8)), (1, .int (nI i0)), (2, .int (nI n))] dX3_readsStreet_100 (by decide) rfl ?_
              refine ld_goto O (pc := 102) 73 dX3_readsStreet_102 (by decide) ?_
              refine ld_less O [1, 2, 3, 0] (lv2 := [(0, .ref (ad 8)), (1, .int (nI i0)), (2, .int (nI n)), (5, .int (ld_b (ld_GG C n (3 + 4 * m + 4))))]) rfl ?_
              have hs5 : us (us (us (us (us (us (us (us (us (us (us σ 146 (fun _ => ((nI 10) * (ld_fgr (nI 0) (ld_ca C n (0 + 1)))) + (ld_fgr (ld_fgr (nI 0) (ld_ca C n (0 + 1))) (ld_ca C n (ld_fga (nI 0) (ld_ca C n (0 + 1)) (0 + 1)))))) 24 f24) 25 f25) 26 f26) 144 fa) 145 fm) 24 f24_p97) 25 f25_p97) 26 f26_p97) 144 fa_p97) 145 fm_p97 = us (us (us (us (us (us σ 146 (fun _ => ((nI 10) * (ld_fgr (nI 0) (ld_ca C n (0 + 1)))) + (ld_fgr (ld_fgr (nI 0) (ld_ca C n (0 + 1))) (ld_ca C n (ld_fga (nI 0) (ld_ca C n (0 + 1)) (0 + 1)))))) 24 f24_p97) 25 f25_p97) 26 f26_p97) 144 fa_p97) 145 fm_p97 := by
                funext b_
                by_cases h0_ : b_ = 146
                · subst h0_; exact ((us_ne _ _ (by decide)).trans ((us_ne _ _ (by decide)).trans ((us_ne _ _ (by decide)).trans ((us_ne _ _ (by decide)).trans ((us_ne _ _ (by decide)).trans ((us_ne _ _ (by decide)).trans ((us_ne _ _ (by decide)).trans ((us_ne _ _ (by decide)).trans ((us_ne _ _ (by decide)).trans ((us_ne _ _ (by decide)).trans (us_eq _ _ _))))))))))).trans ((us_ne _ _ (by decide)).trans ((us_ne _ _ (by decide)).trans ((us_ne _ _ (by decide)).trans ((us_ne _ _ (by decide)).trans ((us_ne _ _ (by decide)).trans (us_eq _ _ _)))))).symm
                by_cases h1_ : b_ = 24
                · subst h1_; exact ((us_ne _ _ (by decide)).trans ((us_ne _ _ (by decide)).trans ((us_ne _ _ (by decide)).trans ((us_ne _ _ (by decide)).trans (us_eq _ _ _))))).trans ((us_ne _ _ (by decide)).trans ((us_ne _ _ (by decide)).trans ((us_ne _ _ (by decide)).trans ((us_ne _ _ (by decide)).trans (us_eq _ _ _))))).symm
                by_cases h2_ : b_ = 25
                · subst h2_; exact ((us_ne _ _ (by decide)).trans ((us_ne _ _ (by decide)).trans ((us_ne _ _ (by decide)).trans (us_eq _ _ _)))).trans ((us_ne _ _ (by decide)).trans ((us_ne _ _ (by decide)).trans ((us_ne _ _ (by decide)).trans (us_eq _ _ _)))).symm
                by_cases h3_ : b_ = 26
                · subst h3_; exact ((us_ne _ _ (by decide)).trans ((us_ne _ _ (by decide)).trans (us_eq _ _ _))).trans ((us_ne _ _ (by decide)).trans ((us_ne _ _ (by decide)).trans (us_eq _ _ _))).symm
                by_cases h4_ : b_ = 144
                · subst h4_; exact ((us_ne _ _ (by decide)).trans (us_eq _ _ _)).trans ((us_ne _ _ (by decide)).trans (us_eq _ _ _)).symm
                by_cases h5_ : b_ = 145
                · subst h5_; exact (us_eq _ _ _).trans (us_eq _ _ _).symm
                simp only [us, h0_, h1_, h2_, h3_, h4_, h5_, if_false]
              refine ld_cv hs5 ?_
              exact ih73 (d - 1) a2_p97 m2_p97 (ld_GG C n (3 + 4 * m + 4)) f24_p97 f25_p97 f26_p97 fa_p97 fm_p97 (by omega) hfa_p97 hfm_p97 hP2_ hno_p97 (fun _ => hfc hc_)
            · refine ld_aload_n O (pc := 86) 0 dX3_readsStreet_86 rfl rfl ?_
              refine ld_g_M_readAt O (pc := 87) (v := nI (3 + 4 * m)) ld_w117 hfa dX3_readsStreet_87 ?_
              refine ld_iload_n O (pc := 90) 2 dX3_readsStreet_90 rfl rfl ?_
              refine ld_icmp_ge O (pc := 91) ((3 + 4 * m : Nat) : Int) ((n : Nat) : Int) (nI_toInt (by omega)) (nI_toInt (by omega)) 105 dX3_readsStreet_91 (by decide) (fun c6 => ?_) (fun c6 => ?_)
              · refine ld_iload O (pc := 105) 3 dX3_readsStreet_105 rfl ?_
                refine ld_iretz E (ld_b_01 _) dX3_readsStreet_107 ?_
                have hp_ : P := hc_
                have le_ := hG_.le
                have en_ : n = 3 + 4 * m := by omega
                have hT_ : ld_ftf C n = (-9 : Int32) := ld_GG.ftf (by rw [en_] at hG_ ⊢; exact hG_) (by unfold ld_mo; omega)
                have hT2_ : (ld_ftf C n).toInt = -9 := by rw [hT_]; decide
                refine ⟨by rw [ld_b_t hp_, ld_b_t hT2_], _, m, f24, f25, f26, fa, fm, fun _ => ((nI 10) * (ld_fgr (nI 0) (ld_ca C n (0 + 1)))) + (ld_fgr (ld_fgr (nI 0) (ld_ca C n (0 + 1))) (ld_ca C n (ld_fga (nI 0) (ld_ca C n (0 + 1)) (0 + 1)))), ?_, hfa, hfm, fun z => absurd hT2_ z, fun _ => ⟨en_, by omega, by omega, hfc hp_, hA_⟩⟩
                funext b_
                by_cases h0_ : b_ = 146
                · subst h0_; exact ((us_ne _ _ (by decide)).trans ((us_ne _ _ (by decide)).trans ((us_ne _ _ (by decide)).trans ((us_ne _ _ (by decide)).trans ((us_ne _ _ (by decide)).trans (us_eq _ _ _)))))).trans (us_eq _ _ _).symm
                by_cases h1_ : b_ = 24
                · subst h1_; exact ((us_ne _ _ (by decide)).trans ((us_ne _ _ (by decide)).trans ((us_ne _ _ (by decide)).trans ((us_ne _ _ (by decide)).trans (us_eq _ _ _))))).trans ((us_ne _ _ (by decide)).trans ((us_ne _ _ (by decide)).trans ((us_ne _ _ (by decide)).trans ((us_ne _ _ (by decide)).trans ((us_ne _ _ (by decide)).trans (us_eq _ _ _)))))).symm
                by_cases h2_ : b_ = 25
                · subst h2_; exact ((us_ne _ _ (by decide)).trans ((us_ne _ _ (by decide)).trans ((us_ne _ _ (by decide)).trans (us_eq _ _ _)))).trans ((us_ne _ _ (by decide)).trans ((us_ne _ _ (by decide)).trans ((us_ne _ _ (by decide)).trans ((us_ne _ _ (by decide)).trans (us_eq _ _ _))))).symm
                by_cases h3_ : b_ = 26
                · subst h3_; exact ((us_ne _ _ (by decide)).trans ((us_ne _ _ (by decide)).trans (us_eq _ _ _))).trans ((us_ne _ _ (by decide)).trans ((us_ne _ _ (by decide)).trans ((us_ne _ _ (by decide)).trans (us_eq _ _ _)))).symm
                by_cases h4_ : b_ = 144
                · subst h4_; exact ((us_ne _ _ (by decide)).trans (us_eq _ _ _)).trans ((us_ne _ _ (by decide)).trans ((us_ne _ _ (by decide)).trans (us_eq _ _ _))).symm
                by_cases h5_ : b_ = 145
                · subst h5_; exact (us_eq _ _ _).trans ((us_ne _ _ (by decide)).trans (us_eq _ _ _)).symm
                simp only [us, h0_, h1_, h2_, h3_, h4_, h5_, if_false]
              · refine ld_aload_n O (pc := 94) 0 dX3_readsStreet_94 rfl rfl ?_
                refine ld_iload_n O (pc := 95) 1 dX3_readsStreet_95 rfl rfl ?_
                refine ld_iload_n O (pc := 96) 2 dX3_readsStreet_96 rfl rfl ?_
                refine ld_callVi O (pc := 97) (As := [.int (nI i0), .int (nI n)]) (st := []) ld_recv8 (c_X3_readsHouse l ad (us (us (us (us (us (us σ 146 (fun _ => ((nI 10) * (ld_fgr (nI 0) (ld_ca C n (0 + 1)))) + (ld_fgr (ld_fgr (nI 0) (ld_ca C n (0 + 1))) (ld_ca C n (ld_fga (nI 0) (ld_ca C n (0 + 1)) (0 + 1)))))) 24 f24) 25 f25) 26 f26) 144 fa) 145 fm) C i0 n hC hb n60 m (by omega) hfa hfm hG_ (by omega)) ld_mw_X3_readsHouse ld_w160 rfl rfl ⟨by decide, by decide⟩ (Nat.le_of_ble_eq_true rfl) dX3_readsStreet_97 (fun r_p97 σ_p97 h_p97 => ?_)
                obtain ⟨rfl, a2_p97, m2_p97, f24_p97, f25_p97, f26_p97, fa_p97, fm_p97, hσ_p97, hfa_p97, hfm_p97, hok_p97, hno_p97⟩ := h_p97
                rw [hσ_p97]
                show K (us (us (us (us (us (us (us (us (us (us (us σ 146 (fun _ => ((nI 10) * (ld_fgr (nI 0) (ld_ca C n (0 + 1)))) + (ld_fgr (ld_fgr (nI 0) (ld_ca C n (0 + 1))) (ld_ca C n (ld_fga (nI 0) (ld_ca C n (0 + 1)) (0 + 1)))))) 24 f24) 25 f25) 26 f26) 144 fa) 145 fm) 24 f24_p97) 25 f25_p97) 26 f26_p97) 144 fa_p97) 145 fm_p97) [(0, .ref (ad 8)), (1, .int (nI i0)), (2, .int (nI n)), (5, .int (ld_b P))] [.int (ld_b (ld_GG C n (3 + 4 * m + 4)))] 100
                have hP2_ : ld_GG C n (3 + 4 * m + 4) → a2_p97 = 3 + 4 * m2_p97 ∧ m2_p97 ≤ 8 ∧ ld_GG C n a2_p97 ∧ d - 1 + m2_p97 = 9 ∧ ∀ x, x < m2_p97 → f24_p97 x = ld_kl (C (3 + 4 * x + 1)) ∧ f25_p97 x = C (3 + 4 * x + 2) - nI 48 ∧ f26_p97 x = C (3 + 4 * x + 3) - nI 48 := by
                  intro g
                  obtain ⟨q1, q2, q3, q4, q5⟩ := hok_p97 g
                  have g8 := (g (3 + 4 * m) (by omega)).2.1
                  refine ⟨by omega, by omega, by rw [q1]; exact g, by omega, fun x hx => ?_⟩
                  rw [q3, q4, q5]
                  by_cases e : x = m
                  · subst e; rw [pk_us, pk_us, pk_us]; exact ⟨rfl, rfl, rfl⟩
                  · rw [pk_un e, pk_un e, pk_un e]; exact hA_ x (by omega)
                refine ld_istore O (pc := 100) [(5, .int (ld_b (ld_GG C n (3 + 4 * m + 4)))), (0, .ref (ad 8)), (1, .int (nI i0)), (2, .int (nI n))] dX3_readsStreet_100 (by decide) rfl ?_
                refine ld_goto O (pc := 102) 73 dX3_readsStreet_102 (by decide) ?_
                refine ld_less O [1, 2, 3, 0] (lv2 := [(0, .ref (ad 8)), (1, .int (nI i0)), (2, .int (nI n)), (5, .int (ld_b (ld_GG C n (3 + 4 * m + 4))))]) rfl ?_
                have hs7 : us (us (us (us (us (us (us (us (us (us (us σ 146 (fun _ => ((nI 10) * (ld_fgr (nI 0) (ld_ca C n (0 + 1)))) + (ld_fgr (ld_fgr (nI 0) (ld_ca C n (0 + 1))) (ld_ca C n (ld_fga (nI 0) (ld_ca C n (0 + 1)) (0 + 1)))))) 24 f24) 25 f25) 26 f26) 144 fa) 145 fm) 24 f24_p97) 25 f25_p97) 26 f26_p97) 144 fa_p97) 145 fm_p97 = us (us (us (us (us (us σ 146 (fun _ => ((nI 10) * (ld_fgr (nI 0) (ld_ca C n (0 + 1)))) + (ld_fgr (ld_fgr (nI 0) (ld_ca C n (0 + 1))) (ld_ca C n (ld_fga (nI 0) (ld_ca C n (0 + 1)) (0 + 1)))))) 24 f24_p97) 25 f25_p97) 26 f26_p97) 144 fa_p97) 145 fm_p97 := by
                  funext b_
                  by_cases h0_ : b_ = 146
                  · subst h0_; exact ((us_ne _ _ (by decide)).trans ((us_ne _ _ (by decide)).trans ((us_ne _ _ (by decide)).trans ((us_ne _ _ (by decide)).trans ((us_ne _ _ (by decide)).trans ((us_ne _ _ (by decide)).trans ((us_ne _ _ (by decide)).trans ((us_ne _ _ (by decide)).trans ((us_ne _ _ (by decide)).trans ((us_ne _ _ (by decide)).trans (us_eq _ _ _))))))))))).trans ((us_ne _ _ (by decide)).trans ((us_ne _ _ (by decide)).trans ((us_ne _ _ (by decide)).trans ((us_ne _ _ (by decide)).trans ((us_ne _ _ (by decide)).trans (us_eq _ _ _)))))).symm
                  by_cases h1_ : b_ = 24
                  · subst h1_; exact ((us_ne _ _ (by decide)).trans ((us_ne _ _ (by decide)).trans ((us_ne _ _ (by decide)).trans ((us_ne _ _ (by decide)).trans (us_eq _ _ _))))).trans ((us_ne _ _ (by decide)).trans ((us_ne _ _ (by decide)).trans ((us_ne _ _ (by decide)).trans ((us_ne _ _ (by decide)).trans (us_eq _ _ _))))).symm
                  by_cases h2_ : b_ = 25
                  · subst h2_; exact ((us_ne _ _ (by decide)).trans ((us_ne _ _ (by decide)).trans ((us_ne _ _ (by decide)).trans (us_eq _ _ _)))).trans ((us_ne _ _ (by decide)).trans ((us_ne _ _ (by decide)).trans ((us_ne _ _ (by decide)).trans (us_eq _ _ _)))).symm
                  by_cases h3_ : b_ = 26
                  · subst h3_; exact ((us_ne _ _ (by decide)).trans ((us_ne _ _ (by decide)).trans (us_eq _ _ _))).trans ((us_ne _ _ (by decide)).trans ((us_ne _ _ (by decide)).trans (us_eq _ _ _))).symm
                  by_cases h4_ : b_ = 144
                  · subst h4_; exact ((us_ne _ _ (by decide)).trans (us_eq _ _ _)).trans ((us_ne _ _ (by decide)).trans (us_eq _ _ _)).symm
                  by_cases h5_ : b_ = 145
                  · subst h5_; exact (us_eq _ _ _).trans (us_eq _ _ _).symm
                  simp only [us, h0_, h1_, h2_, h3_, h4_, h5_, if_false]
                refine ld_cv hs7 ?_
                exact ih73 (d - 1) a2_p97 m2_p97 (ld_GG C n (3 + 4 * m + 4)) f24_p97 f25_p97 f26_p97 fa_p97 fm_p97 (by omega) hfa_p97 hfm_p97 hP2_ hno_p97 (fun _ => hfc hc_)
      refine ld_less O [3, 4, 5, 0] (lv2 := [(0, .ref (ad 8)), (1, .int (nI i0)), (2, .int (nI n)), (5, .int (ld_b False))]) rfl ?_
      have hs8 : us (us (us (us (us (us σ 144 (fun _ => nI 0)) 145 (fun _ => nI 0)) 144 (fun _ => nI (0 + 1))) 144 (fun _ => nI (ld_fga (nI 0) (ld_ca C n (0 + 1)) (0 + 1)))) 144 (fun _ => nI (ld_fga (ld_fgr (nI 0) (ld_ca C n (0 + 1))) (ld_ca C n (ld_fga (nI 0) (ld_ca C n (0 + 1)) (0 + 1))) (ld_fga (nI 0) (ld_ca C n (0 + 1)) (0 + 1))))) 146 (fun _ => ((nI 10) * (ld_fgr (nI 0) (ld_ca C n (0 + 1)))) + (ld_fgr (ld_fgr (nI 0) (ld_ca C n (0 + 1))) (ld_ca C n (ld_fga (nI 0) (ld_ca C n (0 + 1)) (0 + 1))))) = us (us (us (us (us (us σ 146 (fun _ => ((nI 10) * (ld_fgr (nI 0) (ld_ca C n (0 + 1)))) + (ld_fgr (ld_fgr (nI 0) (ld_ca C n (0 + 1))) (ld_ca C n (ld_fga (nI 0) (ld_ca C n (0 + 1)) (0 + 1)))))) 24 (σ 24)) 25 (σ 25)) 26 (σ 26)) 144 (fun _ => nI (ld_fga (ld_fgr (nI 0) (ld_ca C n (0 + 1))) (ld_ca C n (ld_fga (nI 0) (ld_ca C n (0 + 1)) (0 + 1))) (ld_fga (nI 0) (ld_ca C n (0 + 1)) (0 + 1))))) 145 (fun _ => nI 0) := by
        funext b_
        by_cases h0_ : b_ = 144
        · subst h0_; exact ((us_ne _ _ (by decide)).trans (us_eq _ _ _)).trans ((us_ne _ _ (by decide)).trans (us_eq _ _ _)).symm
        by_cases h1_ : b_ = 145
        · subst h1_; exact ((us_ne _ _ (by decide)).trans ((us_ne _ _ (by decide)).trans ((us_ne _ _ (by decide)).trans ((us_ne _ _ (by decide)).trans (us_eq _ _ _))))).trans (us_eq _ _ _).symm
        by_cases h2_ : b_ = 146
        · subst h2_; exact (us_eq _ _ _).trans ((us_ne _ _ (by decide)).trans ((us_ne _ _ (by decide)).trans ((us_ne _ _ (by decide)).trans ((us_ne _ _ (by decide)).trans ((us_ne _ _ (by decide)).trans (us_eq _ _ _)))))).symm
        by_cases h3_ : b_ = 24
        · subst h3_; exact ((us_ne _ _ (by decide)).trans ((us_ne _ _ (by decide)).trans ((us_ne _ _ (by decide)).trans ((us_ne _ _ (by decide)).trans ((us_ne _ _ (by decide)).trans (us_ne _ _ (by decide))))))).trans ((us_ne _ _ (by decide)).trans ((us_ne _ _ (by decide)).trans ((us_ne _ _ (by decide)).trans ((us_ne _ _ (by decide)).trans (us_eq _ _ _))))).symm
        by_cases h4_ : b_ = 25
        · subst h4_; exact ((us_ne _ _ (by decide)).trans ((us_ne _ _ (by decide)).trans ((us_ne _ _ (by decide)).trans ((us_ne _ _ (by decide)).trans ((us_ne _ _ (by decide)).trans (us_ne _ _ (by decide))))))).trans ((us_ne _ _ (by decide)).trans ((us_ne _ _ (by decide)).trans ((us_ne _ _ (by decide)).trans (us_eq _ _ _)))).symm
        by_cases h5_ : b_ = 26
        · subst h5_; exact ((us_ne _ _ (by decide)).trans ((us_ne _ _ (by decide)).trans ((us_ne _ _ (by decide)).trans ((us_ne _ _ (by decide)).trans ((us_ne _ _ (by decide)).trans (us_ne _ _ (by decide))))))).trans ((us_ne _ _ (by decide)).trans ((us_ne _ _ (by decide)).trans (us_eq _ _ _))).symm
        simp only [us, h0_, h1_, h2_, h3_, h4_, h5_, if_false]
      refine ld_cv hs8 ?_
      exact L73 _ 9 (ld_fga (ld_fgr (nI 0) (ld_ca C n (0 + 1))) (ld_ca C n (ld_fga (nI 0) (ld_ca C n (0 + 1)) (0 + 1))) (ld_fga (nI 0) (ld_ca C n (0 + 1)) (0 + 1))) 0 False (σ 24) (σ 25) (σ 26) (fun _ => nI (ld_fga (ld_fgr (nI 0) (ld_ca C n (0 + 1))) (ld_ca C n (ld_fga (nI 0) (ld_ca C n (0 + 1)) (0 + 1))) (ld_fga (nI 0) (ld_ca C n (0 + 1)) (0 + 1)))) (fun _ => nI 0) (Nat.lt_succ_self _) rfl rfl (fun z => absurd z id) (fun _ => two_.2 (fun z => by omega)) (fun z => absurd z id)
    · refine ld_iconst O (pc := 66) (v := nI 1) dX3_readsStreet_66 (by decide) ?_
      refine ld_goto O (pc := 67) 71 dX3_readsStreet_67 (by decide) ?_
      refine Eq.mp (congrArg (fun z_ => K (us (us (us (us (us (us σ 144 (fun _ => nI 0)) 145 (fun _ => nI 0)) 144 (fun _ => nI (0 + 1))) 144 (fun _ => nI (ld_fga (nI 0) (ld_ca C n (0 + 1)) (0 + 1)))) 144 (fun _ => nI (ld_fga (ld_fgr (nI 0) (ld_ca C n (0 + 1))) (ld_ca C n (ld_fga (nI 0) (ld_ca C n (0 + 1)) (0 + 1))) (ld_fga (nI 0) (ld_ca C n (0 + 1)) (0 + 1))))) 146 (fun _ => ((nI 10) * (ld_fgr (nI 0) (ld_ca C n (0 + 1)))) + (ld_fgr (ld_fgr (nI 0) (ld_ca C n (0 + 1))) (ld_ca C n (ld_fga (nI 0) (ld_ca C n (0 + 1)) (0 + 1)))))) [(4, .int (ld_fgr (ld_fgr (nI 0) (ld_ca C n (0 + 1))) (ld_ca C n (ld_fga (nI 0) (ld_ca C n (0 + 1)) (0 + 1))))), (3, .int (ld_fgr (nI 0) (ld_ca C n (0 + 1)))), (0, .ref (ad 8)), (1, .int (nI i0)), (2, .int (nI n))] [.int z_] 71) (ld_b_t (p := True) trivial)) ?_
      show K (us (us (us (us (us (us σ 144 (fun _ => nI 0)) 145 (fun _ => nI 0)) 144 (fun _ => nI (0 + 1))) 144 (fun _ => nI (ld_fga (nI 0) (ld_ca C n (0 + 1)) (0 + 1)))) 144 (fun _ => nI (ld_fga (ld_fgr (nI 0) (ld_ca C n (0 + 1))) (ld_ca C n (ld_fga (nI 0) (ld_ca C n (0 + 1)) (0 + 1))) (ld_fga (nI 0) (ld_ca C n (0 + 1)) (0 + 1))))) 146 (fun _ => ((nI 10) * (ld_fgr (nI 0) (ld_ca C n (0 + 1)))) + (ld_fgr (ld_fgr (nI 0) (ld_ca C n (0 + 1))) (ld_ca C n (ld_fga (nI 0) (ld_ca C n (0 + 1)) (0 + 1)))))) [(4, .int (ld_fgr (ld_fgr (nI 0) (ld_ca C n (0 + 1))) (ld_ca C n (ld_fga (nI 0) (ld_ca C n (0 + 1)) (0 + 1))))), (3, .int (ld_fgr (nI 0) (ld_ca C n (0 + 1)))), (0, .ref (ad 8)), (1, .int (nI i0)), (2, .int (nI n))] [.int (ld_b True)] 71
      refine ld_istore O (pc := 71) [(5, .int (ld_b True)), (4, .int (ld_fgr (ld_fgr (nI 0) (ld_ca C n (0 + 1))) (ld_ca C n (ld_fga (nI 0) (ld_ca C n (0 + 1)) (0 + 1))))), (3, .int (ld_fgr (nI 0) (ld_ca C n (0 + 1)))), (0, .ref (ad 8)), (1, .int (nI i0)), (2, .int (nI n))] dX3_readsStreet_71 (by decide) rfl ?_
      have L73 : ∀ (m_73 : Nat) (d : Nat) (a : Nat) (m : Nat) (P : Prop) (f24 : Nat → Int32) (f25 : Nat → Int32) (f26 : Nat → Int32) (fa : Nat → Int32) (fm : Nat → Int32), d < m_73 → (fa 0 = nI a) → (fm 0 = nI m) → (P → a = 3 + 4 * m ∧ m ≤ 8 ∧ ld_GG C n a ∧ d + m = 9 ∧ ∀ x, x < m → f24 x = ld_kl (C (3 + 4 * x + 1)) ∧ f25 x = C (3 + 4 * x + 2) - nI 48 ∧ f26 x = C (3 + 4 * x + 3) - nI 48) → (¬ P → ld_FL C n a) → (P → (fun _ => ((nI 10) * (ld_fgr (nI 0) (ld_ca C n (0 + 1)))) + (ld_fgr (ld_fgr (nI 0) (ld_ca C n (0 + 1))) (ld_ca C n (ld_fga (nI 0) (ld_ca C n (0 + 1)) (0 + 1))))) 0 = (C 1 - nI 48) * nI 10 + C 2 - nI 48) → K (us (us (us (us (us (us σ 146 (fun _ => ((nI 10) * (ld_fgr (nI 0) (ld_ca C n (0 + 1)))) + (ld_fgr (ld_fgr (nI 0) (ld_ca C n (0 + 1))) (ld_ca C n (ld_fga (nI 0) (ld_ca C n (0 + 1)) (0 + 1)))))) 24 f24) 25 f25) 26 f26) 144 fa) 145 fm) [(0, .ref (ad 8)), (1, .int (nI i0)), (2, .int (nI n)), (5, .int (ld_b P))] [] 73 := by
        intro m_73
        induction m_73 with
        | zero => intro d a m P f24 f25 f26 fa fm hm_; exact absurd hm_ (Nat.not_lt_zero _)
        | succ m_73 ih73 =>
          intro d a m P f24 f25 f26 fa fm hm_73 hfa hfm hP hN hfc
          refine ld_iload O (pc := 73) 3 dX3_readsStreet_73 rfl ?_
          refine ld_ifb_eq O (pc := 75) 105 dX3_readsStreet_75 (by decide) (fun c9 => ?_) (fun c9 => ?_)
          · refine ld_iload O (pc := 105) 3 dX3_readsStreet_105 rfl ?_
            refine ld_iretz E (ld_b_01 _) dX3_readsStreet_107 ?_
            have hp_ : ¬ P := c9
            have hF_ := hN hp_
            refine ⟨by rw [ld_b_f hp_, ld_b_f (hF_.no n60)], _, m, f24, f25, f26, fa, fm, fun _ => ((nI 10) * (ld_fgr (nI 0) (ld_ca C n (0 + 1)))) + (ld_fgr (ld_fgr (nI 0) (ld_ca C n (0 + 1))) (ld_ca C n (ld_fga (nI 0) (ld_ca C n (0 + 1)) (0 + 1)))), ?_, hfa, hfm, fun _ => hF_.ftf.symm, fun z => absurd z (hF_.no n60)⟩
            funext b_
            by_cases h0_ : b_ = 146
            · subst h0_; exact ((us_ne _ _ (by decide)).trans ((us_ne _ _ (by decide)).trans ((us_ne _ _ (by decide)).trans ((us_ne _ _ (by decide)).trans ((us_ne _ _ (by decide)).trans (us_eq _ _ _)))))).trans (us_eq _ _ _).symm
            by_cases h1_ : b_ = 24
            · subst h1_; exact ((us_ne _ _ (by decide)).trans ((us_ne _ _ (by decide)).trans ((us_ne _ _ (by decide)).trans ((us_ne _ _ (by decide)).trans (us_eq _ _ _))))).trans ((us_ne _ _ (by decide)).trans ((us_ne _ _ (by decide)).trans ((us_ne _ _ (by decide)).trans ((us_ne _ _ (by decide)).trans ((us_ne _ _ (by decide)).trans (us_eq _ _ _)))))).symm
            by_cases h2_ : b_ = 25
            · subst h2_; exact ((us_ne _ _ (by decide)).trans ((us_ne _ _ (by decide)).trans ((us_ne _ _ (by decide)).trans (us_eq _ _ _)))).trans ((us_ne _ _ (by decide)).trans ((us_ne _ _ (by decide)).trans ((us_ne _ _ (by decide)).trans ((us_ne _ _ (by decide)).trans (us_eq _ _ _))))).symm
            by_cases h3_ : b_ = 26
            · subst h3_; exact ((us_ne _ _ (by decide)).trans ((us_ne _ _ (by decide)).trans (us_eq _ _ _))).trans ((us_ne _ _ (by decide)).trans ((us_ne _ _ (by decide)).trans ((us_ne _ _ (by decide)).trans (us_eq _ _ _)))).symm
            by_cases h4_ : b_ = 144
            · subst h4_; exact ((us_ne _ _ (by decide)).trans (us_eq _ _ _)).trans ((us_ne _ _ (by decide)).trans ((us_ne _ _ (by decide)).trans (us_eq _ _ _))).symm
            by_cases h5_ : b_ = 145
            · subst h5_; exact (us_eq _ _ _).trans ((us_ne _ _ (by decide)).trans (us_eq _ _ _)).symm
            simp only [us, h0_, h1_, h2_, h3_, h4_, h5_, if_false]
          · have hc_ := c9
            obtain ⟨ea_, hm8_, hG_, hd_, hA_⟩ := hP c9
            subst ea_
            refine ld_aload_n O (pc := 78) 0 dX3_readsStreet_78 rfl rfl ?_
            refine ld_g_M_readHouses O (pc := 79) (v := nI m) ld_w118 hfm dX3_readsStreet_79 ?_
            refine ld_iconst O (pc := 82) (v := nI 1) dX3_readsStreet_82 (by decide) ?_
            refine ld_icmp_lt O (pc := 83) ((m : Nat) : Int) 1 (nI_toInt (by omega)) (by decide) 94 dX3_readsStreet_83 (by decide) (fun c10 => ?_) (fun c10 => ?_)
            · refine ld_aload_n O (pc := 94) 0 dX3_readsStreet_94 rfl rfl ?_
              refine ld_iload_n O (pc := 95) 1 dX3_readsStreet_95 rfl rfl ?_
              refine ld_iload_n O (pc := 96) 2 dX3_readsStreet_96 rfl rfl ?_
              refine ld_callVi O (pc := 97) (As := [.int (nI i0), .int (nI n)]) (st := []) ld_recv8 (c_X3_readsHouse l ad (us (us (us (us (us (us σ 146 (fun _ => ((nI 10) * (ld_fgr (nI 0) (ld_ca C n (0 + 1)))) + (ld_fgr (ld_fgr (nI 0) (ld_ca C n (0 + 1))) (ld_ca C n (ld_fga (nI 0) (ld_ca C n (0 + 1)) (0 + 1)))))) 24 f24) 25 f25) 26 f26) 144 fa) 145 fm) C i0 n hC hb n60 m (by omega) hfa hfm hG_ (by omega)) ld_mw_X3_readsHouse ld_w160 rfl rfl ⟨by decide, by decide⟩ (Nat.le_of_ble_eq_true rfl) dX3_readsStreet_97 (fun r_p97 σ_p97 h_p97 => ?_)
              obtain ⟨rfl, a2_p97, m2_p97, f24_p97, f25_p97, f26_p97, fa_p97, fm_p97, hσ_p97, hfa_p97, hfm_p97, hok_p97, hno_p97⟩ := h_p97
              rw [hσ_p97]
              show K (us (us (us (us (us (us (us (us (us (us (us σ 146 (fun _ => ((nI 10) * (ld_fgr (nI 0) (ld_ca C n (0 + 1)))) + (ld_fgr (ld_fgr (nI 0) (ld_ca C n (0 + 1))) (ld_ca C n (ld_fga (nI 0) (ld_ca C n (0 + 1)) (0 + 1)))))) 24 f24) 25 f25) 26 f26) 144 fa) 145 fm) 24 f24_p97) 25 f25_p97) 26 f26_p97) 144 fa_p97) 145 fm_p97) [(0, .ref (ad 8)), (1, .int (nI i0)), (2, .int (nI n)), (5, .int (ld_b P))] [.int (ld_b (ld_GG C n (3 + 4 * m + 4)))] 100
              have hP2_ : ld_GG C n (3 + 4 * m + 4) → a2_p97 = 3 + 4 * m2_p97 ∧ m2_p97 ≤ 8 ∧ ld_GG C n a2_p97 ∧ d - 1 + m2_p97 = 9 ∧ ∀ x, x < m2_p97 → f24_p97 x = ld_kl (C (3 + 4 * x + 1)) ∧ f25_p97 x = C (3 + 4 * x + 2) - nI 48 ∧ f26_p97 x = C (3 + 4 * x + 3) - nI 48 := by
                intro g
                obtain ⟨q1, q2, q3, q4, q5⟩ := hok_p97 g
                have g8 := (g (3 + 4 * m) (by omega)).2.1
                refine ⟨by omega, by omega, by rw [q1]; exact g, by omega, fun x hx => ?_⟩
                rw [q3, q4, q5]
                by_cases e : x = m
                · subst e; rw [pk_us, pk_us, pk_us]; exact ⟨rfl, rfl, rfl⟩
                · rw [pk_un e, pk_un e, pk_un e]; exact hA_ x (by omega)
              refine ld_istore O (pc := 100) [(5, .int (ld_b (ld_GG C n (3 + 4 * m + 4)))), (0, .ref (ad 8)), (1, .int (nI i0)), (2, .int (nI n))] dX3_readsStreet_100 (by decide) rfl ?_
              refine ld_goto O (pc := 102) 73 dX3_readsStreet_102 (by decide) ?_
              refine ld_less O [1, 2, 3, 0] (lv2 := [(0, .ref (ad 8)), (1, .int (nI i0)), (2, .int (nI n)), (5, .int (ld_b (ld_GG C n (3 + 4 * m + 4))))]) rfl ?_
              have hs11 : us (us (us (us (us (us (us (us (us (us (us σ 146 (fun _ => ((nI 10) * (ld_fgr (nI 0) (ld_ca C n (0 + 1)))) + (ld_fgr (ld_fgr (nI 0) (ld_ca C n (0 + 1))) (ld_ca C n (ld_fga (nI 0) (ld_ca C n (0 + 1)) (0 + 1)))))) 24 f24) 25 f25) 26 f26) 144 fa) 145 fm) 24 f24_p97) 25 f25_p97) 26 f26_p97) 144 fa_p97) 145 fm_p97 = us (us (us (us (us (us σ 146 (fun _ => ((nI 10) * (ld_fgr (nI 0) (ld_ca C n (0 + 1)))) + (ld_fgr (ld_fgr (nI 0) (ld_ca C n (0 + 1))) (ld_ca C n (ld_fga (nI 0) (ld_ca C n (0 + 1)) (0 + 1)))))) 24 f24_p97) 25 f25_p97) 26 f26_p97) 144 fa_p97) 145 fm_p97 := by
                funext b_
                by_cases h0_ : b_ = 146
                · subst h0_; exact ((us_ne _ _ (by decide)).trans ((us_ne _ _ (by decide)).trans ((us_ne _ _ (by decide)).trans ((us_ne _ _ (by decide)).trans ((us_ne _ _ (by decide)).trans ((us_ne _ _ (by decide)).trans ((us_ne _ _ (by decide)).trans ((us_ne _ _ (by decide)).trans ((us_ne _ _ (by decide)).trans ((us_ne _ _ (by decide)).trans (us_eq _ _ _))))))))))).trans ((us_ne _ _ (by decide)).trans ((us_ne _ _ (by decide)).trans ((us_ne _ _ (by decide)).trans ((us_ne _ _ (by decide)).trans ((us_ne _ _ (by decide)).trans (us_eq _ _ _)))))).symm
                by_cases h1_ : b_ = 24
                · subst h1_; exact ((us_ne _ _ (by decide)).trans ((us_ne _ _ (by decide)).trans ((us_ne _ _ (by decide)).trans ((us_ne _ _ (by decide)).trans (us_eq _ _ _))))).trans ((us_ne _ _ (by decide)).trans ((us_ne _ _ (by decide)).trans ((us_ne _ _ (by decide)).trans ((us_ne _ _ (by decide)).trans (us_eq _ _ _))))).symm
                by_cases h2_ : b_ = 25
                · subst h2_; exact ((us_ne _ _ (by decide)).trans ((us_ne _ _ (by decide)).trans ((us_ne _ _ (by decide)).trans (us_eq _ _ _)))).trans ((us_ne _ _ (by decide)).trans ((us_ne _ _ (by decide)).trans ((us_ne _ _ (by decide)).trans (us_eq _ _ _)))).symm
                by_cases h3_ : b_ = 26
                · subst h3_; exact ((us_ne _ _ (by decide)).trans ((us_ne _ _ (by decide)).trans (us_eq _ _ _))).trans ((us_ne _ _ (by decide)).trans ((us_ne _ _ (by decide)).trans (us_eq _ _ _))).symm
                by_cases h4_ : b_ = 144
                · subst h4_; exact ((us_ne _ _ (by decide)).trans (us_eq _ _ _)).trans ((us_ne _ _ (by decide)).trans (us_eq _ _ _)).symm
                by_cases h5_ : b_ = 145
                · subst h5_; exact (us_eq _ _ _).trans (us_eq _ _ _).symm
                simp only [us, h0_, h1_, h2_, h3_, h4_, h5_, if_false]
              refine ld_cv hs11 ?_
              exact ih73 (d - 1) a2_p97 m2_p97 (ld_GG C n (3 + 4 * m + 4)) f24_p97 f25_p97 f26_p97 fa_p97 fm_p97 (by omega) hfa_p97 hfm_p97 hP2_ hno_p97 (fun _ => hfc hc_)
            · refine ld_aload_n O (pc := 86) 0 dX3_readsStreet_86 rfl rfl ?_
              refine ld_g_M_readAt O (pc := 87) (v := nI (3 + 4 * m)) ld_w117 hfa dX3_readsStreet_87 ?_
              refine ld_iload_n O (pc := 90) 2 dX3_readsStreet_90 rfl rfl ?_
              refine ld_icmp_ge O (pc := 91) ((3 + 4 * m : Nat) : Int) ((n : Nat) : Int) (nI_toInt (by omega)) (nI_toInt (by omega)) 105 dX3_readsStreet_91 (by decide) (fun c12 => ?_) (fun c12 => ?_)
              · refine ld_iload O (pc := 105) 3 dX3_readsStreet_105 rfl ?_
                refine ld_iretz E (ld_b_01 _) dX3_readsStreet_107 ?_
                have hp_ : P := hc_
                have le_ := hG_.le
                have en_ : n = 3 + 4 * m := by omega
                have hT_ : ld_ftf C n = (-9 : Int32) := ld_GG.ftf (by rw [en_] at hG_ ⊢; exact hG_) (by unfold ld_mo; omega)
                have hT2_ : (ld_ftf C n).toInt = -9 := by rw [hT_]; decide
                refine ⟨by rw [ld_b_t hp_, ld_b_t hT2_], _, m, f24, f25, f26, fa, fm, fun _ => ((nI 10) * (ld_fgr (nI 0) (ld_ca C n (0 + 1)))) + (ld_fgr (ld_fgr (nI 0) (ld_ca C n (0 + 1))) (ld_ca C n (ld_fga (nI 0) (ld_ca C n (0 + 1)) (0 + 1)))), ?_, hfa, hfm, fun z => absurd hT2_ z, fun _ => ⟨en_, by omega, by omega, hfc hp_, hA_⟩⟩
                funext b_
                by_cases h0_ : b_ = 146
                · subst h0_; exact ((us_ne _ _ (by decide)).trans ((us_ne _ _ (by decide)).trans ((us_ne _ _ (by decide)).trans ((us_ne _ _ (by decide)).trans ((us_ne _ _ (by decide)).trans (us_eq _ _ _)))))).trans (us_eq _ _ _).symm
                by_cases h1_ : b_ = 24
                · subst h1_; exact ((us_ne _ _ (by decide)).trans ((us_ne _ _ (by decide)).trans ((us_ne _ _ (by decide)).trans ((us_ne _ _ (by decide)).trans (us_eq _ _ _))))).trans ((us_ne _ _ (by decide)).trans ((us_ne _ _ (by decide)).trans ((us_ne _ _ (by decide)).trans ((us_ne _ _ (by decide)).trans ((us_ne _ _ (by decide)).trans (us_eq _ _ _)))))).symm
                by_cases h2_ : b_ = 25
                · subst h2_; exact ((us_ne _ _ (by decide)).trans ((us_ne _ _ (by decide)).trans ((us_ne _ _ (by decide)).trans (us_eq _ _ _)))).trans ((us_ne _ _ (by decide)).trans ((us_ne _ _ (by decide)).trans ((us_ne _ _ (by decide)).trans ((us_ne _ _ (by decide)).trans (us_eq _ _ _))))).symm
                by_cases h3_ : b_ = 26
                · subst h3_; exact ((us_ne _ _ (by decide)).trans ((us_ne _ _ (by decide)).trans (us_eq _ _ _))).trans ((us_ne _ _ (by decide)).trans ((us_ne _ _ (by decide)).trans ((us_ne _ _ (by decide)).trans (us_eq _ _ _)))).symm
                by_cases h4_ : b_ = 144
                · subst h4_; exact ((us_ne _ _ (by decide)).trans (us_eq _ _ _)).trans ((us_ne _ _ (by decide)).trans ((us_ne _ _ (by decide)).trans (us_eq _ _ _))).symm
                by_cases h5_ : b_ = 145
                · subst h5_; exact (us_eq _ _ _).trans ((us_ne _ _ (by decide)).trans (us_eq _ _ _)).symm
                simp only [us, h0_, h1_, h2_, h3_, h4_, h5_, if_false]
              · refine ld_aload_n O (pc := 94) 0 dX3_readsStreet_94 rfl rfl ?_
                refine ld_iload_n O (pc := 95) 1 dX3_readsStreet_95 rfl rfl ?_
                refine ld_iload_n O (pc := 96) 2 dX3_readsStreet_96 rfl rfl ?_
                refine ld_callVi O (pc := 97) (As := [.int (nI i0), .int (nI n)]) (st := []) ld_recv8 (c_X3_readsHouse l ad (us (us (us (us (us (us σ 146 (fun _ => ((nI 10) * (ld_fgr (nI 0) (ld_ca C n (0 + 1)))) + (ld_fgr (ld_fgr (nI 0) (ld_ca C n (0 + 1))) (ld_ca C n (ld_fga (nI 0) (ld_ca C n (0 + 1)) (0 + 1)))))) 24 f24) 25 f25) 26 f26) 144 fa) 145 fm) C i0 n hC hb n60 m (by omega) hfa hfm hG_ (by omega)) ld_mw_X3_readsHouse ld_w160 rfl rfl ⟨by decide, by decide⟩ (Nat.le_of_ble_eq_true rfl) dX3_readsStreet_97 (fun r_p97 σ_p97 h_p97 => ?_)
                obtain ⟨rfl, a2_p97, m2_p97, f24_p97, f25_p97, f26_p97, fa_p97, fm_p97, hσ_p97, hfa_p97, hfm_p97, hok_p97, hno_p97⟩ := h_p97
                rw [hσ_p97]
                show K (us (us (us (us (us (us (us (us (us (us (us σ 146 (fun _ => ((nI 10) * (ld_fgr (nI 0) (ld_ca C n (0 + 1)))) + (ld_fgr (ld_fgr (nI 0) (ld_ca C n (0 + 1))) (ld_ca C n (ld_fga (nI 0) (ld_ca C n (0 + 1)) (0 + 1)))))) 24 f24) 25 f25) 26 f26) 144 fa) 145 fm) 24 f24_p97) 25 f25_p97) 26 f26_p97) 144 fa_p97) 145 fm_p97) [(0, .ref (ad 8)), (1, .int (nI i0)), (2, .int (nI n)), (5, .int (ld_b P))] [.int (ld_b (ld_GG C n (3 + 4 * m + 4)))] 100
                have hP2_ : ld_GG C n (3 + 4 * m + 4) → a2_p97 = 3 + 4 * m2_p97 ∧ m2_p97 ≤ 8 ∧ ld_GG C n a2_p97 ∧ d - 1 + m2_p97 = 9 ∧ ∀ x, x < m2_p97 → f24_p97 x = ld_kl (C (3 + 4 * x + 1)) ∧ f25_p97 x = C (3 + 4 * x + 2) - nI 48 ∧ f26_p97 x = C (3 + 4 * x + 3) - nI 48 := by
                  intro g
                  obtain ⟨q1, q2, q3, q4, q5⟩ := hok_p97 g
                  have g8 := (g (3 + 4 * m) (by omega)).2.1
                  refine ⟨by omega, by omega, by rw [q1]; exact g, by omega, fun x hx => ?_⟩
                  rw [q3, q4, q5]
                  by_cases e : x = m
                  · subst e; rw [pk_us, pk_us, pk_us]; exact ⟨rfl, rfl, rfl⟩
                  · rw [pk_un e, pk_un e, pk_un e]; exact hA_ x (by omega)
                refine ld_istore O (pc := 100) [(5, .int (ld_b (ld_GG C n (3 + 4 * m + 4)))), (0, .ref (ad 8)), (1, .int (nI i0)), (2, .int (nI n))] dX3_readsStreet_100 (by decide) rfl ?_
                refine ld_goto O (pc := 102) 73 dX3_readsStreet_102 (by decide) ?_
                refine ld_less O [1, 2, 3, 0] (lv2 := [(0, .ref (ad 8)), (1, .int (nI i0)), (2, .int (nI n)), (5, .int (ld_b (ld_GG C n (3 + 4 * m + 4))))]) rfl ?_
                have hs13 : us (us (us (us (us (us (us (us (us (us (us σ 146 (fun _ => ((nI 10) * (ld_fgr (nI 0) (ld_ca C n (0 + 1)))) + (ld_fgr (ld_fgr (nI 0) (ld_ca C n (0 + 1))) (ld_ca C n (ld_fga (nI 0) (ld_ca C n (0 + 1)) (0 + 1)))))) 24 f24) 25 f25) 26 f26) 144 fa) 145 fm) 24 f24_p97) 25 f25_p97) 26 f26_p97) 144 fa_p97) 145 fm_p97 = us (us (us (us (us (us σ 146 (fun _ => ((nI 10) * (ld_fgr (nI 0) (ld_ca C n (0 + 1)))) + (ld_fgr (ld_fgr (nI 0) (ld_ca C n (0 + 1))) (ld_ca C n (ld_fga (nI 0) (ld_ca C n (0 + 1)) (0 + 1)))))) 24 f24_p97) 25 f25_p97) 26 f26_p97) 144 fa_p97) 145 fm_p97 := by
                  funext b_
                  by_cases h0_ : b_ = 146
                  · subst h0_; exact ((us_ne _ _ (by decide)).trans ((us_ne _ _ (by decide)).trans ((us_ne _ _ (by decide)).trans ((us_ne _ _ (by decide)).trans ((us_ne _ _ (by decide)).trans ((us_ne _ _ (by decide)).trans ((us_ne _ _ (by decide)).trans ((us_ne _ _ (by decide)).trans ((us_ne _ _ (by decide)).trans ((us_ne _ _ (by decide)).trans (us_eq _ _ _))))))))))).trans ((us_ne _ _ (by decide)).trans ((us_ne _ _ (by decide)).trans ((us_ne _ _ (by decide)).trans ((us_ne _ _ (by decide)).trans ((us_ne _ _ (by decide)).trans (us_eq _ _ _)))))).symm
                  by_cases h1_ : b_ = 24
                  · subst h1_; exact ((us_ne _ _ (by decide)).trans ((us_ne _ _ (by decide)).trans ((us_ne _ _ (by decide)).trans ((us_ne _ _ (by decide)).trans (us_eq _ _ _))))).trans ((us_ne _ _ (by decide)).trans ((us_ne _ _ (by decide)).trans ((us_ne _ _ (by decide)).trans ((us_ne _ _ (by decide)).trans (us_eq _ _ _))))).symm
                  by_cases h2_ : b_ = 25
                  · subst h2_; exact ((us_ne _ _ (by decide)).trans ((us_ne _ _ (by decide)).trans ((us_ne _ _ (by decide)).trans (us_eq _ _ _)))).trans ((us_ne _ _ (by decide)).trans ((us_ne _ _ (by decide)).trans ((us_ne _ _ (by decide)).trans (us_eq _ _ _)))).symm
                  by_cases h3_ : b_ = 26
                  · subst h3_; exact ((us_ne _ _ (by decide)).trans ((us_ne _ _ (by decide)).trans (us_eq _ _ _))).trans ((us_ne _ _ (by decide)).trans ((us_ne _ _ (by decide)).trans (us_eq _ _ _))).symm
                  by_cases h4_ : b_ = 144
                  · subst h4_; exact ((us_ne _ _ (by decide)).trans (us_eq _ _ _)).trans ((us_ne _ _ (by decide)).trans (us_eq _ _ _)).symm
                  by_cases h5_ : b_ = 145
                  · subst h5_; exact (us_eq _ _ _).trans (us_eq _ _ _).symm
                  simp only [us, h0_, h1_, h2_, h3_, h4_, h5_, if_false]
                refine ld_cv hs13 ?_
                exact ih73 (d - 1) a2_p97 m2_p97 (ld_GG C n (3 + 4 * m + 4)) f24_p97 f25_p97 f26_p97 fa_p97 fm_p97 (by omega) hfa_p97 hfm_p97 hP2_ hno_p97 (fun _ => hfc hc_)
      refine ld_less O [3, 4, 5, 0] (lv2 := [(0, .ref (ad 8)), (1, .int (nI i0)), (2, .int (nI n)), (5, .int (ld_b True))]) rfl ?_
      have hs14 : us (us (us (us (us (us σ 144 (fun _ => nI 0)) 145 (fun _ => nI 0)) 144 (fun _ => nI (0 + 1))) 144 (fun _ => nI (ld_fga (nI 0) (ld_ca C n (0 + 1)) (0 + 1)))) 144 (fun _ => nI (ld_fga (ld_fgr (nI 0) (ld_ca C n (0 + 1))) (ld_ca C n (ld_fga (nI 0) (ld_ca C n (0 + 1)) (0 + 1))) (ld_fga (nI 0) (ld_ca C n (0 + 1)) (0 + 1))))) 146 (fun _ => ((nI 10) * (ld_fgr (nI 0) (ld_ca C n (0 + 1)))) + (ld_fgr (ld_fgr (nI 0) (ld_ca C n (0 + 1))) (ld_ca C n (ld_fga (nI 0) (ld_ca C n (0 + 1)) (0 + 1))))) = us (us (us (us (us (us σ 146 (fun _ => ((nI 10) * (ld_fgr (nI 0) (ld_ca C n (0 + 1)))) + (ld_fgr (ld_fgr (nI 0) (ld_ca C n (0 + 1))) (ld_ca C n (ld_fga (nI 0) (ld_ca C n (0 + 1)) (0 + 1)))))) 24 (σ 24)) 25 (σ 25)) 26 (σ 26)) 144 (fun _ => nI (ld_fga (ld_fgr (nI 0) (ld_ca C n (0 + 1))) (ld_ca C n (ld_fga (nI 0) (ld_ca C n (0 + 1)) (0 + 1))) (ld_fga (nI 0) (ld_ca C n (0 + 1)) (0 + 1))))) 145 (fun _ => nI 0) := by
        funext b_
        by_cases h0_ : b_ = 144
        · subst h0_; exact ((us_ne _ _ (by decide)).trans (us_eq _ _ _)).trans ((us_ne _ _ (by decide)).trans (us_eq _ _ _)).symm
        by_cases h1_ : b_ = 145
        · subst h1_; exact ((us_ne _ _ (by decide)).trans ((us_ne _ _ (by decide)).trans ((us_ne _ _ (by decide)).trans ((us_ne _ _ (by decide)).trans (us_eq _ _ _))))).trans (us_eq _ _ _).symm
        by_cases h2_ : b_ = 146
        · subst h2_; exact (us_eq _ _ _).trans ((us_ne _ _ (by decide)).trans ((us_ne _ _ (by decide)).trans ((us_ne _ _ (by decide)).trans ((us_ne _ _ (by decide)).trans ((us_ne _ _ (by decide)).trans (us_eq _ _ _)))))).symm
        by_cases h3_ : b_ = 24
        · subst h3_; exact ((us_ne _ _ (by decide)).trans ((us_ne _ _ (by decide)).trans ((us_ne _ _ (by decide)).trans ((us_ne _ _ (by decide)).trans ((us_ne _ _ (by decide)).trans (us_ne _ _ (by decide))))))).trans ((us_ne _ _ (by decide)).trans ((us_ne _ _ (by decide)).trans ((us_ne _ _ (by decide)).trans ((us_ne _ _ (by decide)).trans (us_eq _ _ _))))).symm
        by_cases h4_ : b_ = 25
        · subst h4_; exact ((us_ne _ _ (by decide)).trans ((us_ne _ _ (by decide)).trans ((us_ne _ _ (by decide)).trans ((us_ne _ _ (by decide)).trans ((us_ne _ _ (by decide)).trans (us_ne _ _ (by decide))))))).trans ((us_ne _ _ (by decide)).trans ((us_ne _ _ (by decide)).trans ((us_ne _ _ (by decide)).trans (us_eq _ _ _)))).symm
        by_cases h5_ : b_ = 26
        · subst h5_; exact ((us_ne _ _ (by decide)).trans ((us_ne _ _ (by decide)).trans ((us_ne _ _ (by decide)).trans ((us_ne _ _ (by decide)).trans ((us_ne _ _ (by decide)).trans (us_ne _ _ (by decide))))))).trans ((us_ne _ _ (by decide)).trans ((us_ne _ _ (by decide)).trans (us_eq _ _ _))).symm
        simp only [us, h0_, h1_, h2_, h3_, h4_, h5_, if_false]
      refine ld_cv hs14 ?_
      exact L73 _ 9 (ld_fga (ld_fgr (nI 0) (ld_ca C n (0 + 1))) (ld_ca C n (ld_fga (nI 0) (ld_ca C n (0 + 1)) (0 + 1))) (ld_fga (nI 0) (ld_ca C n (0 + 1)) (0 + 1))) 0 True (σ 24) (σ 25) (σ 26) (fun _ => nI (ld_fga (ld_fgr (nI 0) (ld_ca C n (0 + 1))) (ld_ca C n (ld_fga (nI 0) (ld_ca C n (0 + 1)) (0 + 1))) (ld_fga (nI 0) (ld_ca C n (0 + 1)) (0 + 1)))) (fun _ => nI 0) (Nat.lt_succ_self _) rfl rfl (fun _ => ⟨(two_.1 (Int.not_lt.mp c2)).1, by omega, by rw [(two_.1 (Int.not_lt.mp c2)).1]; exact (two_.1 (Int.not_lt.mp c2)).2.1, rfl, fun x hx => absurd hx (Nat.not_lt_zero x)⟩) (fun z => absurd trivial z) (fun _ => by obtain ⟨w1_, w2_, w3_, w4_⟩ := two_.1 (Int.not_lt.mp c2); show nI 10 * ld_fgr _ _ + ld_fgr _ _ = _; rw [w4_, w3_]; exact ld_crx _ _)
  · refine ld_iconst O (pc := 21) (v := nI 0) dX3_readsStreet_21 (by decide) ?_
    refine ld_iretz E (Or.inl rfl) dX3_readsStreet_22 ?_
    have hg0_ : ld_GG C n 0 := fun p hp => absurd hp (Nat.not_lt_zero p)
    have hF_ := hg0_.fl (T := fun c => c.toInt = 108) (by assumption) (fun c z => ld_goA.mp z) (fun z w => by unfold ld_mo at w; omega)
    refine ⟨(ld_b_f (hF_.no n60)).symm, 0, 0, σ 24, σ 25, σ 26, fun _ => nI 0, fun _ => nI 0, σ 146, ?_, rfl, rfl, fun _ => hF_.ftf.symm, fun z => absurd z (hF_.no n60)⟩
    funext b_
    by_cases h0_ : b_ = 144
    · subst h0_; exact ((us_ne _ _ (by decide)).trans (us_eq _ _ _)).trans ((us_ne _ _ (by decide)).trans ((us_ne _ _ (by decide)).trans (us_eq _ _ _))).symm
    by_cases h1_ : b_ = 145
    · subst h1_; exact (us_eq _ _ _).trans ((us_ne _ _ (by decide)).trans (us_eq _ _ _)).symm
    by_cases h2_ : b_ = 24
    · subst h2_; exact ((us_ne _ _ (by decide)).trans (us_ne _ _ (by decide))).trans ((us_ne _ _ (by decide)).trans ((us_ne _ _ (by decide)).trans ((us_ne _ _ (by decide)).trans ((us_ne _ _ (by decide)).trans ((us_ne _ _ (by decide)).trans (us_eq _ _ _)))))).symm
    by_cases h3_ : b_ = 25
    · subst h3_; exact ((us_ne _ _ (by decide)).trans (us_ne _ _ (by decide))).trans ((us_ne _ _ (by decide)).trans ((us_ne _ _ (by decide)).trans ((us_ne _ _ (by decide)).trans ((us_ne _ _ (by decide)).trans (us_eq _ _ _))))).symm
    by_cases h4_ : b_ = 26
    · subst h4_; exact ((us_ne _ _ (by decide)).trans (us_ne _ _ (by decide))).trans ((us_ne _ _ (by decide)).trans ((us_ne _ _ (by decide)).trans ((us_ne _ _ (by decide)).trans (us_eq _ _ _)))).symm
    by_cases h5_ : b_ = 146
    · subst h5_; exact ((us_ne _ _ (by decide)).trans (us_ne _ _ (by decide))).trans (us_eq _ _ _).symm
    simp only [us, h0_, h1_, h2_, h3_, h4_, h5_, if_false]
