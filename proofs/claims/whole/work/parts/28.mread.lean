def ld_ca (C : Nat → Int32) (n a : Nat) : Int32 := if a < n then C a else (-9 : Int32)
def ld_fgr (b c : Int32) : Int32 := if 0 ≤ b.toInt ∧ 48 ≤ c.toInt ∧ c.toInt < 58 then c - nI 48 else (-9 : Int32)
def ld_fga (b c : Int32) (a : Nat) : Nat := if 0 ≤ b.toInt ∧ 48 ≤ c.toInt ∧ c.toInt < 58 then a + 1 else a
theorem ld_n48 : (nI 48).toInt = 48 := by decide
theorem ld_dgs (c : Int32) : (0 ≤ (c - nI 48).toInt ∧ (c - nI 48).toInt ≤ 9) ↔ 48 ≤ c.toInt ∧ c.toInt < 58 := by
  have r := fb_rng c
  constructor
  · intro h
    have e : c = (c - nI 48) + nI 48 := (Int32.sub_add_cancel c (nI 48)).symm
    have e2 : ((c - nI 48) + nI 48).toInt = (c - nI 48).toInt + (nI 48).toInt := fb_addI (by rw [ld_n48]; omega) (by rw [ld_n48]; omega)
    rw [← e, ld_n48] at e2
    omega
  · intro h
    have e2 : (c - nI 48).toInt = c.toInt - (nI 48).toInt := fb_subI (by rw [ld_n48]; omega) (by rw [ld_n48]; omega)
    rw [ld_n48] at e2
    omega
def ld_GG (C : Nat → Int32) (n a : Nat) : Prop := ∀ p, p < a → p < n ∧ ld_go p (C p)
def ld_mo (n : Nat) : Prop := 3 < n ∧ (n - 3) % 4 = 0
def ld_FL (C : Nat → Int32) (n a : Nat) : Prop := a ≤ n ∧ ld_GG C n a ∧ (a < n → ¬ ld_go a (C a)) ∧ (a = n → ¬ ld_mo n)
theorem ld_GG.le {C : Nat → Int32} {n a : Nat} (h : ld_GG C n a) : a ≤ n := by
  cases a with
  | zero => exact Nat.zero_le _
  | succ b => have := (h b (Nat.lt_succ_self b)).1; omega
theorem ld_GG.up {C : Nat → Int32} {n a : Nat} (h : ld_GG C n a) {T : Int32 → Prop} (ht : T (ld_ca C n a)) (hg : ∀ c, T c → ld_go a c) (h9 : ¬ T (-9 : Int32)) : ld_GG C n (a + 1) ∧ ld_ca C n a = C a := by
  unfold ld_ca at *
  by_cases q : a < n
  · rw [if_pos q] at *
    refine ⟨fun p hp => ?_, rfl⟩
    by_cases e : p = a
    · subst e; exact ⟨q, hg _ ht⟩
    · exact h p (by omega)
  · rw [if_neg q] at ht; exact absurd ht h9
theorem ld_GG.fl {C : Nat → Int32} {n a : Nat} (h : ld_GG C n a) {T : Int32 → Prop} (ht : ¬ T (ld_ca C n a)) (hg : ∀ c, ld_go a c → T c) (hm : a = n → ¬ ld_mo n) : ld_FL C n a := by
  refine ⟨h.le, h, fun q z => ?_, hm⟩
  unfold ld_ca at ht
  rw [if_pos q] at ht
  exact ht (hg _ z)
theorem ld_FL.ftf {C : Nat → Int32} {n a : Nat} (h : ld_FL C n a) : ld_ftf C n = nI a := by
  obtain ⟨h1, h2, h3, h4⟩ := h
  by_cases q : a < n
  · exact ld_ftf_s (ld_fi_yes (ld_fi_of (fun i hi z => z (h2 i hi).2)) (h3 q) q)
  · have e : a = n := by omega
    subst e
    rw [ld_ftf_n (ld_fi_of (fun i hi z => z (h2 i hi).2))]
    exact if_neg (h4 rfl)
theorem ld_GG.ftf {C : Nat → Int32} {n : Nat} (h : ld_GG C n n) (hm : ld_mo n) : ld_ftf C n = (-9 : Int32) := by
  rw [ld_ftf_n (ld_fi_of (fun i hi z => z (h i hi).2))]
  exact if_pos hm
theorem ld_FL.no {C : Nat → Int32} {n a : Nat} (h : ld_FL C n a) (hn : n ≤ 60) : ¬ (ld_ftf C n).toInt = -9 := by
  have := h.1
  rw [h.ftf, nI_toInt (by omega)]; omega
theorem ld_go0 {m : Nat} {c : Int32} (hm : m < 8) : ld_go (3 + 4 * m) c ↔ c.toInt = 59 := by
  unfold ld_go
  rw [if_neg (by omega), if_neg (by omega), if_pos (by omega)]
  exact ⟨fun z => z.2, fun z => ⟨by omega, z⟩⟩
theorem ld_go1 {m : Nat} {c : Int32} (hm : m < 8) : ld_go (3 + 4 * m + 1) c ↔ ¬ (ld_kl c).toInt = -9 := by
  unfold ld_go
  rw [if_neg (by omega), if_neg (by omega), if_neg (by omega), if_pos (by omega)]
  exact ⟨fun z => z.2, fun z => ⟨by omega, z⟩⟩
theorem ld_go2 {m : Nat} {c : Int32} (hm : m < 8) : ld_go (3 + 4 * m + 1 + 1) c ↔ ld_dg c := by
  unfold ld_go
  rw [if_neg (by omega), if_neg (by omega), if_neg (by omega), if_neg (by omega)]
  exact ⟨fun z => z.2, fun z => ⟨by omega, z⟩⟩
theorem ld_go3 {m : Nat} {c : Int32} (hm : m < 8) : ld_go (3 + 4 * m + 1 + 1 + 1) c ↔ ld_dg c := by
  unfold ld_go
  rw [if_neg (by omega), if_neg (by omega), if_neg (by omega), if_neg (by omega)]
  exact ⟨fun z => z.2, fun z => ⟨by omega, z⟩⟩
theorem ld_dg9 : ¬ ld_dg (-9 : Int32) := by unfold ld_dg; decide
theorem ld_two {C : Nat → Int32} {n a : Nat} (h : ld_GG C n a) (g1 : ∀ c, ld_go a c ↔ ld_dg c) (g2 : ∀ c, ld_go (a + 1) c ↔ ld_dg c) (n1 : a = n → ¬ ld_mo n) (n2 : a + 1 = n → ¬ ld_mo n) :
    (0 ≤ (ld_fgr (ld_fgr (nI 0) (ld_ca C n a)) (ld_ca C n (ld_fga (nI 0) (ld_ca C n a) a))).toInt → ld_fga (ld_fgr (nI 0) (ld_ca C n a)) (ld_ca C n (ld_fga (nI 0) (ld_ca C n a) a)) (ld_fga (nI 0) (ld_ca C n a) a) = a + 2 ∧ ld_GG C n (a + 2) ∧ ld_fgr (nI 0) (ld_ca C n a) = C a - nI 48 ∧ ld_fgr (ld_fgr (nI 0) (ld_ca C n a)) (ld_ca C n (ld_fga (nI 0) (ld_ca C n a) a)) = C (a + 1) - nI 48) ∧
    (¬ 0 ≤ (ld_fgr (ld_fgr (nI 0) (ld_ca C n a)) (ld_ca C n (ld_fga (nI 0) (ld_ca C n a) a))).toInt → ld_FL C n (ld_fga (ld_fgr (nI 0) (ld_ca C n a)) (ld_ca C n (ld_fga (nI 0) (ld_ca C n a) a)) (ld_fga (nI 0) (ld_ca C n a) a))) := by
  by_cases d1 : ld_dg (ld_ca C n a)
  · obtain ⟨u1, u2⟩ := h.up d1 (fun c z => (g1 c).mpr z) ld_dg9
    have e1 : ld_fgr (nI 0) (ld_ca C n a) = ld_ca C n a - nI 48 := if_pos ⟨by decide, d1⟩
    have e2 : ld_fga (nI 0) (ld_ca C n a) a = a + 1 := if_pos ⟨by decide, d1⟩
    have e3 : 0 ≤ (ld_ca C n a - nI 48).toInt := ((ld_dgs _).mpr d1).1
    rw [e1, e2, u2]
    rw [u2] at e3
    by_cases d2 : ld_dg (ld_ca C n (a + 1))
    · obtain ⟨v1, v2⟩ := u1.up d2 (fun c z => (g2 c).mpr z) ld_dg9
      have e4 : ld_fgr (C a - nI 48) (ld_ca C n (a + 1)) = ld_ca C n (a + 1) - nI 48 := if_pos ⟨e3, d2⟩
      have e5 : ld_fga (C a - nI 48) (ld_ca C n (a + 1)) (a + 1) = a + 1 + 1 := if_pos ⟨e3, d2⟩
      have e6 : 0 ≤ (ld_ca C n (a + 1) - nI 48).toInt := ((ld_dgs _).mpr d2).1
      rw [e4, e5, v2]
      rw [v2] at e6
      exact ⟨fun _ => ⟨rfl, v1, rfl, rfl⟩, fun z => absurd e6 z⟩
    · have e4 : ld_fgr (C a - nI 48) (ld_ca C n (a + 1)) = (-9 : Int32) := if_neg (fun z => d2 z.2)
      have e5 : ld_fga (C a - nI 48) (ld_ca C n (a + 1)) (a + 1) = a + 1 := if_neg (fun z => d2 z.2)
      rw [e4, e5]
      exact ⟨fun z => absurd z (by decide), fun _ => u1.fl d2 (fun c z => (g2 c).mp z) n2⟩
  · have e1 : ld_fgr (nI 0) (ld_ca C n a) = (-9 : Int32) := if_neg (fun z => d1 z.2)
    have e2 : ld_fga (nI 0) (ld_ca C n a) a = a := if_neg (fun z => d1 z.2)
    rw [e1, e2]
    have e4 : ld_fgr (-9 : Int32) (ld_ca C n a) = (-9 : Int32) := if_neg (fun z => absurd z.1 (by decide))
    have e5 : ld_fga (-9 : Int32) (ld_ca C n a) a = a := if_neg (fun z => absurd z.1 (by decide))
    rw [e4, e5]
    exact ⟨fun z => absurd z (by decide), fun _ => h.fl d1 (fun c z => (g1 c).mp z) n1⟩
set_option maxHeartbeats 4000000 in
set_option maxRecDepth 100000 in
theorem c_X3_codeAt (l : Launch) (ad : Nat → Nat) (σ : ld_St) (C : Nat → Int32) (i0 n : Nat) (hC : ∀ z, σ 36 (i0 + z) = C z) (hb : i0 + n ≤ 240) (n60 : n ≤ 60) (a : Nat) (ha : σ 144 0 = nI a) (a60 : a ≤ 60) : ld_Ctr l yX3_codeAt cX3_codeAt 3 (some .int) (0, 0) [.ref (ad 8), .int (nI i0), .int (nI n)] ad σ (ld_I (fun (r : Int32) (σ2 : ld_St) => r = ld_ca C n a ∧ σ2 = σ)) := by
  refine ld_entry (by decide +kernel) (Nat.le_of_ble_eq_true rfl) (fun K O E => ?_)
  have O : ld_Ok l K ad cX3_codeAt 3 RX3 (ld_rm (0, 0)) := O
  show K σ [(0, .ref (ad 8)), (1, .int (nI i0)), (2, .int (nI n))] [] 0
  refine ld_aload_n O (pc := 0) 0 dX3_codeAt_0 rfl rfl ?_
  refine ld_g_M_readAt O (pc := 1) (v := nI a) ld_w117 ha dX3_codeAt_1 ?_
  refine ld_iload_n O (pc := 4) 2 dX3_codeAt_4 rfl rfl ?_
  refine ld_icmp_ge O (pc := 5) ((a : Nat) : Int) ((n : Nat) : Int) (nI_toInt (by omega)) (nI_toInt (by omega)) 22 dX3_codeAt_5 (by decide) (fun c1 => ?_) (fun c1 => ?_)
  · refine ld_bipush O (pc := 22) (v := (-9 : Int32)) dX3_codeAt_22 (by decide) ?_
    refine ld_ireti E dX3_codeAt_24 ?_
    refine ⟨?_, rfl⟩
    unfold ld_ca
    rw [if_neg (by omega)]
  · refine ld_aload_n O (pc := 8) 0 dX3_codeAt_8 rfl rfl ?_
    refine ld_g_M_sheet O (pc := 9) ld_w67 dX3_codeAt_9 ?_
    refine ld_iload_n O (pc := 12) 1 dX3_codeAt_12 rfl rfl ?_
    refine ld_aload_n O (pc := 13) 0 dX3_codeAt_13 rfl rfl ?_
    refine ld_g_M_readAt O (pc := 14) (v := nI a) ld_w117 ha dX3_codeAt_14 ?_
    refine ld_iaddN O (pc := 17) dX3_codeAt_17 ?_
    refine ld_iald O (pc := 18) 36 (i0 + a) (v := σ 36 (i0 + a)) rfl (by decide) (show i0 + a < 240 by omega) rfl dX3_codeAt_18 ?_
    refine ld_goto O (pc := 19) 24 dX3_codeAt_19 (by decide) ?_
    refine ld_ireti E dX3_codeAt_24 ?_
    refine ⟨?_, rfl⟩
    unfold ld_ca
    rw [if_pos (by omega)]
    exact hC a
set_option maxHeartbeats 4000000 in
set_option maxRecDepth 100000 in
theorem c_X3_figure (l : Launch) (ad : Nat → Nat) (σ : ld_St) (C : Nat → Int32) (i0 n : Nat) (hC : ∀ z, σ 36 (i0 + z) = C z) (hb : i0 + n ≤ 240) (n60 : n ≤ 60) (a : Nat) (ha : σ 144 0 = nI a) (a60 : a ≤ 60) (b : Int32) : ld_Ctr l yX3_figure cX3_figure 6 (some .int) (1, 25) [.ref (ad 8), .int (nI i0), .int (nI n), .int b] ad σ (ld_I (fun (r : Int32) (σ2 : ld_St) => r = ld_fgr b (ld_ca C n a) ∧ σ2 = us σ 144 (fun _ => nI (ld_fga b (ld_ca C n a) a)))) := by
  refine ld_entry (by decide +kernel) (Nat.le_of_ble_eq_true rfl) (fun K O E => ?_)
  have O : ld_Ok l K ad cX3_figure 6 RX3 (ld_rm (1, 25)) := O
  show K σ [(0, .ref (ad 8)), (1, .int (nI i0)), (2, .int (nI n)), (3, .int b)] [] 0
  refine ld_iload_n O (pc := 0) 3 dX3_figure_0 rfl rfl ?_
  refine ld_if_ge O (pc := 1) (b).toInt rfl 9 dX3_figure_1 (by decide) (fun c1 => ?_) (fun c1 => ?_)
  · refine ld_aload_n O (pc := 9) 0 dX3_figure_9 rfl rfl ?_
    refine ld_iload_n O (pc := 10) 1 dX3_figure_10 rfl rfl ?_
    refine ld_iload_n O (pc := 11) 2 dX3_figure_11 rfl rfl ?_
    refine ld_callVi O (pc := 12) (As := [.int (nI i0), .int (nI n)]) (st := []) ld_recv8 (c_X3_codeAt l ad σ C i0 n hC hb n60 a ha (by omega)) ld_mw_X3_codeAt ld_w151 rfl rfl ⟨by decide, by decide⟩ (Nat.le_of_ble_eq_true rfl) dX3_figure_12 (fun r_p12 σ_p12 h_p12 => ?_)
    obtain ⟨rfl, hσ_p12⟩ := h_p12
    rw [hσ_p12]
    show K σ [(0, .ref (ad 8)), (1, .int (nI i0)), (2, .int (nI n)), (3, .int b)] [.int (ld_ca C n a)] 15
    refine ld_bipush O (pc := 15) (v := nI 48) dX3_figure_15 (by decide) ?_
    refine ld_isub O (pc := 17) dX3_figure_17 ?_
    refine ld_istore O (pc := 18) [(4, .int ((ld_ca C n a) - (nI 48))), (0, .ref (ad 8)), (1, .int (nI i0)), (2, .int (nI n)), (3, .int b)] dX3_figure_18 (by decide) rfl ?_
    refine ld_iload O (pc := 20) 0 dX3_figure_20 rfl ?_
    have hl2 : (((ld_ca C n a) - (nI 48)).toInt64).toInt = ((ld_ca C n a) - (nI 48)).toInt := (Int32.toInt_toInt64 _).trans rfl
    refine ld_i2l O (pc := 22) dX3_figure_22 ?_
    refine ld_lconst O (pc := 23) (v := (0 : Int64)) dX3_figure_23 (by decide) ?_
    refine ld_ldc2 O (pc := 24) (v := (9 : Int64)) dX3_figure_24 ld_w159 ?_
    refine ld_callSi O (pc := 27) (As := [.long (((ld_ca C n a) - (nI 48)).toInt64), .long (0 : Int64), .long (9 : Int64)]) (st := []) (c_X3_in l ad σ (((ld_ca C n a) - (nI 48)).toInt64) (0 : Int64) (9 : Int64) (((ld_ca C n a) - (nI 48)).toInt) 0 (9) hl2 (by decide) (by decide)) ld_mw_X3_in ld_w128 rfl rfl ⟨by decide, by decide⟩ (Nat.le_of_ble_eq_true rfl) dX3_figure_27 (fun r_p27 σ_p27 h_p27 => ?_)
    obtain ⟨rfl, hσ_p27⟩ := h_p27
    rw [hσ_p27]
    show K σ [(4, .int ((ld_ca C n a) - (nI 48))), (0, .ref (ad 8)), (1, .int (nI i0)), (2, .int (nI n)), (3, .int b)] [.int (ld_b (0 ≤ ((ld_ca C n a) - (nI 48)).toInt ∧ ((ld_ca C n a) - (nI 48)).toInt ≤ (9)))] 30
    refine ld_istore O (pc := 30) [(5, .int (ld_b (0 ≤ ((ld_ca C n a) - (nI 48)).toInt ∧ ((ld_ca C n a) - (nI 48)).toInt ≤ (9)))), (4, .int ((ld_ca C n a) - (nI 48))), (0, .ref (ad 8)), (1, .int (nI i0)), (2, .int (nI n)), (3, .int b)] dX3_figure_30 (by decide) rfl ?_
    refine ld_aload_n O (pc := 32) 2 dX3_figure_32 rfl rfl ?_
    refine ld_dup O (pc := 33) dX3_figure_33 rfl ?_
    refine ld_g_M_readAt O (pc := 34) (v := nI a) ld_w117 ha dX3_figure_34 ?_
    refine ld_iload O (pc := 37) 0 dX3_figure_37 rfl ?_
    refine ld_ifb_eq O (pc := 39) 46 dX3_figure_39 (by decide) (fun c3 => ?_) (fun c3 => ?_)
    · refine ld_iconst O (pc := 46) (v := nI 0) dX3_figure_46 (by decide) ?_
      refine ld_iaddN O (pc := 47) dX3_figure_47 ?_
      refine ld_p_M_readAt O (pc := 48) ld_w117 dX3_figure_48 ?_
      refine ld_iload O (pc := 51) 0 dX3_figure_51 rfl ?_
      refine ld_ifb_eq O (pc := 53) 61 dX3_figure_53 (by decide) (fun c4 => ?_) (fun z => absurd z c3)
      refine ld_bipush O (pc := 61) (v := (-9 : Int32)) dX3_figure_61 (by decide) ?_
      refine ld_ireti E dX3_figure_63 ?_
      have hd_ := ld_dgs (ld_ca C n a)
      have e_ : ld_fga b (ld_ca C n a) a = a := if_neg (fun z => by omega)
      refine ⟨?_, by rw [e_]; rfl⟩
      unfold ld_fgr
      repeat' split
      all_goals first | (exfalso; omega) | rfl
    · refine ld_iconst O (pc := 42) (v := nI 1) dX3_figure_42 (by decide) ?_
      refine ld_goto O (pc := 43) 47 dX3_figure_43 (by decide) ?_
      refine ld_iaddN O (pc := 47) dX3_figure_47 ?_
      refine ld_p_M_readAt O (pc := 48) ld_w117 dX3_figure_48 ?_
      refine ld_iload O (pc := 51) 0 dX3_figure_51 rfl ?_
      refine ld_ifb_eq O (pc := 53) 61 dX3_figure_53 (by decide) (fun z => absurd c3 z) (fun c5 => ?_)
      refine ld_iload O (pc := 56) 1 dX3_figure_56 rfl ?_
      refine ld_goto O (pc := 58) 63 dX3_figure_58 (by decide) ?_
      refine ld_ireti E dX3_figure_63 ?_
      have hd_ := ld_dgs (ld_ca C n a)
      have e_ : ld_fga b (ld_ca C n a) a = a + 1 := if_pos ⟨by omega, by omega, by omega⟩
      refine ⟨?_, by rw [e_]⟩
      unfold ld_fgr
      repeat' split
      all_goals first | (exfalso; omega) | rfl
  · refine ld_bipush O (pc := 4) (v := (-9 : Int32)) dX3_figure_4 (by decide) ?_
    refine ld_goto O (pc := 6) 18 dX3_figure_6 (by decide) ?_
    refine ld_istore O (pc := 18) [(4, .int (-9 : Int32)), (0, .ref (ad 8)), (1, .int (nI i0)), (2, .int (nI n)), (3, .int b)] dX3_figure_18 (by decide) rfl ?_
    refine ld_iload O (pc := 20) 0 dX3_figure_20 rfl ?_
    have hl6 : ((-9 : Int32).toInt64).toInt = (-9) := (Int32.toInt_toInt64 _).trans (by decide)
    refine ld_i2l O (pc := 22) dX3_figure_22 ?_
    refine ld_lconst O (pc := 23) (v := (0 : Int64)) dX3_figure_23 (by decide) ?_
    refine ld_ldc2 O (pc := 24) (v := (9 : Int64)) dX3_figure_24 ld_w159 ?_
    refine ld_callSi O (pc := 27) (As := [.long ((-9 : Int32).toInt64), .long (0 : Int64), .long (9 : Int64)]) (st := []) (c_X3_in l ad σ ((-9 : Int32).toInt64) (0 : Int64) (9 : Int64) (-9) 0 (9) hl6 (by decide) (by decide)) ld_mw_X3_in ld_w128 rfl rfl ⟨by decide, by decide⟩ (Nat.le_of_ble_eq_true rfl) dX3_figure_27 (fun r_p27 σ_p27 h_p27 => ?_)
    obtain ⟨rfl, hσ_p27⟩ := h_p27
    rw [hσ_p27]
    show K σ [(4, .int (-9 : Int32)), (0, .ref (ad 8)), (1, .int (nI i0)), (2, .int (nI n)), (3, .int b)] [.int (ld_b (0 ≤ (-9) ∧ (-9) ≤ (9)))] 30
    refine ld_istore O (pc := 30) [(5, .int (ld_b (0 ≤ (-9) ∧ (-9) ≤ (9)))), (4, .int (-9 : Int32)), (0, .ref (ad 8)), (1, .int (nI i0)), (2, .int (nI n)), (3, .int b)] dX3_figure_30 (by decide) rfl ?_
    refine ld_aload_n O (pc := 32) 2 dX3_figure_32 rfl rfl ?_
    refine ld_dup O (pc := 33) dX3_figure_33 rfl ?_
    refine ld_g_M_readAt O (pc := 34) (v := nI a) ld_w117 ha dX3_figure_34 ?_
    refine ld_iload O (pc := 37) 0 dX3_figure_37 rfl ?_
    refine ld_ifb_eq O (pc := 39) 46 dX3_figure_39 (by decide) (fun c7 => ?_) (fun c7 => ?_)
    · refine ld_iconst O (pc := 46) (v := nI 0) dX3_figure_46 (by decide) ?_
      refine ld_iaddN O (pc := 47) dX3_figure_47 ?_
      refine ld_p_M_readAt O (pc := 48) ld_w117 dX3_figure_48 ?_
      refine ld_iload O (pc := 51) 0 dX3_figure_51 rfl ?_
      refine ld_ifb_eq O (pc := 53) 61 dX3_figure_53 (by decide) (fun c8 => ?_) (fun z => absurd z c7)
      refine ld_bipush O (pc := 61) (v := (-9 : Int32)) dX3_figure_61 (by decide) ?_
      refine ld_ireti E dX3_figure_63 ?_
      have hd_ := ld_dgs (ld_ca C n a)
      have e_ : ld_fga b (ld_ca C n a) a = a := if_neg (fun z => by omega)
      refine ⟨?_, by rw [e_]; rfl⟩
      unfold ld_fgr
      repeat' split
      all_goals first | (exfalso; omega) | rfl
    · refine ld_iconst O (pc := 42) (v := nI 1) dX3_figure_42 (by decide) ?_
      refine ld_goto O (pc := 43) 47 dX3_figure_43 (by decide) ?_
      refine ld_iaddN O (pc := 47) dX3_figure_47 ?_
      refine ld_p_M_readAt O (pc := 48) ld_w117 dX3_figure_48 ?_
      refine ld_iload O (pc := 51) 0 dX3_figure_51 rfl ?_
      refine ld_ifb_eq O (pc := 53) 61 dX3_figure_53 (by decide) (fun z => absurd c7 z) (fun c9 => ?_)
      refine ld_iload O (pc := 56) 1 dX3_figure_56 rfl ?_
      refine ld_goto O (pc := 58) 63 dX3_figure_58 (by decide) ?_
      refine ld_ireti E dX3_figure_63 ?_
      have hd_ := ld_dgs (ld_ca C n a)
      have e_ : ld_fga b (ld_ca C n a) a = a + 1 := if_pos ⟨by omega, by omega, by omega⟩
      refine ⟨?_, by rw [e_]⟩
      unfold ld_fgr
      repeat' split
      all_goals first | (exfalso; omega) | rfl
