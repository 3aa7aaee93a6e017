def ld_nc (ln i : Int32) : Int32 := if ln.toInt = -1 then nI 1 else if 0 ≤ i.toInt ∧ i.toInt < ln.toInt then nI 0 else nI 3
theorem ld_ncs (ln i : Int32) : (ln.toInt = -1 ∧ ld_nc ln i = nI 1) ∨ (¬ ln.toInt = -1 ∧ (0 ≤ i.toInt ∧ i.toInt < ln.toInt) ∧ ld_nc ln i = nI 0) ∨ (¬ ln.toInt = -1 ∧ ¬ (0 ≤ i.toInt ∧ i.toInt < ln.toInt) ∧ ld_nc ln i = nI 3) := by
  unfold ld_nc
  by_cases a : ln.toInt = -1
  · exact Or.inl ⟨a, if_pos a⟩
  · by_cases b : 0 ≤ i.toInt ∧ i.toInt < ln.toInt
    · exact Or.inr (Or.inl ⟨a, b, by rw [if_neg a, if_pos b]⟩)
    · exact Or.inr (Or.inr ⟨a, b, by rw [if_neg a, if_neg b]⟩)
def ld_cb (ln la lane i : Int32) (N : Int) : Int32 := if ln.toInt = -1 then nI 1 else if ¬ la.toInt = lane.toInt then nI 2 else if N < 0 then nI 4 else if i.toInt < 0 ∨ ln.toInt < i.toInt + N then nI 3 else nI 0
def ld_cr (f : Int32) : Int32 := if f.toInt = 0 then nI 0 else (-10 : Int32) - f
theorem ld_cbz (ln la lane i : Int32) (N : Int) : 0 ≤ (ld_cr (ld_cb ln la lane i N)).toInt ↔ (ld_cb ln la lane i N).toInt = 0 := by
  unfold ld_cb
  repeat' split
  all_goals decide
theorem ld_cb0 {ln la lane i : Int32} {N : Int} (h : (ld_cb ln la lane i N).toInt = 0) : ¬ ln.toInt = -1 ∧ la.toInt = lane.toInt ∧ ¬ N < 0 ∧ ¬ (i.toInt < 0 ∨ ln.toInt < i.toInt + N) := by
  unfold ld_cb at h
  by_cases a : ln.toInt = -1
  · rw [if_pos a] at h; exact absurd h (by decide)
  · rw [if_neg a] at h
    by_cases b : la.toInt = lane.toInt
    · rw [if_neg (fun z => z b)] at h
      by_cases c : N < 0
      · rw [if_pos c] at h; exact absurd h (by decide)
      · rw [if_neg c] at h
        by_cases d : i.toInt < 0 ∨ ln.toInt < i.toInt + N
        · rw [if_pos d] at h; exact absurd h (by decide)
        · exact ⟨a, b, c, d⟩
    · rw [if_pos b] at h; exact absurd h (by decide)
theorem ld_fa00 {ln la lane : Int32} (a : ¬ ln.toInt = -1) (b : la.toInt = lane.toInt) : ld_fa ln la lane = nI 0 := by unfold ld_fa; rw [if_neg a, if_pos b]
theorem ld_cbn {ln la lane i : Int32} {N : Int} (h : ¬ (ld_cb ln la lane i N).toInt = 0) (X : Int32 × Int32) : (ld_cr (ld_cb ln la lane i N), ld_cb ln la lane i N) = if (ld_fa ln la lane).toInt = 0 then (if N < 0 then ((-10 : Int32) - nI 4, nI 4) else if i.toInt < 0 ∨ ln.toInt < i.toInt + N then ((-10 : Int32) - nI 3, nI 3) else X) else ((-10 : Int32) - ld_fa ln la lane, ld_fa ln la lane) := by
  unfold ld_cb at h ⊢
  by_cases a : ln.toInt = -1
  · have fa : ld_fa ln la lane = nI 1 := by unfold ld_fa; rw [if_pos a]
    rw [if_pos a, fa, if_neg (by decide)]; decide
  · rw [if_neg a] at h ⊢
    by_cases b : la.toInt = lane.toInt
    · rw [if_neg (fun z => z b)] at h ⊢
      rw [ld_fa00 a b, if_pos (show (nI 0).toInt = 0 by decide)]
      by_cases c : N < 0
      · rw [if_pos c, if_pos c]; decide
      · rw [if_neg c] at h ⊢
        by_cases d : i.toInt < 0 ∨ ln.toInt < i.toInt + N
        · rw [if_pos d, if_neg c, if_pos d]; decide
        · rw [if_neg d] at h; exact absurd (by decide) h
    · have fa : ld_fa ln la lane = nI 2 := by unfold ld_fa; rw [if_neg a, if_neg b]
      rw [if_pos b, fa, if_neg (by decide)]; decide
set_option maxHeartbeats 4000000 in
set_option maxRecDepth 100000 in
theorem c_X3_noCell (l : Launch) (ad : Nat → Nat) (σ : ld_St) (hS : ∀ x, x < 4 → -1 ≤ (σ 34 x).toInt ∧ (σ 34 x).toInt ≤ 60) (k : Nat) (hk : k < 4) (i : Int32) : ld_Ctr l yX3_noCell cX3_noCell 3 (some .int) (1, 25) [.ref (ad 8), .int (nI k), .int i] ad σ (ld_I (fun (r : Int32) (σ2 : ld_St) => r = ld_nc (σ 34 k) i ∧ σ2 = σ)) := by
  refine ld_entry (by decide +kernel) (Nat.le_of_ble_eq_true rfl) (fun K O E => ?_)
  have O : ld_Ok l K ad cX3_noCell 3 RX3 (ld_rm (1, 25)) := O
  have hs_ := hS k hk
  show K σ [(0, .ref (ad 8)), (1, .int (nI k)), (2, .int i)] [] 0
  refine ld_aload_n O (pc := 0) 0 dX3_noCell_0 rfl rfl ?_
  refine ld_g_M_sheetSize O (pc := 1) ld_w65 dX3_noCell_1 ?_
  refine ld_iload_n O (pc := 4) 1 dX3_noCell_4 rfl rfl ?_
  refine ld_iald O (pc := 5) 34 k (v := σ 34 k) rfl (by decide) (show k < 4 by omega) rfl dX3_noCell_5 ?_
  refine ld_if_ge O (pc := 6) (σ 34 k).toInt rfl 13 dX3_noCell_6 (by decide) (fun c1 => ?_) (fun c1 => ?_)
  · refine ld_iload_n O (pc := 13) 2 dX3_noCell_13 rfl rfl ?_
    have hl2 : (i.toInt64).toInt = (i).toInt := (Int32.toInt_toInt64 _).trans rfl
    refine ld_i2l O (pc := 14) dX3_noCell_14 ?_
    refine ld_lconst O (pc := 15) (v := (0 : Int64)) dX3_noCell_15 (by decide) ?_
    refine ld_aload_n O (pc := 16) 0 dX3_noCell_16 rfl rfl ?_
    refine ld_g_M_sheetSize O (pc := 17) ld_w65 dX3_noCell_17 ?_
    refine ld_iload_n O (pc := 20) 1 dX3_noCell_20 rfl rfl ?_
    refine ld_iald O (pc := 21) 34 k (v := σ 34 k) rfl (by decide) (show k < 4 by omega) rfl dX3_noCell_21 ?_
    have hl3 : ((σ 34 k).toInt64).toInt = (σ 34 k).toInt := (Int32.toInt_toInt64 _).trans rfl
    refine ld_i2l O (pc := 22) dX3_noCell_22 ?_
    refine ld_lconst O (pc := 23) (v := (1 : Int64)) dX3_noCell_23 (by decide) ?_
    have hl4 : (((σ 34 k).toInt64) - (1 : Int64)).toInt = (σ 34 k).toInt - 1 := by
      have a1 : ((σ 34 k).toInt64).toInt = (σ 34 k).toInt := hl3
      have a2 : (1 : Int64).toInt = 1 := (by decide)
      rw [ld_fb_subL a1 a2 (by omega) (by omega)]
    refine ld_lsub O (pc := 24) dX3_noCell_24 ?_
    refine ld_callSi O (pc := 25) (As := [.long i.toInt64, .long (0 : Int64), .long (((σ 34 k).toInt64) - (1 : Int64))]) (st := []) (c_X3_in l ad σ i.toInt64 (0 : Int64) (((σ 34 k).toInt64) - (1 : Int64)) ((i).toInt) 0 ((σ 34 k).toInt - 1) hl2 (by decide) hl4) ld_mw_X3_in ld_w128 rfl rfl ⟨by decide, by decide⟩ (Nat.le_of_ble_eq_true rfl) dX3_noCell_25 (fun r_p25 σ_p25 h_p25 => ?_)
    obtain ⟨rfl, hσ_p25⟩ := h_p25
    rw [hσ_p25]
    show K σ [(0, .ref (ad 8)), (1, .int (nI k)), (2, .int i)] [.int (ld_b (0 ≤ (i).toInt ∧ (i).toInt ≤ ((σ 34 k).toInt - 1)))] 28
    refine ld_ifb_eq O (pc := 28) 35 dX3_noCell_28 (by decide) (fun c5 => ?_) (fun c5 => ?_)
    · refine ld_iconst O (pc := 35) (v := nI 3) dX3_noCell_35 (by decide) ?_
      refine ld_ireti E dX3_noCell_36 ?_
      refine ⟨?_, rfl⟩
      unfold ld_nc
      repeat' split
      all_goals first | (exfalso; omega) | rfl
    · refine ld_iconst O (pc := 31) (v := nI 0) dX3_noCell_31 (by decide) ?_
      refine ld_goto O (pc := 32) 36 dX3_noCell_32 (by decide) ?_
      refine ld_ireti E dX3_noCell_36 ?_
      refine ⟨?_, rfl⟩
      unfold ld_nc
      repeat' split
      all_goals first | (exfalso; omega) | rfl
  · refine ld_iconst O (pc := 9) (v := nI 1) dX3_noCell_9 (by decide) ?_
    refine ld_goto O (pc := 10) 36 dX3_noCell_10 (by decide) ?_
    refine ld_ireti E dX3_noCell_36 ?_
    refine ⟨?_, rfl⟩
    unfold ld_nc
    repeat' split
    all_goals first | (exfalso; omega) | rfl
set_option maxHeartbeats 4000000 in
set_option maxRecDepth 100000 in
theorem c_X3_put (l : Launch) (ad : Nat → Nat) (σ : ld_St) (hS : ∀ x, x < 4 → -1 ≤ (σ 34 x).toInt ∧ (σ 34 x).toInt ≤ 60) (k i v : Int32) : ld_Ctr l yX3_put cX3_put 4 (some .int) (2, 47) [.ref (ad 8), .int k, .int i, .int v] ad σ (ld_I (fun (r : Int32) (σ2 : ld_St) => r = (ld_fPu (σ 34) k i).1 ∧ ∃ f : Nat → Int32, f 0 = (ld_fPu (σ 34) k i).2 ∧ ((ld_okPu (σ 34) k i ∧ σ2 = us (us σ 36 (upd (σ 36) (60 * ld_ix k + ld_ix i) (ld_lc (σ 35 (ld_ix k)) v))) 140 f) ∨ (¬ ld_okPu (σ 34) k i ∧ σ2 = us σ 140 f)))) := by
  refine ld_entry (by decide +kernel) (Nat.le_of_ble_eq_true rfl) (fun K O E => ?_)
  have O : ld_Ok l K ad cX3_put 4 RX3 (ld_rm (2, 47)) := O
  show K σ [(0, .ref (ad 8)), (1, .int k), (2, .int i), (3, .int v)] [] 0
  refine ld_iload_n O (pc := 0) 1 dX3_put_0 rfl rfl ?_
  refine ld_callSi O (pc := 1) (As := [.int k]) (st := []) (c_X3_noSheet l ad σ k) ld_mw_X3_noSheet ld_w124 rfl rfl ⟨by decide, by decide⟩ (Nat.le_of_ble_eq_true rfl) dX3_put_1 (fun r_p1 σ_p1 h_p1 => ?_)
  obtain ⟨rfl, hσ_p1⟩ := h_p1
  rw [hσ_p1]
  show K σ [(0, .ref (ad 8)), (1, .int k), (2, .int i), (3, .int v)] [.int (ld_b (¬ (0 ≤ (k).toInt ∧ (k).toInt < 4)))] 4
  refine ld_ifb_eq O (pc := 4) 13 dX3_put_4 (by decide) (fun c1 => ?_) (fun c1 => ?_)
  · replace c1 := Classical.byContradiction c1
    obtain ⟨ek_k, hk_k, ik_k⟩ := ld_ofIx (k := k) (h := 4) (by omega)
    rw [ek_k]
    refine ld_aload_n O (pc := 13) 0 dX3_put_13 rfl rfl ?_
    refine ld_iload_n O (pc := 14) 1 dX3_put_14 rfl rfl ?_
    refine ld_iload_n O (pc := 15) 2 dX3_put_15 rfl rfl ?_
    refine ld_callVi O (pc := 16) (As := [.int (nI (ld_ix k)), .int i]) (st := []) ld_recv8 (c_X3_noCell l ad σ hS (ld_ix k) (by omega) i) ld_mw_X3_noCell ld_w538 rfl rfl ⟨by decide, by decide⟩ (Nat.le_of_ble_eq_true rfl) dX3_put_16 (fun r_p16 σ_p16 h_p16 => ?_)
    obtain ⟨rfl, hσ_p16⟩ := h_p16
    rw [hσ_p16]
    show K σ [(0, .ref (ad 8)), (1, .int (nI (ld_ix k))), (2, .int i), (3, .int v)] [.int (ld_nc (σ 34 (ld_ix k)) i)] 19
    rcases ld_ncs (σ 34 (ld_ix k)) i with ⟨z1_, e_⟩ | ⟨z1_, z2_, e_⟩ | ⟨z1_, z2_, e_⟩ <;> rw [e_]
    · show K σ [(0, .ref (ad 8)), (1, .int (nI (ld_ix k))), (2, .int i), (3, .int v)] [.int (nI 1)] 19
      refine ld_if_le O (pc := 19) 1 (by decide) 33 dX3_put_19 (by decide) (fun z => absurd z (by decide)) (fun _ => ?_)
      refine ld_aload_n O (pc := 22) 0 dX3_put_22 rfl rfl ?_
      refine ld_aload_n O (pc := 23) 0 dX3_put_23 rfl rfl ?_
      refine ld_iload_n O (pc := 24) 1 dX3_put_24 rfl rfl ?_
      refine ld_iload_n O (pc := 25) 2 dX3_put_25 rfl rfl ?_
      refine ld_callVi O (pc := 26) (As := [.int (nI (ld_ix k)), .int i]) (st := [.ref (ad 8)]) ld_recv8 (c_X3_noCell l ad σ hS (ld_ix k) (by omega) i) ld_mw_X3_noCell ld_w538 rfl rfl ⟨by decide, by decide⟩ (Nat.le_of_ble_eq_true rfl) dX3_put_26 (fun r_p26 σ_p26 h_p26 => ?_)
      obtain ⟨rfl, hσ_p26⟩ := h_p26
      rw [hσ_p26]
      show K σ [(0, .ref (ad 8)), (1, .int (nI (ld_ix k))), (2, .int i), (3, .int v)] [.int (ld_nc (σ 34 (ld_ix k)) i), .ref (ad 8)] 29
      rw [e_]
      refine ld_callVi O (pc := 29) (As := [.int (nI 1)]) (st := []) ld_recv8 (c_X3_failed l ad σ (nI 1)) ld_mw_X3_failed ld_w140 rfl rfl ⟨by decide, by decide⟩ (Nat.le_of_ble_eq_true rfl) dX3_put_29 (fun r_p29 σ_p29 h_p29 => ?_)
      obtain ⟨rfl, hσ_p29⟩ := h_p29
      rw [hσ_p29]
      show K (us σ 140 (fun _ => nI 1)) [(0, .ref (ad 8)), (1, .int (nI (ld_ix k))), (2, .int i), (3, .int v)] [.int ((-10 : Int32) - (nI 1))] 32
      refine ld_ireti E dX3_put_32 ?_
      refine ⟨?_, fun _ => nI 1, ?_, Or.inr ⟨?_, ?_⟩⟩
      · unfold ld_fPu
        repeat' split
        all_goals first | (exfalso; omega) | rfl
      · unfold ld_fPu
        repeat' split
        all_goals first | (exfalso; omega) | rfl
      · exact fun z => by have z1 := z.1; have z2 := z.2.1; have z3 := z.2.2; omega
      · funext b_
        by_cases h0_ : b_ = 140
        · subst h0_; exact (us_eq _ _ _).trans (us_eq _ _ _).symm
        simp only [us, h0_, if_false]
    · show K σ [(0, .ref (ad 8)), (1, .int (nI (ld_ix k))), (2, .int i), (3, .int v)] [.int (nI 0)] 19
      refine ld_if_le O (pc := 19) 0 (by decide) 33 dX3_put_19 (by decide) (fun _ => ?_) (fun z => absurd z (by decide))
      have hs1_ := hS _ hk_k
      obtain ⟨ek_i, hk_i, ik_i⟩ := ld_ofIx (k := i) (h := 61) (by omega)
      rw [ek_i]
      refine ld_aload_n O (pc := 33) 0 dX3_put_33 rfl rfl ?_
      refine ld_g_M_sheet O (pc := 34) ld_w67 dX3_put_34 ?_
      refine ld_bipush O (pc := 37) (v := nI 60) dX3_put_37 (by decide) ?_
      refine ld_iload_n O (pc := 39) 1 dX3_put_39 rfl rfl ?_
      refine ld_imulN O (pc := 40) dX3_put_40 ?_
      refine ld_iload_n O (pc := 41) 2 dX3_put_41 rfl rfl ?_
      refine ld_iaddN O (pc := 42) dX3_put_42 ?_
      refine ld_aload_n O (pc := 43) 0 dX3_put_43 rfl rfl ?_
      refine ld_g_M_sheetLane O (pc := 44) ld_w66 dX3_put_44 ?_
      refine ld_iload_n O (pc := 47) 1 dX3_put_47 rfl rfl ?_
      refine ld_iald O (pc := 48) 35 (ld_ix k) (v := σ 35 (ld_ix k)) rfl (by decide) (show ld_ix k < 4 by omega) rfl dX3_put_48 ?_
      refine ld_if_ne O (pc := 49) (σ 35 (ld_ix k)).toInt rfl 57 dX3_put_49 (by decide) (fun c4 => ?_) (fun c4 => ?_)
      · refine ld_aload_n O (pc := 57) 0 dX3_put_57 rfl rfl ?_
        refine ld_g_M_sheetLane O (pc := 58) ld_w66 dX3_put_58 ?_
        refine ld_iload_n O (pc := 61) 1 dX3_put_61 rfl rfl ?_
        refine ld_iald O (pc := 62) 35 (ld_ix k) (v := σ 35 (ld_ix k)) rfl (by decide) (show ld_ix k < 4 by omega) rfl dX3_put_62 ?_
        refine ld_iconst O (pc := 63) (v := nI 1) dX3_put_63 (by decide) ?_
        refine ld_icmp_ne O (pc := 64) (σ 35 (ld_ix k)).toInt 1 rfl (by decide) 72 dX3_put_64 (by decide) (fun c5 => ?_) (fun c5 => ?_)
        · refine ld_iload_n O (pc := 72) 3 dX3_put_72 rfl rfl ?_
          have hv_ : ld_lc (σ 35 (ld_ix k)) v = v := by
            unfold ld_lc
            repeat' split
            all_goals first | (exfalso; omega) | rfl
          refine Eq.mp (congrArg (fun z_ => K σ [(0, .ref (ad 8)), (1, .int (nI (ld_ix k))), (2, .int (nI (ld_ix i))), (3, .int v)] [.int z_, .int (nI ((60 * (ld_ix k)) + (ld_ix i))), .ref (ad (9 + 36))] 73) hv_) ?_
          show K σ [(0, .ref (ad 8)), (1, .int (nI (ld_ix k))), (2, .int (nI (ld_ix i))), (3, .int v)] [.int (ld_lc (σ 35 (ld_ix k)) v), .int (nI ((60 * (ld_ix k)) + (ld_ix i))), .ref (ad (9 + 36))] 73
          refine ld_iast O (pc := 73) 36 ((60 * (ld_ix k)) + (ld_ix i)) rfl (by decide) (show (60 * (ld_ix k)) + (ld_ix i) < 240 by omega) dX3_put_73 ?_
          refine ld_aload_n O (pc := 74) 0 dX3_put_74 rfl rfl ?_
          refine ld_iconst O (pc := 75) (v := nI 1) dX3_put_75 (by decide) ?_
          refine ld_callVi O (pc := 76) (As := [.int (nI 1)]) (st := []) ld_recv8 (c_X3_refused l ad (us σ 36 (upd (σ 36) ((60 * (ld_ix k)) + (ld_ix i)) (ld_lc (σ 35 (ld_ix k)) v))) (nI 1)) ld_mw_X3_refused ld_w131 rfl rfl ⟨by decide, by decide⟩ (Nat.le_of_ble_eq_true rfl) dX3_put_76 (fun r_p76 σ_p76 h_p76 => ?_)
          obtain ⟨rfl, hσ_p76⟩ := h_p76
          rw [hσ_p76]
          show K (us (us σ 36 (upd (σ 36) ((60 * (ld_ix k)) + (ld_ix i)) (ld_lc (σ 35 (ld_ix k)) v))) 140 (fun _ => nI 0)) [(0, .ref (ad 8)), (1, .int (nI (ld_ix k))), (2, .int (nI (ld_ix i))), (3, .int v)] [.int (nI 1)] 79
          refine ld_ireti E dX3_put_79 ?_
          refine ⟨?_, fun _ => nI 0, ?_, Or.inl ⟨⟨by omega, by omega, by omega⟩, ?_⟩⟩
          · unfold ld_fPu
            repeat' split
            all_goals first | (exfalso; omega) | rfl
          · unfold ld_fPu
            repeat' split
            all_goals first | (exfalso; omega) | rfl
          · funext b_
            by_cases h0_ : b_ = 36
            · subst h0_; exact ((us_ne _ _ (by decide)).trans (us_eq _ _ _)).trans ((us_ne _ _ (by decide)).trans (us_eq _ _ _)).symm
            by_cases h1_ : b_ = 140
            · subst h1_; exact (us_eq _ _ _).trans (us_eq _ _ _).symm
            simp only [us, h0_, h1_, if_false]
        · refine ld_iload_n O (pc := 67) 3 dX3_put_67 rfl rfl ?_
          refine ld_i2s O (pc := 68) dX3_put_68 ?_
          refine ld_goto O (pc := 69) 73 dX3_put_69 (by decide) ?_
          have hv_ : ld_lc (σ 35 (ld_ix k)) v = v.toInt16.toInt32 := by
            unfold ld_lc
            repeat' split
            all_goals first | (exfalso; omega) | rfl
          refine Eq.mp (congrArg (fun z_ => K σ [(0, .ref (ad 8)), (1, .int (nI (ld_ix k))), (2, .int (nI (ld_ix i))), (3, .int v)] [.int z_, .int (nI ((60 * (ld_ix k)) + (ld_ix i))), .ref (ad (9 + 36))] 73) hv_) ?_
          show K σ [(0, .ref (ad 8)), (1, .int (nI (ld_ix k))), (2, .int (nI (ld_ix i))), (3, .int v)] [.int (ld_lc (σ 35 (ld_ix k)) v), .int (nI ((60 * (ld_ix k)) + (ld_ix i))), .ref (ad (9 + 36))] 73
          refine ld_iast O (pc := 73) 36 ((60 * (ld_ix k)) + (ld_ix i)) rfl (by decide) (show (60 * (ld_ix k)) + (ld_ix i) < 240 by omega) dX3_put_73 ?_
          refine ld_aload_n O (pc := 74) 0 dX3_put_74 rfl rfl ?_
          refine ld_iconst O (pc := 75) (v := nI 1) dX3_put_75 (by decide) ?_
          refine ld_callVi O (pc := 76) (As := [.int (nI 1)]) (st := []) ld_recv8 (c_X3_refused l ad (us σ 36 (upd (σ 36) ((60 * (ld_ix k)) + (ld_ix i)) (ld_lc (σ 35 (ld_ix k)) v))) (nI 1)) ld_mw_X3_refused ld_w131 rfl rfl ⟨by decide, by decide⟩ (Nat.le_of_ble_eq_true rfl) dX3_put_76 (fun r_p76 σ_p76 h_p76 => ?_)
          obtain ⟨rfl, hσ_p76⟩ := h_p76
          rw [hσ_p76]
          show K (us (us σ 36 (upd (σ 36) ((60 * (ld_ix k)) + (ld_ix i)) (ld_lc (σ 35 (ld_ix k)) v))) 140 (fun _ => nI 0)) [(0, .ref (ad 8)), (1, .int (nI (ld_ix k))), (2, .int (nI (ld_ix i))), (3, .int v)] [.int (nI 1)] 79
          refine ld_ireti E dX3_put_79 ?_
          refine ⟨?_, fun _ => nI 0, ?_, Or.inl ⟨⟨by omega, by omega, by omega⟩, ?_⟩⟩
          · unfold ld_fPu
            repeat' split
            all_goals first | (exfalso; omega) | rfl
          · unfold ld_fPu
            repeat' split
            all_goals first | (exfalso; omega) | rfl
          · funext b_
            by_cases h0_ : b_ = 36
            · subst h0_; exact ((us_ne _ _ (by decide)).trans (us_eq _ _ _)).trans ((us_ne _ _ (by decide)).trans (us_eq _ _ _)).symm
            by_cases h1_ : b_ = 140
            · subst h1_; exact (us_eq _ _ _).trans (us_eq _ _ _).symm
            simp only [us, h0_, h1_, if_false]
      · refine ld_iload_n O (pc := 52) 3 dX3_put_52 rfl rfl ?_
        refine ld_i2b O (pc := 53) dX3_put_53 ?_
        refine ld_goto O (pc := 54) 73 dX3_put_54 (by decide) ?_
        have hv_ : ld_lc (σ 35 (ld_ix k)) v = v.toInt8.toInt32 := by
          unfold ld_lc
          repeat' split
          all_goals first | (exfalso; omega) | rfl
        refine Eq.mp (congrArg (fun z_ => K σ [(0, .ref (ad 8)), (1, .int (nI (ld_ix k))), (2, .int (nI (ld_ix i))), (3, .int v)] [.int z_, .int (nI ((60 * (ld_ix k)) + (ld_ix i))), .ref (ad (9 + 36))] 73) hv_) ?_
        show K σ [(0, .ref (ad 8)), (1, .int (nI (ld_ix k))), (2, .int (nI (ld_ix i))), (3, .int v)] [.int (ld_lc (σ 35 (ld_ix k)) v), .int (nI ((60 * (ld_ix k)) + (ld_ix i))), .ref (ad (9 + 36))] 73
        refine ld_iast O (pc := 73) 36 ((60 * (ld_ix k)) + (ld_ix i)) rfl (by decide) (show (60 * (ld_ix k)) + (ld_ix i) < 240 by omega) dX3_put_73 ?_
        refine ld_aload_n O (pc := 74) 0 dX3_put_74 rfl rfl ?_
        refine ld_iconst O (pc := 75) (v := nI 1) dX3_put_75 (by decide) ?_
        refine ld_callVi O (pc := 76) (As := [.int (nI 1)]) (st := []) ld_recv8 (c_X3_refused l ad (us σ 36 (upd (σ 36) ((60 * (ld_ix k)) + (ld_ix i)) (ld_lc (σ 35 (ld_ix k)) v))) (nI 1)) ld_mw_X3_refused ld_w131 rfl rfl ⟨by decide, by decide⟩ (Nat.le_of_ble_eq_true rfl) dX3_put_76 (fun r_p76 σ_p76 h_p76 => ?_)
        obtain ⟨rfl, hσ_p76⟩ := h_p76
        rw [hσ_p76]
        show K (us (us σ 36 (upd (σ 36) ((60 * (ld_ix k)) + (ld_ix i)) (ld_lc (σ 35 (ld_ix k)) v))) 140 (fun _ => nI 0)) [(0, .ref (ad 8)), (1, .int (nI (ld_ix k))), (2, .int (nI (ld_ix i))), (3, .int v)] [.int (nI 1)] 79
        refine ld_ireti E dX3_put_79 ?_
        refine ⟨?_, fun _ => nI 0, ?_, Or.inl ⟨⟨by omega, by omega, by omega⟩, ?_⟩⟩
        · unfold ld_fPu
          repeat' split
          all_goals first | (exfalso; omega) | rfl
        · unfold ld_fPu
          repeat' split
          all_goals first | (exfalso; omega) | rfl
        · funext b_
          by_cases h0_ : b_ = 36
          · subst h0_; exact ((us_ne _ _ (by decide)).trans (us_eq _ _ _)).trans ((us_ne _ _ (by decide)).trans (us_eq _ _ _)).symm
          by_cases h1_ : b_ = 140
          · subst h1_; exact (us_eq _ _ _).trans (us_eq _ _ _).symm
          simp only [us, h0_, h1_, if_false]
    · show K σ [(0, .ref (ad 8)), (1, .int (nI (ld_ix k))), (2, .int i), (3, .int v)] [.int (nI 3)] 19
      refine ld_if_le O (pc := 19) 3 (by decide) 33 dX3_put_19 (by decide) (fun z => absurd z (by decide)) (fun _ => ?_)
      refine ld_aload_n O (pc := 22) 0 dX3_put_22 rfl rfl ?_
      refine ld_aload_n O (pc := 23) 0 dX3_put_23 rfl rfl ?_
      refine ld_iload_n O (pc := 24) 1 dX3_put_24 rfl rfl ?_
      refine ld_iload_n O (pc := 25) 2 dX3_put_25 rfl rfl ?_
      refine ld_callVi O (pc := 26) (As := [.int (nI (ld_ix k)), .int i]) (st := [.ref (ad 8)]) ld_recv8 (c_X3_noCell l ad σ hS (ld_ix k) (by omega) i) ld_mw_X3_noCell ld_w538 rfl rfl ⟨by decide, by decide⟩ (Nat.le_of_ble_eq_true rfl) dX3_put_26 (fun r_p26 σ_p26 h_p26 => ?_)
      obtain ⟨rfl, hσ_p26⟩ := h_p26
      rw [hσ_p26]
      show K σ [(0, .ref (ad 8)), (1, .int (nI (ld_ix k))), (2, .int i), (3, .int v)] [.int (ld_nc (σ 34 (ld_ix k)) i), .ref (ad 8)] 29
      rw [e_]
      refine ld_callVi O (pc := 29) (As := [.int (nI 3)]) (st := []) ld_recv8 (c_X3_failed l ad σ (nI 3)) ld_mw_X3_failed ld_w140 rfl rfl ⟨by decide, by decide⟩ (Nat.le_of_ble_eq_true rfl) dX3_put_29 (fun r_p29 σ_p29 h_p29 => ?_)
      obtain ⟨rfl, hσ_p29⟩ := h_p29
      rw [hσ_p29]
      show K (us σ 140 (fun _ => nI 3)) [(0, .ref (ad 8)), (1, .int (nI (ld_ix k))), (2, .int i), (3, .int v)] [.int ((-10 : Int32) - (nI 3))] 32
      refine ld_ireti E dX3_put_32 ?_
      refine ⟨?_, fun _ => nI 3, ?_, Or.inr ⟨?_, ?_⟩⟩
      · unfold ld_fPu
        repeat' split
        all_goals first | (exfalso; omega) | rfl
      · unfold ld_fPu
        repeat' split
        all_goals first | (exfalso; omega) | rfl
      · exact fun z => by have z1 := z.1; have z2 := z.2.1; have z3 := z.2.2; omega
      · funext b_
        by_cases h0_ : b_ = 140
        · subst h0_; exact (us_eq _ _ _).trans (us_eq _ _ _).symm
        simp only [us, h0_, if_false]
  · refine ld_aload_n O (pc := 7) 0 dX3_put_7 rfl rfl ?_
    refine ld_iconst O (pc := 8) (v := (-1 : Int32)) dX3_put_8 (by decide) ?_
    refine ld_callVi O (pc := 9) (As := [.int (-1 : Int32)]) (st := []) ld_recv8 (c_X3_refused l ad σ (-1 : Int32)) ld_mw_X3_refused ld_w131 rfl rfl ⟨by decide, by decide⟩ (Nat.le_of_ble_eq_true rfl) dX3_put_9 (fun r_p9 σ_p9 h_p9 => ?_)
    obtain ⟨rfl, hσ_p9⟩ := h_p9
    rw [hσ_p9]
    show K (us σ 140 (fun _ => nI 0)) [(0, .ref (ad 8)), (1, .int k), (2, .int i), (3, .int v)] [.int (-1 : Int32)] 12
    refine ld_ireti E dX3_put_12 ?_
    refine ⟨?_, fun _ => nI 0, ?_, Or.inr ⟨?_, ?_⟩⟩
    · unfold ld_fPu
      repeat' split
      all_goals first | (exfalso; omega) | rfl
    · unfold ld_fPu
      repeat' split
      all_goals first | (exfalso; omega) | rfl
    · exact fun z => by have z1 := z.1; have z2 := z.2.1; have z3 := z.2.2; omega
    · funext b_
      by_cases h0_ : b_ = 140
      · subst h0_; exact (us_eq _ _ _).trans (us_eq _ _ _).symm
      simp only [us, h0_, if_false]
set_option maxHeartbeats 4000000 in
set_option maxRecDepth 100000 in
theorem c_X3_cell (l : Launch) (ad : Nat → Nat) (σ : ld_St) (hS : ∀ x, x < 4 → -1 ≤ (σ 34 x).toInt ∧ (σ 34 x).toInt ≤ 60) (k i lane : Int32) : ld_Ctr l yX3_cell cX3_cell 4 (some .long) (2, 47) [.ref (ad 8), .int k, .int i, .int lane] ad σ (ld_L (fun (r : Int64) (σ2 : ld_St) => r = (ld_fCe (σ 34) (σ 35) (fun z x => σ 36 (60 * z + x)) k i lane).1 ∧ ∃ f : Nat → Int32, f 0 = (ld_fCe (σ 34) (σ 35) (fun z x => σ 36 (60 * z + x)) k i lane).2 ∧ σ2 = us σ 140 f)) := by
  refine ld_entry (by decide +kernel) (Nat.le_of_ble_eq_true rfl) (fun K O E => ?_)
  have O : ld_Ok l K ad cX3_cell 4 RX3 (ld_rm (2, 47)) := O
  have q0_ := ld_n0
  have q1_ := ld_n1
  have q2_ := ld_n2
  show K σ [(0, .ref (ad 8)), (1, .int k), (2, .int i), (3, .int lane)] [] 0
  refine ld_aload_n O (pc := 0) 0 dX3_cell_0 rfl rfl ?_
  refine ld_iconst O (pc := 1) (v := nI 0) dX3_cell_1 (by decide) ?_
  refine ld_p_M_fault O (pc := 2) ld_w135 dX3_cell_2 ?_
  refine ld_iload_n O (pc := 5) 1 dX3_cell_5 rfl rfl ?_
  refine ld_callSi O (pc := 6) (As := [.int k]) (st := []) (c_X3_noSheet l ad (us σ 140 (fun _ => nI 0)) k) ld_mw_X3_noSheet ld_w124 rfl rfl ⟨by decide, by decide⟩ (Nat.le_of_ble_eq_true rfl) dX3_cell_6 (fun r_p6 σ_p6 h_p6 => ?_)
  obtain ⟨rfl, hσ_p6⟩ := h_p6
  rw [hσ_p6]
  show K (us σ 140 (fun _ => nI 0)) [(0, .ref (ad 8)), (1, .int k), (2, .int i), (3, .int lane)] [.int (ld_b (¬ (0 ≤ (k).toInt ∧ (k).toInt < 4)))] 9
  refine ld_ifb_ne O (pc := 9) 24 dX3_cell_9 (by decide) (fun c1 => ?_) (fun c1 => ?_)
  · refine ld_callSl O (pc := 24) (As := []) (st := []) (c_X3_lost l ad (us σ 140 (fun _ => nI 0)) ) ld_mw_X3_lost ld_w498 rfl rfl ⟨by decide, by decide⟩ (Nat.le_of_ble_eq_true rfl) dX3_cell_24 (fun r_p24 σ_p24 h_p24 => ?_)
    obtain ⟨rfl, hσ_p24⟩ := h_p24
    rw [hσ_p24]
    show K (us σ 140 (fun _ => nI 0)) [(0, .ref (ad 8)), (1, .int k), (2, .int i), (3, .int lane)] [.long (-9223372036854775808 : Int64)] 27
    refine ld_lret E dX3_cell_27 ?_
    refine ⟨?_, fun _ => nI 0, ?_, ?_⟩
    · unfold ld_fCe ld_fa
      repeat' split
      all_goals first | (exfalso; omega) | rfl
    · unfold ld_fCe ld_fa
      repeat' split
      all_goals first | (exfalso; omega) | rfl
    · funext b_
      by_cases h0_ : b_ = 140
      · subst h0_; exact (us_eq _ _ _).trans (us_eq _ _ _).symm
      simp only [us, h0_, if_false]
  · replace c1 := Classical.byContradiction c1
    obtain ⟨ek_k, hk_k, ik_k⟩ := ld_ofIx (k := k) (h := 4) (by omega)
    rw [ek_k]
    refine ld_iload_n O (pc := 12) 3 dX3_cell_12 rfl rfl ?_
    have hl2 : (lane.toInt64).toInt = (lane).toInt := (Int32.toInt_toInt64 _).trans rfl
    refine ld_i2l O (pc := 13) dX3_cell_13 ?_
    refine ld_lconst O (pc := 14) (v := (0 : Int64)) dX3_cell_14 (by decide) ?_
    refine ld_ldc2 O (pc := 15) (v := (2 : Int64)) dX3_cell_15 ld_w116 ?_
    refine ld_callSi O (pc := 18) (As := [.long lane.toInt64, .long (0 : Int64), .long (2 : Int64)]) (st := []) (c_X3_in l ad (us σ 140 (fun _ => nI 0)) lane.toInt64 (0 : Int64) (2 : Int64) ((lane).toInt) 0 (2) hl2 (by decide) (by decide)) ld_mw_X3_in ld_w128 rfl rfl ⟨by decide, by decide⟩ (Nat.le_of_ble_eq_true rfl) dX3_cell_18 (fun r_p18 σ_p18 h_p18 => ?_)
    obtain ⟨rfl, hσ_p18⟩ := h_p18
    rw [hσ_p18]
    show K (us σ 140 (fun _ => nI 0)) [(0, .ref (ad 8)), (1, .int (nI (ld_ix k))), (2, .int i), (3, .int lane)] [.int (ld_b (0 ≤ (lane).toInt ∧ (lane).toInt ≤ (2)))] 21
    refine ld_ifb_ne O (pc := 21) 28 dX3_cell_21 (by decide) (fun c3 => ?_) (fun c3 => ?_)
    · have hs1_ := hS _ hk_k
      refine ld_aload_n O (pc := 28) 0 dX3_cell_28 rfl rfl ?_
      refine ld_g_M_sheetSize O (pc := 29) ld_w65 dX3_cell_29 ?_
      refine ld_iload_n O (pc := 32) 1 dX3_cell_32 rfl rfl ?_
      refine ld_iald O (pc := 33) 34 (ld_ix k) (v := σ 34 (ld_ix k)) rfl (by decide) (show ld_ix k < 4 by omega) rfl dX3_cell_33 ?_
      refine ld_if_lt O (pc := 34) (σ 34 (ld_ix k)).toInt rfl 53 dX3_cell_34 (by decide) (fun c4 => ?_) (fun c4 => ?_)
      · refine ld_aload_n O (pc := 53) 0 dX3_cell_53 rfl rfl ?_
        refine ld_iload_n O (pc := 54) 1 dX3_cell_54 rfl rfl ?_
        refine ld_iload_n O (pc := 55) 2 dX3_cell_55 rfl rfl ?_
        refine ld_callVi O (pc := 56) (As := [.int (nI (ld_ix k)), .int i]) (st := []) ld_recv8 (c_X3_noCell l ad (us σ 140 (fun _ => nI 0)) hS (ld_ix k) (by omega) i) ld_mw_X3_noCell ld_w538 rfl rfl ⟨by decide, by decide⟩ (Nat.le_of_ble_eq_true rfl) dX3_cell_56 (fun r_p56 σ_p56 h_p56 => ?_)
        obtain ⟨rfl, hσ_p56⟩ := h_p56
        rw [hσ_p56]
        show K (us σ 140 (fun _ => nI 0)) [(0, .ref (ad 8)), (1, .int (nI (ld_ix k))), (2, .int i), (3, .int lane)] [.int (ld_nc (σ 34 (ld_ix k)) i)] 59
        rcases ld_ncs (σ 34 (ld_ix k)) i with ⟨z1_, e_⟩ | ⟨z1_, z2_, e_⟩ | ⟨z1_, z2_, e_⟩ <;> rw [e_]
        · show K (us σ 140 (fun _ => nI 0)) [(0, .ref (ad 8)), (1, .int (nI (ld_ix k))), (2, .int i), (3, .int lane)] [.int (nI 1)] 59
          refine ld_if_le O (pc := 59) 1 (by decide) 75 dX3_cell_59 (by decide) (fun z => absurd z (by decide)) (fun _ => ?_)
          refine ld_aload_n O (pc := 62) 0 dX3_cell_62 rfl rfl ?_
          refine ld_aload_n O (pc := 63) 0 dX3_cell_63 rfl rfl ?_
          refine ld_iload_n O (pc := 64) 1 dX3_cell_64 rfl rfl ?_
          refine ld_iload_n O (pc := 65) 2 dX3_cell_65 rfl rfl ?_
          refine ld_callVi O (pc := 66) (As := [.int (nI (ld_ix k)), .int i]) (st := [.ref (ad 8)]) ld_recv8 (c_X3_noCell l ad (us σ 140 (fun _ => nI 0)) hS (ld_ix k) (by omega) i) ld_mw_X3_noCell ld_w538 rfl rfl ⟨by decide, by decide⟩ (Nat.le_of_ble_eq_true rfl) dX3_cell_66 (fun r_p66 σ_p66 h_p66 => ?_)
          obtain ⟨rfl, hσ_p66⟩ := h_p66
          rw [hσ_p66]
          show K (us σ 140 (fun _ => nI 0)) [(0, .ref (ad 8)), (1, .int (nI (ld_ix k))), (2, .int i), (3, .int lane)] [.int (ld_nc (σ 34 (ld_ix k)) i), .ref (ad 8)] 69
          rw [e_]
          refine ld_callVl O (pc := 69) (As := [.int (nI 1)]) (st := []) ld_recv8 (c_X3_failedLong l ad (us σ 140 (fun _ => nI 0)) (nI 1)) ld_mw_X3_failedLong ld_w550 rfl rfl ⟨by decide, by decide⟩ (Nat.le_of_ble_eq_true rfl) dX3_cell_69 (fun r_p69 σ_p69 h_p69 => ?_)
          obtain ⟨rfl, hσ_p69⟩ := h_p69
          rw [hσ_p69]
          show K (us (us σ 140 (fun _ => nI 0)) 140 (fun _ => nI 1)) [(0, .ref (ad 8)), (1, .int (nI (ld_ix k))), (2, .int i), (3, .int lane)] [.long (-9223372036854775808 : Int64)] 72
          refine ld_goto O (pc := 72) 87 dX3_cell_72 (by decide) ?_
          refine ld_lret E dX3_cell_87 ?_
          refine ⟨?_, fun _ => nI 1, ?_, ?_⟩
          · unfold ld_fCe ld_fa
            repeat' split
            all_goals first | (exfalso; omega) | rfl
          · unfold ld_fCe ld_fa
            repeat' split
            all_goals first | (exfalso; omega) | rfl
          · funext b_
            by_cases h0_ : b_ = 140
            · subst h0_; exact (us_eq _ _ _).trans (us_eq _ _ _).symm
            simp only [us, h0_, if_false]
        · show K (us σ 140 (fun _ => nI 0)) [(0, .ref (ad 8)), (1, .int (nI (ld_ix k))), (2, .int i), (3, .int lane)] [.int (nI 0)] 59
          refine ld_if_le O (pc := 59) 0 (by decide) 75 dX3_cell_59 (by decide) (fun _ => ?_) (fun z => absurd z (by decide))
          obtain ⟨ek_i, hk_i, ik_i⟩ := ld_ofIx (k := i) (h := 61) (by omega)
          rw [ek_i]
          refine ld_aload_n O (pc := 75) 0 dX3_cell_75 rfl rfl ?_
          refine ld_g_M_sheet O (pc := 76) ld_w67 dX3_cell_76 ?_
          refine ld_bipush O (pc := 79) (v := nI 60) dX3_cell_79 (by decide) ?_
          refine ld_iload_n O (pc := 81) 1 dX3_cell_81 rfl rfl ?_
          refine ld_imulN O (pc := 82) dX3_cell_82 ?_
          refine ld_iload_n O (pc := 83) 2 dX3_cell_83 rfl rfl ?_
          refine ld_iaddN O (pc := 84) dX3_cell_84 ?_
          refine ld_iald O (pc := 85) 36 ((60 * (ld_ix k)) + (ld_ix i)) (v := σ 36 ((60 * (ld_ix k)) + (ld_ix i))) rfl (by decide) (show (60 * (ld_ix k)) + (ld_ix i) < 240 by omega) rfl dX3_cell_85 ?_
          have hl7 : ((σ 36 ((60 * (ld_ix k)) + (ld_ix i))).toInt64).toInt = (σ 36 ((60 * (ld_ix k)) + (ld_ix i))).toInt := (Int32.toInt_toInt64 _).trans rfl
          refine ld_i2l O (pc := 86) dX3_cell_86 ?_
          refine ld_lret E dX3_cell_87 ?_
          refine ⟨?_, fun _ => nI 0, ?_, ?_⟩
          · unfold ld_fCe ld_fa
            repeat' split
            all_goals first | (exfalso; omega) | rfl
          · unfold ld_fCe ld_fa
            repeat' split
            all_goals first | (exfalso; omega) | rfl
          · funext b_
            by_cases h0_ : b_ = 140
            · subst h0_; exact (us_eq _ _ _).trans (us_eq _ _ _).symm
            simp only [us, h0_, if_false]
        · show K (us σ 140 (fun _ => nI 0)) [(0, .ref (ad 8)), (1, .int (nI (ld_ix k))), (2, .int i), (3, .int lane)] [.int (nI 3)] 59
          refine ld_if_le O (pc := 59) 3 (by decide) 75 dX3_cell_59 (by decide) (fun z => absurd z (by decide)) (fun _ => ?_)
          refine ld_aload_n O (pc := 62) 0 dX3_cell_62 rfl rfl ?_
          refine ld_aload_n O (pc := 63) 0 dX3_cell_63 rfl rfl ?_
          refine ld_iload_n O (pc := 64) 1 dX3_cell_64 rfl rfl ?_
          refine ld_iload_n O (pc := 65) 2 dX3_cell_65 rfl rfl ?_
          refine ld_callVi O (pc := 66) (As := [.int (nI (ld_ix k)), .int i]) (st := [.ref (ad 8)]) ld_recv8 (c_X3_noCell l ad (us σ 140 (fun _ => nI 0)) hS (ld_ix k) (by omega) i) ld_mw_X3_noCell ld_w538 rfl rfl ⟨by decide, by decide⟩ (Nat.le_of_ble_eq_true rfl) dX3_cell_66 (fun r_p66 σ_p66 h_p66 => ?_)
          obtain ⟨rfl, hσ_p66⟩ := h_p66
          rw [hσ_p66]
          show K (us σ 140 (fun _ => nI 0)) [(0, .ref (ad 8)), (1, .int (nI (ld_ix k))), (2, .int i), (3, .int lane)] [.int (ld_nc (σ 34 (ld_ix k)) i), .ref (ad 8)] 69
          rw [e_]
          refine ld_callVl O (pc := 69) (As := [.int (nI 3)]) (st := []) ld_recv8 (c_X3_failedLong l ad (us σ 140 (fun _ => nI 0)) (nI 3)) ld_mw_X3_failedLong ld_w550 rfl rfl ⟨by decide, by decide⟩ (Nat.le_of_ble_eq_true rfl) dX3_cell_69 (fun r_p69 σ_p69 h_p69 => ?_)
          obtain ⟨rfl, hσ_p69⟩ := h_p69
          rw [hσ_p69]
          show K (us (us σ 140 (fun _ => nI 0)) 140 (fun _ => nI 3)) [(0, .ref (ad 8)), (1, .int (nI (ld_ix k))), (2, .int i), (3, .int lane)] [.long (-9223372036854775808 : Int64)] 72
          refine ld_goto O (pc := 72) 87 dX3_cell_72 (by decide) ?_
          refine ld_lret E dX3_cell_87 ?_
          refine ⟨?_, fun _ => nI 3, ?_, ?_⟩
          · unfold ld_fCe ld_fa
            repeat' split
            all_goals first | (exfalso; omega) | rfl
          · unfold ld_fCe ld_fa
            repeat' split
            all_goals first | (exfalso; omega) | rfl
          · funext b_
            by_cases h0_ : b_ = 140
            · subst h0_; exact (us_eq _ _ _).trans (us_eq _ _ _).symm
            simp only [us, h0_, if_false]
      · refine ld_aload_n O (pc := 37) 0 dX3_cell_37 rfl rfl ?_
        refine ld_g_M_sheetLane O (pc := 38) ld_w66 dX3_cell_38 ?_
        refine ld_iload_n O (pc := 41) 1 dX3_cell_41 rfl rfl ?_
        refine ld_iald O (pc := 42) 35 (ld_ix k) (v := σ 35 (ld_ix k)) rfl (by decide) (show ld_ix k < 4 by omega) rfl dX3_cell_42 ?_
        refine ld_iload_n O (pc := 43) 3 dX3_cell_43 rfl rfl ?_
        refine ld_icmp_eq O (pc := 44) (σ 35 (ld_ix k)).toInt (lane).toInt rfl rfl 53 dX3_cell_44 (by decide) (fun c9 => ?_) (fun c9 => ?_)
        · refine ld_aload_n O (pc := 53) 0 dX3_cell_53 rfl rfl ?_
          refine ld_iload_n O (pc := 54) 1 dX3_cell_54 rfl rfl ?_
          refine ld_iload_n O (pc := 55) 2 dX3_cell_55 rfl rfl ?_
          refine ld_callVi O (pc := 56) (As := [.int (nI (ld_ix k)), .int i]) (st := []) ld_recv8 (c_X3_noCell l ad (us σ 140 (fun _ => nI 0)) hS (ld_ix k) (by omega) i) ld_mw_X3_noCell ld_w538 rfl rfl ⟨by decide, by decide⟩ (Nat.le_of_ble_eq_true rfl) dX3_cell_56 (fun r_p56 σ_p56 h_p56 => ?_)
          obtain ⟨rfl, hσ_p56⟩ := h_p56
          rw [hσ_p56]
          show K (us σ 140 (fun _ => nI 0)) [(0, .ref (ad 8)), (1, .int (nI (ld_ix k))), (2, .int i), (3, .int lane)] [.int (ld_nc (σ 34 (ld_ix k)) i)] 59
          rcases ld_ncs (σ 34 (ld_ix k)) i with ⟨z1_, e_⟩ | ⟨z1_, z2_, e_⟩ | ⟨z1_, z2_, e_⟩ <;> rw [e_]
          · show K (us σ 140 (fun _ => nI 0)) [(0, .ref (ad 8)), (1, .int (nI (ld_ix k))), (2, .int i), (3, .int lane)] [.int (nI 1)] 59
            refine ld_if_le O (pc := 59) 1 (by decide) 75 dX3_cell_59 (by decide) (fun z => absurd z (by decide)) (fun _ => ?_)
            refine ld_aload_n O (pc := 62) 0 dX3_cell_62 rfl rfl ?_
            refine ld_aload_n O (pc := 63) 0 dX3_cell_63 rfl rfl ?_
            refine ld_iload_n O (pc := 64) 1 dX3_cell_64 rfl rfl ?_
            refine ld_iload_n O (pc := 65) 2 dX3_cell_65 rfl rfl ?_
            refine ld_callVi O (pc := 66) (As := [.int (nI (ld_ix k)), .int i]) (st := [.ref (ad 8)]) ld_recv8 (c_X3_noCell l ad (us σ 140 (fun _ => nI 0)) hS (ld_ix k) (by omega) i) ld_mw_X3_noCell ld_w538 rfl rfl ⟨by decide, by decide⟩ (Nat.le_of_ble_eq_true rfl) dX3_cell_66 (fun r_p66 σ_p66 h_p66 => ?_)
            obtain ⟨rfl, hσ_p66⟩ := h_p66
            rw [hσ_p66]
            show K (us σ 140 (fun _ => nI 0)) [(0, .ref (ad 8)), (1, .int (nI (ld_ix k))), (2, .int i), (3, .int lane)] [.int (ld_nc (σ 34 (ld_ix k)) i), .ref (ad 8)] 69
            rw [e_]
            refine ld_callVl O (pc := 69) (As := [.int (nI 1)]) (st := []) ld_recv8 (c_X3_failedLong l ad (us σ 140 (fun _ => nI 0)) (nI 1)) ld_mw_X3_failedLong ld_w550 rfl rfl ⟨by decide, by decide⟩ (Nat.le_of_ble_eq_true rfl) dX3_cell_69 (fun r_p69 σ_p69 h_p69 => ?_)
            obtain ⟨rfl, hσ_p69⟩ := h_p69
            rw [hσ_p69]
            show K (us (us σ 140 (fun _ => nI 0)) 140 (fun _ => nI 1)) [(0, .ref (ad 8)), (1, .int (nI (ld_ix k))), (2, .int i), (3, .int lane)] [.long (-9223372036854775808 : Int64)] 72
            refine ld_goto O (pc := 72) 87 dX3_cell_72 (by decide) ?_
            refine ld_lret E dX3_cell_87 ?_
            refine ⟨?_, fun _ => nI 1, ?_, ?_⟩
            · unfold ld_fCe ld_fa
              repeat' split
              all_goals first | (exfalso; omega) | rfl
            · unfold ld_fCe ld_fa
              repeat' split
              all_goals first | (exfalso; omega) | rfl
            · funext b_
              by_cases h0_ : b_ = 140
              · subst h0_; exact (us_eq _ _ _).trans (us_eq _ _ _).symm
              simp only [us, h0_, if_false]
          · show K (us σ 140 (fun _ => nI 0)) [(0, .ref (ad 8)), (1, .int (nI (ld_ix k))), (2, .int i), (3, .int lane)] [.int (nI 0)] 59
            refine ld_if_le O (pc := 59) 0 (by decide) 75 dX3_cell_59 (by decide) (fun _ => ?_) (fun z => absurd z (by decide))
            obtain ⟨ek_i, hk_i, ik_i⟩ := ld_ofIx (k := i) (h := 61) (by omega)
            rw [ek_i]
            refine ld_aload_n O (pc := 75) 0 dX3_cell_75 rfl rfl ?_
            refine ld_g_M_sheet O (pc := 76) ld_w67 dX3_cell_76 ?_
            refine ld_bipush O (pc := 79) (v := nI 60) dX3_cell_79 (by decide) ?_
            refine ld_iload_n O (pc := 81) 1 dX3_cell_81 rfl rfl ?_
            refine ld_imulN O (pc := 82) dX3_cell_82 ?_
            refine ld_iload_n O (pc := 83) 2 dX3_cell_83 rfl rfl ?_
            refine ld_iaddN O (pc := 84) dX3_cell_84 ?_
            refine ld_iald O (pc := 85) 36 ((60 * (ld_ix k)) + (ld_ix i)) (v := σ 36 ((60 * (ld_ix k)) + (ld_ix i))) rfl (by decide) (show (60 * (ld_ix k)) + (ld_ix i) < 240 by omega) rfl dX3_cell_85 ?_
            have hl12 : ((σ 36 ((60 * (ld_ix k)) + (ld_ix i))).toInt64).toInt = (σ 36 ((60 * (ld_ix k)) + (ld_ix i))).toInt := (Int32.toInt_toInt64 _).trans rfl
            refine ld_i2l O (pc := 86) dX3_cell_86 ?_
            refine ld_lret E dX3_cell_87 ?_
            refine ⟨?_, fun _ => nI 0, ?_, ?_⟩
            · unfold ld_fCe ld_fa
              repeat' split
              all_goals first | (exfalso; omega) | rfl
            · unfold ld_fCe ld_fa
              repeat' split
              all_goals first | (exfalso; omega) | rfl
            · funext b_
              by_cases h0_ : b_ = 140
              · subst h0_; exact (us_eq _ _ _).trans (us_eq _ _ _).symm
              simp only [us, h0_, if_false]
          · show K (us σ 140 (fun _ => nI 0)) [(0, .ref (ad 8)), (1, .int (nI (ld_ix k))), (2, .int i), (3, .int lane)] [.int (nI 3)] 59
            refine ld_if_le O (pc := 59) 3 (by decide) 75 dX3_cell_59 (by decide) (fun z => absurd z (by decide)) (fun _ => ?_)
            refine ld_aload_n O (pc := 62) 0 dX3_cell_62 rfl rfl ?_
            refine ld_aload_n O (pc := 63) 0 dX3_cell_63 rfl rfl ?_
            refine ld_iload_n O (pc := 64) 1 dX3_cell_64 rfl rfl ?_
            refine ld_iload_n O (pc := 65) 2 dX3_cell_65 rfl rfl ?_
            refine ld_callVi O (pc := 66) (As := [.int (nI (ld_ix k)), .int i]) (st := [.ref (ad 8)]) ld_recv8 (c_X3_noCell l ad (us σ 140 (fun _ => nI 0)) hS (ld_ix k) (by omega) i) ld_mw_X3_noCell ld_w538 rfl rfl ⟨by decide, by decide⟩ (Nat.le_of_ble_eq_true rfl) dX3_cell_66 (fun r_p66 σ_p66 h_p66 => ?_)
            obtain ⟨rfl, hσ_p66⟩ := h_p66
            rw [hσ_p66]
            show K (us σ 140 (fun _ => nI 0)) [(0, .ref (ad 8)), (1, .int (nI (ld_ix k))), (2, .int i), (3, .int lane)] [.int (ld_nc (σ 34 (ld_ix k)) i), .ref (ad 8)] 69
            rw [e_]
            refine ld_callVl O (pc := 69) (As := [.int (nI 3)]) (st := []) ld_recv8 (c_X3_failedLong l ad (us σ 140 (fun _ => nI 0)) (nI 3)) ld_mw_X3_failedLong ld_w550 rfl rfl ⟨by decide, by decide⟩ (Nat.le_of_ble_eq_true rfl) dX3_cell_69 (fun r_p69 σ_p69 h_p69 => ?_)
            obtain ⟨rfl, hσ_p69⟩ := h_p69
            rw [hσ_p69]
            show K (us (us σ 140 (fun _ => nI 0)) 140 (fun _ => nI 3)) [(0, .ref (ad 8)), (1, .int (nI (ld_ix k))), (2, .int i), (3, .int lane)] [.long (-9223372036854775808 : Int64)] 72
            refine ld_goto O (pc := 72) 87 dX3_cell_72 (by decide) ?_
            refine ld_lret E dX3_cell_87 ?_
            refine ⟨?_, fun _ => nI 3, ?_, ?_⟩
            · unfold ld_fCe ld_fa
              repeat' split
              all_goals first | (exfalso; omega) | rfl
            · unfold ld_fCe ld_fa
              repeat' split
              all_goals first | (exfalso; omega) | rfl
            · funext b_
              by_cases h0_ : b_ = 140
              · subst h0_; exact (us_eq _ _ _).trans (us_eq _ _ _).symm
              simp only [us, h0_, if_false]
        · refine ld_aload_n O (pc := 47) 0 dX3_cell_47 rfl rfl ?_
          refine ld_iconst O (pc := 48) (v := nI 2) dX3_cell_48 (by decide) ?_
          refine ld_callVl O (pc := 49) (As := [.int (nI 2)]) (st := []) ld_recv8 (c_X3_failedLong l ad (us σ 140 (fun _ => nI 0)) (nI 2)) ld_mw_X3_failedLong ld_w550 rfl rfl ⟨by decide, by decide⟩ (Nat.le_of_ble_eq_true rfl) dX3_cell_49 (fun r_p49 σ_p49 h_p49 => ?_)
          obtain ⟨rfl, hσ_p49⟩ := h_p49
          rw [hσ_p49]
          show K (us (us σ 140 (fun _ => nI 0)) 140 (fun _ => nI 2)) [(0, .ref (ad 8)), (1, .int (nI (ld_ix k))), (2, .int i), (3, .int lane)] [.long (-9223372036854775808 : Int64)] 52
          refine ld_lret E dX3_cell_52 ?_
          refine ⟨?_, fun _ => nI 2, ?_, ?_⟩
          · unfold ld_fCe ld_fa
            repeat' split
            all_goals first | (exfalso; omega) | rfl
          · unfold ld_fCe ld_fa
            repeat' split
            all_goals first | (exfalso; omega) | rfl
          · funext b_
            by_cases h0_ : b_ = 140
            · subst h0_; exact (us_eq _ _ _).trans (us_eq _ _ _).symm
            simp only [us, h0_, if_false]
    · refine ld_callSl O (pc := 24) (As := []) (st := []) (c_X3_lost l ad (us σ 140 (fun _ => nI 0)) ) ld_mw_X3_lost ld_w498 rfl rfl ⟨by decide, by decide⟩ (Nat.le_of_ble_eq_true rfl) dX3_cell_24 (fun r_p24 σ_p24 h_p24 => ?_)
      obtain ⟨rfl, hσ_p24⟩ := h_p24
      rw [hσ_p24]
      show K (us σ 140 (fun _ => nI 0)) [(0, .ref (ad 8)), (1, .int (nI (ld_ix k))), (2, .int i), (3, .int lane)] [.long (-9223372036854775808 : Int64)] 27
      refine ld_lret E dX3_cell_27 ?_
      refine ⟨?_, fun _ => nI 0, ?_, ?_⟩
      · unfold ld_fCe ld_fa
        repeat' split
        all_goals first | (exfalso; omega) | rfl
      · unfold ld_fCe ld_fa
        repeat' split
        all_goals first | (exfalso; omega) | rfl
      · funext b_
        by_cases h0_ : b_ = 140
        · subst h0_; exact (us_eq _ _ _).trans (us_eq _ _ _).symm
        simp only [us, h0_, if_false]
set_option maxHeartbeats 4000000 in
set_option maxRecDepth 100000 in
theorem c_X3_sheet (l : Launch) (ad : Nat → Nat) (σ : ld_St) (k lane n : Int32) : ld_Ctr l yX3_sheet cX3_sheet 5 (some .int) (2, 45) [.ref (ad 8), .int k, .int lane, .int n] ad σ (ld_I (fun (r : Int32) (σ2 : ld_St) => r = (ld_fSh k lane n).1 ∧ ∃ f : Nat → Int32, f 0 = (ld_fSh k lane n).2 ∧ ((ld_okSh k lane n ∧ ∃ g : Nat → Int32, σ2 = us (us (us (us σ 34 (upd (σ 34) (ld_ix k) (nI (ld_ix n)))) 35 (upd (σ 35) (ld_ix k) lane)) 36 g) 140 f ∧ (∀ x, x < ld_ix n → g (60 * ld_ix k + x) = nI 0) ∧ ∀ x, (x < 60 * ld_ix k ∨ 60 * ld_ix k + 60 ≤ x) → g x = σ 36 x) ∨ (¬ ld_okSh k lane n ∧ σ2 = us σ 140 f)))) := by
  refine ld_entry (by decide +kernel) (Nat.le_of_ble_eq_true rfl) (fun K O E => ?_)
  have O : ld_Ok l K ad cX3_sheet 5 RX3 (ld_rm (2, 45)) := O
  show K σ [(0, .ref (ad 8)), (1, .int k), (2, .int lane), (3, .int n)] [] 0
  refine ld_iload_n O (pc := 0) 1 dX3_sheet_0 rfl rfl ?_
  refine ld_callSi O (pc := 1) (As := [.int k]) (st := []) (c_X3_noSheet l ad σ k) ld_mw_X3_noSheet ld_w124 rfl rfl ⟨by decide, by decide⟩ (Nat.le_of_ble_eq_true rfl) dX3_sheet_1 (fun r_p1 σ_p1 h_p1 => ?_)
  obtain ⟨rfl, hσ_p1⟩ := h_p1
  rw [hσ_p1]
  show K σ [(0, .ref (ad 8)), (1, .int k), (2, .int lane), (3, .int n)] [.int (ld_b (¬ (0 ≤ (k).toInt ∧ (k).toInt < 4)))] 4
  refine ld_ifb_eq O (pc := 4) 13 dX3_sheet_4 (by decide) (fun c1 => ?_) (fun c1 => ?_)
  · replace c1 := Classical.byContradiction c1
    obtain ⟨ek_k, hk_k, ik_k⟩ := ld_ofIx (k := k) (h := 4) (by omega)
    rw [ek_k]
    refine ld_iload_n O (pc := 13) 2 dX3_sheet_13 rfl rfl ?_
    have hl2 : (lane.toInt64).toInt = (lane).toInt := (Int32.toInt_toInt64 _).trans rfl
    refine ld_i2l O (pc := 14) dX3_sheet_14 ?_
    refine ld_lconst O (pc := 15) (v := (0 : Int64)) dX3_sheet_15 (by decide) ?_
    refine ld_ldc2 O (pc := 16) (v := (2 : Int64)) dX3_sheet_16 ld_w116 ?_
    refine ld_callSi O (pc := 19) (As := [.long lane.toInt64, .long (0 : Int64), .long (2 : Int64)]) (st := []) (c_X3_in l ad σ lane.toInt64 (0 : Int64) (2 : Int64) ((lane).toInt) 0 (2) hl2 (by decide) (by decide)) ld_mw_X3_in ld_w128 rfl rfl ⟨by decide, by decide⟩ (Nat.le_of_ble_eq_true rfl) dX3_sheet_19 (fun r_p19 σ_p19 h_p19 => ?_)
    obtain ⟨rfl, hσ_p19⟩ := h_p19
    rw [hσ_p19]
    show K σ [(0, .ref (ad 8)), (1, .int (nI (ld_ix k))), (2, .int lane), (3, .int n)] [.int (ld_b (0 ≤ (lane).toInt ∧ (lane).toInt ≤ (2)))] 22
    refine ld_ifb_eq O (pc := 22) 31 dX3_sheet_22 (by decide) (fun c3 => ?_) (fun c3 => ?_)
    · refine ld_aload_n O (pc := 31) 0 dX3_sheet_31 rfl rfl ?_
      refine ld_bipush O (pc := 32) (v := (-2 : Int32)) dX3_sheet_32 (by decide) ?_
      refine ld_callVi O (pc := 34) (As := [.int (-2 : Int32)]) (st := []) ld_recv8 (c_X3_refused l ad σ (-2 : Int32)) ld_mw_X3_refused ld_w131 rfl rfl ⟨by decide, by decide⟩ (Nat.le_of_ble_eq_true rfl) dX3_sheet_34 (fun r_p34 σ_p34 h_p34 => ?_)
      obtain ⟨rfl, hσ_p34⟩ := h_p34
      rw [hσ_p34]
      show K (us σ 140 (fun _ => nI 0)) [(0, .ref (ad 8)), (1, .int (nI (ld_ix k))), (2, .int lane), (3, .int n)] [.int (-2 : Int32)] 37
      refine ld_ireti E dX3_sheet_37 ?_
      refine ⟨?_, fun _ => nI 0, ?_, Or.inr ⟨?_, ?_⟩⟩
      · unfold ld_fSh
        repeat' split
        all_goals first | (exfalso; omega) | rfl
      · unfold ld_fSh
        repeat' split
        all_goals first | (exfalso; omega) | rfl
      · exact fun z => by have z1 := z.1; have z2 := z.2.1; have z3 := z.2.2; omega
      · funext b_
        by_cases h0_ : b_ = 140
        · subst h0_; exact (us_eq _ _ _).trans (us_eq _ _ _).symm
        simp only [us, h0_, if_false]
    · refine ld_iload_n O (pc := 25) 3 dX3_sheet_25 rfl rfl ?_
      refine ld_bipush O (pc := 26) (v := nI 60) dX3_sheet_26 (by decide) ?_
      refine ld_icmp_le O (pc := 28) (n).toInt 60 rfl (by decide) 38 dX3_sheet_28 (by decide) (fun c4 => ?_) (fun c4 => ?_)
      · refine ld_iload_n O (pc := 38) 3 dX3_sheet_38 rfl rfl ?_
        refine ld_if_ge O (pc := 39) (n).toInt rfl 48 dX3_sheet_39 (by decide) (fun c5 => ?_) (fun c5 => ?_)
        · obtain ⟨ek_n, hk_n, ik_n⟩ := ld_ofIx (k := n) (h := 61) (by omega)
          rw [ek_n]
          refine ld_aload_n O (pc := 48) 0 dX3_sheet_48 rfl rfl ?_
          refine ld_g_M_sheetSize O (pc := 49) ld_w65 dX3_sheet_49 ?_
          refine ld_iload_n O (pc := 52) 1 dX3_sheet_52 rfl rfl ?_
          refine ld_iload_n O (pc := 53) 3 dX3_sheet_53 rfl rfl ?_
          refine ld_iast O (pc := 54) 34 (ld_ix k) rfl (by decide) (show ld_ix k < 4 by omega) dX3_sheet_54 ?_
          refine ld_aload_n O (pc := 55) 0 dX3_sheet_55 rfl rfl ?_
          refine ld_g_M_sheetLane O (pc := 56) ld_w66 dX3_sheet_56 ?_
          refine ld_iload_n O (pc := 59) 1 dX3_sheet_59 rfl rfl ?_
          refine ld_iload_n O (pc := 60) 2 dX3_sheet_60 rfl rfl ?_
          refine ld_iast O (pc := 61) 35 (ld_ix k) rfl (by decide) (show ld_ix k < 4 by omega) dX3_sheet_61 ?_
          refine ld_iconst O (pc := 62) (v := nI 0) dX3_sheet_62 (by decide) ?_
          refine ld_istore O (pc := 63) [(4, .int (nI 0)), (0, .ref (ad 8)), (1, .int (nI (ld_ix k))), (2, .int lane), (3, .int (nI (ld_ix n)))] dX3_sheet_63 (by decide) rfl ?_
          have L65 : ∀ (m_65 : Nat) (i : Nat) (g : Nat → Int32), ld_ix n - i < m_65 → (i ≤ ld_ix n) → (∀ x, x < i → g (60 * ld_ix k + x) = nI 0) → (∀ x, (x < 60 * ld_ix k ∨ 60 * ld_ix k + 60 ≤ x) → g x = σ 36 x) → K (us (us (us σ 34 (upd (σ 34) (ld_ix k) (nI (ld_ix n)))) 35 (upd (σ 35) (ld_ix k) lane)) 36 g) [(0, .ref (ad 8)), (1, .int (nI (ld_ix k))), (2, .int lane), (3, .int (nI (ld_ix n))), (4, .int (nI i))] [] 65 := by
            intro m_65
            induction m_65 with
            | zero => intro i g hm_; exact absurd hm_ (Nat.not_lt_zero _)
            | succ m_65 ih65 =>
              intro i g hm_65 hi hg hg2
              refine ld_iload O (pc := 65) 4 dX3_sheet_65 rfl ?_
              refine ld_iload_n O (pc := 67) 3 dX3_sheet_67 rfl rfl ?_
              refine ld_icmp_ge O (pc := 68) ((i : Nat) : Int) ((ld_ix n : Nat) : Int) (nI_toInt (by omega)) (nI_toInt (by omega)) 90 dX3_sheet_68 (by decide) (fun c6 => ?_) (fun c6 => ?_)
              · refine ld_aload_n O (pc := 90) 0 dX3_sheet_90 rfl rfl ?_
                refine ld_iconst O (pc := 91) (v := nI 1) dX3_sheet_91 (by decide) ?_
                refine ld_callVi O (pc := 92) (As := [.int (nI 1)]) (st := []) ld_recv8 (c_X3_refused l ad (us (us (us σ 34 (upd (σ 34) (ld_ix k) (nI (ld_ix n)))) 35 (upd (σ 35) (ld_ix k) lane)) 36 g) (nI 1)) ld_mw_X3_refused ld_w131 rfl rfl ⟨by decide, by decide⟩ (Nat.le_of_ble_eq_true rfl) dX3_sheet_92 (fun r_p92 σ_p92 h_p92 => ?_)
                obtain ⟨rfl, hσ_p92⟩ := h_p92
                rw [hσ_p92]
                show K (us (us (us (us σ 34 (upd (σ 34) (ld_ix k) (nI (ld_ix n)))) 35 (upd (σ 35) (ld_ix k) lane)) 36 g) 140 (fun _ => nI 0)) [(0, .ref (ad 8)), (1, .int (nI (ld_ix k))), (2, .int lane), (3, .int (nI (ld_ix n))), (4, .int (nI i))] [.int (nI 1)] 95
                refine ld_ireti E dX3_sheet_95 ?_
                rw [show i = ld_ix n by omega] at hg
                refine ⟨?_, fun _ => nI 0, ?_, Or.inl ⟨⟨by omega, by omega, by omega⟩, g, ?_, hg, hg2⟩⟩
                · unfold ld_fSh
                  repeat' split
                  all_goals first | (exfalso; omega) | rfl
                · unfold ld_fSh
                  repeat' split
                  all_goals first | (exfalso; omega) | rfl
                · funext b_
                  by_cases h0_ : b_ = 34
                  · subst h0_; exact ((us_ne _ _ (by decide)).trans ((us_ne _ _ (by decide)).trans ((us_ne _ _ (by decide)).trans (us_eq _ _ _)))).trans ((us_ne _ _ (by decide)).trans ((us_ne _ _ (by decide)).trans ((us_ne _ _ (by decide)).trans (us_eq _ _ _)))).symm
                  by_cases h1_ : b_ = 35
                  · subst h1_; exact ((us_ne _ _ (by decide)).trans ((us_ne _ _ (by decide)).trans (us_eq _ _ _))).trans ((us_ne _ _ (by decide)).trans ((us_ne _ _ (by decide)).trans (us_eq _ _ _))).symm
                  by_cases h2_ : b_ = 36
                  · subst h2_; exact ((us_ne _ _ (by decide)).trans (us_eq _ _ _)).trans ((us_ne _ _ (by decide)).trans (us_eq _ _ _)).symm
                  by_cases h3_ : b_ = 140
                  · subst h3_; exact (us_eq _ _ _).trans (us_eq _ _ _).symm
                  simp only [us, h0_, h1_, h2_, h3_, if_false]
              · refine ld_aload_n O (pc := 71) 0 dX3_sheet_71 rfl rfl ?_
                refine ld_g_M_sheet O (pc := 72) ld_w67 dX3_sheet_72 ?_
                refine ld_bipush O (pc := 75) (v := nI 60) dX3_sheet_75 (by decide) ?_
                refine ld_iload_n O (pc := 77) 1 dX3_sheet_77 rfl rfl ?_
                refine ld_imulN O (pc := 78) dX3_sheet_78 ?_
                refine ld_iload O (pc := 79) 4 dX3_sheet_79 rfl ?_
                refine ld_iaddN O (pc := 81) dX3_sheet_81 ?_
                refine ld_iconst O (pc := 82) (v := nI 0) dX3_sheet_82 (by decide) ?_
                refine ld_iast O (pc := 83) 36 ((60 * (ld_ix k)) + i) rfl (by decide) (show (60 * (ld_ix k)) + i < 240 by omega) dX3_sheet_83 ?_
                refine ld_iincN O (pc := 84) [(4, .int (nI (i + 1))), (0, .ref (ad 8)), (1, .int (nI (ld_ix k))), (2, .int lane), (3, .int (nI (ld_ix n)))] 4 dX3_sheet_84 rfl (by decide) rfl ?_
                refine ld_goto O (pc := 87) 65 dX3_sheet_87 (by decide) ?_
                refine ld_less O [1, 2, 3, 4, 0] (lv2 := [(0, .ref (ad 8)), (1, .int (nI (ld_ix k))), (2, .int lane), (3, .int (nI (ld_ix n))), (4, .int (nI (i + 1)))]) rfl ?_
                have hs7 : us (us (us (us σ 34 (upd (σ 34) (ld_ix k) (nI (ld_ix n)))) 35 (upd (σ 35) (ld_ix k) lane)) 36 g) 36 (upd (g) ((60 * (ld_ix k)) + i) (nI 0)) = us (us (us σ 34 (upd (σ 34) (ld_ix k) (nI (ld_ix n)))) 35 (upd (σ 35) (ld_ix k) lane)) 36 (upd (g) ((60 * (ld_ix k)) + i) (nI 0)) := by
                  funext b_
                  by_cases h0_ : b_ = 34
                  · subst h0_; exact ((us_ne _ _ (by decide)).trans ((us_ne _ _ (by decide)).trans ((us_ne _ _ (by decide)).trans (us_eq _ _ _)))).trans ((us_ne _ _ (by decide)).trans ((us_ne _ _ (by decide)).trans (us_eq _ _ _))).symm
                  by_cases h1_ : b_ = 35
                  · subst h1_; exact ((us_ne _ _ (by decide)).trans ((us_ne _ _ (by decide)).trans (us_eq _ _ _))).trans ((us_ne _ _ (by decide)).trans (us_eq _ _ _)).symm
                  by_cases h2_ : b_ = 36
                  · subst h2_; exact (us_eq _ _ _).trans (us_eq _ _ _).symm
                  simp only [us, h0_, h1_, h2_, if_false]
                refine ld_cv hs7 ?_
                exact ih65 (i + 1) (upd (g) ((60 * (ld_ix k)) + i) (nI 0)) (by omega) (by omega) (fun x hx => by by_cases e : x = i; (rw [e]; exact pk_us); exact (pk_un (by omega)).trans (hg x (by omega))) (fun x hx => (pk_un (by omega)).trans (hg2 x hx))
          refine ld_less O [1, 2, 3, 4, 0] (lv2 := [(0, .ref (ad 8)), (1, .int (nI (ld_ix k))), (2, .int lane), (3, .int (nI (ld_ix n))), (4, .int (nI 0))]) rfl ?_
          have hs8 : us (us σ 34 (upd (σ 34) (ld_ix k) (nI (ld_ix n)))) 35 (upd (σ 35) (ld_ix k) lane) = us (us (us σ 34 (upd (σ 34) (ld_ix k) (nI (ld_ix n)))) 35 (upd (σ 35) (ld_ix k) lane)) 36 (σ 36) := by
            funext b_
            by_cases h0_ : b_ = 34
            · subst h0_; exact ((us_ne _ _ (by decide)).trans (us_eq _ _ _)).trans ((us_ne _ _ (by decide)).trans ((us_ne _ _ (by decide)).trans (us_eq _ _ _))).symm
            by_cases h1_ : b_ = 35
            · subst h1_; exact (us_eq _ _ _).trans ((us_ne _ _ (by decide)).trans (us_eq _ _ _)).symm
            by_cases h2_ : b_ = 36
            · subst h2_; exact ((us_ne _ _ (by decide)).trans (us_ne _ _ (by decide))).trans (us_eq _ _ _).symm
            simp only [us, h0_, h1_, h2_, if_false]
          refine ld_cv hs8 ?_
          exact L65 _ 0 (σ 36) (Nat.lt_succ_self _) (Nat.zero_le _) (fun x hx => absurd hx (Nat.not_lt_zero x)) (fun _ _ => rfl)
        · refine ld_aload_n O (pc := 42) 0 dX3_sheet_42 rfl rfl ?_
          refine ld_iconst O (pc := 43) (v := nI 4) dX3_sheet_43 (by decide) ?_
          refine ld_callVi O (pc := 44) (As := [.int (nI 4)]) (st := []) ld_recv8 (c_X3_failed l ad σ (nI 4)) ld_mw_X3_failed ld_w140 rfl rfl ⟨by decide, by decide⟩ (Nat.le_of_ble_eq_true rfl) dX3_sheet_44 (fun r_p44 σ_p44 h_p44 => ?_)
          obtain ⟨rfl, hσ_p44⟩ := h_p44
          rw [hσ_p44]
          show K (us σ 140 (fun _ => nI 4)) [(0, .ref (ad 8)), (1, .int (nI (ld_ix k))), (2, .int lane), (3, .int n)] [.int ((-10 : Int32) - (nI 4))] 47
          refine ld_ireti E dX3_sheet_47 ?_
          refine ⟨?_, fun _ => nI 4, ?_, Or.inr ⟨?_, ?_⟩⟩
          · unfold ld_fSh
            repeat' split
            all_goals first | (exfalso; omega) | rfl
          · unfold ld_fSh
            repeat' split
            all_goals first | (exfalso; omega) | rfl
          · exact fun z => by have z1 := z.1; have z2 := z.2.1; have z3 := z.2.2; omega
          · funext b_
            by_cases h0_ : b_ = 140
            · subst h0_; exact (us_eq _ _ _).trans (us_eq _ _ _).symm
            simp only [us, h0_, if_false]
      · refine ld_aload_n O (pc := 31) 0 dX3_sheet_31 rfl rfl ?_
        refine ld_bipush O (pc := 32) (v := (-2 : Int32)) dX3_sheet_32 (by decide) ?_
        refine ld_callVi O (pc := 34) (As := [.int (-2 : Int32)]) (st := []) ld_recv8 (c_X3_refused l ad σ (-2 : Int32)) ld_mw_X3_refused ld_w131 rfl rfl ⟨by decide, by decide⟩ (Nat.le_of_ble_eq_true rfl) dX3_sheet_34 (fun r_p34 σ_p34 h_p34 => ?_)
        obtain ⟨rfl, hσ_p34⟩ := h_p34
        rw [hσ_p34]
        show K (us σ 140 (fun _ => nI 0)) [(0, .ref (ad 8)), (1, .int (nI (ld_ix k))), (2, .int lane), (3, .int n)] [.int (-2 : Int32)] 37
        refine ld_ireti E dX3_sheet_37 ?_
        refine ⟨?_, fun _ => nI 0, ?_, Or.inr ⟨?_, ?_⟩⟩
        · unfold ld_fSh
          repeat' split
          all_goals first | (exfalso; omega) | rfl
        · unfold ld_fSh
          repeat' split
          all_goals first | (exfalso; omega) | rfl
        · exact fun z => by have z1 := z.1; have z2 := z.2.1; have z3 := z.2.2; omega
        · funext b_
          by_cases h0_ : b_ = 140
          · subst h0_; exact (us_eq _ _ _).trans (us_eq _ _ _).symm
          simp only [us, h0_, if_false]
  · refine ld_aload_n O (pc := 7) 0 dX3_sheet_7 rfl rfl ?_
    refine ld_iconst O (pc := 8) (v := (-1 : Int32)) dX3_sheet_8 (by decide) ?_
    refine ld_callVi O (pc := 9) (As := [.int (-1 : Int32)]) (st := []) ld_recv8 (c_X3_refused l ad σ (-1 : Int32)) ld_mw_X3_refused ld_w131 rfl rfl ⟨by decide, by decide⟩ (Nat.le_of_ble_eq_true rfl) dX3_sheet_9 (fun r_p9 σ_p9 h_p9 => ?_)
    obtain ⟨rfl, hσ_p9⟩ := h_p9
    rw [hσ_p9]
    show K (us σ 140 (fun _ => nI 0)) [(0, .ref (ad 8)), (1, .int k), (2, .int lane), (3, .int n)] [.int (-1 : Int32)] 12
    refine ld_ireti E dX3_sheet_12 ?_
    refine ⟨?_, fun _ => nI 0, ?_, Or.inr ⟨?_, ?_⟩⟩
    · unfold ld_fSh
      repeat' split
      all_goals first | (exfalso; omega) | rfl
    · unfold ld_fSh
      repeat' split
      all_goals first | (exfalso; omega) | rfl
    · exact fun z => by have z1 := z.1; have z2 := z.2.1; have z3 := z.2.2; omega
    · funext b_
      by_cases h0_ : b_ = 140
      · subst h0_; exact (us_eq _ _ _).trans (us_eq _ _ _).symm
      simp only [us, h0_, if_false]
set_option maxHeartbeats 4000000 in
set_option maxRecDepth 100000 in
theorem c_X3_cellsBarred (l : Launch) (ad : Nat → Nat) (σ : ld_St) (hS : ∀ x, x < 4 → -1 ≤ (σ 34 x).toInt ∧ (σ 34 x).toInt ≤ 60) (k : Nat) (hk : k < 4) (lane i : Int32) (n : Int64) (N : Int) (hn : n.toInt = N) (hN : -1000000000000000 ≤ N ∧ N ≤ 1000000000000000) : ld_Ctr l yX3_cellsBarred cX3_cellsBarred 6 (some .int) (1, 23) [.ref (ad 8), .int (nI k), .int lane, .int i, .long n] ad σ (ld_I (fun (r : Int32) (σ2 : ld_St) => r = ld_cr (ld_cb (σ 34 k) (σ 35 k) lane i N) ∧ ∃ f : Nat → Int32, σ2 = us σ 140 f ∧ f 0 = if (ld_cb (σ 34 k) (σ 35 k) lane i N).toInt = 0 then σ 140 0 else ld_cb (σ 34 k) (σ 35 k) lane i N)) := by
  refine ld_entry (by decide +kernel) (Nat.le_of_ble_eq_true rfl) (fun K O E => ?_)
  have O : ld_Ok l K ad cX3_cellsBarred 6 RX3 (ld_rm (1, 23)) := O
  have hs_ := hS k hk
  show K σ [(0, .ref (ad 8)), (1, .int (nI k)), (2, .int lane), (3, .int i), (4, .long n)] [] 0
  refine ld_aload_n O (pc := 0) 0 dX3_cellsBarred_0 rfl rfl ?_
  refine ld_g_M_sheetSize O (pc := 1) ld_w65 dX3_cellsBarred_1 ?_
  refine ld_iload_n O (pc := 4) 1 dX3_cellsBarred_4 rfl rfl ?_
  refine ld_iald O (pc := 5) 34 k (v := σ 34 k) rfl (by decide) (show k < 4 by omega) rfl dX3_cellsBarred_5 ?_
  refine ld_if_lt O (pc := 6) (σ 34 k).toInt rfl 25 dX3_cellsBarred_6 (by decide) (fun c1 => ?_) (fun c1 => ?_)
  · refine ld_aload_n O (pc := 25) 0 dX3_cellsBarred_25 rfl rfl ?_
    refine ld_g_M_sheetSize O (pc := 26) ld_w65 dX3_cellsBarred_26 ?_
    refine ld_iload_n O (pc := 29) 1 dX3_cellsBarred_29 rfl rfl ?_
    refine ld_iald O (pc := 30) 34 k (v := σ 34 k) rfl (by decide) (show k < 4 by omega) rfl dX3_cellsBarred_30 ?_
    refine ld_if_ge O (pc := 31) (σ 34 k).toInt rfl 40 dX3_cellsBarred_31 (by decide) (fun c2 => ?_) (fun c2 => ?_)
    · refine ld_lload O (pc := 40) 4 dX3_cellsBarred_40 rfl ?_
      refine ld_lconst O (pc := 42) (v := (0 : Int64)) dX3_cellsBarred_42 (by decide) ?_
      refine ld_lcmp O (pc := 43) dX3_cellsBarred_43 ?_
      have hq4 := ld_cmp_i (x := n) (y := (0 : Int64)) (X := N) (Y := 0) hn (by decide)
      refine ld_if_ge O (pc := 44) _ rfl 53 dX3_cellsBarred_44 (by decide) (fun c3 => ?_) (fun c3 => ?_)
      · have c3 : ¬ N < 0 := by omega
        refine ld_iload_n O (pc := 53) 3 dX3_cellsBarred_53 rfl rfl ?_
        refine ld_lload O (pc := 54) 4 dX3_cellsBarred_54 rfl ?_
        refine ld_aload_n O (pc := 56) 0 dX3_cellsBarred_56 rfl rfl ?_
        refine ld_g_M_sheetSize O (pc := 57) ld_w65 dX3_cellsBarred_57 ?_
        refine ld_iload_n O (pc := 60) 1 dX3_cellsBarred_60 rfl rfl ?_
        refine ld_iald O (pc := 61) 34 k (v := σ 34 k) rfl (by decide) (show k < 4 by omega) rfl dX3_cellsBarred_61 ?_
        refine ld_callSi O (pc := 62) (As := [.int i, .long n, .int (σ 34 k)]) (st := []) (c_X3_isBeyond l ad σ i n N hn (by omega) (σ 34 k)) ld_mw_X3_isBeyond ld_w144 rfl rfl ⟨by decide, by decide⟩ (Nat.le_of_ble_eq_true rfl) dX3_cellsBarred_62 (fun r_p62 σ_p62 h_p62 => ?_)
        obtain ⟨rfl, hσ_p62⟩ := h_p62
        rw [hσ_p62]
        show K σ [(0, .ref (ad 8)), (1, .int (nI k)), (2, .int lane), (3, .int i), (4, .long n)] [.int (ld_b ((i).toInt < 0 ∨ N < 0 ∨ (σ 34 k).toInt < (i).toInt + N))] 65
        refine ld_ifb_eq O (pc := 65) 76 dX3_cellsBarred_65 (by decide) (fun c5 => ?_) (fun c5 => ?_)
        · refine ld_iconst O (pc := 76) (v := nI 0) dX3_cellsBarred_76 (by decide) ?_
          refine ld_ireti E dX3_cellsBarred_77 ?_
          have hf_ : ld_cb (σ 34 k) (σ 35 k) lane i N = nI 0 := by
            unfold ld_cb
            repeat' split
            all_goals first | (exfalso; omega) | rfl
          rw [hf_]
          refine ⟨?_, σ 140, ?_, ?_⟩
          · decide
          · funext b_
            by_cases h0_ : b_ = 140
            · subst h0_; exact (rfl).trans (us_eq _ _ _).symm
            simp only [us, h0_, if_false]
          · exact (if_pos (by decide)).symm
        · refine ld_aload_n O (pc := 68) 0 dX3_cellsBarred_68 rfl rfl ?_
          refine ld_iconst O (pc := 69) (v := nI 3) dX3_cellsBarred_69 (by decide) ?_
          refine ld_callVi O (pc := 70) (As := [.int (nI 3)]) (st := []) ld_recv8 (c_X3_failed l ad σ (nI 3)) ld_mw_X3_failed ld_w140 rfl rfl ⟨by decide, by decide⟩ (Nat.le_of_ble_eq_true rfl) dX3_cellsBarred_70 (fun r_p70 σ_p70 h_p70 => ?_)
          obtain ⟨rfl, hσ_p70⟩ := h_p70
          rw [hσ_p70]
          show K (us σ 140 (fun _ => nI 3)) [(0, .ref (ad 8)), (1, .int (nI k)), (2, .int lane), (3, .int i), (4, .long n)] [.int ((-10 : Int32) - (nI 3))] 73
          refine ld_goto O (pc := 73) 77 dX3_cellsBarred_73 (by decide) ?_
          refine ld_ireti E dX3_cellsBarred_77 ?_
          have hf_ : ld_cb (σ 34 k) (σ 35 k) lane i N = nI 3 := by
            unfold ld_cb
            repeat' split
            all_goals first | (exfalso; omega) | rfl
          rw [hf_]
          refine ⟨?_, fun _ => nI 3, ?_, ?_⟩
          · decide
          · funext b_
            by_cases h0_ : b_ = 140
            · subst h0_; exact (us_eq _ _ _).trans (us_eq _ _ _).symm
            simp only [us, h0_, if_false]
          · exact (if_neg (by decide)).symm
      · have c3 : N < 0 := by omega
        refine ld_aload_n O (pc := 47) 0 dX3_cellsBarred_47 rfl rfl ?_
        refine ld_iconst O (pc := 48) (v := nI 4) dX3_cellsBarred_48 (by decide) ?_
        refine ld_callVi O (pc := 49) (As := [.int (nI 4)]) (st := []) ld_recv8 (c_X3_failed l ad σ (nI 4)) ld_mw_X3_failed ld_w140 rfl rfl ⟨by decide, by decide⟩ (Nat.le_of_ble_eq_true rfl) dX3_cellsBarred_49 (fun r_p49 σ_p49 h_p49 => ?_)
        obtain ⟨rfl, hσ_p49⟩ := h_p49
        rw [hσ_p49]
        show K (us σ 140 (fun _ => nI 4)) [(0, .ref (ad 8)), (1, .int (nI k)), (2, .int lane), (3, .int i), (4, .long n)] [.int ((-10 : Int32) - (nI 4))] 52
        refine ld_ireti E dX3_cellsBarred_52 ?_
        have hf_ : ld_cb (σ 34 k) (σ 35 k) lane i N = nI 4 := by
          unfold ld_cb
          repeat' split
          all_goals first | (exfalso; omega) | rfl
        rw [hf_]
        refine ⟨?_, fun _ => nI 4, ?_, ?_⟩
        · decide
        · funext b_
          by_cases h0_ : b_ = 140
          · subst h0_; exact (us_eq _ _ _).trans (us_eq _ _ _).symm
          simp only [us, h0_, if_false]
        · exact (if_neg (by decide)).symm
    · refine ld_aload_n O (pc := 34) 0 dX3_cellsBarred_34 rfl rfl ?_
      refine ld_iconst O (pc := 35) (v := nI 1) dX3_cellsBarred_35 (by decide) ?_
      refine ld_callVi O (pc := 36) (As := [.int (nI 1)]) (st := []) ld_recv8 (c_X3_failed l ad σ (nI 1)) ld_mw_X3_failed ld_w140 rfl rfl ⟨by decide, by decide⟩ (Nat.le_of_ble_eq_true rfl) dX3_cellsBarred_36 (fun r_p36 σ_p36 h_p36 => ?_)
      obtain ⟨rfl, hσ_p36⟩ := h_p36
      rw [hσ_p36]
      show K (us σ 140 (fun _ => nI 1)) [(0, .ref (ad 8)), (1, .int (nI k)), (2, .int lane), (3, .int i), (4, .long n)] [.int ((-10 : Int32) - (nI 1))] 39
      refine ld_ireti E dX3_cellsBarred_39 ?_
      have hf_ : ld_cb (σ 34 k) (σ 35 k) lane i N = nI 1 := by
        unfold ld_cb
        repeat' split
        all_goals first | (exfalso; omega) | rfl
      rw [hf_]
      refine ⟨?_, fun _ => nI 1, ?_, ?_⟩
      · decide
      · funext b_
        by_cases h0_ : b_ = 140
        · subst h0_; exact (us_eq _ _ _).trans (us_eq _ _ _).symm
        simp only [us, h0_, if_false]
      · exact (if_neg (by decide)).symm
  · refine ld_aload_n O (pc := 9) 0 dX3_cellsBarred_9 rfl rfl ?_
    refine ld_g_M_sheetLane O (pc := 10) ld_w66 dX3_cellsBarred_10 ?_
    refine ld_iload_n O (pc := 13) 1 dX3_cellsBarred_13 rfl rfl ?_
    refine ld_iald O (pc := 14) 35 k (v := σ 35 k) rfl (by decide) (show k < 4 by omega) rfl dX3_cellsBarred_14 ?_
    refine ld_iload_n O (pc := 15) 2 dX3_cellsBarred_15 rfl rfl ?_
    refine ld_icmp_eq O (pc := 16) (σ 35 k).toInt (lane).toInt rfl rfl 25 dX3_cellsBarred_16 (by decide) (fun c6 => ?_) (fun c6 => ?_)
    · refine ld_aload_n O (pc := 25) 0 dX3_cellsBarred_25 rfl rfl ?_
      refine ld_g_M_sheetSize O (pc := 26) ld_w65 dX3_cellsBarred_26 ?_
      refine ld_iload_n O (pc := 29) 1 dX3_cellsBarred_29 rfl rfl ?_
      refine ld_iald O (pc := 30) 34 k (v := σ 34 k) rfl (by decide) (show k < 4 by omega) rfl dX3_cellsBarred_30 ?_
      refine ld_if_ge O (pc := 31) (σ 34 k).toInt rfl 40 dX3_cellsBarred_31 (by decide) (fun c7 => ?_) (fun c7 => ?_)
      · refine ld_lload O (pc := 40) 4 dX3_cellsBarred_40 rfl ?_
        refine ld_lconst O (pc := 42) (v := (0 : Int64)) dX3_cellsBarred_42 (by decide) ?_
        refine ld_lcmp O (pc := 43) dX3_cellsBarred_43 ?_
        have hq9 := ld_cmp_i (x := n) (y := (0 : Int64)) (X := N) (Y := 0) hn (by decide)
        refine ld_if_ge O (pc := 44) _ rfl 53 dX3_cellsBarred_44 (by decide) (fun c8 => ?_) (fun c8 => ?_)
        · have c8 : ¬ N < 0 := by omega
          refine ld_iload_n O (pc := 53) 3 dX3_cellsBarred_53 rfl rfl ?_
          refine ld_lload O (pc := 54) 4 dX3_cellsBarred_54 rfl ?_
          refine ld_aload_n O (pc := 56) 0 dX3_cellsBarred_56 rfl rfl ?_
          refine ld_g_M_sheetSize O (pc := 57) ld_w65 dX3_cellsBarred_57 ?_
          refine ld_iload_n O (pc := 60) 1 dX3_cellsBarred_60 rfl rfl ?_
          refine ld_iald O (pc := 61) 34 k (v := σ 34 k) rfl (by decide) (show k < 4 by omega) rfl dX3_cellsBarred_61 ?_
          refine ld_callSi O (pc := 62) (As := [.int i, .long n, .int (σ 34 k)]) (st := []) (c_X3_isBeyond l ad σ i n N hn (by omega) (σ 34 k)) ld_mw_X3_isBeyond ld_w144 rfl rfl ⟨by decide, by decide⟩ (Nat.le_of_ble_eq_true rfl) dX3_cellsBarred_62 (fun r_p62 σ_p62 h_p62 => ?_)
          obtain ⟨rfl, hσ_p62⟩ := h_p62
          rw [hσ_p62]
          show K σ [(0, .ref (ad 8)), (1, .int (nI k)), (2, .int lane), (3, .int i), (4, .long n)] [.int (ld_b ((i).toInt < 0 ∨ N < 0 ∨ (σ 34 k).toInt < (i).toInt + N))] 65
          refine ld_ifb_eq O (pc := 65) 76 dX3_cellsBarred_65 (by decide) (fun c10 => ?_) (fun c10 => ?_)
          · refine ld_iconst O (pc := 76) (v := nI 0) dX3_cellsBarred_76 (by decide) ?_
            refine ld_ireti E dX3_cellsBarred_77 ?_
            have hf_ : ld_cb (σ 34 k) (σ 35 k) lane i N = nI 0 := by
              unfold ld_cb
              repeat' split
              all_goals first | (exfalso; omega) | rfl
            rw [hf_]
            refine ⟨?_, σ 140, ?_, ?_⟩
            · decide
            · funext b_
              by_cases h0_ : b_ = 140
              · subst h0_; exact (rfl).trans (us_eq _ _ _).symm
              simp only [us, h0_, if_false]
            · exact (if_pos (by decide)).symm
          · refine ld_aload_n O (pc := 68) 0 dX3_cellsBarred_68 rfl rfl ?_
            refine ld_iconst O (pc := 69) (v := nI 3) dX3_cellsBarred_69 (by decide) ?_
            refine ld_callVi O (pc := 70) (As := [.int (nI 3)]) (st := []) ld_recv8 (c_X3_failed l ad σ (nI 3)) ld_mw_X3_failed ld_w140 rfl rfl ⟨by decide, by decide⟩ (Nat.le_of_ble_eq_true rfl) dX3_cellsBarred_70 (fun r_p70 σ_p70 h_p70 => ?_)
            obtain ⟨rfl, hσ_p70⟩ := h_p70
            rw [hσ_p70]
            show K (us σ 140 (fun _ => nI 3)) [(0, .ref (ad 8)), (1, .int (nI k)), (2, .int lane), (3, .int i), (4, .long n)] [.int ((-10 : Int32) - (nI 3))] 73
            refine ld_goto O (pc := 73) 77 dX3_cellsBarred_73 (by decide) ?_
            refine ld_ireti E dX3_cellsBarred_77 ?_
            have hf_ : ld_cb (σ 34 k) (σ 35 k) lane i N = nI 3 := by
              unfold ld_cb
              repeat' split
              all_goals first | (exfalso; omega) | rfl
            rw [hf_]
            refine ⟨?_, fun _ => nI 3, ?_, ?_⟩
            · decide
            · funext b_
              by_cases h0_ : b_ = 140
              · subst h0_; exact (us_eq _ _ _).trans (us_eq _ _ _).symm
              simp only [us, h0_, if_false]
            · exact (if_neg (by decide)).symm
        · have c8 : N < 0 := by omega
          refine ld_aload_n O (pc := 47) 0 dX3_cellsBarred_47 rfl rfl ?_
          refine ld_iconst O (pc := 48) (v := nI 4) dX3_cellsBarred_48 (by decide) ?_
          refine ld_callVi O (pc := 49) (As := [.int (nI 4)]) (st := []) ld_recv8 (c_X3_failed l ad σ (nI 4)) ld_mw_X3_failed ld_w140 rfl rfl ⟨by decide, by decide⟩ (Nat.le_of_ble_eq_true rfl) dX3_cellsBarred_49 (fun r_p49 σ_p49 h_p49 => ?_)
          obtain ⟨rfl, hσ_p49⟩ := h_p49
          rw [hσ_p49]
          show K (us σ 140 (fun _ => nI 4)) [(0, .ref (ad 8)), (1, .int (nI k)), (2, .int lane), (3, .int i), (4, .long n)] [.int ((-10 : Int32) - (nI 4))] 52
          refine ld_ireti E dX3_cellsBarred_52 ?_
          have hf_ : ld_cb (σ 34 k) (σ 35 k) lane i N = nI 4 := by
            unfold ld_cb
            repeat' split
            all_goals first | (exfalso; omega) | rfl
          rw [hf_]
          refine ⟨?_, fun _ => nI 4, ?_, ?_⟩
          · decide
          · funext b_
            by_cases h0_ : b_ = 140
            · subst h0_; exact (us_eq _ _ _).trans (us_eq _ _ _).symm
            simp only [us, h0_, if_false]
          · exact (if_neg (by decide)).symm
      · refine ld_aload_n O (pc := 34) 0 dX3_cellsBarred_34 rfl rfl ?_
        refine ld_iconst O (pc := 35) (v := nI 1) dX3_cellsBarred_35 (by decide) ?_
        refine ld_callVi O (pc := 36) (As := [.int (nI 1)]) (st := []) ld_recv8 (c_X3_failed l ad σ (nI 1)) ld_mw_X3_failed ld_w140 rfl rfl ⟨by decide, by decide⟩ (Nat.le_of_ble_eq_true rfl) dX3_cellsBarred_36 (fun r_p36 σ_p36 h_p36 => ?_)
        obtain ⟨rfl, hσ_p36⟩ := h_p36
        rw [hσ_p36]
        show K (us σ 140 (fun _ => nI 1)) [(0, .ref (ad 8)), (1, .int (nI k)), (2, .int lane), (3, .int i), (4, .long n)] [.int ((-10 : Int32) - (nI 1))] 39
        refine ld_ireti E dX3_cellsBarred_39 ?_
        have hf_ : ld_cb (σ 34 k) (σ 35 k) lane i N = nI 1 := by
          unfold ld_cb
          repeat' split
          all_goals first | (exfalso; omega) | rfl
        rw [hf_]
        refine ⟨?_, fun _ => nI 1, ?_, ?_⟩
        · decide
        · funext b_
          by_cases h0_ : b_ = 140
          · subst h0_; exact (us_eq _ _ _).trans (us_eq _ _ _).symm
          simp only [us, h0_, if_false]
        · exact (if_neg (by decide)).symm
    · refine ld_aload_n O (pc := 19) 0 dX3_cellsBarred_19 rfl rfl ?_
      refine ld_iconst O (pc := 20) (v := nI 2) dX3_cellsBarred_20 (by decide) ?_
      refine ld_callVi O (pc := 21) (As := [.int (nI 2)]) (st := []) ld_recv8 (c_X3_failed l ad σ (nI 2)) ld_mw_X3_failed ld_w140 rfl rfl ⟨by decide, by decide⟩ (Nat.le_of_ble_eq_true rfl) dX3_cellsBarred_21 (fun r_p21 σ_p21 h_p21 => ?_)
      obtain ⟨rfl, hσ_p21⟩ := h_p21
      rw [hσ_p21]
      show K (us σ 140 (fun _ => nI 2)) [(0, .ref (ad 8)), (1, .int (nI k)), (2, .int lane), (3, .int i), (4, .long n)] [.int ((-10 : Int32) - (nI 2))] 24
      refine ld_ireti E dX3_cellsBarred_24 ?_
      have hf_ : ld_cb (σ 34 k) (σ 35 k) lane i N = nI 2 := by
        unfold ld_cb
        repeat' split
        all_goals first | (exfalso; omega) | rfl
      rw [hf_]
      refine ⟨?_, fun _ => nI 2, ?_, ?_⟩
      · decide
      · funext b_
        by_cases h0_ : b_ = 140
        · subst h0_; exact (us_eq _ _ _).trans (us_eq _ _ _).symm
        simp only [us, h0_, if_false]
      · exact (if_neg (by decide)).symm
set_option maxHeartbeats 4000000 in
set_option maxRecDepth 100000 in
theorem c_X3_copy (l : Launch) (ad : Nat → Nat) (σ : ld_St) (hS : ∀ x, x < 4 → -1 ≤ (σ 34 x).toInt ∧ (σ 34 x).toInt ≤ 60) (k i o j n : Int32) : ld_Ctr l yX3_copy cX3_copy 7 (some .int) (2, 45) [.ref (ad 8), .int k, .int i, .int o, .int j, .int n] ad σ (ld_I (fun (r : Int32) (σ2 : ld_St) => r = (ld_fCp (σ 34) (σ 35) k i o j n).1 ∧ ∃ f : Nat → Int32, f 0 = (ld_fCp (σ 34) (σ 35) k i o j n).2 ∧ ((ld_okCp (σ 34) (σ 35) k i o j n ∧ ∃ hd g : Nat → Int32, σ2 = us (us (us σ 37 hd) 36 g) 140 f ∧ (∀ x, x < ld_ix n → g (60 * ld_ix o + ld_ix j + x) = σ 36 (60 * ld_ix k + ld_ix i + x)) ∧ ∀ x, (x < 60 * ld_ix o + ld_ix j ∨ 60 * ld_ix o + ld_ix j + ld_ix n ≤ x) → g x = σ 36 x) ∨ (¬ ld_okCp (σ 34) (σ 35) k i o j n ∧ σ2 = us σ 140 f)))) := by
  refine ld_entry (by decide +kernel) (Nat.le_of_ble_eq_true rfl) (fun K O E => ?_)
  have O : ld_Ok l K ad cX3_copy 7 RX3 (ld_rm (2, 45)) := O
  have hrn_ := fb_rng n
  show K σ [(0, .ref (ad 8)), (1, .int k), (2, .int i), (3, .int o), (4, .int j), (5, .int n)] [] 0
  refine ld_iload_n O (pc := 0) 1 dX3_copy_0 rfl rfl ?_
  refine ld_callSi O (pc := 1) (As := [.int k]) (st := []) (c_X3_noSheet l ad σ k) ld_mw_X3_noSheet ld_w124 rfl rfl ⟨by decide, by decide⟩ (Nat.le_of_ble_eq_true rfl) dX3_copy_1 (fun r_p1 σ_p1 h_p1 => ?_)
  obtain ⟨rfl, hσ_p1⟩ := h_p1
  rw [hσ_p1]
  show K σ [(0, .ref (ad 8)), (1, .int k), (2, .int i), (3, .int o), (4, .int j), (5, .int n)] [.int (ld_b (¬ (0 ≤ (k).toInt ∧ (k).toInt < 4)))] 4
  refine ld_ifb_ne O (pc := 4) 14 dX3_copy_4 (by decide) (fun c1 => ?_) (fun c1 => ?_)
  · refine ld_aload_n O (pc := 14) 0 dX3_copy_14 rfl rfl ?_
    refine ld_iconst O (pc := 15) (v := (-1 : Int32)) dX3_copy_15 (by decide) ?_
    refine ld_callVi O (pc := 16) (As := [.int (-1 : Int32)]) (st := []) ld_recv8 (c_X3_refused l ad σ (-1 : Int32)) ld_mw_X3_refused ld_w131 rfl rfl ⟨by decide, by decide⟩ (Nat.le_of_ble_eq_true rfl) dX3_copy_16 (fun r_p16 σ_p16 h_p16 => ?_)
    obtain ⟨rfl, hσ_p16⟩ := h_p16
    rw [hσ_p16]
    show K (us σ 140 (fun _ => nI 0)) [(0, .ref (ad 8)), (1, .int k), (2, .int i), (3, .int o), (4, .int j), (5, .int n)] [.int (-1 : Int32)] 19
    refine ld_ireti E dX3_copy_19 ?_
    refine ⟨?_, fun _ => nI 0, ?_, Or.inr ⟨?_, ?_⟩⟩
    · unfold ld_fCp
      repeat' split
      all_goals first | (exfalso; omega) | rfl
    · unfold ld_fCp
      repeat' split
      all_goals first | (exfalso; omega) | rfl
    · exact fun z => by have z1 := z.1; have z2 := z.2.1; have z3 := z.2.2.1; have z4 := z.2.2.2.1; have z5 := z.2.2.2.2; omega
    · funext b_
      by_cases h0_ : b_ = 140
      · subst h0_; exact (us_eq _ _ _).trans (us_eq _ _ _).symm
      simp only [us, h0_, if_false]
  · replace c1 := Classical.byContradiction c1
    obtain ⟨ek_k, hk_k, ik_k⟩ := ld_ofIx (k := k) (h := 4) (by omega)
    rw [ek_k]
    refine ld_iload_n O (pc := 7) 3 dX3_copy_7 rfl rfl ?_
    refine ld_callSi O (pc := 8) (As := [.int o]) (st := []) (c_X3_noSheet l ad σ o) ld_mw_X3_noSheet ld_w124 rfl rfl ⟨by decide, by decide⟩ (Nat.le_of_ble_eq_true rfl) dX3_copy_8 (fun r_p8 σ_p8 h_p8 => ?_)
    obtain ⟨rfl, hσ_p8⟩ := h_p8
    rw [hσ_p8]
    show K σ [(0, .ref (ad 8)), (1, .int (nI (ld_ix k))), (2, .int i), (3, .int o), (4, .int j), (5, .int n)] [.int (ld_b (¬ (0 ≤ (o).toInt ∧ (o).toInt < 4)))] 11
    refine ld_ifb_eq O (pc := 11) 20 dX3_copy_11 (by decide) (fun c2 => ?_) (fun c2 => ?_)
    · replace c2 := Classical.byContradiction c2
      obtain ⟨ek_o, hk_o, ik_o⟩ := ld_ofIx (k := o) (h := 4) (by omega)
      rw [ek_o]
      have hs1_ := hS _ hk_k
      have hs2_ := hS _ hk_o
      refine ld_aload_n O (pc := 20) 0 dX3_copy_20 rfl rfl ?_
      refine ld_g_M_sheetSize O (pc := 21) ld_w65 dX3_copy_21 ?_
      refine ld_iload_n O (pc := 24) 1 dX3_copy_24 rfl rfl ?_
      refine ld_iald O (pc := 25) 34 (ld_ix k) (v := σ 34 (ld_ix k)) rfl (by decide) (show ld_ix k < 4 by omega) rfl dX3_copy_25 ?_
      refine ld_if_lt O (pc := 26) (σ 34 (ld_ix k)).toInt rfl 38 dX3_copy_26 (by decide) (fun c3 => ?_) (fun c3 => ?_)
      · refine ld_aload_n O (pc := 38) 0 dX3_copy_38 rfl rfl ?_
        refine ld_iconst O (pc := 39) (v := nI 1) dX3_copy_39 (by decide) ?_
        refine ld_callVi O (pc := 40) (As := [.int (nI 1)]) (st := []) ld_recv8 (c_X3_failed l ad σ (nI 1)) ld_mw_X3_failed ld_w140 rfl rfl ⟨by decide, by decide⟩ (Nat.le_of_ble_eq_true rfl) dX3_copy_40 (fun r_p40 σ_p40 h_p40 => ?_)
        obtain ⟨rfl, hσ_p40⟩ := h_p40
        rw [hσ_p40]
        show K (us σ 140 (fun _ => nI 1)) [(0, .ref (ad 8)), (1, .int (nI (ld_ix k))), (2, .int i), (3, .int (nI (ld_ix o))), (4, .int j), (5, .int n)] [.int ((-10 : Int32) - (nI 1))] 43
        refine ld_ireti E dX3_copy_43 ?_
        refine ⟨?_, fun _ => nI 1, ?_, Or.inr ⟨?_, ?_⟩⟩
        · unfold ld_fCp
          repeat' split
          all_goals first | (exfalso; omega) | rfl
        · unfold ld_fCp
          repeat' split
          all_goals first | (exfalso; omega) | rfl
        · exact fun z => by have z1 := z.1; have z2 := z.2.1; have z3 := z.2.2.1; have z4 := z.2.2.2.1; have z5 := z.2.2.2.2; omega
        · funext b_
          by_cases h0_ : b_ = 140
          · subst h0_; exact (us_eq _ _ _).trans (us_eq _ _ _).symm
          simp only [us, h0_, if_false]
      · refine ld_aload_n O (pc := 29) 0 dX3_copy_29 rfl rfl ?_
        refine ld_g_M_sheetSize O (pc := 30) ld_w65 dX3_copy_30 ?_
        refine ld_iload_n O (pc := 33) 3 dX3_copy_33 rfl rfl ?_
        refine ld_iald O (pc := 34) 34 (ld_ix o) (v := σ 34 (ld_ix o)) rfl (by decide) (show ld_ix o < 4 by omega) rfl dX3_copy_34 ?_
        refine ld_if_ge O (pc := 35) (σ 34 (ld_ix o)).toInt rfl 44 dX3_copy_35 (by decide) (fun c4 => ?_) (fun c4 => ?_)
        · refine ld_aload_n O (pc := 44) 0 dX3_copy_44 rfl rfl ?_
          refine ld_g_M_sheetLane O (pc := 45) ld_w66 dX3_copy_45 ?_
          refine ld_iload_n O (pc := 48) 1 dX3_copy_48 rfl rfl ?_
          refine ld_iald O (pc := 49) 35 (ld_ix k) (v := σ 35 (ld_ix k)) rfl (by decide) (show ld_ix k < 4 by omega) rfl dX3_copy_49 ?_
          refine ld_aload_n O (pc := 50) 0 dX3_copy_50 rfl rfl ?_
          refine ld_g_M_sheetLane O (pc := 51) ld_w66 dX3_copy_51 ?_
          refine ld_iload_n O (pc := 54) 3 dX3_copy_54 rfl rfl ?_
          refine ld_iald O (pc := 55) 35 (ld_ix o) (v := σ 35 (ld_ix o)) rfl (by decide) (show ld_ix o < 4 by omega) rfl dX3_copy_55 ?_
          refine ld_icmp_eq O (pc := 56) (σ 35 (ld_ix k)).toInt (σ 35 (ld_ix o)).toInt rfl rfl 65 dX3_copy_56 (by decide) (fun c5 => ?_) (fun c5 => ?_)
          · refine ld_iload_n O (pc := 65) 2 dX3_copy_65 rfl rfl ?_
            refine ld_iload O (pc := 66) 5 dX3_copy_66 rfl ?_
            have hl6 : (n.toInt64).toInt = (n).toInt := (Int32.toInt_toInt64 _).trans rfl
            refine ld_i2l O (pc := 68) dX3_copy_68 ?_
            refine ld_aload_n O (pc := 69) 0 dX3_copy_69 rfl rfl ?_
            refine ld_g_M_sheetSize O (pc := 70) ld_w65 dX3_copy_70 ?_
            refine ld_iload_n O (pc := 73) 1 dX3_copy_73 rfl rfl ?_
            refine ld_iald O (pc := 74) 34 (ld_ix k) (v := σ 34 (ld_ix k)) rfl (by decide) (show ld_ix k < 4 by omega) rfl dX3_copy_74 ?_
            refine ld_callSi O (pc := 75) (As := [.int i, .long n.toInt64, .int (σ 34 (ld_ix k))]) (st := []) (c_X3_isBeyond l ad σ i n.toInt64 ((n).toInt) hl6 (by omega) (σ 34 (ld_ix k))) ld_mw_X3_isBeyond ld_w144 rfl rfl ⟨by decide, by decide⟩ (Nat.le_of_ble_eq_true rfl) dX3_copy_75 (fun r_p75 σ_p75 h_p75 => ?_)
            obtain ⟨rfl, hσ_p75⟩ := h_p75
            rw [hσ_p75]
            show K σ [(0, .ref (ad 8)), (1, .int (nI (ld_ix k))), (2, .int i), (3, .int (nI (ld_ix o))), (4, .int j), (5, .int n)] [.int (ld_b ((i).toInt < 0 ∨ (n).toInt < 0 ∨ (σ 34 (ld_ix k)).toInt < (i).toInt + (n).toInt))] 78
            refine ld_ifb_ne O (pc := 78) 98 dX3_copy_78 (by decide) (fun c7 => ?_) (fun c7 => ?_)
            · refine ld_aload_n O (pc := 98) 0 dX3_copy_98 rfl rfl ?_
              refine ld_iconst O (pc := 99) (v := nI 3) dX3_copy_99 (by decide) ?_
              refine ld_callVi O (pc := 100) (As := [.int (nI 3)]) (st := []) ld_recv8 (c_X3_failed l ad σ (nI 3)) ld_mw_X3_failed ld_w140 rfl rfl ⟨by decide, by decide⟩ (Nat.le_of_ble_eq_true rfl) dX3_copy_100 (fun r_p100 σ_p100 h_p100 => ?_)
              obtain ⟨rfl, hσ_p100⟩ := h_p100
              rw [hσ_p100]
              show K (us σ 140 (fun _ => nI 3)) [(0, .ref (ad 8)), (1, .int (nI (ld_ix k))), (2, .int i), (3, .int (nI (ld_ix o))), (4, .int j), (5, .int n)] [.int ((-10 : Int32) - (nI 3))] 103
              refine ld_ireti E dX3_copy_103 ?_
              refine ⟨?_, fun _ => nI 3, ?_, Or.inr ⟨?_, ?_⟩⟩
              · unfold ld_fCp
                repeat' split
                all_goals first | (exfalso; omega) | rfl
              · unfold ld_fCp
                repeat' split
                all_goals first | (exfalso; omega) | rfl
              · exact fun z => by have z1 := z.1; have z2 := z.2.1; have z3 := z.2.2.1; have z4 := z.2.2.2.1; have z5 := z.2.2.2.2; omega
              · funext b_
                by_cases h0_ : b_ = 140
                · subst h0_; exact (us_eq _ _ _).trans (us_eq _ _ _).symm
                simp only [us, h0_, if_false]
            · refine ld_iload O (pc := 81) 4 dX3_copy_81 rfl ?_
              refine ld_iload O (pc := 83) 5 dX3_copy_83 rfl ?_
              have hl8 : (n.toInt64).toInt = (n).toInt := (Int32.toInt_toInt64 _).trans rfl
              refine ld_i2l O (pc := 85) dX3_copy_85 ?_
              refine ld_aload_n O (pc := 86) 0 dX3_copy_86 rfl rfl ?_
              refine ld_g_M_sheetSize O (pc := 87) ld_w65 dX3_copy_87 ?_
              refine ld_iload_n O (pc := 90) 3 dX3_copy_90 rfl rfl ?_
              refine ld_iald O (pc := 91) 34 (ld_ix o) (v := σ 34 (ld_ix o)) rfl (by decide) (show ld_ix o < 4 by omega) rfl dX3_copy_91 ?_
              refine ld_callSi O (pc := 92) (As := [.int j, .long n.toInt64, .int (σ 34 (ld_ix o))]) (st := []) (c_X3_isBeyond l ad σ j n.toInt64 ((n).toInt) hl8 (by omega) (σ 34 (ld_ix o))) ld_mw_X3_isBeyond ld_w144 rfl rfl ⟨by decide, by decide⟩ (Nat.le_of_ble_eq_true rfl) dX3_copy_92 (fun r_p92 σ_p92 h_p92 => ?_)
              obtain ⟨rfl, hσ_p92⟩ := h_p92
              rw [hσ_p92]
              show K σ [(0, .ref (ad 8)), (1, .int (nI (ld_ix k))), (2, .int i), (3, .int (nI (ld_ix o))), (4, .int j), (5, .int n)] [.int (ld_b ((j).toInt < 0 ∨ (n).toInt < 0 ∨ (σ 34 (ld_ix o)).toInt < (j).toInt + (n).toInt))] 95
              refine ld_ifb_eq O (pc := 95) 104 dX3_copy_95 (by decide) (fun c9 => ?_) (fun c9 => ?_)
              · obtain ⟨ek_i, hk_i, ik_i⟩ := ld_ofIx (k := i) (h := 61) (by omega)
                rw [ek_i]
                obtain ⟨ek_j, hk_j, ik_j⟩ := ld_ofIx (k := j) (h := 61) (by omega)
                rw [ek_j]
                obtain ⟨ek_n, hk_n, ik_n⟩ := ld_ofIx (k := n) (h := 61) (by omega)
                rw [ek_n]
                refine ld_iconst O (pc := 104) (v := nI 0) dX3_copy_104 (by decide) ?_
                refine ld_istore O (pc := 105) [(6, .int (nI 0)), (0, .ref (ad 8)), (1, .int (nI (ld_ix k))), (2, .int (nI (ld_ix i))), (3, .int (nI (ld_ix o))), (4, .int (nI (ld_ix j))), (5, .int (nI (ld_ix n)))] dX3_copy_105 (by decide) rfl ?_
                have L107 : ∀ (m_107 : Nat) (m : Nat) (hd : Nat → Int32), ld_ix n - m < m_107 → (m ≤ ld_ix n) → (∀ x, x < m → hd x = σ 36 (60 * ld_ix k + ld_ix i + x)) → K (us σ 37 hd) [(0, .ref (ad 8)), (1, .int (nI (ld_ix k))), (2, .int (nI (ld_ix i))), (3, .int (nI (ld_ix o))), (4, .int (nI (ld_ix j))), (5, .int (nI (ld_ix n))), (6, .int (nI m))] [] 107 := by
                  intro m_107
                  induction m_107 with
                  | zero => intro m hd hm_; exact absurd hm_ (Nat.not_lt_zero _)
                  | succ m_107 ih107 =>
                    intro m hd hm_107 hm hh_
                    refine ld_iload O (pc := 107) 6 dX3_copy_107 rfl ?_
                    refine ld_iload O (pc := 109) 5 dX3_copy_109 rfl ?_
                    refine ld_icmp_ge O (pc := 111) ((m : Nat) : Int) ((ld_ix n : Nat) : Int) (nI_toInt (by omega)) (nI_toInt (by omega)) 141 dX3_copy_111 (by decide) (fun c10 => ?_) (fun c10 => ?_)
                    · rw [show m = ld_ix n by omega] at hh_
                      refine ld_iconst O (pc := 141) (v := nI 0) dX3_copy_141 (by decide) ?_
                      refine ld_istore O (pc := 142) [(6, .int (nI 0)), (0, .ref (ad 8)), (1, .int (nI (ld_ix k))), (2, .int (nI (ld_ix i))), (3, .int (nI (ld_ix o))), (4, .int (nI (ld_ix j))), (5, .int (nI (ld_ix n)))] dX3_copy_142 (by decide) rfl ?_
                      have L144 : ∀ (m_144 : Nat) (m2 : Nat) (g : Nat → Int32), ld_ix n - m2 < m_144 → (m2 ≤ ld_ix n) → (∀ x, x < m2 → g (60 * ld_ix o + ld_ix j + x) = σ 36 (60 * ld_ix k + ld_ix i + x)) → (∀ x, (x < 60 * ld_ix o + ld_ix j ∨ 60 * ld_ix o + ld_ix j + ld_ix n ≤ x) → g x = σ 36 x) → K (us (us σ 37 hd) 36 g) [(0, .ref (ad 8)), (1, .int (nI (ld_ix k))), (2, .int (nI (ld_ix i))), (3, .int (nI (ld_ix o))), (4, .int (nI (ld_ix j))), (5, .int (nI (ld_ix n))), (6, .int (nI m2))] [] 144 := by
                        intro m_144
                        induction m_144 with
                        | zero => intro m2 g hm_; exact absurd hm_ (Nat.not_lt_zero _)
                        | succ m_144 ih144 =>
                          intro m2 g hm_144 hm2 hgA hgB
                          refine ld_iload O (pc := 144) 6 dX3_copy_144 rfl ?_
                          refine ld_iload O (pc := 146) 5 dX3_copy_146 rfl ?_
                          refine ld_icmp_ge O (pc := 148) ((m2 : Nat) : Int) ((ld_ix n : Nat) : Int) (nI_toInt (by omega)) (nI_toInt (by omega)) 179 dX3_copy_148 (by decide) (fun c11 => ?_) (fun c11 => ?_)
                          · refine ld_aload_n O (pc := 179) 0 dX3_copy_179 rfl rfl ?_
                            refine ld_iload O (pc := 180) 5 dX3_copy_180 rfl ?_
                            refine ld_callVi O (pc := 182) (As := [.int (nI (ld_ix n))]) (st := []) ld_recv8 (c_X3_refused l ad (us (us σ 37 hd) 36 g) (nI (ld_ix n))) ld_mw_X3_refused ld_w131 rfl rfl ⟨by decide, by decide⟩ (Nat.le_of_ble_eq_true rfl) dX3_copy_182 (fun r_p182 σ_p182 h_p182 => ?_)
                            obtain ⟨rfl, hσ_p182⟩ := h_p182
                            rw [hσ_p182]
                            show K (us (us (us σ 37 hd) 36 g) 140 (fun _ => nI 0)) [(0, .ref (ad 8)), (1, .int (nI (ld_ix k))), (2, .int (nI (ld_ix i))), (3, .int (nI (ld_ix o))), (4, .int (nI (ld_ix j))), (5, .int (nI (ld_ix n))), (6, .int (nI m2))] [.int (nI (ld_ix n))] 185
                            refine ld_ireti E dX3_copy_185 ?_
                            rw [show m2 = ld_ix n by omega] at hgA
                            refine ⟨?_, fun _ => nI 0, ?_, Or.inl ⟨⟨by omega, by omega, by omega, by omega, by omega⟩, hd, g, ?_, hgA, hgB⟩⟩
                            · rw [← ek_n]
                              unfold ld_fCp
                              repeat' split
                              all_goals first | (exfalso; omega) | rfl
                            · unfold ld_fCp
                              repeat' split
                              all_goals first | (exfalso; omega) | rfl
                            · funext b_
                              by_cases h0_ : b_ = 37
                              · subst h0_; exact ((us_ne _ _ (by decide)).trans ((us_ne _ _ (by decide)).trans (us_eq _ _ _))).trans ((us_ne _ _ (by decide)).trans ((us_ne _ _ (by decide)).trans (us_eq _ _ _))).symm
                              by_cases h1_ : b_ = 36
                              · subst h1_; exact ((us_ne _ _ (by decide)).trans (us_eq _ _ _)).trans ((us_ne _ _ (by decide)).trans (us_eq _ _ _)).symm
                              by_cases h2_ : b_ = 140
                              · subst h2_; exact (us_eq _ _ _).trans (us_eq _ _ _).symm
                              simp only [us, h0_, h1_, h2_, if_false]
                          · refine ld_aload_n O (pc := 151) 0 dX3_copy_151 rfl rfl ?_
                            refine ld_g_M_sheet O (pc := 152) ld_w67 dX3_copy_152 ?_
                            refine ld_bipush O (pc := 155) (v := nI 60) dX3_copy_155 (by decide) ?_
                            refine ld_iload_n O (pc := 157) 3 dX3_copy_157 rfl rfl ?_
                            refine ld_imulN O (pc := 158) dX3_copy_158 ?_
                            refine ld_iload O (pc := 159) 4 dX3_copy_159 rfl ?_
                            refine ld_iaddN O (pc := 161) dX3_copy_161 ?_
                            refine ld_iload O (pc := 162) 6 dX3_copy_162 rfl ?_
                            refine ld_iaddN O (pc := 164) dX3_copy_164 ?_
                            refine ld_aload_n O (pc := 165) 0 dX3_copy_165 rfl rfl ?_
                            refine ld_g_M_hands O (pc := 166) ld_w68 dX3_copy_166 ?_
                            refine ld_iload O (pc := 169) 6 dX3_copy_169 rfl ?_
                            refine ld_iald O (pc := 171) 37 m2 (v := hd m2) rfl (by decide) (show m2 < 60 by omega) rfl dX3_copy_171 ?_
                            refine ld_iast O (pc := 172) 36 (((60 * (ld_ix o)) + (ld_ix j)) + m2) rfl (by decide) (show ((60 * (ld_ix o)) + (ld_ix j)) + m2 < 240 by omega) dX3_copy_172 ?_
                            refine ld_iincN O (pc := 173) [(6, .int (nI (m2 + 1))), (0, .ref (ad 8)), (1, .int (nI (ld_ix k))), (2, .int (nI (ld_ix i))), (3, .int (nI (ld_ix o))), (4, .int (nI (ld_ix j))), (5, .int (nI (ld_ix n)))] 6 dX3_copy_173 rfl (by decide) rfl ?_
                            refine ld_goto O (pc := 176) 144 dX3_copy_176 (by decide) ?_
                            refine ld_less O [1, 2, 3, 4, 5, 6, 0] (lv2 := [(0, .ref (ad 8)), (1, .int (nI (ld_ix k))), (2, .int (nI (ld_ix i))), (3, .int (nI (ld_ix o))), (4, .int (nI (ld_ix j))), (5, .int (nI (ld_ix n))), (6, .int (nI (m2 + 1)))]) rfl ?_
                            have hs12 : us (us (us σ 37 hd) 36 g) 36 (upd (g) (((60 * (ld_ix o)) + (ld_ix j)) + m2) (hd m2)) = us (us σ 37 hd) 36 (upd (g) (((60 * (ld_ix o)) + (ld_ix j)) + m2) (hd m2)) := by
                              funext b_
                              by_cases h0_ : b_ = 37
                              · subst h0_; exact ((us_ne _ _ (by decide)).trans ((us_ne _ _ (by decide)).trans (us_eq _ _ _))).trans ((us_ne _ _ (by decide)).trans (us_eq _ _ _)).symm
                              by_cases h1_ : b_ = 36
                              · subst h1_; exact (us_eq _ _ _).trans (us_eq _ _ _).symm
                              simp only [us, h0_, h1_, if_false]
                            refine ld_cv hs12 ?_
                            exact ih144 (m2 + 1) (upd (g) (((60 * (ld_ix o)) + (ld_ix j)) + m2) (hd m2)) (by omega) (by omega) (fun x hx => by by_cases e : x = m2; (rw [e]; exact pk_us.trans (hh_ m2 (by omega))); exact (pk_un (by omega)).trans (hgA x (by omega))) (fun x hx => (pk_un (by omega)).trans (hgB x hx))
                      refine ld_less O [1, 2, 3, 4, 5, 6, 0] (lv2 := [(0, .ref (ad 8)), (1, .int (nI (ld_ix k))), (2, .int (nI (ld_ix i))), (3, .int (nI (ld_ix o))), (4, .int (nI (ld_ix j))), (5, .int (nI (ld_ix n))), (6, .int (nI 0))]) rfl ?_
                      have hs13 : us σ 37 hd = us (us σ 37 hd) 36 (σ 36) := by
                        funext b_
                        by_cases h0_ : b_ = 37
                        · subst h0_; exact (us_eq _ _ _).trans ((us_ne _ _ (by decide)).trans (us_eq _ _ _)).symm
                        by_cases h1_ : b_ = 36
                        · subst h1_; exact (us_ne _ _ (by decide)).trans (us_eq _ _ _).symm
                        simp only [us, h0_, h1_, if_false]
                      refine ld_cv hs13 ?_
                      exact L144 _ 0 (σ 36) (Nat.lt_succ_self _) (Nat.zero_le _) (fun x hx => absurd hx (Nat.not_lt_zero x)) (fun _ _ => rfl)
                    · refine ld_aload_n O (pc := 114) 0 dX3_copy_114 rfl rfl ?_
                      refine ld_g_M_hands O (pc := 115) ld_w68 dX3_copy_115 ?_
                      refine ld_iload O (pc := 118) 6 dX3_copy_118 rfl ?_
                      refine ld_aload_n O (pc := 120) 0 dX3_copy_120 rfl rfl ?_
                      refine ld_g_M_sheet O (pc := 121) ld_w67 dX3_copy_121 ?_
                      refine ld_bipush O (pc := 124) (v := nI 60) dX3_copy_124 (by decide) ?_
                      refine ld_iload_n O (pc := 126) 1 dX3_copy_126 rfl rfl ?_
                      refine ld_imulN O (pc := 127) dX3_copy_127 ?_
                      refine ld_iload_n O (pc := 128) 2 dX3_copy_128 rfl rfl ?_
                      refine ld_iaddN O (pc := 129) dX3_copy_129 ?_
                      refine ld_iload O (pc := 130) 6 dX3_copy_130 rfl ?_
                      refine ld_iaddN O (pc := 132) dX3_copy_132 ?_
                      refine ld_iald O (pc := 133) 36 (((60 * (ld_ix k)) + (ld_ix i)) + m) (v := σ 36 (((60 * (ld_ix k)) + (ld_ix i)) + m)) rfl (by decide) (show ((60 * (ld_ix k)) + (ld_ix i)) + m < 240 by omega) rfl dX3_copy_133 ?_
                      refine ld_iast O (pc := 134) 37 m rfl (by decide) (show m < 60 by omega) dX3_copy_134 ?_
                      refine ld_iincN O (pc := 135) [(6, .int (nI (m + 1))), (0, .ref (ad 8)), (1, .int (nI (ld_ix k))), (2, .int (nI (ld_ix i))), (3, .int (nI (ld_ix o))), (4, .int (nI (ld_ix j))), (5, .int (nI (ld_ix n)))] 6 dX3_copy_135 rfl (by decide) rfl ?_
                      refine ld_goto O (pc := 138) 107 dX3_copy_138 (by decide) ?_
                      refine ld_less O [1, 2, 3, 4, 5, 6, 0] (lv2 := [(0, .ref (ad 8)), (1, .int (nI (ld_ix k))), (2, .int (nI (ld_ix i))), (3, .int (nI (ld_ix o))), (4, .int (nI (ld_ix j))), (5, .int (nI (ld_ix n))), (6, .int (nI (m + 1)))]) rfl ?_
                      have hs14 : us (us σ 37 hd) 37 (upd (hd) m (σ 36 (((60 * (ld_ix k)) + (ld_ix i)) + m))) = us σ 37 (upd (hd) m (σ 36 (((60 * (ld_ix k)) + (ld_ix i)) + m))) := by
                        funext b_
                        by_cases h0_ : b_ = 37
                        · subst h0_; exact (us_eq _ _ _).trans (us_eq _ _ _).symm
                        simp only [us, h0_, if_false]
                      refine ld_cv hs14 ?_
                      exact ih107 (m + 1) (upd (hd) m (σ 36 (((60 * (ld_ix k)) + (ld_ix i)) + m))) (by omega) (by omega) (ld_ext (g := fun x => σ 36 (60 * ld_ix k + ld_ix i + x)) hh_ rfl)
                refine ld_less O [1, 2, 3, 4, 5, 6, 0] (lv2 := [(0, .ref (ad 8)), (1, .int (nI (ld_ix k))), (2, .int (nI (ld_ix i))), (3, .int (nI (ld_ix o))), (4, .int (nI (ld_ix j))), (5, .int (nI (ld_ix n))), (6, .int (nI 0))]) rfl ?_
                have hs15 : σ = us σ 37 (σ 37) := by
                  funext b_
                  by_cases h0_ : b_ = 37
                  · subst h0_; exact (rfl).trans (us_eq _ _ _).symm
                  simp only [us, h0_, if_false]
                refine ld_cv hs15 ?_
                exact L107 _ 0 (σ 37) (Nat.lt_succ_self _) (Nat.zero_le _) (fun x hx => absurd hx (Nat.not_lt_zero x))
              · refine ld_aload_n O (pc := 98) 0 dX3_copy_98 rfl rfl ?_
                refine ld_iconst O (pc := 99) (v := nI 3) dX3_copy_99 (by decide) ?_
                refine ld_callVi O (pc := 100) (As := [.int (nI 3)]) (st := []) ld_recv8 (c_X3_failed l ad σ (nI 3)) ld_mw_X3_failed ld_w140 rfl rfl ⟨by decide, by decide⟩ (Nat.le_of_ble_eq_true rfl) dX3_copy_100 (fun r_p100 σ_p100 h_p100 => ?_)
                obtain ⟨rfl, hσ_p100⟩ := h_p100
                rw [hσ_p100]
                show K (us σ 140 (fun _ => nI 3)) [(0, .ref (ad 8)), (1, .int (nI (ld_ix k))), (2, .int i), (3, .int (nI (ld_ix o))), (4, .int j), (5, .int n)] [.int ((-10 : Int32) - (nI 3))] 103
                refine ld_ireti E dX3_copy_103 ?_
                refine ⟨?_, fun _ => nI 3, ?_, Or.inr ⟨?_, ?_⟩⟩
                · unfold ld_fCp
                  repeat' split
                  all_goals first | (exfalso; omega) | rfl
                · unfold ld_fCp
                  repeat' split
                  all_goals first | (exfalso; omega) | rfl
                · exact fun z => by have z1 := z.1; have z2 := z.2.1; have z3 := z.2.2.1; have z4 := z.2.2.2.1; have z5 := z.2.2.2.2; omega
                · funext b_
                  by_cases h0_ : b_ = 140
                  · subst h0_; exact (us_eq _ _ _).trans (us_eq _ _ _).symm
                  simp only [us, h0_, if_false]
          · refine ld_aload_n O (pc := 59) 0 dX3_copy_59 rfl rfl ?_
            refine ld_iconst O (pc := 60) (v := nI 2) dX3_copy_60 (by decide) ?_
            refine ld_callVi O (pc := 61) (As := [.int (nI 2)]) (st := []) ld_recv8 (c_X3_failed l ad σ (nI 2)) ld_mw_X3_failed ld_w140 rfl rfl ⟨by decide, by decide⟩ (Nat.le_of_ble_eq_true rfl) dX3_copy_61 (fun r_p61 σ_p61 h_p61 => ?_)
            obtain ⟨rfl, hσ_p61⟩ := h_p61
            rw [hσ_p61]
            show K (us σ 140 (fun _ => nI 2)) [(0, .ref (ad 8)), (1, .int (nI (ld_ix k))), (2, .int i), (3, .int (nI (ld_ix o))), (4, .int j), (5, .int n)] [.int ((-10 : Int32) - (nI 2))] 64
            refine ld_ireti E dX3_copy_64 ?_
            refine ⟨?_, fun _ => nI 2, ?_, Or.inr ⟨?_, ?_⟩⟩
            · unfold ld_fCp
              repeat' split
              all_goals first | (exfalso; omega) | rfl
            · unfold ld_fCp
              repeat' split
              all_goals first | (exfalso; omega) | rfl
            · exact fun z => by have z1 := z.1; have z2 := z.2.1; have z3 := z.2.2.1; have z4 := z.2.2.2.1; have z5 := z.2.2.2.2; omega
            · funext b_
              by_cases h0_ : b_ = 140
              · subst h0_; exact (us_eq _ _ _).trans (us_eq _ _ _).symm
              simp only [us, h0_, if_false]
        · refine ld_aload_n O (pc := 38) 0 dX3_copy_38 rfl rfl ?_
          refine ld_iconst O (pc := 39) (v := nI 1) dX3_copy_39 (by decide) ?_
          refine ld_callVi O (pc := 40) (As := [.int (nI 1)]) (st := []) ld_recv8 (c_X3_failed l ad σ (nI 1)) ld_mw_X3_failed ld_w140 rfl rfl ⟨by decide, by decide⟩ (Nat.le_of_ble_eq_true rfl) dX3_copy_40 (fun r_p40 σ_p40 h_p40 => ?_)
          obtain ⟨rfl, hσ_p40⟩ := h_p40
          rw [hσ_p40]
          show K (us σ 140 (fun _ => nI 1)) [(0, .ref (ad 8)), (1, .int (nI (ld_ix k))), (2, .int i), (3, .int (nI (ld_ix o))), (4, .int j), (5, .int n)] [.int ((-10 : Int32) - (nI 1))] 43
          refine ld_ireti E dX3_copy_43 ?_
          refine ⟨?_, fun _ => nI 1, ?_, Or.inr ⟨?_, ?_⟩⟩
          · unfold ld_fCp
            repeat' split
            all_goals first | (exfalso; omega) | rfl
          · unfold ld_fCp
            repeat' split
            all_goals first | (exfalso; omega) | rfl
          · exact fun z => by have z1 := z.1; have z2 := z.2.1; have z3 := z.2.2.1; have z4 := z.2.2.2.1; have z5 := z.2.2.2.2; omega
          · funext b_
            by_cases h0_ : b_ = 140
            · subst h0_; exact (us_eq _ _ _).trans (us_eq _ _ _).symm
            simp only [us, h0_, if_false]
    · refine ld_aload_n O (pc := 14) 0 dX3_copy_14 rfl rfl ?_
      refine ld_iconst O (pc := 15) (v := (-1 : Int32)) dX3_copy_15 (by decide) ?_
      refine ld_callVi O (pc := 16) (As := [.int (-1 : Int32)]) (st := []) ld_recv8 (c_X3_refused l ad σ (-1 : Int32)) ld_mw_X3_refused ld_w131 rfl rfl ⟨by decide, by decide⟩ (Nat.le_of_ble_eq_true rfl) dX3_copy_16 (fun r_p16 σ_p16 h_p16 => ?_)
      obtain ⟨rfl, hσ_p16⟩ := h_p16
      rw [hσ_p16]
      show K (us σ 140 (fun _ => nI 0)) [(0, .ref (ad 8)), (1, .int (nI (ld_ix k))), (2, .int i), (3, .int o), (4, .int j), (5, .int n)] [.int (-1 : Int32)] 19
      refine ld_ireti E dX3_copy_19 ?_
      refine ⟨?_, fun _ => nI 0, ?_, Or.inr ⟨?_, ?_⟩⟩
      · unfold ld_fCp
        repeat' split
        all_goals first | (exfalso; omega) | rfl
      · unfold ld_fCp
        repeat' split
        all_goals first | (exfalso; omega) | rfl
      · exact fun z => by have z1 := z.1; have z2 := z.2.1; have z3 := z.2.2.1; have z4 := z.2.2.2.1; have z5 := z.2.2.2.2; omega
      · funext b_
        by_cases h0_ : b_ = 140
        · subst h0_; exact (us_eq _ _ _).trans (us_eq _ _ _).symm
        simp only [us, h0_, if_false]
