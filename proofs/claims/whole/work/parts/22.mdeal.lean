set_option maxHeartbeats 4000000 in
set_option maxRecDepth 100000 in
theorem c_X3_in (l : Launch) (ad : Nat → Nat) (σ : ld_St) (v l_ h_ : Int64) (V L H : Int) (hv : v.toInt = V) (hl_ : l_.toInt = L) (hh_ : h_.toInt = H) : ld_Ctr l yX3_in cX3_in 6 (some .boolean) (0, 0) [.long v, .long l_, .long h_] ad σ (ld_I (fun (r : Int32) (σ2 : ld_St) => r = ld_b (L ≤ V ∧ V ≤ H) ∧ σ2 = σ)) := by
  refine ld_entry (by decide +kernel) (Nat.le_of_ble_eq_true rfl) (fun K O E => ?_)
  have O : ld_Ok l K ad cX3_in 6 RX3 (ld_rm (0, 0)) := O
  show K σ [(0, .long v), (2, .long l_), (4, .long h_)] [] 0
  refine ld_lload_n O (pc := 0) 0 dX3_in_0 rfl rfl ?_
  refine ld_lload_n O (pc := 1) 1 dX3_in_1 rfl rfl ?_
  refine ld_lcmp O (pc := 2) dX3_in_2 ?_
  have hq2 := ld_cmp_i hv hl_
  refine ld_if_lt O (pc := 3) _ rfl 17 dX3_in_3 (by decide) (fun c1 => ?_) (fun c1 => ?_)
  · have c1 : V < L := by omega
    refine ld_iconst O (pc := 17) (v := nI 0) dX3_in_17 (by decide) ?_
    refine ld_iretz E (Or.inl rfl) dX3_in_18 ?_
    exact ⟨(ld_b_f (by omega)).symm, rfl⟩
  · have c1 : ¬ V < L := by omega
    refine ld_lload_n O (pc := 6) 0 dX3_in_6 rfl rfl ?_
    refine ld_lload O (pc := 7) 2 dX3_in_7 rfl ?_
    refine ld_lcmp O (pc := 9) dX3_in_9 ?_
    have hq4 := ld_cmp_i hv hh_
    refine ld_if_gt O (pc := 10) _ rfl 17 dX3_in_10 (by decide) (fun c3 => ?_) (fun c3 => ?_)
    · have c3 : H < V := by omega
      refine ld_iconst O (pc := 17) (v := nI 0) dX3_in_17 (by decide) ?_
      refine ld_iretz E (Or.inl rfl) dX3_in_18 ?_
      exact ⟨(ld_b_f (by omega)).symm, rfl⟩
    · have c3 : ¬ H < V := by omega
      refine ld_iconst O (pc := 13) (v := nI 1) dX3_in_13 (by decide) ?_
      refine ld_goto O (pc := 14) 18 dX3_in_14 (by decide) ?_
      refine ld_iretz E (Or.inr rfl) dX3_in_18 ?_
      exact ⟨(ld_b_t (by omega)).symm, rfl⟩
set_option maxHeartbeats 4000000 in
set_option maxRecDepth 100000 in
theorem c_X3_lost (l : Launch) (ad : Nat → Nat) (σ : ld_St)  : ld_Ctr l yX3_lost cX3_lost 0 (some .long) (0, 0) [] ad σ (ld_L (fun (r : Int64) (σ2 : ld_St) => r = (-9223372036854775808 : Int64) ∧ σ2 = σ)) := by
  refine ld_entry (by decide +kernel) (Nat.le_of_ble_eq_true rfl) (fun K O E => ?_)
  have O : ld_Ok l K ad cX3_lost 0 RX3 (ld_rm (0, 0)) := O
  show K σ [] [] 0
  refine ld_ldc2 O (pc := 0) (v := (-9223372036854775808 : Int64)) dX3_lost_0 ld_w501 ?_
  refine ld_lret E dX3_lost_3 ?_
  exact ⟨rfl, rfl⟩
set_option maxHeartbeats 4000000 in
set_option maxRecDepth 100000 in
theorem c_X3_isIn (l : Launch) (ad : Nat → Nat) (σ : ld_St) (set : Int32) (k : Nat) : ld_Ctr l yX3_isIn cX3_isIn 2 (some .boolean) (0, 0) [.int set, .int (nI k)] ad σ (ld_I (fun (r : Int32) (σ2 : ld_St) => r = ld_b (((set >>> (nI k &&& 31)) &&& nI 1).toInt = 1) ∧ σ2 = σ)) := by
  refine ld_entry (by decide +kernel) (Nat.le_of_ble_eq_true rfl) (fun K O E => ?_)
  have O : ld_Ok l K ad cX3_isIn 2 RX3 (ld_rm (0, 0)) := O
  show K σ [(0, .int set), (1, .int (nI k))] [] 0
  refine ld_iload_n O (pc := 0) 0 dX3_isIn_0 rfl rfl ?_
  refine ld_iload_n O (pc := 1) 1 dX3_isIn_1 rfl rfl ?_
  refine ld_ishr O (pc := 2) dX3_isIn_2 ?_
  refine ld_iconst O (pc := 3) (v := nI 1) dX3_isIn_3 (by decide) ?_
  refine ld_iand O (pc := 4) dX3_isIn_4 ?_
  refine ld_iconst O (pc := 5) (v := nI 1) dX3_isIn_5 (by decide) ?_
  refine ld_icmp_ne O (pc := 6) ((set >>> ((nI k) &&& 31)) &&& (nI 1)).toInt 1 rfl (by decide) 13 dX3_isIn_6 (by decide) (fun c1 => ?_) (fun c1 => ?_)
  · refine ld_iconst O (pc := 13) (v := nI 0) dX3_isIn_13 (by decide) ?_
    refine ld_iretz E (Or.inl rfl) dX3_isIn_14 ?_
    exact ⟨(ld_b_f (by omega)).symm, rfl⟩
  · refine ld_iconst O (pc := 9) (v := nI 1) dX3_isIn_9 (by decide) ?_
    refine ld_goto O (pc := 10) 14 dX3_isIn_10 (by decide) ?_
    refine ld_iretz E (Or.inr rfl) dX3_isIn_14 ?_
    exact ⟨(ld_b_t (by omega)).symm, rfl⟩
set_option maxHeartbeats 4000000 in
set_option maxRecDepth 100000 in
theorem c_X3_refused (l : Launch) (ad : Nat → Nat) (σ : ld_St) (c : Int32) : ld_Ctr l yX3_refused cX3_refused 2 (some .int) (0, 0) [.ref (ad 8), .int c] ad σ (ld_I (fun (r : Int32) (σ2 : ld_St) => r = c ∧ σ2 = us σ 140 (fun _ => nI 0))) := by
  refine ld_entry (by decide +kernel) (Nat.le_of_ble_eq_true rfl) (fun K O E => ?_)
  have O : ld_Ok l K ad cX3_refused 2 RX3 (ld_rm (0, 0)) := O
  show K σ [(0, .ref (ad 8)), (1, .int c)] [] 0
  refine ld_aload_n O (pc := 0) 0 dX3_refused_0 rfl rfl ?_
  refine ld_iconst O (pc := 1) (v := nI 0) dX3_refused_1 (by decide) ?_
  refine ld_p_M_fault O (pc := 2) ld_w135 dX3_refused_2 ?_
  refine ld_iload_n O (pc := 5) 1 dX3_refused_5 rfl rfl ?_
  refine ld_ireti E dX3_refused_6 ?_
  exact ⟨rfl, rfl⟩
set_option maxHeartbeats 4000000 in
set_option maxRecDepth 100000 in
theorem c_X3_failed (l : Launch) (ad : Nat → Nat) (σ : ld_St) (f : Int32) : ld_Ctr l yX3_failed cX3_failed 2 (some .int) (0, 0) [.ref (ad 8), .int f] ad σ (ld_I (fun (r : Int32) (σ2 : ld_St) => r = (-10 : Int32) - f ∧ σ2 = us σ 140 (fun _ => f))) := by
  refine ld_entry (by decide +kernel) (Nat.le_of_ble_eq_true rfl) (fun K O E => ?_)
  have O : ld_Ok l K ad cX3_failed 2 RX3 (ld_rm (0, 0)) := O
  show K σ [(0, .ref (ad 8)), (1, .int f)] [] 0
  refine ld_aload_n O (pc := 0) 0 dX3_failed_0 rfl rfl ?_
  refine ld_iload_n O (pc := 1) 1 dX3_failed_1 rfl rfl ?_
  refine ld_p_M_fault O (pc := 2) ld_w135 dX3_failed_2 ?_
  refine ld_bipush O (pc := 5) (v := (-10 : Int32)) dX3_failed_5 (by decide) ?_
  refine ld_iload_n O (pc := 7) 1 dX3_failed_7 rfl rfl ?_
  refine ld_isub O (pc := 8) dX3_failed_8 ?_
  refine ld_ireti E dX3_failed_9 ?_
  exact ⟨rfl, rfl⟩
set_option maxHeartbeats 4000000 in
set_option maxRecDepth 100000 in
theorem c_X3_failedLong (l : Launch) (ad : Nat → Nat) (σ : ld_St) (f : Int32) : ld_Ctr l yX3_failedLong cX3_failedLong 2 (some .long) (1, 19) [.ref (ad 8), .int f] ad σ (ld_L (fun (r : Int64) (σ2 : ld_St) => r = (-9223372036854775808 : Int64) ∧ σ2 = us σ 140 (fun _ => f))) := by
  refine ld_entry (by decide +kernel) (Nat.le_of_ble_eq_true rfl) (fun K O E => ?_)
  have O : ld_Ok l K ad cX3_failedLong 2 RX3 (ld_rm (1, 19)) := O
  show K σ [(0, .ref (ad 8)), (1, .int f)] [] 0
  refine ld_aload_n O (pc := 0) 0 dX3_failedLong_0 rfl rfl ?_
  refine ld_iload_n O (pc := 1) 1 dX3_failedLong_1 rfl rfl ?_
  refine ld_p_M_fault O (pc := 2) ld_w135 dX3_failedLong_2 ?_
  refine ld_callSl O (pc := 5) (As := []) (st := []) (c_X3_lost l ad (us σ 140 (fun _ => f)) ) ld_mw_X3_lost ld_w498 rfl rfl ⟨by decide, by decide⟩ (Nat.le_of_ble_eq_true rfl) dX3_failedLong_5 (fun r_p5 σ_p5 h_p5 => ?_)
  obtain ⟨rfl, hσ_p5⟩ := h_p5
  rw [hσ_p5]
  show K (us σ 140 (fun _ => f)) [(0, .ref (ad 8)), (1, .int f)] [.long (-9223372036854775808 : Int64)] 8
  refine ld_lret E dX3_failedLong_8 ?_
  exact ⟨rfl, rfl⟩
set_option maxHeartbeats 4000000 in
set_option maxRecDepth 100000 in
theorem c_X3_noHouse (l : Launch) (ad : Nat → Nat) (σ : ld_St) (k : Int32) (h : Nat) (hh : σ 141 0 = nI h) (h8 : h ≤ 8) : ld_Ctr l yX3_noHouse cX3_noHouse 2 (some .boolean) (1, 25) [.ref (ad 8), .int k] ad σ (ld_I (fun (r : Int32) (σ2 : ld_St) => r = ld_b (¬ (0 ≤ k.toInt ∧ k.toInt < (h : Int))) ∧ σ2 = σ)) := by
  refine ld_entry (by decide +kernel) (Nat.le_of_ble_eq_true rfl) (fun K O E => ?_)
  have O : ld_Ok l K ad cX3_noHouse 2 RX3 (ld_rm (1, 25)) := O
  show K σ [(0, .ref (ad 8)), (1, .int k)] [] 0
  refine ld_iload_n O (pc := 0) 1 dX3_noHouse_0 rfl rfl ?_
  have hl1 : (k.toInt64).toInt = (k).toInt := (Int32.toInt_toInt64 _).trans rfl
  refine ld_i2l O (pc := 1) dX3_noHouse_1 ?_
  refine ld_lconst O (pc := 2) (v := (0 : Int64)) dX3_noHouse_2 (by decide) ?_
  refine ld_aload_n O (pc := 3) 0 dX3_noHouse_3 rfl rfl ?_
  refine ld_g_M_houses O (pc := 4) (v := nI h) ld_w119 hh dX3_noHouse_4 ?_
  have hl2 : ((nI h).toInt64).toInt = ((h : Nat) : Int) := (Int32.toInt_toInt64 _).trans (nI_toInt (by omega))
  refine ld_i2l O (pc := 7) dX3_noHouse_7 ?_
  refine ld_lconst O (pc := 8) (v := (1 : Int64)) dX3_noHouse_8 (by decide) ?_
  have hl3 : (((nI h).toInt64) - (1 : Int64)).toInt = ((h : Nat) : Int) - 1 := by
    have a1 : ((nI h).toInt64).toInt = ((h : Nat) : Int) := hl2
    have a2 : (1 : Int64).toInt = 1 := (by decide)
    rw [ld_fb_subL a1 a2 (by omega) (by omega)]
  refine ld_lsub O (pc := 9) dX3_noHouse_9 ?_
  refine ld_callSi O (pc := 10) (As := [.long k.toInt64, .long (0 : Int64), .long (((nI h).toInt64) - (1 : Int64))]) (st := []) (c_X3_in l ad σ k.toInt64 (0 : Int64) (((nI h).toInt64) - (1 : Int64)) ((k).toInt) 0 (((h : Nat) : Int) - 1) hl1 (by decide) hl3) ld_mw_X3_in ld_w128 rfl rfl ⟨by decide, by decide⟩ (Nat.le_of_ble_eq_true rfl) dX3_noHouse_10 (fun r_p10 σ_p10 h_p10 => ?_)
  obtain ⟨rfl, hσ_p10⟩ := h_p10
  rw [hσ_p10]
  show K σ [(0, .ref (ad 8)), (1, .int k)] [.int (ld_b (0 ≤ (k).toInt ∧ (k).toInt ≤ (((h : Nat) : Int) - 1)))] 13
  refine ld_ifb_ne O (pc := 13) 20 dX3_noHouse_13 (by decide) (fun c4 => ?_) (fun c4 => ?_)
  · refine ld_iconst O (pc := 20) (v := nI 0) dX3_noHouse_20 (by decide) ?_
    refine ld_iretz E (Or.inl rfl) dX3_noHouse_21 ?_
    exact ⟨(ld_b_f (by omega)).symm, rfl⟩
  · refine ld_iconst O (pc := 16) (v := nI 1) dX3_noHouse_16 (by decide) ?_
    refine ld_goto O (pc := 17) 21 dX3_noHouse_17 (by decide) ?_
    refine ld_iretz E (Or.inr rfl) dX3_noHouse_21 ?_
    exact ⟨(ld_b_t (by omega)).symm, rfl⟩
set_option maxHeartbeats 4000000 in
set_option maxRecDepth 100000 in
theorem c_X3_isCrate (l : Launch) (ad : Nat → Nat) (σ : ld_St) (v : Int32) : ld_Ctr l yX3_isCrate cX3_isCrate 1 (some .boolean) (1, 25) [.int v] ad σ (ld_I (fun (r : Int32) (σ2 : ld_St) => r = ld_b (0 ≤ v.toInt ∧ v.toInt < 100) ∧ σ2 = σ)) := by
  refine ld_entry (by decide +kernel) (Nat.le_of_ble_eq_true rfl) (fun K O E => ?_)
  have O : ld_Ok l K ad cX3_isCrate 1 RX3 (ld_rm (1, 25)) := O
  show K σ [(0, .int v)] [] 0
  refine ld_iload_n O (pc := 0) 0 dX3_isCrate_0 rfl rfl ?_
  have hl1 : (v.toInt64).toInt = (v).toInt := (Int32.toInt_toInt64 _).trans rfl
  refine ld_i2l O (pc := 1) dX3_isCrate_1 ?_
  refine ld_lconst O (pc := 2) (v := (0 : Int64)) dX3_isCrate_2 (by decide) ?_
  refine ld_ldc2 O (pc := 3) (v := (99 : Int64)) dX3_isCrate_3 ld_w243 ?_
  refine ld_callSi O (pc := 6) (As := [.long v.toInt64, .long (0 : Int64), .long (99 : Int64)]) (st := []) (c_X3_in l ad σ v.toInt64 (0 : Int64) (99 : Int64) ((v).toInt) 0 (99) hl1 (by decide) (by decide)) ld_mw_X3_in ld_w128 rfl rfl ⟨by decide, by decide⟩ (Nat.le_of_ble_eq_true rfl) dX3_isCrate_6 (fun r_p6 σ_p6 h_p6 => ?_)
  obtain ⟨rfl, hσ_p6⟩ := h_p6
  rw [hσ_p6]
  show K σ [(0, .int v)] [.int (ld_b (0 ≤ (v).toInt ∧ (v).toInt ≤ (99)))] 9
  refine ld_iretz E (ld_b_01 _) dX3_isCrate_9 ?_
  exact ⟨ld_b_cong (by omega), rfl⟩
set_option maxHeartbeats 4000000 in
set_option maxRecDepth 100000 in
theorem c_X3_noSheet (l : Launch) (ad : Nat → Nat) (σ : ld_St) (k : Int32) : ld_Ctr l yX3_noSheet cX3_noSheet 1 (some .boolean) (1, 25) [.int k] ad σ (ld_I (fun (r : Int32) (σ2 : ld_St) => r = ld_b (¬ (0 ≤ k.toInt ∧ k.toInt < 4)) ∧ σ2 = σ)) := by
  refine ld_entry (by decide +kernel) (Nat.le_of_ble_eq_true rfl) (fun K O E => ?_)
  have O : ld_Ok l K ad cX3_noSheet 1 RX3 (ld_rm (1, 25)) := O
  show K σ [(0, .int k)] [] 0
  refine ld_iload_n O (pc := 0) 0 dX3_noSheet_0 rfl rfl ?_
  have hl1 : (k.toInt64).toInt = (k).toInt := (Int32.toInt_toInt64 _).trans rfl
  refine ld_i2l O (pc := 1) dX3_noSheet_1 ?_
  refine ld_lconst O (pc := 2) (v := (0 : Int64)) dX3_noSheet_2 (by decide) ?_
  refine ld_ldc2 O (pc := 3) (v := (3 : Int64)) dX3_noSheet_3 ld_w127 ?_
  refine ld_callSi O (pc := 6) (As := [.long k.toInt64, .long (0 : Int64), .long (3 : Int64)]) (st := []) (c_X3_in l ad σ k.toInt64 (0 : Int64) (3 : Int64) ((k).toInt) 0 (3) hl1 (by decide) (by decide)) ld_mw_X3_in ld_w128 rfl rfl ⟨by decide, by decide⟩ (Nat.le_of_ble_eq_true rfl) dX3_noSheet_6 (fun r_p6 σ_p6 h_p6 => ?_)
  obtain ⟨rfl, hσ_p6⟩ := h_p6
  rw [hσ_p6]
  show K σ [(0, .int k)] [.int (ld_b (0 ≤ (k).toInt ∧ (k).toInt ≤ (3)))] 9
  refine ld_ifb_ne O (pc := 9) 16 dX3_noSheet_9 (by decide) (fun c2 => ?_) (fun c2 => ?_)
  · refine ld_iconst O (pc := 16) (v := nI 0) dX3_noSheet_16 (by decide) ?_
    refine ld_iretz E (Or.inl rfl) dX3_noSheet_17 ?_
    exact ⟨(ld_b_f (by omega)).symm, rfl⟩
  · refine ld_iconst O (pc := 12) (v := nI 1) dX3_noSheet_12 (by decide) ?_
    refine ld_goto O (pc := 13) 17 dX3_noSheet_13 (by decide) ?_
    refine ld_iretz E (Or.inr rfl) dX3_noSheet_17 ?_
    exact ⟨(ld_b_t (by omega)).symm, rfl⟩
set_option maxHeartbeats 4000000 in
set_option maxRecDepth 100000 in
theorem c_X3_traced (l : Launch) (ad : Nat → Nat) (σ : ld_St) (n : Int32) : ld_Ctr l yX3_traced cX3_traced 2 none (0, 0) [.ref (ad 8), .int n] ad σ (ld_V (fun (σ2 : ld_St) => σ2 = us σ 151 (fun _ => nI 31 * σ 151 0 + n))) := by
  refine ld_entry (by decide +kernel) (Nat.le_of_ble_eq_true rfl) (fun K O E => ?_)
  have O : ld_Ok l K ad cX3_traced 2 RX3 (ld_rm (0, 0)) := O
  show K σ [(0, .ref (ad 8)), (1, .int n)] [] 0
  refine ld_aload_n O (pc := 0) 0 dX3_traced_0 rfl rfl ?_
  refine ld_bipush O (pc := 1) (v := nI 31) dX3_traced_1 (by decide) ?_
  refine ld_aload_n O (pc := 3) 0 dX3_traced_3 rfl rfl ?_
  refine ld_g_M_traceNow O (pc := 4) (v := σ 151 0) ld_w594 rfl dX3_traced_4 ?_
  refine ld_imul O (pc := 7) dX3_traced_7 ?_
  refine ld_iload_n O (pc := 8) 1 dX3_traced_8 rfl rfl ?_
  refine ld_iadd O (pc := 9) dX3_traced_9 ?_
  refine ld_p_M_traceNow O (pc := 10) ld_w594 dX3_traced_10 ?_
  refine ld_vret E dX3_traced_13 ?_
  exact rfl
set_option maxHeartbeats 4000000 in
set_option maxRecDepth 100000 in
theorem c_X3_trace (l : Launch) (ad : Nat → Nat) (σ : ld_St)  : ld_Ctr l yX3_trace cX3_trace 1 (some .int) (0, 0) [.ref (ad 8)] ad σ (ld_I (fun (r : Int32) (σ2 : ld_St) => r = σ 151 0 ∧ σ2 = σ)) := by
  refine ld_entry (by decide +kernel) (Nat.le_of_ble_eq_true rfl) (fun K O E => ?_)
  have O : ld_Ok l K ad cX3_trace 1 RX3 (ld_rm (0, 0)) := O
  show K σ [(0, .ref (ad 8))] [] 0
  refine ld_aload_n O (pc := 0) 0 dX3_trace_0 rfl rfl ?_
  refine ld_g_M_traceNow O (pc := 1) (v := σ 151 0) ld_w594 rfl dX3_trace_1 ?_
  refine ld_ireti E dX3_trace_4 ?_
  exact ⟨rfl, rfl⟩
set_option maxHeartbeats 4000000 in
set_option maxRecDepth 100000 in
theorem c_X3_fault (l : Launch) (ad : Nat → Nat) (σ : ld_St)  : ld_Ctr l yX3_fault cX3_fault 1 (some .int) (0, 0) [.ref (ad 8)] ad σ (ld_I (fun (r : Int32) (σ2 : ld_St) => r = σ 140 0 ∧ σ2 = σ)) := by
  refine ld_entry (by decide +kernel) (Nat.le_of_ble_eq_true rfl) (fun K O E => ?_)
  have O : ld_Ok l K ad cX3_fault 1 RX3 (ld_rm (0, 0)) := O
  show K σ [(0, .ref (ad 8))] [] 0
  refine ld_aload_n O (pc := 0) 0 dX3_fault_0 rfl rfl ?_
  refine ld_g_M_fault O (pc := 1) (v := σ 140 0) ld_w135 rfl dX3_fault_1 ?_
  refine ld_ireti E dX3_fault_4 ?_
  exact ⟨rfl, rfl⟩
def ld_kt (h : Nat) (kd t : Nat → Int32) : Prop := ∀ x, x < h → (0 ≤ (kd x).toInt ∧ (kd x).toInt ≤ 2) ∧ 0 ≤ (t x).toInt ∧ (t x).toInt ≤ 9
theorem ld_n1 : (nI 1).toInt = 1 := by decide
theorem ld_n2 : (nI 2).toInt = 2 := by decide
theorem ld_sr_b {kd t : Int32} (h : (0 ≤ kd.toInt ∧ kd.toInt ≤ 2) ∧ 0 ≤ t.toInt ∧ t.toInt ≤ 9) : 0 ≤ (ld_sr kd t).toInt ∧ (ld_sr kd t).toInt ≤ 20 := by
  have e1 : (t + nI 1).toInt = t.toInt + 1 := by rw [fb_addI (by rw [ld_n1]; omega) (by rw [ld_n1]; omega), ld_n1]
  have e2 : (nI 2 * (t + nI 1)).toInt = 2 * (t.toInt + 1) := by rw [fb_mulI (by rw [ld_n2, e1]; omega) (by rw [ld_n2, e1]; omega), ld_n2, e1]
  unfold ld_sr
  repeat' split
  all_goals omega
theorem ld_so_b {h : Nat} {kd t : Nat → Int32} (hb : ld_kt h kd t) (h8 : h ≤ 8) : ∀ {n : Nat}, n ≤ h → 0 ≤ (l_sum (ld_ss kd t) n).toInt ∧ (l_sum (ld_ss kd t) n).toInt ≤ 20 * n
  | 0, _ => by show 0 ≤ (0 : Int32).toInt ∧ (0 : Int32).toInt ≤ 20 * ((0 : Nat) : Int); decide
  | n + 1, hn => by
    have ih := ld_so_b hb h8 (n := n) (by omega)
    have e := ld_sr_b (hb n (by omega))
    have e2 : (l_sum (ld_ss kd t) n + ld_ss kd t n).toInt = (l_sum (ld_ss kd t) n).toInt + (ld_ss kd t n).toInt := by
      apply fb_addI <;> (unfold ld_ss at *; omega)
    have e3 : l_sum (ld_ss kd t) (n + 1) = l_sum (ld_ss kd t) n + ld_ss kd t n := rfl
    rw [e3, e2]
    unfold ld_ss at *
    omega
set_option maxHeartbeats 4000000 in
set_option maxRecDepth 100000 in
theorem c_X3_sourOf (l : Launch) (ad : Nat → Nat) (σ : ld_St) (k : Nat) (hk : k < 8) (hkd : 0 ≤ (σ 20 k).toInt ∧ (σ 20 k).toInt ≤ 2) : ld_Ctr l yX3_sourOf cX3_sourOf 3 (some .int) (0, 0) [.ref (ad 8), .int (nI k)] ad σ (ld_I (fun (r : Int32) (σ2 : ld_St) => r = ld_sr (σ 20 k) (σ 21 k) ∧ σ2 = σ)) := by
  refine ld_entry (by decide +kernel) (Nat.le_of_ble_eq_true rfl) (fun K O E => ?_)
  have O : ld_Ok l K ad cX3_sourOf 3 RX3 (ld_rm (0, 0)) := O
  show K σ [(0, .ref (ad 8)), (1, .int (nI k))] [] 0
  refine ld_aload_n O (pc := 0) 0 dX3_sourOf_0 rfl rfl ?_
  refine ld_g_M_temperOf O (pc := 1) ld_w52 dX3_sourOf_1 ?_
  refine ld_iload_n O (pc := 4) 1 dX3_sourOf_4 rfl rfl ?_
  refine ld_iald O (pc := 5) 21 k (v := σ 21 k) rfl (by decide) (show k < 8 by omega) rfl dX3_sourOf_5 ?_
  refine ld_iconst O (pc := 6) (v := nI 1) dX3_sourOf_6 (by decide) ?_
  refine ld_iadd O (pc := 7) dX3_sourOf_7 ?_
  refine ld_istore_n O (pc := 8) [(2, .int ((σ 21 k) + (nI 1))), (0, .ref (ad 8)), (1, .int (nI k))] dX3_sourOf_8 rfl (by decide) rfl ?_
  refine ld_aload_n O (pc := 9) 1 dX3_sourOf_9 rfl rfl ?_
  refine ld_g_M_kindOf O (pc := 10) ld_w51 dX3_sourOf_10 ?_
  refine ld_iload_n O (pc := 13) 2 dX3_sourOf_13 rfl rfl ?_
  refine ld_iald O (pc := 14) 20 k (v := σ 20 k) rfl (by decide) (show k < 8 by omega) rfl dX3_sourOf_14 ?_
  refine ld_if_ne O (pc := 15) (σ 20 k).toInt rfl 27 dX3_sourOf_15 (by decide) (fun c1 => ?_) (fun c1 => ?_)
  · refine ld_aload_n O (pc := 27) 1 dX3_sourOf_27 rfl rfl ?_
    refine ld_g_M_kindOf O (pc := 28) ld_w51 dX3_sourOf_28 ?_
    refine ld_iload_n O (pc := 31) 2 dX3_sourOf_31 rfl rfl ?_
    refine ld_iald O (pc := 32) 20 k (v := σ 20 k) rfl (by decide) (show k < 8 by omega) rfl dX3_sourOf_32 ?_
    refine ld_iconst O (pc := 33) (v := nI 1) dX3_sourOf_33 (by decide) ?_
    refine ld_icmp_ne O (pc := 34) (σ 20 k).toInt 1 rfl (by decide) 41 dX3_sourOf_34 (by decide) (fun c2 => ?_) (fun c2 => ?_)
    · refine ld_iconst O (pc := 41) (v := nI 2) dX3_sourOf_41 (by decide) ?_
      refine ld_iload_n O (pc := 42) 0 dX3_sourOf_42 rfl rfl ?_
      refine ld_imul O (pc := 43) dX3_sourOf_43 ?_
      refine ld_ireti E dX3_sourOf_44 ?_
      refine ⟨?_, rfl⟩
      unfold ld_sr
      repeat' split
      all_goals first | rfl | (exfalso; omega)
    · refine ld_iload_n O (pc := 37) 0 dX3_sourOf_37 rfl rfl ?_
      refine ld_goto O (pc := 38) 44 dX3_sourOf_38 (by decide) ?_
      refine ld_ireti E dX3_sourOf_44 ?_
      refine ⟨?_, rfl⟩
      unfold ld_sr
      repeat' split
      all_goals first | rfl | (exfalso; omega)
  · refine ld_aload_n O (pc := 18) 1 dX3_sourOf_18 rfl rfl ?_
    refine ld_g_M_temperOf O (pc := 19) ld_w52 dX3_sourOf_19 ?_
    refine ld_iload_n O (pc := 22) 2 dX3_sourOf_22 rfl rfl ?_
    refine ld_iald O (pc := 23) 21 k (v := σ 21 k) rfl (by decide) (show k < 8 by omega) rfl dX3_sourOf_23 ?_
    refine ld_goto O (pc := 24) 44 dX3_sourOf_24 (by decide) ?_
    refine ld_ireti E dX3_sourOf_44 ?_
    refine ⟨?_, rfl⟩
    unfold ld_sr
    repeat' split
    all_goals first | rfl | (exfalso; omega)
set_option maxHeartbeats 4000000 in
set_option maxRecDepth 100000 in
theorem c_X3_sourOfAll (l : Launch) (ad : Nat → Nat) (σ : ld_St) (h : Nat) (hh : σ 141 0 = nI h) (h8 : h ≤ 8) (hkt : ld_kt h (σ 20) (σ 21)) : ld_Ctr l yX3_sourOfAll cX3_sourOfAll 3 (some .int) (1, 22) [.ref (ad 8)] ad σ (ld_I (fun (r : Int32) (σ2 : ld_St) => r = l_sum (ld_ss (σ 20) (σ 21)) h ∧ σ2 = σ)) := by
  refine ld_entry (by decide +kernel) (Nat.le_of_ble_eq_true rfl) (fun K O E => ?_)
  have O : ld_Ok l K ad cX3_sourOfAll 3 RX3 (ld_rm (1, 22)) := O
  show K σ [(0, .ref (ad 8))] [] 0
  refine ld_iconst O (pc := 0) (v := nI 0) dX3_sourOfAll_0 (by decide) ?_
  refine ld_istore_n O (pc := 1) [(1, .int (nI 0)), (0, .ref (ad 8))] dX3_sourOfAll_1 rfl (by decide) rfl ?_
  refine ld_iconst O (pc := 2) (v := nI 0) dX3_sourOfAll_2 (by decide) ?_
  refine ld_istore_n O (pc := 3) [(2, .int (nI 0)), (1, .int (nI 0)), (0, .ref (ad 8))] dX3_sourOfAll_3 rfl (by decide) rfl ?_
  have L4 : ∀ (m_4 : Nat) (i : Nat) (w : Int32), h - i < m_4 → (i ≤ h) → (w = l_sum (ld_ss (σ 20) (σ 21)) i) → K σ [(0, .ref (ad 8)), (1, .int w), (2, .int (nI i))] [] 4 := by
    intro m_4
    induction m_4 with
    | zero => intro i w hm_; exact absurd hm_ (Nat.not_lt_zero _)
    | succ m_4 ih4 =>
      intro i w hm_4 hi hw
      refine ld_iload_n O (pc := 4) 2 dX3_sourOfAll_4 rfl rfl ?_
      refine ld_aload_n O (pc := 5) 0 dX3_sourOfAll_5 rfl rfl ?_
      refine ld_g_M_houses O (pc := 6) (v := nI h) ld_w119 hh dX3_sourOfAll_6 ?_
      refine ld_icmp_ge O (pc := 9) ((i : Nat) : Int) ((h : Nat) : Int) (nI_toInt (by omega)) (nI_toInt (by omega)) 26 dX3_sourOfAll_9 (by decide) (fun c1 => ?_) (fun c1 => ?_)
      · refine ld_iload_n O (pc := 26) 1 dX3_sourOfAll_26 rfl rfl ?_
        refine ld_ireti E dX3_sourOfAll_27 ?_
        exact ⟨by rw [hw, show i = h by omega], rfl⟩
      · refine ld_iload_n O (pc := 12) 1 dX3_sourOfAll_12 rfl rfl ?_
        refine ld_aload_n O (pc := 13) 0 dX3_sourOfAll_13 rfl rfl ?_
        refine ld_iload_n O (pc := 14) 2 dX3_sourOfAll_14 rfl rfl ?_
        refine ld_callVi O (pc := 15) (As := [.int (nI i)]) (st := [.int w]) ld_recv8 (c_X3_sourOf l ad σ i (by omega) (hkt _ (by omega)).1) ld_mw_X3_sourOf ld_w198 rfl rfl ⟨by decide, by decide⟩ (Nat.le_of_ble_eq_true rfl) dX3_sourOfAll_15 (fun r_p15 σ_p15 h_p15 => ?_)
        obtain ⟨rfl, hσ_p15⟩ := h_p15
        rw [hσ_p15]
        show K σ [(0, .ref (ad 8)), (1, .int w), (2, .int (nI i))] [.int (ld_sr (σ 20 i) (σ 21 i)), .int w] 18
        refine ld_iadd O (pc := 18) dX3_sourOfAll_18 ?_
        refine ld_istore_n O (pc := 19) [(1, .int (w + (ld_sr (σ 20 i) (σ 21 i)))), (0, .ref (ad 8)), (2, .int (nI i))] dX3_sourOfAll_19 rfl (by decide) rfl ?_
        refine ld_iincN O (pc := 20) [(2, .int (nI (i + 1))), (1, .int (w + (ld_sr (σ 20 i) (σ 21 i)))), (0, .ref (ad 8))] 2 dX3_sourOfAll_20 rfl (by decide) rfl ?_
        refine ld_goto O (pc := 23) 4 dX3_sourOfAll_23 (by decide) ?_
        refine ld_less O [2, 1, 0] (lv2 := [(0, .ref (ad 8)), (1, .int (w + (ld_sr (σ 20 i) (σ 21 i)))), (2, .int (nI (i + 1)))]) rfl ?_
        exact ih4 (i + 1) (w + (ld_sr (σ 20 i) (σ 21 i))) (by omega) (by omega) (by rw [hw]; rfl)
  refine ld_less O [2, 1, 0] (lv2 := [(0, .ref (ad 8)), (1, .int (nI 0)), (2, .int (nI 0))]) rfl ?_
  exact L4 _ 0 (nI 0) (Nat.lt_succ_self _) (Nat.zero_le _) rfl
set_option maxHeartbeats 4000000 in
set_option maxRecDepth 100000 in
theorem c_X3_aheadOf (l : Launch) (ad : Nat → Nat) (σ : ld_St) (h : Nat) (hh : σ 141 0 = nI h) (h8 : h ≤ 8) (hkt : ld_kt h (σ 20) (σ 21)) (k : Nat) (hk : k < h) (c a : Int32) (ha : ¬ a.toInt ≤ 0) : ld_Ctr l yX3_aheadOf cX3_aheadOf 8 (some .int) (1, 22) [.ref (ad 8), .int (nI k), .int c, .int a] ad σ (ld_I (fun (r : Int32) (σ2 : ld_St) => r = nI (ld_ah (ld_r a c (ld_ss (σ 20) (σ 21))) h k) ∧ σ2 = σ)) := by
  refine ld_entry (by decide +kernel) (Nat.le_of_ble_eq_true rfl) (fun K O E => ?_)
  have O : ld_Ok l K ad cX3_aheadOf 8 RX3 (ld_rm (1, 22)) := O
  have ha0 : ¬ a = 0 := fun z => ha (by rw [z]; decide)
  have hR_ : ∀ x, ld_r a c (ld_ss (σ 20) (σ 21)) x = c * ld_sr (σ 20 x) (σ 21 x) - c * ld_sr (σ 20 x) (σ 21 x) / a * a := fun x => if_neg ha
  show K σ [(0, .ref (ad 8)), (1, .int (nI k)), (2, .int c), (3, .int a)] [] 0
  refine ld_iload_n O (pc := 0) 2 dX3_aheadOf_0 rfl rfl ?_
  refine ld_aload_n O (pc := 1) 0 dX3_aheadOf_1 rfl rfl ?_
  refine ld_iload_n O (pc := 2) 1 dX3_aheadOf_2 rfl rfl ?_
  refine ld_callVi O (pc := 3) (As := [.int (nI k)]) (st := [.int c]) ld_recv8 (c_X3_sourOf l ad σ k (by omega) (hkt _ (by omega)).1) ld_mw_X3_sourOf ld_w198 rfl rfl ⟨by decide, by decide⟩ (Nat.le_of_ble_eq_true rfl) dX3_aheadOf_3 (fun r_p3 σ_p3 h_p3 => ?_)
  obtain ⟨rfl, hσ_p3⟩ := h_p3
  rw [hσ_p3]
  show K σ [(0, .ref (ad 8)), (1, .int (nI k)), (2, .int c), (3, .int a)] [.int (ld_sr (σ 20 k) (σ 21 k)), .int c] 6
  refine ld_imul O (pc := 6) dX3_aheadOf_6 ?_
  refine ld_iload_n O (pc := 7) 3 dX3_aheadOf_7 rfl rfl ?_
  refine ld_irem O (pc := 8) dX3_aheadOf_8 ha0 ?_
  refine ld_istore O (pc := 9) [(4, .int ((c * (ld_sr (σ 20 k) (σ 21 k))) - (c * (ld_sr (σ 20 k) (σ 21 k))) / a * a)), (0, .ref (ad 8)), (1, .int (nI k)), (2, .int c), (3, .int a)] dX3_aheadOf_9 (by decide) rfl ?_
  refine ld_iconst O (pc := 11) (v := nI 0) dX3_aheadOf_11 (by decide) ?_
  refine ld_istore O (pc := 12) [(5, .int (nI 0)), (4, .int ((c * (ld_sr (σ 20 k) (σ 21 k))) - (c * (ld_sr (σ 20 k) (σ 21 k))) / a * a)), (0, .ref (ad 8)), (1, .int (nI k)), (2, .int c), (3, .int a)] dX3_aheadOf_12 (by decide) rfl ?_
  refine ld_iconst O (pc := 14) (v := nI 0) dX3_aheadOf_14 (by decide) ?_
  refine ld_istore O (pc := 15) [(6, .int (nI 0)), (5, .int (nI 0)), (4, .int ((c * (ld_sr (σ 20 k) (σ 21 k))) - (c * (ld_sr (σ 20 k) (σ 21 k))) / a * a)), (0, .ref (ad 8)), (1, .int (nI k)), (2, .int c), (3, .int a)] dX3_aheadOf_15 (by decide) rfl ?_
  have L17 : ∀ (m_17 : Nat) (i : Nat) (m : Nat), h - i < m_17 → (i ≤ h) → (m = fb_ct (ld_ap (ld_r a c (ld_ss (σ 20) (σ 21))) k) i) → (m ≤ i) → K σ [(0, .ref (ad 8)), (1, .int (nI k)), (2, .int c), (3, .int a), (4, .int (c * ld_sr (σ 20 k) (σ 21 k) - c * ld_sr (σ 20 k) (σ 21 k) / a * a)), (5, .int (nI m)), (6, .int (nI i))] [] 17 := by
    intro m_17
    induction m_17 with
    | zero => intro i m hm_; exact absurd hm_ (Nat.not_lt_zero _)
    | succ m_17 ih17 =>
      intro i m hm_17 hi hm hmi
      refine ld_iload O (pc := 17) 6 dX3_aheadOf_17 rfl ?_
      refine ld_aload_n O (pc := 19) 0 dX3_aheadOf_19 rfl rfl ?_
      refine ld_g_M_houses O (pc := 20) (v := nI h) ld_w119 hh dX3_aheadOf_20 ?_
      refine ld_icmp_ge O (pc := 23) ((i : Nat) : Int) ((h : Nat) : Int) (nI_toInt (by omega)) (nI_toInt (by omega)) 74 dX3_aheadOf_23 (by decide) (fun c1 => ?_) (fun c1 => ?_)
      · refine ld_iload O (pc := 74) 5 dX3_aheadOf_74 rfl ?_
        refine ld_ireti E dX3_aheadOf_76 ?_
        exact ⟨by rw [hm, show i = h by omega]; rfl, rfl⟩
      · refine ld_iload_n O (pc := 26) 2 dX3_aheadOf_26 rfl rfl ?_
        refine ld_aload_n O (pc := 27) 0 dX3_aheadOf_27 rfl rfl ?_
        refine ld_iload O (pc := 28) 6 dX3_aheadOf_28 rfl ?_
        refine ld_callVi O (pc := 30) (As := [.int (nI i)]) (st := [.int c]) ld_recv8 (c_X3_sourOf l ad σ i (by omega) (hkt _ (by omega)).1) ld_mw_X3_sourOf ld_w198 rfl rfl ⟨by decide, by decide⟩ (Nat.le_of_ble_eq_true rfl) dX3_aheadOf_30 (fun r_p30 σ_p30 h_p30 => ?_)
        obtain ⟨rfl, hσ_p30⟩ := h_p30
        rw [hσ_p30]
        show K σ [(0, .ref (ad 8)), (1, .int (nI k)), (2, .int c), (3, .int a), (4, .int (c * ld_sr (σ 20 k) (σ 21 k) - c * ld_sr (σ 20 k) (σ 21 k) / a * a)), (5, .int (nI m)), (6, .int (nI i))] [.int (ld_sr (σ 20 i) (σ 21 i)), .int c] 33
        refine ld_imul O (pc := 33) dX3_aheadOf_33 ?_
        refine ld_iload_n O (pc := 34) 3 dX3_aheadOf_34 rfl rfl ?_
        refine ld_irem O (pc := 35) dX3_aheadOf_35 ha0 ?_
        refine ld_istore O (pc := 36) [(7, .int ((c * (ld_sr (σ 20 i) (σ 21 i))) - (c * (ld_sr (σ 20 i) (σ 21 i))) / a * a)), (0, .ref (ad 8)), (1, .int (nI k)), (2, .int c), (3, .int a), (4, .int (c * ld_sr (σ 20 k) (σ 21 k) - c * ld_sr (σ 20 k) (σ 21 k) / a * a)), (5, .int (nI m)), (6, .int (nI i))] dX3_aheadOf_36 (by decide) rfl ?_
        refine ld_iload O (pc := 38) 6 dX3_aheadOf_38 rfl ?_
        refine ld_iload O (pc := 40) 0 dX3_aheadOf_40 rfl ?_
        refine ld_iload O (pc := 42) 5 dX3_aheadOf_42 rfl ?_
        refine ld_icmp_gt O (pc := 44) ((c * (ld_sr (σ 20 i) (σ 21 i))) - (c * (ld_sr (σ 20 i) (σ 21 i))) / a * a).toInt (c * ld_sr (σ 20 k) (σ 21 k) - c * ld_sr (σ 20 k) (σ 21 k) / a * a).toInt rfl rfl 60 dX3_aheadOf_44 (by decide) (fun c2 => ?_) (fun c2 => ?_)
        · refine ld_iconst O (pc := 60) (v := nI 1) dX3_aheadOf_60 (by decide) ?_
          refine ld_goto O (pc := 61) 65 dX3_aheadOf_61 (by decide) ?_
          refine ld_iaddN O (pc := 65) dX3_aheadOf_65 ?_
          refine ld_istore O (pc := 66) [(5, .int (nI (m + 1))), (7, .int ((c * (ld_sr (σ 20 i) (σ 21 i))) - (c * (ld_sr (σ 20 i) (σ 21 i))) / a * a)), (0, .ref (ad 8)), (1, .int (nI k)), (2, .int c), (3, .int a), (4, .int (c * ld_sr (σ 20 k) (σ 21 k) - c * ld_sr (σ 20 k) (σ 21 k) / a * a)), (6, .int (nI i))] dX3_aheadOf_66 (by decide) rfl ?_
          refine ld_iincN O (pc := 68) [(6, .int (nI (i + 1))), (5, .int (nI (m + 1))), (7, .int ((c * (ld_sr (σ 20 i) (σ 21 i))) - (c * (ld_sr (σ 20 i) (σ 21 i))) / a * a)), (0, .ref (ad 8)), (1, .int (nI k)), (2, .int c), (3, .int a), (4, .int (c * ld_sr (σ 20 k) (σ 21 k) - c * ld_sr (σ 20 k) (σ 21 k) / a * a))] 7 dX3_aheadOf_68 rfl (by decide) rfl ?_
          refine ld_goto O (pc := 71) 17 dX3_aheadOf_71 (by decide) ?_
          refine ld_less O [3, 4, 5, 6, 7, 1, 0] (lv2 := [(0, .ref (ad 8)), (1, .int (nI k)), (2, .int c), (3, .int a), (4, .int (c * ld_sr (σ 20 k) (σ 21 k) - c * ld_sr (σ 20 k) (σ 21 k) / a * a)), (5, .int (nI (m + 1))), (6, .int (nI (i + 1)))]) rfl ?_
          exact ih17 (i + 1) (m + 1) (by omega) (by omega) (ld_ct_t hm (by unfold ld_ap; rw [hR_ k, hR_ i]; exact decide_eq_true (by omega))) (by omega)
        · refine ld_iload O (pc := 47) 0 dX3_aheadOf_47 rfl ?_
          refine ld_iload O (pc := 49) 5 dX3_aheadOf_49 rfl ?_
          refine ld_icmp_ne O (pc := 51) ((c * (ld_sr (σ 20 i) (σ 21 i))) - (c * (ld_sr (σ 20 i) (σ 21 i))) / a * a).toInt (c * ld_sr (σ 20 k) (σ 21 k) - c * ld_sr (σ 20 k) (σ 21 k) / a * a).toInt rfl rfl 64 dX3_aheadOf_51 (by decide) (fun c3 => ?_) (fun c3 => ?_)
          · refine ld_iconst O (pc := 64) (v := nI 0) dX3_aheadOf_64 (by decide) ?_
            refine ld_iaddN O (pc := 65) dX3_aheadOf_65 ?_
            refine ld_istore O (pc := 66) [(5, .int (nI (m + 0))), (7, .int ((c * (ld_sr (σ 20 i) (σ 21 i))) - (c * (ld_sr (σ 20 i) (σ 21 i))) / a * a)), (0, .ref (ad 8)), (1, .int (nI k)), (2, .int c), (3, .int a), (4, .int (c * ld_sr (σ 20 k) (σ 21 k) - c * ld_sr (σ 20 k) (σ 21 k) / a * a)), (6, .int (nI i))] dX3_aheadOf_66 (by decide) rfl ?_
            refine ld_iincN O (pc := 68) [(6, .int (nI (i + 1))), (5, .int (nI (m + 0))), (7, .int ((c * (ld_sr (σ 20 i) (σ 21 i))) - (c * (ld_sr (σ 20 i) (σ 21 i))) / a * a)), (0, .ref (ad 8)), (1, .int (nI k)), (2, .int c), (3, .int a), (4, .int (c * ld_sr (σ 20 k) (σ 21 k) - c * ld_sr (σ 20 k) (σ 21 k) / a * a))] 7 dX3_aheadOf_68 rfl (by decide) rfl ?_
            refine ld_goto O (pc := 71) 17 dX3_aheadOf_71 (by decide) ?_
            refine ld_less O [3, 4, 5, 6, 7, 1, 0] (lv2 := [(0, .ref (ad 8)), (1, .int (nI k)), (2, .int c), (3, .int a), (4, .int (c * ld_sr (σ 20 k) (σ 21 k) - c * ld_sr (σ 20 k) (σ 21 k) / a * a)), (5, .int (nI (m + 0))), (6, .int (nI (i + 1)))]) rfl ?_
            exact ih17 (i + 1) (m + 0) (by omega) (by omega) (ld_ct_f hm (by unfold ld_ap; rw [hR_ k, hR_ i]; intro z; have z2 := of_decide_eq_true z; omega)) (by omega)
          · refine ld_iload O (pc := 54) 7 dX3_aheadOf_54 rfl ?_
            refine ld_iload_n O (pc := 56) 2 dX3_aheadOf_56 rfl rfl ?_
            refine ld_icmp_ge O (pc := 57) ((i : Nat) : Int) ((k : Nat) : Int) (nI_toInt (by omega)) (nI_toInt (by omega)) 64 dX3_aheadOf_57 (by decide) (fun c4 => ?_) (fun c4 => ?_)
            · refine ld_iconst O (pc := 64) (v := nI 0) dX3_aheadOf_64 (by decide) ?_
              refine ld_iaddN O (pc := 65) dX3_aheadOf_65 ?_
              refine ld_istore O (pc := 66) [(5, .int (nI (m + 0))), (7, .int ((c * (ld_sr (σ 20 i) (σ 21 i))) - (c * (ld_sr (σ 20 i) (σ 21 i))) / a * a)), (0, .ref (ad 8)), (1, .int (nI k)), (2, .int c), (3, .int a), (4, .int (c * ld_sr (σ 20 k) (σ 21 k) - c * ld_sr (σ 20 k) (σ 21 k) / a * a)), (6, .int (nI i))] dX3_aheadOf_66 (by decide) rfl ?_
              refine ld_iincN O (pc := 68) [(6, .int (nI (i + 1))), (5, .int (nI (m + 0))), (7, .int ((c * (ld_sr (σ 20 i) (σ 21 i))) - (c * (ld_sr (σ 20 i) (σ 21 i))) / a * a)), (0, .ref (ad 8)), (1, .int (nI k)), (2, .int c), (3, .int a), (4, .int (c * ld_sr (σ 20 k) (σ 21 k) - c * ld_sr (σ 20 k) (σ 21 k) / a * a))] 7 dX3_aheadOf_68 rfl (by decide) rfl ?_
              refine ld_goto O (pc := 71) 17 dX3_aheadOf_71 (by decide) ?_
              refine ld_less O [3, 4, 5, 6, 7, 1, 0] (lv2 := [(0, .ref (ad 8)), (1, .int (nI k)), (2, .int c), (3, .int a), (4, .int (c * ld_sr (σ 20 k) (σ 21 k) - c * ld_sr (σ 20 k) (σ 21 k) / a * a)), (5, .int (nI (m + 0))), (6, .int (nI (i + 1)))]) rfl ?_
              exact ih17 (i + 1) (m + 0) (by omega) (by omega) (ld_ct_f hm (by unfold ld_ap; rw [hR_ k, hR_ i]; intro z; have z2 := of_decide_eq_true z; omega)) (by omega)
            · refine ld_iconst O (pc := 60) (v := nI 1) dX3_aheadOf_60 (by decide) ?_
              refine ld_goto O (pc := 61) 65 dX3_aheadOf_61 (by decide) ?_
              refine ld_iaddN O (pc := 65) dX3_aheadOf_65 ?_
              refine ld_istore O (pc := 66) [(5, .int (nI (m + 1))), (7, .int ((c * (ld_sr (σ 20 i) (σ 21 i))) - (c * (ld_sr (σ 20 i) (σ 21 i))) / a * a)), (0, .ref (ad 8)), (1, .int (nI k)), (2, .int c), (3, .int a), (4, .int (c * ld_sr (σ 20 k) (σ 21 k) - c * ld_sr (σ 20 k) (σ 21 k) / a * a)), (6, .int (nI i))] dX3_aheadOf_66 (by decide) rfl ?_
              refine ld_iincN O (pc := 68) [(6, .int (nI (i + 1))), (5, .int (nI (m + 1))), (7, .int ((c * (ld_sr (σ 20 i) (σ 21 i))) - (c * (ld_sr (σ 20 i) (σ 21 i))) / a * a)), (0, .ref (ad 8)), (1, .int (nI k)), (2, .int c), (3, .int a), (4, .int (c * ld_sr (σ 20 k) (σ 21 k) - c * ld_sr (σ 20 k) (σ 21 k) / a * a))] 7 dX3_aheadOf_68 rfl (by decide) rfl ?_
              refine ld_goto O (pc := 71) 17 dX3_aheadOf_71 (by decide) ?_
              refine ld_less O [3, 4, 5, 6, 7, 1, 0] (lv2 := [(0, .ref (ad 8)), (1, .int (nI k)), (2, .int c), (3, .int a), (4, .int (c * ld_sr (σ 20 k) (σ 21 k) - c * ld_sr (σ 20 k) (σ 21 k) / a * a)), (5, .int (nI (m + 1))), (6, .int (nI (i + 1)))]) rfl ?_
              exact ih17 (i + 1) (m + 1) (by omega) (by omega) (ld_ct_t hm (by unfold ld_ap; rw [hR_ k, hR_ i]; exact decide_eq_true (by omega))) (by omega)
  refine ld_less O [3, 4, 5, 6, 2, 1, 0] (lv2 := [(0, .ref (ad 8)), (1, .int (nI k)), (2, .int c), (3, .int a), (4, .int (c * ld_sr (σ 20 k) (σ 21 k) - c * ld_sr (σ 20 k) (σ 21 k) / a * a)), (5, .int (nI 0)), (6, .int (nI 0))]) rfl ?_
  exact L17 _ 0 0 (Nat.lt_succ_self _) (Nat.zero_le _) rfl (Nat.zero_le _)
set_option maxHeartbeats 4000000 in
set_option maxRecDepth 100000 in
theorem c_X3_dealtTo (l : Launch) (ad : Nat → Nat) (σ : ld_St) (h : Nat) (hh : σ 141 0 = nI h) (h8 : h ≤ 8) (hkt : ld_kt h (σ 20) (σ 21)) (k : Nat) (hk : k < h) (c : Int32) : ld_Ctr l yX3_dealtTo cX3_dealtTo 6 (some .int) (2, 49) [.ref (ad 8), .int (nI k), .int c] ad σ (ld_I (fun (r : Int32) (σ2 : ld_St) => r = ld_dt h (σ 20) (σ 21) c k ∧ σ2 = σ)) := by
  refine ld_entry (by decide +kernel) (Nat.le_of_ble_eq_true rfl) (fun K O E => ?_)
  have O : ld_Ok l K ad cX3_dealtTo 6 RX3 (ld_rm (2, 49)) := O
  show K σ [(0, .ref (ad 8)), (1, .int (nI k)), (2, .int c)] [] 0
  refine ld_aload_n O (pc := 0) 0 dX3_dealtTo_0 rfl rfl ?_
  refine ld_callVi O (pc := 1) (As := []) (st := []) ld_recv8 (c_X3_sourOfAll l ad σ h hh h8 hkt) ld_mw_X3_sourOfAll ld_w206 rfl rfl ⟨by decide, by decide⟩ (Nat.le_of_ble_eq_true rfl) dX3_dealtTo_1 (fun r_p1 σ_p1 h_p1 => ?_)
  obtain ⟨rfl, hσ_p1⟩ := h_p1
  rw [hσ_p1]
  show K σ [(0, .ref (ad 8)), (1, .int (nI k)), (2, .int c)] [.int (l_sum (ld_ss (σ 20) (σ 21)) h)] 4
  refine ld_istore_n O (pc := 4) [(3, .int (l_sum (ld_ss (σ 20) (σ 21)) h)), (0, .ref (ad 8)), (1, .int (nI k)), (2, .int c)] dX3_dealtTo_4 rfl (by decide) rfl ?_
  have hso_ := ld_so_b hkt h8 (Nat.le_refl h)
  refine ld_iload_n O (pc := 5) 0 dX3_dealtTo_5 rfl rfl ?_
  refine ld_if_ne O (pc := 6) (l_sum (ld_ss (σ 20) (σ 21)) h).toInt rfl 11 dX3_dealtTo_6 (by decide) (fun c1 => ?_) (fun c1 => ?_)
  · have ha_ : ¬ (l_sum (ld_ss (σ 20) (σ 21)) h).toInt ≤ 0 := by omega
    have ha0_ : ¬ l_sum (ld_ss (σ 20) (σ 21)) h = 0 := fun z => ha_ (by rw [z]; decide)
    refine ld_iload_n O (pc := 11) 3 dX3_dealtTo_11 rfl rfl ?_
    refine ld_istore O (pc := 12) [(4, .int c), (3, .int (l_sum (ld_ss (σ 20) (σ 21)) h)), (0, .ref (ad 8)), (1, .int (nI k)), (2, .int c)] dX3_dealtTo_12 (by decide) rfl ?_
    refine ld_iconst O (pc := 14) (v := nI 0) dX3_dealtTo_14 (by decide) ?_
    refine ld_istore O (pc := 15) [(5, .int (nI 0)), (4, .int c), (3, .int (l_sum (ld_ss (σ 20) (σ 21)) h)), (0, .ref (ad 8)), (1, .int (nI k)), (2, .int c)] dX3_dealtTo_15 (by decide) rfl ?_
    have L17 : ∀ (m_17 : Nat) (i : Nat) (w : Int32), h - i < m_17 → (i ≤ h) → (w = ld_lf (l_sum (ld_ss (σ 20) (σ 21)) h) c (ld_ss (σ 20) (σ 21)) i) → K σ [(0, .ref (ad 8)), (1, .int (nI k)), (2, .int c), (3, .int (l_sum (ld_ss (σ 20) (σ 21)) h)), (4, .int w), (5, .int (nI i))] [] 17 := by
      intro m_17
      induction m_17 with
      | zero => intro i w hm_; exact absurd hm_ (Nat.not_lt_zero _)
      | succ m_17 ih17 =>
        intro i w hm_17 hi hw
        refine ld_iload O (pc := 17) 5 dX3_dealtTo_17 rfl ?_
        refine ld_aload_n O (pc := 19) 0 dX3_dealtTo_19 rfl rfl ?_
        refine ld_g_M_houses O (pc := 20) (v := nI h) ld_w119 hh dX3_dealtTo_20 ?_
        refine ld_icmp_ge O (pc := 23) ((i : Nat) : Int) ((h : Nat) : Int) (nI_toInt (by omega)) (nI_toInt (by omega)) 47 dX3_dealtTo_23 (by decide) (fun c2 => ?_) (fun c2 => ?_)
        · refine ld_iload_n O (pc := 47) 2 dX3_dealtTo_47 rfl rfl ?_
          refine ld_aload_n O (pc := 48) 0 dX3_dealtTo_48 rfl rfl ?_
          refine ld_iload_n O (pc := 49) 1 dX3_dealtTo_49 rfl rfl ?_
          refine ld_callVi O (pc := 50) (As := [.int (nI k)]) (st := [.int c]) ld_recv8 (c_X3_sourOf l ad σ k (by omega) (hkt _ (by omega)).1) ld_mw_X3_sourOf ld_w198 rfl rfl ⟨by decide, by decide⟩ (Nat.le_of_ble_eq_true rfl) dX3_dealtTo_50 (fun r_p50 σ_p50 h_p50 => ?_)
          obtain ⟨rfl, hσ_p50⟩ := h_p50
          rw [hσ_p50]
          show K σ [(0, .ref (ad 8)), (1, .int (nI k)), (2, .int c), (3, .int (l_sum (ld_ss (σ 20) (σ 21)) h)), (4, .int w), (5, .int (nI i))] [.int (ld_sr (σ 20 k) (σ 21 k)), .int c] 53
          refine ld_imul O (pc := 53) dX3_dealtTo_53 ?_
          refine ld_iload_n O (pc := 54) 3 dX3_dealtTo_54 rfl rfl ?_
          refine ld_idiv O (pc := 55) dX3_dealtTo_55 ha0_ ?_
          refine ld_aload_n O (pc := 56) 0 dX3_dealtTo_56 rfl rfl ?_
          refine ld_iload_n O (pc := 57) 1 dX3_dealtTo_57 rfl rfl ?_
          refine ld_iload_n O (pc := 58) 2 dX3_dealtTo_58 rfl rfl ?_
          refine ld_iload_n O (pc := 59) 3 dX3_dealtTo_59 rfl rfl ?_
          refine ld_callVi O (pc := 60) (As := [.int (nI k), .int c, .int (l_sum (ld_ss (σ 20) (σ 21)) h)]) (st := [.int ((c * (ld_sr (σ 20 k) (σ 21 k))) / (l_sum (ld_ss (σ 20) (σ 21)) h))]) ld_recv8 (c_X3_aheadOf l ad σ h hh h8 hkt k (by omega) c (l_sum (ld_ss (σ 20) (σ 21)) h) ha_) ld_mw_X3_aheadOf ld_w210 rfl rfl ⟨by decide, by decide⟩ (Nat.le_of_ble_eq_true rfl) dX3_dealtTo_60 (fun r_p60 σ_p60 h_p60 => ?_)
          obtain ⟨rfl, hσ_p60⟩ := h_p60
          rw [hσ_p60]
          show K σ [(0, .ref (ad 8)), (1, .int (nI k)), (2, .int c), (3, .int (l_sum (ld_ss (σ 20) (σ 21)) h)), (4, .int w), (5, .int (nI i))] [.int (nI (ld_ah (ld_r (l_sum (ld_ss (σ 20) (σ 21)) h) c (ld_ss (σ 20) (σ 21))) h k)), .int ((c * (ld_sr (σ 20 k) (σ 21 k))) / (l_sum (ld_ss (σ 20) (σ 21)) h))] 63
          have hb_ := ld_ah_le (ld_r (l_sum (ld_ss (σ 20) (σ 21)) h) c (ld_ss (σ 20) (σ 21))) h k
          refine ld_iload O (pc := 63) 4 dX3_dealtTo_63 rfl ?_
          refine ld_icmp_ge O (pc := 65) ((ld_ah (ld_r (l_sum (ld_ss (σ 20) (σ 21)) h) c (ld_ss (σ 20) (σ 21))) h k : Nat) : Int) (w).toInt (nI_toInt (by omega)) rfl 72 dX3_dealtTo_65 (by decide) (fun c3 => ?_) (fun c3 => ?_)
          · refine ld_iconst O (pc := 72) (v := nI 0) dX3_dealtTo_72 (by decide) ?_
            refine ld_iadd O (pc := 73) dX3_dealtTo_73 ?_
            refine ld_ireti E dX3_dealtTo_74 ?_
            refine ⟨?_, rfl⟩
            rw [show i = h by omega] at hw
            unfold ld_dt ld_dl
            have eq_ : ld_q (l_sum (ld_ss (σ 20) (σ 21)) h) c (ld_ss (σ 20) (σ 21)) k = c * ld_sr (σ 20 k) (σ 21 k) / (l_sum (ld_ss (σ 20) (σ 21)) h) := if_neg ha_
            rw [← hw, eq_]
            first | (rw [if_pos (by omega)]; done) | (rw [if_neg (by omega)]; exact Int32.add_zero _)
          · refine ld_iconst O (pc := 68) (v := nI 1) dX3_dealtTo_68 (by decide) ?_
            refine ld_goto O (pc := 69) 73 dX3_dealtTo_69 (by decide) ?_
            refine ld_iadd O (pc := 73) dX3_dealtTo_73 ?_
            refine ld_ireti E dX3_dealtTo_74 ?_
            refine ⟨?_, rfl⟩
            rw [show i = h by omega] at hw
            unfold ld_dt ld_dl
            have eq_ : ld_q (l_sum (ld_ss (σ 20) (σ 21)) h) c (ld_ss (σ 20) (σ 21)) k = c * ld_sr (σ 20 k) (σ 21 k) / (l_sum (ld_ss (σ 20) (σ 21)) h) := if_neg ha_
            rw [← hw, eq_]
            first | (rw [if_pos (by omega)]; done) | (rw [if_neg (by omega)]; exact Int32.add_zero _)
        · refine ld_iload O (pc := 26) 4 dX3_dealtTo_26 rfl ?_
          refine ld_iload_n O (pc := 28) 2 dX3_dealtTo_28 rfl rfl ?_
          refine ld_aload_n O (pc := 29) 0 dX3_dealtTo_29 rfl rfl ?_
          refine ld_iload O (pc := 30) 5 dX3_dealtTo_30 rfl ?_
          refine ld_callVi O (pc := 32) (As := [.int (nI i)]) (st := [.int c, .int w]) ld_recv8 (c_X3_sourOf l ad σ i (by omega) (hkt _ (by omega)).1) ld_mw_X3_sourOf ld_w198 rfl rfl ⟨by decide, by decide⟩ (Nat.le_of_ble_eq_true rfl) dX3_dealtTo_32 (fun r_p32 σ_p32 h_p32 => ?_)
          obtain ⟨rfl, hσ_p32⟩ := h_p32
          rw [hσ_p32]
          show K σ [(0, .ref (ad 8)), (1, .int (nI k)), (2, .int c), (3, .int (l_sum (ld_ss (σ 20) (σ 21)) h)), (4, .int w), (5, .int (nI i))] [.int (ld_sr (σ 20 i) (σ 21 i)), .int c, .int w] 35
          refine ld_imul O (pc := 35) dX3_dealtTo_35 ?_
          refine ld_iload_n O (pc := 36) 3 dX3_dealtTo_36 rfl rfl ?_
          refine ld_idiv O (pc := 37) dX3_dealtTo_37 ha0_ ?_
          refine ld_isub O (pc := 38) dX3_dealtTo_38 ?_
          refine ld_istore O (pc := 39) [(4, .int (w - ((c * (ld_sr (σ 20 i) (σ 21 i))) / (l_sum (ld_ss (σ 20) (σ 21)) h)))), (0, .ref (ad 8)), (1, .int (nI k)), (2, .int c), (3, .int (l_sum (ld_ss (σ 20) (σ 21)) h)), (5, .int (nI i))] dX3_dealtTo_39 (by decide) rfl ?_
          refine ld_iincN O (pc := 41) [(5, .int (nI (i + 1))), (4, .int (w - ((c * (ld_sr (σ 20 i) (σ 21 i))) / (l_sum (ld_ss (σ 20) (σ 21)) h)))), (0, .ref (ad 8)), (1, .int (nI k)), (2, .int c), (3, .int (l_sum (ld_ss (σ 20) (σ 21)) h))] 5 dX3_dealtTo_41 rfl (by decide) rfl ?_
          refine ld_goto O (pc := 44) 17 dX3_dealtTo_44 (by decide) ?_
          refine ld_less O [2, 3, 4, 5, 1, 0] (lv2 := [(0, .ref (ad 8)), (1, .int (nI k)), (2, .int c), (3, .int (l_sum (ld_ss (σ 20) (σ 21)) h)), (4, .int (w - ((c * (ld_sr (σ 20 i) (σ 21 i))) / (l_sum (ld_ss (σ 20) (σ 21)) h)))), (5, .int (nI (i + 1)))]) rfl ?_
          exact ih17 (i + 1) (w - ((c * (ld_sr (σ 20 i) (σ 21 i))) / (l_sum (ld_ss (σ 20) (σ 21)) h))) (by omega) (by omega) (by rw [hw]; show _ = ld_lf _ c _ i - ld_q _ c _ i; unfold ld_q; rw [if_neg ha_]; rfl)
    refine ld_less O [3, 4, 5, 2, 1, 0] (lv2 := [(0, .ref (ad 8)), (1, .int (nI k)), (2, .int c), (3, .int (l_sum (ld_ss (σ 20) (σ 21)) h)), (4, .int c), (5, .int (nI 0))]) rfl ?_
    exact L17 _ 0 c (Nat.lt_succ_self _) (Nat.zero_le _) (if_neg ha_).symm
  · refine ld_iconst O (pc := 9) (v := nI 0) dX3_dealtTo_9 (by decide) ?_
    refine ld_ireti E dX3_dealtTo_10 ?_
    refine ⟨?_, rfl⟩
    unfold ld_dt ld_dl
    have e0 : ∀ x, ld_q (l_sum (ld_ss (σ 20) (σ 21)) h) c (ld_ss (σ 20) (σ 21)) x = nI 0 := fun x => if_pos (by omega)
    have e1 : ∀ n, ld_lf (l_sum (ld_ss (σ 20) (σ 21)) h) c (ld_ss (σ 20) (σ 21)) n = nI 0 := by
      intro n
      induction n with
      | zero => exact if_pos (by omega)
      | succ n ih => show _ - _ = _; rw [ih, e0]; decide
    rw [e1, e0, if_neg (by rw [show (nI 0).toInt = 0 by decide]; omega)]
