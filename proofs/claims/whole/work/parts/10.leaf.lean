def ld_sr (kd t : Int32) : Int32 := if kd.toInt = 1 then t + nI 1 else if kd.toInt = 2 then nI 2 * (t + nI 1) else t
def ld_kl (c : Int32) : Int32 := if c.toInt = 98 then nI 2 else if c.toInt = 112 then nI 0 else if c.toInt = 116 then nI 1 else (-9 : Int32)
def ld_lc (lane v : Int32) : Int32 := if lane.toInt = 0 then v.toInt8.toInt32 else if lane.toInt = 1 then v.toInt16.toInt32 else v
set_option maxHeartbeats 4000000 in
set_option maxRecDepth 100000 in
theorem c_X2_isSheet (l : Launch) (ad : Nat → Nat) (σ : ld_St) (k : Int32) : ld_Ctr l yX2_isSheet cX2_isSheet 1 (some .boolean) (0, 0) [.int k] ad σ (ld_I (fun (r : Int32) (σ2 : ld_St) => r = ld_b (0 ≤ k.toInt ∧ k.toInt < 4) ∧ σ2 = σ)) := by
  refine ld_entry (by decide +kernel) (Nat.le_of_ble_eq_true rfl) (fun K O E => ?_)
  have O : ld_Ok l K ad cX2_isSheet 1 RX2 (ld_rm (0, 0)) := O
  show K σ [(0, .int k)] [] 0
  refine ld_iload_n O (pc := 0) 0 dX2_isSheet_0 rfl rfl ?_
  refine ld_if_lt O (pc := 1) (k).toInt rfl 13 dX2_isSheet_1 (by decide) (fun c1 => ?_) (fun c1 => ?_)
  · refine ld_iconst O (pc := 13) (v := nI 0) dX2_isSheet_13 (by decide) ?_
    refine ld_iretz E (Or.inl rfl) dX2_isSheet_14 ?_
    exact ⟨(ld_b_f (by omega)).symm, rfl⟩
  · refine ld_iload_n O (pc := 4) 0 dX2_isSheet_4 rfl rfl ?_
    refine ld_iconst O (pc := 5) (v := nI 4) dX2_isSheet_5 (by decide) ?_
    refine ld_icmp_ge O (pc := 6) (k).toInt 4 rfl (by decide) 13 dX2_isSheet_6 (by decide) (fun c2 => ?_) (fun c2 => ?_)
    · refine ld_iconst O (pc := 13) (v := nI 0) dX2_isSheet_13 (by decide) ?_
      refine ld_iretz E (Or.inl rfl) dX2_isSheet_14 ?_
      exact ⟨(ld_b_f (by omega)).symm, rfl⟩
    · refine ld_iconst O (pc := 9) (v := nI 1) dX2_isSheet_9 (by decide) ?_
      refine ld_goto O (pc := 10) 14 dX2_isSheet_10 (by decide) ?_
      refine ld_iretz E (Or.inr rfl) dX2_isSheet_14 ?_
      exact ⟨(ld_b_t (by omega)).symm, rfl⟩
set_option maxHeartbeats 4000000 in
set_option maxRecDepth 100000 in
theorem c_X2_isLane (l : Launch) (ad : Nat → Nat) (σ : ld_St) (k : Int32) : ld_Ctr l yX2_isLane cX2_isLane 1 (some .boolean) (0, 0) [.int k] ad σ (ld_I (fun (r : Int32) (σ2 : ld_St) => r = ld_b (0 ≤ k.toInt ∧ k.toInt < 3) ∧ σ2 = σ)) := by
  refine ld_entry (by decide +kernel) (Nat.le_of_ble_eq_true rfl) (fun K O E => ?_)
  have O : ld_Ok l K ad cX2_isLane 1 RX2 (ld_rm (0, 0)) := O
  show K σ [(0, .int k)] [] 0
  refine ld_iload_n O (pc := 0) 0 dX2_isLane_0 rfl rfl ?_
  refine ld_if_lt O (pc := 1) (k).toInt rfl 13 dX2_isLane_1 (by decide) (fun c1 => ?_) (fun c1 => ?_)
  · refine ld_iconst O (pc := 13) (v := nI 0) dX2_isLane_13 (by decide) ?_
    refine ld_iretz E (Or.inl rfl) dX2_isLane_14 ?_
    exact ⟨(ld_b_f (by omega)).symm, rfl⟩
  · refine ld_iload_n O (pc := 4) 0 dX2_isLane_4 rfl rfl ?_
    refine ld_iconst O (pc := 5) (v := nI 3) dX2_isLane_5 (by decide) ?_
    refine ld_icmp_ge O (pc := 6) (k).toInt 3 rfl (by decide) 13 dX2_isLane_6 (by decide) (fun c2 => ?_) (fun c2 => ?_)
    · refine ld_iconst O (pc := 13) (v := nI 0) dX2_isLane_13 (by decide) ?_
      refine ld_iretz E (Or.inl rfl) dX2_isLane_14 ?_
      exact ⟨(ld_b_f (by omega)).symm, rfl⟩
    · refine ld_iconst O (pc := 9) (v := nI 1) dX2_isLane_9 (by decide) ?_
      refine ld_goto O (pc := 10) 14 dX2_isLane_10 (by decide) ?_
      refine ld_iretz E (Or.inr rfl) dX2_isLane_14 ?_
      exact ⟨(ld_b_t (by omega)).symm, rfl⟩
set_option maxHeartbeats 4000000 in
set_option maxRecDepth 100000 in
theorem c_X2_isTemper (l : Launch) (ad : Nat → Nat) (σ : ld_St) (k : Int32) : ld_Ctr l yX2_isTemper cX2_isTemper 1 (some .boolean) (0, 0) [.int k] ad σ (ld_I (fun (r : Int32) (σ2 : ld_St) => r = ld_b (0 ≤ k.toInt ∧ k.toInt < 10) ∧ σ2 = σ)) := by
  refine ld_entry (by decide +kernel) (Nat.le_of_ble_eq_true rfl) (fun K O E => ?_)
  have O : ld_Ok l K ad cX2_isTemper 1 RX2 (ld_rm (0, 0)) := O
  show K σ [(0, .int k)] [] 0
  refine ld_iload_n O (pc := 0) 0 dX2_isTemper_0 rfl rfl ?_
  refine ld_if_lt O (pc := 1) (k).toInt rfl 14 dX2_isTemper_1 (by decide) (fun c1 => ?_) (fun c1 => ?_)
  · refine ld_iconst O (pc := 14) (v := nI 0) dX2_isTemper_14 (by decide) ?_
    refine ld_iretz E (Or.inl rfl) dX2_isTemper_15 ?_
    exact ⟨(ld_b_f (by omega)).symm, rfl⟩
  · refine ld_iload_n O (pc := 4) 0 dX2_isTemper_4 rfl rfl ?_
    refine ld_bipush O (pc := 5) (v := nI 9) dX2_isTemper_5 (by decide) ?_
    refine ld_icmp_gt O (pc := 7) (k).toInt 9 rfl (by decide) 14 dX2_isTemper_7 (by decide) (fun c2 => ?_) (fun c2 => ?_)
    · refine ld_iconst O (pc := 14) (v := nI 0) dX2_isTemper_14 (by decide) ?_
      refine ld_iretz E (Or.inl rfl) dX2_isTemper_15 ?_
      exact ⟨(ld_b_f (by omega)).symm, rfl⟩
    · refine ld_iconst O (pc := 10) (v := nI 1) dX2_isTemper_10 (by decide) ?_
      refine ld_goto O (pc := 11) 15 dX2_isTemper_11 (by decide) ?_
      refine ld_iretz E (Or.inr rfl) dX2_isTemper_15 ?_
      exact ⟨(ld_b_t (by omega)).symm, rfl⟩
set_option maxHeartbeats 4000000 in
set_option maxRecDepth 100000 in
theorem c_X2_isCrate (l : Launch) (ad : Nat → Nat) (σ : ld_St) (k : Int32) : ld_Ctr l yX2_isCrate cX2_isCrate 1 (some .boolean) (0, 0) [.int k] ad σ (ld_I (fun (r : Int32) (σ2 : ld_St) => r = ld_b (0 ≤ k.toInt ∧ k.toInt < 100) ∧ σ2 = σ)) := by
  refine ld_entry (by decide +kernel) (Nat.le_of_ble_eq_true rfl) (fun K O E => ?_)
  have O : ld_Ok l K ad cX2_isCrate 1 RX2 (ld_rm (0, 0)) := O
  show K σ [(0, .int k)] [] 0
  refine ld_iload_n O (pc := 0) 0 dX2_isCrate_0 rfl rfl ?_
  refine ld_if_lt O (pc := 1) (k).toInt rfl 14 dX2_isCrate_1 (by decide) (fun c1 => ?_) (fun c1 => ?_)
  · refine ld_iconst O (pc := 14) (v := nI 0) dX2_isCrate_14 (by decide) ?_
    refine ld_iretz E (Or.inl rfl) dX2_isCrate_15 ?_
    exact ⟨(ld_b_f (by omega)).symm, rfl⟩
  · refine ld_iload_n O (pc := 4) 0 dX2_isCrate_4 rfl rfl ?_
    refine ld_bipush O (pc := 5) (v := nI 99) dX2_isCrate_5 (by decide) ?_
    refine ld_icmp_gt O (pc := 7) (k).toInt 99 rfl (by decide) 14 dX2_isCrate_7 (by decide) (fun c2 => ?_) (fun c2 => ?_)
    · refine ld_iconst O (pc := 14) (v := nI 0) dX2_isCrate_14 (by decide) ?_
      refine ld_iretz E (Or.inl rfl) dX2_isCrate_15 ?_
      exact ⟨(ld_b_f (by omega)).symm, rfl⟩
    · refine ld_iconst O (pc := 10) (v := nI 1) dX2_isCrate_10 (by decide) ?_
      refine ld_goto O (pc := 11) 15 dX2_isCrate_11 (by decide) ?_
      refine ld_iretz E (Or.inr rfl) dX2_isCrate_15 ?_
      exact ⟨(ld_b_t (by omega)).symm, rfl⟩
set_option maxHeartbeats 4000000 in
set_option maxRecDepth 100000 in
theorem c_X2_isDigit (l : Launch) (ad : Nat → Nat) (σ : ld_St) (k : Int32) : ld_Ctr l yX2_isDigit cX2_isDigit 1 (some .boolean) (0, 0) [.int k] ad σ (ld_I (fun (r : Int32) (σ2 : ld_St) => r = ld_b (48 ≤ k.toInt ∧ k.toInt < 58) ∧ σ2 = σ)) := by
  refine ld_entry (by decide +kernel) (Nat.le_of_ble_eq_true rfl) (fun K O E => ?_)
  have O : ld_Ok l K ad cX2_isDigit 1 RX2 (ld_rm (0, 0)) := O
  show K σ [(0, .int k)] [] 0
  refine ld_iload_n O (pc := 0) 0 dX2_isDigit_0 rfl rfl ?_
  refine ld_bipush O (pc := 1) (v := nI 48) dX2_isDigit_1 (by decide) ?_
  refine ld_icmp_lt O (pc := 3) (k).toInt 48 rfl (by decide) 16 dX2_isDigit_3 (by decide) (fun c1 => ?_) (fun c1 => ?_)
  · refine ld_iconst O (pc := 16) (v := nI 0) dX2_isDigit_16 (by decide) ?_
    refine ld_iretz E (Or.inl rfl) dX2_isDigit_17 ?_
    exact ⟨(ld_b_f (by omega)).symm, rfl⟩
  · refine ld_iload_n O (pc := 6) 0 dX2_isDigit_6 rfl rfl ?_
    refine ld_bipush O (pc := 7) (v := nI 57) dX2_isDigit_7 (by decide) ?_
    refine ld_icmp_gt O (pc := 9) (k).toInt 57 rfl (by decide) 16 dX2_isDigit_9 (by decide) (fun c2 => ?_) (fun c2 => ?_)
    · refine ld_iconst O (pc := 16) (v := nI 0) dX2_isDigit_16 (by decide) ?_
      refine ld_iretz E (Or.inl rfl) dX2_isDigit_17 ?_
      exact ⟨(ld_b_f (by omega)).symm, rfl⟩
    · refine ld_iconst O (pc := 12) (v := nI 1) dX2_isDigit_12 (by decide) ?_
      refine ld_goto O (pc := 13) 17 dX2_isDigit_13 (by decide) ?_
      refine ld_iretz E (Or.inr rfl) dX2_isDigit_17 ?_
      exact ⟨(ld_b_t (by omega)).symm, rfl⟩
set_option maxHeartbeats 4000000 in
set_option maxRecDepth 100000 in
theorem c_X2_isAskedOfSeason (l : Launch) (ad : Nat → Nat) (σ : ld_St) (k : Int32) : ld_Ctr l yX2_isAskedOfSeason cX2_isAskedOfSeason 1 (some .boolean) (0, 0) [.int k] ad σ (ld_I (fun (r : Int32) (σ2 : ld_St) => r = ld_b ((0 ≤ k.toInt ∧ k.toInt ≤ 4) ∨ (10 ≤ k.toInt ∧ k.toInt < 18)) ∧ σ2 = σ)) := by
  refine ld_entry (by decide +kernel) (Nat.le_of_ble_eq_true rfl) (fun K O E => ?_)
  have O : ld_Ok l K ad cX2_isAskedOfSeason 1 RX2 (ld_rm (0, 0)) := O
  show K σ [(0, .int k)] [] 0
  refine ld_iload_n O (pc := 0) 0 dX2_isAskedOfSeason_0 rfl rfl ?_
  refine ld_if_lt O (pc := 1) (k).toInt rfl 9 dX2_isAskedOfSeason_1 (by decide) (fun c1 => ?_) (fun c1 => ?_)
  · refine ld_iload_n O (pc := 9) 0 dX2_isAskedOfSeason_9 rfl rfl ?_
    refine ld_bipush O (pc := 10) (v := nI 10) dX2_isAskedOfSeason_10 (by decide) ?_
    refine ld_icmp_lt O (pc := 12) (k).toInt 10 rfl (by decide) 25 dX2_isAskedOfSeason_12 (by decide) (fun c2 => ?_) (fun c2 => ?_)
    · refine ld_iconst O (pc := 25) (v := nI 0) dX2_isAskedOfSeason_25 (by decide) ?_
      refine ld_iretz E (Or.inl rfl) dX2_isAskedOfSeason_26 ?_
      exact ⟨(ld_b_f (by omega)).symm, rfl⟩
    · refine ld_iload_n O (pc := 15) 0 dX2_isAskedOfSeason_15 rfl rfl ?_
      refine ld_bipush O (pc := 16) (v := nI 18) dX2_isAskedOfSeason_16 (by decide) ?_
      refine ld_icmp_ge O (pc := 18) (k).toInt 18 rfl (by decide) 25 dX2_isAskedOfSeason_18 (by decide) (fun c3 => ?_) (fun c3 => ?_)
      · refine ld_iconst O (pc := 25) (v := nI 0) dX2_isAskedOfSeason_25 (by decide) ?_
        refine ld_iretz E (Or.inl rfl) dX2_isAskedOfSeason_26 ?_
        exact ⟨(ld_b_f (by omega)).symm, rfl⟩
      · refine ld_iconst O (pc := 21) (v := nI 1) dX2_isAskedOfSeason_21 (by decide) ?_
        refine ld_goto O (pc := 22) 26 dX2_isAskedOfSeason_22 (by decide) ?_
        refine ld_iretz E (Or.inr rfl) dX2_isAskedOfSeason_26 ?_
        exact ⟨(ld_b_t (by omega)).symm, rfl⟩
  · refine ld_iload_n O (pc := 4) 0 dX2_isAskedOfSeason_4 rfl rfl ?_
    refine ld_iconst O (pc := 5) (v := nI 4) dX2_isAskedOfSeason_5 (by decide) ?_
    refine ld_icmp_le O (pc := 6) (k).toInt 4 rfl (by decide) 21 dX2_isAskedOfSeason_6 (by decide) (fun c4 => ?_) (fun c4 => ?_)
    · refine ld_iconst O (pc := 21) (v := nI 1) dX2_isAskedOfSeason_21 (by decide) ?_
      refine ld_goto O (pc := 22) 26 dX2_isAskedOfSeason_22 (by decide) ?_
      refine ld_iretz E (Or.inr rfl) dX2_isAskedOfSeason_26 ?_
      exact ⟨(ld_b_t (by omega)).symm, rfl⟩
    · refine ld_iload_n O (pc := 9) 0 dX2_isAskedOfSeason_9 rfl rfl ?_
      refine ld_bipush O (pc := 10) (v := nI 10) dX2_isAskedOfSeason_10 (by decide) ?_
      refine ld_icmp_lt O (pc := 12) (k).toInt 10 rfl (by decide) 25 dX2_isAskedOfSeason_12 (by decide) (fun c5 => ?_) (fun c5 => ?_)
      · refine ld_iconst O (pc := 25) (v := nI 0) dX2_isAskedOfSeason_25 (by decide) ?_
        refine ld_iretz E (Or.inl rfl) dX2_isAskedOfSeason_26 ?_
        exact ⟨(ld_b_f (by omega)).symm, rfl⟩
      · refine ld_iload_n O (pc := 15) 0 dX2_isAskedOfSeason_15 rfl rfl ?_
        refine ld_bipush O (pc := 16) (v := nI 18) dX2_isAskedOfSeason_16 (by decide) ?_
        refine ld_icmp_ge O (pc := 18) (k).toInt 18 rfl (by decide) 25 dX2_isAskedOfSeason_18 (by decide) (fun c6 => ?_) (fun c6 => ?_)
        · refine ld_iconst O (pc := 25) (v := nI 0) dX2_isAskedOfSeason_25 (by decide) ?_
          refine ld_iretz E (Or.inl rfl) dX2_isAskedOfSeason_26 ?_
          exact ⟨(ld_b_f (by omega)).symm, rfl⟩
        · refine ld_iconst O (pc := 21) (v := nI 1) dX2_isAskedOfSeason_21 (by decide) ?_
          refine ld_goto O (pc := 22) 26 dX2_isAskedOfSeason_22 (by decide) ?_
          refine ld_iretz E (Or.inr rfl) dX2_isAskedOfSeason_26 ?_
          exact ⟨(ld_b_t (by omega)).symm, rfl⟩
set_option maxHeartbeats 4000000 in
set_option maxRecDepth 100000 in
theorem c_X2_kindByLetter (l : Launch) (ad : Nat → Nat) (σ : ld_St) (k : Int32) : ld_Ctr l yX2_kindByLetter cX2_kindByLetter 1 (some .int) (0, 0) [.int k] ad σ (ld_I (fun (r : Int32) (σ2 : ld_St) => r = ld_kl k ∧ σ2 = σ)) := by
  refine ld_entry (by decide +kernel) (Nat.le_of_ble_eq_true rfl) (fun K O E => ?_)
  have O : ld_Ok l K ad cX2_kindByLetter 1 RX2 (ld_rm (0, 0)) := O
  show K σ [(0, .int k)] [] 0
  refine ld_iload_n O (pc := 0) 0 dX2_kindByLetter_0 rfl rfl ?_
  by_cases t1 : (k).toInt = 98
  · refine ld_look O (pc := 1) 40 dX2_kindByLetter_1 (by decide) (off := 39) (by rw [t1]; rfl) (by decide) ?_
    refine ld_iconst O (pc := 40) (v := nI 2) dX2_kindByLetter_40 (by decide) ?_
    refine ld_ireti E dX2_kindByLetter_41 ?_
    exact ⟨by simp [ld_kl, t1], rfl⟩
  by_cases t2 : (k).toInt = 112
  · refine ld_look O (pc := 1) 36 dX2_kindByLetter_1 (by decide) (off := 35) (by rw [t2]; rfl) (by decide) ?_
    refine ld_iconst O (pc := 36) (v := nI 0) dX2_kindByLetter_36 (by decide) ?_
    refine ld_ireti E dX2_kindByLetter_37 ?_
    exact ⟨by simp [ld_kl, t1, t2], rfl⟩
  by_cases t3 : (k).toInt = 116
  · refine ld_look O (pc := 1) 38 dX2_kindByLetter_1 (by decide) (off := 37) (by rw [t3]; rfl) (by decide) ?_
    refine ld_iconst O (pc := 38) (v := nI 1) dX2_kindByLetter_38 (by decide) ?_
    refine ld_ireti E dX2_kindByLetter_39 ?_
    exact ⟨by simp [ld_kl, t1, t2, t3], rfl⟩
  refine ld_look O (pc := 1) 42 dX2_kindByLetter_1 (by decide) (off := 41) (by show Op.lookupswitch.offset [((98 : Int), (39 : Int)), ((112 : Int), (35 : Int)), ((116 : Int), (37 : Int))] (41) _ = _; rw [Op.lookupswitch.offset_cons, if_neg (fun z => t1 z.symm), Op.lookupswitch.offset_cons, if_neg (fun z => t2 z.symm), Op.lookupswitch.offset_cons, if_neg (fun z => t3 z.symm)]; rfl) (by decide) ?_
  refine ld_bipush O (pc := 42) (v := (-9 : Int32)) dX2_kindByLetter_42 (by decide) ?_
  refine ld_ireti E dX2_kindByLetter_44 ?_
  exact ⟨by simp [ld_kl, t1, t2, t3], rfl⟩
set_option maxHeartbeats 4000000 in
set_option maxRecDepth 100000 in
theorem c_X2_isHouse (l : Launch) (ad : Nat → Nat) (σ : ld_St) (k : Int32) (h : Nat) (hh : σ 110 0 = nI h) (h8 : h ≤ 8) : ld_Ctr l yX2_isHouse cX2_isHouse 2 (some .boolean) (0, 0) [.ref (ad 0), .int k] ad σ (ld_I (fun (r : Int32) (σ2 : ld_St) => r = ld_b (0 ≤ k.toInt ∧ k.toInt < (h : Int)) ∧ σ2 = σ)) := by
  refine ld_entry (by decide +kernel) (Nat.le_of_ble_eq_true rfl) (fun K O E => ?_)
  have O : ld_Ok l K ad cX2_isHouse 2 RX2 (ld_rm (0, 0)) := O
  show K σ [(0, .ref (ad 0)), (1, .int k)] [] 0
  refine ld_iload_n O (pc := 0) 1 dX2_isHouse_0 rfl rfl ?_
  refine ld_if_lt O (pc := 1) (k).toInt rfl 19 dX2_isHouse_1 (by decide) (fun c1 => ?_) (fun c1 => ?_)
  · refine ld_iconst O (pc := 19) (v := nI 0) dX2_isHouse_19 (by decide) ?_
    refine ld_iretz E (Or.inl rfl) dX2_isHouse_20 ?_
    exact ⟨(ld_b_f (by omega)).symm, rfl⟩
  · refine ld_iload_n O (pc := 4) 1 dX2_isHouse_4 rfl rfl ?_
    refine ld_aload_n O (pc := 5) 0 dX2_isHouse_5 rfl rfl ?_
    refine ld_g_LD_now O (pc := 6) ld_w15 dX2_isHouse_6 ?_
    refine ld_g_now_housesN O (pc := 9) (v := nI h) (List.mem_of_getElem? (i := 1) rfl) hh dX2_isHouse_9 ?_
    refine ld_icmp_ge O (pc := 12) (k).toInt ((h : Nat) : Int) rfl (nI_toInt (by omega)) 19 dX2_isHouse_12 (by decide) (fun c2 => ?_) (fun c2 => ?_)
    · refine ld_iconst O (pc := 19) (v := nI 0) dX2_isHouse_19 (by decide) ?_
      refine ld_iretz E (Or.inl rfl) dX2_isHouse_20 ?_
      exact ⟨(ld_b_f (by omega)).symm, rfl⟩
    · refine ld_iconst O (pc := 15) (v := nI 1) dX2_isHouse_15 (by decide) ?_
      refine ld_goto O (pc := 16) 20 dX2_isHouse_16 (by decide) ?_
      refine ld_iretz E (Or.inr rfl) dX2_isHouse_20 ?_
      exact ⟨(ld_b_t (by omega)).symm, rfl⟩
set_option maxHeartbeats 4000000 in
set_option maxRecDepth 100000 in
theorem c_X2_hasStreet (l : Launch) (ad : Nat → Nat) (σ : ld_St) (h : Nat) (hh : σ 110 0 = nI h) (h8 : h ≤ 8) : ld_Ctr l yX2_hasStreet cX2_hasStreet 1 (some .boolean) (0, 0) [.ref (ad 0)] ad σ (ld_I (fun (r : Int32) (σ2 : ld_St) => r = ld_b (0 < h) ∧ σ2 = σ)) := by
  refine ld_entry (by decide +kernel) (Nat.le_of_ble_eq_true rfl) (fun K O E => ?_)
  have O : ld_Ok l K ad cX2_hasStreet 1 RX2 (ld_rm (0, 0)) := O
  show K σ [(0, .ref (ad 0))] [] 0
  refine ld_aload_n O (pc := 0) 0 dX2_hasStreet_0 rfl rfl ?_
  refine ld_g_LD_now O (pc := 1) ld_w15 dX2_hasStreet_1 ?_
  refine ld_g_now_housesN O (pc := 4) (v := nI h) (List.mem_of_getElem? (i := 1) rfl) hh dX2_hasStreet_4 ?_
  refine ld_if_le O (pc := 7) ((h : Nat) : Int) (nI_toInt (by omega)) 14 dX2_hasStreet_7 (by decide) (fun c1 => ?_) (fun c1 => ?_)
  · refine ld_iconst O (pc := 14) (v := nI 0) dX2_hasStreet_14 (by decide) ?_
    refine ld_iretz E (Or.inl rfl) dX2_hasStreet_15 ?_
    exact ⟨(ld_b_f (by omega)).symm, rfl⟩
  · refine ld_iconst O (pc := 10) (v := nI 1) dX2_hasStreet_10 (by decide) ?_
    refine ld_goto O (pc := 11) 15 dX2_hasStreet_11 (by decide) ?_
    refine ld_iretz E (Or.inr rfl) dX2_hasStreet_15 ?_
    exact ⟨(ld_b_t (by omega)).symm, rfl⟩
set_option maxHeartbeats 4000000 in
set_option maxRecDepth 100000 in
theorem c_X2_fails (l : Launch) (ad : Nat → Nat) (σ : ld_St) (w : Int32) : ld_Ctr l yX2_fails cX2_fails 2 (some .int) (0, 0) [.ref (ad 0), .int w] ad σ (ld_I (fun (r : Int32) (σ2 : ld_St) => r = (-10 : Int32) - w ∧ σ2 = us σ 102 (fun _ => w))) := by
  refine ld_entry (by decide +kernel) (Nat.le_of_ble_eq_true rfl) (fun K O E => ?_)
  have O : ld_Ok l K ad cX2_fails 2 RX2 (ld_rm (0, 0)) := O
  show K σ [(0, .ref (ad 0)), (1, .int w)] [] 0
  refine ld_aload_n O (pc := 0) 0 dX2_fails_0 rfl rfl ?_
  refine ld_iload_n O (pc := 1) 1 dX2_fails_1 rfl rfl ?_
  refine ld_p_LD_lastFault O (pc := 2) ld_w24 dX2_fails_2 ?_
  refine ld_bipush O (pc := 5) (v := (-10 : Int32)) dX2_fails_5 (by decide) ?_
  refine ld_iload_n O (pc := 7) 1 dX2_fails_7 rfl rfl ?_
  refine ld_isub O (pc := 8) dX2_fails_8 ?_
  refine ld_ireti E dX2_fails_9 ?_
  exact ⟨rfl, rfl⟩
set_option maxHeartbeats 4000000 in
set_option maxRecDepth 100000 in
theorem c_X2_leaveInTrace (l : Launch) (ad : Nat → Nat) (σ : ld_St) (w : Int32) : ld_Ctr l yX2_leaveInTrace cX2_leaveInTrace 2 none (0, 0) [.ref (ad 0), .int w] ad σ (ld_V (fun (σ2 : ld_St) => σ2 = us σ 101 (fun _ => nI 31 * σ 101 0 + w))) := by
  refine ld_entry (by decide +kernel) (Nat.le_of_ble_eq_true rfl) (fun K O E => ?_)
  have O : ld_Ok l K ad cX2_leaveInTrace 2 RX2 (ld_rm (0, 0)) := O
  show K σ [(0, .ref (ad 0)), (1, .int w)] [] 0
  refine ld_aload_n O (pc := 0) 0 dX2_leaveInTrace_0 rfl rfl ?_
  refine ld_bipush O (pc := 1) (v := nI 31) dX2_leaveInTrace_1 (by decide) ?_
  refine ld_aload_n O (pc := 3) 0 dX2_leaveInTrace_3 rfl rfl ?_
  refine ld_g_LD_traced O (pc := 4) (v := σ 101 0) ld_w23 rfl dX2_leaveInTrace_4 ?_
  refine ld_imul O (pc := 7) dX2_leaveInTrace_7 ?_
  refine ld_iload_n O (pc := 8) 1 dX2_leaveInTrace_8 rfl rfl ?_
  refine ld_iadd O (pc := 9) dX2_leaveInTrace_9 ?_
  refine ld_p_LD_traced O (pc := 10) ld_w23 dX2_leaveInTrace_10 ?_
  refine ld_vret E dX2_leaveInTrace_13 ?_
  exact rfl
set_option maxHeartbeats 4000000 in
set_option maxRecDepth 100000 in
theorem c_X1_treesOf_0 (l : Launch) (ad : Nat → Nat) (σ : ld_St) (k : Nat) (hk : k < 8) : ld_Ctr l yX1_treesOf cX1_treesOf 2 (some .int) (0, 0) [.ref (ad 1), .int (nI k)] ad σ (ld_I (fun (r : Int32) (σ2 : ld_St) => r = σ 3 k / nI 4 ∧ σ2 = σ)) := by
  refine ld_entry (by decide +kernel) (Nat.le_of_ble_eq_true rfl) (fun K O E => ?_)
  have O : ld_Ok l K ad cX1_treesOf 2 RX1 (ld_rm (0, 0)) := O
  show K σ [(0, .ref (ad 1)), (1, .int (nI k))] [] 0
  refine ld_aload_n O (pc := 0) 0 dX1_treesOf_0 rfl rfl ?_
  refine ld_g_now_pips O (pc := 1) ld_w37 dX1_treesOf_1 ?_
  refine ld_iload_n O (pc := 4) 1 dX1_treesOf_4 rfl rfl ?_
  refine ld_iald O (pc := 5) 3 k (v := σ 3 k) rfl (by decide) (show k < 8 by omega) rfl dX1_treesOf_5 ?_
  refine ld_iconst O (pc := 6) (v := nI 4) dX1_treesOf_6 (by decide) ?_
  refine ld_idiv O (pc := 7) dX1_treesOf_7 (by decide) ?_
  refine ld_ireti E dX1_treesOf_8 ?_
  exact ⟨rfl, rfl⟩
set_option maxHeartbeats 4000000 in
set_option maxRecDepth 100000 in
theorem c_X1_sourOf_0 (l : Launch) (ad : Nat → Nat) (σ : ld_St) (k : Nat) (hk : k < 8) : ld_Ctr l yX1_sourOf cX1_sourOf 2 (some .int) (0, 0) [.ref (ad 1), .int (nI k)] ad σ (ld_I (fun (r : Int32) (σ2 : ld_St) => r = ld_sr (σ 0 k) (σ 1 k) ∧ σ2 = σ)) := by
  refine ld_entry (by decide +kernel) (Nat.le_of_ble_eq_true rfl) (fun K O E => ?_)
  have O : ld_Ok l K ad cX1_sourOf 2 RX1 (ld_rm (0, 0)) := O
  show K σ [(0, .ref (ad 1)), (1, .int (nI k))] [] 0
  refine ld_aload_n O (pc := 0) 0 dX1_sourOf_0 rfl rfl ?_
  refine ld_g_now_kind O (pc := 1) ld_w34 dX1_sourOf_1 ?_
  refine ld_iload_n O (pc := 4) 1 dX1_sourOf_4 rfl rfl ?_
  refine ld_iald O (pc := 5) 0 k (v := σ 0 k) rfl (by decide) (show k < 8 by omega) rfl dX1_sourOf_5 ?_
  by_cases t1 : (σ 0 k).toInt = 1
  · refine ld_look O (pc := 6) 32 dX1_sourOf_6 (by decide) (off := 26) (by rw [t1]; rfl) (by decide) ?_
    refine ld_aload_n O (pc := 32) 0 dX1_sourOf_32 rfl rfl ?_
    refine ld_g_now_temper O (pc := 33) ld_w35 dX1_sourOf_33 ?_
    refine ld_iload_n O (pc := 36) 1 dX1_sourOf_36 rfl rfl ?_
    refine ld_iald O (pc := 37) 1 k (v := σ 1 k) rfl (by decide) (show k < 8 by omega) rfl dX1_sourOf_37 ?_
    refine ld_iconst O (pc := 38) (v := nI 1) dX1_sourOf_38 (by decide) ?_
    refine ld_iadd O (pc := 39) dX1_sourOf_39 ?_
    refine ld_ireti E dX1_sourOf_40 ?_
    exact ⟨by simp [ld_sr, t1], rfl⟩
  by_cases t2 : (σ 0 k).toInt = 2
  · refine ld_look O (pc := 6) 41 dX1_sourOf_6 (by decide) (off := 35) (by rw [t2]; rfl) (by decide) ?_
    refine ld_iconst O (pc := 41) (v := nI 2) dX1_sourOf_41 (by decide) ?_
    refine ld_aload_n O (pc := 42) 0 dX1_sourOf_42 rfl rfl ?_
    refine ld_g_now_temper O (pc := 43) ld_w35 dX1_sourOf_43 ?_
    refine ld_iload_n O (pc := 46) 1 dX1_sourOf_46 rfl rfl ?_
    refine ld_iald O (pc := 47) 1 k (v := σ 1 k) rfl (by decide) (show k < 8 by omega) rfl dX1_sourOf_47 ?_
    refine ld_iconst O (pc := 48) (v := nI 1) dX1_sourOf_48 (by decide) ?_
    refine ld_iadd O (pc := 49) dX1_sourOf_49 ?_
    refine ld_imul O (pc := 50) dX1_sourOf_50 ?_
    refine ld_ireti E dX1_sourOf_51 ?_
    exact ⟨by simp [ld_sr, t1, t2], rfl⟩
  refine ld_look O (pc := 6) 52 dX1_sourOf_6 (by decide) (off := 46) (by show Op.lookupswitch.offset [((1 : Int), (26 : Int)), ((2 : Int), (35 : Int))] (46) _ = _; rw [Op.lookupswitch.offset_cons, if_neg (fun z => t1 z.symm), Op.lookupswitch.offset_cons, if_neg (fun z => t2 z.symm)]; rfl) (by decide) ?_
  refine ld_aload_n O (pc := 52) 0 dX1_sourOf_52 rfl rfl ?_
  refine ld_g_now_temper O (pc := 53) ld_w35 dX1_sourOf_53 ?_
  refine ld_iload_n O (pc := 56) 1 dX1_sourOf_56 rfl rfl ?_
  refine ld_iald O (pc := 57) 1 k (v := σ 1 k) rfl (by decide) (show k < 8 by omega) rfl dX1_sourOf_57 ?_
  refine ld_ireti E dX1_sourOf_58 ?_
  exact ⟨by simp [ld_sr, t1, t2], rfl⟩
set_option maxHeartbeats 4000000 in
set_option maxRecDepth 100000 in
theorem c_X1_treesOf_1 (l : Launch) (ad : Nat → Nat) (σ : ld_St) (k : Nat) (hk : k < 8) : ld_Ctr l yX1_treesOf cX1_treesOf 2 (some .int) (0, 0) [.ref (ad 2), .int (nI k)] ad σ (ld_I (fun (r : Int32) (σ2 : ld_St) => r = σ 10 k / nI 4 ∧ σ2 = σ)) := by
  refine ld_entry (by decide +kernel) (Nat.le_of_ble_eq_true rfl) (fun K O E => ?_)
  have O : ld_Ok l K ad cX1_treesOf 2 RX1 (ld_rm (0, 0)) := O
  show K σ [(0, .ref (ad 2)), (1, .int (nI k))] [] 0
  refine ld_aload_n O (pc := 0) 0 dX1_treesOf_0 rfl rfl ?_
  refine ld_g_trial_pips O (pc := 1) ld_w37 dX1_treesOf_1 ?_
  refine ld_iload_n O (pc := 4) 1 dX1_treesOf_4 rfl rfl ?_
  refine ld_iald O (pc := 5) 10 k (v := σ 10 k) rfl (by decide) (show k < 8 by omega) rfl dX1_treesOf_5 ?_
  refine ld_iconst O (pc := 6) (v := nI 4) dX1_treesOf_6 (by decide) ?_
  refine ld_idiv O (pc := 7) dX1_treesOf_7 (by decide) ?_
  refine ld_ireti E dX1_treesOf_8 ?_
  exact ⟨rfl, rfl⟩
set_option maxHeartbeats 4000000 in
set_option maxRecDepth 100000 in
theorem c_X1_sourOf_1 (l : Launch) (ad : Nat → Nat) (σ : ld_St) (k : Nat) (hk : k < 8) : ld_Ctr l yX1_sourOf cX1_sourOf 2 (some .int) (0, 0) [.ref (ad 2), .int (nI k)] ad σ (ld_I (fun (r : Int32) (σ2 : ld_St) => r = ld_sr (σ 7 k) (σ 8 k) ∧ σ2 = σ)) := by
  refine ld_entry (by decide +kernel) (Nat.le_of_ble_eq_true rfl) (fun K O E => ?_)
  have O : ld_Ok l K ad cX1_sourOf 2 RX1 (ld_rm (0, 0)) := O
  show K σ [(0, .ref (ad 2)), (1, .int (nI k))] [] 0
  refine ld_aload_n O (pc := 0) 0 dX1_sourOf_0 rfl rfl ?_
  refine ld_g_trial_kind O (pc := 1) ld_w34 dX1_sourOf_1 ?_
  refine ld_iload_n O (pc := 4) 1 dX1_sourOf_4 rfl rfl ?_
  refine ld_iald O (pc := 5) 7 k (v := σ 7 k) rfl (by decide) (show k < 8 by omega) rfl dX1_sourOf_5 ?_
  by_cases t1 : (σ 7 k).toInt = 1
  · refine ld_look O (pc := 6) 32 dX1_sourOf_6 (by decide) (off := 26) (by rw [t1]; rfl) (by decide) ?_
    refine ld_aload_n O (pc := 32) 0 dX1_sourOf_32 rfl rfl ?_
    refine ld_g_trial_temper O (pc := 33) ld_w35 dX1_sourOf_33 ?_
    refine ld_iload_n O (pc := 36) 1 dX1_sourOf_36 rfl rfl ?_
    refine ld_iald O (pc := 37) 8 k (v := σ 8 k) rfl (by decide) (show k < 8 by omega) rfl dX1_sourOf_37 ?_
    refine ld_iconst O (pc := 38) (v := nI 1) dX1_sourOf_38 (by decide) ?_
    refine ld_iadd O (pc := 39) dX1_sourOf_39 ?_
    refine ld_ireti E dX1_sourOf_40 ?_
    exact ⟨by simp [ld_sr, t1], rfl⟩
  by_cases t2 : (σ 7 k).toInt = 2
  · refine ld_look O (pc := 6) 41 dX1_sourOf_6 (by decide) (off := 35) (by rw [t2]; rfl) (by decide) ?_
    refine ld_iconst O (pc := 41) (v := nI 2) dX1_sourOf_41 (by decide) ?_
    refine ld_aload_n O (pc := 42) 0 dX1_sourOf_42 rfl rfl ?_
    refine ld_g_trial_temper O (pc := 43) ld_w35 dX1_sourOf_43 ?_
    refine ld_iload_n O (pc := 46) 1 dX1_sourOf_46 rfl rfl ?_
    refine ld_iald O (pc := 47) 8 k (v := σ 8 k) rfl (by decide) (show k < 8 by omega) rfl dX1_sourOf_47 ?_
    refine ld_iconst O (pc := 48) (v := nI 1) dX1_sourOf_48 (by decide) ?_
    refine ld_iadd O (pc := 49) dX1_sourOf_49 ?_
    refine ld_imul O (pc := 50) dX1_sourOf_50 ?_
    refine ld_ireti E dX1_sourOf_51 ?_
    exact ⟨by simp [ld_sr, t1, t2], rfl⟩
  refine ld_look O (pc := 6) 52 dX1_sourOf_6 (by decide) (off := 46) (by show Op.lookupswitch.offset [((1 : Int), (26 : Int)), ((2 : Int), (35 : Int))] (46) _ = _; rw [Op.lookupswitch.offset_cons, if_neg (fun z => t1 z.symm), Op.lookupswitch.offset_cons, if_neg (fun z => t2 z.symm)]; rfl) (by decide) ?_
  refine ld_aload_n O (pc := 52) 0 dX1_sourOf_52 rfl rfl ?_
  refine ld_g_trial_temper O (pc := 53) ld_w35 dX1_sourOf_53 ?_
  refine ld_iload_n O (pc := 56) 1 dX1_sourOf_56 rfl rfl ?_
  refine ld_iald O (pc := 57) 8 k (v := σ 8 k) rfl (by decide) (show k < 8 by omega) rfl dX1_sourOf_57 ?_
  refine ld_ireti E dX1_sourOf_58 ?_
  exact ⟨by simp [ld_sr, t1, t2], rfl⟩
