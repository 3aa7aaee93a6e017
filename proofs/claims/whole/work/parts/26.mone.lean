theorem ld_km {k : Nat} (h : k < 2 ^ 31) : (nI k - nI 1).toInt = (k : Int) - 1 := by
  have := nI_toInt h
  rw [fb_subI (by rw [ld_n1]; omega) (by rw [ld_n1]; omega), ld_n1, this]
theorem ld_km1 {k : Nat} (h : 1 ≤ k) : nI k - nI 1 = nI (k - 1) := by
  have := ld_dec h
  rw [← this, Int32.sub_eq_add_neg]
  rfl
theorem ld_km2 (k : Nat) : nI k + Int32.ofInt (-1) = nI k - nI 1 := by
  rw [Int32.sub_eq_add_neg]
  rfl
set_option maxHeartbeats 4000000 in
set_option maxRecDepth 100000 in
theorem c_X3_nextOne (l : Launch) (ad : Nat → Nat) (σ : ld_St) (h : Nat) (hh : σ 141 0 = nI h) (h8 : h ≤ 8) (hkt : ld_kt h (σ 20) (σ 21)) : ld_Ctr l yX3_nextOne cX3_nextOne 4 (some .int) (1, 22) [.ref (ad 8)] ad σ (ld_I (fun (r : Int32) (σ2 : ld_St) => r = ld_nv (ld_nx (ld_ss (σ 20) (σ 21)) (σ 31) h) ∧ σ2 = σ)) := by
  refine ld_entry (by decide +kernel) (Nat.le_of_ble_eq_true rfl) (fun K O E => ?_)
  have O : ld_Ok l K ad cX3_nextOne 4 RX3 (ld_rm (1, 22)) := O
  show K σ [(0, .ref (ad 8))] [] 0
  refine ld_bipush O (pc := 0) (v := (-9 : Int32)) dX3_nextOne_0 (by decide) ?_
  refine ld_istore_n O (pc := 2) [(1, .int (-9 : Int32)), (0, .ref (ad 8))] dX3_nextOne_2 rfl (by decide) rfl ?_
  refine ld_iconst O (pc := 3) (v := nI 0) dX3_nextOne_3 (by decide) ?_
  refine ld_istore_n O (pc := 4) [(2, .int (nI 0)), (1, .int (-9 : Int32)), (0, .ref (ad 8))] dX3_nextOne_4 rfl (by decide) rfl ?_
  have L5 : ∀ (m_5 : Nat) (i : Nat) (o : Option Nat), h - i < m_5 → (i ≤ h) → (o = ld_nx (ld_ss (σ 20) (σ 21)) (σ 31) i) → K σ [(0, .ref (ad 8)), (1, .int (ld_nv o)), (2, .int (nI i))] [] 5 := by
    intro m_5
    induction m_5 with
    | zero => intro i o hm_; exact absurd hm_ (Nat.not_lt_zero _)
    | succ m_5 ih5 =>
      intro i o hm_5 hi ho
      refine ld_iload_n O (pc := 5) 2 dX3_nextOne_5 rfl rfl ?_
      refine ld_aload_n O (pc := 6) 0 dX3_nextOne_6 rfl rfl ?_
      refine ld_g_M_houses O (pc := 7) (v := nI h) ld_w119 hh dX3_nextOne_7 ?_
      refine ld_icmp_ge O (pc := 10) ((i : Nat) : Int) ((h : Nat) : Int) (nI_toInt (by omega)) (nI_toInt (by omega)) 78 dX3_nextOne_10 (by decide) (fun c1 => ?_) (fun c1 => ?_)
      · refine ld_iload_n O (pc := 78) 1 dX3_nextOne_78 rfl rfl ?_
        refine ld_ireti E dX3_nextOne_79 ?_
        exact ⟨by rw [ho, show i = h by omega], rfl⟩
      · rcases o with _ | j
        · show K σ [(0, .ref (ad 8)), (1, .int (-9 : Int32)), (2, .int (nI i))] [] 13
          refine ld_iload_n O (pc := 13) 1 dX3_nextOne_13 rfl rfl ?_
          refine ld_if_lt O (pc := 14) (-9) (by decide) 48 dX3_nextOne_14 (by decide) (fun _ => ?_) (fun z => absurd z (by decide))
          refine ld_iconst O (pc := 48) (v := nI 1) dX3_nextOne_48 (by decide) ?_
          refine ld_goto O (pc := 49) 53 dX3_nextOne_49 (by decide) ?_
          refine ld_istore_n O (pc := 53) [(3, .int (nI 1)), (0, .ref (ad 8)), (1, .int (-9 : Int32)), (2, .int (nI i))] dX3_nextOne_53 rfl (by decide) rfl ?_
          refine ld_aload_n O (pc := 54) 1 dX3_nextOne_54 rfl rfl ?_
          refine ld_iload_n O (pc := 55) 3 dX3_nextOne_55 rfl rfl ?_
          refine ld_callVi O (pc := 56) (As := [.int (nI i)]) (st := []) ld_recv8 (c_X3_sourOf l ad σ i (by omega) (hkt _ (by omega)).1) ld_mw_X3_sourOf ld_w198 rfl rfl ⟨by decide, by decide⟩ (Nat.le_of_ble_eq_true rfl) dX3_nextOne_56 (fun r_p56 σ_p56 h_p56 => ?_)
          obtain ⟨rfl, hσ_p56⟩ := h_p56
          rw [hσ_p56]
          show K σ [(3, .int (nI 1)), (0, .ref (ad 8)), (1, .int (-9 : Int32)), (2, .int (nI i))] [.int (ld_sr (σ 20 i) (σ 21 i))] 59
          refine ld_if_le O (pc := 59) (ld_sr (σ 20 i) (σ 21 i)).toInt rfl 70 dX3_nextOne_59 (by decide) (fun c3 => ?_) (fun c3 => ?_)
          · refine ld_iload_n O (pc := 70) 2 dX3_nextOne_70 rfl rfl ?_
            refine ld_istore_n O (pc := 71) [(1, .int (-9 : Int32)), (3, .int (nI 1)), (0, .ref (ad 8)), (2, .int (nI i))] dX3_nextOne_71 rfl (by decide) rfl ?_
            refine ld_iincN O (pc := 72) [(2, .int (nI (i + 1))), (1, .int (-9 : Int32)), (3, .int (nI 1)), (0, .ref (ad 8))] 3 dX3_nextOne_72 rfl (by decide) rfl ?_
            refine ld_goto O (pc := 75) 5 dX3_nextOne_75 (by decide) ?_
            refine ld_less O [3, 1, 0] (lv2 := [(0, .ref (ad 8)), (1, .int (ld_nv none)), (2, .int (nI (i + 1)))]) rfl ?_
            exact ih5 (i + 1) none (by omega) (by omega) (ld_nx_f ho (fun z => by have z1 : 0 < (ld_sr (σ 20 i) (σ 21 i)).toInt := z.1; first | omega | (have z2 : (ld_sr (σ 20 j) (σ 21 j) * (σ 31 i + nI 1)).toInt < (ld_sr (σ 20 i) (σ 21 i) * (σ 31 j + nI 1)).toInt := z.2 j rfl; omega)))
          · refine ld_iload_n O (pc := 62) 0 dX3_nextOne_62 rfl rfl ?_
            refine ld_if_eq O (pc := 63) 1 (by decide) 70 dX3_nextOne_63 (by decide) (fun z => absurd z (by decide)) (fun _ => ?_)
            refine ld_iload_n O (pc := 66) 3 dX3_nextOne_66 rfl rfl ?_
            refine ld_goto O (pc := 67) 71 dX3_nextOne_67 (by decide) ?_
            refine ld_istore_n O (pc := 71) [(1, .int (nI i)), (3, .int (nI 1)), (0, .ref (ad 8)), (2, .int (nI i))] dX3_nextOne_71 rfl (by decide) rfl ?_
            refine ld_iincN O (pc := 72) [(2, .int (nI (i + 1))), (1, .int (nI i)), (3, .int (nI 1)), (0, .ref (ad 8))] 3 dX3_nextOne_72 rfl (by decide) rfl ?_
            refine ld_goto O (pc := 75) 5 dX3_nextOne_75 (by decide) ?_
            refine ld_less O [3, 1, 0] (lv2 := [(0, .ref (ad 8)), (1, .int (ld_nv (some i))), (2, .int (nI (i + 1)))]) rfl ?_
            exact ih5 (i + 1) (some i) (by omega) (by omega) (ld_nx_t ho (show 0 < (ld_sr (σ 20 i) (σ 21 i)).toInt by omega) (fun z hz => by first | (cases hz; done) | (cases hz; show (ld_sr (σ 20 j) (σ 21 j) * (σ 31 i + nI 1)).toInt < (ld_sr (σ 20 i) (σ 21 i) * (σ 31 j + nI 1)).toInt; omega)))
        · have hj_ := ld_nx_lt ho.symm
          show K σ [(0, .ref (ad 8)), (1, .int (nI j)), (2, .int (nI i))] [] 13
          refine ld_iload_n O (pc := 13) 1 dX3_nextOne_13 rfl rfl ?_
          refine ld_if_lt O (pc := 14) ((j : Nat) : Int) (nI_toInt (by omega)) 48 dX3_nextOne_14 (by decide) (fun c5 => ?_) (fun c5 => ?_)
          · exact False.elim (by omega)
          · refine ld_aload_n O (pc := 17) 0 dX3_nextOne_17 rfl rfl ?_
            refine ld_iload_n O (pc := 18) 2 dX3_nextOne_18 rfl rfl ?_
            refine ld_callVi O (pc := 19) (As := [.int (nI i)]) (st := []) ld_recv8 (c_X3_sourOf l ad σ i (by omega) (hkt _ (by omega)).1) ld_mw_X3_sourOf ld_w198 rfl rfl ⟨by decide, by decide⟩ (Nat.le_of_ble_eq_true rfl) dX3_nextOne_19 (fun r_p19 σ_p19 h_p19 => ?_)
            obtain ⟨rfl, hσ_p19⟩ := h_p19
            rw [hσ_p19]
            show K σ [(0, .ref (ad 8)), (1, .int (nI j)), (2, .int (nI i))] [.int (ld_sr (σ 20 i) (σ 21 i))] 22
            refine ld_aload_n O (pc := 22) 0 dX3_nextOne_22 rfl rfl ?_
            refine ld_g_M_gotSoFar O (pc := 23) ld_w62 dX3_nextOne_23 ?_
            refine ld_iload_n O (pc := 26) 1 dX3_nextOne_26 rfl rfl ?_
            refine ld_iald O (pc := 27) 31 j (v := σ 31 j) rfl (by decide) (show j < 8 by omega) rfl dX3_nextOne_27 ?_
            refine ld_iconst O (pc := 28) (v := nI 1) dX3_nextOne_28 (by decide) ?_
            refine ld_iadd O (pc := 29) dX3_nextOne_29 ?_
            refine ld_imul O (pc := 30) dX3_nextOne_30 ?_
            refine ld_aload_n O (pc := 31) 0 dX3_nextOne_31 rfl rfl ?_
            refine ld_iload_n O (pc := 32) 1 dX3_nextOne_32 rfl rfl ?_
            refine ld_callVi O (pc := 33) (As := [.int (nI j)]) (st := [.int ((ld_sr (σ 20 i) (σ 21 i)) * ((σ 31 j) + (nI 1)))]) ld_recv8 (c_X3_sourOf l ad σ j (by omega) (hkt _ (by omega)).1) ld_mw_X3_sourOf ld_w198 rfl rfl ⟨by decide, by decide⟩ (Nat.le_of_ble_eq_true rfl) dX3_nextOne_33 (fun r_p33 σ_p33 h_p33 => ?_)
            obtain ⟨rfl, hσ_p33⟩ := h_p33
            rw [hσ_p33]
            show K σ [(0, .ref (ad 8)), (1, .int (nI j)), (2, .int (nI i))] [.int (ld_sr (σ 20 j) (σ 21 j)), .int ((ld_sr (σ 20 i) (σ 21 i)) * ((σ 31 j) + (nI 1)))] 36
            refine ld_aload_n O (pc := 36) 0 dX3_nextOne_36 rfl rfl ?_
            refine ld_g_M_gotSoFar O (pc := 37) ld_w62 dX3_nextOne_37 ?_
            refine ld_iload_n O (pc := 40) 2 dX3_nextOne_40 rfl rfl ?_
            refine ld_iald O (pc := 41) 31 i (v := σ 31 i) rfl (by decide) (show i < 8 by omega) rfl dX3_nextOne_41 ?_
            refine ld_iconst O (pc := 42) (v := nI 1) dX3_nextOne_42 (by decide) ?_
            refine ld_iadd O (pc := 43) dX3_nextOne_43 ?_
            refine ld_imul O (pc := 44) dX3_nextOne_44 ?_
            refine ld_icmp_le O (pc := 45) ((ld_sr (σ 20 i) (σ 21 i)) * ((σ 31 j) + (nI 1))).toInt ((ld_sr (σ 20 j) (σ 21 j)) * ((σ 31 i) + (nI 1))).toInt rfl rfl 52 dX3_nextOne_45 (by decide) (fun c6 => ?_) (fun c6 => ?_)
            · refine ld_iconst O (pc := 52) (v := nI 0) dX3_nextOne_52 (by decide) ?_
              refine ld_istore_n O (pc := 53) [(3, .int (nI 0)), (0, .ref (ad 8)), (1, .int (nI j)), (2, .int (nI i))] dX3_nextOne_53 rfl (by decide) rfl ?_
              refine ld_aload_n O (pc := 54) 1 dX3_nextOne_54 rfl rfl ?_
              refine ld_iload_n O (pc := 55) 3 dX3_nextOne_55 rfl rfl ?_
              refine ld_callVi O (pc := 56) (As := [.int (nI i)]) (st := []) ld_recv8 (c_X3_sourOf l ad σ i (by omega) (hkt _ (by omega)).1) ld_mw_X3_sourOf ld_w198 rfl rfl ⟨by decide, by decide⟩ (Nat.le_of_ble_eq_true rfl) dX3_nextOne_56 (fun r_p56 σ_p56 h_p56 => ?_)
              obtain ⟨rfl, hσ_p56⟩ := h_p56
              rw [hσ_p56]
              show K σ [(3, .int (nI 0)), (0, .ref (ad 8)), (1, .int (nI j)), (2, .int (nI i))] [.int (ld_sr (σ 20 i) (σ 21 i))] 59
              refine ld_if_le O (pc := 59) (ld_sr (σ 20 i) (σ 21 i)).toInt rfl 70 dX3_nextOne_59 (by decide) (fun c7 => ?_) (fun c7 => ?_)
              · refine ld_iload_n O (pc := 70) 2 dX3_nextOne_70 rfl rfl ?_
                refine ld_istore_n O (pc := 71) [(1, .int (nI j)), (3, .int (nI 0)), (0, .ref (ad 8)), (2, .int (nI i))] dX3_nextOne_71 rfl (by decide) rfl ?_
                refine ld_iincN O (pc := 72) [(2, .int (nI (i + 1))), (1, .int (nI j)), (3, .int (nI 0)), (0, .ref (ad 8))] 3 dX3_nextOne_72 rfl (by decide) rfl ?_
                refine ld_goto O (pc := 75) 5 dX3_nextOne_75 (by decide) ?_
                refine ld_less O [3, 1, 0] (lv2 := [(0, .ref (ad 8)), (1, .int (ld_nv (some j))), (2, .int (nI (i + 1)))]) rfl ?_
                exact ih5 (i + 1) (some j) (by omega) (by omega) (ld_nx_f ho (fun z => by have z1 : 0 < (ld_sr (σ 20 i) (σ 21 i)).toInt := z.1; first | omega | (have z2 : (ld_sr (σ 20 j) (σ 21 j) * (σ 31 i + nI 1)).toInt < (ld_sr (σ 20 i) (σ 21 i) * (σ 31 j + nI 1)).toInt := z.2 j rfl; omega)))
              · refine ld_iload_n O (pc := 62) 0 dX3_nextOne_62 rfl rfl ?_
                refine ld_if_eq O (pc := 63) 0 (by decide) 70 dX3_nextOne_63 (by decide) (fun _ => ?_) (fun z => absurd z (by decide))
                refine ld_iload_n O (pc := 70) 2 dX3_nextOne_70 rfl rfl ?_
                refine ld_istore_n O (pc := 71) [(1, .int (nI j)), (3, .int (nI 0)), (0, .ref (ad 8)), (2, .int (nI i))] dX3_nextOne_71 rfl (by decide) rfl ?_
                refine ld_iincN O (pc := 72) [(2, .int (nI (i + 1))), (1, .int (nI j)), (3, .int (nI 0)), (0, .ref (ad 8))] 3 dX3_nextOne_72 rfl (by decide) rfl ?_
                refine ld_goto O (pc := 75) 5 dX3_nextOne_75 (by decide) ?_
                refine ld_less O [3, 1, 0] (lv2 := [(0, .ref (ad 8)), (1, .int (ld_nv (some j))), (2, .int (nI (i + 1)))]) rfl ?_
                exact ih5 (i + 1) (some j) (by omega) (by omega) (ld_nx_f ho (fun z => by have z1 : 0 < (ld_sr (σ 20 i) (σ 21 i)).toInt := z.1; first | omega | (have z2 : (ld_sr (σ 20 j) (σ 21 j) * (σ 31 i + nI 1)).toInt < (ld_sr (σ 20 i) (σ 21 i) * (σ 31 j + nI 1)).toInt := z.2 j rfl; omega)))
            · refine ld_iconst O (pc := 48) (v := nI 1) dX3_nextOne_48 (by decide) ?_
              refine ld_goto O (pc := 49) 53 dX3_nextOne_49 (by decide) ?_
              refine ld_istore_n O (pc := 53) [(3, .int (nI 1)), (0, .ref (ad 8)), (1, .int (nI j)), (2, .int (nI i))] dX3_nextOne_53 rfl (by decide) rfl ?_
              refine ld_aload_n O (pc := 54) 1 dX3_nextOne_54 rfl rfl ?_
              refine ld_iload_n O (pc := 55) 3 dX3_nextOne_55 rfl rfl ?_
              refine ld_callVi O (pc := 56) (As := [.int (nI i)]) (st := []) ld_recv8 (c_X3_sourOf l ad σ i (by omega) (hkt _ (by omega)).1) ld_mw_X3_sourOf ld_w198 rfl rfl ⟨by decide, by decide⟩ (Nat.le_of_ble_eq_true rfl) dX3_nextOne_56 (fun r_p56 σ_p56 h_p56 => ?_)
              obtain ⟨rfl, hσ_p56⟩ := h_p56
              rw [hσ_p56]
              show K σ [(3, .int (nI 1)), (0, .ref (ad 8)), (1, .int (nI j)), (2, .int (nI i))] [.int (ld_sr (σ 20 i) (σ 21 i))] 59
              refine ld_if_le O (pc := 59) (ld_sr (σ 20 i) (σ 21 i)).toInt rfl 70 dX3_nextOne_59 (by decide) (fun c9 => ?_) (fun c9 => ?_)
              · refine ld_iload_n O (pc := 70) 2 dX3_nextOne_70 rfl rfl ?_
                refine ld_istore_n O (pc := 71) [(1, .int (nI j)), (3, .int (nI 1)), (0, .ref (ad 8)), (2, .int (nI i))] dX3_nextOne_71 rfl (by decide) rfl ?_
                refine ld_iincN O (pc := 72) [(2, .int (nI (i + 1))), (1, .int (nI j)), (3, .int (nI 1)), (0, .ref (ad 8))] 3 dX3_nextOne_72 rfl (by decide) rfl ?_
                refine ld_goto O (pc := 75) 5 dX3_nextOne_75 (by decide) ?_
                refine ld_less O [3, 1, 0] (lv2 := [(0, .ref (ad 8)), (1, .int (ld_nv (some j))), (2, .int (nI (i + 1)))]) rfl ?_
                exact ih5 (i + 1) (some j) (by omega) (by omega) (ld_nx_f ho (fun z => by have z1 : 0 < (ld_sr (σ 20 i) (σ 21 i)).toInt := z.1; first | omega | (have z2 : (ld_sr (σ 20 j) (σ 21 j) * (σ 31 i + nI 1)).toInt < (ld_sr (σ 20 i) (σ 21 i) * (σ 31 j + nI 1)).toInt := z.2 j rfl; omega)))
              · refine ld_iload_n O (pc := 62) 0 dX3_nextOne_62 rfl rfl ?_
                refine ld_if_eq O (pc := 63) 1 (by decide) 70 dX3_nextOne_63 (by decide) (fun z => absurd z (by decide)) (fun _ => ?_)
                refine ld_iload_n O (pc := 66) 3 dX3_nextOne_66 rfl rfl ?_
                refine ld_goto O (pc := 67) 71 dX3_nextOne_67 (by decide) ?_
                refine ld_istore_n O (pc := 71) [(1, .int (nI i)), (3, .int (nI 1)), (0, .ref (ad 8)), (2, .int (nI i))] dX3_nextOne_71 rfl (by decide) rfl ?_
                refine ld_iincN O (pc := 72) [(2, .int (nI (i + 1))), (1, .int (nI i)), (3, .int (nI 1)), (0, .ref (ad 8))] 3 dX3_nextOne_72 rfl (by decide) rfl ?_
                refine ld_goto O (pc := 75) 5 dX3_nextOne_75 (by decide) ?_
                refine ld_less O [3, 1, 0] (lv2 := [(0, .ref (ad 8)), (1, .int (ld_nv (some i))), (2, .int (nI (i + 1)))]) rfl ?_
                exact ih5 (i + 1) (some i) (by omega) (by omega) (ld_nx_t ho (show 0 < (ld_sr (σ 20 i) (σ 21 i)).toInt by omega) (fun z hz => by first | (cases hz; done) | (cases hz; show (ld_sr (σ 20 j) (σ 21 j) * (σ 31 i + nI 1)).toInt < (ld_sr (σ 20 i) (σ 21 i) * (σ 31 j + nI 1)).toInt; omega)))
  refine ld_less O [2, 1, 0] (lv2 := [(0, .ref (ad 8)), (1, .int (ld_nv none)), (2, .int (nI 0))]) rfl ?_
  exact L5 _ 0 none (Nat.lt_succ_self _) (Nat.zero_le _) rfl
set_option maxHeartbeats 4000000 in
set_option maxRecDepth 100000 in
theorem c_X3_otherwise (l : Launch) (ad : Nat → Nat) (σ : ld_St) (h : Nat) (hh : σ 141 0 = nI h) (h8 : h ≤ 8) (hkt : ld_kt h (σ 20) (σ 21)) (cr : Nat) (hcr : σ 142 0 = nI cr) (c99 : cr ≤ 99) (k : Int32) : ld_Ctr l yX3_otherwise cX3_otherwise 4 (some .int) (2, 46) [.ref (ad 8), .int k] ad σ (ld_I (fun (r : Int32) (σ2 : ld_St) => r = ld_fOt h (σ 20) (σ 21) cr k ∧ ∃ g : Nat → Int32, σ2 = us σ 31 g)) := by
  refine ld_entry (by decide +kernel) (Nat.le_of_ble_eq_true rfl) (fun K O E => ?_)
  have O : ld_Ok l K ad cX3_otherwise 4 RX3 (ld_rm (2, 46)) := O
  show K σ [(0, .ref (ad 8)), (1, .int k)] [] 0
  refine ld_aload_n O (pc := 0) 0 dX3_otherwise_0 rfl rfl ?_
  refine ld_iload_n O (pc := 1) 1 dX3_otherwise_1 rfl rfl ?_
  refine ld_callVi O (pc := 2) (As := [.int k]) (st := []) ld_recv8 (c_X3_noHouse l ad σ k h hh h8) ld_mw_X3_noHouse ld_w194 rfl rfl ⟨by decide, by decide⟩ (Nat.le_of_ble_eq_true rfl) dX3_otherwise_2 (fun r_p2 σ_p2 h_p2 => ?_)
  obtain ⟨rfl, hσ_p2⟩ := h_p2
  rw [hσ_p2]
  show K σ [(0, .ref (ad 8)), (1, .int k)] [.int (ld_b (¬ (0 ≤ (k).toInt ∧ (k).toInt < (h : Int))))] 5
  refine ld_ifb_eq O (pc := 5) 10 dX3_otherwise_5 (by decide) (fun c1 => ?_) (fun c1 => ?_)
  · replace c1 := Classical.byContradiction c1
    obtain ⟨ek_k, hk_k, ik_k⟩ := ld_ofIx (k := k) (h := h) (by omega)
    rw [ek_k]
    refine ld_iconst O (pc := 10) (v := nI 0) dX3_otherwise_10 (by decide) ?_
    refine ld_istore_n O (pc := 11) [(2, .int (nI 0)), (0, .ref (ad 8)), (1, .int (nI (ld_ix k)))] dX3_otherwise_11 rfl (by decide) rfl ?_
    have L12 : ∀ (m_12 : Nat) (i : Nat) (g : Nat → Int32), h - i < m_12 → (i ≤ h) → (∀ x, x < i → g x = nI 0) → K (us σ 31 g) [(0, .ref (ad 8)), (1, .int (nI (ld_ix k))), (2, .int (nI i))] [] 12 := by
      intro m_12
      induction m_12 with
      | zero => intro i g hm_; exact absurd hm_ (Nat.not_lt_zero _)
      | succ m_12 ih12 =>
        intro i g hm_12 hi hg
        refine ld_iload_n O (pc := 12) 2 dX3_otherwise_12 rfl rfl ?_
        refine ld_aload_n O (pc := 13) 0 dX3_otherwise_13 rfl rfl ?_
        refine ld_g_M_houses O (pc := 14) (v := nI h) ld_w119 hh dX3_otherwise_14 ?_
        refine ld_icmp_ge O (pc := 17) ((i : Nat) : Int) ((h : Nat) : Int) (nI_toInt (by omega)) (nI_toInt (by omega)) 33 dX3_otherwise_17 (by decide) (fun c2 => ?_) (fun c2 => ?_)
        · have ei : i = h := by omega
          rw [ei] at hg
          refine ld_iconst O (pc := 33) (v := nI 0) dX3_otherwise_33 (by decide) ?_
          refine ld_istore_n O (pc := 34) [(2, .int (nI 0)), (0, .ref (ad 8)), (1, .int (nI (ld_ix k)))] dX3_otherwise_34 rfl (by decide) rfl ?_
          have L35 : ∀ (m_35 : Nat) (q : Nat) (g2 : Nat → Int32), cr - q < m_35 → (q ≤ cr) → (∀ x, x < h → g2 x = ld_o1 h (ld_ss (σ 20) (σ 21)) q x) → K (us σ 31 g2) [(0, .ref (ad 8)), (1, .int (nI (ld_ix k))), (2, .int (nI q))] [] 35 := by
            intro m_35
            induction m_35 with
            | zero => intro q g2 hm_; exact absurd hm_ (Nat.not_lt_zero _)
            | succ m_35 ih35 =>
              intro q g2 hm_35 hq hg2
              refine ld_iload_n O (pc := 35) 2 dX3_otherwise_35 rfl rfl ?_
              refine ld_aload_n O (pc := 36) 0 dX3_otherwise_36 rfl rfl ?_
              refine ld_g_M_crateNow O (pc := 37) (v := nI cr) ld_w121 hcr dX3_otherwise_37 ?_
              refine ld_icmp_ge O (pc := 40) ((q : Nat) : Int) ((cr : Nat) : Int) (nI_toInt (by omega)) (nI_toInt (by omega)) 68 dX3_otherwise_40 (by decide) (fun c3 => ?_) (fun c3 => ?_)
              · refine ld_aload_n O (pc := 68) 0 dX3_otherwise_68 rfl rfl ?_
                refine ld_g_M_gotSoFar O (pc := 69) ld_w62 dX3_otherwise_69 ?_
                refine ld_iload_n O (pc := 72) 1 dX3_otherwise_72 rfl rfl ?_
                refine ld_iald O (pc := 73) 31 (ld_ix k) (v := g2 (ld_ix k)) rfl (by decide) (show ld_ix k < 8 by omega) rfl dX3_otherwise_73 ?_
                refine ld_ireti E dX3_otherwise_74 ?_
                refine ⟨?_, g2, ?_⟩
                · unfold ld_fOt
                  rw [if_pos (by omega)]
                  rw [show cr = q by omega]
                  exact hg2 _ hk_k
                · funext b_
                  by_cases h0_ : b_ = 31
                  · subst h0_; exact (us_eq _ _ _).trans (us_eq _ _ _).symm
                  simp only [us, h0_, if_false]
              · refine ld_aload_n O (pc := 43) 0 dX3_otherwise_43 rfl rfl ?_
                refine ld_callVi O (pc := 44) (As := []) (st := []) ld_recv8 (c_X3_nextOne l ad (us σ 31 g2) h hh h8 hkt) ld_mw_X3_nextOne ld_w414 rfl rfl ⟨by decide, by decide⟩ (Nat.le_of_ble_eq_true rfl) dX3_otherwise_44 (fun r_p44 σ_p44 h_p44 => ?_)
                obtain ⟨rfl, hσ_p44⟩ := h_p44
                rw [hσ_p44]
                show K (us σ 31 g2) [(0, .ref (ad 8)), (1, .int (nI (ld_ix k))), (2, .int (nI q))] [.int (ld_nv (ld_nx (ld_ss (σ 20) (σ 21)) g2 h))] 47
                generalize hx_ : ld_nx (ld_ss (σ 20) (σ 21)) g2 h = o_; rcases o_ with _ | j
                · show K (us σ 31 g2) [(0, .ref (ad 8)), (1, .int (nI (ld_ix k))), (2, .int (nI q))] [.int (-9 : Int32)] 47
                  refine ld_istore_n O (pc := 47) [(3, .int (-9 : Int32)), (0, .ref (ad 8)), (1, .int (nI (ld_ix k))), (2, .int (nI q))] dX3_otherwise_47 rfl (by decide) rfl ?_
                  refine ld_iload_n O (pc := 48) 0 dX3_otherwise_48 rfl rfl ?_
                  refine ld_if_lt O (pc := 49) (-9) (by decide) 62 dX3_otherwise_49 (by decide) (fun _ => ?_) (fun z => absurd z (by decide))
                  refine ld_iincN O (pc := 62) [(2, .int (nI (q + 1))), (3, .int (-9 : Int32)), (0, .ref (ad 8)), (1, .int (nI (ld_ix k)))] 3 dX3_otherwise_62 rfl (by decide) rfl ?_
                  refine ld_goto O (pc := 65) 35 dX3_otherwise_65 (by decide) ?_
                  refine ld_less O [2, 3, 0] (lv2 := [(0, .ref (ad 8)), (1, .int (nI (ld_ix k))), (2, .int (nI (q + 1)))]) rfl ?_
                  exact ih35 (q + 1) g2 (by omega) (by omega) (fun x hx => (hg2 x hx).trans (by rw [ld_o1_n ((ld_nx_cong (fun y hy => ⟨rfl, (hg2 y hy).symm⟩)).trans hx_)]))
                · have hj_ := ld_nx_lt hx_
                  show K (us σ 31 g2) [(0, .ref (ad 8)), (1, .int (nI (ld_ix k))), (2, .int (nI q))] [.int (nI j)] 47
                  refine ld_istore_n O (pc := 47) [(3, .int (nI j)), (0, .ref (ad 8)), (1, .int (nI (ld_ix k))), (2, .int (nI q))] dX3_otherwise_47 rfl (by decide) rfl ?_
                  refine ld_iload_n O (pc := 48) 0 dX3_otherwise_48 rfl rfl ?_
                  refine ld_if_lt O (pc := 49) ((j : Nat) : Int) (nI_toInt (by omega)) 62 dX3_otherwise_49 (by decide) (fun c5 => ?_) (fun c5 => ?_)
                  · exact False.elim (by omega)
                  · refine ld_aload_n O (pc := 52) 1 dX3_otherwise_52 rfl rfl ?_
                    refine ld_g_M_gotSoFar O (pc := 53) ld_w62 dX3_otherwise_53 ?_
                    refine ld_iload_n O (pc := 56) 0 dX3_otherwise_56 rfl rfl ?_
                    refine ld_dup2 O (pc := 57) dX3_otherwise_57 rfl rfl ?_
                    refine ld_iald O (pc := 58) 31 j (v := g2 j) rfl (by decide) (show j < 8 by omega) rfl dX3_otherwise_58 ?_
                    refine ld_iconst O (pc := 59) (v := nI 1) dX3_otherwise_59 (by decide) ?_
                    refine ld_iadd O (pc := 60) dX3_otherwise_60 ?_
                    refine ld_iast O (pc := 61) 31 j rfl (by decide) (show j < 8 by omega) dX3_otherwise_61 ?_
                    refine ld_iincN O (pc := 62) [(2, .int (nI (q + 1))), (3, .int (nI j)), (0, .ref (ad 8)), (1, .int (nI (ld_ix k)))] 3 dX3_otherwise_62 rfl (by decide) rfl ?_
                    refine ld_goto O (pc := 65) 35 dX3_otherwise_65 (by decide) ?_
                    refine ld_less O [2, 3, 0] (lv2 := [(0, .ref (ad 8)), (1, .int (nI (ld_ix k))), (2, .int (nI (q + 1)))]) rfl ?_
                    have hs6 : us (us σ 31 g2) 31 (upd (g2) j ((g2 j) + (nI 1))) = us σ 31 (upd (g2) j ((g2 j) + (nI 1))) := by
                      funext b_
                      by_cases h0_ : b_ = 31
                      · subst h0_; exact (us_eq _ _ _).trans (us_eq _ _ _).symm
                      simp only [us, h0_, if_false]
                    refine ld_cv hs6 ?_
                    exact ih35 (q + 1) (upd (g2) j ((g2 j) + (nI 1))) (by omega) (by omega) (fun x hx => (ld_upd_c (ld_nx_lt hx_) hg2 x hx).trans (by rw [ld_o1_s ((ld_nx_cong (fun y hy => ⟨rfl, (hg2 y hy).symm⟩)).trans hx_)]))
          refine ld_less O [1, 2, 0] (lv2 := [(0, .ref (ad 8)), (1, .int (nI (ld_ix k))), (2, .int (nI 0))]) rfl ?_
          exact L35 _ 0 g (Nat.lt_succ_self _) (Nat.zero_le _) hg
        · refine ld_aload_n O (pc := 20) 0 dX3_otherwise_20 rfl rfl ?_
          refine ld_g_M_gotSoFar O (pc := 21) ld_w62 dX3_otherwise_21 ?_
          refine ld_iload_n O (pc := 24) 2 dX3_otherwise_24 rfl rfl ?_
          refine ld_iconst O (pc := 25) (v := nI 0) dX3_otherwise_25 (by decide) ?_
          refine ld_iast O (pc := 26) 31 i rfl (by decide) (show i < 8 by omega) dX3_otherwise_26 ?_
          refine ld_iincN O (pc := 27) [(2, .int (nI (i + 1))), (0, .ref (ad 8)), (1, .int (nI (ld_ix k)))] 2 dX3_otherwise_27 rfl (by decide) rfl ?_
          refine ld_goto O (pc := 30) 12 dX3_otherwise_30 (by decide) ?_
          refine ld_less O [1, 2, 0] (lv2 := [(0, .ref (ad 8)), (1, .int (nI (ld_ix k))), (2, .int (nI (i + 1)))]) rfl ?_
          have hs7 : us (us σ 31 g) 31 (upd (g) i (nI 0)) = us σ 31 (upd (g) i (nI 0)) := by
            funext b_
            by_cases h0_ : b_ = 31
            · subst h0_; exact (us_eq _ _ _).trans (us_eq _ _ _).symm
            simp only [us, h0_, if_false]
          refine ld_cv hs7 ?_
          exact ih12 (i + 1) (upd (g) i (nI 0)) (by omega) (by omega) (ld_ext (g := fun _ => nI 0) hg rfl)
    refine ld_less O [1, 2, 0] (lv2 := [(0, .ref (ad 8)), (1, .int (nI (ld_ix k))), (2, .int (nI 0))]) rfl ?_
    have hs8 : σ = us σ 31 (σ 31) := by
      funext b_
      by_cases h0_ : b_ = 31
      · subst h0_; exact (rfl).trans (us_eq _ _ _).symm
      simp only [us, h0_, if_false]
    refine ld_cv hs8 ?_
    exact L12 _ 0 (σ 31) (Nat.lt_succ_self _) (Nat.zero_le _) (fun x hx => absurd hx (Nat.not_lt_zero x))
  · refine ld_iconst O (pc := 8) (v := (-1 : Int32)) dX3_otherwise_8 (by decide) ?_
    refine ld_ireti E dX3_otherwise_9 ?_
    refine ⟨?_, σ 31, ?_⟩
    · unfold ld_fOt
      rw [if_neg (by omega)]
    · funext b_
      by_cases h0_ : b_ = 31
      · subst h0_; exact (rfl).trans (us_eq _ _ _).symm
      simp only [us, h0_, if_false]
set_option maxHeartbeats 4000000 in
set_option maxRecDepth 100000 in
theorem c_X3_wonder (l : Launch) (ad : Nat → Nat) (σ : ld_St) (h : Nat) (hh : σ 141 0 = nI h) (h8 : h ≤ 8) (hkt : ld_kt h (σ 20) (σ 21)) (cr : Nat) (hcr : σ 142 0 = nI cr) (c99 : cr ≤ 99) (what : Int32) : ld_Ctr l yX3_wonder cX3_wonder 6 (some .int) (3, 74) [.ref (ad 8), .int what] ad σ (ld_I (fun (r : Int32) (σ2 : ld_St) => r = ld_fWo h (σ 20) (σ 21) cr what ∧ σ2 = σ)) := by
  refine ld_entry (by decide +kernel) (Nat.le_of_ble_eq_true rfl) (fun K O E => ?_)
  have O : ld_Ok l K ad cX3_wonder 6 RX3 (ld_rm (3, 74)) := O
  show K σ [(0, .ref (ad 8)), (1, .int what)] [] 0
  refine ld_aload_n O (pc := 0) 0 dX3_wonder_0 rfl rfl ?_
  refine ld_g_M_houses O (pc := 1) (v := nI h) ld_w119 hh dX3_wonder_1 ?_
  refine ld_if_ne O (pc := 4) ((h : Nat) : Int) (nI_toInt (by omega)) 10 dX3_wonder_4 (by decide) (fun c1 => ?_) (fun c1 => ?_)
  · refine ld_iload_n O (pc := 10) 1 dX3_wonder_10 rfl rfl ?_
    have hl2 : (what.toInt64).toInt = (what).toInt := (Int32.toInt_toInt64 _).trans rfl
    refine ld_i2l O (pc := 11) dX3_wonder_11 ?_
    refine ld_lconst O (pc := 12) (v := (0 : Int64)) dX3_wonder_12 (by decide) ?_
    refine ld_lconst O (pc := 13) (v := (1 : Int64)) dX3_wonder_13 (by decide) ?_
    refine ld_callSi O (pc := 14) (As := [.long what.toInt64, .long (0 : Int64), .long (1 : Int64)]) (st := []) (c_X3_in l ad σ what.toInt64 (0 : Int64) (1 : Int64) ((what).toInt) 0 1 hl2 (by decide) (by decide)) ld_mw_X3_in ld_w128 rfl rfl ⟨by decide, by decide⟩ (Nat.le_of_ble_eq_true rfl) dX3_wonder_14 (fun r_p14 σ_p14 h_p14 => ?_)
    obtain ⟨rfl, hσ_p14⟩ := h_p14
    rw [hσ_p14]
    show K σ [(0, .ref (ad 8)), (1, .int what)] [.int (ld_b (0 ≤ (what).toInt ∧ (what).toInt ≤ 1))] 17
    refine ld_ifb_ne O (pc := 17) 23 dX3_wonder_17 (by decide) (fun c3 => ?_) (fun c3 => ?_)
    · refine ld_bipush O (pc := 23) (v := (-9 : Int32)) dX3_wonder_23 (by decide) ?_
      refine ld_istore_n O (pc := 25) [(2, .int (-9 : Int32)), (0, .ref (ad 8)), (1, .int what)] dX3_wonder_25 rfl (by decide) rfl ?_
      refine ld_bipush O (pc := 26) (v := (-9 : Int32)) dX3_wonder_26 (by decide) ?_
      refine ld_istore_n O (pc := 28) [(3, .int (-9 : Int32)), (2, .int (-9 : Int32)), (0, .ref (ad 8)), (1, .int what)] dX3_wonder_28 rfl (by decide) rfl ?_
      refine ld_aload_n O (pc := 29) 2 dX3_wonder_29 rfl rfl ?_
      refine ld_g_M_crateNow O (pc := 30) (v := nI cr) ld_w121 hcr dX3_wonder_30 ?_
      refine ld_istore O (pc := 33) [(4, .int (nI cr)), (3, .int (-9 : Int32)), (2, .int (-9 : Int32)), (0, .ref (ad 8)), (1, .int what)] dX3_wonder_33 (by decide) rfl ?_
      have L35 : ∀ (m_35 : Nat) (i : Nat) (o : Option Nat) (p : Option Nat), 99 - i < m_35 → (cr ≤ i) → (i ≤ 99) → (o = none → p = none ∧ ld_fi (fun d => ¬ ld_lo h (σ 20) (σ 21) (cr + d) = none) (i - cr) = none) → (∀ c, o = some c → cr ≤ c ∧ c ≤ 99 ∧ ld_wd h (σ 20) (σ 21) cr = some (c - cr) ∧ ld_lo h (σ 20) (σ 21) c = p ∧ ¬ p = none) → K σ [(0, .ref (ad 8)), (1, .int what), (2, .int (ld_nv o)), (3, .int (ld_nv p)), (4, .int (nI i))] [] 35 := by
        intro m_35
        induction m_35 with
        | zero => intro i o p hm_; exact absurd hm_ (Nat.not_lt_zero _)
        | succ m_35 ih35 =>
          intro i o p hm_35 hi hi2 ho hs
          refine ld_iload O (pc := 35) 4 dX3_wonder_35 rfl ?_
          rcases o with _ | c
          · obtain ⟨hpn_, hf_⟩ := ho rfl
            subst hpn_
            show K σ [(0, .ref (ad 8)), (1, .int what), (2, .int (-9 : Int32)), (3, .int (-9 : Int32)), (4, .int (nI i))] [.int (nI i)] 37
            refine ld_bipush O (pc := 37) (v := nI 99) dX3_wonder_37 (by decide) ?_
            refine ld_icmp_ge O (pc := 39) ((i : Nat) : Int) 99 (nI_toInt (by omega)) (by decide) 111 dX3_wonder_39 (by decide) (fun c4 => ?_) (fun c4 => ?_)
            · refine ld_iload_n O (pc := 111) 1 dX3_wonder_111 rfl rfl ?_
              refine ld_if_ne O (pc := 112) (what).toInt rfl 119 dX3_wonder_112 (by decide) (fun c5 => ?_) (fun c5 => ?_)
              · refine ld_iload_n O (pc := 119) 3 dX3_wonder_119 rfl rfl ?_
                refine ld_ireti E dX3_wonder_120 ?_
                refine ⟨?_, rfl⟩
                unfold ld_fWo
                rw [if_pos (by omega), if_pos (by omega)]
                have hY_ : ld_wd h (σ 20) (σ 21) cr = none := by rw [show i = 99 by omega] at hf_; exact hf_
                rw [hY_]
              · refine ld_iload_n O (pc := 115) 2 dX3_wonder_115 rfl rfl ?_
                refine ld_goto O (pc := 116) 120 dX3_wonder_116 (by decide) ?_
                refine ld_ireti E dX3_wonder_120 ?_
                refine ⟨?_, rfl⟩
                unfold ld_fWo
                rw [if_pos (by omega), if_pos (by omega)]
                have hY_ : ld_wd h (σ 20) (σ 21) cr = none := by rw [show i = 99 by omega] at hf_; exact hf_
                rw [hY_]
            · refine ld_iload_n O (pc := 42) 2 dX3_wonder_42 rfl rfl ?_
              refine ld_if_ge O (pc := 43) (-9) (by decide) 111 dX3_wonder_43 (by decide) (fun z => absurd z (by decide)) (fun _ => ?_)
              refine ld_aload_n O (pc := 46) 0 dX3_wonder_46 rfl rfl ?_
              refine ld_g_M_houses O (pc := 47) (v := nI h) ld_w119 hh dX3_wonder_47 ?_
              refine ld_iconst O (pc := 50) (v := nI 1) dX3_wonder_50 (by decide) ?_
              refine ld_isub O (pc := 51) dX3_wonder_51 ?_
              refine ld_istore O (pc := 52) [(5, .int ((nI h) - (nI 1))), (0, .ref (ad 8)), (1, .int what), (2, .int (-9 : Int32)), (3, .int (-9 : Int32)), (4, .int (nI i))] dX3_wonder_52 (by decide) rfl ?_
              have L54 : ∀ (m_54 : Nat) (kk : Nat) (p2 : Option Nat), kk < m_54 → (kk ≤ h) → (∀ j, p2 = some j → kk ≤ j ∧ j < h ∧ ((ld_dt h (σ 20) (σ 21) (nI (i + 1)) j).toInt < (ld_dt h (σ 20) (σ 21) (nI i) j).toInt) ∧ ∀ x, kk ≤ x → x < j → ¬ ((ld_dt h (σ 20) (σ 21) (nI (i + 1)) x).toInt < (ld_dt h (σ 20) (σ 21) (nI i) x).toInt)) → (p2 = none → ∀ x, kk ≤ x → x < h → ¬ ((ld_dt h (σ 20) (σ 21) (nI (i + 1)) x).toInt < (ld_dt h (σ 20) (σ 21) (nI i) x).toInt)) → K σ [(0, .ref (ad 8)), (1, .int what), (2, .int (-9 : Int32)), (3, .int (ld_nv p2)), (4, .int (nI i)), (5, .int (nI kk - nI 1))] [] 54 := by
                intro m_54
                induction m_54 with
                | zero => intro kk p2 hm_; exact absurd hm_ (Nat.not_lt_zero _)
                | succ m_54 ih54 =>
                  intro kk p2 hm_54 hkk hp1 hp2
                  refine ld_iload O (pc := 54) 5 dX3_wonder_54 rfl ?_
                  refine ld_if_lt O (pc := 56) (((kk : Nat) : Int) - 1) (ld_km (by omega)) 93 dX3_wonder_56 (by decide) (fun c7 => ?_) (fun c7 => ?_)
                  · have hL_ : p2 = ld_lo h (σ 20) (σ 21) i := ld_fi_uq (fun j hj => by obtain ⟨a, b, c, d⟩ := hp1 j hj; exact ⟨b, c, fun x hx => d x (by omega) hx⟩) (fun z x hx => hp2 z x (by omega) hx); rcases p2 with _ | j2
                    · show K σ [(0, .ref (ad 8)), (1, .int what), (2, .int (-9 : Int32)), (3, .int (-9 : Int32)), (4, .int (nI i)), (5, .int (nI kk - nI 1))] [] 93
                      refine ld_iload_n O (pc := 93) 3 dX3_wonder_93 rfl rfl ?_
                      refine ld_if_lt O (pc := 94) (-9) (by decide) 102 dX3_wonder_94 (by decide) (fun _ => ?_) (fun z => absurd z (by decide))
                      refine ld_bipush O (pc := 102) (v := (-9 : Int32)) dX3_wonder_102 (by decide) ?_
                      refine ld_istore_n O (pc := 104) [(2, .int (-9 : Int32)), (0, .ref (ad 8)), (1, .int what), (3, .int (-9 : Int32)), (4, .int (nI i)), (5, .int (nI kk - nI 1))] dX3_wonder_104 rfl (by decide) rfl ?_
                      refine ld_iincN O (pc := 105) [(4, .int (nI (i + 1))), (2, .int (-9 : Int32)), (0, .ref (ad 8)), (1, .int what), (3, .int (-9 : Int32)), (5, .int (nI kk - nI 1))] 4 dX3_wonder_105 rfl (by decide) rfl ?_
                      refine ld_goto O (pc := 108) 35 dX3_wonder_108 (by decide) ?_
                      refine ld_less O [2, 3, 1, 4, 0] (lv2 := [(0, .ref (ad 8)), (1, .int what), (2, .int (ld_nv none)), (3, .int (ld_nv none)), (4, .int (nI (i + 1)))]) rfl ?_
                      exact ih35 (i + 1) none none (by omega) (by omega) (by omega) (fun _ => ⟨rfl, by rw [show i + 1 - cr = (i - cr) + 1 by omega]; exact ld_fi_no hf_ (fun z => z (by rw [show cr + (i - cr) = i by omega]; exact hL_.symm))⟩) (fun c z => by cases z)
                    · have hj2_ := (hp1 j2 rfl).2.1
                      show K σ [(0, .ref (ad 8)), (1, .int what), (2, .int (-9 : Int32)), (3, .int (nI j2)), (4, .int (nI i)), (5, .int (nI kk - nI 1))] [] 93
                      refine ld_iload_n O (pc := 93) 3 dX3_wonder_93 rfl rfl ?_
                      refine ld_if_lt O (pc := 94) ((j2 : Nat) : Int) (nI_toInt (by omega)) 102 dX3_wonder_94 (by decide) (fun c9 => ?_) (fun c9 => ?_)
                      · exact False.elim (by omega)
                      · refine ld_iload O (pc := 97) 4 dX3_wonder_97 rfl ?_
                        refine ld_goto O (pc := 99) 104 dX3_wonder_99 (by decide) ?_
                        refine ld_istore_n O (pc := 104) [(2, .int (nI i)), (0, .ref (ad 8)), (1, .int what), (3, .int (nI j2)), (4, .int (nI i)), (5, .int (nI kk - nI 1))] dX3_wonder_104 rfl (by decide) rfl ?_
                        refine ld_iincN O (pc := 105) [(4, .int (nI (i + 1))), (2, .int (nI i)), (0, .ref (ad 8)), (1, .int what), (3, .int (nI j2)), (5, .int (nI kk - nI 1))] 4 dX3_wonder_105 rfl (by decide) rfl ?_
                        refine ld_goto O (pc := 108) 35 dX3_wonder_108 (by decide) ?_
                        refine ld_less O [2, 3, 1, 4, 0] (lv2 := [(0, .ref (ad 8)), (1, .int what), (2, .int (ld_nv (some i))), (3, .int (ld_nv (some j2))), (4, .int (nI (i + 1)))]) rfl ?_
                        exact ih35 (i + 1) (some i) (some j2) (by omega) (by omega) (by omega) (fun z => by cases z) (fun c z => by cases z; exact ⟨by omega, by omega, ld_fi_yes hf_ (by rw [show cr + (i - cr) = i by omega, ← hL_]; exact fun z => by cases z) (by omega), hL_.symm, fun z => by cases z⟩)
                  · rw [ld_km1 (k := kk) (by omega)]
                    refine ld_aload_n O (pc := 59) 0 dX3_wonder_59 rfl rfl ?_
                    refine ld_iload O (pc := 60) 5 dX3_wonder_60 rfl ?_
                    refine ld_iload O (pc := 62) 4 dX3_wonder_62 rfl ?_
                    refine ld_callVi O (pc := 64) (As := [.int (nI (kk - 1)), .int (nI i)]) (st := []) ld_recv8 (c_X3_dealtTo l ad σ h hh h8 hkt (kk - 1) (by omega) (nI i)) ld_mw_X3_dealtTo ld_w202 rfl rfl ⟨by decide, by decide⟩ (Nat.le_of_ble_eq_true rfl) dX3_wonder_64 (fun r_p64 σ_p64 h_p64 => ?_)
                    obtain ⟨rfl, hσ_p64⟩ := h_p64
                    rw [hσ_p64]
                    show K σ [(0, .ref (ad 8)), (1, .int what), (2, .int (-9 : Int32)), (3, .int (ld_nv p2)), (4, .int (nI i)), (5, .int (nI (kk - 1)))] [.int (ld_dt h (σ 20) (σ 21) (nI i) (kk - 1))] 67
                    refine ld_aload_n O (pc := 67) 0 dX3_wonder_67 rfl rfl ?_
                    refine ld_iload O (pc := 68) 5 dX3_wonder_68 rfl ?_
                    refine ld_iload O (pc := 70) 4 dX3_wonder_70 rfl ?_
                    refine ld_iconst O (pc := 72) (v := nI 1) dX3_wonder_72 (by decide) ?_
                    refine ld_iaddN O (pc := 73) dX3_wonder_73 ?_
                    refine ld_callVi O (pc := 74) (As := [.int (nI (kk - 1)), .int (nI (i + 1))]) (st := [.int (ld_dt h (σ 20) (σ 21) (nI i) (kk - 1))]) ld_recv8 (c_X3_dealtTo l ad σ h hh h8 hkt (kk - 1) (by omega) (nI (i + 1))) ld_mw_X3_dealtTo ld_w202 rfl rfl ⟨by decide, by decide⟩ (Nat.le_of_ble_eq_true rfl) dX3_wonder_74 (fun r_p74 σ_p74 h_p74 => ?_)
                    obtain ⟨rfl, hσ_p74⟩ := h_p74
                    rw [hσ_p74]
                    show K σ [(0, .ref (ad 8)), (1, .int what), (2, .int (-9 : Int32)), (3, .int (ld_nv p2)), (4, .int (nI i)), (5, .int (nI (kk - 1)))] [.int (ld_dt h (σ 20) (σ 21) (nI (i + 1)) (kk - 1)), .int (ld_dt h (σ 20) (σ 21) (nI i) (kk - 1))] 77
                    refine ld_icmp_le O (pc := 77) (ld_dt h (σ 20) (σ 21) (nI i) (kk - 1)).toInt (ld_dt h (σ 20) (σ 21) (nI (i + 1)) (kk - 1)).toInt rfl rfl 85 dX3_wonder_77 (by decide) (fun c10 => ?_) (fun c10 => ?_)
                    · refine ld_iload_n O (pc := 85) 3 dX3_wonder_85 rfl rfl ?_
                      refine ld_istore_n O (pc := 86) [(3, .int (ld_nv p2)), (0, .ref (ad 8)), (1, .int what), (2, .int (-9 : Int32)), (4, .int (nI i)), (5, .int (nI (kk - 1)))] dX3_wonder_86 rfl (by decide) rfl ?_
                      refine ld_iinc O (pc := 87) [(5, .int (nI (kk - 1) - nI 1)), (3, .int (ld_nv p2)), (0, .ref (ad 8)), (1, .int what), (2, .int (-9 : Int32)), (4, .int (nI i))] 5 (v := nI (kk - 1) - nI 1) dX3_wonder_87 rfl (ld_km2 _) (by decide) rfl ?_
                      refine ld_goto O (pc := 90) 54 dX3_wonder_90 (by decide) ?_
                      refine ld_less O [2, 3, 4, 1, 5, 0] (lv2 := [(0, .ref (ad 8)), (1, .int what), (2, .int (-9 : Int32)), (3, .int (ld_nv p2)), (4, .int (nI i)), (5, .int (nI (kk - 1) - nI 1))]) rfl ?_
                      exact ih54 (kk - 1) p2 (by omega) (by omega) (fun j hj => by obtain ⟨a, b, c, d⟩ := hp1 j hj; exact ⟨by omega, b, c, fun x g1 g2 => by by_cases e : x = kk - 1; (first | (rw [e]; omega) | exact d x (by omega) g2); exact d x (by omega) g2⟩) (fun z x g1 g2 => by by_cases e : x = kk - 1; (rw [e]; omega); exact hp2 z x (by omega) g2)
                    · refine ld_iload O (pc := 80) 5 dX3_wonder_80 rfl ?_
                      refine ld_goto O (pc := 82) 86 dX3_wonder_82 (by decide) ?_
                      refine ld_istore_n O (pc := 86) [(3, .int (nI (kk - 1))), (0, .ref (ad 8)), (1, .int what), (2, .int (-9 : Int32)), (4, .int (nI i)), (5, .int (nI (kk - 1)))] dX3_wonder_86 rfl (by decide) rfl ?_
                      refine ld_iinc O (pc := 87) [(5, .int (nI (kk - 1) - nI 1)), (3, .int (nI (kk - 1))), (0, .ref (ad 8)), (1, .int what), (2, .int (-9 : Int32)), (4, .int (nI i))] 5 (v := nI (kk - 1) - nI 1) dX3_wonder_87 rfl (ld_km2 _) (by decide) rfl ?_
                      refine ld_goto O (pc := 90) 54 dX3_wonder_90 (by decide) ?_
                      refine ld_less O [2, 3, 4, 1, 5, 0] (lv2 := [(0, .ref (ad 8)), (1, .int what), (2, .int (-9 : Int32)), (3, .int (ld_nv (some (kk - 1)))), (4, .int (nI i)), (5, .int (nI (kk - 1) - nI 1))]) rfl ?_
                      exact ih54 (kk - 1) (some (kk - 1)) (by omega) (by omega) (fun j hj => by cases hj; exact ⟨by omega, by omega, by omega, fun x g1 g2 => absurd g2 (by omega)⟩) (fun z => by cases z)
              refine ld_less O [1, 2, 3, 4, 5, 0] (lv2 := [(0, .ref (ad 8)), (1, .int what), (2, .int (-9 : Int32)), (3, .int (ld_nv none)), (4, .int (nI i)), (5, .int (nI h - nI 1))]) rfl ?_
              exact L54 _ h none (Nat.lt_succ_self _) (Nat.le_refl _) (fun j hj => by cases hj) (fun _ x g1 g2 => absurd g2 (by omega))
          · obtain ⟨h1_, h2_, h3_, h4_, h5_⟩ := hs c rfl
            show K σ [(0, .ref (ad 8)), (1, .int what), (2, .int (nI c)), (3, .int (ld_nv p)), (4, .int (nI i))] [.int (nI i)] 37
            refine ld_bipush O (pc := 37) (v := nI 99) dX3_wonder_37 (by decide) ?_
            refine ld_icmp_ge O (pc := 39) ((i : Nat) : Int) 99 (nI_toInt (by omega)) (by decide) 111 dX3_wonder_39 (by decide) (fun c11 => ?_) (fun c11 => ?_)
            · refine ld_iload_n O (pc := 111) 1 dX3_wonder_111 rfl rfl ?_
              refine ld_if_ne O (pc := 112) (what).toInt rfl 119 dX3_wonder_112 (by decide) (fun c12 => ?_) (fun c12 => ?_)
              · refine ld_iload_n O (pc := 119) 3 dX3_wonder_119 rfl rfl ?_
                refine ld_ireti E dX3_wonder_120 ?_
                refine ⟨?_, rfl⟩
                unfold ld_fWo
                rw [if_pos (by omega), if_pos (by omega)]
                rw [h3_]
                dsimp only
                rw [show cr + (c - cr) = c by omega]
                first | (rw [if_pos (by omega)]; done) | (rw [if_neg (by omega), h4_]; done)
              · refine ld_iload_n O (pc := 115) 2 dX3_wonder_115 rfl rfl ?_
                refine ld_goto O (pc := 116) 120 dX3_wonder_116 (by decide) ?_
                refine ld_ireti E dX3_wonder_120 ?_
                refine ⟨?_, rfl⟩
                unfold ld_fWo
                rw [if_pos (by omega), if_pos (by omega)]
                rw [h3_]
                dsimp only
                rw [show cr + (c - cr) = c by omega]
                first | (rw [if_pos (by omega)]; done) | (rw [if_neg (by omega), h4_]; done)
            · refine ld_iload_n O (pc := 42) 2 dX3_wonder_42 rfl rfl ?_
              refine ld_if_ge O (pc := 43) ((c : Nat) : Int) (nI_toInt (by omega)) 111 dX3_wonder_43 (by decide) (fun c13 => ?_) (fun c13 => ?_)
              · refine ld_iload_n O (pc := 111) 1 dX3_wonder_111 rfl rfl ?_
                refine ld_if_ne O (pc := 112) (what).toInt rfl 119 dX3_wonder_112 (by decide) (fun c14 => ?_) (fun c14 => ?_)
                · refine ld_iload_n O (pc := 119) 3 dX3_wonder_119 rfl rfl ?_
                  refine ld_ireti E dX3_wonder_120 ?_
                  refine ⟨?_, rfl⟩
                  unfold ld_fWo
                  rw [if_pos (by omega), if_pos (by omega)]
                  rw [h3_]
                  dsimp only
                  rw [show cr + (c - cr) = c by omega]
                  first | (rw [if_pos (by omega)]; done) | (rw [if_neg (by omega), h4_]; done)
                · refine ld_iload_n O (pc := 115) 2 dX3_wonder_115 rfl rfl ?_
                  refine ld_goto O (pc := 116) 120 dX3_wonder_116 (by decide) ?_
                  refine ld_ireti E dX3_wonder_120 ?_
                  refine ⟨?_, rfl⟩
                  unfold ld_fWo
                  rw [if_pos (by omega), if_pos (by omega)]
                  rw [h3_]
                  dsimp only
                  rw [show cr + (c - cr) = c by omega]
                  first | (rw [if_pos (by omega)]; done) | (rw [if_neg (by omega), h4_]; done)
              · exact False.elim (by omega)
      refine ld_less O [3, 4, 2, 1, 0] (lv2 := [(0, .ref (ad 8)), (1, .int what), (2, .int (ld_nv none)), (3, .int (ld_nv none)), (4, .int (nI cr))]) rfl ?_
      exact L35 _ cr none none (Nat.lt_succ_self _) (Nat.le_refl _) c99 (fun _ => ⟨rfl, by rw [Nat.sub_self]; rfl⟩) (fun c z => by cases z)
    · refine ld_bipush O (pc := 20) (v := (-2 : Int32)) dX3_wonder_20 (by decide) ?_
      refine ld_ireti E dX3_wonder_22 ?_
      refine ⟨?_, rfl⟩
      unfold ld_fWo
      rw [if_pos (by omega), if_neg (by omega)]
  · refine ld_bipush O (pc := 7) (v := (-3 : Int32)) dX3_wonder_7 (by decide) ?_
    refine ld_ireti E dX3_wonder_9 ?_
    refine ⟨?_, rfl⟩
    unfold ld_fWo
    rw [if_neg (by omega)]
set_option maxHeartbeats 4000000 in
set_option maxRecDepth 100000 in
theorem c_X3_isBeyond (l : Launch) (ad : Nat → Nat) (σ : ld_St) (x : Int32) (y : Int64) (Y : Int) (hy : y.toInt = Y) (hY : -1000000000000000 ≤ Y ∧ Y ≤ 1000000000000000) (z : Int32) : ld_Ctr l yX3_isBeyond cX3_isBeyond 4 (some .boolean) (0, 0) [.int x, .long y, .int z] ad σ (ld_I (fun (r : Int32) (σ2 : ld_St) => r = ld_b (x.toInt < 0 ∨ Y < 0 ∨ z.toInt < x.toInt + Y) ∧ σ2 = σ)) := by
  refine ld_entry (by decide +kernel) (Nat.le_of_ble_eq_true rfl) (fun K O E => ?_)
  have O : ld_Ok l K ad cX3_isBeyond 4 RX3 (ld_rm (0, 0)) := O
  have hx_ := fb_rng x
  show K σ [(0, .int x), (1, .long y), (3, .int z)] [] 0
  refine ld_iload_n O (pc := 0) 0 dX3_isBeyond_0 rfl rfl ?_
  refine ld_if_lt O (pc := 1) (x).toInt rfl 20 dX3_isBeyond_1 (by decide) (fun c1 => ?_) (fun c1 => ?_)
  · refine ld_iconst O (pc := 20) (v := nI 1) dX3_isBeyond_20 (by decide) ?_
    refine ld_goto O (pc := 21) 25 dX3_isBeyond_21 (by decide) ?_
    refine ld_iretz E (Or.inr rfl) dX3_isBeyond_25 ?_
    exact ⟨(ld_b_t (by omega)).symm, rfl⟩
  · refine ld_lload_n O (pc := 4) 1 dX3_isBeyond_4 rfl rfl ?_
    refine ld_lconst O (pc := 5) (v := (0 : Int64)) dX3_isBeyond_5 (by decide) ?_
    refine ld_lcmp O (pc := 6) dX3_isBeyond_6 ?_
    have hq3 := ld_cmp_i (x := y) (y := (0 : Int64)) (X := Y) (Y := 0) hy (by decide)
    refine ld_if_lt O (pc := 7) _ rfl 20 dX3_isBeyond_7 (by decide) (fun c2 => ?_) (fun c2 => ?_)
    · have c2 : Y < 0 := by omega
      refine ld_iconst O (pc := 20) (v := nI 1) dX3_isBeyond_20 (by decide) ?_
      refine ld_goto O (pc := 21) 25 dX3_isBeyond_21 (by decide) ?_
      refine ld_iretz E (Or.inr rfl) dX3_isBeyond_25 ?_
      exact ⟨(ld_b_t (by omega)).symm, rfl⟩
    · have c2 : ¬ Y < 0 := by omega
      refine ld_iload_n O (pc := 10) 0 dX3_isBeyond_10 rfl rfl ?_
      have hl4 : (x.toInt64).toInt = (x).toInt := (Int32.toInt_toInt64 _).trans rfl
      refine ld_i2l O (pc := 11) dX3_isBeyond_11 ?_
      refine ld_lload_n O (pc := 12) 1 dX3_isBeyond_12 rfl rfl ?_
      have hl5 : (x.toInt64 + y).toInt = (x).toInt + Y := by
        have a1 : x.toInt64.toInt = (x).toInt := hl4
        have a2 : y.toInt = Y := hy
        rw [ld_fb_addL a1 a2 (by omega) (by omega)]
      refine ld_ladd O (pc := 13) dX3_isBeyond_13 ?_
      refine ld_iload_n O (pc := 14) 2 dX3_isBeyond_14 rfl rfl ?_
      have hl6 : (z.toInt64).toInt = (z).toInt := (Int32.toInt_toInt64 _).trans rfl
      refine ld_i2l O (pc := 15) dX3_isBeyond_15 ?_
      refine ld_lcmp O (pc := 16) dX3_isBeyond_16 ?_
      have hq8 := ld_cmp_i (x := x.toInt64 + y) (y := z.toInt64) (X := ((x).toInt + Y)) (Y := (z).toInt) hl5 hl6
      refine ld_if_le O (pc := 17) _ rfl 24 dX3_isBeyond_17 (by decide) (fun c7 => ?_) (fun c7 => ?_)
      · have c7 : ¬ (z).toInt < ((x).toInt + Y) := by omega
        refine ld_iconst O (pc := 24) (v := nI 0) dX3_isBeyond_24 (by decide) ?_
        refine ld_iretz E (Or.inl rfl) dX3_isBeyond_25 ?_
        exact ⟨(ld_b_f (by omega)).symm, rfl⟩
      · have c7 : (z).toInt < ((x).toInt + Y) := by omega
        refine ld_iconst O (pc := 20) (v := nI 1) dX3_isBeyond_20 (by decide) ?_
        refine ld_goto O (pc := 21) 25 dX3_isBeyond_21 (by decide) ?_
        refine ld_iretz E (Or.inr rfl) dX3_isBeyond_25 ?_
        exact ⟨(ld_b_t (by omega)).symm, rfl⟩
set_option maxHeartbeats 4000000 in
set_option maxRecDepth 100000 in
theorem c_X3_calm (l : Launch) (ad : Nat → Nat) (σ : ld_St) (h : Nat) (hh : σ 141 0 = nI h) (h8 : h ≤ 8) (cr : Nat) (hcr : σ 142 0 = nI cr) (c99 : cr ≤ 99) (T : Nat) (hT : T ≤ 8900) (hbd : ld_bd h (σ 20) (σ 21) (σ 22) (σ 23) T) (n v : Int32) : ld_Ctr l yX3_calm cX3_calm 6 (some .int) (4, 97) [.ref (ad 8), .int n, .int v] ad σ (ld_I (fun (r : Int32) (σ2 : ld_St) => r = ld_fCa h (σ 20) (σ 21, σ 22, σ 23) n v ∧ ∃ t s p d k0 k1 k2 fc fw ck wk : Nat → Int32, σ2 = us (us (us (us (us (us (us (us (us (us (us σ 21 t) 22 s) 23 p) 27 d) 28 k0) 29 k1) 30 k2) 142 fc) 143 fw) 147 ck) 148 wk ∧ (∀ x, x < h → t x = σ 21 x ∧ s x = σ 22 x ∧ p x = σ 23 x) ∧ fc 0 = σ 142 0 ∧ fw 0 = σ 143 0)) := by
  refine ld_entry (by decide +kernel) (Nat.le_of_ble_eq_true rfl) (fun K O E => ?_)
  have O : ld_Ok l K ad cX3_calm 6 RX3 (ld_rm (4, 97)) := O
  show K σ [(0, .ref (ad 8)), (1, .int n), (2, .int v)] [] 0
  refine ld_aload_n O (pc := 0) 0 dX3_calm_0 rfl rfl ?_
  refine ld_g_M_houses O (pc := 1) (v := nI h) ld_w119 hh dX3_calm_1 ?_
  refine ld_if_ne O (pc := 4) ((h : Nat) : Int) (nI_toInt (by omega)) 10 dX3_calm_4 (by decide) (fun c1 => ?_) (fun c1 => ?_)
  · refine ld_iload_n O (pc := 10) 1 dX3_calm_10 rfl rfl ?_
    have hl2 : (n.toInt64).toInt = (n).toInt := (Int32.toInt_toInt64 _).trans rfl
    refine ld_i2l O (pc := 11) dX3_calm_11 ?_
    refine ld_lconst O (pc := 12) (v := (0 : Int64)) dX3_calm_12 (by decide) ?_
    refine ld_ldc2 O (pc := 13) (v := (12 : Int64)) dX3_calm_13 ld_w378 ?_
    refine ld_callSi O (pc := 16) (As := [.long n.toInt64, .long (0 : Int64), .long (12 : Int64)]) (st := []) (c_X3_in l ad σ n.toInt64 (0 : Int64) (12 : Int64) ((n).toInt) 0 (12) hl2 (by decide) (by decide)) ld_mw_X3_in ld_w128 rfl rfl ⟨by decide, by decide⟩ (Nat.le_of_ble_eq_true rfl) dX3_calm_16 (fun r_p16 σ_p16 h_p16 => ?_)
    obtain ⟨rfl, hσ_p16⟩ := h_p16
    rw [hσ_p16]
    show K σ [(0, .ref (ad 8)), (1, .int n), (2, .int v)] [.int (ld_b (0 ≤ (n).toInt ∧ (n).toInt ≤ (12)))] 19
    refine ld_ifb_eq O (pc := 19) 34 dX3_calm_19 (by decide) (fun c3 => ?_) (fun c3 => ?_)
    · refine ld_bipush O (pc := 34) (v := (-2 : Int32)) dX3_calm_34 (by decide) ?_
      refine ld_ireti E dX3_calm_36 ?_
      refine ⟨?_, σ 21, σ 22, σ 23, σ 27, σ 28, σ 29, σ 30, σ 142, σ 143, σ 147, σ 148, ?_, ?_, ?_, ?_⟩
      · unfold ld_fCa
        repeat' split
        all_goals first | (exfalso; omega) | rfl
      · funext b_
        by_cases h0_ : b_ = 21
        · subst h0_; exact (rfl).trans ((us_ne _ _ (by decide)).trans ((us_ne _ _ (by decide)).trans ((us_ne _ _ (by decide)).trans ((us_ne _ _ (by decide)).trans ((us_ne _ _ (by decide)).trans ((us_ne _ _ (by decide)).trans ((us_ne _ _ (by decide)).trans ((us_ne _ _ (by decide)).trans ((us_ne _ _ (by decide)).trans ((us_ne _ _ (by decide)).trans (us_eq _ _ _))))))))))).symm
        by_cases h1_ : b_ = 22
        · subst h1_; exact (rfl).trans ((us_ne _ _ (by decide)).trans ((us_ne _ _ (by decide)).trans ((us_ne _ _ (by decide)).trans ((us_ne _ _ (by decide)).trans ((us_ne _ _ (by decide)).trans ((us_ne _ _ (by decide)).trans ((us_ne _ _ (by decide)).trans ((us_ne _ _ (by decide)).trans ((us_ne _ _ (by decide)).trans (us_eq _ _ _)))))))))).symm
        by_cases h2_ : b_ = 23
        · subst h2_; exact (rfl).trans ((us_ne _ _ (by decide)).trans ((us_ne _ _ (by decide)).trans ((us_ne _ _ (by decide)).trans ((us_ne _ _ (by decide)).trans ((us_ne _ _ (by decide)).trans ((us_ne _ _ (by decide)).trans ((us_ne _ _ (by decide)).trans ((us_ne _ _ (by decide)).trans (us_eq _ _ _))))))))).symm
        by_cases h3_ : b_ = 27
        · subst h3_; exact (rfl).trans ((us_ne _ _ (by decide)).trans ((us_ne _ _ (by decide)).trans ((us_ne _ _ (by decide)).trans ((us_ne _ _ (by decide)).trans ((us_ne _ _ (by decide)).trans ((us_ne _ _ (by decide)).trans ((us_ne _ _ (by decide)).trans (us_eq _ _ _)))))))).symm
        by_cases h4_ : b_ = 28
        · subst h4_; exact (rfl).trans ((us_ne _ _ (by decide)).trans ((us_ne _ _ (by decide)).trans ((us_ne _ _ (by decide)).trans ((us_ne _ _ (by decide)).trans ((us_ne _ _ (by decide)).trans ((us_ne _ _ (by decide)).trans (us_eq _ _ _))))))).symm
        by_cases h5_ : b_ = 29
        · subst h5_; exact (rfl).trans ((us_ne _ _ (by decide)).trans ((us_ne _ _ (by decide)).trans ((us_ne _ _ (by decide)).trans ((us_ne _ _ (by decide)).trans ((us_ne _ _ (by decide)).trans (us_eq _ _ _)))))).symm
        by_cases h6_ : b_ = 30
        · subst h6_; exact (rfl).trans ((us_ne _ _ (by decide)).trans ((us_ne _ _ (by decide)).trans ((us_ne _ _ (by decide)).trans ((us_ne _ _ (by decide)).trans (us_eq _ _ _))))).symm
        by_cases h7_ : b_ = 142
        · subst h7_; exact (rfl).trans ((us_ne _ _ (by decide)).trans ((us_ne _ _ (by decide)).trans ((us_ne _ _ (by decide)).trans (us_eq _ _ _)))).symm
        by_cases h8_ : b_ = 143
        · subst h8_; exact (rfl).trans ((us_ne _ _ (by decide)).trans ((us_ne _ _ (by decide)).trans (us_eq _ _ _))).symm
        by_cases h9_ : b_ = 147
        · subst h9_; exact (rfl).trans ((us_ne _ _ (by decide)).trans (us_eq _ _ _)).symm
        by_cases h10_ : b_ = 148
        · subst h10_; exact (rfl).trans (us_eq _ _ _).symm
        simp only [us, h0_, h1_, h2_, h3_, h4_, h5_, h6_, h7_, h8_, h9_, h10_, if_false]
      · exact fun _ _ => ⟨rfl, rfl, rfl⟩
      · rfl
      · rfl
    · refine ld_iload_n O (pc := 22) 2 dX3_calm_22 rfl rfl ?_
      have hl4 : (v.toInt64).toInt = (v).toInt := (Int32.toInt_toInt64 _).trans rfl
      refine ld_i2l O (pc := 23) dX3_calm_23 ?_
      refine ld_lconst O (pc := 24) (v := (0 : Int64)) dX3_calm_24 (by decide) ?_
      refine ld_ldc2 O (pc := 25) (v := (9 : Int64)) dX3_calm_25 ld_w159 ?_
      refine ld_callSi O (pc := 28) (As := [.long v.toInt64, .long (0 : Int64), .long (9 : Int64)]) (st := []) (c_X3_in l ad σ v.toInt64 (0 : Int64) (9 : Int64) ((v).toInt) 0 (9) hl4 (by decide) (by decide)) ld_mw_X3_in ld_w128 rfl rfl ⟨by decide, by decide⟩ (Nat.le_of_ble_eq_true rfl) dX3_calm_28 (fun r_p28 σ_p28 h_p28 => ?_)
      obtain ⟨rfl, hσ_p28⟩ := h_p28
      rw [hσ_p28]
      show K σ [(0, .ref (ad 8)), (1, .int n), (2, .int v)] [.int (ld_b (0 ≤ (v).toInt ∧ (v).toInt ≤ (9)))] 31
      refine ld_ifb_ne O (pc := 31) 37 dX3_calm_31 (by decide) (fun c5 => ?_) (fun c5 => ?_)
      · obtain ⟨ek_n, hk_n, ik_n⟩ := ld_ofIx (k := n) (h := 13) (by omega)
        rw [ek_n]
        refine ld_aload_n O (pc := 37) 0 dX3_calm_37 rfl rfl ?_
        refine ld_callVv O (pc := 38) (As := []) (st := []) ld_recv8 (c_X3_keepAll l ad σ h hh h8) ld_mw_X3_keepAll ld_w348 rfl rfl ⟨by decide, by decide⟩ (Nat.le_of_ble_eq_true rfl) dX3_calm_38 (fun σ_p38 h_p38 => ?_)
        obtain ⟨a0_p38, a1_p38, a2_p38, hσ_p38, ha_p38⟩ := h_p38
        rw [hσ_p38]
        have ha_p38 : ∀ x, x < h → a0_p38 x = σ 21 x ∧ a1_p38 x = σ 22 x ∧ a2_p38 x = σ 23 x := ha_p38
        show K (us (us (us (us (us σ 147 (fun _ => σ 142 0)) 148 (fun _ => σ 143 0)) 28 a0_p38) 29 a1_p38) 30 a2_p38) [(0, .ref (ad 8)), (1, .int (nI (ld_ix n))), (2, .int v)] [] 41
        refine ld_bipush O (pc := 41) (v := (-9 : Int32)) dX3_calm_41 (by decide) ?_
        refine ld_istore_n O (pc := 43) [(3, .int (-9 : Int32)), (0, .ref (ad 8)), (1, .int (nI (ld_ix n))), (2, .int v)] dX3_calm_43 rfl (by decide) rfl ?_
        refine ld_iconst O (pc := 44) (v := nI 0) dX3_calm_44 (by decide) ?_
        refine ld_istore O (pc := 45) [(4, .int (nI 0)), (3, .int (-9 : Int32)), (0, .ref (ad 8)), (1, .int (nI (ld_ix n))), (2, .int v)] dX3_calm_45 (by decide) rfl ?_
        have L47 : ∀ (m_47 : Nat) (i : Nat) (o : Option Nat) (t : Nat → Int32) (s : Nat → Int32) (p : Nat → Int32) (d : Nat → Int32) (k0 : Nat → Int32) (k1 : Nat → Int32) (k2 : Nat → Int32) (fc : Nat → Int32) (fw : Nat → Int32) (ck : Nat → Int32) (wk : Nat → Int32), 100 - i < m_47 → (i ≤ 100) → (∀ x, x < h → t x = σ 21 x ∧ s x = σ 22 x ∧ p x = σ 23 x) → (∀ x, x < h → k0 x = σ 21 x ∧ k1 x = σ 22 x ∧ k2 x = σ 23 x) → (ck 0 = σ 142 0) → (wk 0 = σ 143 0) → (fc 0 = σ 142 0) → (fw 0 = σ 143 0) → (o = none → ld_fi (fun c => (ld_wm (ld_wks h (nI c) (σ 20) (σ 21, σ 22, σ 23) (ld_ix n)).1 h).toInt ≤ v.toInt) i = none) → (∀ c, o = some c → c < 100 ∧ ld_fi (fun c => (ld_wm (ld_wks h (nI c) (σ 20) (σ 21, σ 22, σ 23) (ld_ix n)).1 h).toInt ≤ v.toInt) 100 = some c) → K (us (us (us (us (us (us (us (us (us (us (us σ 21 t) 22 s) 23 p) 27 d) 28 k0) 29 k1) 30 k2) 142 fc) 143 fw) 147 ck) 148 wk) [(0, .ref (ad 8)), (1, .int (nI (ld_ix n))), (2, .int v), (3, .int (ld_nv o)), (4, .int (nI i))] [] 47 := by
          intro m_47
          induction m_47 with
          | zero => intro i o t s p d k0 k1 k2 fc fw ck wk hm_; exact absurd hm_ (Nat.not_lt_zero _)
          | succ m_47 ih47 =>
            intro i o t s p d k0 k1 k2 fc fw ck wk hm_47 hi he hk hck hwk hc hw ho hs
            refine ld_iload O (pc := 47) 4 dX3_calm_47 rfl ?_
            rcases o with _ | c
            · have hf_ := ho rfl
              show K (us (us (us (us (us (us (us (us (us (us (us σ 21 t) 22 s) 23 p) 27 d) 28 k0) 29 k1) 30 k2) 142 fc) 143 fw) 147 ck) 148 wk) [(0, .ref (ad 8)), (1, .int (nI (ld_ix n))), (2, .int v), (3, .int (-9 : Int32)), (4, .int (nI i))] [.int (nI i)] 49
              refine ld_bipush O (pc := 49) (v := nI 100) dX3_calm_49 (by decide) ?_
              refine ld_icmp_ge O (pc := 51) ((i : Nat) : Int) 100 (nI_toInt (by omega)) (by decide) 109 dX3_calm_51 (by decide) (fun c6 => ?_) (fun c6 => ?_)
              · refine ld_iload_n O (pc := 109) 3 dX3_calm_109 rfl rfl ?_
                refine ld_ireti E dX3_calm_110 ?_
                refine ⟨?_, t, s, p, d, k0, k1, k2, fc, fw, ck, wk, ?_, ?_, ?_, ?_⟩
                · rw [show i = 100 by omega] at hf_
                  unfold ld_fCa
                  rw [if_pos (by omega), if_pos (by omega), hf_]
                  rfl
                · funext b_
                  by_cases h0_ : b_ = 21
                  · subst h0_; exact ((us_ne _ _ (by decide)).trans ((us_ne _ _ (by decide)).trans ((us_ne _ _ (by decide)).trans ((us_ne _ _ (by decide)).trans ((us_ne _ _ (by decide)).trans ((us_ne _ _ (by decide)).trans ((us_ne _ _ (by decide)).trans ((us_ne _ _ (by decide)).trans ((us_ne _ _ (by decide)).trans ((us_ne _ _ (by decide)).trans (us_eq _ _ _))))))))))).trans ((us_ne _ _ (by decide)).trans ((us_ne _ _ (by decide)).trans ((us_ne _ _ (by decide)).trans ((us_ne _ _ (by decide)).trans ((us_ne _ _ (by decide)).trans ((us_ne _ _ (by decide)).trans ((us_ne _ _ (by decide)).trans ((us_ne _ _ (by decide)).trans ((us_ne _ _ (by decide)).trans ((us_ne _ _ (by decide)).trans (us_eq _ _ _))))))))))).symm
                  by_cases h1_ : b_ = 22
                  · subst h1_; exact ((us_ne _ _ (by decide)).trans ((us_ne _ _ (by decide)).trans ((us_ne _ _ (by decide)).trans ((us_ne _ _ (by decide)).trans ((us_ne _ _ (by decide)).trans ((us_ne _ _ (by decide)).trans ((us_ne _ _ (by decide)).trans ((us_ne _ _ (by decide)).trans ((us_ne _ _ (by decide)).trans (us_eq _ _ _)))))))))).trans ((us_ne _ _ (by decide)).trans ((us_ne _ _ (by decide)).trans ((us_ne _ _ (by decide)).trans ((us_ne _ _ (by decide)).trans ((us_ne _ _ (by decide)).trans ((us_ne _ _ (by decide)).trans ((us_ne _ _ (by decide)).trans ((us_ne _ _ (by decide)).trans ((us_ne _ _ (by decide)).trans (us_eq _ _ _)))))))))).symm
                  by_cases h2_ : b_ = 23
                  · subst h2_; exact ((us_ne _ _ (by decide)).trans ((us_ne _ _ (by decide)).trans ((us_ne _ _ (by decide)).trans ((us_ne _ _ (by decide)).trans ((us_ne _ _ (by decide)).trans ((us_ne _ _ (by decide)).trans ((us_ne _ _ (by decide)).trans ((us_ne _ _ (by decide)).trans (us_eq _ _ _))))))))).trans ((us_ne _ _ (by decide)).trans ((us_ne _ _ (by decide)).trans ((us_ne _ _ (by decide)).trans ((us_ne _ _ (by decide)).trans ((us_ne _ _ (by decide)).trans ((us_ne _ _ (by decide)).trans ((us_ne _ _ (by decide)).trans ((us_ne _ _ (by decide)).trans (us_eq _ _ _))))))))).symm
                  by_cases h3_ : b_ = 27
                  · subst h3_; exact ((us_ne _ _ (by decide)).trans ((us_ne _ _ (by decide)).trans ((us_ne _ _ (by decide)).trans ((us_ne _ _ (by decide)).trans ((us_ne _ _ (by decide)).trans ((us_ne _ _ (by decide)).trans ((us_ne _ _ (by decide)).trans (us_eq _ _ _)))))))).trans ((us_ne _ _ (by decide)).trans ((us_ne _ _ (by decide)).trans ((us_ne _ _ (by decide)).trans ((us_ne _ _ (by decide)).trans ((us_ne _ _ (by decide)).trans ((us_ne _ _ (by decide)).trans ((us_ne _ _ (by decide)).trans (us_eq _ _ _)))))))).symm
                  by_cases h4_ : b_ = 28
                  · subst h4_; exact ((us_ne _ _ (by decide)).trans ((us_ne _ _ (by decide)).trans ((us_ne _ _ (by decide)).trans ((us_ne _ _ (by decide)).trans ((us_ne _ _ (by decide)).trans ((us_ne _ _ (by decide)).trans (us_eq _ _ _))))))).trans ((us_ne _ _ (by decide)).trans ((us_ne _ _ (by decide)).trans ((us_ne _ _ (by decide)).trans ((us_ne _ _ (by decide)).trans ((us_ne _ _ (by decide)).trans ((us_ne _ _ (by decide)).trans (us_eq _ _ _))))))).symm
                  by_cases h5_ : b_ = 29
                  · subst h5_; exact ((us_ne _ _ (by decide)).trans ((us_ne _ _ (by decide)).trans ((us_ne _ _ (by decide)).trans ((us_ne _ _ (by decide)).trans ((us_ne _ _ (by decide)).trans (us_eq _ _ _)))))).trans ((us_ne _ _ (by decide)).trans ((us_ne _ _ (by decide)).trans ((us_ne _ _ (by decide)).trans ((us_ne _ _ (by decide)).trans ((us_ne _ _ (by decide)).trans (us_eq _ _ _)))))).symm
                  by_cases h6_ : b_ = 30
                  · subst h6_; exact ((us_ne _ _ (by decide)).trans ((us_ne _ _ (by decide)).trans ((us_ne _ _ (by decide)).trans ((us_ne _ _ (by decide)).trans (us_eq _ _ _))))).trans ((us_ne _ _ (by decide)).trans ((us_ne _ _ (by decide)).trans ((us_ne _ _ (by decide)).trans ((us_ne _ _ (by decide)).trans (us_eq _ _ _))))).symm
                  by_cases h7_ : b_ = 142
                  · subst h7_; exact ((us_ne _ _ (by decide)).trans ((us_ne _ _ (by decide)).trans ((us_ne _ _ (by decide)).trans (us_eq _ _ _)))).trans ((us_ne _ _ (by decide)).trans ((us_ne _ _ (by decide)).trans ((us_ne _ _ (by decide)).trans (us_eq _ _ _)))).symm
                  by_cases h8_ : b_ = 143
                  · subst h8_; exact ((us_ne _ _ (by decide)).trans ((us_ne _ _ (by decide)).trans (us_eq _ _ _))).trans ((us_ne _ _ (by decide)).trans ((us_ne _ _ (by decide)).trans (us_eq _ _ _))).symm
                  by_cases h9_ : b_ = 147
                  · subst h9_; exact ((us_ne _ _ (by decide)).trans (us_eq _ _ _)).trans ((us_ne _ _ (by decide)).trans (us_eq _ _ _)).symm
                  by_cases h10_ : b_ = 148
                  · subst h10_; exact (us_eq _ _ _).trans (us_eq _ _ _).symm
                  simp only [us, h0_, h1_, h2_, h3_, h4_, h5_, h6_, h7_, h8_, h9_, h10_, if_false]
                · exact he
                · exact hc
                · exact hw
              · refine ld_iload_n O (pc := 54) 3 dX3_calm_54 rfl rfl ?_
                refine ld_if_ge O (pc := 55) (-9) (by decide) 109 dX3_calm_55 (by decide) (fun z => absurd z (by decide)) (fun _ => ?_)
                refine ld_aload_n O (pc := 58) 0 dX3_calm_58 rfl rfl ?_
                refine ld_iload O (pc := 59) 4 dX3_calm_59 rfl ?_
                refine ld_p_M_crateNow O (pc := 61) ld_w121 dX3_calm_61 ?_
                refine ld_iconst O (pc := 64) (v := nI 0) dX3_calm_64 (by decide) ?_
                refine ld_istore O (pc := 65) [(5, .int (nI 0)), (0, .ref (ad 8)), (1, .int (nI (ld_ix n))), (2, .int v), (3, .int (-9 : Int32)), (4, .int (nI i))] dX3_calm_65 (by decide) rfl ?_
                have L67 : ∀ (m_67 : Nat) (j : Nat) (t2 : Nat → Int32) (s2 : Nat → Int32) (p2 : Nat → Int32) (d2 : Nat → Int32) (w2 : Nat → Int32), ld_ix n - j < m_67 → (j ≤ ld_ix n) → (ld_eqv h (t2, s2, p2) (ld_wks h (nI i) (σ 20) (σ 21, σ 22, σ 23) j)) → K (us (us (us (us (us (us (us (us (us (us (us σ 28 k0) 29 k1) 30 k2) 142 (fun _ => nI i)) 147 ck) 148 wk) 21 t2) 22 s2) 23 p2) 27 d2) 143 w2) [(0, .ref (ad 8)), (1, .int (nI (ld_ix n))), (2, .int v), (3, .int (-9 : Int32)), (4, .int (nI i)), (5, .int (nI j))] [] 67 := by
                  intro m_67
                  induction m_67 with
                  | zero => intro j t2 s2 p2 d2 w2 hm_; exact absurd hm_ (Nat.not_lt_zero _)
                  | succ m_67 ih67 =>
                    intro j t2 s2 p2 d2 w2 hm_67 hj he2
                    refine ld_iload O (pc := 67) 5 dX3_calm_67 rfl ?_
                    refine ld_iload_n O (pc := 69) 1 dX3_calm_69 rfl rfl ?_
                    refine ld_icmp_ge O (pc := 70) ((j : Nat) : Int) ((ld_ix n : Nat) : Int) (nI_toInt (by omega)) (nI_toInt (by omega)) 83 dX3_calm_70 (by decide) (fun c8 => ?_) (fun c8 => ?_)
                    · refine ld_aload_n O (pc := 83) 0 dX3_calm_83 rfl rfl ?_
                      refine ld_callVi O (pc := 84) (As := []) (st := []) ld_recv8 (c_X3_worst l ad (us (us (us (us (us (us (us (us (us (us (us σ 28 k0) 29 k1) 30 k2) 142 (fun _ => nI i)) 147 ck) 148 wk) 21 t2) 22 s2) 23 p2) 27 d2) 143 w2) h hh h8) ld_mw_X3_worstTemper ld_w379 rfl rfl ⟨by decide, by decide⟩ (Nat.le_of_ble_eq_true rfl) dX3_calm_84 (fun r_p84 σ_p84 h_p84 => ?_)
                      obtain ⟨rfl, hσ_p84⟩ := h_p84
                      rw [hσ_p84]
                      show K (us (us (us (us (us (us (us (us (us (us (us σ 28 k0) 29 k1) 30 k2) 142 (fun _ => nI i)) 147 ck) 148 wk) 21 t2) 22 s2) 23 p2) 27 d2) 143 w2) [(0, .ref (ad 8)), (1, .int (nI (ld_ix n))), (2, .int v), (3, .int (-9 : Int32)), (4, .int (nI i)), (5, .int (nI j))] [.int (ld_wm t2 h)] 87
                      rw [show j = ld_ix n by omega] at he2
                      have hw_ : ld_wm t2 h = ld_wm (ld_wks h (nI i) (σ 20) (σ 21, σ 22, σ 23) (ld_ix n)).1 h := ld_wm_cong (fun x hx => (he2 x hx).1)
                      rw [hw_]
                      refine ld_iload_n O (pc := 87) 2 dX3_calm_87 rfl rfl ?_
                      refine ld_icmp_gt O (pc := 88) (ld_wm (ld_wks h (nI i) (σ 20) (σ 21, σ 22, σ 23) (ld_ix n)).1 h).toInt (v).toInt rfl rfl 96 dX3_calm_88 (by decide) (fun c9 => ?_) (fun c9 => ?_)
                      · refine ld_bipush O (pc := 96) (v := (-9 : Int32)) dX3_calm_96 (by decide) ?_
                        refine ld_istore_n O (pc := 98) [(3, .int (-9 : Int32)), (0, .ref (ad 8)), (1, .int (nI (ld_ix n))), (2, .int v), (4, .int (nI i)), (5, .int (nI j))] dX3_calm_98 rfl (by decide) rfl ?_
                        refine ld_aload_n O (pc := 99) 1 dX3_calm_99 rfl rfl ?_
                        refine ld_callVv O (pc := 100) (As := []) (st := []) ld_recv8 (c_X3_bringBack l ad (us (us (us (us (us (us (us (us (us (us (us σ 28 k0) 29 k1) 30 k2) 142 (fun _ => nI i)) 147 ck) 148 wk) 21 t2) 22 s2) 23 p2) 27 d2) 143 w2) h hh h8) ld_mw_X3_bringBack ld_w363 rfl rfl ⟨by decide, by decide⟩ (Nat.le_of_ble_eq_true rfl) dX3_calm_100 (fun σ_p100 h_p100 => ?_)
                        obtain ⟨a0_p100, a1_p100, a2_p100, hσ_p100, ha_p100⟩ := h_p100
                        rw [hσ_p100]
                        have ha_p100 : ∀ x, x < h → a0_p100 x = k0 x ∧ a1_p100 x = k1 x ∧ a2_p100 x = k2 x := ha_p100
                        show K (us (us (us (us (us (us (us (us (us (us (us (us (us (us (us (us σ 28 k0) 29 k1) 30 k2) 142 (fun _ => nI i)) 147 ck) 148 wk) 21 t2) 22 s2) 23 p2) 27 d2) 143 w2) 142 (fun _ => ck 0)) 143 (fun _ => wk 0)) 21 a0_p100) 22 a1_p100) 23 a2_p100) [(3, .int (-9 : Int32)), (0, .ref (ad 8)), (1, .int (nI (ld_ix n))), (2, .int v), (4, .int (nI i)), (5, .int (nI j))] [] 103
                        refine ld_iincN O (pc := 103) [(4, .int (nI (i + 1))), (3, .int (-9 : Int32)), (0, .ref (ad 8)), (1, .int (nI (ld_ix n))), (2, .int v), (5, .int (nI j))] 4 dX3_calm_103 rfl (by decide) rfl ?_
                        refine ld_goto O (pc := 106) 47 dX3_calm_106 (by decide) ?_
                        refine ld_less O [2, 3, 4, 1, 0] (lv2 := [(0, .ref (ad 8)), (1, .int (nI (ld_ix n))), (2, .int v), (3, .int (ld_nv none)), (4, .int (nI (i + 1)))]) rfl ?_
                        have hs10 : us (us (us (us (us (us (us (us (us (us (us (us (us (us (us (us σ 28 k0) 29 k1) 30 k2) 142 (fun _ => nI i)) 147 ck) 148 wk) 21 t2) 22 s2) 23 p2) 27 d2) 143 w2) 142 (fun _ => ck 0)) 143 (fun _ => wk 0)) 21 a0_p100) 22 a1_p100) 23 a2_p100 = us (us (us (us (us (us (us (us (us (us (us σ 21 a0_p100) 22 a1_p100) 23 a2_p100) 27 d2) 28 k0) 29 k1) 30 k2) 142 (fun _ => ck 0)) 143 (fun _ => wk 0)) 147 ck) 148 wk := by
                          funext b_
                          by_cases h0_ : b_ = 28
                          · subst h0_; exact ((us_ne _ _ (by decide)).trans ((us_ne _ _ (by decide)).trans ((us_ne _ _ (by decide)).trans ((us_ne _ _ (by decide)).trans ((us_ne _ _ (by decide)).trans ((us_ne _ _ (by decide)).trans ((us_ne _ _ (by decide)).trans ((us_ne _ _ (by decide)).trans ((us_ne _ _ (by decide)).trans ((us_ne _ _ (by decide)).trans ((us_ne _ _ (by decide)).trans ((us_ne _ _ (by decide)).trans ((us_ne _ _ (by decide)).trans ((us_ne _ _ (by decide)).trans ((us_ne _ _ (by decide)).trans (us_eq _ _ _)))))))))))))))).trans ((us_ne _ _ (by decide)).trans ((us_ne _ _ (by decide)).trans ((us_ne _ _ (by decide)).trans ((us_ne _ _ (by decide)).trans ((us_ne _ _ (by decide)).trans ((us_ne _ _ (by decide)).trans (us_eq _ _ _))))))).symm
                          by_cases h1_ : b_ = 29
                          · subst h1_; exact ((us_ne _ _ (by decide)).trans ((us_ne _ _ (by decide)).trans ((us_ne _ _ (by decide)).trans ((us_ne _ _ (by decide)).trans ((us_ne _ _ (by decide)).trans ((us_ne _ _ (by decide)).trans ((us_ne _ _ (by decide)).trans ((us_ne _ _ (by decide)).trans ((us_ne _ _ (by decide)).trans ((us_ne _ _ (by decide)).trans ((us_ne _ _ (by decide)).trans ((us_ne _ _ (by decide)).trans ((us_ne _ _ (by decide)).trans ((us_ne _ _ (by decide)).trans (us_eq _ _ _))))))))))))))).trans ((us_ne _ _ (by decide)).trans ((us_ne _ _ (by decide)).trans ((us_ne _ _ (by decide)).trans ((us_ne _ _ (by decide)).trans ((us_ne _ _ (by decide)).trans (us_eq _ _ _)))))).symm
                          by_cases h2_ : b_ = 30
                          · subst h2_; exact ((us_ne _ _ (by decide)).trans ((us_ne _ _ (by decide)).trans ((us_ne _ _ (by decide)).trans ((us_ne _ _ (by decide)).trans ((us_ne _ _ (by decide)).trans ((us_ne _ _ (by decide)).trans ((us_ne _ _ (by decide)).trans ((us_ne _ _ (by decide)).trans ((us_ne _ _ (by decide)).trans ((us_ne _ _ (by decide)).trans ((us_ne _ _ (by decide)).trans ((us_ne _ _ (by decide)).trans ((us_ne _ _ (by decide)).trans (us_eq _ _ _)))))))))))))).trans ((us_ne _ _ (by decide)).trans ((us_ne _ _ (by decide)).trans ((us_ne _ _ (by decide)).trans ((us_ne _ _ (by decide)).trans (us_eq _ _ _))))).symm
                          by_cases h3_ : b_ = 142
                          · subst h3_; exact ((us_ne _ _ (by decide)).trans ((us_ne _ _ (by decide)).trans ((us_ne _ _ (by decide)).trans ((us_ne _ _ (by decide)).trans (us_eq _ _ _))))).trans ((us_ne _ _ (by decide)).trans ((us_ne _ _ (by decide)).trans ((us_ne _ _ (by decide)).trans (us_eq _ _ _)))).symm
                          by_cases h4_ : b_ = 147
                          · subst h4_; exact ((us_ne _ _ (by decide)).trans ((us_ne _ _ (by decide)).trans ((us_ne _ _ (by decide)).trans ((us_ne _ _ (by decide)).trans ((us_ne _ _ (by decide)).trans ((us_ne _ _ (by decide)).trans ((us_ne _ _ (by decide)).trans ((us_ne _ _ (by decide)).trans ((us_ne _ _ (by decide)).trans ((us_ne _ _ (by decide)).trans ((us_ne _ _ (by decide)).trans (us_eq _ _ _)))))))))))).trans ((us_ne _ _ (by decide)).trans (us_eq _ _ _)).symm
                          by_cases h5_ : b_ = 148
                          · subst h5_; exact ((us_ne _ _ (by decide)).trans ((us_ne _ _ (by decide)).trans ((us_ne _ _ (by decide)).trans ((us_ne _ _ (by decide)).trans ((us_ne _ _ (by decide)).trans ((us_ne _ _ (by decide)).trans ((us_ne _ _ (by decide)).trans ((us_ne _ _ (by decide)).trans ((us_ne _ _ (by decide)).trans ((us_ne _ _ (by decide)).trans (us_eq _ _ _))))))))))).trans (us_eq _ _ _).symm
                          by_cases h6_ : b_ = 21
                          · subst h6_; exact ((us_ne _ _ (by decide)).trans ((us_ne _ _ (by decide)).trans (us_eq _ _ _))).trans ((us_ne _ _ (by decide)).trans ((us_ne _ _ (by decide)).trans ((us_ne _ _ (by decide)).trans ((us_ne _ _ (by decide)).trans ((us_ne _ _ (by decide)).trans ((us_ne _ _ (by decide)).trans ((us_ne _ _ (by decide)).trans ((us_ne _ _ (by decide)).trans ((us_ne _ _ (by decide)).trans ((us_ne _ _ (by decide)).trans (us_eq _ _ _))))))))))).symm
                          by_cases h7_ : b_ = 22
                          · subst h7_; exact ((us_ne _ _ (by decide)).trans (us_eq _ _ _)).trans ((us_ne _ _ (by decide)).trans ((us_ne _ _ (by decide)).trans ((us_ne _ _ (by decide)).trans ((us_ne _ _ (by decide)).trans ((us_ne _ _ (by decide)).trans ((us_ne _ _ (by decide)).trans ((us_ne _ _ (by decide)).trans ((us_ne _ _ (by decide)).trans ((us_ne _ _ (by decide)).trans (us_eq _ _ _)))))))))).symm
                          by_cases h8_ : b_ = 23
                          · subst h8_; exact (us_eq _ _ _).trans ((us_ne _ _ (by decide)).trans ((us_ne _ _ (by decide)).trans ((us_ne _ _ (by decide)).trans ((us_ne _ _ (by decide)).trans ((us_ne _ _ (by decide)).trans ((us_ne _ _ (by decide)).trans ((us_ne _ _ (by decide)).trans ((us_ne _ _ (by decide)).trans (us_eq _ _ _))))))))).symm
                          by_cases h9_ : b_ = 27
                          · subst h9_; exact ((us_ne _ _ (by decide)).trans ((us_ne _ _ (by decide)).trans ((us_ne _ _ (by decide)).trans ((us_ne _ _ (by decide)).trans ((us_ne _ _ (by decide)).trans ((us_ne _ _ (by decide)).trans (us_eq _ _ _))))))).trans ((us_ne _ _ (by decide)).trans ((us_ne _ _ (by decide)).trans ((us_ne _ _ (by decide)).trans ((us_ne _ _ (by decide)).trans ((us_ne _ _ (by decide)).trans ((us_ne _ _ (by decide)).trans ((us_ne _ _ (by decide)).trans (us_eq _ _ _)))))))).symm
                          by_cases h10_ : b_ = 143
                          · subst h10_; exact ((us_ne _ _ (by decide)).trans ((us_ne _ _ (by decide)).trans ((us_ne _ _ (by decide)).trans (us_eq _ _ _)))).trans ((us_ne _ _ (by decide)).trans ((us_ne _ _ (by decide)).trans (us_eq _ _ _))).symm
                          simp only [us, h0_, h1_, h2_, h3_, h4_, h5_, h6_, h7_, h8_, h9_, h10_, if_false]
                        refine ld_cv hs10 ?_
                        exact ih47 (i + 1) none a0_p100 a1_p100 a2_p100 d2 k0 k1 k2 (fun _ => ck 0) (fun _ => wk 0) ck wk (by omega) (by omega) (fun x hx => ⟨(ha_p100 x hx).1.trans (hk x hx).1, (ha_p100 x hx).2.1.trans (hk x hx).2.1, (ha_p100 x hx).2.2.trans (hk x hx).2.2⟩) hk hck hwk hck hwk (fun _ => ld_fi_no hf_ (fun z => by have z2 : (ld_wm (ld_wks h (nI i) (σ 20) (σ 21, σ 22, σ 23) (ld_ix n)).1 h).toInt ≤ v.toInt := z; omega)) (fun c z => by cases z)
                      · refine ld_iload O (pc := 91) 4 dX3_calm_91 rfl ?_
                        refine ld_goto O (pc := 93) 98 dX3_calm_93 (by decide) ?_
                        refine ld_istore_n O (pc := 98) [(3, .int (nI i)), (0, .ref (ad 8)), (1, .int (nI (ld_ix n))), (2, .int v), (4, .int (nI i)), (5, .int (nI j))] dX3_calm_98 rfl (by decide) rfl ?_
                        refine ld_aload_n O (pc := 99) 1 dX3_calm_99 rfl rfl ?_
                        refine ld_callVv O (pc := 100) (As := []) (st := []) ld_recv8 (c_X3_bringBack l ad (us (us (us (us (us (us (us (us (us (us (us σ 28 k0) 29 k1) 30 k2) 142 (fun _ => nI i)) 147 ck) 148 wk) 21 t2) 22 s2) 23 p2) 27 d2) 143 w2) h hh h8) ld_mw_X3_bringBack ld_w363 rfl rfl ⟨by decide, by decide⟩ (Nat.le_of_ble_eq_true rfl) dX3_calm_100 (fun σ_p100 h_p100 => ?_)
                        obtain ⟨a0_p100, a1_p100, a2_p100, hσ_p100, ha_p100⟩ := h_p100
                        rw [hσ_p100]
                        have ha_p100 : ∀ x, x < h → a0_p100 x = k0 x ∧ a1_p100 x = k1 x ∧ a2_p100 x = k2 x := ha_p100
                        show K (us (us (us (us (us (us (us (us (us (us (us (us (us (us (us (us σ 28 k0) 29 k1) 30 k2) 142 (fun _ => nI i)) 147 ck) 148 wk) 21 t2) 22 s2) 23 p2) 27 d2) 143 w2) 142 (fun _ => ck 0)) 143 (fun _ => wk 0)) 21 a0_p100) 22 a1_p100) 23 a2_p100) [(3, .int (nI i)), (0, .ref (ad 8)), (1, .int (nI (ld_ix n))), (2, .int v), (4, .int (nI i)), (5, .int (nI j))] [] 103
                        refine ld_iincN O (pc := 103) [(4, .int (nI (i + 1))), (3, .int (nI i)), (0, .ref (ad 8)), (1, .int (nI (ld_ix n))), (2, .int v), (5, .int (nI j))] 4 dX3_calm_103 rfl (by decide) rfl ?_
                        refine ld_goto O (pc := 106) 47 dX3_calm_106 (by decide) ?_
                        refine ld_less O [2, 3, 4, 1, 0] (lv2 := [(0, .ref (ad 8)), (1, .int (nI (ld_ix n))), (2, .int v), (3, .int (ld_nv (some i))), (4, .int (nI (i + 1)))]) rfl ?_
                        have hs11 : us (us (us (us (us (us (us (us (us (us (us (us (us (us (us (us σ 28 k0) 29 k1) 30 k2) 142 (fun _ => nI i)) 147 ck) 148 wk) 21 t2) 22 s2) 23 p2) 27 d2) 143 w2) 142 (fun _ => ck 0)) 143 (fun _ => wk 0)) 21 a0_p100) 22 a1_p100) 23 a2_p100 = us (us (us (us (us (us (us (us (us (us (us σ 21 a0_p100) 22 a1_p100) 23 a2_p100) 27 d2) 28 k0) 29 k1) 30 k2) 142 (fun _ => ck 0)) 143 (fun _ => wk 0)) 147 ck) 148 wk := by
                          funext b_
                          by_cases h0_ : b_ = 28
                          · subst h0_; exact ((us_ne _ _ (by decide)).trans ((us_ne _ _ (by decide)).trans ((us_ne _ _ (by decide)).trans ((us_ne _ _ (by decide)).trans ((us_ne _ _ (by decide)).trans ((us_ne _ _ (by decide)).trans ((us_ne _ _ (by decide)).trans ((us_ne _ _ (by decide)).trans ((us_ne _ _ (by decide)).trans ((us_ne _ _ (by decide)).trans ((us_ne _ _ (by decide)).trans ((us_ne _ _ (by decide)).trans ((us_ne _ _ (by decide)).trans ((us_ne _ _ (by decide)).trans ((us_ne _ _ (by decide)).trans (us_eq _ _ _)))))))))))))))).trans ((us_ne _ _ (by decide)).trans ((us_ne _ _ (by decide)).trans ((us_ne _ _ (by decide)).trans ((us_ne _ _ (by decide)).trans ((us_ne _ _ (by decide)).trans ((us_ne _ _ (by decide)).trans (us_eq _ _ _))))))).symm
                          by_cases h1_ : b_ = 29
                          · subst h1_; exact ((us_ne _ _ (by decide)).trans ((us_ne _ _ (by decide)).trans ((us_ne _ _ (by decide)).trans ((us_ne _ _ (by decide)).trans ((us_ne _ _ (by decide)).trans ((us_ne _ _ (by decide)).trans ((us_ne _ _ (by decide)).trans ((us_ne _ _ (by decide)).trans ((us_ne _ _ (by decide)).trans ((us_ne _ _ (by decide)).trans ((us_ne _ _ (by decide)).trans ((us_ne _ _ (by decide)).trans ((us_ne _ _ (by decide)).trans ((us_ne _ _ (by decide)).trans (us_eq _ _ _))))))))))))))).trans ((us_ne _ _ (by decide)).trans ((us_ne _ _ (by decide)).trans ((us_ne _ _ (by decide)).trans ((us_ne _ _ (by decide)).trans ((us_ne _ _ (by decide)).trans (us_eq _ _ _)))))).symm
                          by_cases h2_ : b_ = 30
                          · subst h2_; exact ((us_ne _ _ (by decide)).trans ((us_ne _ _ (by decide)).trans ((us_ne _ _ (by decide)).trans ((us_ne _ _ (by decide)).trans ((us_ne _ _ (by decide)).trans ((us_ne _ _ (by decide)).trans ((us_ne _ _ (by decide)).trans ((us_ne _ _ (by decide)).trans ((us_ne _ _ (by decide)).trans ((us_ne _ _ (by decide)).trans ((us_ne _ _ (by decide)).trans ((us_ne _ _ (by decide)).trans ((us_ne _ _ (by decide)).trans (us_eq _ _ _)))))))))))))).trans ((us_ne _ _ (by decide)).trans ((us_ne _ _ (by decide)).trans ((us_ne _ _ (by decide)).trans ((us_ne _ _ (by decide)).trans (us_eq _ _ _))))).symm
                          by_cases h3_ : b_ = 142
                          · subst h3_; exact ((us_ne _ _ (by decide)).trans ((us_ne _ _ (by decide)).trans ((us_ne _ _ (by decide)).trans ((us_ne _ _ (by decide)).trans (us_eq _ _ _))))).trans ((us_ne _ _ (by decide)).trans ((us_ne _ _ (by decide)).trans ((us_ne _ _ (by decide)).trans (us_eq _ _ _)))).symm
                          by_cases h4_ : b_ = 147
                          · subst h4_; exact ((us_ne _ _ (by decide)).trans ((us_ne _ _ (by decide)).trans ((us_ne _ _ (by decide)).trans ((us_ne _ _ (by decide)).trans ((us_ne _ _ (by decide)).trans ((us_ne _ _ (by decide)).trans ((us_ne _ _ (by decide)).trans ((us_ne _ _ (by decide)).trans ((us_ne _ _ (by decide)).trans ((us_ne _ _ (by decide)).trans ((us_ne _ _ (by decide)).trans (us_eq _ _ _)))))))))))).trans ((us_ne _ _ (by decide)).trans (us_eq _ _ _)).symm
                          by_cases h5_ : b_ = 148
                          · subst h5_; exact ((us_ne _ _ (by decide)).trans ((us_ne _ _ (by decide)).trans ((us_ne _ _ (by decide)).trans ((us_ne _ _ (by decide)).trans ((us_ne _ _ (by decide)).trans ((us_ne _ _ (by decide)).trans ((us_ne _ _ (by decide)).trans ((us_ne _ _ (by decide)).trans ((us_ne _ _ (by decide)).trans ((us_ne _ _ (by decide)).trans (us_eq _ _ _))))))))))).trans (us_eq _ _ _).symm
                          by_cases h6_ : b_ = 21
                          · subst h6_; exact ((us_ne _ _ (by decide)).trans ((us_ne _ _ (by decide)).trans (us_eq _ _ _))).trans ((us_ne _ _ (by decide)).trans ((us_ne _ _ (by decide)).trans ((us_ne _ _ (by decide)).trans ((us_ne _ _ (by decide)).trans ((us_ne _ _ (by decide)).trans ((us_ne _ _ (by decide)).trans ((us_ne _ _ (by decide)).trans ((us_ne _ _ (by decide)).trans ((us_ne _ _ (by decide)).trans ((us_ne _ _ (by decide)).trans (us_eq _ _ _))))))))))).symm
                          by_cases h7_ : b_ = 22
                          · subst h7_; exact ((us_ne _ _ (by decide)).trans (us_eq _ _ _)).trans ((us_ne _ _ (by decide)).trans ((us_ne _ _ (by decide)).trans ((us_ne _ _ (by decide)).trans ((us_ne _ _ (by decide)).trans ((us_ne _ _ (by decide)).trans ((us_ne _ _ (by decide)).trans ((us_ne _ _ (by decide)).trans ((us_ne _ _ (by decide)).trans ((us_ne _ _ (by decide)).trans (us_eq _ _ _)))))))))).symm
                          by_cases h8_ : b_ = 23
                          · subst h8_; exact (us_eq _ _ _).trans ((us_ne _ _ (by decide)).trans ((us_ne _ _ (by decide)).trans ((us_ne _ _ (by decide)).trans ((us_ne _ _ (by decide)).trans ((us_ne _ _ (by decide)).trans ((us_ne _ _ (by decide)).trans ((us_ne _ _ (by decide)).trans ((us_ne _ _ (by decide)).trans (us_eq _ _ _))))))))).symm
                          by_cases h9_ : b_ = 27
                          · subst h9_; exact ((us_ne _ _ (by decide)).trans ((us_ne _ _ (by decide)).trans ((us_ne _ _ (by decide)).trans ((us_ne _ _ (by decide)).trans ((us_ne _ _ (by decide)).trans ((us_ne _ _ (by decide)).trans (us_eq _ _ _))))))).trans ((us_ne _ _ (by decide)).trans ((us_ne _ _ (by decide)).trans ((us_ne _ _ (by decide)).trans ((us_ne _ _ (by decide)).trans ((us_ne _ _ (by decide)).trans ((us_ne _ _ (by decide)).trans ((us_ne _ _ (by decide)).trans (us_eq _ _ _)))))))).symm
                          by_cases h10_ : b_ = 143
                          · subst h10_; exact ((us_ne _ _ (by decide)).trans ((us_ne _ _ (by decide)).trans ((us_ne _ _ (by decide)).trans (us_eq _ _ _)))).trans ((us_ne _ _ (by decide)).trans ((us_ne _ _ (by decide)).trans (us_eq _ _ _))).symm
                          simp only [us, h0_, h1_, h2_, h3_, h4_, h5_, h6_, h7_, h8_, h9_, h10_, if_false]
                        refine ld_cv hs11 ?_
                        exact ih47 (i + 1) (some i) a0_p100 a1_p100 a2_p100 d2 k0 k1 k2 (fun _ => ck 0) (fun _ => wk 0) ck wk (by omega) (by omega) (fun x hx => ⟨(ha_p100 x hx).1.trans (hk x hx).1, (ha_p100 x hx).2.1.trans (hk x hx).2.1, (ha_p100 x hx).2.2.trans (hk x hx).2.2⟩) hk hck hwk hck hwk (fun z => by cases z) (fun c z => by cases z; exact ⟨by omega, ld_fi_yes hf_ (show (ld_wm (ld_wks h (nI i) (σ 20) (σ 21, σ 22, σ 23) (ld_ix n)).1 h).toInt ≤ v.toInt by omega) (by omega)⟩)
                    · refine ld_aload_n O (pc := 73) 0 dX3_calm_73 rfl rfl ?_
                      refine ld_callVv O (pc := 74) (As := []) (st := []) ld_recv8 (c_X3_passes l ad (us (us (us (us (us (us (us (us (us (us (us σ 28 k0) 29 k1) 30 k2) 142 (fun _ => nI i)) 147 ck) 148 wk) 21 t2) 22 s2) 23 p2) 27 d2) 143 w2) h hh h8 i rfl (by omega) (T + j) (by omega) (ld_bd_cong he2 (ld_bd_wks hbd h8 (by omega) (by omega)))) ld_mw_X3_passes ld_w280 rfl rfl ⟨by decide, by decide⟩ (Nat.le_of_ble_eq_true rfl) dX3_calm_74 (fun σ_p74 h_p74 => ?_)
                      obtain ⟨ft_p74, fs_p74, fp_p74, fd_p74, fw_p74, hσ_p74, ht_p74, hs_p74, hp_p74, hw_p74⟩ := h_p74
                      rw [hσ_p74]
                      have ht_p74 : ∀ x, x < h → ft_p74 x = ld_wT h (nI i) (σ 20) t2 s2 p2 x := ht_p74
                      have hs_p74 : ∀ x, x < h → fs_p74 x = ld_wS h (nI i) (σ 20) t2 s2 p2 x := hs_p74
                      have hp_p74 : ∀ x, x < h → fp_p74 x = ld_wP h (nI i) (σ 20) t2 s2 p2 x := hp_p74
                      have hw_p74 : fw_p74 0 = (w2 0) + nI 1 := hw_p74
                      show K (us (us (us (us (us (us (us (us (us (us (us (us (us (us (us (us σ 28 k0) 29 k1) 30 k2) 142 (fun _ => nI i)) 147 ck) 148 wk) 21 t2) 22 s2) 23 p2) 27 d2) 143 w2) 21 ft_p74) 22 fs_p74) 23 fp_p74) 27 fd_p74) 143 fw_p74) [(0, .ref (ad 8)), (1, .int (nI (ld_ix n))), (2, .int v), (3, .int (-9 : Int32)), (4, .int (nI i)), (5, .int (nI j))] [] 77
                      have he_ : ld_eqv h (ft_p74, fs_p74, fp_p74) (ld_wks h (nI i) (σ 20) (σ 21, σ 22, σ 23) (j + 1)) := ld_eqv.tr (U := ld_wk h (nI i) (σ 20) (t2, s2, p2)) (fun x hx => ⟨ht_p74 x hx, hs_p74 x hx, hp_p74 x hx⟩) (ld_wk_cong he2)
                      refine ld_iincN O (pc := 77) [(5, .int (nI (j + 1))), (0, .ref (ad 8)), (1, .int (nI (ld_ix n))), (2, .int v), (3, .int (-9 : Int32)), (4, .int (nI i))] 5 dX3_calm_77 rfl (by decide) rfl ?_
                      refine ld_goto O (pc := 80) 67 dX3_calm_80 (by decide) ?_
                      refine ld_less O [1, 2, 3, 4, 5, 0] (lv2 := [(0, .ref (ad 8)), (1, .int (nI (ld_ix n))), (2, .int v), (3, .int (-9 : Int32)), (4, .int (nI i)), (5, .int (nI (j + 1)))]) rfl ?_
                      have hs12 : us (us (us (us (us (us (us (us (us (us (us (us (us (us (us (us σ 28 k0) 29 k1) 30 k2) 142 (fun _ => nI i)) 147 ck) 148 wk) 21 t2) 22 s2) 23 p2) 27 d2) 143 w2) 21 ft_p74) 22 fs_p74) 23 fp_p74) 27 fd_p74) 143 fw_p74 = us (us (us (us (us (us (us (us (us (us (us σ 28 k0) 29 k1) 30 k2) 142 (fun _ => nI i)) 147 ck) 148 wk) 21 ft_p74) 22 fs_p74) 23 fp_p74) 27 fd_p74) 143 fw_p74 := by
                        funext b_
                        by_cases h0_ : b_ = 28
                        · subst h0_; exact ((us_ne _ _ (by decide)).trans ((us_ne _ _ (by decide)).trans ((us_ne _ _ (by decide)).trans ((us_ne _ _ (by decide)).trans ((us_ne _ _ (by decide)).trans ((us_ne _ _ (by decide)).trans ((us_ne _ _ (by decide)).trans ((us_ne _ _ (by decide)).trans ((us_ne _ _ (by decide)).trans ((us_ne _ _ (by decide)).trans ((us_ne _ _ (by decide)).trans ((us_ne _ _ (by decide)).trans ((us_ne _ _ (by decide)).trans ((us_ne _ _ (by decide)).trans ((us_ne _ _ (by decide)).trans (us_eq _ _ _)))))))))))))))).trans ((us_ne _ _ (by decide)).trans ((us_ne _ _ (by decide)).trans ((us_ne _ _ (by decide)).trans ((us_ne _ _ (by decide)).trans ((us_ne _ _ (by decide)).trans ((us_ne _ _ (by decide)).trans ((us_ne _ _ (by decide)).trans ((us_ne _ _ (by decide)).trans ((us_ne _ _ (by decide)).trans ((us_ne _ _ (by decide)).trans (us_eq _ _ _))))))))))).symm
                        by_cases h1_ : b_ = 29
                        · subst h1_; exact ((us_ne _ _ (by decide)).trans ((us_ne _ _ (by decide)).trans ((us_ne _ _ (by decide)).trans ((us_ne _ _ (by decide)).trans ((us_ne _ _ (by decide)).trans ((us_ne _ _ (by decide)).trans ((us_ne _ _ (by decide)).trans ((us_ne _ _ (by decide)).trans ((us_ne _ _ (by decide)).trans ((us_ne _ _ (by decide)).trans ((us_ne _ _ (by decide)).trans ((us_ne _ _ (by decide)).trans ((us_ne _ _ (by decide)).trans ((us_ne _ _ (by decide)).trans (us_eq _ _ _))))))))))))))).trans ((us_ne _ _ (by decide)).trans ((us_ne _ _ (by decide)).trans ((us_ne _ _ (by decide)).trans ((us_ne _ _ (by decide)).trans ((us_ne _ _ (by decide)).trans ((us_ne _ _ (by decide)).trans ((us_ne _ _ (by decide)).trans ((us_ne _ _ (by decide)).trans ((us_ne _ _ (by decide)).trans (us_eq _ _ _)))))))))).symm
                        by_cases h2_ : b_ = 30
                        · subst h2_; exact ((us_ne _ _ (by decide)).trans ((us_ne _ _ (by decide)).trans ((us_ne _ _ (by decide)).trans ((us_ne _ _ (by decide)).trans ((us_ne _ _ (by decide)).trans ((us_ne _ _ (by decide)).trans ((us_ne _ _ (by decide)).trans ((us_ne _ _ (by decide)).trans ((us_ne _ _ (by decide)).trans ((us_ne _ _ (by decide)).trans ((us_ne _ _ (by decide)).trans ((us_ne _ _ (by decide)).trans ((us_ne _ _ (by decide)).trans (us_eq _ _ _)))))))))))))).trans ((us_ne _ _ (by decide)).trans ((us_ne _ _ (by decide)).trans ((us_ne _ _ (by decide)).trans ((us_ne _ _ (by decide)).trans ((us_ne _ _ (by decide)).trans ((us_ne _ _ (by decide)).trans ((us_ne _ _ (by decide)).trans ((us_ne _ _ (by decide)).trans (us_eq _ _ _))))))))).symm
                        by_cases h3_ : b_ = 142
                        · subst h3_; exact ((us_ne _ _ (by decide)).trans ((us_ne _ _ (by decide)).trans ((us_ne _ _ (by decide)).trans ((us_ne _ _ (by decide)).trans ((us_ne _ _ (by decide)).trans ((us_ne _ _ (by decide)).trans ((us_ne _ _ (by decide)).trans ((us_ne _ _ (by decide)).trans ((us_ne _ _ (by decide)).trans ((us_ne _ _ (by decide)).trans ((us_ne _ _ (by decide)).trans ((us_ne _ _ (by decide)).trans (us_eq _ _ _))))))))))))).trans ((us_ne _ _ (by decide)).trans ((us_ne _ _ (by decide)).trans ((us_ne _ _ (by decide)).trans ((us_ne _ _ (by decide)).trans ((us_ne _ _ (by decide)).trans ((us_ne _ _ (by decide)).trans ((us_ne _ _ (by decide)).trans (us_eq _ _ _)))))))).symm
                        by_cases h4_ : b_ = 147
                        · subst h4_; exact ((us_ne _ _ (by decide)).trans ((us_ne _ _ (by decide)).trans ((us_ne _ _ (by decide)).trans ((us_ne _ _ (by decide)).trans ((us_ne _ _ (by decide)).trans ((us_ne _ _ (by decide)).trans ((us_ne _ _ (by decide)).trans ((us_ne _ _ (by decide)).trans ((us_ne _ _ (by decide)).trans ((us_ne _ _ (by decide)).trans ((us_ne _ _ (by decide)).trans (us_eq _ _ _)))))))))))).trans ((us_ne _ _ (by decide)).trans ((us_ne _ _ (by decide)).trans ((us_ne _ _ (by decide)).trans ((us_ne _ _ (by decide)).trans ((us_ne _ _ (by decide)).trans ((us_ne _ _ (by decide)).trans (us_eq _ _ _))))))).symm
                        by_cases h5_ : b_ = 148
                        · subst h5_; exact ((us_ne _ _ (by decide)).trans ((us_ne _ _ (by decide)).trans ((us_ne _ _ (by decide)).trans ((us_ne _ _ (by decide)).trans ((us_ne _ _ (by decide)).trans ((us_ne _ _ (by decide)).trans ((us_ne _ _ (by decide)).trans ((us_ne _ _ (by decide)).trans ((us_ne _ _ (by decide)).trans ((us_ne _ _ (by decide)).trans (us_eq _ _ _))))))))))).trans ((us_ne _ _ (by decide)).trans ((us_ne _ _ (by decide)).trans ((us_ne _ _ (by decide)).trans ((us_ne _ _ (by decide)).trans ((us_ne _ _ (by decide)).trans (us_eq _ _ _)))))).symm
                        by_cases h6_ : b_ = 21
                        · subst h6_; exact ((us_ne _ _ (by decide)).trans ((us_ne _ _ (by decide)).trans ((us_ne _ _ (by decide)).trans ((us_ne _ _ (by decide)).trans (us_eq _ _ _))))).trans ((us_ne _ _ (by decide)).trans ((us_ne _ _ (by decide)).trans ((us_ne _ _ (by decide)).trans ((us_ne _ _ (by decide)).trans (us_eq _ _ _))))).symm
                        by_cases h7_ : b_ = 22
                        · subst h7_; exact ((us_ne _ _ (by decide)).trans ((us_ne _ _ (by decide)).trans ((us_ne _ _ (by decide)).trans (us_eq _ _ _)))).trans ((us_ne _ _ (by decide)).trans ((us_ne _ _ (by decide)).trans ((us_ne _ _ (by decide)).trans (us_eq _ _ _)))).symm
                        by_cases h8_ : b_ = 23
                        · subst h8_; exact ((us_ne _ _ (by decide)).trans ((us_ne _ _ (by decide)).trans (us_eq _ _ _))).trans ((us_ne _ _ (by decide)).trans ((us_ne _ _ (by decide)).trans (us_eq _ _ _))).symm
                        by_cases h9_ : b_ = 27
                        · subst h9_; exact ((us_ne _ _ (by decide)).trans (us_eq _ _ _)).trans ((us_ne _ _ (by decide)).trans (us_eq _ _ _)).symm
                        by_cases h10_ : b_ = 143
                        · subst h10_; exact (us_eq _ _ _).trans (us_eq _ _ _).symm
                        simp only [us, h0_, h1_, h2_, h3_, h4_, h5_, h6_, h7_, h8_, h9_, h10_, if_false]
                      refine ld_cv hs12 ?_
                      exact ih67 (j + 1) ft_p74 fs_p74 fp_p74 fd_p74 fw_p74 (by omega) (by omega) he_
                refine ld_less O [1, 2, 3, 4, 5, 0] (lv2 := [(0, .ref (ad 8)), (1, .int (nI (ld_ix n))), (2, .int v), (3, .int (-9 : Int32)), (4, .int (nI i)), (5, .int (nI 0))]) rfl ?_
                have hs13 : us (us (us (us (us (us (us (us (us (us (us (us σ 21 t) 22 s) 23 p) 27 d) 28 k0) 29 k1) 30 k2) 142 fc) 143 fw) 147 ck) 148 wk) 142 (fun _ => nI i) = us (us (us (us (us (us (us (us (us (us (us σ 28 k0) 29 k1) 30 k2) 142 (fun _ => nI i)) 147 ck) 148 wk) 21 t) 22 s) 23 p) 27 d) 143 fw := by
                  funext b_
                  by_cases h0_ : b_ = 21
                  · subst h0_; exact ((us_ne _ _ (by decide)).trans ((us_ne _ _ (by decide)).trans ((us_ne _ _ (by decide)).trans ((us_ne _ _ (by decide)).trans ((us_ne _ _ (by decide)).trans ((us_ne _ _ (by decide)).trans ((us_ne _ _ (by decide)).trans ((us_ne _ _ (by decide)).trans ((us_ne _ _ (by decide)).trans ((us_ne _ _ (by decide)).trans ((us_ne _ _ (by decide)).trans (us_eq _ _ _)))))))))))).trans ((us_ne _ _ (by decide)).trans ((us_ne _ _ (by decide)).trans ((us_ne _ _ (by decide)).trans ((us_ne _ _ (by decide)).trans (us_eq _ _ _))))).symm
                  by_cases h1_ : b_ = 22
                  · subst h1_; exact ((us_ne _ _ (by decide)).trans ((us_ne _ _ (by decide)).trans ((us_ne _ _ (by decide)).trans ((us_ne _ _ (by decide)).trans ((us_ne _ _ (by decide)).trans ((us_ne _ _ (by decide)).trans ((us_ne _ _ (by decide)).trans ((us_ne _ _ (by decide)).trans ((us_ne _ _ (by decide)).trans ((us_ne _ _ (by decide)).trans (us_eq _ _ _))))))))))).trans ((us_ne _ _ (by decide)).trans ((us_ne _ _ (by decide)).trans ((us_ne _ _ (by decide)).trans (us_eq _ _ _)))).symm
                  by_cases h2_ : b_ = 23
                  · subst h2_; exact ((us_ne _ _ (by decide)).trans ((us_ne _ _ (by decide)).trans ((us_ne _ _ (by decide)).trans ((us_ne _ _ (by decide)).trans ((us_ne _ _ (by decide)).trans ((us_ne _ _ (by decide)).trans ((us_ne _ _ (by decide)).trans ((us_ne _ _ (by decide)).trans ((us_ne _ _ (by decide)).trans (us_eq _ _ _)))))))))).trans ((us_ne _ _ (by decide)).trans ((us_ne _ _ (by decide)).trans (us_eq _ _ _))).symm
                  by_cases h3_ : b_ = 27
                  · subst h3_; exact ((us_ne _ _ (by decide)).trans ((us_ne _ _ (by decide)).trans ((us_ne _ _ (by decide)).trans ((us_ne _ _ (by decide)).trans ((us_ne _ _ (by decide)).trans ((us_ne _ _ (by decide)).trans ((us_ne _ _ (by decide)).trans ((us_ne _ _ (by decide)).trans (us_eq _ _ _))))))))).trans ((us_ne _ _ (by decide)).trans (us_eq _ _ _)).symm
                  by_cases h4_ : b_ = 28
                  · subst h4_; exact ((us_ne _ _ (by decide)).trans ((us_ne _ _ (by decide)).trans ((us_ne _ _ (by decide)).trans ((us_ne _ _ (by decide)).trans ((us_ne _ _ (by decide)).trans ((us_ne _ _ (by decide)).trans ((us_ne _ _ (by decide)).trans (us_eq _ _ _)))))))).trans ((us_ne _ _ (by decide)).trans ((us_ne _ _ (by decide)).trans ((us_ne _ _ (by decide)).trans ((us_ne _ _ (by decide)).trans ((us_ne _ _ (by decide)).trans ((us_ne _ _ (by decide)).trans ((us_ne _ _ (by decide)).trans ((us_ne _ _ (by decide)).trans ((us_ne _ _ (by decide)).trans ((us_ne _ _ (by decide)).trans (us_eq _ _ _))))))))))).symm
                  by_cases h5_ : b_ = 29
                  · subst h5_; exact ((us_ne _ _ (by decide)).trans ((us_ne _ _ (by decide)).trans ((us_ne _ _ (by decide)).trans ((us_ne _ _ (by decide)).trans ((us_ne _ _ (by decide)).trans ((us_ne _ _ (by decide)).trans (us_eq _ _ _))))))).trans ((us_ne _ _ (by decide)).trans ((us_ne _ _ (by decide)).trans ((us_ne _ _ (by decide)).trans ((us_ne _ _ (by decide)).trans ((us_ne _ _ (by decide)).trans ((us_ne _ _ (by decide)).trans ((us_ne _ _ (by decide)).trans ((us_ne _ _ (by decide)).trans ((us_ne _ _ (by decide)).trans (us_eq _ _ _)))))))))).symm
                  by_cases h6_ : b_ = 30
                  · subst h6_; exact ((us_ne _ _ (by decide)).trans ((us_ne _ _ (by decide)).trans ((us_ne _ _ (by decide)).trans ((us_ne _ _ (by decide)).trans ((us_ne _ _ (by decide)).trans (us_eq _ _ _)))))).trans ((us_ne _ _ (by decide)).trans ((us_ne _ _ (by decide)).trans ((us_ne _ _ (by decide)).trans ((us_ne _ _ (by decide)).trans ((us_ne _ _ (by decide)).trans ((us_ne _ _ (by decide)).trans ((us_ne _ _ (by decide)).trans ((us_ne _ _ (by decide)).trans (us_eq _ _ _))))))))).symm
                  by_cases h7_ : b_ = 142
                  · subst h7_; exact (us_eq _ _ _).trans ((us_ne _ _ (by decide)).trans ((us_ne _ _ (by decide)).trans ((us_ne _ _ (by decide)).trans ((us_ne _ _ (by decide)).trans ((us_ne _ _ (by decide)).trans ((us_ne _ _ (by decide)).trans ((us_ne _ _ (by decide)).trans (us_eq _ _ _)))))))).symm
                  by_cases h8_ : b_ = 143
                  · subst h8_; exact ((us_ne _ _ (by decide)).trans ((us_ne _ _ (by decide)).trans ((us_ne _ _ (by decide)).trans (us_eq _ _ _)))).trans (us_eq _ _ _).symm
                  by_cases h9_ : b_ = 147
                  · subst h9_; exact ((us_ne _ _ (by decide)).trans ((us_ne _ _ (by decide)).trans (us_eq _ _ _))).trans ((us_ne _ _ (by decide)).trans ((us_ne _ _ (by decide)).trans ((us_ne _ _ (by decide)).trans ((us_ne _ _ (by decide)).trans ((us_ne _ _ (by decide)).trans ((us_ne _ _ (by decide)).trans (us_eq _ _ _))))))).symm
                  by_cases h10_ : b_ = 148
                  · subst h10_; exact ((us_ne _ _ (by decide)).trans (us_eq _ _ _)).trans ((us_ne _ _ (by decide)).trans ((us_ne _ _ (by decide)).trans ((us_ne _ _ (by decide)).trans ((us_ne _ _ (by decide)).trans ((us_ne _ _ (by decide)).trans (us_eq _ _ _)))))).symm
                  simp only [us, h0_, h1_, h2_, h3_, h4_, h5_, h6_, h7_, h8_, h9_, h10_, if_false]
                refine ld_cv hs13 ?_
                exact L67 _ 0 t s p d fw (Nat.lt_succ_self _) (Nat.zero_le _) (show ld_eqv h (t, s, p) _ from fun x hx => he x hx)
            · obtain ⟨h1_, h2_⟩ := hs c rfl
              show K (us (us (us (us (us (us (us (us (us (us (us σ 21 t) 22 s) 23 p) 27 d) 28 k0) 29 k1) 30 k2) 142 fc) 143 fw) 147 ck) 148 wk) [(0, .ref (ad 8)), (1, .int (nI (ld_ix n))), (2, .int v), (3, .int (nI c)), (4, .int (nI i))] [.int (nI i)] 49
              refine ld_bipush O (pc := 49) (v := nI 100) dX3_calm_49 (by decide) ?_
              refine ld_icmp_ge O (pc := 51) ((i : Nat) : Int) 100 (nI_toInt (by omega)) (by decide) 109 dX3_calm_51 (by decide) (fun c14 => ?_) (fun c14 => ?_)
              · refine ld_iload_n O (pc := 109) 3 dX3_calm_109 rfl rfl ?_
                refine ld_ireti E dX3_calm_110 ?_
                refine ⟨?_, t, s, p, d, k0, k1, k2, fc, fw, ck, wk, ?_, ?_, ?_, ?_⟩
                · unfold ld_fCa
                  rw [if_pos (by omega), if_pos (by omega), h2_]
                  rfl
                · funext b_
                  by_cases h0_ : b_ = 21
                  · subst h0_; exact ((us_ne _ _ (by decide)).trans ((us_ne _ _ (by decide)).trans ((us_ne _ _ (by decide)).trans ((us_ne _ _ (by decide)).trans ((us_ne _ _ (by decide)).trans ((us_ne _ _ (by decide)).trans ((us_ne _ _ (by decide)).trans ((us_ne _ _ (by decide)).trans ((us_ne _ _ (by decide)).trans ((us_ne _ _ (by decide)).trans (us_eq _ _ _))))))))))).trans ((us_ne _ _ (by decide)).trans ((us_ne _ _ (by decide)).trans ((us_ne _ _ (by decide)).trans ((us_ne _ _ (by decide)).trans ((us_ne _ _ (by decide)).trans ((us_ne _ _ (by decide)).trans ((us_ne _ _ (by decide)).trans ((us_ne _ _ (by decide)).trans ((us_ne _ _ (by decide)).trans ((us_ne _ _ (by decide)).trans (us_eq _ _ _))))))))))).symm
                  by_cases h1_ : b_ = 22
                  · subst h1_; exact ((us_ne _ _ (by decide)).trans ((us_ne _ _ (by decide)).trans ((us_ne _ _ (by decide)).trans ((us_ne _ _ (by decide)).trans ((us_ne _ _ (by decide)).trans ((us_ne _ _ (by decide)).trans ((us_ne _ _ (by decide)).trans ((us_ne _ _ (by decide)).trans ((us_ne _ _ (by decide)).trans (us_eq _ _ _)))))))))).trans ((us_ne _ _ (by decide)).trans ((us_ne _ _ (by decide)).trans ((us_ne _ _ (by decide)).trans ((us_ne _ _ (by decide)).trans ((us_ne _ _ (by decide)).trans ((us_ne _ _ (by decide)).trans ((us_ne _ _ (by decide)).trans ((us_ne _ _ (by decide)).trans ((us_ne _ _ (by decide)).trans (us_eq _ _ _)))))))))).symm
                  by_cases h2_ : b_ = 23
                  · subst h2_; exact ((us_ne _ _ (by decide)).trans ((us_ne _ _ (by decide)).trans ((us_ne _ _ (by decide)).trans ((us_ne _ _ (by decide)).trans ((us_ne _ _ (by decide)).trans ((us_ne _ _ (by decide)).trans ((us_ne _ _ (by decide)).trans ((us_ne _ _ (by decide)).trans (us_eq _ _ _))))))))).trans ((us_ne _ _ (by decide)).trans ((us_ne _ _ (by decide)).trans ((us_ne _ _ (by decide)).trans ((us_ne _ _ (by decide)).trans ((us_ne _ _ (by decide)).trans ((us_ne _ _ (by decide)).trans ((us_ne _ _ (by decide)).trans ((us_ne _ _ (by decide)).trans (us_eq _ _ _))))))))).symm
                  by_cases h3_ : b_ = 27
                  · subst h3_; exact ((us_ne _ _ (by decide)).trans ((us_ne _ _ (by decide)).trans ((us_ne _ _ (by decide)).trans ((us_ne _ _ (by decide)).trans ((us_ne _ _ (by decide)).trans ((us_ne _ _ (by decide)).trans ((us_ne _ _ (by decide)).trans (us_eq _ _ _)))))))).trans ((us_ne _ _ (by decide)).trans ((us_ne _ _ (by decide)).trans ((us_ne _ _ (by decide)).trans ((us_ne _ _ (by decide)).trans ((us_ne _ _ (by decide)).trans ((us_ne _ _ (by decide)).trans ((us_ne _ _ (by decide)).trans (us_eq _ _ _)))))))).symm
                  by_cases h4_ : b_ = 28
                  · subst h4_; exact ((us_ne _ _ (by decide)).trans ((us_ne _ _ (by decide)).trans ((us_ne _ _ (by decide)).trans ((us_ne _ _ (by decide)).trans ((us_ne _ _ (by decide)).trans ((us_ne _ _ (by decide)).trans (us_eq _ _ _))))))).trans ((us_ne _ _ (by decide)).trans ((us_ne _ _ (by decide)).trans ((us_ne _ _ (by decide)).trans ((us_ne _ _ (by decide)).trans ((us_ne _ _ (by decide)).trans ((us_ne _ _ (by decide)).trans (us_eq _ _ _))))))).symm
                  by_cases h5_ : b_ = 29
                  · subst h5_; exact ((us_ne _ _ (by decide)).trans ((us_ne _ _ (by decide)).trans ((us_ne _ _ (by decide)).trans ((us_ne _ _ (by decide)).trans ((us_ne _ _ (by decide)).trans (us_eq _ _ _)))))).trans ((us_ne _ _ (by decide)).trans ((us_ne _ _ (by decide)).trans ((us_ne _ _ (by decide)).trans ((us_ne _ _ (by decide)).trans ((us_ne _ _ (by decide)).trans (us_eq _ _ _)))))).symm
                  by_cases h6_ : b_ = 30
                  · subst h6_; exact ((us_ne _ _ (by decide)).trans ((us_ne _ _ (by decide)).trans ((us_ne _ _ (by decide)).trans ((us_ne _ _ (by decide)).trans (us_eq _ _ _))))).trans ((us_ne _ _ (by decide)).trans ((us_ne _ _ (by decide)).trans ((us_ne _ _ (by decide)).trans ((us_ne _ _ (by decide)).trans (us_eq _ _ _))))).symm
                  by_cases h7_ : b_ = 142
                  · subst h7_; exact ((us_ne _ _ (by decide)).trans ((us_ne _ _ (by decide)).trans ((us_ne _ _ (by decide)).trans (us_eq _ _ _)))).trans ((us_ne _ _ (by decide)).trans ((us_ne _ _ (by decide)).trans ((us_ne _ _ (by decide)).trans (us_eq _ _ _)))).symm
                  by_cases h8_ : b_ = 143
                  · subst h8_; exact ((us_ne _ _ (by decide)).trans ((us_ne _ _ (by decide)).trans (us_eq _ _ _))).trans ((us_ne _ _ (by decide)).trans ((us_ne _ _ (by decide)).trans (us_eq _ _ _))).symm
                  by_cases h9_ : b_ = 147
                  · subst h9_; exact ((us_ne _ _ (by decide)).trans (us_eq _ _ _)).trans ((us_ne _ _ (by decide)).trans (us_eq _ _ _)).symm
                  by_cases h10_ : b_ = 148
                  · subst h10_; exact (us_eq _ _ _).trans (us_eq _ _ _).symm
                  simp only [us, h0_, h1_, h2_, h3_, h4_, h5_, h6_, h7_, h8_, h9_, h10_, if_false]
                · exact he
                · exact hc
                · exact hw
              · refine ld_iload_n O (pc := 54) 3 dX3_calm_54 rfl rfl ?_
                refine ld_if_ge O (pc := 55) ((c : Nat) : Int) (nI_toInt (by omega)) 109 dX3_calm_55 (by decide) (fun c15 => ?_) (fun c15 => ?_)
                · refine ld_iload_n O (pc := 109) 3 dX3_calm_109 rfl rfl ?_
                  refine ld_ireti E dX3_calm_110 ?_
                  refine ⟨?_, t, s, p, d, k0, k1, k2, fc, fw, ck, wk, ?_, ?_, ?_, ?_⟩
                  · unfold ld_fCa
                    rw [if_pos (by omega), if_pos (by omega), h2_]
                    rfl
                  · funext b_
                    by_cases h0_ : b_ = 21
                    · subst h0_; exact ((us_ne _ _ (by decide)).trans ((us_ne _ _ (by decide)).trans ((us_ne _ _ (by decide)).trans ((us_ne _ _ (by decide)).trans ((us_ne _ _ (by decide)).trans ((us_ne _ _ (by decide)).trans ((us_ne _ _ (by decide)).trans ((us_ne _ _ (by decide)).trans ((us_ne _ _ (by decide)).trans ((us_ne _ _ (by decide)).trans (us_eq _ _ _))))))))))).trans ((us_ne _ _ (by decide)).trans ((us_ne _ _ (by decide)).trans ((us_ne _ _ (by decide)).trans ((us_ne _ _ (by decide)).trans ((us_ne _ _ (by decide)).trans ((us_ne _ _ (by decide)).trans ((us_ne _ _ (by decide)).trans ((us_ne _ _ (by decide)).trans ((us_ne _ _ (by decide)).trans ((us_ne _ _ (by decide)).trans (us_eq _ _ _))))))))))).symm
                    by_cases h1_ : b_ = 22
                    · subst h1_; exact ((us_ne _ _ (by decide)).trans ((us_ne _ _ (by decide)).trans ((us_ne _ _ (by decide)).trans ((us_ne _ _ (by decide)).trans ((us_ne _ _ (by decide)).trans ((us_ne _ _ (by decide)).trans ((us_ne _ _ (by decide)).trans ((us_ne _ _ (by decide)).trans ((us_ne _ _ (by decide)).trans (us_eq _ _ _)))))))))).trans ((us_ne _ _ (by decide)).trans ((us_ne _ _ (by decide)).trans ((us_ne _ _ (by decide)).trans ((us_ne _ _ (by decide)).trans ((us_ne _ _ (by decide)).trans ((us_ne _ _ (by decide)).trans ((us_ne _ _ (by decide)).trans ((us_ne _ _ (by decide)).trans ((us_ne _ _ (by decide)).trans (us_eq _ _ _)))))))))).symm
                    by_cases h2_ : b_ = 23
                    · subst h2_; exact ((us_ne _ _ (by decide)).trans ((us_ne _ _ (by decide)).trans ((us_ne _ _ (by decide)).trans ((us_ne _ _ (by decide)).trans ((us_ne _ _ (by decide)).trans ((us_ne _ _ (by decide)).trans ((us_ne _ _ (by decide)).trans ((us_ne _ _ (by decide)).trans (us_eq _ _ _))))))))).trans ((us_ne _ _ (by decide)).trans ((us_ne _ _ (by decide)).trans ((us_ne _ _ (by decide)).trans ((us_ne _ _ (by decide)).trans ((us_ne _ _ (by decide)).trans ((us_ne _ _ (by decide)).trans ((us_ne _ _ (by decide)).trans ((us_ne _ _ (by decide)).trans (us_eq _ _ _))))))))).symm
                    by_cases h3_ : b_ = 27
                    · subst h3_; exact ((us_ne _ _ (by decide)).trans ((us_ne _ _ (by decide)).trans ((us_ne _ _ (by decide)).trans ((us_ne _ _ (by decide)).trans ((us_ne _ _ (by decide)).trans ((us_ne _ _ (by decide)).trans ((us_ne _ _ (by decide)).trans (us_eq _ _ _)))))))).trans ((us_ne _ _ (by decide)).trans ((us_ne _ _ (by decide)).trans ((us_ne _ _ (by decide)).trans ((us_ne _ _ (by decide)).trans ((us_ne _ _ (by decide)).trans ((us_ne _ _ (by decide)).trans ((us_ne _ _ (by decide)).trans (us_eq _ _ _)))))))).symm
                    by_cases h4_ : b_ = 28
                    · subst h4_; exact ((us_ne _ _ (by decide)).trans ((us_ne _ _ (by decide)).trans ((us_ne _ _ (by decide)).trans ((us_ne _ _ (by decide)).trans ((us_ne _ _ (by decide)).trans ((us_ne _ _ (by decide)).trans (us_eq _ _ _))))))).trans ((us_ne _ _ (by decide)).trans ((us_ne _ _ (by decide)).trans ((us_ne _ _ (by decide)).trans ((us_ne _ _ (by decide)).trans ((us_ne _ _ (by decide)).trans ((us_ne _ _ (by decide)).trans (us_eq _ _ _))))))).symm
                    by_cases h5_ : b_ = 29
                    · subst h5_; exact ((us_ne _ _ (by decide)).trans ((us_ne _ _ (by decide)).trans ((us_ne _ _ (by decide)).trans ((us_ne _ _ (by decide)).trans ((us_ne _ _ (by decide)).trans (us_eq _ _ _)))))).trans ((us_ne _ _ (by decide)).trans ((us_ne _ _ (by decide)).trans ((us_ne _ _ (by decide)).trans ((us_ne _ _ (by decide)).trans ((us_ne _ _ (by decide)).trans (us_eq _ _ _)))))).symm
                    by_cases h6_ : b_ = 30
                    · subst h6_; exact ((us_ne _ _ (by decide)).trans ((us_ne _ _ (by decide)).trans ((us_ne _ _ (by decide)).trans ((us_ne _ _ (by decide)).trans (us_eq _ _ _))))).trans ((us_ne _ _ (by decide)).trans ((us_ne _ _ (by decide)).trans ((us_ne _ _ (by decide)).trans ((us_ne _ _ (by decide)).trans (us_eq _ _ _))))).symm
                    by_cases h7_ : b_ = 142
                    · subst h7_; exact ((us_ne _ _ (by decide)).trans ((us_ne _ _ (by decide)).trans ((us_ne _ _ (by decide)).trans (us_eq _ _ _)))).trans ((us_ne _ _ (by decide)).trans ((us_ne _ _ (by decide)).trans ((us_ne _ _ (by decide)).trans (us_eq _ _ _)))).symm
                    by_cases h8_ : b_ = 143
                    · subst h8_; exact ((us_ne _ _ (by decide)).trans ((us_ne _ _ (by decide)).trans (us_eq _ _ _))).trans ((us_ne _ _ (by decide)).trans ((us_ne _ _ (by decide)).trans (us_eq _ _ _))).symm
                    by_cases h9_ : b_ = 147
                    · subst h9_; exact ((us_ne _ _ (by decide)).trans (us_eq _ _ _)).trans ((us_ne _ _ (by decide)).trans (us_eq _ _ _)).symm
                    by_cases h10_ : b_ = 148
                    · subst h10_; exact (us_eq _ _ _).trans (us_eq _ _ _).symm
                    simp only [us, h0_, h1_, h2_, h3_, h4_, h5_, h6_, h7_, h8_, h9_, h10_, if_false]
                  · exact he
                  · exact hc
                  · exact hw
                · exact False.elim (by omega)
        refine ld_less O [2, 3, 4, 1, 0] (lv2 := [(0, .ref (ad 8)), (1, .int (nI (ld_ix n))), (2, .int v), (3, .int (ld_nv none)), (4, .int (nI 0))]) rfl ?_
        have hs16 : us (us (us (us (us σ 147 (fun _ => σ 142 0)) 148 (fun _ => σ 143 0)) 28 a0_p38) 29 a1_p38) 30 a2_p38 = us (us (us (us (us (us (us (us (us (us (us σ 21 (σ 21)) 22 (σ 22)) 23 (σ 23)) 27 (σ 27)) 28 a0_p38) 29 a1_p38) 30 a2_p38) 142 (σ 142)) 143 (σ 143)) 147 (fun _ => σ 142 0)) 148 (fun _ => σ 143 0) := by
          funext b_
          by_cases h0_ : b_ = 147
          · subst h0_; exact ((us_ne _ _ (by decide)).trans ((us_ne _ _ (by decide)).trans ((us_ne _ _ (by decide)).trans ((us_ne _ _ (by decide)).trans (us_eq _ _ _))))).trans ((us_ne _ _ (by decide)).trans (us_eq _ _ _)).symm
          by_cases h1_ : b_ = 148
          · subst h1_; exact ((us_ne _ _ (by decide)).trans ((us_ne _ _ (by decide)).trans ((us_ne _ _ (by decide)).trans (us_eq _ _ _)))).trans (us_eq _ _ _).symm
          by_cases h2_ : b_ = 28
          · subst h2_; exact ((us_ne _ _ (by decide)).trans ((us_ne _ _ (by decide)).trans (us_eq _ _ _))).trans ((us_ne _ _ (by decide)).trans ((us_ne _ _ (by decide)).trans ((us_ne _ _ (by decide)).trans ((us_ne _ _ (by decide)).trans ((us_ne _ _ (by decide)).trans ((us_ne _ _ (by decide)).trans (us_eq _ _ _))))))).symm
          by_cases h3_ : b_ = 29
          · subst h3_; exact ((us_ne _ _ (by decide)).trans (us_eq _ _ _)).trans ((us_ne _ _ (by decide)).trans ((us_ne _ _ (by decide)).trans ((us_ne _ _ (by decide)).trans ((us_ne _ _ (by decide)).trans ((us_ne _ _ (by decide)).trans (us_eq _ _ _)))))).symm
          by_cases h4_ : b_ = 30
          · subst h4_; exact (us_eq _ _ _).trans ((us_ne _ _ (by decide)).trans ((us_ne _ _ (by decide)).trans ((us_ne _ _ (by decide)).trans ((us_ne _ _ (by decide)).trans (us_eq _ _ _))))).symm
          by_cases h5_ : b_ = 21
          · subst h5_; exact ((us_ne _ _ (by decide)).trans ((us_ne _ _ (by decide)).trans ((us_ne _ _ (by decide)).trans ((us_ne _ _ (by decide)).trans (us_ne _ _ (by decide)))))).trans ((us_ne _ _ (by decide)).trans ((us_ne _ _ (by decide)).trans ((us_ne _ _ (by decide)).trans ((us_ne _ _ (by decide)).trans ((us_ne _ _ (by decide)).trans ((us_ne _ _ (by decide)).trans ((us_ne _ _ (by decide)).trans ((us_ne _ _ (by decide)).trans ((us_ne _ _ (by decide)).trans ((us_ne _ _ (by decide)).trans (us_eq _ _ _))))))))))).symm
          by_cases h6_ : b_ = 22
          · subst h6_; exact ((us_ne _ _ (by decide)).trans ((us_ne _ _ (by decide)).trans ((us_ne _ _ (by decide)).trans ((us_ne _ _ (by decide)).trans (us_ne _ _ (by decide)))))).trans ((us_ne _ _ (by decide)).trans ((us_ne _ _ (by decide)).trans ((us_ne _ _ (by decide)).trans ((us_ne _ _ (by decide)).trans ((us_ne _ _ (by decide)).trans ((us_ne _ _ (by decide)).trans ((us_ne _ _ (by decide)).trans ((us_ne _ _ (by decide)).trans ((us_ne _ _ (by decide)).trans (us_eq _ _ _)))))))))).symm
          by_cases h7_ : b_ = 23
          · subst h7_; exact ((us_ne _ _ (by decide)).trans ((us_ne _ _ (by decide)).trans ((us_ne _ _ (by decide)).trans ((us_ne _ _ (by decide)).trans (us_ne _ _ (by decide)))))).trans ((us_ne _ _ (by decide)).trans ((us_ne _ _ (by decide)).trans ((us_ne _ _ (by decide)).trans ((us_ne _ _ (by decide)).trans ((us_ne _ _ (by decide)).trans ((us_ne _ _ (by decide)).trans ((us_ne _ _ (by decide)).trans ((us_ne _ _ (by decide)).trans (us_eq _ _ _))))))))).symm
          by_cases h8_ : b_ = 27
          · subst h8_; exact ((us_ne _ _ (by decide)).trans ((us_ne _ _ (by decide)).trans ((us_ne _ _ (by decide)).trans ((us_ne _ _ (by decide)).trans (us_ne _ _ (by decide)))))).trans ((us_ne _ _ (by decide)).trans ((us_ne _ _ (by decide)).trans ((us_ne _ _ (by decide)).trans ((us_ne _ _ (by decide)).trans ((us_ne _ _ (by decide)).trans ((us_ne _ _ (by decide)).trans ((us_ne _ _ (by decide)).trans (us_eq _ _ _)))))))).symm
          by_cases h9_ : b_ = 142
          · subst h9_; exact ((us_ne _ _ (by decide)).trans ((us_ne _ _ (by decide)).trans ((us_ne _ _ (by decide)).trans ((us_ne _ _ (by decide)).trans (us_ne _ _ (by decide)))))).trans ((us_ne _ _ (by decide)).trans ((us_ne _ _ (by decide)).trans ((us_ne _ _ (by decide)).trans (us_eq _ _ _)))).symm
          by_cases h10_ : b_ = 143
          · subst h10_; exact ((us_ne _ _ (by decide)).trans ((us_ne _ _ (by decide)).trans ((us_ne _ _ (by decide)).trans ((us_ne _ _ (by decide)).trans (us_ne _ _ (by decide)))))).trans ((us_ne _ _ (by decide)).trans ((us_ne _ _ (by decide)).trans (us_eq _ _ _))).symm
          simp only [us, h0_, h1_, h2_, h3_, h4_, h5_, h6_, h7_, h8_, h9_, h10_, if_false]
        refine ld_cv hs16 ?_
        exact L47 _ 0 none (σ 21) (σ 22) (σ 23) (σ 27) a0_p38 a1_p38 a2_p38 (σ 142) (σ 143) (fun _ => σ 142 0) (fun _ => σ 143 0) (Nat.lt_succ_self _) (Nat.zero_le _) (fun _ _ => ⟨rfl, rfl, rfl⟩) ha_p38 rfl rfl rfl rfl (fun _ => rfl) (fun c z => by cases z)
      · refine ld_bipush O (pc := 34) (v := (-2 : Int32)) dX3_calm_34 (by decide) ?_
        refine ld_ireti E dX3_calm_36 ?_
        refine ⟨?_, σ 21, σ 22, σ 23, σ 27, σ 28, σ 29, σ 30, σ 142, σ 143, σ 147, σ 148, ?_, ?_, ?_, ?_⟩
        · unfold ld_fCa
          repeat' split
          all_goals first | (exfalso; omega) | rfl
        · funext b_
          by_cases h0_ : b_ = 21
          · subst h0_; exact (rfl).trans ((us_ne _ _ (by decide)).trans ((us_ne _ _ (by decide)).trans ((us_ne _ _ (by decide)).trans ((us_ne _ _ (by decide)).trans ((us_ne _ _ (by decide)).trans ((us_ne _ _ (by decide)).trans ((us_ne _ _ (by decide)).trans ((us_ne _ _ (by decide)).trans ((us_ne _ _ (by decide)).trans ((us_ne _ _ (by decide)).trans (us_eq _ _ _))))))))))).symm
          by_cases h1_ : b_ = 22
          · subst h1_; exact (rfl).trans ((us_ne _ _ (by decide)).trans ((us_ne _ _ (by decide)).trans ((us_ne _ _ (by decide)).trans ((us_ne _ _ (by decide)).trans ((us_ne _ _ (by decide)).trans ((us_ne _ _ (by decide)).trans ((us_ne _ _ (by decide)).trans ((us_ne _ _ (by decide)).trans ((us_ne _ _ (by decide)).trans (us_eq _ _ _)))))))))).symm
          by_cases h2_ : b_ = 23
          · subst h2_; exact (rfl).trans ((us_ne _ _ (by decide)).trans ((us_ne _ _ (by decide)).trans ((us_ne _ _ (by decide)).trans ((us_ne _ _ (by decide)).trans ((us_ne _ _ (by decide)).trans ((us_ne _ _ (by decide)).trans ((us_ne _ _ (by decide)).trans ((us_ne _ _ (by decide)).trans (us_eq _ _ _))))))))).symm
          by_cases h3_ : b_ = 27
          · subst h3_; exact (rfl).trans ((us_ne _ _ (by decide)).trans ((us_ne _ _ (by decide)).trans ((us_ne _ _ (by decide)).trans ((us_ne _ _ (by decide)).trans ((us_ne _ _ (by decide)).trans ((us_ne _ _ (by decide)).trans ((us_ne _ _ (by decide)).trans (us_eq _ _ _)))))))).symm
          by_cases h4_ : b_ = 28
          · subst h4_; exact (rfl).trans ((us_ne _ _ (by decide)).trans ((us_ne _ _ (by decide)).trans ((us_ne _ _ (by decide)).trans ((us_ne _ _ (by decide)).trans ((us_ne _ _ (by decide)).trans ((us_ne _ _ (by decide)).trans (us_eq _ _ _))))))).symm
          by_cases h5_ : b_ = 29
          · subst h5_; exact (rfl).trans ((us_ne _ _ (by decide)).trans ((us_ne _ _ (by decide)).trans ((us_ne _ _ (by decide)).trans ((us_ne _ _ (by decide)).trans ((us_ne _ _ (by decide)).trans (us_eq _ _ _)))))).symm
          by_cases h6_ : b_ = 30
          · subst h6_; exact (rfl).trans ((us_ne _ _ (by decide)).trans ((us_ne _ _ (by decide)).trans ((us_ne _ _ (by decide)).trans ((us_ne _ _ (by decide)).trans (us_eq _ _ _))))).symm
          by_cases h7_ : b_ = 142
          · subst h7_; exact (rfl).trans ((us_ne _ _ (by decide)).trans ((us_ne _ _ (by decide)).trans ((us_ne _ _ (by decide)).trans (us_eq _ _ _)))).symm
          by_cases h8_ : b_ = 143
          · subst h8_; exact (rfl).trans ((us_ne _ _ (by decide)).trans ((us_ne _ _ (by decide)).trans (us_eq _ _ _))).symm
          by_cases h9_ : b_ = 147
          · subst h9_; exact (rfl).trans ((us_ne _ _ (by decide)).trans (us_eq _ _ _)).symm
          by_cases h10_ : b_ = 148
          · subst h10_; exact (rfl).trans (us_eq _ _ _).symm
          simp only [us, h0_, h1_, h2_, h3_, h4_, h5_, h6_, h7_, h8_, h9_, h10_, if_false]
        · exact fun _ _ => ⟨rfl, rfl, rfl⟩
        · rfl
        · rfl
  · refine ld_bipush O (pc := 7) (v := (-3 : Int32)) dX3_calm_7 (by decide) ?_
    refine ld_ireti E dX3_calm_9 ?_
    refine ⟨?_, σ 21, σ 22, σ 23, σ 27, σ 28, σ 29, σ 30, σ 142, σ 143, σ 147, σ 148, ?_, ?_, ?_, ?_⟩
    · unfold ld_fCa
      repeat' split
      all_goals first | (exfalso; omega) | rfl
    · funext b_
      by_cases h0_ : b_ = 21
      · subst h0_; exact (rfl).trans ((us_ne _ _ (by decide)).trans ((us_ne _ _ (by decide)).trans ((us_ne _ _ (by decide)).trans ((us_ne _ _ (by decide)).trans ((us_ne _ _ (by decide)).trans ((us_ne _ _ (by decide)).trans ((us_ne _ _ (by decide)).trans ((us_ne _ _ (by decide)).trans ((us_ne _ _ (by decide)).trans ((us_ne _ _ (by decide)).trans (us_eq _ _ _))))))))))).symm
      by_cases h1_ : b_ = 22
      · subst h1_; exact (rfl).trans ((us_ne _ _ (by decide)).trans ((us_ne _ _ (by decide)).trans ((us_ne _ _ (by decide)).trans ((us_ne _ _ (by decide)).trans ((us_ne _ _ (by decide)).trans ((us_ne _ _ (by decide)).trans ((us_ne _ _ (by decide)).trans ((us_ne _ _ (by decide)).trans ((us_ne _ _ (by decide)).trans (us_eq _ _ _)))))))))).symm
      by_cases h2_ : b_ = 23
      · subst h2_; exact (rfl).trans ((us_ne _ _ (by decide)).trans ((us_ne _ _ (by decide)).trans ((us_ne _ _ (by decide)).trans ((us_ne _ _ (by decide)).trans ((us_ne _ _ (by decide)).trans ((us_ne _ _ (by decide)).trans ((us_ne _ _ (by decide)).trans ((us_ne _ _ (by decide)).trans (us_eq _ _ _))))))))).symm
      by_cases h3_ : b_ = 27
      · subst h3_; exact (rfl).trans ((us_ne _ _ (by decide)).trans ((us_ne _ _ (by decide)).trans ((us_ne _ _ (by decide)).trans ((us_ne _ _ (by decide)).trans ((us_ne _ _ (by decide)).trans ((us_ne _ _ (by decide)).trans ((us_ne _ _ (by decide)).trans (us_eq _ _ _)))))))).symm
      by_cases h4_ : b_ = 28
      · subst h4_; exact (rfl).trans ((us_ne _ _ (by decide)).trans ((us_ne _ _ (by decide)).trans ((us_ne _ _ (by decide)).trans ((us_ne _ _ (by decide)).trans ((us_ne _ _ (by decide)).trans ((us_ne _ _ (by decide)).trans (us_eq _ _ _))))))).symm
      by_cases h5_ : b_ = 29
      · subst h5_; exact (rfl).trans ((us_ne _ _ (by decide)).trans ((us_ne _ _ (by decide)).trans ((us_ne _ _ (by decide)).trans ((us_ne _ _ (by decide)).trans ((us_ne _ _ (by decide)).trans (us_eq _ _ _)))))).symm
      by_cases h6_ : b_ = 30
      · subst h6_; exact (rfl).trans ((us_ne _ _ (by decide)).trans ((us_ne _ _ (by decide)).trans ((us_ne _ _ (by decide)).trans ((us_ne _ _ (by decide)).trans (us_eq _ _ _))))).symm
      by_cases h7_ : b_ = 142
      · subst h7_; exact (rfl).trans ((us_ne _ _ (by decide)).trans ((us_ne _ _ (by decide)).trans ((us_ne _ _ (by decide)).trans (us_eq _ _ _)))).symm
      by_cases h8_ : b_ = 143
      · subst h8_; exact (rfl).trans ((us_ne _ _ (by decide)).trans ((us_ne _ _ (by decide)).trans (us_eq _ _ _))).symm
      by_cases h9_ : b_ = 147
      · subst h9_; exact (rfl).trans ((us_ne _ _ (by decide)).trans (us_eq _ _ _)).symm
      by_cases h10_ : b_ = 148
      · subst h10_; exact (rfl).trans (us_eq _ _ _).symm
      simp only [us, h0_, h1_, h2_, h3_, h4_, h5_, h6_, h7_, h8_, h9_, h10_, if_false]
    · exact fun _ _ => ⟨rfl, rfl, rfl⟩
    · rfl
    · rfl
