theorem ld_fa0 {a b c : Int32} (h : (ld_fa a b c).toInt = 0) : ¬ a.toInt = -1 ∧ b.toInt = c.toInt := by
  unfold ld_fa at h
  repeat' split at h
  all_goals first | exact absurd h (by decide) | exact ⟨by omega, by omega⟩
set_option maxHeartbeats 4000000 in
set_option maxRecDepth 100000 in
theorem c_X2_street (l : Launch) (ad : Nat → Nat) (σ : ld_St) (hS : ∀ x, x < 4 → -1 ≤ (σ 131 x).toInt ∧ (σ 131 x).toInt ≤ 60) (k lane i n : Int32) : ld_Ctr l yX2_street cX2_street 8 (some .int) (3, 64) [.ref (ad 0), .int k, .int lane, .int i, .int n] ad σ (ld_I (fun (r : Int32) (σ2 : ld_St) => r = (ld_fSt (σ 131) (σ 130) (fun z => σ (16 + z)) k lane i n).1 ∧ ∃ f : Nat → Int32, f 0 = (ld_fSt (σ 131) (σ 130) (fun z => σ (16 + z)) k lane i n).2 ∧ ((ld_okSt (σ 131) (σ 130) (fun z => σ (16 + z)) k lane i n ∧ ∃ (m : Nat) (k0 k1 k2 k3 : Nat → Int32), ld_ix n = 3 + 4 * m ∧ 1 ≤ m ∧ m ≤ 8 ∧ σ2 = us (us (us (us (us (us (us (us (us σ 102 f) 111 (fun _ => (σ (16 + ld_ix k) (ld_ix i + 1) - nI 48) * nI 10 + σ (16 + ld_ix k) (ld_ix i + 2) - nI 48)) 112 (fun _ => nI 0)) 110 (fun _ => nI m)) 0 k0) 1 k1) 2 k2) 3 k3) 100 (fun _ => nI 0) ∧ ∀ x, x < m → k0 x = ld_kl (σ (16 + ld_ix k) (ld_ix i + 3 + 4 * x + 1)) ∧ k1 x = σ (16 + ld_ix k) (ld_ix i + 3 + 4 * x + 2) - nI 48 ∧ k2 x = σ (16 + ld_ix k) (ld_ix i + 3 + 4 * x + 3) - nI 48 ∧ k3 x = nI 0) ∨ (¬ ld_okSt (σ 131) (σ 130) (fun z => σ (16 + z)) k lane i n ∧ σ2 = us σ 102 f)))) := by
  refine ld_entry (by decide +kernel) (Nat.le_of_ble_eq_true rfl) (fun K O E => ?_)
  have O : ld_Ok l K ad cX2_street 8 RX2 (ld_rm (3, 64)) := O
  show K σ [(0, .ref (ad 0)), (1, .int k), (2, .int lane), (3, .int i), (4, .int n)] [] 0
  refine ld_aload_n O (pc := 0) 0 dX2_street_0 rfl rfl ?_
  refine ld_iconst O (pc := 1) (v := nI 0) dX2_street_1 (by decide) ?_
  refine ld_p_LD_lastFault O (pc := 2) ld_w24 dX2_street_2 ?_
  refine ld_iload_n O (pc := 5) 1 dX2_street_5 rfl rfl ?_
  refine ld_callSi O (pc := 6) (As := [.int k]) (st := []) (c_X2_isSheet l ad (us σ 102 (fun _ => nI 0)) k) ld_mw_X2_isSheet ld_w73 rfl rfl ⟨by decide, by decide⟩ (Nat.le_of_ble_eq_true rfl) dX2_street_6 (fun r_p6 σ_p6 h_p6 => ?_)
  obtain ⟨rfl, hσ_p6⟩ := h_p6
  rw [hσ_p6]
  show K (us σ 102 (fun _ => nI 0)) [(0, .ref (ad 0)), (1, .int k), (2, .int lane), (3, .int i), (4, .int n)] [.int (ld_b (0 ≤ (k).toInt ∧ (k).toInt < 4))] 9
  refine ld_ifb_ne O (pc := 9) 14 dX2_street_9 (by decide) (fun c1 => ?_) (fun c1 => ?_)
  · obtain ⟨ek_k, hk_k, ik_k⟩ := ld_ofIx (k := k) (h := 4) (by omega)
    rw [ek_k]
    refine ld_iload_n O (pc := 14) 2 dX2_street_14 rfl rfl ?_
    refine ld_callSi O (pc := 15) (As := [.int lane]) (st := []) (c_X2_isLane l ad (us σ 102 (fun _ => nI 0)) lane) ld_mw_X2_isLane ld_w76 rfl rfl ⟨by decide, by decide⟩ (Nat.le_of_ble_eq_true rfl) dX2_street_15 (fun r_p15 σ_p15 h_p15 => ?_)
    obtain ⟨rfl, hσ_p15⟩ := h_p15
    rw [hσ_p15]
    show K (us σ 102 (fun _ => nI 0)) [(0, .ref (ad 0)), (1, .int (nI (ld_ix k))), (2, .int lane), (3, .int i), (4, .int n)] [.int (ld_b (0 ≤ (lane).toInt ∧ (lane).toInt < 3))] 18
    refine ld_ifb_ne O (pc := 18) 24 dX2_street_18 (by decide) (fun c2 => ?_) (fun c2 => ?_)
    · refine ld_aload_n O (pc := 24) 0 dX2_street_24 rfl rfl ?_
      refine ld_g_LD_sheets O (pc := 25) ld_w18 dX2_street_25 ?_
      refine ld_iload_n O (pc := 28) 1 dX2_street_28 rfl rfl ?_
      refine ld_aald O (pc := 29) (ld_ix k) rfl (by omega) dX2_street_29 ?_
      refine ld_astore O (pc := 30) [(5, .ref (ad (4 + (ld_ix k)))), (0, .ref (ad 0)), (1, .int (nI (ld_ix k))), (2, .int lane), (3, .int i), (4, .int n)] dX2_street_30 (by decide) rfl ?_
      refine ld_aload O (pc := 32) 0 dX2_street_32 rfl ?_
      refine ld_iload_n O (pc := 34) 3 dX2_street_34 rfl rfl ?_
      refine ld_callVNi O (pc := 35) (As := [.int lane]) (st := []) (ld_recvS (by omega)) (c_X0_faultAs l ad (us σ 102 (fun _ => nI 0)) (ld_ix k) (by omega) lane) ld_mw_X0_faultAs (List.mem_of_getElem? (i := 14) rfl) rfl rfl ⟨by decide, by decide⟩ (Nat.le_of_ble_eq_true rfl) dX2_street_35 (fun r_p35 σ_p35 h_p35 => ?_)
      obtain ⟨rfl, hσ_p35⟩ := h_p35
      rw [hσ_p35]
      show K (us σ 102 (fun _ => nI 0)) [(5, .ref (ad (4 + (ld_ix k)))), (0, .ref (ad 0)), (1, .int (nI (ld_ix k))), (2, .int lane), (3, .int i), (4, .int n)] [.int (ld_fa (σ 131 (ld_ix k)) (σ 130 (ld_ix k)) lane)] 38
      refine ld_istore O (pc := 38) [(6, .int (ld_fa (σ 131 (ld_ix k)) (σ 130 (ld_ix k)) lane)), (5, .ref (ad (4 + (ld_ix k)))), (0, .ref (ad 0)), (1, .int (nI (ld_ix k))), (2, .int lane), (3, .int i), (4, .int n)] dX2_street_38 (by decide) rfl ?_
      refine ld_iload O (pc := 40) 0 dX2_street_40 rfl ?_
      refine ld_if_ne O (pc := 42) (ld_fa (σ 131 (ld_ix k)) (σ 130 (ld_ix k)) lane).toInt rfl 53 dX2_street_42 (by decide) (fun c3 => ?_) (fun c3 => ?_)
      · refine ld_iload O (pc := 53) 0 dX2_street_53 rfl ?_
        refine ld_if_ne O (pc := 55) (ld_fa (σ 131 (ld_ix k)) (σ 130 (ld_ix k)) lane).toInt rfl 72 dX2_street_55 (by decide) (fun c4 => ?_) (fun z => absurd z c3)
        refine ld_iload O (pc := 72) 0 dX2_street_72 rfl ?_
        refine ld_if_eq O (pc := 74) (ld_fa (σ 131 (ld_ix k)) (σ 130 (ld_ix k)) lane).toInt rfl 84 dX2_street_74 (by decide) (fun z => absurd z c3) (fun c5 => ?_)
        refine ld_aload_n O (pc := 77) 2 dX2_street_77 rfl rfl ?_
        refine ld_iload O (pc := 78) 0 dX2_street_78 rfl ?_
        refine ld_callVi O (pc := 80) (As := [.int (ld_fa (σ 131 (ld_ix k)) (σ 130 (ld_ix k)) lane)]) (st := []) ld_recv0 (c_X2_fails l ad (us σ 102 (fun _ => nI 0)) (ld_fa (σ 131 (ld_ix k)) (σ 130 (ld_ix k)) lane)) ld_mw_X2_fails ld_w89 rfl rfl ⟨by decide, by decide⟩ (Nat.le_of_ble_eq_true rfl) dX2_street_80 (fun r_p80 σ_p80 h_p80 => ?_)
        obtain ⟨rfl, hσ_p80⟩ := h_p80
        rw [hσ_p80]
        show K (us (us σ 102 (fun _ => nI 0)) 102 (fun _ => ld_fa (σ 131 (ld_ix k)) (σ 130 (ld_ix k)) lane)) [(6, .int (ld_fa (σ 131 (ld_ix k)) (σ 130 (ld_ix k)) lane)), (5, .ref (ad (4 + (ld_ix k)))), (0, .ref (ad 0)), (1, .int (nI (ld_ix k))), (2, .int lane), (3, .int i), (4, .int n)] [.int ((-10 : Int32) - (ld_fa (σ 131 (ld_ix k)) (σ 130 (ld_ix k)) lane))] 83
        refine ld_ireti E dX2_street_83 ?_
        refine ⟨?_, fun _ => ld_fa (σ 131 (ld_ix k)) (σ 130 (ld_ix k)) lane, ?_, Or.inr ⟨?_, ?_⟩⟩
        · unfold ld_fSt
          try dsimp only
          repeat' split
          all_goals first | (exfalso; omega) | rfl
        · unfold ld_fSt
          try dsimp only
          repeat' split
          all_goals first | (exfalso; omega) | rfl
        · exact fun z => by have z1 := z.1.1; have z2 := z.1.2.1; have z3 := z.1.2.2; have z4 := z.2; (try dsimp only at z4); omega
        · funext b_
          by_cases h0_ : b_ = 102
          · subst h0_; first | rfl | (simp (disch := omega) only [us_ne, us_eq]; done)
          simp only [us, h0_, if_false]
      · refine ld_iload O (pc := 45) 6 dX2_street_45 rfl ?_
        refine ld_if_ge O (pc := 47) (n).toInt rfl 53 dX2_street_47 (by decide) (fun c6 => ?_) (fun c6 => ?_)
        · refine ld_iload O (pc := 53) 0 dX2_street_53 rfl ?_
          refine ld_if_ne O (pc := 55) (ld_fa (σ 131 (ld_ix k)) (σ 130 (ld_ix k)) lane).toInt rfl 72 dX2_street_55 (by decide) (fun z => absurd c3 z) (fun c7 => ?_)
          have hfa_ := ld_fa0 c3
          refine ld_aload O (pc := 58) 1 dX2_street_58 rfl ?_
          refine ld_iload_n O (pc := 60) 5 dX2_street_60 rfl rfl ?_
          refine ld_iload O (pc := 61) 6 dX2_street_61 rfl ?_
          refine ld_callVNi O (pc := 63) (As := [.int i, .int n]) (st := []) (ld_recvS (by omega)) (c_X0_lacks l ad (us σ 102 (fun _ => nI 0)) (ld_ix k) (by omega) (show 0 ≤ (σ 131 (ld_ix k)).toInt by have := hS _ (show (ld_ix k) < 4 by omega); omega) (show (σ 131 (ld_ix k)).toInt ≤ 60 by have := hS _ (show (ld_ix k) < 4 by omega); omega) i n) ld_mw_X0_lacks (List.mem_of_getElem? (i := 15) rfl) rfl rfl ⟨by decide, by decide⟩ (Nat.le_of_ble_eq_true rfl) dX2_street_63 (fun r_p63 σ_p63 h_p63 => ?_)
          obtain ⟨rfl, hσ_p63⟩ := h_p63
          rw [hσ_p63]
          show K (us σ 102 (fun _ => nI 0)) [(6, .int (ld_fa (σ 131 (ld_ix k)) (σ 130 (ld_ix k)) lane)), (5, .ref (ad (4 + (ld_ix k)))), (0, .ref (ad 0)), (1, .int (nI (ld_ix k))), (2, .int lane), (3, .int i), (4, .int n)] [.int (ld_b ((i).toInt < 0 ∨ (n).toInt < 0 ∨ (σ 131 (ld_ix k)).toInt < (i).toInt + (n).toInt))] 66
          refine ld_ifb_eq O (pc := 66) 72 dX2_street_66 (by decide) (fun c8 => ?_) (fun c8 => ?_)
          · refine ld_iload O (pc := 72) 0 dX2_street_72 rfl ?_
            refine ld_if_eq O (pc := 74) (ld_fa (σ 131 (ld_ix k)) (σ 130 (ld_ix k)) lane).toInt rfl 84 dX2_street_74 (by decide) (fun c9 => ?_) (fun z => absurd c3 z)
            have hs1_ := hS _ hk_k
            obtain ⟨ek_i, hk_i, ik_i⟩ := ld_ofIx (k := i) (h := 61) (by omega)
            rw [ek_i]
            obtain ⟨ek_n, hk_n, ik_n⟩ := ld_ofIx (k := n) (h := 61) (by omega)
            rw [ek_n]
            refine ld_aload O (pc := 84) 1 dX2_street_84 rfl ?_
            refine ld_g_S_cellsN O (pc := 86) (by omega) (List.mem_of_getElem? (i := 11) rfl) dX2_street_86 ?_
            refine ld_iload_n O (pc := 89) 5 dX2_street_89 rfl rfl ?_
            refine ld_iload O (pc := 90) 6 dX2_street_90 rfl ?_
            refine ld_callSi O (pc := 92) (As := [.ref (ad (9 + (16 + (ld_ix k)))), .int (nI (ld_ix i)), .int (nI (ld_ix n))]) (st := []) (c_X2_firstTextFault l ad (us σ 102 (fun _ => nI 0)) (ld_ix k) (by omega) (ld_ix i) (ld_ix n) (by omega)) ld_mw_X2_firstTextFault ld_w93 rfl rfl ⟨by decide, by decide⟩ (Nat.le_of_ble_eq_true rfl) dX2_street_92 (fun r_p92 σ_p92 h_p92 => ?_)
            obtain ⟨rfl, hσ_p92⟩ := h_p92
            rw [hσ_p92]
            try simp (disch := omega) only [us_ne, us_eq]
            show K (us σ 102 (fun _ => nI 0)) [(6, .int (ld_fa (σ 131 (ld_ix k)) (σ 130 (ld_ix k)) lane)), (5, .ref (ad (4 + (ld_ix k)))), (0, .ref (ad 0)), (1, .int (nI (ld_ix k))), (2, .int lane), (3, .int (nI (ld_ix i))), (4, .int (nI (ld_ix n)))] [.int (ld_ftf (fun z => σ (16 + (ld_ix k)) ((ld_ix i) + z)) (ld_ix n))] 95
            refine ld_istore O (pc := 95) [(7, .int (ld_ftf (fun z => σ (16 + (ld_ix k)) ((ld_ix i) + z)) (ld_ix n))), (6, .int (ld_fa (σ 131 (ld_ix k)) (σ 130 (ld_ix k)) lane)), (5, .ref (ad (4 + (ld_ix k)))), (0, .ref (ad 0)), (1, .int (nI (ld_ix k))), (2, .int lane), (3, .int (nI (ld_ix i))), (4, .int (nI (ld_ix n)))] dX2_street_95 (by decide) rfl ?_
            refine ld_iload O (pc := 97) 0 dX2_street_97 rfl ?_
            refine ld_bipush O (pc := 99) (v := (-9 : Int32)) dX2_street_99 (by decide) ?_
            refine ld_icmp_eq O (pc := 101) (ld_ftf (fun z => σ (16 + (ld_ix k)) ((ld_ix i) + z)) (ld_ix n)).toInt (-9) rfl (by decide) 110 dX2_street_101 (by decide) (fun c10 => ?_) (fun c10 => ?_)
            · refine ld_less O [3, 4, 5, 6, 7, 2] (lv2 := [(0, .ref (ad 0)), (1, .int (nI (ld_ix k))), (2, .int lane), (3, .int (nI (ld_ix i))), (4, .int (nI (ld_ix n))), (5, .ref (ad (4 + (ld_ix k))))]) rfl ?_
              obtain ⟨hfi_, hn3_, hn4_, hn35_⟩ := ld_ftf_ok (n := ld_ix n) (by omega) c10
              obtain ⟨m, em_⟩ : ∃ m, ld_ix n = 3 + 4 * m := ⟨(ld_ix n - 3) / 4, by omega⟩
              rw [em_]
              refine ld_aload_n O (pc := 110) 0 dX2_street_110 rfl rfl ?_
              refine ld_g_LD_now O (pc := 111) ld_w15 dX2_street_111 ?_
              refine ld_aload O (pc := 114) 5 dX2_street_114 rfl ?_
              refine ld_g_S_cellsN O (pc := 116) (by omega) (List.mem_of_getElem? (i := 11) rfl) dX2_street_116 ?_
              refine ld_iload_n O (pc := 119) 3 dX2_street_119 rfl rfl ?_
              refine ld_iload O (pc := 120) 4 dX2_street_120 rfl ?_
              refine ld_callVNv O (pc := 122) (As := [.ref (ad (9 + (16 + (ld_ix k)))), .int (nI (ld_ix i)), .int (nI (3 + 4 * m))]) (st := []) ld_recv1 (c_X1_beginByText l ad (us σ 102 (fun _ => nI 0)) (ld_ix k) (by omega) (ld_ix i) m (by omega) (by omega) (by omega)) ld_mw_X1_beginByText (List.mem_of_getElem? (i := 16) rfl) rfl rfl ⟨by decide, by decide⟩ (Nat.le_of_ble_eq_true rfl) dX2_street_122 (fun σ_p122 h_p122 => ?_)
              obtain ⟨k0_p122, k1_p122, k2_p122, k3_p122, hσ_p122, hk_p122⟩ := h_p122
              rw [hσ_p122]
              try simp (disch := omega) only [us_ne, us_eq]
              try simp (disch := omega) only [us_ne, us_eq] at hk_p122
              show K (us (us (us (us (us (us (us (us σ 102 (fun _ => nI 0)) 111 (fun _ => (σ (16 + (ld_ix k)) ((ld_ix i) + 1) - nI 48) * nI 10 + σ (16 + (ld_ix k)) ((ld_ix i) + 2) - nI 48)) 112 (fun _ => nI 0)) 110 (fun _ => nI m)) 0 k0_p122) 1 k1_p122) 2 k2_p122) 3 k3_p122) [(0, .ref (ad 0)), (1, .int (nI (ld_ix k))), (2, .int lane), (3, .int (nI (ld_ix i))), (4, .int (nI (3 + 4 * m))), (5, .ref (ad (4 + (ld_ix k))))] [] 125
              refine ld_aload_n O (pc := 125) 0 dX2_street_125 rfl rfl ?_
              refine ld_iconst O (pc := 126) (v := nI 0) dX2_street_126 (by decide) ?_
              refine ld_p_LD_readings O (pc := 127) ld_w22 dX2_street_127 ?_
              refine ld_aload_n O (pc := 130) 0 dX2_street_130 rfl rfl ?_
              refine ld_g_LD_now O (pc := 131) ld_w15 dX2_street_131 ?_
              refine ld_g_now_housesN O (pc := 134) (v := nI m) (List.mem_of_getElem? (i := 1) rfl) rfl dX2_street_134 ?_
              refine ld_ireti E dX2_street_137 ?_
              refine ⟨?_, fun _ => nI 0, ?_, Or.inl ⟨⟨⟨by omega, by omega, by omega, by omega, by omega⟩, by assumption⟩, m, k0_p122, k1_p122, k2_p122, k3_p122, em_, by omega, by omega, rfl, hk_p122⟩⟩
              · unfold ld_fSt
                try dsimp only
                rw [if_pos (by omega), if_pos (by omega), if_pos (by omega), if_neg (by omega), if_neg (by omega), if_pos (by assumption), em_, show (3 + 4 * m - 3) / 4 = m by omega]
              · unfold ld_fSt
                try dsimp only
                rw [if_pos (by omega), if_pos (by omega), if_pos (by omega), if_neg (by omega), if_neg (by omega), if_pos (by assumption)]
            · refine ld_bipush O (pc := 104) (v := (-100 : Int32)) dX2_street_104 (by decide) ?_
              refine ld_iload O (pc := 106) 0 dX2_street_106 rfl ?_
              refine ld_isub O (pc := 108) dX2_street_108 ?_
              refine ld_ireti E dX2_street_109 ?_
              refine ⟨?_, fun _ => nI 0, ?_, Or.inr ⟨?_, ?_⟩⟩
              · unfold ld_fSt
                try dsimp only
                repeat' split
                all_goals first | (exfalso; omega) | rfl
              · unfold ld_fSt
                try dsimp only
                repeat' split
                all_goals first | (exfalso; omega) | rfl
              · exact fun z => by have z1 := z.1.1; have z2 := z.1.2.1; have z3 := z.1.2.2; have z4 := z.2; (try dsimp only at z4); omega
              · funext b_
                by_cases h0_ : b_ = 102
                · subst h0_; first | rfl | (simp (disch := omega) only [us_ne, us_eq]; done)
                simp only [us, h0_, if_false]
          · refine ld_iconst O (pc := 69) (v := nI 3) dX2_street_69 (by decide) ?_
            refine ld_istore O (pc := 70) [(6, .int (nI 3)), (5, .ref (ad (4 + (ld_ix k)))), (0, .ref (ad 0)), (1, .int (nI (ld_ix k))), (2, .int lane), (3, .int i), (4, .int n)] dX2_street_70 (by decide) rfl ?_
            refine ld_iload O (pc := 72) 0 dX2_street_72 rfl ?_
            refine ld_if_eq O (pc := 74) 3 (by decide) 84 dX2_street_74 (by decide) (fun z => absurd z (by decide)) (fun _ => ?_)
            refine ld_aload_n O (pc := 77) 2 dX2_street_77 rfl rfl ?_
            refine ld_iload O (pc := 78) 0 dX2_street_78 rfl ?_
            refine ld_callVi O (pc := 80) (As := [.int (nI 3)]) (st := []) ld_recv0 (c_X2_fails l ad (us σ 102 (fun _ => nI 0)) (nI 3)) ld_mw_X2_fails ld_w89 rfl rfl ⟨by decide, by decide⟩ (Nat.le_of_ble_eq_true rfl) dX2_street_80 (fun r_p80 σ_p80 h_p80 => ?_)
            obtain ⟨rfl, hσ_p80⟩ := h_p80
            rw [hσ_p80]
            show K (us (us σ 102 (fun _ => nI 0)) 102 (fun _ => nI 3)) [(6, .int (nI 3)), (5, .ref (ad (4 + (ld_ix k)))), (0, .ref (ad 0)), (1, .int (nI (ld_ix k))), (2, .int lane), (3, .int i), (4, .int n)] [.int ((-10 : Int32) - (nI 3))] 83
            refine ld_ireti E dX2_street_83 ?_
            refine ⟨?_, fun _ => nI 3, ?_, Or.inr ⟨?_, ?_⟩⟩
            · unfold ld_fSt
              try dsimp only
              repeat' split
              all_goals first | (exfalso; omega) | rfl
            · unfold ld_fSt
              try dsimp only
              repeat' split
              all_goals first | (exfalso; omega) | rfl
            · exact fun z => by have z1 := z.1.1; have z2 := z.1.2.1; have z3 := z.1.2.2; have z4 := z.2; (try dsimp only at z4); omega
            · funext b_
              by_cases h0_ : b_ = 102
              · subst h0_; first | rfl | (simp (disch := omega) only [us_ne, us_eq]; done)
              simp only [us, h0_, if_false]
        · refine ld_iconst O (pc := 50) (v := nI 4) dX2_street_50 (by decide) ?_
          refine ld_istore O (pc := 51) [(6, .int (nI 4)), (5, .ref (ad (4 + (ld_ix k)))), (0, .ref (ad 0)), (1, .int (nI (ld_ix k))), (2, .int lane), (3, .int i), (4, .int n)] dX2_street_51 (by decide) rfl ?_
          refine ld_iload O (pc := 53) 0 dX2_street_53 rfl ?_
          refine ld_if_ne O (pc := 55) 4 (by decide) 72 dX2_street_55 (by decide) (fun _ => ?_) (fun z => absurd z (by decide))
          refine ld_iload O (pc := 72) 0 dX2_street_72 rfl ?_
          refine ld_if_eq O (pc := 74) 4 (by decide) 84 dX2_street_74 (by decide) (fun z => absurd z (by decide)) (fun _ => ?_)
          refine ld_aload_n O (pc := 77) 2 dX2_street_77 rfl rfl ?_
          refine ld_iload O (pc := 78) 0 dX2_street_78 rfl ?_
          refine ld_callVi O (pc := 80) (As := [.int (nI 4)]) (st := []) ld_recv0 (c_X2_fails l ad (us σ 102 (fun _ => nI 0)) (nI 4)) ld_mw_X2_fails ld_w89 rfl rfl ⟨by decide, by decide⟩ (Nat.le_of_ble_eq_true rfl) dX2_street_80 (fun r_p80 σ_p80 h_p80 => ?_)
          obtain ⟨rfl, hσ_p80⟩ := h_p80
          rw [hσ_p80]
          show K (us (us σ 102 (fun _ => nI 0)) 102 (fun _ => nI 4)) [(6, .int (nI 4)), (5, .ref (ad (4 + (ld_ix k)))), (0, .ref (ad 0)), (1, .int (nI (ld_ix k))), (2, .int lane), (3, .int i), (4, .int n)] [.int ((-10 : Int32) - (nI 4))] 83
          refine ld_ireti E dX2_street_83 ?_
          refine ⟨?_, fun _ => nI 4, ?_, Or.inr ⟨?_, ?_⟩⟩
          · unfold ld_fSt
            try dsimp only
            repeat' split
            all_goals first | (exfalso; omega) | rfl
          · unfold ld_fSt
            try dsimp only
            repeat' split
            all_goals first | (exfalso; omega) | rfl
          · exact fun z => by have z1 := z.1.1; have z2 := z.1.2.1; have z3 := z.1.2.2; have z4 := z.2; (try dsimp only at z4); omega
          · funext b_
            by_cases h0_ : b_ = 102
            · subst h0_; first | rfl | (simp (disch := omega) only [us_ne, us_eq]; done)
            simp only [us, h0_, if_false]
    · refine ld_bipush O (pc := 21) (v := (-2 : Int32)) dX2_street_21 (by decide) ?_
      refine ld_ireti E dX2_street_23 ?_
      refine ⟨?_, fun _ => nI 0, ?_, Or.inr ⟨?_, ?_⟩⟩
      · unfold ld_fSt
        try dsimp only
        repeat' split
        all_goals first | (exfalso; omega) | rfl
      · unfold ld_fSt
        try dsimp only
        repeat' split
        all_goals first | (exfalso; omega) | rfl
      · exact fun z => by have z1 := z.1.1; have z2 := z.1.2.1; have z3 := z.1.2.2; have z4 := z.2; (try dsimp only at z4); omega
      · funext b_
        by_cases h0_ : b_ = 102
        · subst h0_; first | rfl | (simp (disch := omega) only [us_ne, us_eq]; done)
        simp only [us, h0_, if_false]
  · refine ld_iconst O (pc := 12) (v := (-1 : Int32)) dX2_street_12 (by decide) ?_
    refine ld_ireti E dX2_street_13 ?_
    refine ⟨?_, fun _ => nI 0, ?_, Or.inr ⟨?_, ?_⟩⟩
    · unfold ld_fSt
      try dsimp only
      repeat' split
      all_goals first | (exfalso; omega) | rfl
    · unfold ld_fSt
      try dsimp only
      repeat' split
      all_goals first | (exfalso; omega) | rfl
    · exact fun z => by have z1 := z.1.1; have z2 := z.1.2.1; have z3 := z.1.2.2; have z4 := z.2; (try dsimp only at z4); omega
    · funext b_
      by_cases h0_ : b_ = 102
      · subst h0_; first | rfl | (simp (disch := omega) only [us_ne, us_eq]; done)
      simp only [us, h0_, if_false]
set_option maxHeartbeats 4000000 in
set_option maxRecDepth 100000 in
theorem c_X2_season (l : Launch) (ad : Nat → Nat) (σ : ld_St) (h : Nat) (hh : σ 110 0 = nI h) (h8 : h ≤ 8) (hS : ∀ x, x < 4 → -1 ≤ (σ 131 x).toInt ∧ (σ 131 x).toInt ≤ 60) (k lane i n what : Int32) : ld_Ctr l yX2_season cX2_season 10 (some .int) (6, 136) [.ref (ad 0), .int k, .int lane, .int i, .int n, .int what] ad σ (ld_I (fun (r : Int32) (σ2 : ld_St) => r = (ld_fSe (σ 131) (σ 130) (fun z => σ (16 + z)) h (σ 0) (σ 111 0, (σ 1, σ 2, σ 3), nI 0) k lane i n what).1 ∧ ∃ f g120 g121 g122 g123 g7 g8 g9 g10 g11 g12 g13 : Nat → Int32, f 0 = (ld_fSe (σ 131) (σ 130) (fun z => σ (16 + z)) h (σ 0) (σ 111 0, (σ 1, σ 2, σ 3), nI 0) k lane i n what).2 ∧ σ2 = us (us (us (us (us (us (us (us (us (us (us (us σ 102 f) 120 g120) 121 g121) 122 g122) 123 g123) 7 g7) 8 g8) 9 g9) 10 g10) 11 g11) 12 g12) 13 g13)) := by
  refine ld_entry (by decide +kernel) (Nat.le_of_ble_eq_true rfl) (fun K O E => ?_)
  have O : ld_Ok l K ad cX2_season 10 RX2 (ld_rm (6, 136)) := O
  show K σ [(0, .ref (ad 0)), (1, .int k), (2, .int lane), (3, .int i), (4, .int n), (5, .int what)] [] 0
  refine ld_aload_n O (pc := 0) 0 dX2_season_0 rfl rfl ?_
  refine ld_iconst O (pc := 1) (v := nI 0) dX2_season_1 (by decide) ?_
  refine ld_p_LD_lastFault O (pc := 2) ld_w24 dX2_season_2 ?_
  refine ld_iload_n O (pc := 5) 1 dX2_season_5 rfl rfl ?_
  refine ld_callSi O (pc := 6) (As := [.int k]) (st := []) (c_X2_isSheet l ad (us σ 102 (fun _ => nI 0)) k) ld_mw_X2_isSheet ld_w73 rfl rfl ⟨by decide, by decide⟩ (Nat.le_of_ble_eq_true rfl) dX2_season_6 (fun r_p6 σ_p6 h_p6 => ?_)
  obtain ⟨rfl, hσ_p6⟩ := h_p6
  rw [hσ_p6]
  show K (us σ 102 (fun _ => nI 0)) [(0, .ref (ad 0)), (1, .int k), (2, .int lane), (3, .int i), (4, .int n), (5, .int what)] [.int (ld_b (0 ≤ (k).toInt ∧ (k).toInt < 4))] 9
  refine ld_ifb_ne O (pc := 9) 14 dX2_season_9 (by decide) (fun c1 => ?_) (fun c1 => ?_)
  · obtain ⟨ek_k, hk_k, ik_k⟩ := ld_ofIx (k := k) (h := 4) (by omega)
    rw [ek_k]
    refine ld_iload_n O (pc := 14) 2 dX2_season_14 rfl rfl ?_
    refine ld_callSi O (pc := 15) (As := [.int lane]) (st := []) (c_X2_isLane l ad (us σ 102 (fun _ => nI 0)) lane) ld_mw_X2_isLane ld_w76 rfl rfl ⟨by decide, by decide⟩ (Nat.le_of_ble_eq_true rfl) dX2_season_15 (fun r_p15 σ_p15 h_p15 => ?_)
    obtain ⟨rfl, hσ_p15⟩ := h_p15
    rw [hσ_p15]
    show K (us σ 102 (fun _ => nI 0)) [(0, .ref (ad 0)), (1, .int (nI (ld_ix k))), (2, .int lane), (3, .int i), (4, .int n), (5, .int what)] [.int (ld_b (0 ≤ (lane).toInt ∧ (lane).toInt < 3))] 18
    refine ld_ifb_eq O (pc := 18) 41 dX2_season_18 (by decide) (fun c2 => ?_) (fun c2 => ?_)
    · refine ld_bipush O (pc := 41) (v := (-2 : Int32)) dX2_season_41 (by decide) ?_
      refine ld_ireti E dX2_season_43 ?_
      refine ⟨?_, fun _ => nI 0, σ 120, σ 121, σ 122, σ 123, σ 7, σ 8, σ 9, σ 10, σ 11, σ 12, σ 13, ?_, ?_⟩
      · unfold ld_fSe
        try dsimp only
        repeat' split
        all_goals first | (exfalso; omega) | rfl
      · unfold ld_fSe
        try dsimp only
        repeat' split
        all_goals first | (exfalso; omega) | rfl
      · funext b_
        by_cases h0_ : b_ = 102
        · subst h0_; first | rfl | (simp (disch := omega) only [us_ne, us_eq]; done)
        by_cases h1_ : b_ = 120
        · subst h1_; first | rfl | (simp (disch := omega) only [us_ne, us_eq]; done)
        by_cases h2_ : b_ = 121
        · subst h2_; first | rfl | (simp (disch := omega) only [us_ne, us_eq]; done)
        by_cases h3_ : b_ = 122
        · subst h3_; first | rfl | (simp (disch := omega) only [us_ne, us_eq]; done)
        by_cases h4_ : b_ = 123
        · subst h4_; first | rfl | (simp (disch := omega) only [us_ne, us_eq]; done)
        by_cases h5_ : b_ = 7
        · subst h5_; first | rfl | (simp (disch := omega) only [us_ne, us_eq]; done)
        by_cases h6_ : b_ = 8
        · subst h6_; first | rfl | (simp (disch := omega) only [us_ne, us_eq]; done)
        by_cases h7_ : b_ = 9
        · subst h7_; first | rfl | (simp (disch := omega) only [us_ne, us_eq]; done)
        by_cases h8_ : b_ = 10
        · subst h8_; first | rfl | (simp (disch := omega) only [us_ne, us_eq]; done)
        by_cases h9_ : b_ = 11
        · subst h9_; first | rfl | (simp (disch := omega) only [us_ne, us_eq]; done)
        by_cases h10_ : b_ = 12
        · subst h10_; first | rfl | (simp (disch := omega) only [us_ne, us_eq]; done)
        by_cases h11_ : b_ = 13
        · subst h11_; first | rfl | (simp (disch := omega) only [us_ne, us_eq]; done)
        simp only [us, h0_, h1_, h2_, h3_, h4_, h5_, h6_, h7_, h8_, h9_, h10_, h11_, if_false]
    · refine ld_iload O (pc := 21) 4 dX2_season_21 rfl ?_
      refine ld_if_lt O (pc := 23) (n).toInt rfl 41 dX2_season_23 (by decide) (fun c3 => ?_) (fun c3 => ?_)
      · refine ld_bipush O (pc := 41) (v := (-2 : Int32)) dX2_season_41 (by decide) ?_
        refine ld_ireti E dX2_season_43 ?_
        refine ⟨?_, fun _ => nI 0, σ 120, σ 121, σ 122, σ 123, σ 7, σ 8, σ 9, σ 10, σ 11, σ 12, σ 13, ?_, ?_⟩
        · unfold ld_fSe
          try dsimp only
          repeat' split
          all_goals first | (exfalso; omega) | rfl
        · unfold ld_fSe
          try dsimp only
          repeat' split
          all_goals first | (exfalso; omega) | rfl
        · funext b_
          by_cases h0_ : b_ = 102
          · subst h0_; first | rfl | (simp (disch := omega) only [us_ne, us_eq]; done)
          by_cases h1_ : b_ = 120
          · subst h1_; first | rfl | (simp (disch := omega) only [us_ne, us_eq]; done)
          by_cases h2_ : b_ = 121
          · subst h2_; first | rfl | (simp (disch := omega) only [us_ne, us_eq]; done)
          by_cases h3_ : b_ = 122
          · subst h3_; first | rfl | (simp (disch := omega) only [us_ne, us_eq]; done)
          by_cases h4_ : b_ = 123
          · subst h4_; first | rfl | (simp (disch := omega) only [us_ne, us_eq]; done)
          by_cases h5_ : b_ = 7
          · subst h5_; first | rfl | (simp (disch := omega) only [us_ne, us_eq]; done)
          by_cases h6_ : b_ = 8
          · subst h6_; first | rfl | (simp (disch := omega) only [us_ne, us_eq]; done)
          by_cases h7_ : b_ = 9
          · subst h7_; first | rfl | (simp (disch := omega) only [us_ne, us_eq]; done)
          by_cases h8_ : b_ = 10
          · subst h8_; first | rfl | (simp (disch := omega) only [us_ne, us_eq]; done)
          by_cases h9_ : b_ = 11
          · subst h9_; first | rfl | (simp (disch := omega) only [us_ne, us_eq]; done)
          by_cases h10_ : b_ = 12
          · subst h10_; first | rfl | (simp (disch := omega) only [us_ne, us_eq]; done)
          by_cases h11_ : b_ = 13
          · subst h11_; first | rfl | (simp (disch := omega) only [us_ne, us_eq]; done)
          simp only [us, h0_, h1_, h2_, h3_, h4_, h5_, h6_, h7_, h8_, h9_, h10_, h11_, if_false]
      · refine ld_iload O (pc := 26) 4 dX2_season_26 rfl ?_
        refine ld_bipush O (pc := 28) (v := nI 20) dX2_season_28 (by decide) ?_
        refine ld_icmp_gt O (pc := 30) (n).toInt 20 rfl (by decide) 41 dX2_season_30 (by decide) (fun c4 => ?_) (fun c4 => ?_)
        · refine ld_bipush O (pc := 41) (v := (-2 : Int32)) dX2_season_41 (by decide) ?_
          refine ld_ireti E dX2_season_43 ?_
          refine ⟨?_, fun _ => nI 0, σ 120, σ 121, σ 122, σ 123, σ 7, σ 8, σ 9, σ 10, σ 11, σ 12, σ 13, ?_, ?_⟩
          · unfold ld_fSe
            try dsimp only
            repeat' split
            all_goals first | (exfalso; omega) | rfl
          · unfold ld_fSe
            try dsimp only
            repeat' split
            all_goals first | (exfalso; omega) | rfl
          · funext b_
            by_cases h0_ : b_ = 102
            · subst h0_; first | rfl | (simp (disch := omega) only [us_ne, us_eq]; done)
            by_cases h1_ : b_ = 120
            · subst h1_; first | rfl | (simp (disch := omega) only [us_ne, us_eq]; done)
            by_cases h2_ : b_ = 121
            · subst h2_; first | rfl | (simp (disch := omega) only [us_ne, us_eq]; done)
            by_cases h3_ : b_ = 122
            · subst h3_; first | rfl | (simp (disch := omega) only [us_ne, us_eq]; done)
            by_cases h4_ : b_ = 123
            · subst h4_; first | rfl | (simp (disch := omega) only [us_ne, us_eq]; done)
            by_cases h5_ : b_ = 7
            · subst h5_; first | rfl | (simp (disch := omega) only [us_ne, us_eq]; done)
            by_cases h6_ : b_ = 8
            · subst h6_; first | rfl | (simp (disch := omega) only [us_ne, us_eq]; done)
            by_cases h7_ : b_ = 9
            · subst h7_; first | rfl | (simp (disch := omega) only [us_ne, us_eq]; done)
            by_cases h8_ : b_ = 10
            · subst h8_; first | rfl | (simp (disch := omega) only [us_ne, us_eq]; done)
            by_cases h9_ : b_ = 11
            · subst h9_; first | rfl | (simp (disch := omega) only [us_ne, us_eq]; done)
            by_cases h10_ : b_ = 12
            · subst h10_; first | rfl | (simp (disch := omega) only [us_ne, us_eq]; done)
            by_cases h11_ : b_ = 13
            · subst h11_; first | rfl | (simp (disch := omega) only [us_ne, us_eq]; done)
            simp only [us, h0_, h1_, h2_, h3_, h4_, h5_, h6_, h7_, h8_, h9_, h10_, h11_, if_false]
        · refine ld_iload O (pc := 33) 5 dX2_season_33 rfl ?_
          refine ld_callSi O (pc := 35) (As := [.int what]) (st := []) (c_X2_isAskedOfSeason l ad (us σ 102 (fun _ => nI 0)) what) ld_mw_X2_isAskedOfSeason ld_w307 rfl rfl ⟨by decide, by decide⟩ (Nat.le_of_ble_eq_true rfl) dX2_season_35 (fun r_p35 σ_p35 h_p35 => ?_)
          obtain ⟨rfl, hσ_p35⟩ := h_p35
          rw [hσ_p35]
          show K (us σ 102 (fun _ => nI 0)) [(0, .ref (ad 0)), (1, .int (nI (ld_ix k))), (2, .int lane), (3, .int i), (4, .int n), (5, .int what)] [.int (ld_b ((0 ≤ (what).toInt ∧ (what).toInt ≤ 4) ∨ (10 ≤ (what).toInt ∧ (what).toInt < 18)))] 38
          refine ld_ifb_ne O (pc := 38) 44 dX2_season_38 (by decide) (fun c5 => ?_) (fun c5 => ?_)
          · obtain ⟨ek_n, hk_n, ik_n⟩ := ld_ofIx (k := n) (h := 21) (by omega)
            rw [ek_n]
            refine ld_aload_n O (pc := 44) 0 dX2_season_44 rfl rfl ?_
            refine ld_callVi O (pc := 45) (As := []) (st := []) ld_recv0 (c_X2_hasStreet l ad (us σ 102 (fun _ => nI 0)) h hh h8) ld_mw_X2_hasStreet ld_w229 rfl rfl ⟨by decide, by decide⟩ (Nat.le_of_ble_eq_true rfl) dX2_season_45 (fun r_p45 σ_p45 h_p45 => ?_)
            obtain ⟨rfl, hσ_p45⟩ := h_p45
            rw [hσ_p45]
            show K (us σ 102 (fun _ => nI 0)) [(0, .ref (ad 0)), (1, .int (nI (ld_ix k))), (2, .int lane), (3, .int i), (4, .int (nI (ld_ix n))), (5, .int what)] [.int (ld_b (0 < h))] 48
            refine ld_ifb_ne O (pc := 48) 54 dX2_season_48 (by decide) (fun c6 => ?_) (fun c6 => ?_)
            · refine ld_aload_n O (pc := 54) 0 dX2_season_54 rfl rfl ?_
              refine ld_g_LD_sheets O (pc := 55) ld_w18 dX2_season_55 ?_
              refine ld_iload_n O (pc := 58) 1 dX2_season_58 rfl rfl ?_
              refine ld_aald O (pc := 59) (ld_ix k) rfl (by omega) dX2_season_59 ?_
              refine ld_astore O (pc := 60) [(6, .ref (ad (4 + (ld_ix k)))), (0, .ref (ad 0)), (1, .int (nI (ld_ix k))), (2, .int lane), (3, .int i), (4, .int (nI (ld_ix n))), (5, .int what)] dX2_season_60 (by decide) rfl ?_
              refine ld_aload O (pc := 62) 0 dX2_season_62 rfl ?_
              refine ld_iload_n O (pc := 64) 3 dX2_season_64 rfl rfl ?_
              refine ld_callVNi O (pc := 65) (As := [.int lane]) (st := []) (ld_recvS (by omega)) (c_X0_faultAs l ad (us σ 102 (fun _ => nI 0)) (ld_ix k) (by omega) lane) ld_mw_X0_faultAs (List.mem_of_getElem? (i := 14) rfl) rfl rfl ⟨by decide, by decide⟩ (Nat.le_of_ble_eq_true rfl) dX2_season_65 (fun r_p65 σ_p65 h_p65 => ?_)
              obtain ⟨rfl, hσ_p65⟩ := h_p65
              rw [hσ_p65]
              show K (us σ 102 (fun _ => nI 0)) [(6, .ref (ad (4 + (ld_ix k)))), (0, .ref (ad 0)), (1, .int (nI (ld_ix k))), (2, .int lane), (3, .int i), (4, .int (nI (ld_ix n))), (5, .int what)] [.int (ld_fa (σ 131 (ld_ix k)) (σ 130 (ld_ix k)) lane)] 68
              refine ld_istore O (pc := 68) [(7, .int (ld_fa (σ 131 (ld_ix k)) (σ 130 (ld_ix k)) lane)), (6, .ref (ad (4 + (ld_ix k)))), (0, .ref (ad 0)), (1, .int (nI (ld_ix k))), (2, .int lane), (3, .int i), (4, .int (nI (ld_ix n))), (5, .int what)] dX2_season_68 (by decide) rfl ?_
              refine ld_iload O (pc := 70) 0 dX2_season_70 rfl ?_
              refine ld_if_ne O (pc := 72) (ld_fa (σ 131 (ld_ix k)) (σ 130 (ld_ix k)) lane).toInt rfl 91 dX2_season_72 (by decide) (fun c7 => ?_) (fun c7 => ?_)
              · refine ld_iload O (pc := 91) 0 dX2_season_91 rfl ?_
                refine ld_if_eq O (pc := 93) (ld_fa (σ 131 (ld_ix k)) (σ 130 (ld_ix k)) lane).toInt rfl 103 dX2_season_93 (by decide) (fun z => absurd z c7) (fun c8 => ?_)
                refine ld_aload_n O (pc := 96) 2 dX2_season_96 rfl rfl ?_
                refine ld_iload O (pc := 97) 0 dX2_season_97 rfl ?_
                refine ld_callVi O (pc := 99) (As := [.int (ld_fa (σ 131 (ld_ix k)) (σ 130 (ld_ix k)) lane)]) (st := []) ld_recv0 (c_X2_fails l ad (us σ 102 (fun _ => nI 0)) (ld_fa (σ 131 (ld_ix k)) (σ 130 (ld_ix k)) lane)) ld_mw_X2_fails ld_w89 rfl rfl ⟨by decide, by decide⟩ (Nat.le_of_ble_eq_true rfl) dX2_season_99 (fun r_p99 σ_p99 h_p99 => ?_)
                obtain ⟨rfl, hσ_p99⟩ := h_p99
                rw [hσ_p99]
                show K (us (us σ 102 (fun _ => nI 0)) 102 (fun _ => ld_fa (σ 131 (ld_ix k)) (σ 130 (ld_ix k)) lane)) [(7, .int (ld_fa (σ 131 (ld_ix k)) (σ 130 (ld_ix k)) lane)), (6, .ref (ad (4 + (ld_ix k)))), (0, .ref (ad 0)), (1, .int (nI (ld_ix k))), (2, .int lane), (3, .int i), (4, .int (nI (ld_ix n))), (5, .int what)] [.int ((-10 : Int32) - (ld_fa (σ 131 (ld_ix k)) (σ 130 (ld_ix k)) lane))] 102
                refine ld_ireti E dX2_season_102 ?_
                refine ⟨?_, fun _ => ld_fa (σ 131 (ld_ix k)) (σ 130 (ld_ix k)) lane, σ 120, σ 121, σ 122, σ 123, σ 7, σ 8, σ 9, σ 10, σ 11, σ 12, σ 13, ?_, ?_⟩
                · unfold ld_fSe
                  try dsimp only
                  repeat' split
                  all_goals first | (exfalso; omega) | rfl
                · unfold ld_fSe
                  try dsimp only
                  repeat' split
                  all_goals first | (exfalso; omega) | rfl
                · funext b_
                  by_cases h0_ : b_ = 102
                  · subst h0_; first | rfl | (simp (disch := omega) only [us_ne, us_eq]; done)
                  by_cases h1_ : b_ = 120
                  · subst h1_; first | rfl | (simp (disch := omega) only [us_ne, us_eq]; done)
                  by_cases h2_ : b_ = 121
                  · subst h2_; first | rfl | (simp (disch := omega) only [us_ne, us_eq]; done)
                  by_cases h3_ : b_ = 122
                  · subst h3_; first | rfl | (simp (disch := omega) only [us_ne, us_eq]; done)
                  by_cases h4_ : b_ = 123
                  · subst h4_; first | rfl | (simp (disch := omega) only [us_ne, us_eq]; done)
                  by_cases h5_ : b_ = 7
                  · subst h5_; first | rfl | (simp (disch := omega) only [us_ne, us_eq]; done)
                  by_cases h6_ : b_ = 8
                  · subst h6_; first | rfl | (simp (disch := omega) only [us_ne, us_eq]; done)
                  by_cases h7_ : b_ = 9
                  · subst h7_; first | rfl | (simp (disch := omega) only [us_ne, us_eq]; done)
                  by_cases h8_ : b_ = 10
                  · subst h8_; first | rfl | (simp (disch := omega) only [us_ne, us_eq]; done)
                  by_cases h9_ : b_ = 11
                  · subst h9_; first | rfl | (simp (disch := omega) only [us_ne, us_eq]; done)
                  by_cases h10_ : b_ = 12
                  · subst h10_; first | rfl | (simp (disch := omega) only [us_ne, us_eq]; done)
                  by_cases h11_ : b_ = 13
                  · subst h11_; first | rfl | (simp (disch := omega) only [us_ne, us_eq]; done)
                  simp only [us, h0_, h1_, h2_, h3_, h4_, h5_, h6_, h7_, h8_, h9_, h10_, h11_, if_false]
              · have hfa_ := ld_fa0 c7
                refine ld_aload O (pc := 75) 1 dX2_season_75 rfl ?_
                refine ld_iload_n O (pc := 77) 5 dX2_season_77 rfl rfl ?_
                refine ld_iconst O (pc := 78) (v := nI 2) dX2_season_78 (by decide) ?_
                refine ld_iload O (pc := 79) 6 dX2_season_79 rfl ?_
                refine ld_imulN O (pc := 81) dX2_season_81 ?_
                refine ld_callVNi O (pc := 82) (As := [.int i, .int (nI (2 * (ld_ix n)))]) (st := []) (ld_recvS (by omega)) (c_X0_lacks l ad (us σ 102 (fun _ => nI 0)) (ld_ix k) (by omega) (show 0 ≤ (σ 131 (ld_ix k)).toInt by have := hS _ (show (ld_ix k) < 4 by omega); omega) (show (σ 131 (ld_ix k)).toInt ≤ 60 by have := hS _ (show (ld_ix k) < 4 by omega); omega) i (nI (2 * (ld_ix n)))) ld_mw_X0_lacks (List.mem_of_getElem? (i := 15) rfl) rfl rfl ⟨by decide, by decide⟩ (Nat.le_of_ble_eq_true rfl) dX2_season_82 (fun r_p82 σ_p82 h_p82 => ?_)
                obtain ⟨rfl, hσ_p82⟩ := h_p82
                rw [hσ_p82]
                show K (us σ 102 (fun _ => nI 0)) [(7, .int (ld_fa (σ 131 (ld_ix k)) (σ 130 (ld_ix k)) lane)), (6, .ref (ad (4 + (ld_ix k)))), (0, .ref (ad 0)), (1, .int (nI (ld_ix k))), (2, .int lane), (3, .int i), (4, .int (nI (ld_ix n))), (5, .int what)] [.int (ld_b ((i).toInt < 0 ∨ (nI (2 * (ld_ix n))).toInt < 0 ∨ (σ 131 (ld_ix k)).toInt < (i).toInt + (nI (2 * (ld_ix n))).toInt))] 85
                have e2n_ : (nI (2 * (ld_ix n))).toInt = 2 * n.toInt := by rw [nI_toInt (by omega)]; omega
                refine ld_ifb_eq O (pc := 85) 91 dX2_season_85 (by decide) (fun c9 => ?_) (fun c9 => ?_)
                · refine ld_iload O (pc := 91) 0 dX2_season_91 rfl ?_
                  refine ld_if_eq O (pc := 93) (ld_fa (σ 131 (ld_ix k)) (σ 130 (ld_ix k)) lane).toInt rfl 103 dX2_season_93 (by decide) (fun c10 => ?_) (fun z => absurd c7 z)
                  have hs1_ := hS _ hk_k
                  obtain ⟨ek_i, hk_i, ik_i⟩ := ld_ofIx (k := i) (h := 61) (by omega)
                  rw [ek_i]
                  refine ld_aload_n O (pc := 103) 2 dX2_season_103 rfl rfl ?_
                  refine ld_aload O (pc := 104) 1 dX2_season_104 rfl ?_
                  refine ld_g_S_cellsN O (pc := 106) (by omega) (List.mem_of_getElem? (i := 11) rfl) dX2_season_106 ?_
                  refine ld_iload_n O (pc := 109) 5 dX2_season_109 rfl rfl ?_
                  refine ld_iload O (pc := 110) 6 dX2_season_110 rfl ?_
                  refine ld_callVi O (pc := 112) (As := [.ref (ad (9 + (16 + (ld_ix k)))), .int (nI (ld_ix i)), .int (nI (ld_ix n))]) (st := []) ld_recv0 (c_X2_refusalOfPairs l ad (us σ 102 (fun _ => nI 0)) h hh h8 (ld_ix k) (by omega) (ld_ix i) (ld_ix n) (by omega)) ld_mw_X2_refusalOfPairs ld_w310 rfl rfl ⟨by decide, by decide⟩ (Nat.le_of_ble_eq_true rfl) dX2_season_112 (fun r_p112 σ_p112 h_p112 => ?_)
                  obtain ⟨rfl, hσ_p112⟩ := h_p112
                  rw [hσ_p112]
                  try simp (disch := omega) only [us_ne, us_eq]
                  show K (us σ 102 (fun _ => nI 0)) [(7, .int (ld_fa (σ 131 (ld_ix k)) (σ 130 (ld_ix k)) lane)), (6, .ref (ad (4 + (ld_ix k)))), (0, .ref (ad 0)), (1, .int (nI (ld_ix k))), (2, .int lane), (3, .int (nI (ld_ix i))), (4, .int (nI (ld_ix n))), (5, .int what)] [.int (ld_rps h (fun z => σ (16 + (ld_ix k)) ((ld_ix i) + z)) (ld_ix n))] 115
                  refine ld_istore O (pc := 115) [(8, .int (ld_rps h (fun z => σ (16 + (ld_ix k)) ((ld_ix i) + z)) (ld_ix n))), (7, .int (ld_fa (σ 131 (ld_ix k)) (σ 130 (ld_ix k)) lane)), (6, .ref (ad (4 + (ld_ix k)))), (0, .ref (ad 0)), (1, .int (nI (ld_ix k))), (2, .int lane), (3, .int (nI (ld_ix i))), (4, .int (nI (ld_ix n))), (5, .int what)] dX2_season_115 (by decide) rfl ?_
                  refine ld_iload O (pc := 117) 0 dX2_season_117 rfl ?_
                  refine ld_if_eq O (pc := 119) (ld_rps h (fun z => σ (16 + (ld_ix k)) ((ld_ix i) + z)) (ld_ix n)).toInt rfl 125 dX2_season_119 (by decide) (fun c11 => ?_) (fun c11 => ?_)
                  · have hz_ := c11
                    refine ld_aload_n O (pc := 125) 3 dX2_season_125 rfl rfl ?_
                    refine ld_g_LD_trial O (pc := 126) ld_w16 dX2_season_126 ?_
                    refine ld_aload_n O (pc := 129) 3 dX2_season_129 rfl rfl ?_
                    refine ld_g_LD_now O (pc := 130) ld_w15 dX2_season_130 ?_
                    refine ld_callVNv O (pc := 133) (As := [.ref (ad 1)]) (st := []) ld_recv2 (c_X1_becomeLike l ad (us σ 102 (fun _ => nI 0)) h hh h8) ld_mw_X1_becomeLike (List.mem_of_getElem? (i := 24) rfl) rfl rfl ⟨by decide, by decide⟩ (Nat.le_of_ble_eq_true rfl) dX2_season_133 (fun σ_p133 h_p133 => ?_)
                    obtain ⟨k7_p133, k8_p133, k9_p133, k10_p133, hσ_p133, hk_p133⟩ := h_p133
                    rw [hσ_p133]
                    have hk_p133 : ∀ x, x < h → k7_p133 x = σ 0 x ∧ k8_p133 x = σ 1 x ∧ k9_p133 x = σ 2 x ∧ k10_p133 x = σ 3 x := hk_p133
                    show K (us (us (us (us (us (us (us (us (us σ 102 (fun _ => nI 0)) 120 (fun _ => nI h)) 121 (fun _ => σ 111 0)) 122 (fun _ => σ 112 0)) 123 (fun _ => nI 0)) 7 k7_p133) 8 k8_p133) 9 k9_p133) 10 k10_p133) [(8, .int (ld_rps h (fun z => σ (16 + (ld_ix k)) ((ld_ix i) + z)) (ld_ix n))), (7, .int (ld_fa (σ 131 (ld_ix k)) (σ 130 (ld_ix k)) lane)), (6, .ref (ad (4 + (ld_ix k)))), (0, .ref (ad 0)), (1, .int (nI (ld_ix k))), (2, .int lane), (3, .int (nI (ld_ix i))), (4, .int (nI (ld_ix n))), (5, .int what)] [] 136
                    refine ld_aload_n O (pc := 136) 3 dX2_season_136 rfl rfl ?_
                    refine ld_aload O (pc := 137) 2 dX2_season_137 rfl ?_
                    refine ld_g_S_cellsN O (pc := 139) (by omega) (List.mem_of_getElem? (i := 11) rfl) dX2_season_139 ?_
                    refine ld_iload_n O (pc := 142) 6 dX2_season_142 rfl rfl ?_
                    refine ld_iload O (pc := 143) 7 dX2_season_143 rfl ?_
                    refine ld_callVi O (pc := 145) (As := [.ref (ad (9 + (16 + (ld_ix k)))), .int (nI (ld_ix i)), .int (nI (ld_ix n))]) (st := []) ld_recv0 (c_X2_actPairs l ad (us (us (us (us (us (us (us (us (us σ 102 (fun _ => nI 0)) 120 (fun _ => nI h)) 121 (fun _ => σ 111 0)) 122 (fun _ => σ 112 0)) 123 (fun _ => nI 0)) 7 k7_p133) 8 k8_p133) 9 k9_p133) 10 k10_p133) h rfl h8 (ld_ix k) (by omega) (ld_ix i) (ld_ix n) (by omega) (by (try simp (disch := omega) only [us_ne, us_eq]); exact hz_)) ld_mw_X2_actPairs ld_w321 rfl rfl ⟨by decide, by decide⟩ (Nat.le_of_ble_eq_true rfl) dX2_season_145 (fun r_p145 σ_p145 h_p145 => ?_)
                    obtain ⟨rfl, ft_p145, fs_p145, fp_p145, f4_p145, f5_p145, f6_p145, fc_p145, fw_p145, fl_p145, hσ_p145, hq_p145⟩ := h_p145
                    rw [hσ_p145]
                    try simp (disch := omega) only [us_ne, us_eq]
                    try simp (disch := omega) only [us_ne, us_eq] at hq_p145
                    show K (us (us (us (us (us (us (us (us (us (us (us (us (us (us (us (us (us (us σ 102 (fun _ => nI 0)) 120 (fun _ => nI h)) 121 (fun _ => σ 111 0)) 122 (fun _ => σ 112 0)) 123 (fun _ => nI 0)) 7 k7_p133) 8 k8_p133) 9 k9_p133) 10 k10_p133) 8 ft_p145) 9 fs_p145) 10 fp_p145) 11 f4_p145) 12 f5_p145) 13 f6_p145) 121 fc_p145) 122 fw_p145) 123 fl_p145) [(8, .int (ld_rps h (fun z => σ (16 + (ld_ix k)) ((ld_ix i) + z)) (ld_ix n))), (7, .int (ld_fa (σ 131 (ld_ix k)) (σ 130 (ld_ix k)) lane)), (6, .ref (ad (4 + (ld_ix k)))), (0, .ref (ad 0)), (1, .int (nI (ld_ix k))), (2, .int lane), (3, .int (nI (ld_ix i))), (4, .int (nI (ld_ix n))), (5, .int what)] [.int (ld_nv (ld_sn h k7_p133 (fun z => σ (16 + (ld_ix k)) ((ld_ix i) + z)) (σ 111 0, (k8_p133, k9_p133, k10_p133), nI 0) (ld_ix n)).1)] 148
                    have hsn_ := ld_sn_cong (h := h) (kd := k7_p133) (kd2 := σ 0) (C := (fun z => σ (16 + ld_ix k) (ld_ix i + z))) (Q := (σ 111 0, (k8_p133, k9_p133, k10_p133), nI 0)) (U := (σ 111 0, (σ 1, σ 2, σ 3), nI 0)) (n := ld_ix n) (fun y hy => (hk_p133 y hy).1) ⟨rfl, fun y hy => (hk_p133 y hy).2, rfl⟩ (ld_rps_z hz_)
                    rw [show ld_nv (ld_sn h k7_p133 (fun z => σ (16 + (ld_ix k)) ((ld_ix i) + z)) (σ 111 0, (k8_p133, k9_p133, k10_p133), nI 0) (ld_ix n)).1 = ld_nv (ld_sn h (σ 0) (fun z => σ (16 + ld_ix k) (ld_ix i + z)) (σ 111 0, (σ 1, σ 2, σ 3), nI 0) (ld_ix n)).1 by rw [hsn_.1]]
                    refine ld_istore O (pc := 148) [(9, .int (ld_nv (ld_sn h (σ 0) (fun z => σ (16 + ld_ix k) (ld_ix i + z)) (σ 111 0, (σ 1, σ 2, σ 3), nI 0) (ld_ix n)).1)), (8, .int (ld_rps h (fun z => σ (16 + (ld_ix k)) ((ld_ix i) + z)) (ld_ix n))), (7, .int (ld_fa (σ 131 (ld_ix k)) (σ 130 (ld_ix k)) lane)), (6, .ref (ad (4 + (ld_ix k)))), (0, .ref (ad 0)), (1, .int (nI (ld_ix k))), (2, .int lane), (3, .int (nI (ld_ix i))), (4, .int (nI (ld_ix n))), (5, .int what)] dX2_season_148 (by decide) rfl ?_
                    refine ld_iload O (pc := 150) 9 dX2_season_150 rfl ?_
                    refine ld_iconst O (pc := 152) (v := nI 1) dX2_season_152 (by decide) ?_
                    refine ld_icmp_ne O (pc := 153) (what).toInt 1 rfl (by decide) 159 dX2_season_153 (by decide) (fun c12 => ?_) (fun c12 => ?_)
                    · refine ld_iload O (pc := 159) 0 dX2_season_159 rfl ?_
                      refine ld_bipush O (pc := 161) (v := (-9 : Int32)) dX2_season_161 (by decide) ?_
                      refine ld_icmp_ne O (pc := 163) (ld_nv (ld_sn h (σ 0) (fun z => σ (16 + ld_ix k) (ld_ix i + z)) (σ 111 0, (σ 1, σ 2, σ 3), nI 0) (ld_ix n)).1).toInt (-9) rfl (by decide) 175 dX2_season_163 (by decide) (fun c13 => ?_) (fun c13 => ?_)
                      · refine ld_bipush O (pc := 175) (v := (-100 : Int32)) dX2_season_175 (by decide) ?_
                        refine ld_iload O (pc := 177) 0 dX2_season_177 rfl ?_
                        refine ld_isub O (pc := 179) dX2_season_179 ?_
                        refine ld_ireti E dX2_season_180 ?_
                        refine ⟨?_, fun _ => nI 0, fun _ => nI h, fc_p145, fw_p145, fl_p145, k7_p133, ft_p145, fs_p145, fp_p145, f4_p145, f5_p145, f6_p145, ?_, ?_⟩
                        · unfold ld_fSe
                          try dsimp only
                          rw [if_pos (by omega), if_pos (by omega), if_pos (by omega), if_pos (by omega), if_neg (by omega), if_pos (by omega), if_neg (by omega), if_neg (by omega)]
                        · unfold ld_fSe
                          try dsimp only
                          rw [if_pos (by omega), if_pos (by omega), if_pos (by omega), if_pos (by omega), if_neg (by omega), if_pos (by omega), if_neg (by omega), if_neg (by omega)]
                        · funext b_
                          by_cases h0_ : b_ = 102
                          · subst h0_; first | rfl | (simp (disch := omega) only [us_ne, us_eq]; done)
                          by_cases h1_ : b_ = 120
                          · subst h1_; first | rfl | (simp (disch := omega) only [us_ne, us_eq]; done)
                          by_cases h2_ : b_ = 121
                          · subst h2_; first | rfl | (simp (disch := omega) only [us_ne, us_eq]; done)
                          by_cases h3_ : b_ = 122
                          · subst h3_; first | rfl | (simp (disch := omega) only [us_ne, us_eq]; done)
                          by_cases h4_ : b_ = 123
                          · subst h4_; first | rfl | (simp (disch := omega) only [us_ne, us_eq]; done)
                          by_cases h5_ : b_ = 7
                          · subst h5_; first | rfl | (simp (disch := omega) only [us_ne, us_eq]; done)
                          by_cases h6_ : b_ = 8
                          · subst h6_; first | rfl | (simp (disch := omega) only [us_ne, us_eq]; done)
                          by_cases h7_ : b_ = 9
                          · subst h7_; first | rfl | (simp (disch := omega) only [us_ne, us_eq]; done)
                          by_cases h8_ : b_ = 10
                          · subst h8_; first | rfl | (simp (disch := omega) only [us_ne, us_eq]; done)
                          by_cases h9_ : b_ = 11
                          · subst h9_; first | rfl | (simp (disch := omega) only [us_ne, us_eq]; done)
                          by_cases h10_ : b_ = 12
                          · subst h10_; first | rfl | (simp (disch := omega) only [us_ne, us_eq]; done)
                          by_cases h11_ : b_ = 13
                          · subst h11_; first | rfl | (simp (disch := omega) only [us_ne, us_eq]; done)
                          simp only [us, h0_, h1_, h2_, h3_, h4_, h5_, h6_, h7_, h8_, h9_, h10_, h11_, if_false]
                      · have hno_ : (ld_sn h (σ 0) (fun z => σ (16 + ld_ix k) (ld_ix i + z)) (σ 111 0, (σ 1, σ 2, σ 3), nI 0) (ld_ix n)).1 = none := ld_nv9 (fun j hj => Nat.lt_trans (ld_sn_lt hj) (by omega)) c13
                        refine ld_aload_n O (pc := 166) 4 dX2_season_166 rfl rfl ?_
                        refine ld_iload O (pc := 167) 9 dX2_season_167 rfl ?_
                        refine ld_callVi O (pc := 169) (As := [.int what]) (st := []) ld_recv0 (c_X2_answer l ad (us (us (us (us (us (us (us (us (us (us (us (us (us (us (us (us (us (us σ 102 (fun _ => nI 0)) 120 (fun _ => nI h)) 121 (fun _ => σ 111 0)) 122 (fun _ => σ 112 0)) 123 (fun _ => nI 0)) 7 k7_p133) 8 k8_p133) 9 k9_p133) 10 k10_p133) 8 ft_p145) 9 fs_p145) 10 fp_p145) 11 f4_p145) 12 f5_p145) 13 f6_p145) 121 fc_p145) 122 fw_p145) 123 fl_p145) h hh rfl h8 what (by omega)) ld_mw_X2_answerOfSeason ld_w329 rfl rfl ⟨by decide, by decide⟩ (Nat.le_of_ble_eq_true rfl) dX2_season_169 (fun r_p169 σ_p169 h_p169 => ?_)
                        obtain ⟨rfl, hσ_p169⟩ := h_p169
                        rw [hσ_p169]
                        show K (us (us (us (us (us (us (us (us (us (us (us (us (us (us (us (us (us (us σ 102 (fun _ => nI 0)) 120 (fun _ => nI h)) 121 (fun _ => σ 111 0)) 122 (fun _ => σ 112 0)) 123 (fun _ => nI 0)) 7 k7_p133) 8 k8_p133) 9 k9_p133) 10 k10_p133) 8 ft_p145) 9 fs_p145) 10 fp_p145) 11 f4_p145) 12 f5_p145) 13 f6_p145) 121 fc_p145) 122 fw_p145) 123 fl_p145) [(9, .int (ld_nv (ld_sn h (σ 0) (fun z => σ (16 + ld_ix k) (ld_ix i + z)) (σ 111 0, (σ 1, σ 2, σ 3), nI 0) (ld_ix n)).1)), (8, .int (ld_rps h (fun z => σ (16 + (ld_ix k)) ((ld_ix i) + z)) (ld_ix n))), (7, .int (ld_fa (σ 131 (ld_ix k)) (σ 130 (ld_ix k)) lane)), (6, .ref (ad (4 + (ld_ix k)))), (0, .ref (ad 0)), (1, .int (nI (ld_ix k))), (2, .int lane), (3, .int (nI (ld_ix i))), (4, .int (nI (ld_ix n))), (5, .int what)] [.int (ld_an h (ft_p145, fs_p145, fp_p145) (fl_p145 0) what)] 172
                        refine ld_goto O (pc := 172) 180 dX2_season_172 (by decide) ?_
                        refine ld_ireti E dX2_season_180 ?_
                        refine ⟨?_, fun _ => nI 0, fun _ => nI h, fc_p145, fw_p145, fl_p145, k7_p133, ft_p145, fs_p145, fp_p145, f4_p145, f5_p145, f6_p145, ?_, ?_⟩
                        · unfold ld_fSe
                          try dsimp only
                          rw [if_pos (by omega), if_pos (by omega), if_pos (by omega), if_pos (by omega), if_neg (by omega), if_pos (by omega), if_neg (by omega), if_pos (by omega)]
                          try dsimp only
                          have hq2_ := hq_p145 (hsn_.1.trans hno_)
                          have hs2_ := hsn_.2 (hsn_.1.trans hno_)
                          exact ld_an_cong (by omega) (by omega) (hq2_.2.1.tr hs2_.2.1) (hq2_.2.2.trans hs2_.2.2) h8
                        · unfold ld_fSe
                          try dsimp only
                          rw [if_pos (by omega), if_pos (by omega), if_pos (by omega), if_pos (by omega), if_neg (by omega), if_pos (by omega), if_neg (by omega), if_pos (by omega)]
                        · funext b_
                          by_cases h0_ : b_ = 102
                          · subst h0_; first | rfl | (simp (disch := omega) only [us_ne, us_eq]; done)
                          by_cases h1_ : b_ = 120
                          · subst h1_; first | rfl | (simp (disch := omega) only [us_ne, us_eq]; done)
                          by_cases h2_ : b_ = 121
                          · subst h2_; first | rfl | (simp (disch := omega) only [us_ne, us_eq]; done)
                          by_cases h3_ : b_ = 122
                          · subst h3_; first | rfl | (simp (disch := omega) only [us_ne, us_eq]; done)
                          by_cases h4_ : b_ = 123
                          · subst h4_; first | rfl | (simp (disch := omega) only [us_ne, us_eq]; done)
                          by_cases h5_ : b_ = 7
                          · subst h5_; first | rfl | (simp (disch := omega) only [us_ne, us_eq]; done)
                          by_cases h6_ : b_ = 8
                          · subst h6_; first | rfl | (simp (disch := omega) only [us_ne, us_eq]; done)
                          by_cases h7_ : b_ = 9
                          · subst h7_; first | rfl | (simp (disch := omega) only [us_ne, us_eq]; done)
                          by_cases h8_ : b_ = 10
                          · subst h8_; first | rfl | (simp (disch := omega) only [us_ne, us_eq]; done)
                          by_cases h9_ : b_ = 11
                          · subst h9_; first | rfl | (simp (disch := omega) only [us_ne, us_eq]; done)
                          by_cases h10_ : b_ = 12
                          · subst h10_; first | rfl | (simp (disch := omega) only [us_ne, us_eq]; done)
                          by_cases h11_ : b_ = 13
                          · subst h11_; first | rfl | (simp (disch := omega) only [us_ne, us_eq]; done)
                          simp only [us, h0_, h1_, h2_, h3_, h4_, h5_, h6_, h7_, h8_, h9_, h10_, h11_, if_false]
                    · refine ld_iload O (pc := 156) 0 dX2_season_156 rfl ?_
                      refine ld_ireti E dX2_season_158 ?_
                      refine ⟨?_, fun _ => nI 0, fun _ => nI h, fc_p145, fw_p145, fl_p145, k7_p133, ft_p145, fs_p145, fp_p145, f4_p145, f5_p145, f6_p145, ?_, ?_⟩
                      · unfold ld_fSe
                        try dsimp only
                        rw [if_pos (by omega), if_pos (by omega), if_pos (by omega), if_pos (by omega), if_neg (by omega), if_pos (by omega), if_pos (by omega)]
                      · unfold ld_fSe
                        try dsimp only
                        rw [if_pos (by omega), if_pos (by omega), if_pos (by omega), if_pos (by omega), if_neg (by omega), if_pos (by omega), if_pos (by omega)]
                      · funext b_
                        by_cases h0_ : b_ = 102
                        · subst h0_; first | rfl | (simp (disch := omega) only [us_ne, us_eq]; done)
                        by_cases h1_ : b_ = 120
                        · subst h1_; first | rfl | (simp (disch := omega) only [us_ne, us_eq]; done)
                        by_cases h2_ : b_ = 121
                        · subst h2_; first | rfl | (simp (disch := omega) only [us_ne, us_eq]; done)
                        by_cases h3_ : b_ = 122
                        · subst h3_; first | rfl | (simp (disch := omega) only [us_ne, us_eq]; done)
                        by_cases h4_ : b_ = 123
                        · subst h4_; first | rfl | (simp (disch := omega) only [us_ne, us_eq]; done)
                        by_cases h5_ : b_ = 7
                        · subst h5_; first | rfl | (simp (disch := omega) only [us_ne, us_eq]; done)
                        by_cases h6_ : b_ = 8
                        · subst h6_; first | rfl | (simp (disch := omega) only [us_ne, us_eq]; done)
                        by_cases h7_ : b_ = 9
                        · subst h7_; first | rfl | (simp (disch := omega) only [us_ne, us_eq]; done)
                        by_cases h8_ : b_ = 10
                        · subst h8_; first | rfl | (simp (disch := omega) only [us_ne, us_eq]; done)
                        by_cases h9_ : b_ = 11
                        · subst h9_; first | rfl | (simp (disch := omega) only [us_ne, us_eq]; done)
                        by_cases h10_ : b_ = 12
                        · subst h10_; first | rfl | (simp (disch := omega) only [us_ne, us_eq]; done)
                        by_cases h11_ : b_ = 13
                        · subst h11_; first | rfl | (simp (disch := omega) only [us_ne, us_eq]; done)
                        simp only [us, h0_, h1_, h2_, h3_, h4_, h5_, h6_, h7_, h8_, h9_, h10_, h11_, if_false]
                  · refine ld_iload O (pc := 122) 0 dX2_season_122 rfl ?_
                    refine ld_ireti E dX2_season_124 ?_
                    refine ⟨?_, fun _ => nI 0, σ 120, σ 121, σ 122, σ 123, σ 7, σ 8, σ 9, σ 10, σ 11, σ 12, σ 13, ?_, ?_⟩
                    · unfold ld_fSe
                      try dsimp only
                      rw [if_pos (by omega), if_pos (by omega), if_pos (by omega), if_pos (by omega), if_neg (by omega), if_neg (by omega)]
                    · unfold ld_fSe
                      try dsimp only
                      rw [if_pos (by omega), if_pos (by omega), if_pos (by omega), if_pos (by omega), if_neg (by omega), if_neg (by omega)]
                    · funext b_
                      by_cases h0_ : b_ = 102
                      · subst h0_; first | rfl | (simp (disch := omega) only [us_ne, us_eq]; done)
                      by_cases h1_ : b_ = 120
                      · subst h1_; first | rfl | (simp (disch := omega) only [us_ne, us_eq]; done)
                      by_cases h2_ : b_ = 121
                      · subst h2_; first | rfl | (simp (disch := omega) only [us_ne, us_eq]; done)
                      by_cases h3_ : b_ = 122
                      · subst h3_; first | rfl | (simp (disch := omega) only [us_ne, us_eq]; done)
                      by_cases h4_ : b_ = 123
                      · subst h4_; first | rfl | (simp (disch := omega) only [us_ne, us_eq]; done)
                      by_cases h5_ : b_ = 7
                      · subst h5_; first | rfl | (simp (disch := omega) only [us_ne, us_eq]; done)
                      by_cases h6_ : b_ = 8
                      · subst h6_; first | rfl | (simp (disch := omega) only [us_ne, us_eq]; done)
                      by_cases h7_ : b_ = 9
                      · subst h7_; first | rfl | (simp (disch := omega) only [us_ne, us_eq]; done)
                      by_cases h8_ : b_ = 10
                      · subst h8_; first | rfl | (simp (disch := omega) only [us_ne, us_eq]; done)
                      by_cases h9_ : b_ = 11
                      · subst h9_; first | rfl | (simp (disch := omega) only [us_ne, us_eq]; done)
                      by_cases h10_ : b_ = 12
                      · subst h10_; first | rfl | (simp (disch := omega) only [us_ne, us_eq]; done)
                      by_cases h11_ : b_ = 13
                      · subst h11_; first | rfl | (simp (disch := omega) only [us_ne, us_eq]; done)
                      simp only [us, h0_, h1_, h2_, h3_, h4_, h5_, h6_, h7_, h8_, h9_, h10_, h11_, if_false]
                · refine ld_iconst O (pc := 88) (v := nI 3) dX2_season_88 (by decide) ?_
                  refine ld_istore O (pc := 89) [(7, .int (nI 3)), (6, .ref (ad (4 + (ld_ix k)))), (0, .ref (ad 0)), (1, .int (nI (ld_ix k))), (2, .int lane), (3, .int i), (4, .int (nI (ld_ix n))), (5, .int what)] dX2_season_89 (by decide) rfl ?_
                  refine ld_iload O (pc := 91) 0 dX2_season_91 rfl ?_
                  refine ld_if_eq O (pc := 93) 3 (by decide) 103 dX2_season_93 (by decide) (fun z => absurd z (by decide)) (fun _ => ?_)
                  refine ld_aload_n O (pc := 96) 2 dX2_season_96 rfl rfl ?_
                  refine ld_iload O (pc := 97) 0 dX2_season_97 rfl ?_
                  refine ld_callVi O (pc := 99) (As := [.int (nI 3)]) (st := []) ld_recv0 (c_X2_fails l ad (us σ 102 (fun _ => nI 0)) (nI 3)) ld_mw_X2_fails ld_w89 rfl rfl ⟨by decide, by decide⟩ (Nat.le_of_ble_eq_true rfl) dX2_season_99 (fun r_p99 σ_p99 h_p99 => ?_)
                  obtain ⟨rfl, hσ_p99⟩ := h_p99
                  rw [hσ_p99]
                  show K (us (us σ 102 (fun _ => nI 0)) 102 (fun _ => nI 3)) [(7, .int (nI 3)), (6, .ref (ad (4 + (ld_ix k)))), (0, .ref (ad 0)), (1, .int (nI (ld_ix k))), (2, .int lane), (3, .int i), (4, .int (nI (ld_ix n))), (5, .int what)] [.int ((-10 : Int32) - (nI 3))] 102
                  refine ld_ireti E dX2_season_102 ?_
                  refine ⟨?_, fun _ => nI 3, σ 120, σ 121, σ 122, σ 123, σ 7, σ 8, σ 9, σ 10, σ 11, σ 12, σ 13, ?_, ?_⟩
                  · unfold ld_fSe
                    try dsimp only
                    repeat' split
                    all_goals first | (exfalso; omega) | rfl
                  · unfold ld_fSe
                    try dsimp only
                    repeat' split
                    all_goals first | (exfalso; omega) | rfl
                  · funext b_
                    by_cases h0_ : b_ = 102
                    · subst h0_; first | rfl | (simp (disch := omega) only [us_ne, us_eq]; done)
                    by_cases h1_ : b_ = 120
                    · subst h1_; first | rfl | (simp (disch := omega) only [us_ne, us_eq]; done)
                    by_cases h2_ : b_ = 121
                    · subst h2_; first | rfl | (simp (disch := omega) only [us_ne, us_eq]; done)
                    by_cases h3_ : b_ = 122
                    · subst h3_; first | rfl | (simp (disch := omega) only [us_ne, us_eq]; done)
                    by_cases h4_ : b_ = 123
                    · subst h4_; first | rfl | (simp (disch := omega) only [us_ne, us_eq]; done)
                    by_cases h5_ : b_ = 7
                    · subst h5_; first | rfl | (simp (disch := omega) only [us_ne, us_eq]; done)
                    by_cases h6_ : b_ = 8
                    · subst h6_; first | rfl | (simp (disch := omega) only [us_ne, us_eq]; done)
                    by_cases h7_ : b_ = 9
                    · subst h7_; first | rfl | (simp (disch := omega) only [us_ne, us_eq]; done)
                    by_cases h8_ : b_ = 10
                    · subst h8_; first | rfl | (simp (disch := omega) only [us_ne, us_eq]; done)
                    by_cases h9_ : b_ = 11
                    · subst h9_; first | rfl | (simp (disch := omega) only [us_ne, us_eq]; done)
                    by_cases h10_ : b_ = 12
                    · subst h10_; first | rfl | (simp (disch := omega) only [us_ne, us_eq]; done)
                    by_cases h11_ : b_ = 13
                    · subst h11_; first | rfl | (simp (disch := omega) only [us_ne, us_eq]; done)
                    simp only [us, h0_, h1_, h2_, h3_, h4_, h5_, h6_, h7_, h8_, h9_, h10_, h11_, if_false]
            · refine ld_bipush O (pc := 51) (v := (-3 : Int32)) dX2_season_51 (by decide) ?_
              refine ld_ireti E dX2_season_53 ?_
              refine ⟨?_, fun _ => nI 0, σ 120, σ 121, σ 122, σ 123, σ 7, σ 8, σ 9, σ 10, σ 11, σ 12, σ 13, ?_, ?_⟩
              · unfold ld_fSe
                try dsimp only
                repeat' split
                all_goals first | (exfalso; omega) | rfl
              · unfold ld_fSe
                try dsimp only
                repeat' split
                all_goals first | (exfalso; omega) | rfl
              · funext b_
                by_cases h0_ : b_ = 102
                · subst h0_; first | rfl | (simp (disch := omega) only [us_ne, us_eq]; done)
                by_cases h1_ : b_ = 120
                · subst h1_; first | rfl | (simp (disch := omega) only [us_ne, us_eq]; done)
                by_cases h2_ : b_ = 121
                · subst h2_; first | rfl | (simp (disch := omega) only [us_ne, us_eq]; done)
                by_cases h3_ : b_ = 122
                · subst h3_; first | rfl | (simp (disch := omega) only [us_ne, us_eq]; done)
                by_cases h4_ : b_ = 123
                · subst h4_; first | rfl | (simp (disch := omega) only [us_ne, us_eq]; done)
                by_cases h5_ : b_ = 7
                · subst h5_; first | rfl | (simp (disch := omega) only [us_ne, us_eq]; done)
                by_cases h6_ : b_ = 8
                · subst h6_; first | rfl | (simp (disch := omega) only [us_ne, us_eq]; done)
                by_cases h7_ : b_ = 9
                · subst h7_; first | rfl | (simp (disch := omega) only [us_ne, us_eq]; done)
                by_cases h8_ : b_ = 10
                · subst h8_; first | rfl | (simp (disch := omega) only [us_ne, us_eq]; done)
                by_cases h9_ : b_ = 11
                · subst h9_; first | rfl | (simp (disch := omega) only [us_ne, us_eq]; done)
                by_cases h10_ : b_ = 12
                · subst h10_; first | rfl | (simp (disch := omega) only [us_ne, us_eq]; done)
                by_cases h11_ : b_ = 13
                · subst h11_; first | rfl | (simp (disch := omega) only [us_ne, us_eq]; done)
                simp only [us, h0_, h1_, h2_, h3_, h4_, h5_, h6_, h7_, h8_, h9_, h10_, h11_, if_false]
          · refine ld_bipush O (pc := 41) (v := (-2 : Int32)) dX2_season_41 (by decide) ?_
            refine ld_ireti E dX2_season_43 ?_
            refine ⟨?_, fun _ => nI 0, σ 120, σ 121, σ 122, σ 123, σ 7, σ 8, σ 9, σ 10, σ 11, σ 12, σ 13, ?_, ?_⟩
            · unfold ld_fSe
              try dsimp only
              repeat' split
              all_goals first | (exfalso; omega) | rfl
            · unfold ld_fSe
              try dsimp only
              repeat' split
              all_goals first | (exfalso; omega) | rfl
            · funext b_
              by_cases h0_ : b_ = 102
              · subst h0_; first | rfl | (simp (disch := omega) only [us_ne, us_eq]; done)
              by_cases h1_ : b_ = 120
              · subst h1_; first | rfl | (simp (disch := omega) only [us_ne, us_eq]; done)
              by_cases h2_ : b_ = 121
              · subst h2_; first | rfl | (simp (disch := omega) only [us_ne, us_eq]; done)
              by_cases h3_ : b_ = 122
              · subst h3_; first | rfl | (simp (disch := omega) only [us_ne, us_eq]; done)
              by_cases h4_ : b_ = 123
              · subst h4_; first | rfl | (simp (disch := omega) only [us_ne, us_eq]; done)
              by_cases h5_ : b_ = 7
              · subst h5_; first | rfl | (simp (disch := omega) only [us_ne, us_eq]; done)
              by_cases h6_ : b_ = 8
              · subst h6_; first | rfl | (simp (disch := omega) only [us_ne, us_eq]; done)
              by_cases h7_ : b_ = 9
              · subst h7_; first | rfl | (simp (disch := omega) only [us_ne, us_eq]; done)
              by_cases h8_ : b_ = 10
              · subst h8_; first | rfl | (simp (disch := omega) only [us_ne, us_eq]; done)
              by_cases h9_ : b_ = 11
              · subst h9_; first | rfl | (simp (disch := omega) only [us_ne, us_eq]; done)
              by_cases h10_ : b_ = 12
              · subst h10_; first | rfl | (simp (disch := omega) only [us_ne, us_eq]; done)
              by_cases h11_ : b_ = 13
              · subst h11_; first | rfl | (simp (disch := omega) only [us_ne, us_eq]; done)
              simp only [us, h0_, h1_, h2_, h3_, h4_, h5_, h6_, h7_, h8_, h9_, h10_, h11_, if_false]
  · refine ld_iconst O (pc := 12) (v := (-1 : Int32)) dX2_season_12 (by decide) ?_
    refine ld_ireti E dX2_season_13 ?_
    refine ⟨?_, fun _ => nI 0, σ 120, σ 121, σ 122, σ 123, σ 7, σ 8, σ 9, σ 10, σ 11, σ 12, σ 13, ?_, ?_⟩
    · unfold ld_fSe
      try dsimp only
      repeat' split
      all_goals first | (exfalso; omega) | rfl
    · unfold ld_fSe
      try dsimp only
      repeat' split
      all_goals first | (exfalso; omega) | rfl
    · funext b_
      by_cases h0_ : b_ = 102
      · subst h0_; first | rfl | (simp (disch := omega) only [us_ne, us_eq]; done)
      by_cases h1_ : b_ = 120
      · subst h1_; first | rfl | (simp (disch := omega) only [us_ne, us_eq]; done)
      by_cases h2_ : b_ = 121
      · subst h2_; first | rfl | (simp (disch := omega) only [us_ne, us_eq]; done)
      by_cases h3_ : b_ = 122
      · subst h3_; first | rfl | (simp (disch := omega) only [us_ne, us_eq]; done)
      by_cases h4_ : b_ = 123
      · subst h4_; first | rfl | (simp (disch := omega) only [us_ne, us_eq]; done)
      by_cases h5_ : b_ = 7
      · subst h5_; first | rfl | (simp (disch := omega) only [us_ne, us_eq]; done)
      by_cases h6_ : b_ = 8
      · subst h6_; first | rfl | (simp (disch := omega) only [us_ne, us_eq]; done)
      by_cases h7_ : b_ = 9
      · subst h7_; first | rfl | (simp (disch := omega) only [us_ne, us_eq]; done)
      by_cases h8_ : b_ = 10
      · subst h8_; first | rfl | (simp (disch := omega) only [us_ne, us_eq]; done)
      by_cases h9_ : b_ = 11
      · subst h9_; first | rfl | (simp (disch := omega) only [us_ne, us_eq]; done)
      by_cases h10_ : b_ = 12
      · subst h10_; first | rfl | (simp (disch := omega) only [us_ne, us_eq]; done)
      by_cases h11_ : b_ = 13
      · subst h11_; first | rfl | (simp (disch := omega) only [us_ne, us_eq]; done)
      simp only [us, h0_, h1_, h2_, h3_, h4_, h5_, h6_, h7_, h8_, h9_, h10_, h11_, if_false]
