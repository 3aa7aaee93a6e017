def ld_fOf (h : Nat) (c : Int32) (kd t s p : Nat → Int32) (k what : Int32) : Int32 := if 0 ≤ k.toInt ∧ k.toInt < (h : Int) then (if what.toInt = 0 then kd (ld_ix k) else if what.toInt = 1 then t (ld_ix k) else if what.toInt = 2 then s (ld_ix k) else if what.toInt = 3 then p (ld_ix k) else if what.toInt = 4 then p (ld_ix k) / nI 4 else if what.toInt = 5 then ld_sr (kd (ld_ix k)) (t (ld_ix k)) else if what.toInt = 6 then ld_dt h kd t c (ld_ix k) else (-2 : Int32)) else (-1 : Int32)
def ld_fAn (h : Nat) (t : Nat → Int32) (k v : Int32) : Int32 := if 0 ≤ k.toInt ∧ k.toInt < (h : Int) then (if 0 ≤ v.toInt ∧ v.toInt < 10 then t (ld_ix k) else (-2 : Int32)) else (-1 : Int32)
def ld_gAn (h : Nat) (t : Nat → Int32) (k v : Int32) : Nat → Int32 := if (0 ≤ k.toInt ∧ k.toInt < (h : Int)) ∧ 0 ≤ v.toInt ∧ v.toInt < 10 then upd t (ld_ix k) v else t
def ld_fCr (h : Nat) (c v : Int32) : Int32 := if 0 < h then (if 0 ≤ v.toInt ∧ v.toInt < 100 then c else (-2 : Int32)) else (-3 : Int32)
def ld_gCr (h : Nat) (c v : Int32) : Int32 := if 0 < h ∧ 0 ≤ v.toInt ∧ v.toInt < 100 then v else c
def ld_fDe (h : Nat) (kd t : Nat → Int32) (k c : Int32) : Int32 := if 0 ≤ k.toInt ∧ k.toInt < (h : Int) then (if 0 ≤ c.toInt ∧ c.toInt < 100 then ld_dt h kd t c (ld_ix k) else (-2 : Int32)) else (-1 : Int32)
def ld_gWk (h : Nat) (n : Int32) : Nat := if (1 ≤ n.toInt ∧ n.toInt ≤ 60) ∧ 0 < h then ld_ix n else 0
def ld_fWk (h : Nat) (c : Int32) (kd : Nat → Int32) (V : ld_Tr) (n : Int32) : Int32 := if 1 ≤ n.toInt ∧ n.toInt ≤ 60 then (if 0 < h then nI (ld_wo h (ld_wks h c kd V (ld_ix n)).2.1) else (-3 : Int32)) else (-2 : Int32)
def ld_fGi (h : Nat) (s : Nat → Int32) (k : Int32) : Int32 := if 0 ≤ k.toInt ∧ k.toInt < (h : Int) then (if 0 < (s (ld_ix k)).toInt then ld_gv h s (ld_ix k) (ld_ix k) else (-3 : Int32)) else (-1 : Int32)
def ld_gGi (h : Nat) (s : Nat → Int32) (k : Int32) : Nat → Int32 := if (0 ≤ k.toInt ∧ k.toInt < (h : Int)) ∧ 0 < (s (ld_ix k)).toInt then ld_gv h s (ld_ix k) else s
def ld_fRe (h q : Nat) (k v : Int32) : Int32 := if 0 ≤ k.toInt ∧ k.toInt < (h : Int) then (if 0 ≤ v.toInt ∧ v.toInt < 100 then (if q < 8 then nI q else (-4 : Int32)) else (-2 : Int32)) else (-1 : Int32)
def ld_oRe (h q : Nat) (k v : Int32) : Prop := (0 ≤ k.toInt ∧ k.toInt < (h : Int)) ∧ (0 ≤ v.toInt ∧ v.toInt < 100) ∧ q < 8
def ld_fBa (q : Nat) (k : Int32) : Int32 := if 0 ≤ k.toInt ∧ k.toInt ≤ (q : Int) then nI (q - ld_ix k) else (-2 : Int32)
def ld_gBa (q : Nat) (k : Int32) : Nat := if 0 ≤ k.toInt ∧ k.toInt ≤ (q : Int) then q - ld_ix k else q
def ld_tr1 (x n : Int32) : Int32 := nI 31 * x + n
def ld_fTe (h : Nat) (kd t : Nat → Int32) (k : Int32) : Int32 := if 0 ≤ k.toInt ∧ k.toInt < (h : Int) then (if (kd (ld_ix k)).toInt = 1 then t (ld_ix k) + nI 100 else if (kd (ld_ix k)).toInt = 2 then t (ld_ix k) + nI 100 + t (ld_ix k) else t (ld_ix k)) else (-1 : Int32)
def ld_gTe (h : Nat) (kd : Nat → Int32) (x k : Int32) : Int32 := if 0 ≤ k.toInt ∧ k.toInt < (h : Int) then (if (kd (ld_ix k)).toInt = 1 then nI 31 * (nI 31 * x + nI 2) + nI 1 else if (kd (ld_ix k)).toInt = 2 then nI 31 * (nI 31 * (nI 31 * (nI 31 * x + nI 3) + nI 2) + nI 1) + nI 1 else nI 31 * x + nI 1) else x
def ld_fKn (h : Nat) (kd : Nat → Int32) (k : Int32) : Int32 := if 0 ≤ k.toInt ∧ k.toInt < (h : Int) then (if (kd (ld_ix k)).toInt = 2 then nI 30 else nI (ld_ix k)) else (-1 : Int32)
def ld_gKn (h : Nat) (kd : Nat → Int32) (x k : Int32) : Int32 := if 0 ≤ k.toInt ∧ k.toInt < (h : Int) then (if (kd (ld_ix k)).toInt = 2 then nI 31 * x + nI 5 else nI 31 * x + nI 4) else x
def ld_fAs (h : Nat) (kd : Nat → Int32) (k kind : Int32) : Int32 := if 0 ≤ k.toInt ∧ k.toInt < (h : Int) then (if 0 ≤ kind.toInt ∧ kind.toInt < 3 then (if (kd (ld_ix k)).toInt < kind.toInt then (-10 : Int32) - nI 2 else nI 1) else (-2 : Int32)) else (-1 : Int32)
def ld_eAs (h : Nat) (kd : Nat → Int32) (k kind : Int32) : Int32 := if (0 ≤ k.toInt ∧ k.toInt < (h : Int)) ∧ (0 ≤ kind.toInt ∧ kind.toInt < 3) ∧ (kd (ld_ix k)).toInt < kind.toInt then nI 2 else nI 0
def ld_fMa (h q : Nat) (c w : Int32) (s : Nat → Int32) (what : Int32) : Int32 := if what.toInt = 0 then nI h else if what.toInt = 1 then c else if what.toInt = 2 then w else if what.toInt = 3 then nI (ld_wo h s) else if what.toInt = 4 then nI q else (-2 : Int32)
def ld_fLo (ln : Nat → Int32) (k : Int32) : Int32 := if 0 ≤ k.toInt ∧ k.toInt < 4 then (if (ln (ld_ix k)).toInt = -1 then nI 0 else nI 1) else (-1 : Int32)
def ld_gLo (ln : Nat → Int32) (k : Int32) : Nat → Int32 := if 0 ≤ k.toInt ∧ k.toInt < 4 then upd ln (ld_ix k) (-1 : Int32) else ln
set_option maxHeartbeats 4000000 in
set_option maxRecDepth 100000 in
theorem c_X2_ofHouse (l : Launch) (ad : Nat → Nat) (σ : ld_St) (h : Nat) (hh : σ 110 0 = nI h) (h8 : h ≤ 8) (k what : Int32) : ld_Ctr l yX2_ofHouse cX2_ofHouse 3 (some .int) (3, 69) [.ref (ad 0), .int k, .int what] ad σ (ld_I (fun (r : Int32) (σ2 : ld_St) => r = ld_fOf h (σ 111 0) (σ 0) (σ 1) (σ 2) (σ 3) k what ∧ ∃ f4 f5 f6 : Nat → Int32, σ2 = us (us (us σ 4 f4) 5 f5) 6 f6)) := by
  refine ld_entry (by decide +kernel) (Nat.le_of_ble_eq_true rfl) (fun K O E => ?_)
  have O : ld_Ok l K ad cX2_ofHouse 3 RX2 (ld_rm (3, 69)) := O
  show K σ [(0, .ref (ad 0)), (1, .int k), (2, .int what)] [] 0
  refine ld_aload_n O (pc := 0) 0 dX2_ofHouse_0 rfl rfl ?_
  refine ld_iload_n O (pc := 1) 1 dX2_ofHouse_1 rfl rfl ?_
  refine ld_callVi O (pc := 2) (As := [.int k]) (st := []) ld_recv0 (c_X2_isHouse l ad σ k h hh h8) ld_mw_X2_isHouse ld_w168 rfl rfl ⟨by decide, by decide⟩ (Nat.le_of_ble_eq_true rfl) dX2_ofHouse_2 (fun r_p2 σ_p2 h_p2 => ?_)
  obtain ⟨rfl, hσ_p2⟩ := h_p2
  rw [hσ_p2]
  show K σ [(0, .ref (ad 0)), (1, .int k), (2, .int what)] [.int (ld_b (0 ≤ (k).toInt ∧ (k).toInt < (h : Int)))] 5
  refine ld_ifb_ne O (pc := 5) 10 dX2_ofHouse_5 (by decide) (fun c1 => ?_) (fun c1 => ?_)
  · obtain ⟨ek_k, hk_k, ik_k⟩ := ld_ofIx (k := k) (h := h) (by omega)
    rw [ek_k]
    refine ld_iload_n O (pc := 10) 2 dX2_ofHouse_10 rfl rfl ?_
    by_cases t2 : (what).toInt = 0
    · refine ld_tabIn O (pc := 11) 52 dX2_ofHouse_11 (by omega) (by omega) (off := 41) (by rw [t2]; rfl) (by decide) ?_
      refine ld_aload_n O (pc := 52) 0 dX2_ofHouse_52 rfl rfl ?_
      refine ld_g_LD_now O (pc := 53) ld_w15 dX2_ofHouse_53 ?_
      refine ld_g_now_kindN O (pc := 56) (List.mem_of_getElem? (i := 5) rfl) dX2_ofHouse_56 ?_
      refine ld_iload_n O (pc := 59) 1 dX2_ofHouse_59 rfl rfl ?_
      refine ld_iald O (pc := 60) 0 (ld_ix k) (v := σ 0 (ld_ix k)) rfl (by decide) (show ld_ix k < 8 by omega) rfl dX2_ofHouse_60 ?_
      refine ld_ireti E dX2_ofHouse_61 ?_
      refine ⟨?_, σ 4, σ 5, σ 6, ?_⟩
      · unfold ld_fOf
        repeat' split
        all_goals first | rfl | (exfalso; omega)
      · funext b_
        by_cases h0_ : b_ = 5
        · subst h0_; first | rfl | (simp (disch := omega) only [us_ne, us_eq]; done)
        by_cases h1_ : b_ = 6
        · subst h1_; first | rfl | (simp (disch := omega) only [us_ne, us_eq]; done)
        by_cases h2_ : b_ = 4
        · subst h2_; first | rfl | (simp (disch := omega) only [us_ne, us_eq]; done)
        simp only [us, h0_, h1_, h2_, if_false]
    by_cases t3 : (what).toInt = 1
    · refine ld_tabIn O (pc := 11) 62 dX2_ofHouse_11 (by omega) (by omega) (off := 51) (by rw [t3]; rfl) (by decide) ?_
      refine ld_aload_n O (pc := 62) 0 dX2_ofHouse_62 rfl rfl ?_
      refine ld_g_LD_now O (pc := 63) ld_w15 dX2_ofHouse_63 ?_
      refine ld_g_now_temperN O (pc := 66) (List.mem_of_getElem? (i := 6) rfl) dX2_ofHouse_66 ?_
      refine ld_iload_n O (pc := 69) 1 dX2_ofHouse_69 rfl rfl ?_
      refine ld_iald O (pc := 70) 1 (ld_ix k) (v := σ 1 (ld_ix k)) rfl (by decide) (show ld_ix k < 8 by omega) rfl dX2_ofHouse_70 ?_
      refine ld_ireti E dX2_ofHouse_71 ?_
      refine ⟨?_, σ 4, σ 5, σ 6, ?_⟩
      · unfold ld_fOf
        repeat' split
        all_goals first | rfl | (exfalso; omega)
      · funext b_
        by_cases h0_ : b_ = 5
        · subst h0_; first | rfl | (simp (disch := omega) only [us_ne, us_eq]; done)
        by_cases h1_ : b_ = 6
        · subst h1_; first | rfl | (simp (disch := omega) only [us_ne, us_eq]; done)
        by_cases h2_ : b_ = 4
        · subst h2_; first | rfl | (simp (disch := omega) only [us_ne, us_eq]; done)
        simp only [us, h0_, h1_, h2_, if_false]
    by_cases t4 : (what).toInt = 2
    · refine ld_tabIn O (pc := 11) 72 dX2_ofHouse_11 (by omega) (by omega) (off := 61) (by rw [t4]; rfl) (by decide) ?_
      refine ld_aload_n O (pc := 72) 0 dX2_ofHouse_72 rfl rfl ?_
      refine ld_g_LD_now O (pc := 73) ld_w15 dX2_ofHouse_73 ?_
      refine ld_g_now_stockN O (pc := 76) (List.mem_of_getElem? (i := 7) rfl) dX2_ofHouse_76 ?_
      refine ld_iload_n O (pc := 79) 1 dX2_ofHouse_79 rfl rfl ?_
      refine ld_iald O (pc := 80) 2 (ld_ix k) (v := σ 2 (ld_ix k)) rfl (by decide) (show ld_ix k < 8 by omega) rfl dX2_ofHouse_80 ?_
      refine ld_ireti E dX2_ofHouse_81 ?_
      refine ⟨?_, σ 4, σ 5, σ 6, ?_⟩
      · unfold ld_fOf
        repeat' split
        all_goals first | rfl | (exfalso; omega)
      · funext b_
        by_cases h0_ : b_ = 5
        · subst h0_; first | rfl | (simp (disch := omega) only [us_ne, us_eq]; done)
        by_cases h1_ : b_ = 6
        · subst h1_; first | rfl | (simp (disch := omega) only [us_ne, us_eq]; done)
        by_cases h2_ : b_ = 4
        · subst h2_; first | rfl | (simp (disch := omega) only [us_ne, us_eq]; done)
        simp only [us, h0_, h1_, h2_, if_false]
    by_cases t5 : (what).toInt = 3
    · refine ld_tabIn O (pc := 11) 82 dX2_ofHouse_11 (by omega) (by omega) (off := 71) (by rw [t5]; rfl) (by decide) ?_
      refine ld_aload_n O (pc := 82) 0 dX2_ofHouse_82 rfl rfl ?_
      refine ld_g_LD_now O (pc := 83) ld_w15 dX2_ofHouse_83 ?_
      refine ld_g_now_pipsN O (pc := 86) (List.mem_of_getElem? (i := 8) rfl) dX2_ofHouse_86 ?_
      refine ld_iload_n O (pc := 89) 1 dX2_ofHouse_89 rfl rfl ?_
      refine ld_iald O (pc := 90) 3 (ld_ix k) (v := σ 3 (ld_ix k)) rfl (by decide) (show ld_ix k < 8 by omega) rfl dX2_ofHouse_90 ?_
      refine ld_ireti E dX2_ofHouse_91 ?_
      refine ⟨?_, σ 4, σ 5, σ 6, ?_⟩
      · unfold ld_fOf
        repeat' split
        all_goals first | rfl | (exfalso; omega)
      · funext b_
        by_cases h0_ : b_ = 5
        · subst h0_; first | rfl | (simp (disch := omega) only [us_ne, us_eq]; done)
        by_cases h1_ : b_ = 6
        · subst h1_; first | rfl | (simp (disch := omega) only [us_ne, us_eq]; done)
        by_cases h2_ : b_ = 4
        · subst h2_; first | rfl | (simp (disch := omega) only [us_ne, us_eq]; done)
        simp only [us, h0_, h1_, h2_, if_false]
    by_cases t6 : (what).toInt = 4
    · refine ld_tabIn O (pc := 11) 92 dX2_ofHouse_11 (by omega) (by omega) (off := 81) (by rw [t6]; rfl) (by decide) ?_
      refine ld_aload_n O (pc := 92) 0 dX2_ofHouse_92 rfl rfl ?_
      refine ld_g_LD_now O (pc := 93) ld_w15 dX2_ofHouse_93 ?_
      refine ld_iload_n O (pc := 96) 1 dX2_ofHouse_96 rfl rfl ?_
      refine ld_callVNi O (pc := 97) (As := [.int (nI (ld_ix k))]) (st := []) ld_recv1 (c_X1_treesOf_0 l ad σ (ld_ix k) (by omega)) ld_mw_X1_treesOf (List.mem_of_getElem? (i := 18) rfl) rfl rfl ⟨by decide, by decide⟩ (Nat.le_of_ble_eq_true rfl) dX2_ofHouse_97 (fun r_p97 σ_p97 h_p97 => ?_)
      obtain ⟨rfl, hσ_p97⟩ := h_p97
      rw [hσ_p97]
      show K σ [(0, .ref (ad 0)), (1, .int (nI (ld_ix k))), (2, .int what)] [.int (σ 3 (ld_ix k) / nI 4)] 100
      refine ld_ireti E dX2_ofHouse_100 ?_
      refine ⟨?_, σ 4, σ 5, σ 6, ?_⟩
      · unfold ld_fOf
        repeat' split
        all_goals first | rfl | (exfalso; omega)
      · funext b_
        by_cases h0_ : b_ = 5
        · subst h0_; first | rfl | (simp (disch := omega) only [us_ne, us_eq]; done)
        by_cases h1_ : b_ = 6
        · subst h1_; first | rfl | (simp (disch := omega) only [us_ne, us_eq]; done)
        by_cases h2_ : b_ = 4
        · subst h2_; first | rfl | (simp (disch := omega) only [us_ne, us_eq]; done)
        simp only [us, h0_, h1_, h2_, if_false]
    by_cases t7 : (what).toInt = 5
    · refine ld_tabIn O (pc := 11) 101 dX2_ofHouse_11 (by omega) (by omega) (off := 90) (by rw [t7]; rfl) (by decide) ?_
      refine ld_aload_n O (pc := 101) 0 dX2_ofHouse_101 rfl rfl ?_
      refine ld_g_LD_now O (pc := 102) ld_w15 dX2_ofHouse_102 ?_
      refine ld_iload_n O (pc := 105) 1 dX2_ofHouse_105 rfl rfl ?_
      refine ld_callVNi O (pc := 106) (As := [.int (nI (ld_ix k))]) (st := []) ld_recv1 (c_X1_sourOf_0 l ad σ (ld_ix k) (by omega)) ld_mw_X1_sourOf (List.mem_of_getElem? (i := 19) rfl) rfl rfl ⟨by decide, by decide⟩ (Nat.le_of_ble_eq_true rfl) dX2_ofHouse_106 (fun r_p106 σ_p106 h_p106 => ?_)
      obtain ⟨rfl, hσ_p106⟩ := h_p106
      rw [hσ_p106]
      show K σ [(0, .ref (ad 0)), (1, .int (nI (ld_ix k))), (2, .int what)] [.int (ld_sr (σ 0 (ld_ix k)) (σ 1 (ld_ix k)))] 109
      refine ld_ireti E dX2_ofHouse_109 ?_
      refine ⟨?_, σ 4, σ 5, σ 6, ?_⟩
      · unfold ld_fOf
        repeat' split
        all_goals first | rfl | (exfalso; omega)
      · funext b_
        by_cases h0_ : b_ = 5
        · subst h0_; first | rfl | (simp (disch := omega) only [us_ne, us_eq]; done)
        by_cases h1_ : b_ = 6
        · subst h1_; first | rfl | (simp (disch := omega) only [us_ne, us_eq]; done)
        by_cases h2_ : b_ = 4
        · subst h2_; first | rfl | (simp (disch := omega) only [us_ne, us_eq]; done)
        simp only [us, h0_, h1_, h2_, if_false]
    by_cases t8 : (what).toInt = 6
    · refine ld_tabIn O (pc := 11) 110 dX2_ofHouse_11 (by omega) (by omega) (off := 99) (by rw [t8]; rfl) (by decide) ?_
      refine ld_aload_n O (pc := 110) 0 dX2_ofHouse_110 rfl rfl ?_
      refine ld_g_LD_now O (pc := 111) ld_w15 dX2_ofHouse_111 ?_
      refine ld_iload_n O (pc := 114) 1 dX2_ofHouse_114 rfl rfl ?_
      refine ld_aload_n O (pc := 115) 0 dX2_ofHouse_115 rfl rfl ?_
      refine ld_g_LD_now O (pc := 116) ld_w15 dX2_ofHouse_116 ?_
      refine ld_g_now_crateN O (pc := 119) (v := σ 111 0) (List.mem_of_getElem? (i := 2) rfl) rfl dX2_ofHouse_119 ?_
      refine ld_callVNi O (pc := 122) (As := [.int (nI (ld_ix k)), .int (σ 111 0)]) (st := []) ld_recv1 (c_X1_dealtTo_0 l ad σ h hh h8 (ld_ix k) (by omega) (σ 111 0)) ld_mw_X1_dealtTo (List.mem_of_getElem? (i := 20) rfl) rfl rfl ⟨by decide, by decide⟩ (Nat.le_of_ble_eq_true rfl) dX2_ofHouse_122 (fun r_p122 σ_p122 h_p122 => ?_)
      obtain ⟨f4_p122, f5_p122, f6_p122, rfl, hσ_p122⟩ := h_p122
      rw [hσ_p122]
      show K (us (us (us σ 4 f4_p122) 5 f5_p122) 6 f6_p122) [(0, .ref (ad 0)), (1, .int (nI (ld_ix k))), (2, .int what)] [.int (ld_dt h (σ 0) (σ 1) (σ 111 0) (ld_ix k))] 125
      refine ld_ireti E dX2_ofHouse_125 ?_
      refine ⟨?_, f4_p122, f5_p122, f6_p122, ?_⟩
      · unfold ld_fOf
        repeat' split
        all_goals first | rfl | (exfalso; omega)
      · funext b_
        by_cases h0_ : b_ = 4
        · subst h0_; first | rfl | (simp (disch := omega) only [us_ne, us_eq]; done)
        by_cases h1_ : b_ = 5
        · subst h1_; first | rfl | (simp (disch := omega) only [us_ne, us_eq]; done)
        by_cases h2_ : b_ = 6
        · subst h2_; first | rfl | (simp (disch := omega) only [us_ne, us_eq]; done)
        simp only [us, h0_, h1_, h2_, if_false]
    refine ld_tabOut O (pc := 11) 126 dX2_ofHouse_11 (by omega) (by decide) ?_
    refine ld_bipush O (pc := 126) (v := (-2 : Int32)) dX2_ofHouse_126 (by decide) ?_
    refine ld_ireti E dX2_ofHouse_128 ?_
    refine ⟨?_, σ 4, σ 5, σ 6, ?_⟩
    · unfold ld_fOf
      repeat' split
      all_goals first | rfl | (exfalso; omega)
    · funext b_
      by_cases h0_ : b_ = 5
      · subst h0_; first | rfl | (simp (disch := omega) only [us_ne, us_eq]; done)
      by_cases h1_ : b_ = 6
      · subst h1_; first | rfl | (simp (disch := omega) only [us_ne, us_eq]; done)
      by_cases h2_ : b_ = 4
      · subst h2_; first | rfl | (simp (disch := omega) only [us_ne, us_eq]; done)
      simp only [us, h0_, h1_, h2_, if_false]
  · refine ld_iconst O (pc := 8) (v := (-1 : Int32)) dX2_ofHouse_8 (by decide) ?_
    refine ld_ireti E dX2_ofHouse_9 ?_
    refine ⟨?_, σ 4, σ 5, σ 6, ?_⟩
    · unfold ld_fOf
      repeat' split
      all_goals first | rfl | (exfalso; omega)
    · funext b_
      by_cases h0_ : b_ = 5
      · subst h0_; first | rfl | (simp (disch := omega) only [us_ne, us_eq]; done)
      by_cases h1_ : b_ = 6
      · subst h1_; first | rfl | (simp (disch := omega) only [us_ne, us_eq]; done)
      by_cases h2_ : b_ = 4
      · subst h2_; first | rfl | (simp (disch := omega) only [us_ne, us_eq]; done)
      simp only [us, h0_, h1_, h2_, if_false]
set_option maxHeartbeats 4000000 in
set_option maxRecDepth 100000 in
theorem c_X2_anger (l : Launch) (ad : Nat → Nat) (σ : ld_St) (h : Nat) (hh : σ 110 0 = nI h) (h8 : h ≤ 8) (k v : Int32) : ld_Ctr l yX2_anger cX2_anger 4 (some .int) (1, 21) [.ref (ad 0), .int k, .int v] ad σ (ld_I (fun (r : Int32) (σ2 : ld_St) => r = ld_fAn h (σ 1) k v ∧ σ2 = us σ 1 (ld_gAn h (σ 1) k v))) := by
  refine ld_entry (by decide +kernel) (Nat.le_of_ble_eq_true rfl) (fun K O E => ?_)
  have O : ld_Ok l K ad cX2_anger 4 RX2 (ld_rm (1, 21)) := O
  show K σ [(0, .ref (ad 0)), (1, .int k), (2, .int v)] [] 0
  refine ld_aload_n O (pc := 0) 0 dX2_anger_0 rfl rfl ?_
  refine ld_iload_n O (pc := 1) 1 dX2_anger_1 rfl rfl ?_
  refine ld_callVi O (pc := 2) (As := [.int k]) (st := []) ld_recv0 (c_X2_isHouse l ad σ k h hh h8) ld_mw_X2_isHouse ld_w168 rfl rfl ⟨by decide, by decide⟩ (Nat.le_of_ble_eq_true rfl) dX2_anger_2 (fun r_p2 σ_p2 h_p2 => ?_)
  obtain ⟨rfl, hσ_p2⟩ := h_p2
  rw [hσ_p2]
  show K σ [(0, .ref (ad 0)), (1, .int k), (2, .int v)] [.int (ld_b (0 ≤ (k).toInt ∧ (k).toInt < (h : Int)))] 5
  refine ld_ifb_ne O (pc := 5) 10 dX2_anger_5 (by decide) (fun c1 => ?_) (fun c1 => ?_)
  · obtain ⟨ek_k, hk_k, ik_k⟩ := ld_ofIx (k := k) (h := h) (by omega)
    rw [ek_k]
    refine ld_iload_n O (pc := 10) 2 dX2_anger_10 rfl rfl ?_
    refine ld_callSi O (pc := 11) (As := [.int v]) (st := []) (c_X2_isTemper l ad σ v) ld_mw_X2_isTemper ld_w218 rfl rfl ⟨by decide, by decide⟩ (Nat.le_of_ble_eq_true rfl) dX2_anger_11 (fun r_p11 σ_p11 h_p11 => ?_)
    obtain ⟨rfl, hσ_p11⟩ := h_p11
    rw [hσ_p11]
    show K σ [(0, .ref (ad 0)), (1, .int (nI (ld_ix k))), (2, .int v)] [.int (ld_b (0 ≤ (v).toInt ∧ (v).toInt < 10))] 14
    refine ld_ifb_ne O (pc := 14) 20 dX2_anger_14 (by decide) (fun c2 => ?_) (fun c2 => ?_)
    · refine ld_aload_n O (pc := 20) 0 dX2_anger_20 rfl rfl ?_
      refine ld_g_LD_now O (pc := 21) ld_w15 dX2_anger_21 ?_
      refine ld_g_now_temperN O (pc := 24) (List.mem_of_getElem? (i := 6) rfl) dX2_anger_24 ?_
      refine ld_iload_n O (pc := 27) 1 dX2_anger_27 rfl rfl ?_
      refine ld_iald O (pc := 28) 1 (ld_ix k) (v := σ 1 (ld_ix k)) rfl (by decide) (show ld_ix k < 8 by omega) rfl dX2_anger_28 ?_
      refine ld_istore_n O (pc := 29) [(3, .int (σ 1 (ld_ix k))), (0, .ref (ad 0)), (1, .int (nI (ld_ix k))), (2, .int v)] dX2_anger_29 rfl (by decide) rfl ?_
      refine ld_aload_n O (pc := 30) 1 dX2_anger_30 rfl rfl ?_
      refine ld_g_LD_now O (pc := 31) ld_w15 dX2_anger_31 ?_
      refine ld_g_now_temperN O (pc := 34) (List.mem_of_getElem? (i := 6) rfl) dX2_anger_34 ?_
      refine ld_iload_n O (pc := 37) 2 dX2_anger_37 rfl rfl ?_
      refine ld_iload_n O (pc := 38) 3 dX2_anger_38 rfl rfl ?_
      refine ld_iast O (pc := 39) 1 (ld_ix k) rfl (by decide) (show ld_ix k < 8 by omega) dX2_anger_39 ?_
      refine ld_iload_n O (pc := 40) 0 dX2_anger_40 rfl rfl ?_
      refine ld_ireti E dX2_anger_41 ?_
      refine ⟨?_, ?_⟩
      · unfold ld_fAn
        repeat' split
        all_goals first | rfl | (exfalso; omega)
      · unfold ld_gAn; rw [if_pos (by omega)]
    · refine ld_bipush O (pc := 17) (v := (-2 : Int32)) dX2_anger_17 (by decide) ?_
      refine ld_ireti E dX2_anger_19 ?_
      refine ⟨?_, ?_⟩
      · unfold ld_fAn
        repeat' split
        all_goals first | rfl | (exfalso; omega)
      · unfold ld_gAn; rw [if_neg (by omega), us_self]
  · refine ld_iconst O (pc := 8) (v := (-1 : Int32)) dX2_anger_8 (by decide) ?_
    refine ld_ireti E dX2_anger_9 ?_
    refine ⟨?_, ?_⟩
    · unfold ld_fAn
      repeat' split
      all_goals first | rfl | (exfalso; omega)
    · unfold ld_gAn; rw [if_neg (by omega), us_self]
set_option maxHeartbeats 4000000 in
set_option maxRecDepth 100000 in
theorem c_X2_crate (l : Launch) (ad : Nat → Nat) (σ : ld_St) (h : Nat) (hh : σ 110 0 = nI h) (h8 : h ≤ 8) (v : Int32) : ld_Ctr l yX2_crate cX2_crate 3 (some .int) (1, 20) [.ref (ad 0), .int v] ad σ (ld_I (fun (r : Int32) (σ2 : ld_St) => r = ld_fCr h (σ 111 0) v ∧ ∃ f : Nat → Int32, σ2 = us σ 111 f ∧ f 0 = ld_gCr h (σ 111 0) v)) := by
  refine ld_entry (by decide +kernel) (Nat.le_of_ble_eq_true rfl) (fun K O E => ?_)
  have O : ld_Ok l K ad cX2_crate 3 RX2 (ld_rm (1, 20)) := O
  show K σ [(0, .ref (ad 0)), (1, .int v)] [] 0
  refine ld_aload_n O (pc := 0) 0 dX2_crate_0 rfl rfl ?_
  refine ld_callVi O (pc := 1) (As := []) (st := []) ld_recv0 (c_X2_hasStreet l ad σ h hh h8) ld_mw_X2_hasStreet ld_w229 rfl rfl ⟨by decide, by decide⟩ (Nat.le_of_ble_eq_true rfl) dX2_crate_1 (fun r_p1 σ_p1 h_p1 => ?_)
  obtain ⟨rfl, hσ_p1⟩ := h_p1
  rw [hσ_p1]
  show K σ [(0, .ref (ad 0)), (1, .int v)] [.int (ld_b (0 < h))] 4
  refine ld_ifb_ne O (pc := 4) 10 dX2_crate_4 (by decide) (fun c1 => ?_) (fun c1 => ?_)
  · refine ld_iload_n O (pc := 10) 1 dX2_crate_10 rfl rfl ?_
    refine ld_callSi O (pc := 11) (As := [.int v]) (st := []) (c_X2_isCrate l ad σ v) ld_mw_X2_isCrate ld_w233 rfl rfl ⟨by decide, by decide⟩ (Nat.le_of_ble_eq_true rfl) dX2_crate_11 (fun r_p11 σ_p11 h_p11 => ?_)
    obtain ⟨rfl, hσ_p11⟩ := h_p11
    rw [hσ_p11]
    show K σ [(0, .ref (ad 0)), (1, .int v)] [.int (ld_b (0 ≤ (v).toInt ∧ (v).toInt < 100))] 14
    refine ld_ifb_ne O (pc := 14) 20 dX2_crate_14 (by decide) (fun c2 => ?_) (fun c2 => ?_)
    · refine ld_aload_n O (pc := 20) 0 dX2_crate_20 rfl rfl ?_
      refine ld_g_LD_now O (pc := 21) ld_w15 dX2_crate_21 ?_
      refine ld_g_now_crateN O (pc := 24) (v := σ 111 0) (List.mem_of_getElem? (i := 2) rfl) rfl dX2_crate_24 ?_
      refine ld_istore_n O (pc := 27) [(2, .int (σ 111 0)), (0, .ref (ad 0)), (1, .int v)] dX2_crate_27 rfl (by decide) rfl ?_
      refine ld_aload_n O (pc := 28) 1 dX2_crate_28 rfl rfl ?_
      refine ld_g_LD_now O (pc := 29) ld_w15 dX2_crate_29 ?_
      refine ld_iload_n O (pc := 32) 2 dX2_crate_32 rfl rfl ?_
      refine ld_p_now_crateN O (pc := 33) (List.mem_of_getElem? (i := 2) rfl) dX2_crate_33 ?_
      refine ld_iload_n O (pc := 36) 0 dX2_crate_36 rfl rfl ?_
      refine ld_ireti E dX2_crate_37 ?_
      refine ⟨?_, fun _ => v, rfl, ?_⟩
      · unfold ld_fCr
        repeat' split
        all_goals first | rfl | (exfalso; omega)
      · unfold ld_gCr
        repeat' split
        all_goals first | rfl | (exfalso; omega)
    · refine ld_bipush O (pc := 17) (v := (-2 : Int32)) dX2_crate_17 (by decide) ?_
      refine ld_ireti E dX2_crate_19 ?_
      refine ⟨?_, σ 111, (us_self _ _).symm, ?_⟩
      · unfold ld_fCr
        repeat' split
        all_goals first | rfl | (exfalso; omega)
      · unfold ld_gCr
        repeat' split
        all_goals first | rfl | (exfalso; omega)
  · refine ld_bipush O (pc := 7) (v := (-3 : Int32)) dX2_crate_7 (by decide) ?_
    refine ld_ireti E dX2_crate_9 ?_
    refine ⟨?_, σ 111, (us_self _ _).symm, ?_⟩
    · unfold ld_fCr
      repeat' split
      all_goals first | rfl | (exfalso; omega)
    · unfold ld_gCr
      repeat' split
      all_goals first | rfl | (exfalso; omega)
set_option maxHeartbeats 4000000 in
set_option maxRecDepth 100000 in
theorem c_X2_deal (l : Launch) (ad : Nat → Nat) (σ : ld_St) (h : Nat) (hh : σ 110 0 = nI h) (h8 : h ≤ 8) (k c : Int32) : ld_Ctr l yX2_deal cX2_deal 3 (some .int) (3, 69) [.ref (ad 0), .int k, .int c] ad σ (ld_I (fun (r : Int32) (σ2 : ld_St) => r = ld_fDe h (σ 0) (σ 1) k c ∧ ∃ f4 f5 f6 : Nat → Int32, σ2 = us (us (us σ 4 f4) 5 f5) 6 f6)) := by
  refine ld_entry (by decide +kernel) (Nat.le_of_ble_eq_true rfl) (fun K O E => ?_)
  have O : ld_Ok l K ad cX2_deal 3 RX2 (ld_rm (3, 69)) := O
  show K σ [(0, .ref (ad 0)), (1, .int k), (2, .int c)] [] 0
  refine ld_aload_n O (pc := 0) 0 dX2_deal_0 rfl rfl ?_
  refine ld_iload_n O (pc := 1) 1 dX2_deal_1 rfl rfl ?_
  refine ld_callVi O (pc := 2) (As := [.int k]) (st := []) ld_recv0 (c_X2_isHouse l ad σ k h hh h8) ld_mw_X2_isHouse ld_w168 rfl rfl ⟨by decide, by decide⟩ (Nat.le_of_ble_eq_true rfl) dX2_deal_2 (fun r_p2 σ_p2 h_p2 => ?_)
  obtain ⟨rfl, hσ_p2⟩ := h_p2
  rw [hσ_p2]
  show K σ [(0, .ref (ad 0)), (1, .int k), (2, .int c)] [.int (ld_b (0 ≤ (k).toInt ∧ (k).toInt < (h : Int)))] 5
  refine ld_ifb_ne O (pc := 5) 10 dX2_deal_5 (by decide) (fun c1 => ?_) (fun c1 => ?_)
  · obtain ⟨ek_k, hk_k, ik_k⟩ := ld_ofIx (k := k) (h := h) (by omega)
    rw [ek_k]
    refine ld_iload_n O (pc := 10) 2 dX2_deal_10 rfl rfl ?_
    refine ld_callSi O (pc := 11) (As := [.int c]) (st := []) (c_X2_isCrate l ad σ c) ld_mw_X2_isCrate ld_w233 rfl rfl ⟨by decide, by decide⟩ (Nat.le_of_ble_eq_true rfl) dX2_deal_11 (fun r_p11 σ_p11 h_p11 => ?_)
    obtain ⟨rfl, hσ_p11⟩ := h_p11
    rw [hσ_p11]
    show K σ [(0, .ref (ad 0)), (1, .int (nI (ld_ix k))), (2, .int c)] [.int (ld_b (0 ≤ (c).toInt ∧ (c).toInt < 100))] 14
    refine ld_ifb_ne O (pc := 14) 20 dX2_deal_14 (by decide) (fun c2 => ?_) (fun c2 => ?_)
    · refine ld_aload_n O (pc := 20) 0 dX2_deal_20 rfl rfl ?_
      refine ld_g_LD_now O (pc := 21) ld_w15 dX2_deal_21 ?_
      refine ld_iload_n O (pc := 24) 1 dX2_deal_24 rfl rfl ?_
      refine ld_iload_n O (pc := 25) 2 dX2_deal_25 rfl rfl ?_
      refine ld_callVNi O (pc := 26) (As := [.int (nI (ld_ix k)), .int c]) (st := []) ld_recv1 (c_X1_dealtTo_0 l ad σ h hh h8 (ld_ix k) (by omega) c) ld_mw_X1_dealtTo (List.mem_of_getElem? (i := 20) rfl) rfl rfl ⟨by decide, by decide⟩ (Nat.le_of_ble_eq_true rfl) dX2_deal_26 (fun r_p26 σ_p26 h_p26 => ?_)
      obtain ⟨f4_p26, f5_p26, f6_p26, rfl, hσ_p26⟩ := h_p26
      rw [hσ_p26]
      show K (us (us (us σ 4 f4_p26) 5 f5_p26) 6 f6_p26) [(0, .ref (ad 0)), (1, .int (nI (ld_ix k))), (2, .int c)] [.int (ld_dt h (σ 0) (σ 1) c (ld_ix k))] 29
      refine ld_ireti E dX2_deal_29 ?_
      refine ⟨?_, f4_p26, f5_p26, f6_p26, ?_⟩
      · unfold ld_fDe
        repeat' split
        all_goals first | rfl | (exfalso; omega)
      · funext b_
        by_cases h0_ : b_ = 4
        · subst h0_; first | rfl | (simp (disch := omega) only [us_ne, us_eq]; done)
        by_cases h1_ : b_ = 5
        · subst h1_; first | rfl | (simp (disch := omega) only [us_ne, us_eq]; done)
        by_cases h2_ : b_ = 6
        · subst h2_; first | rfl | (simp (disch := omega) only [us_ne, us_eq]; done)
        simp only [us, h0_, h1_, h2_, if_false]
    · refine ld_bipush O (pc := 17) (v := (-2 : Int32)) dX2_deal_17 (by decide) ?_
      refine ld_ireti E dX2_deal_19 ?_
      refine ⟨?_, σ 4, σ 5, σ 6, ?_⟩
      · unfold ld_fDe
        repeat' split
        all_goals first | rfl | (exfalso; omega)
      · funext b_
        by_cases h0_ : b_ = 5
        · subst h0_; first | rfl | (simp (disch := omega) only [us_ne, us_eq]; done)
        by_cases h1_ : b_ = 6
        · subst h1_; first | rfl | (simp (disch := omega) only [us_ne, us_eq]; done)
        by_cases h2_ : b_ = 4
        · subst h2_; first | rfl | (simp (disch := omega) only [us_ne, us_eq]; done)
        simp only [us, h0_, h1_, h2_, if_false]
  · refine ld_iconst O (pc := 8) (v := (-1 : Int32)) dX2_deal_8 (by decide) ?_
    refine ld_ireti E dX2_deal_9 ?_
    refine ⟨?_, σ 4, σ 5, σ 6, ?_⟩
    · unfold ld_fDe
      repeat' split
      all_goals first | rfl | (exfalso; omega)
    · funext b_
      by_cases h0_ : b_ = 5
      · subst h0_; first | rfl | (simp (disch := omega) only [us_ne, us_eq]; done)
      by_cases h1_ : b_ = 6
      · subst h1_; first | rfl | (simp (disch := omega) only [us_ne, us_eq]; done)
      by_cases h2_ : b_ = 4
      · subst h2_; first | rfl | (simp (disch := omega) only [us_ne, us_eq]; done)
      simp only [us, h0_, h1_, h2_, if_false]
set_option maxHeartbeats 4000000 in
set_option maxRecDepth 100000 in
theorem c_X2_weeks (l : Launch) (ad : Nat → Nat) (σ : ld_St) (h : Nat) (hh : σ 110 0 = nI h) (h8 : h ≤ 8) (n : Int32) : ld_Ctr l yX2_weeks cX2_weeks 2 (some .int) (4, 90) [.ref (ad 0), .int n] ad σ (ld_I (fun (r : Int32) (σ2 : ld_St) => r = ld_fWk h (σ 111 0) (σ 0) (σ 1, σ 2, σ 3) n ∧ ∃ ft fs fp f4 f5 f6 fw fl : Nat → Int32, σ2 = us (us (us (us (us (us (us (us σ 1 ft) 2 fs) 3 fp) 4 f4) 5 f5) 6 f6) 112 fw) 113 fl ∧ ld_eqv h (ft, fs, fp) (ld_wks h (σ 111 0) (σ 0) (σ 1, σ 2, σ 3) (ld_gWk h n)) ∧ fw 0 = σ 112 0 + nI (ld_gWk h n))) := by
  refine ld_entry (by decide +kernel) (Nat.le_of_ble_eq_true rfl) (fun K O E => ?_)
  have O : ld_Ok l K ad cX2_weeks 2 RX2 (ld_rm (4, 90)) := O
  show K σ [(0, .ref (ad 0)), (1, .int n)] [] 0
  refine ld_iload_n O (pc := 0) 1 dX2_weeks_0 rfl rfl ?_
  refine ld_iconst O (pc := 1) (v := nI 1) dX2_weeks_1 (by decide) ?_
  refine ld_icmp_lt O (pc := 2) (n).toInt 1 rfl (by decide) 11 dX2_weeks_2 (by decide) (fun c1 => ?_) (fun c1 => ?_)
  · refine ld_bipush O (pc := 11) (v := (-2 : Int32)) dX2_weeks_11 (by decide) ?_
    refine ld_ireti E dX2_weeks_13 ?_
    refine ⟨?_, σ 1, σ 2, σ 3, σ 4, σ 5, σ 6, σ 112, σ 113, ?_, ?_, ?_⟩
    · unfold ld_fWk
      repeat' split
      all_goals first | rfl | (exfalso; omega)
    · funext b_
      by_cases h0_ : b_ = 2
      · subst h0_; first | rfl | (simp (disch := omega) only [us_ne, us_eq]; done)
      by_cases h1_ : b_ = 3
      · subst h1_; first | rfl | (simp (disch := omega) only [us_ne, us_eq]; done)
      by_cases h2_ : b_ = 4
      · subst h2_; first | rfl | (simp (disch := omega) only [us_ne, us_eq]; done)
      by_cases h3_ : b_ = 5
      · subst h3_; first | rfl | (simp (disch := omega) only [us_ne, us_eq]; done)
      by_cases h4_ : b_ = 6
      · subst h4_; first | rfl | (simp (disch := omega) only [us_ne, us_eq]; done)
      by_cases h5_ : b_ = 112
      · subst h5_; first | rfl | (simp (disch := omega) only [us_ne, us_eq]; done)
      by_cases h6_ : b_ = 113
      · subst h6_; first | rfl | (simp (disch := omega) only [us_ne, us_eq]; done)
      by_cases h7_ : b_ = 1
      · subst h7_; first | rfl | (simp (disch := omega) only [us_ne, us_eq]; done)
      simp only [us, h0_, h1_, h2_, h3_, h4_, h5_, h6_, h7_, if_false]
    · unfold ld_gWk
      rw [if_neg (by omega)]
      exact ld_eqv.rf
    · unfold ld_gWk
      rw [if_neg (by omega)]
      exact (Int32.add_zero _).symm
  · refine ld_iload_n O (pc := 5) 1 dX2_weeks_5 rfl rfl ?_
    refine ld_bipush O (pc := 6) (v := nI 60) dX2_weeks_6 (by decide) ?_
    refine ld_icmp_le O (pc := 8) (n).toInt 60 rfl (by decide) 14 dX2_weeks_8 (by decide) (fun c2 => ?_) (fun c2 => ?_)
    · refine ld_aload_n O (pc := 14) 0 dX2_weeks_14 rfl rfl ?_
      refine ld_callVi O (pc := 15) (As := []) (st := []) ld_recv0 (c_X2_hasStreet l ad σ h hh h8) ld_mw_X2_hasStreet ld_w229 rfl rfl ⟨by decide, by decide⟩ (Nat.le_of_ble_eq_true rfl) dX2_weeks_15 (fun r_p15 σ_p15 h_p15 => ?_)
      obtain ⟨rfl, hσ_p15⟩ := h_p15
      rw [hσ_p15]
      show K σ [(0, .ref (ad 0)), (1, .int n)] [.int (ld_b (0 < h))] 18
      refine ld_ifb_ne O (pc := 18) 24 dX2_weeks_18 (by decide) (fun c3 => ?_) (fun c3 => ?_)
      · obtain ⟨ek_, hk_, ik_⟩ := ld_ofIx (k := n) (h := 61) (by omega)
        rw [ek_]
        refine ld_aload_n O (pc := 24) 0 dX2_weeks_24 rfl rfl ?_
        refine ld_g_LD_now O (pc := 25) ld_w15 dX2_weeks_25 ?_
        refine ld_iload_n O (pc := 28) 1 dX2_weeks_28 rfl rfl ?_
        refine ld_callVNv O (pc := 29) (As := [.int (nI (ld_ix n))]) (st := []) ld_recv1 (c_X1_passWeeks_0 l ad σ h hh h8 (ld_ix n) (by omega)) ld_mw_X1_passWeeks (List.mem_of_getElem? (i := 21) rfl) rfl rfl ⟨by decide, by decide⟩ (Nat.le_of_ble_eq_true rfl) dX2_weeks_29 (fun σ_p29 h_p29 => ?_)
        obtain ⟨ft_p29, fs_p29, fp_p29, f4_p29, f5_p29, f6_p29, fw_p29, fl_p29, hσ_p29, he_p29, hw_p29, hl_p29⟩ := h_p29
        rw [hσ_p29]
        have he_p29 : ld_eqv h (ft_p29, fs_p29, fp_p29) (ld_wks h (σ 111 0) (σ 0) (σ 1, σ 2, σ 3) (ld_ix n)) := he_p29
        have hw_p29 : fw_p29 0 = (σ 112 0) + nI (ld_ix n) := hw_p29
        have hl_p29 : fl_p29 0 = (σ 113 0) + nI (ld_lw h (σ 111 0) (σ 0) (σ 1, σ 2, σ 3) (ld_ix n)) := hl_p29
        show K (us (us (us (us (us (us (us (us σ 1 ft_p29) 2 fs_p29) 3 fp_p29) 4 f4_p29) 5 f5_p29) 6 f6_p29) 112 fw_p29) 113 fl_p29) [(0, .ref (ad 0)), (1, .int (nI (ld_ix n)))] [] 32
        refine ld_aload_n O (pc := 32) 0 dX2_weeks_32 rfl rfl ?_
        refine ld_g_LD_now O (pc := 33) ld_w15 dX2_weeks_33 ?_
        refine ld_callVNi O (pc := 36) (As := []) (st := []) ld_recv1 (c_X1_without_0 l ad (us (us (us (us (us (us (us (us σ 1 ft_p29) 2 fs_p29) 3 fp_p29) 4 f4_p29) 5 f5_p29) 6 f6_p29) 112 fw_p29) 113 fl_p29) h hh h8) ld_mw_X1_withoutStock (List.mem_of_getElem? (i := 22) rfl) rfl rfl ⟨by decide, by decide⟩ (Nat.le_of_ble_eq_true rfl) dX2_weeks_36 (fun r_p36 σ_p36 h_p36 => ?_)
        obtain ⟨rfl, hσ_p36⟩ := h_p36
        rw [hσ_p36]
        show K (us (us (us (us (us (us (us (us σ 1 ft_p29) 2 fs_p29) 3 fp_p29) 4 f4_p29) 5 f5_p29) 6 f6_p29) 112 fw_p29) 113 fl_p29) [(0, .ref (ad 0)), (1, .int (nI (ld_ix n)))] [.int (nI (ld_wo h fs_p29))] 39
        refine ld_ireti E dX2_weeks_39 ?_
        refine ⟨?_, ft_p29, fs_p29, fp_p29, f4_p29, f5_p29, f6_p29, fw_p29, fl_p29, ?_, ?_, ?_⟩
        · unfold ld_fWk
          rw [if_pos (by omega), if_pos (by omega), ld_wo_cong (fun x hx => (he_p29 x hx).2.1)]
        · funext b_
          by_cases h0_ : b_ = 1
          · subst h0_; first | rfl | (simp (disch := omega) only [us_ne, us_eq]; done)
          by_cases h1_ : b_ = 2
          · subst h1_; first | rfl | (simp (disch := omega) only [us_ne, us_eq]; done)
          by_cases h2_ : b_ = 3
          · subst h2_; first | rfl | (simp (disch := omega) only [us_ne, us_eq]; done)
          by_cases h3_ : b_ = 4
          · subst h3_; first | rfl | (simp (disch := omega) only [us_ne, us_eq]; done)
          by_cases h4_ : b_ = 5
          · subst h4_; first | rfl | (simp (disch := omega) only [us_ne, us_eq]; done)
          by_cases h5_ : b_ = 6
          · subst h5_; first | rfl | (simp (disch := omega) only [us_ne, us_eq]; done)
          by_cases h6_ : b_ = 112
          · subst h6_; first | rfl | (simp (disch := omega) only [us_ne, us_eq]; done)
          by_cases h7_ : b_ = 113
          · subst h7_; first | rfl | (simp (disch := omega) only [us_ne, us_eq]; done)
          simp only [us, h0_, h1_, h2_, h3_, h4_, h5_, h6_, h7_, if_false]
        · unfold ld_gWk
          rw [if_pos (by omega)]
          exact he_p29
        · unfold ld_gWk
          rw [if_pos (by omega)]
          exact hw_p29
      · refine ld_bipush O (pc := 21) (v := (-3 : Int32)) dX2_weeks_21 (by decide) ?_
        refine ld_ireti E dX2_weeks_23 ?_
        refine ⟨?_, σ 1, σ 2, σ 3, σ 4, σ 5, σ 6, σ 112, σ 113, ?_, ?_, ?_⟩
        · unfold ld_fWk
          repeat' split
          all_goals first | rfl | (exfalso; omega)
        · funext b_
          by_cases h0_ : b_ = 2
          · subst h0_; first | rfl | (simp (disch := omega) only [us_ne, us_eq]; done)
          by_cases h1_ : b_ = 3
          · subst h1_; first | rfl | (simp (disch := omega) only [us_ne, us_eq]; done)
          by_cases h2_ : b_ = 4
          · subst h2_; first | rfl | (simp (disch := omega) only [us_ne, us_eq]; done)
          by_cases h3_ : b_ = 5
          · subst h3_; first | rfl | (simp (disch := omega) only [us_ne, us_eq]; done)
          by_cases h4_ : b_ = 6
          · subst h4_; first | rfl | (simp (disch := omega) only [us_ne, us_eq]; done)
          by_cases h5_ : b_ = 112
          · subst h5_; first | rfl | (simp (disch := omega) only [us_ne, us_eq]; done)
          by_cases h6_ : b_ = 113
          · subst h6_; first | rfl | (simp (disch := omega) only [us_ne, us_eq]; done)
          by_cases h7_ : b_ = 1
          · subst h7_; first | rfl | (simp (disch := omega) only [us_ne, us_eq]; done)
          simp only [us, h0_, h1_, h2_, h3_, h4_, h5_, h6_, h7_, if_false]
        · unfold ld_gWk
          rw [if_neg (by omega)]
          exact ld_eqv.rf
        · unfold ld_gWk
          rw [if_neg (by omega)]
          exact (Int32.add_zero _).symm
    · refine ld_bipush O (pc := 11) (v := (-2 : Int32)) dX2_weeks_11 (by decide) ?_
      refine ld_ireti E dX2_weeks_13 ?_
      refine ⟨?_, σ 1, σ 2, σ 3, σ 4, σ 5, σ 6, σ 112, σ 113, ?_, ?_, ?_⟩
      · unfold ld_fWk
        repeat' split
        all_goals first | rfl | (exfalso; omega)
      · funext b_
        by_cases h0_ : b_ = 2
        · subst h0_; first | rfl | (simp (disch := omega) only [us_ne, us_eq]; done)
        by_cases h1_ : b_ = 3
        · subst h1_; first | rfl | (simp (disch := omega) only [us_ne, us_eq]; done)
        by_cases h2_ : b_ = 4
        · subst h2_; first | rfl | (simp (disch := omega) only [us_ne, us_eq]; done)
        by_cases h3_ : b_ = 5
        · subst h3_; first | rfl | (simp (disch := omega) only [us_ne, us_eq]; done)
        by_cases h4_ : b_ = 6
        · subst h4_; first | rfl | (simp (disch := omega) only [us_ne, us_eq]; done)
        by_cases h5_ : b_ = 112
        · subst h5_; first | rfl | (simp (disch := omega) only [us_ne, us_eq]; done)
        by_cases h6_ : b_ = 113
        · subst h6_; first | rfl | (simp (disch := omega) only [us_ne, us_eq]; done)
        by_cases h7_ : b_ = 1
        · subst h7_; first | rfl | (simp (disch := omega) only [us_ne, us_eq]; done)
        simp only [us, h0_, h1_, h2_, h3_, h4_, h5_, h6_, h7_, if_false]
      · unfold ld_gWk
        rw [if_neg (by omega)]
        exact ld_eqv.rf
      · unfold ld_gWk
        rw [if_neg (by omega)]
        exact (Int32.add_zero _).symm
set_option maxHeartbeats 4000000 in
set_option maxRecDepth 100000 in
theorem c_X2_gift (l : Launch) (ad : Nat → Nat) (σ : ld_St) (h : Nat) (hh : σ 110 0 = nI h) (h8 : h ≤ 8) (k : Int32) : ld_Ctr l yX2_gift cX2_gift 2 (some .int) (1, 21) [.ref (ad 0), .int k] ad σ (ld_I (fun (r : Int32) (σ2 : ld_St) => r = ld_fGi h (σ 2) k ∧ σ2 = us σ 2 (ld_gGi h (σ 2) k))) := by
  refine ld_entry (by decide +kernel) (Nat.le_of_ble_eq_true rfl) (fun K O E => ?_)
  have O : ld_Ok l K ad cX2_gift 2 RX2 (ld_rm (1, 21)) := O
  show K σ [(0, .ref (ad 0)), (1, .int k)] [] 0
  refine ld_aload_n O (pc := 0) 0 dX2_gift_0 rfl rfl ?_
  refine ld_iload_n O (pc := 1) 1 dX2_gift_1 rfl rfl ?_
  refine ld_callVi O (pc := 2) (As := [.int k]) (st := []) ld_recv0 (c_X2_isHouse l ad σ k h hh h8) ld_mw_X2_isHouse ld_w168 rfl rfl ⟨by decide, by decide⟩ (Nat.le_of_ble_eq_true rfl) dX2_gift_2 (fun r_p2 σ_p2 h_p2 => ?_)
  obtain ⟨rfl, hσ_p2⟩ := h_p2
  rw [hσ_p2]
  show K σ [(0, .ref (ad 0)), (1, .int k)] [.int (ld_b (0 ≤ (k).toInt ∧ (k).toInt < (h : Int)))] 5
  refine ld_ifb_ne O (pc := 5) 10 dX2_gift_5 (by decide) (fun c1 => ?_) (fun c1 => ?_)
  · obtain ⟨ek_k, hk_k, ik_k⟩ := ld_ofIx (k := k) (h := h) (by omega)
    rw [ek_k]
    refine ld_aload_n O (pc := 10) 0 dX2_gift_10 rfl rfl ?_
    refine ld_g_LD_now O (pc := 11) ld_w15 dX2_gift_11 ?_
    refine ld_iload_n O (pc := 14) 1 dX2_gift_14 rfl rfl ?_
    refine ld_callVNi O (pc := 15) (As := [.int (nI (ld_ix k))]) (st := []) ld_recv1 (c_X1_give_0 l ad σ h hh h8 (ld_ix k) (by omega)) ld_mw_X1_giveOneFrom (List.mem_of_getElem? (i := 23) rfl) rfl rfl ⟨by decide, by decide⟩ (Nat.le_of_ble_eq_true rfl) dX2_gift_15 (fun r_p15 σ_p15 h_p15 => ?_)
    obtain ⟨rfl, fg_p15, hσ_p15, hg_p15⟩ := h_p15
    rw [hσ_p15]
    have hg_p15 : (0 < (σ 2 (ld_ix k)).toInt → fg_p15 = ld_gv h (σ 2) (ld_ix k)) ∧ (¬ 0 < (σ 2 (ld_ix k)).toInt → fg_p15 = σ 2) := hg_p15
    show K (us σ 2 fg_p15) [(0, .ref (ad 0)), (1, .int (nI (ld_ix k)))] [.int (ld_b (0 < (σ 2 (ld_ix k)).toInt))] 18
    refine ld_ifb_ne O (pc := 18) 24 dX2_gift_18 (by decide) (fun c2 => ?_) (fun c2 => ?_)
    · refine ld_aload_n O (pc := 24) 0 dX2_gift_24 rfl rfl ?_
      refine ld_g_LD_now O (pc := 25) ld_w15 dX2_gift_25 ?_
      refine ld_g_now_stockN O (pc := 28) (List.mem_of_getElem? (i := 7) rfl) dX2_gift_28 ?_
      refine ld_iload_n O (pc := 31) 1 dX2_gift_31 rfl rfl ?_
      refine ld_iald O (pc := 32) 2 (ld_ix k) (v := fg_p15 (ld_ix k)) rfl (by decide) (show ld_ix k < 8 by omega) rfl dX2_gift_32 ?_
      refine ld_ireti E dX2_gift_33 ?_
      rw [hg_p15.1 c2]
      refine ⟨?_, ?_⟩
      · unfold ld_fGi
        repeat' split
        all_goals first | rfl | (exfalso; omega)
      · unfold ld_gGi; rw [if_pos ⟨by omega, c2⟩]
    · refine ld_bipush O (pc := 21) (v := (-3 : Int32)) dX2_gift_21 (by decide) ?_
      refine ld_ireti E dX2_gift_23 ?_
      rw [hg_p15.2 c2]
      refine ⟨?_, ?_⟩
      · unfold ld_fGi
        repeat' split
        all_goals first | rfl | (exfalso; omega)
      · unfold ld_gGi; rw [if_neg (fun z => c2 z.2)]
  · refine ld_iconst O (pc := 8) (v := (-1 : Int32)) dX2_gift_8 (by decide) ?_
    refine ld_ireti E dX2_gift_9 ?_
    refine ⟨?_, ?_⟩
    · unfold ld_fGi
      repeat' split
      all_goals first | rfl | (exfalso; omega)
    · unfold ld_gGi; rw [if_neg (fun z => absurd z.1 (by omega)), us_self]
set_option maxHeartbeats 4000000 in
set_option maxRecDepth 100000 in
theorem c_X2_reading (l : Launch) (ad : Nat → Nat) (σ : ld_St) (h : Nat) (hh : σ 110 0 = nI h) (h8 : h ≤ 8) (q : Nat) (hq : σ 100 0 = nI q) (q8 : q ≤ 8) (k v : Int32) : ld_Ctr l yX2_reading cX2_reading 3 (some .int) (1, 21) [.ref (ad 0), .int k, .int v] ad σ (ld_I (fun (r : Int32) (σ2 : ld_St) => r = ld_fRe h q k v ∧ ∃ a b f : Nat → Int32, σ2 = us (us (us σ 14 a) 15 b) 100 f ∧ a = @ite _ (ld_oRe h q k v) (Classical.propDecidable _) (upd (σ 14) q k) (σ 14) ∧ b = @ite _ (ld_oRe h q k v) (Classical.propDecidable _) (upd (σ 15) q v) (σ 15) ∧ f 0 = @ite _ (ld_oRe h q k v) (Classical.propDecidable _) (nI (q + 1)) (nI q))) := by
  refine ld_entry (by decide +kernel) (Nat.le_of_ble_eq_true rfl) (fun K O E => ?_)
  have O : ld_Ok l K ad cX2_reading 3 RX2 (ld_rm (1, 21)) := O
  show K σ [(0, .ref (ad 0)), (1, .int k), (2, .int v)] [] 0
  refine ld_aload_n O (pc := 0) 0 dX2_reading_0 rfl rfl ?_
  refine ld_iload_n O (pc := 1) 1 dX2_reading_1 rfl rfl ?_
  refine ld_callVi O (pc := 2) (As := [.int k]) (st := []) ld_recv0 (c_X2_isHouse l ad σ k h hh h8) ld_mw_X2_isHouse ld_w168 rfl rfl ⟨by decide, by decide⟩ (Nat.le_of_ble_eq_true rfl) dX2_reading_2 (fun r_p2 σ_p2 h_p2 => ?_)
  obtain ⟨rfl, hσ_p2⟩ := h_p2
  rw [hσ_p2]
  show K σ [(0, .ref (ad 0)), (1, .int k), (2, .int v)] [.int (ld_b (0 ≤ (k).toInt ∧ (k).toInt < (h : Int)))] 5
  refine ld_ifb_ne O (pc := 5) 10 dX2_reading_5 (by decide) (fun c1 => ?_) (fun c1 => ?_)
  · obtain ⟨ek_k, hk_k, ik_k⟩ := ld_ofIx (k := k) (h := h) (by omega)
    rw [ek_k]
    refine ld_iload_n O (pc := 10) 2 dX2_reading_10 rfl rfl ?_
    refine ld_callSi O (pc := 11) (As := [.int v]) (st := []) (c_X2_isCrate l ad σ v) ld_mw_X2_isCrate ld_w233 rfl rfl ⟨by decide, by decide⟩ (Nat.le_of_ble_eq_true rfl) dX2_reading_11 (fun r_p11 σ_p11 h_p11 => ?_)
    obtain ⟨rfl, hσ_p11⟩ := h_p11
    rw [hσ_p11]
    show K σ [(0, .ref (ad 0)), (1, .int (nI (ld_ix k))), (2, .int v)] [.int (ld_b (0 ≤ (v).toInt ∧ (v).toInt < 100))] 14
    refine ld_ifb_ne O (pc := 14) 20 dX2_reading_14 (by decide) (fun c2 => ?_) (fun c2 => ?_)
    · refine ld_aload_n O (pc := 20) 0 dX2_reading_20 rfl rfl ?_
      refine ld_g_LD_readings O (pc := 21) (v := nI q) ld_w22 hq dX2_reading_21 ?_
      refine ld_bipush O (pc := 24) (v := nI 8) dX2_reading_24 (by decide) ?_
      refine ld_icmp_lt O (pc := 26) ((q : Nat) : Int) 8 (nI_toInt (by omega)) (by decide) 32 dX2_reading_26 (by decide) (fun c3 => ?_) (fun c3 => ?_)
      · refine ld_aload_n O (pc := 32) 0 dX2_reading_32 rfl rfl ?_
        refine ld_g_LD_readHouse O (pc := 33) ld_w20 dX2_reading_33 ?_
        refine ld_aload_n O (pc := 36) 0 dX2_reading_36 rfl rfl ?_
        refine ld_g_LD_readings O (pc := 37) (v := nI q) ld_w22 hq dX2_reading_37 ?_
        refine ld_iload_n O (pc := 40) 1 dX2_reading_40 rfl rfl ?_
        refine ld_iast O (pc := 41) 14 q rfl (by decide) (show q < 8 by omega) dX2_reading_41 ?_
        refine ld_aload_n O (pc := 42) 0 dX2_reading_42 rfl rfl ?_
        refine ld_g_LD_readDealt O (pc := 43) ld_w21 dX2_reading_43 ?_
        refine ld_aload_n O (pc := 46) 0 dX2_reading_46 rfl rfl ?_
        refine ld_g_LD_readings O (pc := 47) (v := nI q) ld_w22 hq dX2_reading_47 ?_
        refine ld_iload_n O (pc := 50) 2 dX2_reading_50 rfl rfl ?_
        refine ld_iast O (pc := 51) 15 q rfl (by decide) (show q < 8 by omega) dX2_reading_51 ?_
        refine ld_aload_n O (pc := 52) 0 dX2_reading_52 rfl rfl ?_
        refine ld_dup O (pc := 53) dX2_reading_53 rfl ?_
        refine ld_g_LD_readings O (pc := 54) (v := nI q) ld_w22 hq dX2_reading_54 ?_
        refine ld_iconst O (pc := 57) (v := nI 1) dX2_reading_57 (by decide) ?_
        refine ld_iaddN O (pc := 58) dX2_reading_58 ?_
        refine ld_p_LD_readings O (pc := 59) ld_w22 dX2_reading_59 ?_
        refine ld_aload_n O (pc := 62) 0 dX2_reading_62 rfl rfl ?_
        refine ld_g_LD_readings O (pc := 63) (v := nI (q + 1)) ld_w22 rfl dX2_reading_63 ?_
        refine ld_iconst O (pc := 66) (v := nI 1) dX2_reading_66 (by decide) ?_
        refine ld_isubN O (pc := 67) (by omega) dX2_reading_67 ?_
        refine ld_ireti E dX2_reading_68 ?_
        refine ⟨?_, upd (σ 14) q (nI (ld_ix k)), upd (σ 15) q v, fun _ => nI (q + 1), ?_, ?_, ?_, ?_⟩
        · show nI (q + 1 - 1) = _
          unfold ld_fRe
          rw [if_pos (by omega), if_pos (by omega), if_pos (by omega)]
          rfl
        · funext b_
          by_cases h0_ : b_ = 14
          · subst h0_; first | rfl | (simp (disch := omega) only [us_ne, us_eq]; done)
          by_cases h1_ : b_ = 15
          · subst h1_; first | rfl | (simp (disch := omega) only [us_ne, us_eq]; done)
          by_cases h2_ : b_ = 100
          · subst h2_; first | rfl | (simp (disch := omega) only [us_ne, us_eq]; done)
          simp only [us, h0_, h1_, h2_, if_false]
        · rw [if_pos ⟨by omega, by omega, by omega⟩, ← ek_k]
        · rw [if_pos ⟨by omega, by omega, by omega⟩]
        · rw [if_pos ⟨by omega, by omega, by omega⟩]
      · refine ld_bipush O (pc := 29) (v := (-4 : Int32)) dX2_reading_29 (by decide) ?_
        refine ld_ireti E dX2_reading_31 ?_
        refine ⟨?_, σ 14, σ 15, σ 100, ?_, ?_, ?_, ?_⟩
        · unfold ld_fRe
          repeat' split
          all_goals first | rfl | (exfalso; omega)
        · funext b_
          by_cases h0_ : b_ = 15
          · subst h0_; first | rfl | (simp (disch := omega) only [us_ne, us_eq]; done)
          by_cases h1_ : b_ = 100
          · subst h1_; first | rfl | (simp (disch := omega) only [us_ne, us_eq]; done)
          by_cases h2_ : b_ = 14
          · subst h2_; first | rfl | (simp (disch := omega) only [us_ne, us_eq]; done)
          simp only [us, h0_, h1_, h2_, if_false]
        · rw [if_neg (fun z => by have z1 := z.1; have z2 := z.2.1; have z3 := z.2.2; omega)]
        · rw [if_neg (fun z => by have z1 := z.1; have z2 := z.2.1; have z3 := z.2.2; omega)]
        · rw [if_neg (fun z => by have z1 := z.1; have z2 := z.2.1; have z3 := z.2.2; omega)]; exact hq
    · refine ld_bipush O (pc := 17) (v := (-2 : Int32)) dX2_reading_17 (by decide) ?_
      refine ld_ireti E dX2_reading_19 ?_
      refine ⟨?_, σ 14, σ 15, σ 100, ?_, ?_, ?_, ?_⟩
      · unfold ld_fRe
        repeat' split
        all_goals first | rfl | (exfalso; omega)
      · funext b_
        by_cases h0_ : b_ = 15
        · subst h0_; first | rfl | (simp (disch := omega) only [us_ne, us_eq]; done)
        by_cases h1_ : b_ = 100
        · subst h1_; first | rfl | (simp (disch := omega) only [us_ne, us_eq]; done)
        by_cases h2_ : b_ = 14
        · subst h2_; first | rfl | (simp (disch := omega) only [us_ne, us_eq]; done)
        simp only [us, h0_, h1_, h2_, if_false]
      · rw [if_neg (fun z => by have z1 := z.1; have z2 := z.2.1; have z3 := z.2.2; omega)]
      · rw [if_neg (fun z => by have z1 := z.1; have z2 := z.2.1; have z3 := z.2.2; omega)]
      · rw [if_neg (fun z => by have z1 := z.1; have z2 := z.2.1; have z3 := z.2.2; omega)]; exact hq
  · refine ld_iconst O (pc := 8) (v := (-1 : Int32)) dX2_reading_8 (by decide) ?_
    refine ld_ireti E dX2_reading_9 ?_
    refine ⟨?_, σ 14, σ 15, σ 100, ?_, ?_, ?_, ?_⟩
    · unfold ld_fRe
      repeat' split
      all_goals first | rfl | (exfalso; omega)
    · funext b_
      by_cases h0_ : b_ = 15
      · subst h0_; first | rfl | (simp (disch := omega) only [us_ne, us_eq]; done)
      by_cases h1_ : b_ = 100
      · subst h1_; first | rfl | (simp (disch := omega) only [us_ne, us_eq]; done)
      by_cases h2_ : b_ = 14
      · subst h2_; first | rfl | (simp (disch := omega) only [us_ne, us_eq]; done)
      simp only [us, h0_, h1_, h2_, if_false]
    · rw [if_neg (fun z => by have z1 := z.1; have z2 := z.2.1; have z3 := z.2.2; omega)]
    · rw [if_neg (fun z => by have z1 := z.1; have z2 := z.2.1; have z3 := z.2.2; omega)]
    · rw [if_neg (fun z => by have z1 := z.1; have z2 := z.2.1; have z3 := z.2.2; omega)]; exact hq
set_option maxHeartbeats 4000000 in
set_option maxRecDepth 100000 in
theorem c_X2_back (l : Launch) (ad : Nat → Nat) (σ : ld_St) (q : Nat) (hq : σ 100 0 = nI q) (q8 : q ≤ 8) (k : Int32) : ld_Ctr l yX2_back cX2_back 2 (some .int) (0, 0) [.ref (ad 0), .int k] ad σ (ld_I (fun (r : Int32) (σ2 : ld_St) => r = ld_fBa q k ∧ ∃ f : Nat → Int32, σ2 = us σ 100 f ∧ f 0 = nI (ld_gBa q k))) := by
  refine ld_entry (by decide +kernel) (Nat.le_of_ble_eq_true rfl) (fun K O E => ?_)
  have O : ld_Ok l K ad cX2_back 2 RX2 (ld_rm (0, 0)) := O
  show K σ [(0, .ref (ad 0)), (1, .int k)] [] 0
  refine ld_iload_n O (pc := 0) 1 dX2_back_0 rfl rfl ?_
  refine ld_if_lt O (pc := 1) (k).toInt rfl 12 dX2_back_1 (by decide) (fun c1 => ?_) (fun c1 => ?_)
  · refine ld_bipush O (pc := 12) (v := (-2 : Int32)) dX2_back_12 (by decide) ?_
    refine ld_ireti E dX2_back_14 ?_
    refine ⟨?_, σ 100, (us_self _ _).symm, ?_⟩
    · unfold ld_fBa
      repeat' split
      all_goals first | rfl | (exfalso; omega)
    · unfold ld_gBa; rw [if_neg (by omega)]; exact hq
  · refine ld_iload_n O (pc := 4) 1 dX2_back_4 rfl rfl ?_
    refine ld_aload_n O (pc := 5) 0 dX2_back_5 rfl rfl ?_
    refine ld_g_LD_readings O (pc := 6) (v := nI q) ld_w22 hq dX2_back_6 ?_
    refine ld_icmp_le O (pc := 9) (k).toInt ((q : Nat) : Int) rfl (nI_toInt (by omega)) 15 dX2_back_9 (by decide) (fun c2 => ?_) (fun c2 => ?_)
    · obtain ⟨ek_, hk_, ik_⟩ := ld_ofIx (k := k) (h := q + 1) (by omega)
      rw [ek_]
      refine ld_aload_n O (pc := 15) 0 dX2_back_15 rfl rfl ?_
      refine ld_dup O (pc := 16) dX2_back_16 rfl ?_
      refine ld_g_LD_readings O (pc := 17) (v := nI q) ld_w22 hq dX2_back_17 ?_
      refine ld_iload_n O (pc := 20) 1 dX2_back_20 rfl rfl ?_
      refine ld_isubN O (pc := 21) (by omega) dX2_back_21 ?_
      refine ld_p_LD_readings O (pc := 22) ld_w22 dX2_back_22 ?_
      refine ld_aload_n O (pc := 25) 0 dX2_back_25 rfl rfl ?_
      refine ld_g_LD_readings O (pc := 26) (v := nI (q - (ld_ix k))) ld_w22 rfl dX2_back_26 ?_
      refine ld_ireti E dX2_back_29 ?_
      refine ⟨?_, fun _ => nI (q - (ld_ix k)), rfl, ?_⟩
      · unfold ld_fBa
        repeat' split
        all_goals first | rfl | (exfalso; omega)
      · unfold ld_gBa; rw [if_pos (by omega)]
    · refine ld_bipush O (pc := 12) (v := (-2 : Int32)) dX2_back_12 (by decide) ?_
      refine ld_ireti E dX2_back_14 ?_
      refine ⟨?_, σ 100, (us_self _ _).symm, ?_⟩
      · unfold ld_fBa
        repeat' split
        all_goals first | rfl | (exfalso; omega)
      · unfold ld_gBa; rw [if_neg (by omega)]; exact hq
set_option maxHeartbeats 4000000 in
set_option maxRecDepth 100000 in
theorem c_X2_tell (l : Launch) (ad : Nat → Nat) (σ : ld_St) (h : Nat) (hh : σ 110 0 = nI h) (h8 : h ≤ 8) (k : Int32) : ld_Ctr l yX2_tell cX2_tell 2 (some .int) (4, 85) [.ref (ad 0), .int k] ad σ (ld_I (fun (r : Int32) (σ2 : ld_St) => r = ld_fTe h (σ 0) (σ 1) k ∧ ∃ f : Nat → Int32, σ2 = us σ 101 f ∧ f 0 = ld_gTe h (σ 0) (σ 101 0) k)) := by
  refine ld_entry (by decide +kernel) (Nat.le_of_ble_eq_true rfl) (fun K O E => ?_)
  have O : ld_Ok l K ad cX2_tell 2 RX2 (ld_rm (4, 85)) := O
  show K σ [(0, .ref (ad 0)), (1, .int k)] [] 0
  refine ld_aload_n O (pc := 0) 0 dX2_tell_0 rfl rfl ?_
  refine ld_iload_n O (pc := 1) 1 dX2_tell_1 rfl rfl ?_
  refine ld_callVi O (pc := 2) (As := [.int k]) (st := []) ld_recv0 (c_X2_isHouse l ad σ k h hh h8) ld_mw_X2_isHouse ld_w168 rfl rfl ⟨by decide, by decide⟩ (Nat.le_of_ble_eq_true rfl) dX2_tell_2 (fun r_p2 σ_p2 h_p2 => ?_)
  obtain ⟨rfl, hσ_p2⟩ := h_p2
  rw [hσ_p2]
  show K σ [(0, .ref (ad 0)), (1, .int k)] [.int (ld_b (0 ≤ (k).toInt ∧ (k).toInt < (h : Int)))] 5
  refine ld_ifb_ne O (pc := 5) 10 dX2_tell_5 (by decide) (fun c1 => ?_) (fun c1 => ?_)
  · obtain ⟨ek_k, hk_k, ik_k⟩ := ld_ofIx (k := k) (h := h) (by omega)
    rw [ek_k]
    refine ld_aload_n O (pc := 10) 0 dX2_tell_10 rfl rfl ?_
    refine ld_g_LD_now O (pc := 11) ld_w15 dX2_tell_11 ?_
    refine ld_g_now_kindN O (pc := 14) (List.mem_of_getElem? (i := 5) rfl) dX2_tell_14 ?_
    refine ld_iload_n O (pc := 17) 1 dX2_tell_17 rfl rfl ?_
    refine ld_iald O (pc := 18) 0 (ld_ix k) (v := σ 0 (ld_ix k)) rfl (by decide) (show ld_ix k < 8 by omega) rfl dX2_tell_18 ?_
    by_cases t2 : (σ 0 (ld_ix k)).toInt = 1
    · refine ld_look O (pc := 19) 44 dX2_tell_19 (by decide) (off := 25) (by rw [t2]; rfl) (by decide) ?_
      refine ld_aload_n O (pc := 44) 0 dX2_tell_44 rfl rfl ?_
      refine ld_iload_n O (pc := 45) 1 dX2_tell_45 rfl rfl ?_
      refine ld_callVi O (pc := 46) (As := [.int (nI (ld_ix k))]) (st := []) ld_recv0 (c_X2_tellTart l ad σ (ld_ix k) (by omega)) ld_mw_X2_tellAsTart ld_w570 rfl rfl ⟨by decide, by decide⟩ (Nat.le_of_ble_eq_true rfl) dX2_tell_46 (fun r_p46 σ_p46 h_p46 => ?_)
      obtain ⟨rfl, hσ_p46⟩ := h_p46
      rw [hσ_p46]
      show K (us σ 101 (fun _ => nI 31 * (nI 31 * (σ 101 0) + nI 2) + nI 1)) [(0, .ref (ad 0)), (1, .int (nI (ld_ix k)))] [.int (σ 1 (ld_ix k) + nI 100)] 49
      refine ld_ireti E dX2_tell_49 ?_
      refine ⟨?_, fun _ => nI 31 * (nI 31 * (σ 101 0) + nI 2) + nI 1, rfl, ?_⟩
      · unfold ld_fTe
        repeat' split
        all_goals first | rfl | (exfalso; omega)
      · unfold ld_gTe
        repeat' split
        all_goals first | rfl | (exfalso; omega)
    by_cases t3 : (σ 0 (ld_ix k)).toInt = 2
    · refine ld_look O (pc := 19) 50 dX2_tell_19 (by decide) (off := 31) (by rw [t3]; rfl) (by decide) ?_
      refine ld_aload_n O (pc := 50) 0 dX2_tell_50 rfl rfl ?_
      refine ld_iload_n O (pc := 51) 1 dX2_tell_51 rfl rfl ?_
      refine ld_callVi O (pc := 52) (As := [.int (nI (ld_ix k))]) (st := []) ld_recv0 (c_X2_tellBitter l ad σ (ld_ix k) (by omega)) ld_mw_X2_tellAsBitter ld_w582 rfl rfl ⟨by decide, by decide⟩ (Nat.le_of_ble_eq_true rfl) dX2_tell_52 (fun r_p52 σ_p52 h_p52 => ?_)
      obtain ⟨rfl, hσ_p52⟩ := h_p52
      rw [hσ_p52]
      show K (us σ 101 (fun _ => nI 31 * (nI 31 * (nI 31 * (nI 31 * (σ 101 0) + nI 3) + nI 2) + nI 1) + nI 1)) [(0, .ref (ad 0)), (1, .int (nI (ld_ix k)))] [.int (σ 1 (ld_ix k) + nI 100 + σ 1 (ld_ix k))] 55
      refine ld_ireti E dX2_tell_55 ?_
      refine ⟨?_, fun _ => nI 31 * (nI 31 * (nI 31 * (nI 31 * (σ 101 0) + nI 3) + nI 2) + nI 1) + nI 1, rfl, ?_⟩
      · unfold ld_fTe
        repeat' split
        all_goals first | rfl | (exfalso; omega)
      · unfold ld_gTe
        repeat' split
        all_goals first | rfl | (exfalso; omega)
    refine ld_look O (pc := 19) 56 dX2_tell_19 (by decide) (off := 37) (by show Op.lookupswitch.offset [((1 : Int), (25 : Int)), ((2 : Int), (31 : Int))] (37) _ = _; rw [Op.lookupswitch.offset_cons, if_neg (fun z => t2 (Eq.trans (Eq.symm (Eq.refl _)) z.symm)), Op.lookupswitch.offset_cons, if_neg (fun z => t3 (Eq.trans (Eq.symm (Eq.refl _)) z.symm))]; rfl) (by decide) ?_
    refine ld_aload_n O (pc := 56) 0 dX2_tell_56 rfl rfl ?_
    refine ld_iload_n O (pc := 57) 1 dX2_tell_57 rfl rfl ?_
    refine ld_callVi O (pc := 58) (As := [.int (nI (ld_ix k))]) (st := []) ld_recv0 (c_X2_tellPlain l ad σ (ld_ix k) (by omega)) ld_mw_X2_tellAsPlain ld_w578 rfl rfl ⟨by decide, by decide⟩ (Nat.le_of_ble_eq_true rfl) dX2_tell_58 (fun r_p58 σ_p58 h_p58 => ?_)
    obtain ⟨rfl, hσ_p58⟩ := h_p58
    rw [hσ_p58]
    show K (us σ 101 (fun _ => nI 31 * (σ 101 0) + nI 1)) [(0, .ref (ad 0)), (1, .int (nI (ld_ix k)))] [.int (σ 1 (ld_ix k))] 61
    refine ld_ireti E dX2_tell_61 ?_
    refine ⟨?_, fun _ => nI 31 * (σ 101 0) + nI 1, rfl, ?_⟩
    · unfold ld_fTe
      repeat' split
      all_goals first | rfl | (exfalso; omega)
    · unfold ld_gTe
      repeat' split
      all_goals first | rfl | (exfalso; omega)
  · refine ld_iconst O (pc := 8) (v := (-1 : Int32)) dX2_tell_8 (by decide) ?_
    refine ld_ireti E dX2_tell_9 ?_
    refine ⟨?_, σ 101, (us_self _ _).symm, ?_⟩
    · unfold ld_fTe
      repeat' split
      all_goals first | rfl | (exfalso; omega)
    · unfold ld_gTe
      repeat' split
      all_goals first | rfl | (exfalso; omega)
set_option maxHeartbeats 4000000 in
set_option maxRecDepth 100000 in
theorem c_X2_knock (l : Launch) (ad : Nat → Nat) (σ : ld_St) (h : Nat) (hh : σ 110 0 = nI h) (h8 : h ≤ 8) (k : Int32) : ld_Ctr l yX2_knock cX2_knock 3 (some .int) (1, 21) [.ref (ad 0), .int k] ad σ (ld_I (fun (r : Int32) (σ2 : ld_St) => r = ld_fKn h (σ 0) k ∧ ∃ f : Nat → Int32, σ2 = us σ 101 f ∧ f 0 = ld_gKn h (σ 0) (σ 101 0) k)) := by
  refine ld_entry (by decide +kernel) (Nat.le_of_ble_eq_true rfl) (fun K O E => ?_)
  have O : ld_Ok l K ad cX2_knock 3 RX2 (ld_rm (1, 21)) := O
  show K σ [(0, .ref (ad 0)), (1, .int k)] [] 0
  refine ld_aload_n O (pc := 0) 0 dX2_knock_0 rfl rfl ?_
  refine ld_iload_n O (pc := 1) 1 dX2_knock_1 rfl rfl ?_
  refine ld_callVi O (pc := 2) (As := [.int k]) (st := []) ld_recv0 (c_X2_isHouse l ad σ k h hh h8) ld_mw_X2_isHouse ld_w168 rfl rfl ⟨by decide, by decide⟩ (Nat.le_of_ble_eq_true rfl) dX2_knock_2 (fun r_p2 σ_p2 h_p2 => ?_)
  obtain ⟨rfl, hσ_p2⟩ := h_p2
  rw [hσ_p2]
  show K σ [(0, .ref (ad 0)), (1, .int k)] [.int (ld_b (0 ≤ (k).toInt ∧ (k).toInt < (h : Int)))] 5
  refine ld_ifb_ne O (pc := 5) 10 dX2_knock_5 (by decide) (fun c1 => ?_) (fun c1 => ?_)
  · obtain ⟨ek_k, hk_k, ik_k⟩ := ld_ofIx (k := k) (h := h) (by omega)
    rw [ek_k]
    refine ld_aload_n O (pc := 10) 0 dX2_knock_10 rfl rfl ?_
    refine ld_g_LD_now O (pc := 11) ld_w15 dX2_knock_11 ?_
    refine ld_g_now_kindN O (pc := 14) (List.mem_of_getElem? (i := 5) rfl) dX2_knock_14 ?_
    refine ld_iload_n O (pc := 17) 1 dX2_knock_17 rfl rfl ?_
    refine ld_iald O (pc := 18) 0 (ld_ix k) (v := σ 0 (ld_ix k)) rfl (by decide) (show ld_ix k < 8 by omega) rfl dX2_knock_18 ?_
    refine ld_iconst O (pc := 19) (v := nI 2) dX2_knock_19 (by decide) ?_
    refine ld_icmp_ne O (pc := 20) (σ 0 (ld_ix k)).toInt 2 rfl (by decide) 27 dX2_knock_20 (by decide) (fun c2 => ?_) (fun c2 => ?_)
    · refine ld_iconst O (pc := 27) (v := nI 0) dX2_knock_27 (by decide) ?_
      refine ld_istore_n O (pc := 28) [(2, .int (nI 0)), (0, .ref (ad 0)), (1, .int (nI (ld_ix k)))] dX2_knock_28 rfl (by decide) rfl ?_
      refine ld_aload_n O (pc := 29) 1 dX2_knock_29 rfl rfl ?_
      refine ld_iload_n O (pc := 30) 0 dX2_knock_30 rfl rfl ?_
      refine ld_if_eq O (pc := 31) 0 (by decide) 38 dX2_knock_31 (by decide) (fun _ => ?_) (fun z => absurd z (by decide))
      refine ld_iconst O (pc := 38) (v := nI 4) dX2_knock_38 (by decide) ?_
      refine ld_callVv O (pc := 39) (As := [.int (nI 4)]) (st := []) ld_recv0 (c_X2_leaveInTrace l ad σ (nI 4)) ld_mw_X2_leaveInTrace ld_w574 rfl rfl ⟨by decide, by decide⟩ (Nat.le_of_ble_eq_true rfl) dX2_knock_39 (fun σ_p39 h_p39 => ?_)
      have hσ_p39 := h_p39
      rw [hσ_p39]
      show K (us σ 101 (fun _ => nI 31 * (σ 101 0) + (nI 4))) [(2, .int (nI 0)), (0, .ref (ad 0)), (1, .int (nI (ld_ix k)))] [] 42
      refine ld_iload_n O (pc := 42) 0 dX2_knock_42 rfl rfl ?_
      refine ld_if_eq O (pc := 43) 0 (by decide) 51 dX2_knock_43 (by decide) (fun _ => ?_) (fun z => absurd z (by decide))
      refine ld_iload_n O (pc := 51) 2 dX2_knock_51 rfl rfl ?_
      refine ld_ireti E dX2_knock_52 ?_
      refine ⟨?_, fun _ => nI 31 * (σ 101 0) + (nI 4), rfl, ?_⟩
      · unfold ld_fKn
        repeat' split
        all_goals first | rfl | (exfalso; omega)
      · unfold ld_gKn
        repeat' split
        all_goals first | rfl | (exfalso; omega)
    · refine ld_iconst O (pc := 23) (v := nI 1) dX2_knock_23 (by decide) ?_
      refine ld_goto O (pc := 24) 28 dX2_knock_24 (by decide) ?_
      refine ld_istore_n O (pc := 28) [(2, .int (nI 1)), (0, .ref (ad 0)), (1, .int (nI (ld_ix k)))] dX2_knock_28 rfl (by decide) rfl ?_
      refine ld_aload_n O (pc := 29) 1 dX2_knock_29 rfl rfl ?_
      refine ld_iload_n O (pc := 30) 0 dX2_knock_30 rfl rfl ?_
      refine ld_if_eq O (pc := 31) 1 (by decide) 38 dX2_knock_31 (by decide) (fun z => absurd z (by decide)) (fun _ => ?_)
      refine ld_iconst O (pc := 34) (v := nI 5) dX2_knock_34 (by decide) ?_
      refine ld_goto O (pc := 35) 39 dX2_knock_35 (by decide) ?_
      refine ld_callVv O (pc := 39) (As := [.int (nI 5)]) (st := []) ld_recv0 (c_X2_leaveInTrace l ad σ (nI 5)) ld_mw_X2_leaveInTrace ld_w574 rfl rfl ⟨by decide, by decide⟩ (Nat.le_of_ble_eq_true rfl) dX2_knock_39 (fun σ_p39 h_p39 => ?_)
      have hσ_p39 := h_p39
      rw [hσ_p39]
      show K (us σ 101 (fun _ => nI 31 * (σ 101 0) + (nI 5))) [(2, .int (nI 1)), (0, .ref (ad 0)), (1, .int (nI (ld_ix k)))] [] 42
      refine ld_iload_n O (pc := 42) 0 dX2_knock_42 rfl rfl ?_
      refine ld_if_eq O (pc := 43) 1 (by decide) 51 dX2_knock_43 (by decide) (fun z => absurd z (by decide)) (fun _ => ?_)
      refine ld_bipush O (pc := 46) (v := nI 30) dX2_knock_46 (by decide) ?_
      refine ld_goto O (pc := 48) 52 dX2_knock_48 (by decide) ?_
      refine ld_ireti E dX2_knock_52 ?_
      refine ⟨?_, fun _ => nI 31 * (σ 101 0) + (nI 5), rfl, ?_⟩
      · unfold ld_fKn
        repeat' split
        all_goals first | rfl | (exfalso; omega)
      · unfold ld_gKn
        repeat' split
        all_goals first | rfl | (exfalso; omega)
  · refine ld_iconst O (pc := 8) (v := (-1 : Int32)) dX2_knock_8 (by decide) ?_
    refine ld_ireti E dX2_knock_9 ?_
    refine ⟨?_, σ 101, (us_self _ _).symm, ?_⟩
    · unfold ld_fKn
      repeat' split
      all_goals first | rfl | (exfalso; omega)
    · unfold ld_gKn
      repeat' split
      all_goals first | rfl | (exfalso; omega)
set_option maxHeartbeats 4000000 in
set_option maxRecDepth 100000 in
theorem c_X2_as (l : Launch) (ad : Nat → Nat) (σ : ld_St) (h : Nat) (hh : σ 110 0 = nI h) (h8 : h ≤ 8) (k kind : Int32) : ld_Ctr l yX2_as cX2_as 3 (some .int) (1, 21) [.ref (ad 0), .int k, .int kind] ad σ (ld_I (fun (r : Int32) (σ2 : ld_St) => r = ld_fAs h (σ 0) k kind ∧ ∃ f : Nat → Int32, σ2 = us σ 102 f ∧ f 0 = ld_eAs h (σ 0) k kind)) := by
  refine ld_entry (by decide +kernel) (Nat.le_of_ble_eq_true rfl) (fun K O E => ?_)
  have O : ld_Ok l K ad cX2_as 3 RX2 (ld_rm (1, 21)) := O
  show K σ [(0, .ref (ad 0)), (1, .int k), (2, .int kind)] [] 0
  refine ld_aload_n O (pc := 0) 0 dX2_as_0 rfl rfl ?_
  refine ld_iconst O (pc := 1) (v := nI 0) dX2_as_1 (by decide) ?_
  refine ld_p_LD_lastFault O (pc := 2) ld_w24 dX2_as_2 ?_
  refine ld_aload_n O (pc := 5) 0 dX2_as_5 rfl rfl ?_
  refine ld_iload_n O (pc := 6) 1 dX2_as_6 rfl rfl ?_
  refine ld_callVi O (pc := 7) (As := [.int k]) (st := []) ld_recv0 (c_X2_isHouse l ad (us σ 102 (fun _ => nI 0)) k h hh h8) ld_mw_X2_isHouse ld_w168 rfl rfl ⟨by decide, by decide⟩ (Nat.le_of_ble_eq_true rfl) dX2_as_7 (fun r_p7 σ_p7 h_p7 => ?_)
  obtain ⟨rfl, hσ_p7⟩ := h_p7
  rw [hσ_p7]
  show K (us σ 102 (fun _ => nI 0)) [(0, .ref (ad 0)), (1, .int k), (2, .int kind)] [.int (ld_b (0 ≤ (k).toInt ∧ (k).toInt < (h : Int)))] 10
  refine ld_ifb_ne O (pc := 10) 15 dX2_as_10 (by decide) (fun c1 => ?_) (fun c1 => ?_)
  · obtain ⟨ek_k, hk_k, ik_k⟩ := ld_ofIx (k := k) (h := h) (by omega)
    rw [ek_k]
    refine ld_iload_n O (pc := 15) 2 dX2_as_15 rfl rfl ?_
    refine ld_if_lt O (pc := 16) (kind).toInt rfl 24 dX2_as_16 (by decide) (fun c2 => ?_) (fun c2 => ?_)
    · refine ld_bipush O (pc := 24) (v := (-2 : Int32)) dX2_as_24 (by decide) ?_
      refine ld_ireti E dX2_as_26 ?_
      refine ⟨?_, fun _ => nI 0, ?_, ?_⟩
      · unfold ld_fAs
        repeat' split
        all_goals first | rfl | (exfalso; omega)
      · funext b_
        by_cases h0_ : b_ = 102
        · subst h0_; first | rfl | (simp (disch := omega) only [us_ne, us_eq]; done)
        simp only [us, h0_, if_false]
      · unfold ld_eAs
        repeat' split
        all_goals first | rfl | (exfalso; omega)
    · refine ld_iload_n O (pc := 19) 2 dX2_as_19 rfl rfl ?_
      refine ld_iconst O (pc := 20) (v := nI 3) dX2_as_20 (by decide) ?_
      refine ld_icmp_lt O (pc := 21) (kind).toInt 3 rfl (by decide) 27 dX2_as_21 (by decide) (fun c3 => ?_) (fun c3 => ?_)
      · refine ld_aload_n O (pc := 27) 0 dX2_as_27 rfl rfl ?_
        refine ld_g_LD_now O (pc := 28) ld_w15 dX2_as_28 ?_
        refine ld_g_now_kindN O (pc := 31) (List.mem_of_getElem? (i := 5) rfl) dX2_as_31 ?_
        refine ld_iload_n O (pc := 34) 1 dX2_as_34 rfl rfl ?_
        refine ld_iald O (pc := 35) 0 (ld_ix k) (v := σ 0 (ld_ix k)) rfl (by decide) (show ld_ix k < 8 by omega) rfl dX2_as_35 ?_
        refine ld_iload_n O (pc := 36) 2 dX2_as_36 rfl rfl ?_
        refine ld_icmp_lt O (pc := 37) (σ 0 (ld_ix k)).toInt (kind).toInt rfl rfl 44 dX2_as_37 (by decide) (fun c4 => ?_) (fun c4 => ?_)
        · refine ld_aload_n O (pc := 44) 0 dX2_as_44 rfl rfl ?_
          refine ld_iconst O (pc := 45) (v := nI 2) dX2_as_45 (by decide) ?_
          refine ld_callVi O (pc := 46) (As := [.int (nI 2)]) (st := []) ld_recv0 (c_X2_fails l ad (us σ 102 (fun _ => nI 0)) (nI 2)) ld_mw_X2_fails ld_w89 rfl rfl ⟨by decide, by decide⟩ (Nat.le_of_ble_eq_true rfl) dX2_as_46 (fun r_p46 σ_p46 h_p46 => ?_)
          obtain ⟨rfl, hσ_p46⟩ := h_p46
          rw [hσ_p46]
          show K (us (us σ 102 (fun _ => nI 0)) 102 (fun _ => nI 2)) [(0, .ref (ad 0)), (1, .int (nI (ld_ix k))), (2, .int kind)] [.int ((-10 : Int32) - (nI 2))] 49
          refine ld_ireti E dX2_as_49 ?_
          refine ⟨?_, fun _ => nI 2, ?_, ?_⟩
          · unfold ld_fAs
            repeat' split
            all_goals first | rfl | (exfalso; omega)
          · funext b_
            by_cases h0_ : b_ = 102
            · subst h0_; first | rfl | (simp (disch := omega) only [us_ne, us_eq]; done)
            simp only [us, h0_, if_false]
          · unfold ld_eAs
            repeat' split
            all_goals first | rfl | (exfalso; omega)
        · refine ld_iconst O (pc := 40) (v := nI 1) dX2_as_40 (by decide) ?_
          refine ld_goto O (pc := 41) 49 dX2_as_41 (by decide) ?_
          refine ld_ireti E dX2_as_49 ?_
          refine ⟨?_, fun _ => nI 0, ?_, ?_⟩
          · unfold ld_fAs
            repeat' split
            all_goals first | rfl | (exfalso; omega)
          · funext b_
            by_cases h0_ : b_ = 102
            · subst h0_; first | rfl | (simp (disch := omega) only [us_ne, us_eq]; done)
            simp only [us, h0_, if_false]
          · unfold ld_eAs
            repeat' split
            all_goals first | rfl | (exfalso; omega)
      · refine ld_bipush O (pc := 24) (v := (-2 : Int32)) dX2_as_24 (by decide) ?_
        refine ld_ireti E dX2_as_26 ?_
        refine ⟨?_, fun _ => nI 0, ?_, ?_⟩
        · unfold ld_fAs
          repeat' split
          all_goals first | rfl | (exfalso; omega)
        · funext b_
          by_cases h0_ : b_ = 102
          · subst h0_; first | rfl | (simp (disch := omega) only [us_ne, us_eq]; done)
          simp only [us, h0_, if_false]
        · unfold ld_eAs
          repeat' split
          all_goals first | rfl | (exfalso; omega)
  · refine ld_iconst O (pc := 13) (v := (-1 : Int32)) dX2_as_13 (by decide) ?_
    refine ld_ireti E dX2_as_14 ?_
    refine ⟨?_, fun _ => nI 0, ?_, ?_⟩
    · unfold ld_fAs
      repeat' split
      all_goals first | rfl | (exfalso; omega)
    · funext b_
      by_cases h0_ : b_ = 102
      · subst h0_; first | rfl | (simp (disch := omega) only [us_ne, us_eq]; done)
      simp only [us, h0_, if_false]
    · unfold ld_eAs
      repeat' split
      all_goals first | rfl | (exfalso; omega)
set_option maxHeartbeats 4000000 in
set_option maxRecDepth 100000 in
theorem c_X2_trace (l : Launch) (ad : Nat → Nat) (σ : ld_St)  : ld_Ctr l yX2_trace cX2_trace 1 (some .int) (0, 0) [.ref (ad 0)] ad σ (ld_I (fun (r : Int32) (σ2 : ld_St) => r = σ 101 0 ∧ σ2 = σ)) := by
  refine ld_entry (by decide +kernel) (Nat.le_of_ble_eq_true rfl) (fun K O E => ?_)
  have O : ld_Ok l K ad cX2_trace 1 RX2 (ld_rm (0, 0)) := O
  show K σ [(0, .ref (ad 0))] [] 0
  refine ld_aload_n O (pc := 0) 0 dX2_trace_0 rfl rfl ?_
  refine ld_g_LD_traced O (pc := 1) (v := σ 101 0) ld_w23 rfl dX2_trace_1 ?_
  refine ld_ireti E dX2_trace_4 ?_
  exact ⟨rfl, rfl⟩
set_option maxHeartbeats 4000000 in
set_option maxRecDepth 100000 in
theorem c_X2_fault (l : Launch) (ad : Nat → Nat) (σ : ld_St)  : ld_Ctr l yX2_fault cX2_fault 1 (some .int) (0, 0) [.ref (ad 0)] ad σ (ld_I (fun (r : Int32) (σ2 : ld_St) => r = σ 102 0 ∧ σ2 = σ)) := by
  refine ld_entry (by decide +kernel) (Nat.le_of_ble_eq_true rfl) (fun K O E => ?_)
  have O : ld_Ok l K ad cX2_fault 1 RX2 (ld_rm (0, 0)) := O
  show K σ [(0, .ref (ad 0))] [] 0
  refine ld_aload_n O (pc := 0) 0 dX2_fault_0 rfl rfl ?_
  refine ld_g_LD_lastFault O (pc := 1) (v := σ 102 0) ld_w24 rfl dX2_fault_1 ?_
  refine ld_ireti E dX2_fault_4 ?_
  exact ⟨rfl, rfl⟩
set_option maxHeartbeats 4000000 in
set_option maxRecDepth 100000 in
theorem c_X2_many (l : Launch) (ad : Nat → Nat) (σ : ld_St) (h : Nat) (hh : σ 110 0 = nI h) (h8 : h ≤ 8) (q : Nat) (hq : σ 100 0 = nI q) (q8 : q ≤ 8) (what : Int32) : ld_Ctr l yX2_many cX2_many 2 (some .int) (1, 22) [.ref (ad 0), .int what] ad σ (ld_I (fun (r : Int32) (σ2 : ld_St) => r = ld_fMa h q (σ 111 0) (σ 112 0) (σ 2) what ∧ σ2 = σ)) := by
  refine ld_entry (by decide +kernel) (Nat.le_of_ble_eq_true rfl) (fun K O E => ?_)
  have O : ld_Ok l K ad cX2_many 2 RX2 (ld_rm (1, 22)) := O
  show K σ [(0, .ref (ad 0)), (1, .int what)] [] 0
  refine ld_iload_n O (pc := 0) 1 dX2_many_0 rfl rfl ?_
  by_cases t1 : (what).toInt = 0
  · refine ld_tabIn O (pc := 1) 36 dX2_many_1 (by omega) (by omega) (off := 35) (by rw [t1]; rfl) (by decide) ?_
    refine ld_aload_n O (pc := 36) 0 dX2_many_36 rfl rfl ?_
    refine ld_g_LD_now O (pc := 37) ld_w15 dX2_many_37 ?_
    refine ld_g_now_housesN O (pc := 40) (v := nI h) (List.mem_of_getElem? (i := 1) rfl) hh dX2_many_40 ?_
    refine ld_ireti E dX2_many_43 ?_
    refine ⟨?_, rfl⟩
    unfold ld_fMa
    repeat' split
    all_goals first | rfl | (exfalso; omega)
  by_cases t2 : (what).toInt = 1
  · refine ld_tabIn O (pc := 1) 44 dX2_many_1 (by omega) (by omega) (off := 43) (by rw [t2]; rfl) (by decide) ?_
    refine ld_aload_n O (pc := 44) 0 dX2_many_44 rfl rfl ?_
    refine ld_g_LD_now O (pc := 45) ld_w15 dX2_many_45 ?_
    refine ld_g_now_crateN O (pc := 48) (v := σ 111 0) (List.mem_of_getElem? (i := 2) rfl) rfl dX2_many_48 ?_
    refine ld_ireti E dX2_many_51 ?_
    refine ⟨?_, rfl⟩
    unfold ld_fMa
    repeat' split
    all_goals first | rfl | (exfalso; omega)
  by_cases t3 : (what).toInt = 2
  · refine ld_tabIn O (pc := 1) 52 dX2_many_1 (by omega) (by omega) (off := 51) (by rw [t3]; rfl) (by decide) ?_
    refine ld_aload_n O (pc := 52) 0 dX2_many_52 rfl rfl ?_
    refine ld_g_LD_now O (pc := 53) ld_w15 dX2_many_53 ?_
    refine ld_g_now_weekN O (pc := 56) (v := σ 112 0) (List.mem_of_getElem? (i := 3) rfl) rfl dX2_many_56 ?_
    refine ld_ireti E dX2_many_59 ?_
    refine ⟨?_, rfl⟩
    unfold ld_fMa
    repeat' split
    all_goals first | rfl | (exfalso; omega)
  by_cases t4 : (what).toInt = 3
  · refine ld_tabIn O (pc := 1) 60 dX2_many_1 (by omega) (by omega) (off := 59) (by rw [t4]; rfl) (by decide) ?_
    refine ld_aload_n O (pc := 60) 0 dX2_many_60 rfl rfl ?_
    refine ld_g_LD_now O (pc := 61) ld_w15 dX2_many_61 ?_
    refine ld_callVNi O (pc := 64) (As := []) (st := []) ld_recv1 (c_X1_without_0 l ad σ h hh h8) ld_mw_X1_withoutStock (List.mem_of_getElem? (i := 22) rfl) rfl rfl ⟨by decide, by decide⟩ (Nat.le_of_ble_eq_true rfl) dX2_many_64 (fun r_p64 σ_p64 h_p64 => ?_)
    obtain ⟨rfl, hσ_p64⟩ := h_p64
    rw [hσ_p64]
    show K σ [(0, .ref (ad 0)), (1, .int what)] [.int (nI (ld_wo h (σ 2)))] 67
    refine ld_ireti E dX2_many_67 ?_
    refine ⟨?_, rfl⟩
    unfold ld_fMa
    repeat' split
    all_goals first | rfl | (exfalso; omega)
  by_cases t5 : (what).toInt = 4
  · refine ld_tabIn O (pc := 1) 68 dX2_many_1 (by omega) (by omega) (off := 67) (by rw [t5]; rfl) (by decide) ?_
    refine ld_aload_n O (pc := 68) 0 dX2_many_68 rfl rfl ?_
    refine ld_g_LD_readings O (pc := 69) (v := nI q) ld_w22 hq dX2_many_69 ?_
    refine ld_ireti E dX2_many_72 ?_
    refine ⟨?_, rfl⟩
    unfold ld_fMa
    repeat' split
    all_goals first | rfl | (exfalso; omega)
  refine ld_tabOut O (pc := 1) 73 dX2_many_1 (by omega) (by decide) ?_
  refine ld_bipush O (pc := 73) (v := (-2 : Int32)) dX2_many_73 (by decide) ?_
  refine ld_ireti E dX2_many_75 ?_
  refine ⟨?_, rfl⟩
  unfold ld_fMa
  repeat' split
  all_goals first | rfl | (exfalso; omega)
set_option maxHeartbeats 4000000 in
set_option maxRecDepth 100000 in
theorem c_X2_lose (l : Launch) (ad : Nat → Nat) (σ : ld_St) (k : Int32) : ld_Ctr l yX2_lose cX2_lose 3 (some .int) (1, 20) [.ref (ad 0), .int k] ad σ (ld_I (fun (r : Int32) (σ2 : ld_St) => r = ld_fLo (σ 131) k ∧ σ2 = us σ 131 (ld_gLo (σ 131) k))) := by
  refine ld_entry (by decide +kernel) (Nat.le_of_ble_eq_true rfl) (fun K O E => ?_)
  have O : ld_Ok l K ad cX2_lose 3 RX2 (ld_rm (1, 20)) := O
  show K σ [(0, .ref (ad 0)), (1, .int k)] [] 0
  refine ld_iload_n O (pc := 0) 1 dX2_lose_0 rfl rfl ?_
  refine ld_callSi O (pc := 1) (As := [.int k]) (st := []) (c_X2_isSheet l ad σ k) ld_mw_X2_isSheet ld_w73 rfl rfl ⟨by decide, by decide⟩ (Nat.le_of_ble_eq_true rfl) dX2_lose_1 (fun r_p1 σ_p1 h_p1 => ?_)
  obtain ⟨rfl, hσ_p1⟩ := h_p1
  rw [hσ_p1]
  show K σ [(0, .ref (ad 0)), (1, .int k)] [.int (ld_b (0 ≤ (k).toInt ∧ (k).toInt < 4))] 4
  refine ld_ifb_ne O (pc := 4) 9 dX2_lose_4 (by decide) (fun c1 => ?_) (fun c1 => ?_)
  · obtain ⟨ek_k, hk_k, ik_k⟩ := ld_ofIx (k := k) (h := 4) (by omega)
    rw [ek_k]
    refine ld_aload_n O (pc := 9) 0 dX2_lose_9 rfl rfl ?_
    refine ld_g_LD_sheets O (pc := 10) ld_w18 dX2_lose_10 ?_
    refine ld_iload_n O (pc := 13) 1 dX2_lose_13 rfl rfl ?_
    refine ld_aald O (pc := 14) (ld_ix k) rfl (by omega) dX2_lose_14 ?_
    refine ld_callVNi O (pc := 15) (As := []) (st := []) (ld_recvS (by omega)) (c_X0_isThere l ad σ (ld_ix k) (by omega)) ld_mw_X0_isThere (List.mem_of_getElem? (i := 30) rfl) rfl rfl ⟨by decide, by decide⟩ (Nat.le_of_ble_eq_true rfl) dX2_lose_15 (fun r_p15 σ_p15 h_p15 => ?_)
    obtain ⟨rfl, hσ_p15⟩ := h_p15
    rw [hσ_p15]
    show K σ [(0, .ref (ad 0)), (1, .int (nI (ld_ix k)))] [.int (ld_b (¬ (σ 131 (ld_ix k)).toInt = (-1)))] 18
    refine ld_istore_n O (pc := 18) [(2, .int (ld_b (¬ (σ 131 (ld_ix k)).toInt = (-1)))), (0, .ref (ad 0)), (1, .int (nI (ld_ix k)))] dX2_lose_18 rfl (by decide) rfl ?_
    refine ld_aload_n O (pc := 19) 1 dX2_lose_19 rfl rfl ?_
    refine ld_g_LD_sheets O (pc := 20) ld_w18 dX2_lose_20 ?_
    refine ld_iload_n O (pc := 23) 2 dX2_lose_23 rfl rfl ?_
    refine ld_aald O (pc := 24) (ld_ix k) rfl (by omega) dX2_lose_24 ?_
    refine ld_iconst O (pc := 25) (v := (-1 : Int32)) dX2_lose_25 (by decide) ?_
    refine ld_p_S_lengthN O (pc := 26) (by omega) (List.mem_of_getElem? (i := 13) rfl) dX2_lose_26 ?_
    refine ld_iload_n O (pc := 29) 0 dX2_lose_29 rfl rfl ?_
    refine ld_ifb_eq O (pc := 30) 37 dX2_lose_30 (by decide) (fun c2 => ?_) (fun c2 => ?_)
    · refine ld_iconst O (pc := 37) (v := nI 0) dX2_lose_37 (by decide) ?_
      refine ld_ireti E dX2_lose_38 ?_
      refine ⟨?_, ?_⟩
      · unfold ld_fLo
        repeat' split
        all_goals first | rfl | (exfalso; omega)
      · unfold ld_gLo; rw [if_pos (by omega)]
    · refine ld_iconst O (pc := 33) (v := nI 1) dX2_lose_33 (by decide) ?_
      refine ld_goto O (pc := 34) 38 dX2_lose_34 (by decide) ?_
      refine ld_ireti E dX2_lose_38 ?_
      refine ⟨?_, ?_⟩
      · unfold ld_fLo
        repeat' split
        all_goals first | rfl | (exfalso; omega)
      · unfold ld_gLo; rw [if_pos (by omega)]
  · refine ld_iconst O (pc := 7) (v := (-1 : Int32)) dX2_lose_7 (by decide) ?_
    refine ld_ireti E dX2_lose_8 ?_
    refine ⟨?_, ?_⟩
    · unfold ld_fLo
      repeat' split
      all_goals first | rfl | (exfalso; omega)
    · unfold ld_gLo; rw [if_neg (by omega), us_self]
