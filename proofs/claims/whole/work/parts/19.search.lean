noncomputable def ld_fCa (h : Nat) (kd : Nat → Int32) (V : ld_Tr) (n v : Int32) : Int32 := if 0 < h then (if (0 ≤ n.toInt ∧ n.toInt ≤ 12) ∧ 0 ≤ v.toInt ∧ v.toInt < 10 then ld_nv (ld_fi (fun c => (ld_wm (ld_wks h (nI c) kd V (ld_ix n)).1 h).toInt ≤ v.toInt) 100) else (-2 : Int32)) else (-3 : Int32)
noncomputable def ld_lo (h : Nat) (kd t : Nat → Int32) (c : Nat) : Option Nat := ld_fi (fun x => (ld_dt h kd t (nI (c + 1)) x).toInt < (ld_dt h kd t (nI c) x).toInt) h
noncomputable def ld_wd (h : Nat) (kd t : Nat → Int32) (cr : Nat) : Option Nat := ld_fi (fun d => ¬ ld_lo h kd t (cr + d) = none) (99 - cr)
noncomputable def ld_fWo (h : Nat) (kd t : Nat → Int32) (cr : Nat) (what : Int32) : Int32 := if 0 < h then (if 0 ≤ what.toInt ∧ what.toInt ≤ 1 then (match ld_wd h kd t cr with
  | none => (-9 : Int32)
  | some d => if what.toInt = 0 then nI (cr + d) else ld_nv (ld_lo h kd t (cr + d))) else (-2 : Int32)) else (-3 : Int32)
noncomputable def ld_fOt (h : Nat) (kd t : Nat → Int32) (cr : Nat) (k : Int32) : Int32 := if 0 ≤ k.toInt ∧ k.toInt < (h : Int) then ld_o1 h (ld_ss kd t) cr (ld_ix k) else (-1 : Int32)
def ld_apt (h : Nat) (s : Nat → Int32) (b : Nat) : Int32 := ld_abs (l_sum (ld_sg (nI b) s) h)
def ld_hb (h : Nat) (s : Nat → Int32) : Nat → Nat
  | 0 => 1
  | m + 1 => if (ld_apt h s (2 * m + 3)).toInt < (ld_apt h s (ld_hb h s m)).toInt then 2 * m + 3 else ld_hb h s m
def ld_fHa (h : Nat) (s : Nat → Int32) (what : Int32) : Int32 := if 0 < h then (if 0 ≤ what.toInt ∧ what.toInt ≤ 1 then (if what.toInt = 0 then nI (ld_hb h s (2 ^ h / 2 - 1)) else ld_apt h s (ld_hb h s (2 ^ h / 2 - 1))) else (-2 : Int32)) else (-3 : Int32)
theorem ld_pw {h : Nat} (h8 : h ≤ 8) : nI 1 <<< (nI h &&& 31) = nI (2 ^ h) := by
  rcases (show h = 0 ∨ h = 1 ∨ h = 2 ∨ h = 3 ∨ h = 4 ∨ h = 5 ∨ h = 6 ∨ h = 7 ∨ h = 8 by omega) with rfl | rfl | rfl | rfl | rfl | rfl | rfl | rfl | rfl <;> decide
theorem ld_pw2 {h : Nat} (h8 : h ≤ 8) (h0 : 0 < h) : 2 ≤ 2 ^ h ∧ 2 ^ h ≤ 256 ∧ 2 ^ h % 2 = 0 := by
  rcases (show h = 1 ∨ h = 2 ∨ h = 3 ∨ h = 4 ∨ h = 5 ∨ h = 6 ∨ h = 7 ∨ h = 8 by omega) with rfl | rfl | rfl | rfl | rfl | rfl | rfl | rfl <;> decide
theorem ld_rh_cong {h : Nat} {kd t kd2 t2 : Nat → Int32} {c : Int32} {rh rv : Nat → Int32} {q : Nat} (hrd : ∀ x, x < q → 0 ≤ (rh x).toInt ∧ (rh x).toInt < (h : Int)) (ek : ∀ x, x < h → kd x = kd2 x) (et : ∀ x, x < h → t x = t2 x) : ld_rh h kd t c rh rv q ↔ ld_rh h kd2 t2 c rh rv q := by
  unfold ld_rh
  constructor <;> intro z x hx <;> have z2 := z x hx <;> have l := (ld_ofIx (hrd x hx)).2.1
  · rw [← ld_dt_cong ek et l]; exact z2
  · rw [ld_dt_cong ek et l]; exact z2
noncomputable def ld_stt (P : Nat → Prop) : Nat → Int32
  | 0 => nI 0
  | n + 1 => @ite _ (P n) (Classical.propDecidable _) (ld_stt P n ||| (nI 1 <<< (nI n &&& 31))) (ld_stt P n)
theorem ld_stt_t {P : Nat → Prop} {n : Nat} (h : P n) : ld_stt P (n + 1) = ld_stt P n ||| (nI 1 <<< (nI n &&& 31)) := if_pos h
theorem ld_stt_f {P : Nat → Prop} {n : Nat} (h : ¬ P n) : ld_stt P (n + 1) = ld_stt P n := if_neg h
theorem ld_stt_cong {P Q : Nat → Prop} : ∀ {n : Nat}, (∀ i, i < n → (P i ↔ Q i)) → ld_stt P n = ld_stt Q n
  | 0, _ => rfl
  | n + 1, h => by simp only [ld_stt]; rw [ld_stt_cong (fun i hi => h i (by omega)), propext (h n (by omega))]
noncomputable def ld_fTm (h : Nat) (kd t : Nat → Int32) (c : Int32) (rh rv : Nat → Int32) (q : Nat) (k : Int32) : Int32 := if 0 ≤ k.toInt ∧ k.toInt < (h : Int) then ld_stt (fun z => ld_rh h kd (upd t (ld_ix k) (nI z)) c rh rv q) 10 else (-1 : Int32)
noncomputable def ld_fKi (h : Nat) (kd t : Nat → Int32) (c : Int32) (rh rv : Nat → Int32) (q : Nat) (k : Int32) : Int32 := if 0 ≤ k.toInt ∧ k.toInt < (h : Int) then ld_stt (fun z => ld_rh h (upd kd (ld_ix k) (nI z)) t c rh rv q) 3 else (-1 : Int32)
noncomputable def ld_cn (P : Nat → Prop) : Nat → Nat
  | 0 => 0
  | n + 1 => @ite _ (P n) (Classical.propDecidable _) (ld_cn P n + 1) (ld_cn P n)
noncomputable def ld_ls (P : Nat → Prop) : Nat → Int32
  | 0 => (-9 : Int32)
  | n + 1 => @ite _ (P n) (Classical.propDecidable _) (if ld_cn P n = 0 then nI n else ld_ls P n) (ld_ls P n)
noncomputable def ld_gr (P : Nat → Prop) : Nat → Int32
  | 0 => (-9 : Int32)
  | n + 1 => @ite _ (P n) (Classical.propDecidable _) (nI n) (ld_gr P n)
theorem ld_cn_t {P : Nat → Prop} {n : Nat} (h : P n) : ld_cn P (n + 1) = ld_cn P n + 1 := if_pos h
theorem ld_cn_f {P : Nat → Prop} {n : Nat} (h : ¬ P n) : ld_cn P (n + 1) = ld_cn P n := if_neg h
theorem ld_ls_t {P : Nat → Prop} {n : Nat} (h : P n) : ld_ls P (n + 1) = (if ld_cn P n = 0 then nI n else ld_ls P n) := if_pos h
theorem ld_ls_f {P : Nat → Prop} {n : Nat} (h : ¬ P n) : ld_ls P (n + 1) = ld_ls P n := if_neg h
theorem ld_gr_t {P : Nat → Prop} {n : Nat} (h : P n) : ld_gr P (n + 1) = nI n := if_pos h
theorem ld_gr_f {P : Nat → Prop} {n : Nat} (h : ¬ P n) : ld_gr P (n + 1) = ld_gr P n := if_neg h
noncomputable def ld_fCs (h : Nat) (P : Nat → Prop) (what : Int32) : Int32 := if 0 < h then (if 0 ≤ what.toInt ∧ what.toInt ≤ 2 then (if what.toInt = 0 then nI (ld_cn P 100) else if what.toInt = 1 then ld_ls P 100 else ld_gr P 100) else (-2 : Int32)) else (-3 : Int32)
def ld_up (h : Nat) (kd t : Nat → Int32) (k : Nat) (v : Int32) (n : Nat) : Nat := fb_ct (fun c => decide (v.toInt ≤ (ld_dt h kd t (nI c) k).toInt)) n
def ld_fOd (h : Nat) (kd t : Nat → Int32) (k v which : Int32) : Int64 := if (0 ≤ k.toInt ∧ k.toInt < (h : Int)) ∧ (0 ≤ v.toInt ∧ v.toInt < 100) ∧ 0 ≤ which.toInt ∧ which.toInt ≤ 1 then (if which.toInt = 0 then lN (ld_up h kd t (ld_ix k) v 100 / Nat.gcd (ld_up h kd t (ld_ix k) v 100) 100) else lN (100 / Nat.gcd (ld_up h kd t (ld_ix k) v 100) 100)) else (-9223372036854775808 : Int64)
theorem ld_dec {d : Nat} (h : 1 ≤ d) : nI d + Int32.ofInt (-1) = nI (d - 1) := by
  obtain ⟨e, rfl⟩ : ∃ e, d = e + 1 := ⟨d - 1, by omega⟩
  exact pk_m1 e
theorem ld_gstep {u d : Nat} (h : ∀ e, d < e → e ≤ 100 → ¬ (u % e = 0 ∧ 100 % e = 0)) (hn : ¬ (u % d = 0 ∧ 100 % d = 0)) : ∀ e, d - 1 < e → e ≤ 100 → ¬ (u % e = 0 ∧ 100 % e = 0) := by
  intro e h1 h2
  by_cases q : e = d
  · subst q; exact hn
  · exact h e (by omega) h2
theorem ld_gcd {u d : Nat} (h1 : 1 ≤ d) (hu : u % d = 0) (h100 : 100 % d = 0) (hm : ∀ e, d < e → e ≤ 100 → ¬ (u % e = 0 ∧ 100 % e = 0)) : Nat.gcd u 100 = d := by
  have a : d ∣ Nat.gcd u 100 := Nat.dvd_gcd (Nat.dvd_of_mod_eq_zero hu) (Nat.dvd_of_mod_eq_zero h100)
  have p : 0 < Nat.gcd u 100 := Nat.gcd_pos_of_pos_right u (by decide)
  have b : d ≤ Nat.gcd u 100 := Nat.le_of_dvd p a
  have c : Nat.gcd u 100 ≤ 100 := Nat.le_of_dvd (by decide) (Nat.gcd_dvd_right u 100)
  by_cases e : d = Nat.gcd u 100
  · exact e.symm
  · exact absurd ⟨Nat.mod_eq_zero_of_dvd (Nat.gcd_dvd_left u 100), Nat.mod_eq_zero_of_dvd (Nat.gcd_dvd_right u 100)⟩ (hm _ (by omega) c)
set_option maxHeartbeats 4000000 in
set_option maxRecDepth 100000 in
theorem c_X2_calm (l : Launch) (ad : Nat → Nat) (σ : ld_St) (h : Nat) (hh : σ 110 0 = nI h) (h8 : h ≤ 8) (n v : Int32) : ld_Ctr l yX2_calm cX2_calm 4 (some .int) (4, 90) [.ref (ad 0), .int n, .int v] ad σ (ld_I (fun (r : Int32) (σ2 : ld_St) => r = ld_fCa h (σ 0) (σ 1, σ 2, σ 3) n v ∧ ∃ g120 g121 g122 g123 g7 g8 g9 g10 g11 g12 g13 : Nat → Int32, σ2 = us (us (us (us (us (us (us (us (us (us (us σ 120 g120) 121 g121) 122 g122) 123 g123) 7 g7) 8 g8) 9 g9) 10 g10) 11 g11) 12 g12) 13 g13)) := by
  refine ld_entry (by decide +kernel) (Nat.le_of_ble_eq_true rfl) (fun K O E => ?_)
  have O : ld_Ok l K ad cX2_calm 4 RX2 (ld_rm (4, 90)) := O
  show K σ [(0, .ref (ad 0)), (1, .int n), (2, .int v)] [] 0
  refine ld_aload_n O (pc := 0) 0 dX2_calm_0 rfl rfl ?_
  refine ld_callVi O (pc := 1) (As := []) (st := []) ld_recv0 (c_X2_hasStreet l ad σ h hh h8) ld_mw_X2_hasStreet ld_w229 rfl rfl ⟨by decide, by decide⟩ (Nat.le_of_ble_eq_true rfl) dX2_calm_1 (fun r_p1 σ_p1 h_p1 => ?_)
  obtain ⟨rfl, hσ_p1⟩ := h_p1
  rw [hσ_p1]
  show K σ [(0, .ref (ad 0)), (1, .int n), (2, .int v)] [.int (ld_b (0 < h))] 4
  refine ld_ifb_ne O (pc := 4) 10 dX2_calm_4 (by decide) (fun c1 => ?_) (fun c1 => ?_)
  · refine ld_iload_n O (pc := 10) 1 dX2_calm_10 rfl rfl ?_
    refine ld_if_lt O (pc := 11) (n).toInt rfl 27 dX2_calm_11 (by decide) (fun c2 => ?_) (fun c2 => ?_)
    · refine ld_bipush O (pc := 27) (v := (-2 : Int32)) dX2_calm_27 (by decide) ?_
      refine ld_ireti E dX2_calm_29 ?_
      refine ⟨?_, σ 120, σ 121, σ 122, σ 123, σ 7, σ 8, σ 9, σ 10, σ 11, σ 12, σ 13, ?_⟩
      · unfold ld_fCa
        repeat' split
        all_goals first | rfl | (exfalso; omega)
      · funext b_
        by_cases h0_ : b_ = 121
        · subst h0_; first | rfl | (simp (disch := omega) only [us_ne, us_eq]; done)
        by_cases h1_ : b_ = 122
        · subst h1_; first | rfl | (simp (disch := omega) only [us_ne, us_eq]; done)
        by_cases h2_ : b_ = 123
        · subst h2_; first | rfl | (simp (disch := omega) only [us_ne, us_eq]; done)
        by_cases h3_ : b_ = 7
        · subst h3_; first | rfl | (simp (disch := omega) only [us_ne, us_eq]; done)
        by_cases h4_ : b_ = 8
        · subst h4_; first | rfl | (simp (disch := omega) only [us_ne, us_eq]; done)
        by_cases h5_ : b_ = 9
        · subst h5_; first | rfl | (simp (disch := omega) only [us_ne, us_eq]; done)
        by_cases h6_ : b_ = 10
        · subst h6_; first | rfl | (simp (disch := omega) only [us_ne, us_eq]; done)
        by_cases h7_ : b_ = 11
        · subst h7_; first | rfl | (simp (disch := omega) only [us_ne, us_eq]; done)
        by_cases h8_ : b_ = 12
        · subst h8_; first | rfl | (simp (disch := omega) only [us_ne, us_eq]; done)
        by_cases h9_ : b_ = 13
        · subst h9_; first | rfl | (simp (disch := omega) only [us_ne, us_eq]; done)
        by_cases h10_ : b_ = 120
        · subst h10_; first | rfl | (simp (disch := omega) only [us_ne, us_eq]; done)
        simp only [us, h0_, h1_, h2_, h3_, h4_, h5_, h6_, h7_, h8_, h9_, h10_, if_false]
    · refine ld_iload_n O (pc := 14) 1 dX2_calm_14 rfl rfl ?_
      refine ld_bipush O (pc := 15) (v := nI 12) dX2_calm_15 (by decide) ?_
      refine ld_icmp_gt O (pc := 17) (n).toInt 12 rfl (by decide) 27 dX2_calm_17 (by decide) (fun c3 => ?_) (fun c3 => ?_)
      · refine ld_bipush O (pc := 27) (v := (-2 : Int32)) dX2_calm_27 (by decide) ?_
        refine ld_ireti E dX2_calm_29 ?_
        refine ⟨?_, σ 120, σ 121, σ 122, σ 123, σ 7, σ 8, σ 9, σ 10, σ 11, σ 12, σ 13, ?_⟩
        · unfold ld_fCa
          repeat' split
          all_goals first | rfl | (exfalso; omega)
        · funext b_
          by_cases h0_ : b_ = 121
          · subst h0_; first | rfl | (simp (disch := omega) only [us_ne, us_eq]; done)
          by_cases h1_ : b_ = 122
          · subst h1_; first | rfl | (simp (disch := omega) only [us_ne, us_eq]; done)
          by_cases h2_ : b_ = 123
          · subst h2_; first | rfl | (simp (disch := omega) only [us_ne, us_eq]; done)
          by_cases h3_ : b_ = 7
          · subst h3_; first | rfl | (simp (disch := omega) only [us_ne, us_eq]; done)
          by_cases h4_ : b_ = 8
          · subst h4_; first | rfl | (simp (disch := omega) only [us_ne, us_eq]; done)
          by_cases h5_ : b_ = 9
          · subst h5_; first | rfl | (simp (disch := omega) only [us_ne, us_eq]; done)
          by_cases h6_ : b_ = 10
          · subst h6_; first | rfl | (simp (disch := omega) only [us_ne, us_eq]; done)
          by_cases h7_ : b_ = 11
          · subst h7_; first | rfl | (simp (disch := omega) only [us_ne, us_eq]; done)
          by_cases h8_ : b_ = 12
          · subst h8_; first | rfl | (simp (disch := omega) only [us_ne, us_eq]; done)
          by_cases h9_ : b_ = 13
          · subst h9_; first | rfl | (simp (disch := omega) only [us_ne, us_eq]; done)
          by_cases h10_ : b_ = 120
          · subst h10_; first | rfl | (simp (disch := omega) only [us_ne, us_eq]; done)
          simp only [us, h0_, h1_, h2_, h3_, h4_, h5_, h6_, h7_, h8_, h9_, h10_, if_false]
      · refine ld_iload_n O (pc := 20) 2 dX2_calm_20 rfl rfl ?_
        refine ld_callSi O (pc := 21) (As := [.int v]) (st := []) (c_X2_isTemper l ad σ v) ld_mw_X2_isTemper ld_w218 rfl rfl ⟨by decide, by decide⟩ (Nat.le_of_ble_eq_true rfl) dX2_calm_21 (fun r_p21 σ_p21 h_p21 => ?_)
        obtain ⟨rfl, hσ_p21⟩ := h_p21
        rw [hσ_p21]
        show K σ [(0, .ref (ad 0)), (1, .int n), (2, .int v)] [.int (ld_b (0 ≤ (v).toInt ∧ (v).toInt < 10))] 24
        refine ld_ifb_ne O (pc := 24) 30 dX2_calm_24 (by decide) (fun c4 => ?_) (fun c4 => ?_)
        · obtain ⟨ek_n, hk_n, ik_n⟩ := ld_ofIx (k := n) (h := 13) (by omega)
          rw [ek_n]
          refine ld_iconst O (pc := 30) (v := nI 0) dX2_calm_30 (by decide) ?_
          refine ld_istore_n O (pc := 31) [(3, .int (nI 0)), (0, .ref (ad 0)), (1, .int (nI (ld_ix n))), (2, .int v)] dX2_calm_31 rfl (by decide) rfl ?_
          have L32 : ∀ (m_32 : Nat) (i : Nat) (g120 : Nat → Int32) (g121 : Nat → Int32) (g122 : Nat → Int32) (g123 : Nat → Int32) (g7 : Nat → Int32) (g8 : Nat → Int32) (g9 : Nat → Int32) (g10 : Nat → Int32) (g11 : Nat → Int32) (g12 : Nat → Int32) (g13 : Nat → Int32), 100 - i < m_32 → (i ≤ 100) → (ld_fi (fun c => (ld_wm (ld_wks h (nI c) (σ 0) (σ 1, σ 2, σ 3) (ld_ix n)).1 h).toInt ≤ v.toInt) i = none) → K (us (us (us (us (us (us (us (us (us (us (us σ 120 g120) 121 g121) 122 g122) 123 g123) 7 g7) 8 g8) 9 g9) 10 g10) 11 g11) 12 g12) 13 g13) [(0, .ref (ad 0)), (1, .int (nI (ld_ix n))), (2, .int v), (3, .int (nI i))] [] 32 := by
            intro m_32
            induction m_32 with
            | zero => intro i g120 g121 g122 g123 g7 g8 g9 g10 g11 g12 g13 hm_; exact absurd hm_ (Nat.not_lt_zero _)
            | succ m_32 ih32 =>
              intro i g120 g121 g122 g123 g7 g8 g9 g10 g11 g12 g13 hm_32 hi hf
              refine ld_iload_n O (pc := 32) 3 dX2_calm_32 rfl rfl ?_
              refine ld_bipush O (pc := 33) (v := nI 99) dX2_calm_33 (by decide) ?_
              refine ld_icmp_gt O (pc := 35) ((i : Nat) : Int) 99 (nI_toInt (by omega)) (by decide) 84 dX2_calm_35 (by decide) (fun c5 => ?_) (fun c5 => ?_)
              · refine ld_bipush O (pc := 84) (v := (-9 : Int32)) dX2_calm_84 (by decide) ?_
                refine ld_ireti E dX2_calm_86 ?_
                refine ⟨?_, g120, g121, g122, g123, g7, g8, g9, g10, g11, g12, g13, ?_⟩
                · unfold ld_fCa
                  rw [if_pos (by omega), if_pos (by omega)]
                  rw [show i = 100 by omega] at hf
                  rw [hf]
                  rfl
                · funext b_
                  by_cases h0_ : b_ = 120
                  · subst h0_; first | rfl | (simp (disch := omega) only [us_ne, us_eq]; done)
                  by_cases h1_ : b_ = 121
                  · subst h1_; first | rfl | (simp (disch := omega) only [us_ne, us_eq]; done)
                  by_cases h2_ : b_ = 122
                  · subst h2_; first | rfl | (simp (disch := omega) only [us_ne, us_eq]; done)
                  by_cases h3_ : b_ = 123
                  · subst h3_; first | rfl | (simp (disch := omega) only [us_ne, us_eq]; done)
                  by_cases h4_ : b_ = 7
                  · subst h4_; first | rfl | (simp (disch := omega) only [us_ne, us_eq]; done)
                  by_cases h5_ : b_ = 8
                  · subst h5_; first | rfl | (simp (disch := omega) only [us_ne, us_eq]; done)
                  by_cases h6_ : b_ = 9
                  · subst h6_; first | rfl | (simp (disch := omega) only [us_ne, us_eq]; done)
                  by_cases h7_ : b_ = 10
                  · subst h7_; first | rfl | (simp (disch := omega) only [us_ne, us_eq]; done)
                  by_cases h8_ : b_ = 11
                  · subst h8_; first | rfl | (simp (disch := omega) only [us_ne, us_eq]; done)
                  by_cases h9_ : b_ = 12
                  · subst h9_; first | rfl | (simp (disch := omega) only [us_ne, us_eq]; done)
                  by_cases h10_ : b_ = 13
                  · subst h10_; first | rfl | (simp (disch := omega) only [us_ne, us_eq]; done)
                  simp only [us, h0_, h1_, h2_, h3_, h4_, h5_, h6_, h7_, h8_, h9_, h10_, if_false]
              · refine ld_aload_n O (pc := 38) 0 dX2_calm_38 rfl rfl ?_
                refine ld_g_LD_trial O (pc := 39) ld_w16 dX2_calm_39 ?_
                refine ld_aload_n O (pc := 42) 0 dX2_calm_42 rfl rfl ?_
                refine ld_g_LD_now O (pc := 43) ld_w15 dX2_calm_43 ?_
                refine ld_callVNv O (pc := 46) (As := [.ref (ad 1)]) (st := []) ld_recv2 (c_X1_becomeLike l ad (us (us (us (us (us (us (us (us (us (us (us σ 120 g120) 121 g121) 122 g122) 123 g123) 7 g7) 8 g8) 9 g9) 10 g10) 11 g11) 12 g12) 13 g13) h hh h8) ld_mw_X1_becomeLike (List.mem_of_getElem? (i := 24) rfl) rfl rfl ⟨by decide, by decide⟩ (Nat.le_of_ble_eq_true rfl) dX2_calm_46 (fun σ_p46 h_p46 => ?_)
                obtain ⟨k7_p46, k8_p46, k9_p46, k10_p46, hσ_p46, hk_p46⟩ := h_p46
                rw [hσ_p46]
                have hk_p46 : ∀ x, x < h → k7_p46 x = σ 0 x ∧ k8_p46 x = σ 1 x ∧ k9_p46 x = σ 2 x ∧ k10_p46 x = σ 3 x := hk_p46
                show K (us (us (us (us (us (us (us (us (us (us (us (us (us (us (us (us (us (us (us σ 120 g120) 121 g121) 122 g122) 123 g123) 7 g7) 8 g8) 9 g9) 10 g10) 11 g11) 12 g12) 13 g13) 120 (fun _ => nI h)) 121 (fun _ => σ 111 0)) 122 (fun _ => σ 112 0)) 123 (fun _ => nI 0)) 7 k7_p46) 8 k8_p46) 9 k9_p46) 10 k10_p46) [(0, .ref (ad 0)), (1, .int (nI (ld_ix n))), (2, .int v), (3, .int (nI i))] [] 49
                refine ld_aload_n O (pc := 49) 0 dX2_calm_49 rfl rfl ?_
                refine ld_g_LD_trial O (pc := 50) ld_w16 dX2_calm_50 ?_
                refine ld_iload_n O (pc := 53) 3 dX2_calm_53 rfl rfl ?_
                refine ld_p_trial_crateN O (pc := 54) (List.mem_of_getElem? (i := 2) rfl) dX2_calm_54 ?_
                refine ld_aload_n O (pc := 57) 0 dX2_calm_57 rfl rfl ?_
                refine ld_g_LD_trial O (pc := 58) ld_w16 dX2_calm_58 ?_
                refine ld_iload_n O (pc := 61) 1 dX2_calm_61 rfl rfl ?_
                refine ld_callVNv O (pc := 62) (As := [.int (nI (ld_ix n))]) (st := []) ld_recv2 (c_X1_passWeeks_1 l ad (us (us (us (us (us (us (us (us (us (us (us (us (us (us (us (us (us (us (us (us σ 120 g120) 121 g121) 122 g122) 123 g123) 7 g7) 8 g8) 9 g9) 10 g10) 11 g11) 12 g12) 13 g13) 120 (fun _ => nI h)) 121 (fun _ => σ 111 0)) 122 (fun _ => σ 112 0)) 123 (fun _ => nI 0)) 7 k7_p46) 8 k8_p46) 9 k9_p46) 10 k10_p46) 121 (fun _ => nI i)) h rfl h8 (ld_ix n) (by omega)) ld_mw_X1_passWeeks (List.mem_of_getElem? (i := 21) rfl) rfl rfl ⟨by decide, by decide⟩ (Nat.le_of_ble_eq_true rfl) dX2_calm_62 (fun σ_p62 h_p62 => ?_)
                obtain ⟨ft_p62, fs_p62, fp_p62, f4_p62, f5_p62, f6_p62, fw_p62, fl_p62, hσ_p62, he_p62, hw_p62, hl_p62⟩ := h_p62
                rw [hσ_p62]
                have he_p62 : ld_eqv h (ft_p62, fs_p62, fp_p62) (ld_wks h (nI i) k7_p46 (k8_p46, k9_p46, k10_p46) (ld_ix n)) := he_p62
                have hw_p62 : fw_p62 0 = (σ 112 0) + nI (ld_ix n) := hw_p62
                have hl_p62 : fl_p62 0 = (nI 0) + nI (ld_lw h (nI i) k7_p46 (k8_p46, k9_p46, k10_p46) (ld_ix n)) := hl_p62
                show K (us (us (us (us (us (us (us (us (us (us (us (us (us (us (us (us (us (us (us (us (us (us (us (us (us (us (us (us σ 120 g120) 121 g121) 122 g122) 123 g123) 7 g7) 8 g8) 9 g9) 10 g10) 11 g11) 12 g12) 13 g13) 120 (fun _ => nI h)) 121 (fun _ => σ 111 0)) 122 (fun _ => σ 112 0)) 123 (fun _ => nI 0)) 7 k7_p46) 8 k8_p46) 9 k9_p46) 10 k10_p46) 121 (fun _ => nI i)) 8 ft_p62) 9 fs_p62) 10 fp_p62) 11 f4_p62) 12 f5_p62) 13 f6_p62) 122 fw_p62) 123 fl_p62) [(0, .ref (ad 0)), (1, .int (nI (ld_ix n))), (2, .int v), (3, .int (nI i))] [] 65
                refine ld_aload_n O (pc := 65) 0 dX2_calm_65 rfl rfl ?_
                refine ld_g_LD_trial O (pc := 66) ld_w16 dX2_calm_66 ?_
                refine ld_callVNi O (pc := 69) (As := []) (st := []) ld_recv2 (c_X1_worst_1 l ad (us (us (us (us (us (us (us (us (us (us (us (us (us (us (us (us (us (us (us (us (us (us (us (us (us (us (us (us σ 120 g120) 121 g121) 122 g122) 123 g123) 7 g7) 8 g8) 9 g9) 10 g10) 11 g11) 12 g12) 13 g13) 120 (fun _ => nI h)) 121 (fun _ => σ 111 0)) 122 (fun _ => σ 112 0)) 123 (fun _ => nI 0)) 7 k7_p46) 8 k8_p46) 9 k9_p46) 10 k10_p46) 121 (fun _ => nI i)) 8 ft_p62) 9 fs_p62) 10 fp_p62) 11 f4_p62) 12 f5_p62) 13 f6_p62) 122 fw_p62) 123 fl_p62) h rfl h8) ld_mw_X1_worstTemper (List.mem_of_getElem? (i := 26) rfl) rfl rfl ⟨by decide, by decide⟩ (Nat.le_of_ble_eq_true rfl) dX2_calm_69 (fun r_p69 σ_p69 h_p69 => ?_)
                obtain ⟨rfl, hσ_p69⟩ := h_p69
                rw [hσ_p69]
                show K (us (us (us (us (us (us (us (us (us (us (us (us (us (us (us (us (us (us (us (us (us (us (us (us (us (us (us (us σ 120 g120) 121 g121) 122 g122) 123 g123) 7 g7) 8 g8) 9 g9) 10 g10) 11 g11) 12 g12) 13 g13) 120 (fun _ => nI h)) 121 (fun _ => σ 111 0)) 122 (fun _ => σ 112 0)) 123 (fun _ => nI 0)) 7 k7_p46) 8 k8_p46) 9 k9_p46) 10 k10_p46) 121 (fun _ => nI i)) 8 ft_p62) 9 fs_p62) 10 fp_p62) 11 f4_p62) 12 f5_p62) 13 f6_p62) 122 fw_p62) 123 fl_p62) [(0, .ref (ad 0)), (1, .int (nI (ld_ix n))), (2, .int v), (3, .int (nI i))] [.int (ld_wm ft_p62 h)] 72
                have hw_ : ld_wm ft_p62 h = ld_wm (ld_wks h (nI i) (σ 0) (σ 1, σ 2, σ 3) (ld_ix n)).1 h := ld_wm_cong (fun x hx => ((he_p62.tr (ld_wks_cong2 (fun y hy => (hk_p46 y hy).1) (fun y hy => (hk_p46 y hy).2) _)) x hx).1)
                rw [hw_]
                refine ld_iload_n O (pc := 72) 2 dX2_calm_72 rfl rfl ?_
                refine ld_icmp_gt O (pc := 73) (ld_wm (ld_wks h (nI i) (σ 0) (σ 1, σ 2, σ 3) (ld_ix n)).1 h).toInt (v).toInt rfl rfl 78 dX2_calm_73 (by decide) (fun c6 => ?_) (fun c6 => ?_)
                · refine ld_iincN O (pc := 78) [(3, .int (nI (i + 1))), (0, .ref (ad 0)), (1, .int (nI (ld_ix n))), (2, .int v)] 3 dX2_calm_78 rfl (by decide) rfl ?_
                  refine ld_goto O (pc := 81) 32 dX2_calm_81 (by decide) ?_
                  refine ld_less O [1, 2, 3, 0] (lv2 := [(0, .ref (ad 0)), (1, .int (nI (ld_ix n))), (2, .int v), (3, .int (nI (i + 1)))]) rfl ?_
                  have hs7 : us (us (us (us (us (us (us (us (us (us (us (us (us (us (us (us (us (us (us (us (us (us (us (us (us (us (us (us σ 120 g120) 121 g121) 122 g122) 123 g123) 7 g7) 8 g8) 9 g9) 10 g10) 11 g11) 12 g12) 13 g13) 120 (fun _ => nI h)) 121 (fun _ => σ 111 0)) 122 (fun _ => σ 112 0)) 123 (fun _ => nI 0)) 7 k7_p46) 8 k8_p46) 9 k9_p46) 10 k10_p46) 121 (fun _ => nI i)) 8 ft_p62) 9 fs_p62) 10 fp_p62) 11 f4_p62) 12 f5_p62) 13 f6_p62) 122 fw_p62) 123 fl_p62 = us (us (us (us (us (us (us (us (us (us (us σ 120 (fun _ => nI h)) 121 (fun _ => nI i)) 122 fw_p62) 123 fl_p62) 7 k7_p46) 8 ft_p62) 9 fs_p62) 10 fp_p62) 11 f4_p62) 12 f5_p62) 13 f6_p62 := by
                    funext b_
                    by_cases h0_ : b_ = 120
                    · subst h0_; rfl
                    by_cases h1_ : b_ = 121
                    · subst h1_; rfl
                    by_cases h2_ : b_ = 122
                    · subst h2_; rfl
                    by_cases h3_ : b_ = 123
                    · subst h3_; rfl
                    by_cases h4_ : b_ = 7
                    · subst h4_; rfl
                    by_cases h5_ : b_ = 8
                    · subst h5_; rfl
                    by_cases h6_ : b_ = 9
                    · subst h6_; rfl
                    by_cases h7_ : b_ = 10
                    · subst h7_; rfl
                    by_cases h8_ : b_ = 11
                    · subst h8_; rfl
                    by_cases h9_ : b_ = 12
                    · subst h9_; rfl
                    by_cases h10_ : b_ = 13
                    · subst h10_; rfl
                    simp only [us, h0_, h1_, h2_, h3_, h4_, h5_, h6_, h7_, h8_, h9_, h10_, if_false]
                  refine ld_cv hs7 ?_
                  exact ih32 (i + 1) (fun _ => nI h) (fun _ => nI i) fw_p62 fl_p62 k7_p46 ft_p62 fs_p62 fp_p62 f4_p62 f5_p62 f6_p62 (by omega) (by omega) (ld_fi_no hf (fun z => by omega))
                · refine ld_iload_n O (pc := 76) 3 dX2_calm_76 rfl rfl ?_
                  refine ld_ireti E dX2_calm_77 ?_
                  refine ⟨?_, fun _ => nI h, fun _ => nI i, fw_p62, fl_p62, k7_p46, ft_p62, fs_p62, fp_p62, f4_p62, f5_p62, f6_p62, ?_⟩
                  · unfold ld_fCa
                    rw [if_pos (by omega), if_pos (by omega), ld_fi_yes hf (show (ld_wm (ld_wks h (nI i) (σ 0) (σ 1, σ 2, σ 3) (ld_ix n)).1 h).toInt ≤ v.toInt by omega) (by omega)]
                    rfl
                  · funext b_
                    by_cases h0_ : b_ = 120
                    · subst h0_; first | rfl | (simp (disch := omega) only [us_ne, us_eq]; done)
                    by_cases h1_ : b_ = 121
                    · subst h1_; first | rfl | (simp (disch := omega) only [us_ne, us_eq]; done)
                    by_cases h2_ : b_ = 122
                    · subst h2_; first | rfl | (simp (disch := omega) only [us_ne, us_eq]; done)
                    by_cases h3_ : b_ = 123
                    · subst h3_; first | rfl | (simp (disch := omega) only [us_ne, us_eq]; done)
                    by_cases h4_ : b_ = 7
                    · subst h4_; first | rfl | (simp (disch := omega) only [us_ne, us_eq]; done)
                    by_cases h5_ : b_ = 8
                    · subst h5_; first | rfl | (simp (disch := omega) only [us_ne, us_eq]; done)
                    by_cases h6_ : b_ = 9
                    · subst h6_; first | rfl | (simp (disch := omega) only [us_ne, us_eq]; done)
                    by_cases h7_ : b_ = 10
                    · subst h7_; first | rfl | (simp (disch := omega) only [us_ne, us_eq]; done)
                    by_cases h8_ : b_ = 11
                    · subst h8_; first | rfl | (simp (disch := omega) only [us_ne, us_eq]; done)
                    by_cases h9_ : b_ = 12
                    · subst h9_; first | rfl | (simp (disch := omega) only [us_ne, us_eq]; done)
                    by_cases h10_ : b_ = 13
                    · subst h10_; first | rfl | (simp (disch := omega) only [us_ne, us_eq]; done)
                    simp only [us, h0_, h1_, h2_, h3_, h4_, h5_, h6_, h7_, h8_, h9_, h10_, if_false]
          refine ld_less O [1, 2, 3, 0] (lv2 := [(0, .ref (ad 0)), (1, .int (nI (ld_ix n))), (2, .int v), (3, .int (nI 0))]) rfl ?_
          have hs8 : σ = us (us (us (us (us (us (us (us (us (us (us σ 120 (σ 120)) 121 (σ 121)) 122 (σ 122)) 123 (σ 123)) 7 (σ 7)) 8 (σ 8)) 9 (σ 9)) 10 (σ 10)) 11 (σ 11)) 12 (σ 12)) 13 (σ 13) := by
            funext b_
            by_cases h0_ : b_ = 120
            · subst h0_; rfl
            by_cases h1_ : b_ = 121
            · subst h1_; rfl
            by_cases h2_ : b_ = 122
            · subst h2_; rfl
            by_cases h3_ : b_ = 123
            · subst h3_; rfl
            by_cases h4_ : b_ = 7
            · subst h4_; rfl
            by_cases h5_ : b_ = 8
            · subst h5_; rfl
            by_cases h6_ : b_ = 9
            · subst h6_; rfl
            by_cases h7_ : b_ = 10
            · subst h7_; rfl
            by_cases h8_ : b_ = 11
            · subst h8_; rfl
            by_cases h9_ : b_ = 12
            · subst h9_; rfl
            by_cases h10_ : b_ = 13
            · subst h10_; rfl
            simp only [us, h0_, h1_, h2_, h3_, h4_, h5_, h6_, h7_, h8_, h9_, h10_, if_false]
          refine ld_cv hs8 ?_
          exact L32 _ 0 (σ 120) (σ 121) (σ 122) (σ 123) (σ 7) (σ 8) (σ 9) (σ 10) (σ 11) (σ 12) (σ 13) (Nat.lt_succ_self _) (Nat.zero_le _) rfl
        · refine ld_bipush O (pc := 27) (v := (-2 : Int32)) dX2_calm_27 (by decide) ?_
          refine ld_ireti E dX2_calm_29 ?_
          refine ⟨?_, σ 120, σ 121, σ 122, σ 123, σ 7, σ 8, σ 9, σ 10, σ 11, σ 12, σ 13, ?_⟩
          · unfold ld_fCa
            repeat' split
            all_goals first | rfl | (exfalso; omega)
          · funext b_
            by_cases h0_ : b_ = 121
            · subst h0_; first | rfl | (simp (disch := omega) only [us_ne, us_eq]; done)
            by_cases h1_ : b_ = 122
            · subst h1_; first | rfl | (simp (disch := omega) only [us_ne, us_eq]; done)
            by_cases h2_ : b_ = 123
            · subst h2_; first | rfl | (simp (disch := omega) only [us_ne, us_eq]; done)
            by_cases h3_ : b_ = 7
            · subst h3_; first | rfl | (simp (disch := omega) only [us_ne, us_eq]; done)
            by_cases h4_ : b_ = 8
            · subst h4_; first | rfl | (simp (disch := omega) only [us_ne, us_eq]; done)
            by_cases h5_ : b_ = 9
            · subst h5_; first | rfl | (simp (disch := omega) only [us_ne, us_eq]; done)
            by_cases h6_ : b_ = 10
            · subst h6_; first | rfl | (simp (disch := omega) only [us_ne, us_eq]; done)
            by_cases h7_ : b_ = 11
            · subst h7_; first | rfl | (simp (disch := omega) only [us_ne, us_eq]; done)
            by_cases h8_ : b_ = 12
            · subst h8_; first | rfl | (simp (disch := omega) only [us_ne, us_eq]; done)
            by_cases h9_ : b_ = 13
            · subst h9_; first | rfl | (simp (disch := omega) only [us_ne, us_eq]; done)
            by_cases h10_ : b_ = 120
            · subst h10_; first | rfl | (simp (disch := omega) only [us_ne, us_eq]; done)
            simp only [us, h0_, h1_, h2_, h3_, h4_, h5_, h6_, h7_, h8_, h9_, h10_, if_false]
  · refine ld_bipush O (pc := 7) (v := (-3 : Int32)) dX2_calm_7 (by decide) ?_
    refine ld_ireti E dX2_calm_9 ?_
    refine ⟨?_, σ 120, σ 121, σ 122, σ 123, σ 7, σ 8, σ 9, σ 10, σ 11, σ 12, σ 13, ?_⟩
    · unfold ld_fCa
      repeat' split
      all_goals first | rfl | (exfalso; omega)
    · funext b_
      by_cases h0_ : b_ = 121
      · subst h0_; first | rfl | (simp (disch := omega) only [us_ne, us_eq]; done)
      by_cases h1_ : b_ = 122
      · subst h1_; first | rfl | (simp (disch := omega) only [us_ne, us_eq]; done)
      by_cases h2_ : b_ = 123
      · subst h2_; first | rfl | (simp (disch := omega) only [us_ne, us_eq]; done)
      by_cases h3_ : b_ = 7
      · subst h3_; first | rfl | (simp (disch := omega) only [us_ne, us_eq]; done)
      by_cases h4_ : b_ = 8
      · subst h4_; first | rfl | (simp (disch := omega) only [us_ne, us_eq]; done)
      by_cases h5_ : b_ = 9
      · subst h5_; first | rfl | (simp (disch := omega) only [us_ne, us_eq]; done)
      by_cases h6_ : b_ = 10
      · subst h6_; first | rfl | (simp (disch := omega) only [us_ne, us_eq]; done)
      by_cases h7_ : b_ = 11
      · subst h7_; first | rfl | (simp (disch := omega) only [us_ne, us_eq]; done)
      by_cases h8_ : b_ = 12
      · subst h8_; first | rfl | (simp (disch := omega) only [us_ne, us_eq]; done)
      by_cases h9_ : b_ = 13
      · subst h9_; first | rfl | (simp (disch := omega) only [us_ne, us_eq]; done)
      by_cases h10_ : b_ = 120
      · subst h10_; first | rfl | (simp (disch := omega) only [us_ne, us_eq]; done)
      simp only [us, h0_, h1_, h2_, h3_, h4_, h5_, h6_, h7_, h8_, h9_, h10_, if_false]
set_option maxHeartbeats 4000000 in
set_option maxRecDepth 100000 in
theorem c_X2_wonder (l : Launch) (ad : Nat → Nat) (σ : ld_St) (h : Nat) (hh : σ 110 0 = nI h) (h8 : h ≤ 8) (cr : Nat) (hcr : σ 111 0 = nI cr) (c99 : cr ≤ 99) (what : Int32) : ld_Ctr l yX2_wonder cX2_wonder 4 (some .int) (3, 69) [.ref (ad 0), .int what] ad σ (ld_I (fun (r : Int32) (σ2 : ld_St) => r = ld_fWo h (σ 0) (σ 1) cr what ∧ ∃ g4 g5 g6 g120 g121 g122 g123 g7 g8 g9 g10 g11 g12 g13 : Nat → Int32, σ2 = us (us (us (us (us (us (us (us (us (us (us (us (us (us σ 4 g4) 5 g5) 6 g6) 120 g120) 121 g121) 122 g122) 123 g123) 7 g7) 8 g8) 9 g9) 10 g10) 11 g11) 12 g12) 13 g13)) := by
  refine ld_entry (by decide +kernel) (Nat.le_of_ble_eq_true rfl) (fun K O E => ?_)
  have O : ld_Ok l K ad cX2_wonder 4 RX2 (ld_rm (3, 69)) := O
  show K σ [(0, .ref (ad 0)), (1, .int what)] [] 0
  refine ld_aload_n O (pc := 0) 0 dX2_wonder_0 rfl rfl ?_
  refine ld_callVi O (pc := 1) (As := []) (st := []) ld_recv0 (c_X2_hasStreet l ad σ h hh h8) ld_mw_X2_hasStreet ld_w229 rfl rfl ⟨by decide, by decide⟩ (Nat.le_of_ble_eq_true rfl) dX2_wonder_1 (fun r_p1 σ_p1 h_p1 => ?_)
  obtain ⟨rfl, hσ_p1⟩ := h_p1
  rw [hσ_p1]
  show K σ [(0, .ref (ad 0)), (1, .int what)] [.int (ld_b (0 < h))] 4
  refine ld_ifb_ne O (pc := 4) 10 dX2_wonder_4 (by decide) (fun c1 => ?_) (fun c1 => ?_)
  · refine ld_iload_n O (pc := 10) 1 dX2_wonder_10 rfl rfl ?_
    refine ld_if_lt O (pc := 11) (what).toInt rfl 19 dX2_wonder_11 (by decide) (fun c2 => ?_) (fun c2 => ?_)
    · refine ld_bipush O (pc := 19) (v := (-2 : Int32)) dX2_wonder_19 (by decide) ?_
      refine ld_ireti E dX2_wonder_21 ?_
      refine ⟨?_, σ 4, σ 5, σ 6, σ 120, σ 121, σ 122, σ 123, σ 7, σ 8, σ 9, σ 10, σ 11, σ 12, σ 13, ?_⟩
      · unfold ld_fWo
        rw [if_pos (by omega), if_neg (by omega)]
      · funext b_
        by_cases h0_ : b_ = 5
        · subst h0_; first | rfl | (simp (disch := omega) only [us_ne, us_eq]; done)
        by_cases h1_ : b_ = 6
        · subst h1_; first | rfl | (simp (disch := omega) only [us_ne, us_eq]; done)
        by_cases h2_ : b_ = 120
        · subst h2_; first | rfl | (simp (disch := omega) only [us_ne, us_eq]; done)
        by_cases h3_ : b_ = 121
        · subst h3_; first | rfl | (simp (disch := omega) only [us_ne, us_eq]; done)
        by_cases h4_ : b_ = 122
        · subst h4_; first | rfl | (simp (disch := omega) only [us_ne, us_eq]; done)
        by_cases h5_ : b_ = 123
        · subst h5_; first | rfl | (simp (disch := omega) only [us_ne, us_eq]; done)
        by_cases h6_ : b_ = 7
        · subst h6_; first | rfl | (simp (disch := omega) only [us_ne, us_eq]; done)
        by_cases h7_ : b_ = 8
        · subst h7_; first | rfl | (simp (disch := omega) only [us_ne, us_eq]; done)
        by_cases h8_ : b_ = 9
        · subst h8_; first | rfl | (simp (disch := omega) only [us_ne, us_eq]; done)
        by_cases h9_ : b_ = 10
        · subst h9_; first | rfl | (simp (disch := omega) only [us_ne, us_eq]; done)
        by_cases h10_ : b_ = 11
        · subst h10_; first | rfl | (simp (disch := omega) only [us_ne, us_eq]; done)
        by_cases h11_ : b_ = 12
        · subst h11_; first | rfl | (simp (disch := omega) only [us_ne, us_eq]; done)
        by_cases h12_ : b_ = 13
        · subst h12_; first | rfl | (simp (disch := omega) only [us_ne, us_eq]; done)
        by_cases h13_ : b_ = 4
        · subst h13_; first | rfl | (simp (disch := omega) only [us_ne, us_eq]; done)
        simp only [us, h0_, h1_, h2_, h3_, h4_, h5_, h6_, h7_, h8_, h9_, h10_, h11_, h12_, h13_, if_false]
    · refine ld_iload_n O (pc := 14) 1 dX2_wonder_14 rfl rfl ?_
      refine ld_iconst O (pc := 15) (v := nI 1) dX2_wonder_15 (by decide) ?_
      refine ld_icmp_le O (pc := 16) (what).toInt 1 rfl (by decide) 22 dX2_wonder_16 (by decide) (fun c3 => ?_) (fun c3 => ?_)
      · refine ld_aload_n O (pc := 22) 0 dX2_wonder_22 rfl rfl ?_
        refine ld_g_LD_trial O (pc := 23) ld_w16 dX2_wonder_23 ?_
        refine ld_aload_n O (pc := 26) 0 dX2_wonder_26 rfl rfl ?_
        refine ld_g_LD_now O (pc := 27) ld_w15 dX2_wonder_27 ?_
        refine ld_callVNv O (pc := 30) (As := [.ref (ad 1)]) (st := []) ld_recv2 (c_X1_becomeLike l ad σ h hh h8) ld_mw_X1_becomeLike (List.mem_of_getElem? (i := 24) rfl) rfl rfl ⟨by decide, by decide⟩ (Nat.le_of_ble_eq_true rfl) dX2_wonder_30 (fun σ_p30 h_p30 => ?_)
        obtain ⟨k7_p30, k8_p30, k9_p30, k10_p30, hσ_p30, hk_p30⟩ := h_p30
        rw [hσ_p30]
        have hk_p30 : ∀ x, x < h → k7_p30 x = σ 0 x ∧ k8_p30 x = σ 1 x ∧ k9_p30 x = σ 2 x ∧ k10_p30 x = σ 3 x := hk_p30
        show K (us (us (us (us (us (us (us (us σ 120 (fun _ => nI h)) 121 (fun _ => σ 111 0)) 122 (fun _ => σ 112 0)) 123 (fun _ => nI 0)) 7 k7_p30) 8 k8_p30) 9 k9_p30) 10 k10_p30) [(0, .ref (ad 0)), (1, .int what)] [] 33
        refine ld_aload_n O (pc := 33) 0 dX2_wonder_33 rfl rfl ?_
        refine ld_g_LD_now O (pc := 34) ld_w15 dX2_wonder_34 ?_
        refine ld_g_now_crateN O (pc := 37) (v := nI cr) (List.mem_of_getElem? (i := 2) rfl) hcr dX2_wonder_37 ?_
        refine ld_istore_n O (pc := 40) [(2, .int (nI cr)), (0, .ref (ad 0)), (1, .int what)] dX2_wonder_40 rfl (by decide) rfl ?_
        have L41 : ∀ (m_41 : Nat) (i : Nat) (f4 : Nat → Int32) (f5 : Nat → Int32) (f6 : Nat → Int32) (f11 : Nat → Int32) (f12 : Nat → Int32) (f13 : Nat → Int32), 99 - i < m_41 → (cr ≤ i) → (i ≤ 99) → (ld_fi (fun d => ¬ ld_lo h (σ 0) (σ 1) (cr + d) = none) (i - cr) = none) → K (us (us (us (us (us (us (us (us (us (us (us (us (us (us σ 120 (fun _ => nI h)) 121 (fun _ => σ 111 0)) 122 (fun _ => σ 112 0)) 123 (fun _ => nI 0)) 7 k7_p30) 8 k8_p30) 9 k9_p30) 10 k10_p30) 4 f4) 5 f5) 6 f6) 11 f11) 12 f12) 13 f13) [(0, .ref (ad 0)), (1, .int what), (2, .int (nI i))] [] 41 := by
          intro m_41
          induction m_41 with
          | zero => intro i f4 f5 f6 f11 f12 f13 hm_; exact absurd hm_ (Nat.not_lt_zero _)
          | succ m_41 ih41 =>
            intro i f4 f5 f6 f11 f12 f13 hm_41 hi hi2 hf
            refine ld_iload_n O (pc := 41) 2 dX2_wonder_41 rfl rfl ?_
            refine ld_bipush O (pc := 42) (v := nI 99) dX2_wonder_42 (by decide) ?_
            refine ld_icmp_ge O (pc := 44) ((i : Nat) : Int) 99 (nI_toInt (by omega)) (by decide) 75 dX2_wonder_44 (by decide) (fun c4 => ?_) (fun c4 => ?_)
            · refine ld_bipush O (pc := 75) (v := (-9 : Int32)) dX2_wonder_75 (by decide) ?_
              refine ld_ireti E dX2_wonder_77 ?_
              refine ⟨?_, f4, f5, f6, fun _ => nI h, fun _ => σ 111 0, fun _ => σ 112 0, fun _ => nI 0, k7_p30, k8_p30, k9_p30, k10_p30, f11, f12, f13, ?_⟩
              · have hY_ : ld_wd h (σ 0) (σ 1) cr = none := by rw [show i = 99 by omega] at hf; exact hf
                unfold ld_fWo
                rw [if_pos (by omega), if_pos (by omega), hY_]
              · funext b_
                by_cases h0_ : b_ = 120
                · subst h0_; first | rfl | (simp (disch := omega) only [us_ne, us_eq]; done)
                by_cases h1_ : b_ = 121
                · subst h1_; first | rfl | (simp (disch := omega) only [us_ne, us_eq]; done)
                by_cases h2_ : b_ = 122
                · subst h2_; first | rfl | (simp (disch := omega) only [us_ne, us_eq]; done)
                by_cases h3_ : b_ = 123
                · subst h3_; first | rfl | (simp (disch := omega) only [us_ne, us_eq]; done)
                by_cases h4_ : b_ = 7
                · subst h4_; first | rfl | (simp (disch := omega) only [us_ne, us_eq]; done)
                by_cases h5_ : b_ = 8
                · subst h5_; first | rfl | (simp (disch := omega) only [us_ne, us_eq]; done)
                by_cases h6_ : b_ = 9
                · subst h6_; first | rfl | (simp (disch := omega) only [us_ne, us_eq]; done)
                by_cases h7_ : b_ = 10
                · subst h7_; first | rfl | (simp (disch := omega) only [us_ne, us_eq]; done)
                by_cases h8_ : b_ = 4
                · subst h8_; first | rfl | (simp (disch := omega) only [us_ne, us_eq]; done)
                by_cases h9_ : b_ = 5
                · subst h9_; first | rfl | (simp (disch := omega) only [us_ne, us_eq]; done)
                by_cases h10_ : b_ = 6
                · subst h10_; first | rfl | (simp (disch := omega) only [us_ne, us_eq]; done)
                by_cases h11_ : b_ = 11
                · subst h11_; first | rfl | (simp (disch := omega) only [us_ne, us_eq]; done)
                by_cases h12_ : b_ = 12
                · subst h12_; first | rfl | (simp (disch := omega) only [us_ne, us_eq]; done)
                by_cases h13_ : b_ = 13
                · subst h13_; first | rfl | (simp (disch := omega) only [us_ne, us_eq]; done)
                simp only [us, h0_, h1_, h2_, h3_, h4_, h5_, h6_, h7_, h8_, h9_, h10_, h11_, h12_, h13_, if_false]
            · refine ld_aload_n O (pc := 47) 0 dX2_wonder_47 rfl rfl ?_
              refine ld_iload_n O (pc := 48) 2 dX2_wonder_48 rfl rfl ?_
              refine ld_callVi O (pc := 49) (As := [.int (nI i)]) (st := []) ld_recv0 (c_X2_loser l ad (us (us (us (us (us (us (us (us (us (us (us (us (us (us σ 120 (fun _ => nI h)) 121 (fun _ => σ 111 0)) 122 (fun _ => σ 112 0)) 123 (fun _ => nI 0)) 7 k7_p30) 8 k8_p30) 9 k9_p30) 10 k10_p30) 4 f4) 5 f5) 6 f6) 11 f11) 12 f12) 13 f13) h hh rfl h8 i (by omega)) ld_mw_X2_loserByOneMore ld_w387 rfl rfl ⟨by decide, by decide⟩ (Nat.le_of_ble_eq_true rfl) dX2_wonder_49 (fun r_p49 σ_p49 h_p49 => ?_)
              obtain ⟨rfl, f4_p49, f5_p49, f6_p49, f11_p49, f12_p49, f13_p49, hσ_p49⟩ := h_p49
              rw [hσ_p49]
              show K (us (us (us (us (us (us (us (us (us (us (us (us (us (us (us (us (us (us (us (us σ 120 (fun _ => nI h)) 121 (fun _ => σ 111 0)) 122 (fun _ => σ 112 0)) 123 (fun _ => nI 0)) 7 k7_p30) 8 k8_p30) 9 k9_p30) 10 k10_p30) 4 f4) 5 f5) 6 f6) 11 f11) 12 f12) 13 f13) 4 f4_p49) 5 f5_p49) 6 f6_p49) 11 f11_p49) 12 f12_p49) 13 f13_p49) [(0, .ref (ad 0)), (1, .int what), (2, .int (nI i))] [.int (ld_nv (ld_fi (fun x => (ld_dt h k7_p30 k8_p30 (nI (i + 1)) x).toInt < (ld_dt h (σ 0) (σ 1) (nI i) x).toInt) h))] 52
              have hL_ : ld_fi (fun x => (ld_dt h k7_p30 k8_p30 (nI (i + 1)) x).toInt < (ld_dt h (σ 0) (σ 1) (nI i) x).toInt) h = ld_lo h (σ 0) (σ 1) i := ld_fi_cong (fun x hx => by rw [ld_dt_cong (fun y hy => (hk_p30 y hy).1) (fun y hy => (hk_p30 y hy).2.1) hx])
              rw [hL_]
              refine ld_istore_n O (pc := 52) [(3, .int (ld_nv (ld_lo h (σ 0) (σ 1) i))), (0, .ref (ad 0)), (1, .int what), (2, .int (nI i))] dX2_wonder_52 rfl (by decide) rfl ?_
              generalize hx_ : ld_lo h (σ 0) (σ 1) i = o_; rcases o_ with _ | j
              · show K (us (us (us (us (us (us (us (us (us (us (us (us (us (us (us (us (us (us (us (us σ 120 (fun _ => nI h)) 121 (fun _ => σ 111 0)) 122 (fun _ => σ 112 0)) 123 (fun _ => nI 0)) 7 k7_p30) 8 k8_p30) 9 k9_p30) 10 k10_p30) 4 f4) 5 f5) 6 f6) 11 f11) 12 f12) 13 f13) 4 f4_p49) 5 f5_p49) 6 f6_p49) 11 f11_p49) 12 f12_p49) 13 f13_p49) [(3, .int (-9 : Int32)), (0, .ref (ad 0)), (1, .int what), (2, .int (nI i))] [] 53
                refine ld_iload_n O (pc := 53) 0 dX2_wonder_53 rfl rfl ?_
                refine ld_bipush O (pc := 54) (v := (-9 : Int32)) dX2_wonder_54 (by decide) ?_
                refine ld_icmp_eq O (pc := 56) (-9) (-9) (by decide) (by decide) 69 dX2_wonder_56 (by decide) (fun _ => ?_) (fun z => absurd z (by decide))
                refine ld_iincN O (pc := 69) [(2, .int (nI (i + 1))), (3, .int (-9 : Int32)), (0, .ref (ad 0)), (1, .int what)] 3 dX2_wonder_69 rfl (by decide) rfl ?_
                refine ld_goto O (pc := 72) 41 dX2_wonder_72 (by decide) ?_
                refine ld_less O [2, 3, 0] (lv2 := [(0, .ref (ad 0)), (1, .int what), (2, .int (nI (i + 1)))]) rfl ?_
                have hs6 : us (us (us (us (us (us (us (us (us (us (us (us (us (us (us (us (us (us (us (us σ 120 (fun _ => nI h)) 121 (fun _ => σ 111 0)) 122 (fun _ => σ 112 0)) 123 (fun _ => nI 0)) 7 k7_p30) 8 k8_p30) 9 k9_p30) 10 k10_p30) 4 f4) 5 f5) 6 f6) 11 f11) 12 f12) 13 f13) 4 f4_p49) 5 f5_p49) 6 f6_p49) 11 f11_p49) 12 f12_p49) 13 f13_p49 = us (us (us (us (us (us (us (us (us (us (us (us (us (us σ 120 (fun _ => nI h)) 121 (fun _ => σ 111 0)) 122 (fun _ => σ 112 0)) 123 (fun _ => nI 0)) 7 k7_p30) 8 k8_p30) 9 k9_p30) 10 k10_p30) 4 f4_p49) 5 f5_p49) 6 f6_p49) 11 f11_p49) 12 f12_p49) 13 f13_p49 := by
                  funext b_
                  by_cases h0_ : b_ = 120
                  · subst h0_; rfl
                  by_cases h1_ : b_ = 121
                  · subst h1_; rfl
                  by_cases h2_ : b_ = 122
                  · subst h2_; rfl
                  by_cases h3_ : b_ = 123
                  · subst h3_; rfl
                  by_cases h4_ : b_ = 7
                  · subst h4_; rfl
                  by_cases h5_ : b_ = 8
                  · subst h5_; rfl
                  by_cases h6_ : b_ = 9
                  · subst h6_; rfl
                  by_cases h7_ : b_ = 10
                  · subst h7_; rfl
                  by_cases h8_ : b_ = 4
                  · subst h8_; rfl
                  by_cases h9_ : b_ = 5
                  · subst h9_; rfl
                  by_cases h10_ : b_ = 6
                  · subst h10_; rfl
                  by_cases h11_ : b_ = 11
                  · subst h11_; rfl
                  by_cases h12_ : b_ = 12
                  · subst h12_; rfl
                  by_cases h13_ : b_ = 13
                  · subst h13_; rfl
                  simp only [us, h0_, h1_, h2_, h3_, h4_, h5_, h6_, h7_, h8_, h9_, h10_, h11_, h12_, h13_, if_false]
                refine ld_cv hs6 ?_
                exact ih41 (i + 1) f4_p49 f5_p49 f6_p49 f11_p49 f12_p49 f13_p49 (by omega) (by omega) (by omega) (by rw [show i + 1 - cr = (i - cr) + 1 by omega]; exact ld_fi_no hf (fun z => z (by rw [show cr + (i - cr) = i by omega]; exact hx_)))
              · have hj_ := (ld_fi_some hx_).1
                show K (us (us (us (us (us (us (us (us (us (us (us (us (us (us (us (us (us (us (us (us σ 120 (fun _ => nI h)) 121 (fun _ => σ 111 0)) 122 (fun _ => σ 112 0)) 123 (fun _ => nI 0)) 7 k7_p30) 8 k8_p30) 9 k9_p30) 10 k10_p30) 4 f4) 5 f5) 6 f6) 11 f11) 12 f12) 13 f13) 4 f4_p49) 5 f5_p49) 6 f6_p49) 11 f11_p49) 12 f12_p49) 13 f13_p49) [(3, .int (nI j)), (0, .ref (ad 0)), (1, .int what), (2, .int (nI i))] [] 53
                refine ld_iload_n O (pc := 53) 0 dX2_wonder_53 rfl rfl ?_
                refine ld_bipush O (pc := 54) (v := (-9 : Int32)) dX2_wonder_54 (by decide) ?_
                refine ld_icmp_eq O (pc := 56) ((j : Nat) : Int) (-9) (nI_toInt (by omega)) (by decide) 69 dX2_wonder_56 (by decide) (fun c7 => ?_) (fun c7 => ?_)
                · exact False.elim (by omega)
                · refine ld_iload_n O (pc := 59) 2 dX2_wonder_59 rfl rfl ?_
                  refine ld_if_ne O (pc := 60) (what).toInt rfl 67 dX2_wonder_60 (by decide) (fun c8 => ?_) (fun c8 => ?_)
                  · refine ld_iload_n O (pc := 67) 0 dX2_wonder_67 rfl rfl ?_
                    refine ld_ireti E dX2_wonder_68 ?_
                    refine ⟨?_, f4_p49, f5_p49, f6_p49, fun _ => nI h, fun _ => σ 111 0, fun _ => σ 112 0, fun _ => nI 0, k7_p30, k8_p30, k9_p30, k10_p30, f11_p49, f12_p49, f13_p49, ?_⟩
                    · have hY_ : ld_wd h (σ 0) (σ 1) cr = some (i - cr) := ld_fi_yes hf (by rw [show cr + (i - cr) = i by omega, hx_]; exact fun z => by cases z) (by omega)
                      unfold ld_fWo
                      rw [if_pos (by omega), if_pos (by omega), hY_]
                      dsimp only
                      rw [show cr + (i - cr) = i by omega]
                      first | (rw [if_pos (by omega)]; done) | (rw [if_neg (by omega), hx_]; rfl)
                    · funext b_
                      by_cases h0_ : b_ = 120
                      · subst h0_; first | rfl | (simp (disch := omega) only [us_ne, us_eq]; done)
                      by_cases h1_ : b_ = 121
                      · subst h1_; first | rfl | (simp (disch := omega) only [us_ne, us_eq]; done)
                      by_cases h2_ : b_ = 122
                      · subst h2_; first | rfl | (simp (disch := omega) only [us_ne, us_eq]; done)
                      by_cases h3_ : b_ = 123
                      · subst h3_; first | rfl | (simp (disch := omega) only [us_ne, us_eq]; done)
                      by_cases h4_ : b_ = 7
                      · subst h4_; first | rfl | (simp (disch := omega) only [us_ne, us_eq]; done)
                      by_cases h5_ : b_ = 8
                      · subst h5_; first | rfl | (simp (disch := omega) only [us_ne, us_eq]; done)
                      by_cases h6_ : b_ = 9
                      · subst h6_; first | rfl | (simp (disch := omega) only [us_ne, us_eq]; done)
                      by_cases h7_ : b_ = 10
                      · subst h7_; first | rfl | (simp (disch := omega) only [us_ne, us_eq]; done)
                      by_cases h8_ : b_ = 4
                      · subst h8_; first | rfl | (simp (disch := omega) only [us_ne, us_eq]; done)
                      by_cases h9_ : b_ = 5
                      · subst h9_; first | rfl | (simp (disch := omega) only [us_ne, us_eq]; done)
                      by_cases h10_ : b_ = 6
                      · subst h10_; first | rfl | (simp (disch := omega) only [us_ne, us_eq]; done)
                      by_cases h11_ : b_ = 11
                      · subst h11_; first | rfl | (simp (disch := omega) only [us_ne, us_eq]; done)
                      by_cases h12_ : b_ = 12
                      · subst h12_; first | rfl | (simp (disch := omega) only [us_ne, us_eq]; done)
                      by_cases h13_ : b_ = 13
                      · subst h13_; first | rfl | (simp (disch := omega) only [us_ne, us_eq]; done)
                      simp only [us, h0_, h1_, h2_, h3_, h4_, h5_, h6_, h7_, h8_, h9_, h10_, h11_, h12_, h13_, if_false]
                  · refine ld_iload_n O (pc := 63) 3 dX2_wonder_63 rfl rfl ?_
                    refine ld_goto O (pc := 64) 68 dX2_wonder_64 (by decide) ?_
                    refine ld_ireti E dX2_wonder_68 ?_
                    refine ⟨?_, f4_p49, f5_p49, f6_p49, fun _ => nI h, fun _ => σ 111 0, fun _ => σ 112 0, fun _ => nI 0, k7_p30, k8_p30, k9_p30, k10_p30, f11_p49, f12_p49, f13_p49, ?_⟩
                    · have hY_ : ld_wd h (σ 0) (σ 1) cr = some (i - cr) := ld_fi_yes hf (by rw [show cr + (i - cr) = i by omega, hx_]; exact fun z => by cases z) (by omega)
                      unfold ld_fWo
                      rw [if_pos (by omega), if_pos (by omega), hY_]
                      dsimp only
                      rw [show cr + (i - cr) = i by omega]
                      first | (rw [if_pos (by omega)]; done) | (rw [if_neg (by omega), hx_]; rfl)
                    · funext b_
                      by_cases h0_ : b_ = 120
                      · subst h0_; first | rfl | (simp (disch := omega) only [us_ne, us_eq]; done)
                      by_cases h1_ : b_ = 121
                      · subst h1_; first | rfl | (simp (disch := omega) only [us_ne, us_eq]; done)
                      by_cases h2_ : b_ = 122
                      · subst h2_; first | rfl | (simp (disch := omega) only [us_ne, us_eq]; done)
                      by_cases h3_ : b_ = 123
                      · subst h3_; first | rfl | (simp (disch := omega) only [us_ne, us_eq]; done)
                      by_cases h4_ : b_ = 7
                      · subst h4_; first | rfl | (simp (disch := omega) only [us_ne, us_eq]; done)
                      by_cases h5_ : b_ = 8
                      · subst h5_; first | rfl | (simp (disch := omega) only [us_ne, us_eq]; done)
                      by_cases h6_ : b_ = 9
                      · subst h6_; first | rfl | (simp (disch := omega) only [us_ne, us_eq]; done)
                      by_cases h7_ : b_ = 10
                      · subst h7_; first | rfl | (simp (disch := omega) only [us_ne, us_eq]; done)
                      by_cases h8_ : b_ = 4
                      · subst h8_; first | rfl | (simp (disch := omega) only [us_ne, us_eq]; done)
                      by_cases h9_ : b_ = 5
                      · subst h9_; first | rfl | (simp (disch := omega) only [us_ne, us_eq]; done)
                      by_cases h10_ : b_ = 6
                      · subst h10_; first | rfl | (simp (disch := omega) only [us_ne, us_eq]; done)
                      by_cases h11_ : b_ = 11
                      · subst h11_; first | rfl | (simp (disch := omega) only [us_ne, us_eq]; done)
                      by_cases h12_ : b_ = 12
                      · subst h12_; first | rfl | (simp (disch := omega) only [us_ne, us_eq]; done)
                      by_cases h13_ : b_ = 13
                      · subst h13_; first | rfl | (simp (disch := omega) only [us_ne, us_eq]; done)
                      simp only [us, h0_, h1_, h2_, h3_, h4_, h5_, h6_, h7_, h8_, h9_, h10_, h11_, h12_, h13_, if_false]
        refine ld_less O [1, 2, 0] (lv2 := [(0, .ref (ad 0)), (1, .int what), (2, .int (nI cr))]) rfl ?_
        have hs9 : us (us (us (us (us (us (us (us σ 120 (fun _ => nI h)) 121 (fun _ => σ 111 0)) 122 (fun _ => σ 112 0)) 123 (fun _ => nI 0)) 7 k7_p30) 8 k8_p30) 9 k9_p30) 10 k10_p30 = us (us (us (us (us (us (us (us (us (us (us (us (us (us σ 120 (fun _ => nI h)) 121 (fun _ => σ 111 0)) 122 (fun _ => σ 112 0)) 123 (fun _ => nI 0)) 7 k7_p30) 8 k8_p30) 9 k9_p30) 10 k10_p30) 4 (σ 4)) 5 (σ 5)) 6 (σ 6)) 11 (σ 11)) 12 (σ 12)) 13 (σ 13) := by
          funext b_
          by_cases h0_ : b_ = 120
          · subst h0_; rfl
          by_cases h1_ : b_ = 121
          · subst h1_; rfl
          by_cases h2_ : b_ = 122
          · subst h2_; rfl
          by_cases h3_ : b_ = 123
          · subst h3_; rfl
          by_cases h4_ : b_ = 7
          · subst h4_; rfl
          by_cases h5_ : b_ = 8
          · subst h5_; rfl
          by_cases h6_ : b_ = 9
          · subst h6_; rfl
          by_cases h7_ : b_ = 10
          · subst h7_; rfl
          by_cases h8_ : b_ = 4
          · subst h8_; rfl
          by_cases h9_ : b_ = 5
          · subst h9_; rfl
          by_cases h10_ : b_ = 6
          · subst h10_; rfl
          by_cases h11_ : b_ = 11
          · subst h11_; rfl
          by_cases h12_ : b_ = 12
          · subst h12_; rfl
          by_cases h13_ : b_ = 13
          · subst h13_; rfl
          simp only [us, h0_, h1_, h2_, h3_, h4_, h5_, h6_, h7_, h8_, h9_, h10_, h11_, h12_, h13_, if_false]
        refine ld_cv hs9 ?_
        exact L41 _ cr (σ 4) (σ 5) (σ 6) (σ 11) (σ 12) (σ 13) (Nat.lt_succ_self _) (Nat.le_refl _) c99 (by rw [Nat.sub_self]; rfl)
      · refine ld_bipush O (pc := 19) (v := (-2 : Int32)) dX2_wonder_19 (by decide) ?_
        refine ld_ireti E dX2_wonder_21 ?_
        refine ⟨?_, σ 4, σ 5, σ 6, σ 120, σ 121, σ 122, σ 123, σ 7, σ 8, σ 9, σ 10, σ 11, σ 12, σ 13, ?_⟩
        · unfold ld_fWo
          rw [if_pos (by omega), if_neg (by omega)]
        · funext b_
          by_cases h0_ : b_ = 5
          · subst h0_; first | rfl | (simp (disch := omega) only [us_ne, us_eq]; done)
          by_cases h1_ : b_ = 6
          · subst h1_; first | rfl | (simp (disch := omega) only [us_ne, us_eq]; done)
          by_cases h2_ : b_ = 120
          · subst h2_; first | rfl | (simp (disch := omega) only [us_ne, us_eq]; done)
          by_cases h3_ : b_ = 121
          · subst h3_; first | rfl | (simp (disch := omega) only [us_ne, us_eq]; done)
          by_cases h4_ : b_ = 122
          · subst h4_; first | rfl | (simp (disch := omega) only [us_ne, us_eq]; done)
          by_cases h5_ : b_ = 123
          · subst h5_; first | rfl | (simp (disch := omega) only [us_ne, us_eq]; done)
          by_cases h6_ : b_ = 7
          · subst h6_; first | rfl | (simp (disch := omega) only [us_ne, us_eq]; done)
          by_cases h7_ : b_ = 8
          · subst h7_; first | rfl | (simp (disch := omega) only [us_ne, us_eq]; done)
          by_cases h8_ : b_ = 9
          · subst h8_; first | rfl | (simp (disch := omega) only [us_ne, us_eq]; done)
          by_cases h9_ : b_ = 10
          · subst h9_; first | rfl | (simp (disch := omega) only [us_ne, us_eq]; done)
          by_cases h10_ : b_ = 11
          · subst h10_; first | rfl | (simp (disch := omega) only [us_ne, us_eq]; done)
          by_cases h11_ : b_ = 12
          · subst h11_; first | rfl | (simp (disch := omega) only [us_ne, us_eq]; done)
          by_cases h12_ : b_ = 13
          · subst h12_; first | rfl | (simp (disch := omega) only [us_ne, us_eq]; done)
          by_cases h13_ : b_ = 4
          · subst h13_; first | rfl | (simp (disch := omega) only [us_ne, us_eq]; done)
          simp only [us, h0_, h1_, h2_, h3_, h4_, h5_, h6_, h7_, h8_, h9_, h10_, h11_, h12_, h13_, if_false]
  · refine ld_bipush O (pc := 7) (v := (-3 : Int32)) dX2_wonder_7 (by decide) ?_
    refine ld_ireti E dX2_wonder_9 ?_
    refine ⟨?_, σ 4, σ 5, σ 6, σ 120, σ 121, σ 122, σ 123, σ 7, σ 8, σ 9, σ 10, σ 11, σ 12, σ 13, ?_⟩
    · unfold ld_fWo
      rw [if_neg (by omega)]
    · funext b_
      by_cases h0_ : b_ = 5
      · subst h0_; first | rfl | (simp (disch := omega) only [us_ne, us_eq]; done)
      by_cases h1_ : b_ = 6
      · subst h1_; first | rfl | (simp (disch := omega) only [us_ne, us_eq]; done)
      by_cases h2_ : b_ = 120
      · subst h2_; first | rfl | (simp (disch := omega) only [us_ne, us_eq]; done)
      by_cases h3_ : b_ = 121
      · subst h3_; first | rfl | (simp (disch := omega) only [us_ne, us_eq]; done)
      by_cases h4_ : b_ = 122
      · subst h4_; first | rfl | (simp (disch := omega) only [us_ne, us_eq]; done)
      by_cases h5_ : b_ = 123
      · subst h5_; first | rfl | (simp (disch := omega) only [us_ne, us_eq]; done)
      by_cases h6_ : b_ = 7
      · subst h6_; first | rfl | (simp (disch := omega) only [us_ne, us_eq]; done)
      by_cases h7_ : b_ = 8
      · subst h7_; first | rfl | (simp (disch := omega) only [us_ne, us_eq]; done)
      by_cases h8_ : b_ = 9
      · subst h8_; first | rfl | (simp (disch := omega) only [us_ne, us_eq]; done)
      by_cases h9_ : b_ = 10
      · subst h9_; first | rfl | (simp (disch := omega) only [us_ne, us_eq]; done)
      by_cases h10_ : b_ = 11
      · subst h10_; first | rfl | (simp (disch := omega) only [us_ne, us_eq]; done)
      by_cases h11_ : b_ = 12
      · subst h11_; first | rfl | (simp (disch := omega) only [us_ne, us_eq]; done)
      by_cases h12_ : b_ = 13
      · subst h12_; first | rfl | (simp (disch := omega) only [us_ne, us_eq]; done)
      by_cases h13_ : b_ = 4
      · subst h13_; first | rfl | (simp (disch := omega) only [us_ne, us_eq]; done)
      simp only [us, h0_, h1_, h2_, h3_, h4_, h5_, h6_, h7_, h8_, h9_, h10_, h11_, h12_, h13_, if_false]
set_option maxHeartbeats 4000000 in
set_option maxRecDepth 100000 in
theorem c_X2_otherwise (l : Launch) (ad : Nat → Nat) (σ : ld_St) (h : Nat) (hh : σ 110 0 = nI h) (h8 : h ≤ 8) (cr : Nat) (hcr : σ 111 0 = nI cr) (c99 : cr ≤ 99) (k : Int32) : ld_Ctr l yX2_otherwise cX2_otherwise 2 (some .int) (3, 67) [.ref (ad 0), .int k] ad σ (ld_I (fun (r : Int32) (σ2 : ld_St) => r = ld_fOt h (σ 0) (σ 1) cr k ∧ ∃ g4 g5 : Nat → Int32, σ2 = us (us σ 4 g4) 5 g5)) := by
  refine ld_entry (by decide +kernel) (Nat.le_of_ble_eq_true rfl) (fun K O E => ?_)
  have O : ld_Ok l K ad cX2_otherwise 2 RX2 (ld_rm (3, 67)) := O
  show K σ [(0, .ref (ad 0)), (1, .int k)] [] 0
  refine ld_aload_n O (pc := 0) 0 dX2_otherwise_0 rfl rfl ?_
  refine ld_iload_n O (pc := 1) 1 dX2_otherwise_1 rfl rfl ?_
  refine ld_callVi O (pc := 2) (As := [.int k]) (st := []) ld_recv0 (c_X2_isHouse l ad σ k h hh h8) ld_mw_X2_isHouse ld_w168 rfl rfl ⟨by decide, by decide⟩ (Nat.le_of_ble_eq_true rfl) dX2_otherwise_2 (fun r_p2 σ_p2 h_p2 => ?_)
  obtain ⟨rfl, hσ_p2⟩ := h_p2
  rw [hσ_p2]
  show K σ [(0, .ref (ad 0)), (1, .int k)] [.int (ld_b (0 ≤ (k).toInt ∧ (k).toInt < (h : Int)))] 5
  refine ld_ifb_ne O (pc := 5) 10 dX2_otherwise_5 (by decide) (fun c1 => ?_) (fun c1 => ?_)
  · obtain ⟨ek_k, hk_k, ik_k⟩ := ld_ofIx (k := k) (h := h) (by omega)
    rw [ek_k]
    refine ld_aload_n O (pc := 10) 0 dX2_otherwise_10 rfl rfl ?_
    refine ld_g_LD_now O (pc := 11) ld_w15 dX2_otherwise_11 ?_
    refine ld_aload_n O (pc := 14) 0 dX2_otherwise_14 rfl rfl ?_
    refine ld_g_LD_now O (pc := 15) ld_w15 dX2_otherwise_15 ?_
    refine ld_g_now_crateN O (pc := 18) (v := nI cr) (List.mem_of_getElem? (i := 2) rfl) hcr dX2_otherwise_18 ?_
    refine ld_callVNv O (pc := 21) (As := [.int (nI cr)]) (st := []) ld_recv1 (c_X1_dealOneByOne l ad σ h hh h8 cr (by omega)) ld_mw_X1_dealOneByOne (List.mem_of_getElem? (i := 28) rfl) rfl rfl ⟨by decide, by decide⟩ (Nat.le_of_ble_eq_true rfl) dX2_otherwise_21 (fun σ_p21 h_p21 => ?_)
    obtain ⟨f4_p21, f5_p21, hσ_p21, hd_p21⟩ := h_p21
    rw [hσ_p21]
    have hd_p21 : ∀ x, x < h → f5_p21 x = ld_o1 h (ld_ss (σ 0) (σ 1)) cr x := hd_p21
    show K (us (us σ 4 f4_p21) 5 f5_p21) [(0, .ref (ad 0)), (1, .int (nI (ld_ix k)))] [] 24
    refine ld_aload_n O (pc := 24) 0 dX2_otherwise_24 rfl rfl ?_
    refine ld_g_LD_now O (pc := 25) ld_w15 dX2_otherwise_25 ?_
    refine ld_g_now_dealtN O (pc := 28) (List.mem_of_getElem? (i := 9) rfl) dX2_otherwise_28 ?_
    refine ld_iload_n O (pc := 31) 1 dX2_otherwise_31 rfl rfl ?_
    refine ld_iald O (pc := 32) 5 (ld_ix k) (v := f5_p21 (ld_ix k)) rfl (by decide) (show ld_ix k < 8 by omega) rfl dX2_otherwise_32 ?_
    refine ld_ireti E dX2_otherwise_33 ?_
    refine ⟨?_, f4_p21, f5_p21, ?_⟩
    · unfold ld_fOt
      rw [if_pos (by omega)]
      exact hd_p21 _ hk_k
    · funext b_
      by_cases h0_ : b_ = 4
      · subst h0_; first | rfl | (simp (disch := omega) only [us_ne, us_eq]; done)
      by_cases h1_ : b_ = 5
      · subst h1_; first | rfl | (simp (disch := omega) only [us_ne, us_eq]; done)
      simp only [us, h0_, h1_, if_false]
  · refine ld_iconst O (pc := 8) (v := (-1 : Int32)) dX2_otherwise_8 (by decide) ?_
    refine ld_ireti E dX2_otherwise_9 ?_
    refine ⟨?_, σ 4, σ 5, ?_⟩
    · unfold ld_fOt
      rw [if_neg (by omega)]
    · funext b_
      by_cases h0_ : b_ = 5
      · subst h0_; first | rfl | (simp (disch := omega) only [us_ne, us_eq]; done)
      by_cases h1_ : b_ = 4
      · subst h1_; first | rfl | (simp (disch := omega) only [us_ne, us_eq]; done)
      simp only [us, h0_, h1_, if_false]
set_option maxHeartbeats 4000000 in
set_option maxRecDepth 100000 in
theorem c_X2_halves (l : Launch) (ad : Nat → Nat) (σ : ld_St) (h : Nat) (hh : σ 110 0 = nI h) (h8 : h ≤ 8) (what : Int32) : ld_Ctr l yX2_halves cX2_halves 6 (some .int) (2, 45) [.ref (ad 0), .int what] ad σ (ld_I (fun (r : Int32) (σ2 : ld_St) => r = ld_fHa h (ld_ss (σ 0) (σ 1)) what ∧ σ2 = σ)) := by
  refine ld_entry (by decide +kernel) (Nat.le_of_ble_eq_true rfl) (fun K O E => ?_)
  have O : ld_Ok l K ad cX2_halves 6 RX2 (ld_rm (2, 45)) := O
  show K σ [(0, .ref (ad 0)), (1, .int what)] [] 0
  refine ld_aload_n O (pc := 0) 0 dX2_halves_0 rfl rfl ?_
  refine ld_callVi O (pc := 1) (As := []) (st := []) ld_recv0 (c_X2_hasStreet l ad σ h hh h8) ld_mw_X2_hasStreet ld_w229 rfl rfl ⟨by decide, by decide⟩ (Nat.le_of_ble_eq_true rfl) dX2_halves_1 (fun r_p1 σ_p1 h_p1 => ?_)
  obtain ⟨rfl, hσ_p1⟩ := h_p1
  rw [hσ_p1]
  show K σ [(0, .ref (ad 0)), (1, .int what)] [.int (ld_b (0 < h))] 4
  refine ld_ifb_ne O (pc := 4) 10 dX2_halves_4 (by decide) (fun c1 => ?_) (fun c1 => ?_)
  · refine ld_iload_n O (pc := 10) 1 dX2_halves_10 rfl rfl ?_
    refine ld_if_lt O (pc := 11) (what).toInt rfl 19 dX2_halves_11 (by decide) (fun c2 => ?_) (fun c2 => ?_)
    · refine ld_bipush O (pc := 19) (v := (-2 : Int32)) dX2_halves_19 (by decide) ?_
      refine ld_ireti E dX2_halves_21 ?_
      refine ⟨?_, rfl⟩
      unfold ld_fHa
      repeat' split
      all_goals first | rfl | (exfalso; omega)
    · refine ld_iload_n O (pc := 14) 1 dX2_halves_14 rfl rfl ?_
      refine ld_iconst O (pc := 15) (v := nI 1) dX2_halves_15 (by decide) ?_
      refine ld_icmp_le O (pc := 16) (what).toInt 1 rfl (by decide) 22 dX2_halves_16 (by decide) (fun c3 => ?_) (fun c3 => ?_)
      · have hp_ := ld_pw2 h8 (by omega)
        refine ld_iconst O (pc := 22) (v := nI 1) dX2_halves_22 (by decide) ?_
        refine ld_istore_n O (pc := 23) [(2, .int (nI 1)), (0, .ref (ad 0)), (1, .int what)] dX2_halves_23 rfl (by decide) rfl ?_
        refine ld_aload_n O (pc := 24) 1 dX2_halves_24 rfl rfl ?_
        refine ld_iload_n O (pc := 25) 0 dX2_halves_25 rfl rfl ?_
        refine ld_callVi O (pc := 26) (As := [.int (nI 1)]) (st := []) ld_recv0 (c_X2_apartBy l ad σ h hh h8 (nI 1)) ld_mw_X2_apartBy ld_w422 rfl rfl ⟨by decide, by decide⟩ (Nat.le_of_ble_eq_true rfl) dX2_halves_26 (fun r_p26 σ_p26 h_p26 => ?_)
        obtain ⟨rfl, hσ_p26⟩ := h_p26
        rw [hσ_p26]
        show K σ [(2, .int (nI 1)), (0, .ref (ad 0)), (1, .int what)] [.int (ld_abs (l_sum (ld_sg (nI 1) (ld_ss (σ 0) (σ 1))) h))] 29
        refine ld_istore_n O (pc := 29) [(3, .int (ld_abs (l_sum (ld_sg (nI 1) (ld_ss (σ 0) (σ 1))) h))), (2, .int (nI 1)), (0, .ref (ad 0)), (1, .int what)] dX2_halves_29 rfl (by decide) rfl ?_
        refine ld_iconst O (pc := 30) (v := nI 3) dX2_halves_30 (by decide) ?_
        refine ld_istore O (pc := 31) [(4, .int (nI 3)), (3, .int (ld_abs (l_sum (ld_sg (nI 1) (ld_ss (σ 0) (σ 1))) h))), (2, .int (nI 1)), (0, .ref (ad 0)), (1, .int what)] dX2_halves_31 (by decide) rfl ?_
        have L33 : ∀ (m_33 : Nat) (m : Nat) (b : Nat) (a : Int32), 2 ^ h - (2 * m + 3) < m_33 → (2 * m + 1 < 2 ^ h) → (b = ld_hb h (ld_ss (σ 0) (σ 1)) m) → (a = ld_abs (l_sum (ld_sg (nI b) (ld_ss (σ 0) (σ 1))) h)) → K σ [(0, .ref (ad 0)), (1, .int what), (2, .int (nI b)), (3, .int a), (4, .int (nI (2 * m + 3)))] [] 33 := by
          intro m_33
          induction m_33 with
          | zero => intro m b a hm_; exact absurd hm_ (Nat.not_lt_zero _)
          | succ m_33 ih33 =>
            intro m b a hm_33 hm hb ha
            refine ld_iload O (pc := 33) 4 dX2_halves_33 rfl ?_
            refine ld_iconst O (pc := 35) (v := nI 1) dX2_halves_35 (by decide) ?_
            refine ld_aload_n O (pc := 36) 0 dX2_halves_36 rfl rfl ?_
            refine ld_g_LD_now O (pc := 37) ld_w15 dX2_halves_37 ?_
            refine ld_g_now_housesN O (pc := 40) (v := nI h) (List.mem_of_getElem? (i := 1) rfl) hh dX2_halves_40 ?_
            refine ld_ishl O (pc := 43) dX2_halves_43 ?_
            rw [ld_pw h8]
            refine ld_icmp_ge O (pc := 44) ((2 * m + 3 : Nat) : Int) ((2 ^ h : Nat) : Int) (nI_toInt (by omega)) (nI_toInt (by omega)) 73 dX2_halves_44 (by decide) (fun c4 => ?_) (fun c4 => ?_)
            · refine ld_iload_n O (pc := 73) 1 dX2_halves_73 rfl rfl ?_
              refine ld_if_ne O (pc := 74) (what).toInt rfl 81 dX2_halves_74 (by decide) (fun c5 => ?_) (fun c5 => ?_)
              · refine ld_iload_n O (pc := 81) 3 dX2_halves_81 rfl rfl ?_
                refine ld_ireti E dX2_halves_82 ?_
                refine ⟨?_, rfl⟩
                unfold ld_fHa
                rw [if_pos (by omega), if_pos (by omega), show 2 ^ h / 2 - 1 = m by omega, ← hb]
                first | (rw [if_pos (by omega)]; done) | (rw [if_neg (by omega)]; exact ha)
              · refine ld_iload_n O (pc := 77) 2 dX2_halves_77 rfl rfl ?_
                refine ld_goto O (pc := 78) 82 dX2_halves_78 (by decide) ?_
                refine ld_ireti E dX2_halves_82 ?_
                refine ⟨?_, rfl⟩
                unfold ld_fHa
                rw [if_pos (by omega), if_pos (by omega), show 2 ^ h / 2 - 1 = m by omega, ← hb]
                first | (rw [if_pos (by omega)]; done) | (rw [if_neg (by omega)]; exact ha)
            · refine ld_aload_n O (pc := 47) 0 dX2_halves_47 rfl rfl ?_
              refine ld_iload O (pc := 48) 4 dX2_halves_48 rfl ?_
              refine ld_callVi O (pc := 50) (As := [.int (nI (2 * m + 3))]) (st := []) ld_recv0 (c_X2_apartBy l ad σ h hh h8 (nI (2 * m + 3))) ld_mw_X2_apartBy ld_w422 rfl rfl ⟨by decide, by decide⟩ (Nat.le_of_ble_eq_true rfl) dX2_halves_50 (fun r_p50 σ_p50 h_p50 => ?_)
              obtain ⟨rfl, hσ_p50⟩ := h_p50
              rw [hσ_p50]
              show K σ [(0, .ref (ad 0)), (1, .int what), (2, .int (nI b)), (3, .int a), (4, .int (nI (2 * m + 3)))] [.int (ld_abs (l_sum (ld_sg (nI (2 * m + 3)) (ld_ss (σ 0) (σ 1))) h))] 53
              refine ld_istore O (pc := 53) [(5, .int (ld_abs (l_sum (ld_sg (nI (2 * m + 3)) (ld_ss (σ 0) (σ 1))) h))), (0, .ref (ad 0)), (1, .int what), (2, .int (nI b)), (3, .int a), (4, .int (nI (2 * m + 3)))] dX2_halves_53 (by decide) rfl ?_
              refine ld_iload O (pc := 55) 0 dX2_halves_55 rfl ?_
              refine ld_iload_n O (pc := 57) 4 dX2_halves_57 rfl rfl ?_
              refine ld_icmp_ge O (pc := 58) (ld_abs (l_sum (ld_sg (nI (2 * m + 3)) (ld_ss (σ 0) (σ 1))) h)).toInt (a).toInt rfl rfl 67 dX2_halves_58 (by decide) (fun c6 => ?_) (fun c6 => ?_)
              · refine ld_iincN O (pc := 67) [(4, .int (nI ((2 * m + 3) + 2))), (5, .int (ld_abs (l_sum (ld_sg (nI (2 * m + 3)) (ld_ss (σ 0) (σ 1))) h))), (0, .ref (ad 0)), (1, .int what), (2, .int (nI b)), (3, .int a)] 5 dX2_halves_67 rfl (by decide) rfl ?_
                refine ld_goto O (pc := 70) 33 dX2_halves_70 (by decide) ?_
                refine ld_less O [2, 3, 4, 5, 0] (lv2 := [(0, .ref (ad 0)), (1, .int what), (2, .int (nI b)), (3, .int a), (4, .int (nI (2 * (m + 1) + 3)))]) rfl ?_
                exact ih33 (m + 1) b a (by omega) (by omega) (by show _ = ld_hb _ _ (m + 1); simp only [ld_hb]; rw [← hb, if_neg (by unfold ld_apt; rw [← ha]; omega)]) ha
              · refine ld_iload O (pc := 61) 5 dX2_halves_61 rfl ?_
                refine ld_istore_n O (pc := 63) [(2, .int (nI (2 * m + 3))), (5, .int (ld_abs (l_sum (ld_sg (nI (2 * m + 3)) (ld_ss (σ 0) (σ 1))) h))), (0, .ref (ad 0)), (1, .int what), (3, .int a), (4, .int (nI (2 * m + 3)))] dX2_halves_63 rfl (by decide) rfl ?_
                refine ld_iload O (pc := 64) 1 dX2_halves_64 rfl ?_
                refine ld_istore_n O (pc := 66) [(3, .int (ld_abs (l_sum (ld_sg (nI (2 * m + 3)) (ld_ss (σ 0) (σ 1))) h))), (2, .int (nI (2 * m + 3))), (5, .int (ld_abs (l_sum (ld_sg (nI (2 * m + 3)) (ld_ss (σ 0) (σ 1))) h))), (0, .ref (ad 0)), (1, .int what), (4, .int (nI (2 * m + 3)))] dX2_halves_66 rfl (by decide) rfl ?_
                refine ld_iincN O (pc := 67) [(4, .int (nI ((2 * m + 3) + 2))), (3, .int (ld_abs (l_sum (ld_sg (nI (2 * m + 3)) (ld_ss (σ 0) (σ 1))) h))), (2, .int (nI (2 * m + 3))), (5, .int (ld_abs (l_sum (ld_sg (nI (2 * m + 3)) (ld_ss (σ 0) (σ 1))) h))), (0, .ref (ad 0)), (1, .int what)] 5 dX2_halves_67 rfl (by decide) rfl ?_
                refine ld_goto O (pc := 70) 33 dX2_halves_70 (by decide) ?_
                refine ld_less O [4, 5, 2, 1, 0] (lv2 := [(0, .ref (ad 0)), (1, .int what), (2, .int (nI (2 * m + 3))), (3, .int (ld_abs (l_sum (ld_sg (nI (2 * m + 3)) (ld_ss (σ 0) (σ 1))) h))), (4, .int (nI (2 * (m + 1) + 3)))]) rfl ?_
                exact ih33 (m + 1) (2 * m + 3) (ld_abs (l_sum (ld_sg (nI (2 * m + 3)) (ld_ss (σ 0) (σ 1))) h)) (by omega) (by omega) (by show _ = ld_hb _ _ (m + 1); simp only [ld_hb]; rw [← hb, if_pos (by unfold ld_apt; rw [← ha]; omega)]) rfl
        refine ld_less O [3, 4, 2, 1, 0] (lv2 := [(0, .ref (ad 0)), (1, .int what), (2, .int (nI 1)), (3, .int (ld_abs (l_sum (ld_sg (nI 1) (ld_ss (σ 0) (σ 1))) h))), (4, .int (nI (2 * 0 + 3)))]) rfl ?_
        exact L33 _ 0 1 (ld_abs (l_sum (ld_sg (nI 1) (ld_ss (σ 0) (σ 1))) h)) (Nat.lt_succ_self _) (by omega) rfl rfl
      · refine ld_bipush O (pc := 19) (v := (-2 : Int32)) dX2_halves_19 (by decide) ?_
        refine ld_ireti E dX2_halves_21 ?_
        refine ⟨?_, rfl⟩
        unfold ld_fHa
        repeat' split
        all_goals first | rfl | (exfalso; omega)
  · refine ld_bipush O (pc := 7) (v := (-3 : Int32)) dX2_halves_7 (by decide) ?_
    refine ld_ireti E dX2_halves_9 ?_
    refine ⟨?_, rfl⟩
    unfold ld_fHa
    repeat' split
    all_goals first | rfl | (exfalso; omega)
set_option maxHeartbeats 4000000 in
set_option maxRecDepth 100000 in
theorem c_X2_tempers (l : Launch) (ad : Nat → Nat) (σ : ld_St) (h : Nat) (hh : σ 110 0 = nI h) (h8 : h ≤ 8) (q : Nat) (hq : σ 100 0 = nI q) (q8 : q ≤ 8) (hrd : ∀ x, x < q → 0 ≤ (σ 14 x).toInt ∧ (σ 14 x).toInt < (h : Int)) (k : Int32) : ld_Ctr l yX2_tempers cX2_tempers 4 (some .int) (3, 68) [.ref (ad 0), .int k] ad σ (ld_I (fun (r : Int32) (σ2 : ld_St) => r = ld_fTm h (σ 0) (σ 1) (σ 111 0) (σ 14) (σ 15) q k ∧ ∃ g120 g121 g122 g123 g7 g8 g9 g10 g11 g12 g13 : Nat → Int32, σ2 = us (us (us (us (us (us (us (us (us (us (us σ 120 g120) 121 g121) 122 g122) 123 g123) 7 g7) 8 g8) 9 g9) 10 g10) 11 g11) 12 g12) 13 g13)) := by
  refine ld_entry (by decide +kernel) (Nat.le_of_ble_eq_true rfl) (fun K O E => ?_)
  have O : ld_Ok l K ad cX2_tempers 4 RX2 (ld_rm (3, 68)) := O
  show K σ [(0, .ref (ad 0)), (1, .int k)] [] 0
  refine ld_aload_n O (pc := 0) 0 dX2_tempers_0 rfl rfl ?_
  refine ld_iload_n O (pc := 1) 1 dX2_tempers_1 rfl rfl ?_
  refine ld_callVi O (pc := 2) (As := [.int k]) (st := []) ld_recv0 (c_X2_isHouse l ad σ k h hh h8) ld_mw_X2_isHouse ld_w168 rfl rfl ⟨by decide, by decide⟩ (Nat.le_of_ble_eq_true rfl) dX2_tempers_2 (fun r_p2 σ_p2 h_p2 => ?_)
  obtain ⟨rfl, hσ_p2⟩ := h_p2
  rw [hσ_p2]
  show K σ [(0, .ref (ad 0)), (1, .int k)] [.int (ld_b (0 ≤ (k).toInt ∧ (k).toInt < (h : Int)))] 5
  refine ld_ifb_ne O (pc := 5) 10 dX2_tempers_5 (by decide) (fun c1 => ?_) (fun c1 => ?_)
  · obtain ⟨ek_k, hk_k, ik_k⟩ := ld_ofIx (k := k) (h := h) (by omega)
    rw [ek_k]
    refine ld_aload_n O (pc := 10) 0 dX2_tempers_10 rfl rfl ?_
    refine ld_g_LD_trial O (pc := 11) ld_w16 dX2_tempers_11 ?_
    refine ld_aload_n O (pc := 14) 0 dX2_tempers_14 rfl rfl ?_
    refine ld_g_LD_now O (pc := 15) ld_w15 dX2_tempers_15 ?_
    refine ld_callVNv O (pc := 18) (As := [.ref (ad 1)]) (st := []) ld_recv2 (c_X1_becomeLike l ad σ h hh h8) ld_mw_X1_becomeLike (List.mem_of_getElem? (i := 24) rfl) rfl rfl ⟨by decide, by decide⟩ (Nat.le_of_ble_eq_true rfl) dX2_tempers_18 (fun σ_p18 h_p18 => ?_)
    obtain ⟨k7_p18, k8_p18, k9_p18, k10_p18, hσ_p18, hk_p18⟩ := h_p18
    rw [hσ_p18]
    have hk_p18 : ∀ x, x < h → k7_p18 x = σ 0 x ∧ k8_p18 x = σ 1 x ∧ k9_p18 x = σ 2 x ∧ k10_p18 x = σ 3 x := hk_p18
    show K (us (us (us (us (us (us (us (us σ 120 (fun _ => nI h)) 121 (fun _ => σ 111 0)) 122 (fun _ => σ 112 0)) 123 (fun _ => nI 0)) 7 k7_p18) 8 k8_p18) 9 k9_p18) 10 k10_p18) [(0, .ref (ad 0)), (1, .int (nI (ld_ix k)))] [] 21
    refine ld_iconst O (pc := 21) (v := nI 0) dX2_tempers_21 (by decide) ?_
    refine ld_istore_n O (pc := 22) [(2, .int (nI 0)), (0, .ref (ad 0)), (1, .int (nI (ld_ix k)))] dX2_tempers_22 rfl (by decide) rfl ?_
    refine ld_iconst O (pc := 23) (v := nI 0) dX2_tempers_23 (by decide) ?_
    refine ld_istore_n O (pc := 24) [(3, .int (nI 0)), (2, .int (nI 0)), (0, .ref (ad 0)), (1, .int (nI (ld_ix k)))] dX2_tempers_24 rfl (by decide) rfl ?_
    have L25 : ∀ (m_25 : Nat) (i : Nat) (set : Int32) (w : Nat → Int32) (f11 : Nat → Int32) (f12 : Nat → Int32) (f13 : Nat → Int32), 10 - i < m_25 → (i ≤ 10) → (∀ x, x < h → x ≠ ld_ix k → w x = σ 1 x) → (set = ld_stt (fun z => ld_rh h (σ 0) (upd (σ 1) (ld_ix k) (nI z)) (σ 111 0) (σ 14) (σ 15) q) i) → K (us (us (us (us (us (us (us (us (us (us (us σ 120 (fun _ => nI h)) 121 (fun _ => σ 111 0)) 122 (fun _ => σ 112 0)) 123 (fun _ => nI 0)) 7 k7_p18) 8 w) 9 k9_p18) 10 k10_p18) 11 f11) 12 f12) 13 f13) [(0, .ref (ad 0)), (1, .int (nI (ld_ix k))), (2, .int set), (3, .int (nI i))] [] 25 := by
      intro m_25
      induction m_25 with
      | zero => intro i set w f11 f12 f13 hm_; exact absurd hm_ (Nat.not_lt_zero _)
      | succ m_25 ih25 =>
        intro i set w f11 f12 f13 hm_25 hi hw hs
        refine ld_iload_n O (pc := 25) 3 dX2_tempers_25 rfl rfl ?_
        refine ld_bipush O (pc := 26) (v := nI 9) dX2_tempers_26 (by decide) ?_
        refine ld_icmp_gt O (pc := 28) ((i : Nat) : Int) 9 (nI_toInt (by omega)) (by decide) 60 dX2_tempers_28 (by decide) (fun c2 => ?_) (fun c2 => ?_)
        · refine ld_iload_n O (pc := 60) 2 dX2_tempers_60 rfl rfl ?_
          refine ld_ireti E dX2_tempers_61 ?_
          refine ⟨?_, fun _ => nI h, fun _ => σ 111 0, fun _ => σ 112 0, fun _ => nI 0, k7_p18, w, k9_p18, k10_p18, f11, f12, f13, ?_⟩
          · unfold ld_fTm
            rw [if_pos (by omega), hs, show i = 10 by omega]
          · funext b_
            by_cases h0_ : b_ = 120
            · subst h0_; first | rfl | (simp (disch := omega) only [us_ne, us_eq]; done)
            by_cases h1_ : b_ = 121
            · subst h1_; first | rfl | (simp (disch := omega) only [us_ne, us_eq]; done)
            by_cases h2_ : b_ = 122
            · subst h2_; first | rfl | (simp (disch := omega) only [us_ne, us_eq]; done)
            by_cases h3_ : b_ = 123
            · subst h3_; first | rfl | (simp (disch := omega) only [us_ne, us_eq]; done)
            by_cases h4_ : b_ = 7
            · subst h4_; first | rfl | (simp (disch := omega) only [us_ne, us_eq]; done)
            by_cases h5_ : b_ = 8
            · subst h5_; first | rfl | (simp (disch := omega) only [us_ne, us_eq]; done)
            by_cases h6_ : b_ = 9
            · subst h6_; first | rfl | (simp (disch := omega) only [us_ne, us_eq]; done)
            by_cases h7_ : b_ = 10
            · subst h7_; first | rfl | (simp (disch := omega) only [us_ne, us_eq]; done)
            by_cases h8_ : b_ = 11
            · subst h8_; first | rfl | (simp (disch := omega) only [us_ne, us_eq]; done)
            by_cases h9_ : b_ = 12
            · subst h9_; first | rfl | (simp (disch := omega) only [us_ne, us_eq]; done)
            by_cases h10_ : b_ = 13
            · subst h10_; first | rfl | (simp (disch := omega) only [us_ne, us_eq]; done)
            simp only [us, h0_, h1_, h2_, h3_, h4_, h5_, h6_, h7_, h8_, h9_, h10_, if_false]
        · refine ld_aload_n O (pc := 31) 0 dX2_tempers_31 rfl rfl ?_
          refine ld_g_LD_trial O (pc := 32) ld_w16 dX2_tempers_32 ?_
          refine ld_g_trial_temperN O (pc := 35) (List.mem_of_getElem? (i := 6) rfl) dX2_tempers_35 ?_
          refine ld_iload_n O (pc := 38) 1 dX2_tempers_38 rfl rfl ?_
          refine ld_iload_n O (pc := 39) 3 dX2_tempers_39 rfl rfl ?_
          refine ld_iast O (pc := 40) 8 (ld_ix k) rfl (by decide) (show ld_ix k < 8 by omega) dX2_tempers_40 ?_
          refine ld_aload_n O (pc := 41) 0 dX2_tempers_41 rfl rfl ?_
          refine ld_callVi O (pc := 42) (As := []) (st := []) ld_recv0 (c_X2_holds l ad (us (us (us (us (us (us (us (us (us (us (us (us σ 120 (fun _ => nI h)) 121 (fun _ => σ 111 0)) 122 (fun _ => σ 112 0)) 123 (fun _ => nI 0)) 7 k7_p18) 8 w) 9 k9_p18) 10 k10_p18) 11 f11) 12 f12) 13 f13) 8 (upd (w) (ld_ix k) (nI i))) h rfl h8 q hq q8 hrd) ld_mw_X2_readingsHoldInTrial ld_w460 rfl rfl ⟨by decide, by decide⟩ (Nat.le_of_ble_eq_true rfl) dX2_tempers_42 (fun r_p42 σ_p42 h_p42 => ?_)
          obtain ⟨rfl, f11_p42, f12_p42, f13_p42, hσ_p42⟩ := h_p42
          rw [hσ_p42]
          show K (us (us (us (us (us (us (us (us (us (us (us (us (us (us (us σ 120 (fun _ => nI h)) 121 (fun _ => σ 111 0)) 122 (fun _ => σ 112 0)) 123 (fun _ => nI 0)) 7 k7_p18) 8 w) 9 k9_p18) 10 k10_p18) 11 f11) 12 f12) 13 f13) 8 (upd (w) (ld_ix k) (nI i))) 11 f11_p42) 12 f12_p42) 13 f13_p42) [(0, .ref (ad 0)), (1, .int (nI (ld_ix k))), (2, .int set), (3, .int (nI i))] [.int (ld_b (ld_rh h k7_p18 (upd (w) (ld_ix k) (nI i)) (σ 111 0) (σ 14) (σ 15) q))] 45
          have hu_ : ∀ x, x < h → upd w (ld_ix k) (nI i) x = upd (σ 1) (ld_ix k) (nI i) x := by
            intro x hx
            by_cases e : x = ld_ix k
            · subst e; rw [pk_us, pk_us]
            · rw [pk_un e, pk_un e]; exact hw x hx e
          rw [show (ld_rh h k7_p18 (upd (w) (ld_ix k) (nI i)) (σ 111 0) (σ 14) (σ 15) q) = (ld_rh h (σ 0) (upd (σ 1) (ld_ix k) (nI i)) (σ 111 0) (σ 14) (σ 15) q) from propext (ld_rh_cong hrd (fun y hy => (hk_p18 y hy).1) hu_)]
          refine ld_ifb_eq O (pc := 45) 54 dX2_tempers_45 (by decide) (fun c3 => ?_) (fun c3 => ?_)
          · refine ld_iincN O (pc := 54) [(3, .int (nI (i + 1))), (0, .ref (ad 0)), (1, .int (nI (ld_ix k))), (2, .int set)] 3 dX2_tempers_54 rfl (by decide) rfl ?_
            refine ld_goto O (pc := 57) 25 dX2_tempers_57 (by decide) ?_
            refine ld_less O [1, 2, 3, 0] (lv2 := [(0, .ref (ad 0)), (1, .int (nI (ld_ix k))), (2, .int set), (3, .int (nI (i + 1)))]) rfl ?_
            have hs4 : us (us (us (us (us (us (us (us (us (us (us (us (us (us (us σ 120 (fun _ => nI h)) 121 (fun _ => σ 111 0)) 122 (fun _ => σ 112 0)) 123 (fun _ => nI 0)) 7 k7_p18) 8 w) 9 k9_p18) 10 k10_p18) 11 f11) 12 f12) 13 f13) 8 (upd (w) (ld_ix k) (nI i))) 11 f11_p42) 12 f12_p42) 13 f13_p42 = us (us (us (us (us (us (us (us (us (us (us σ 120 (fun _ => nI h)) 121 (fun _ => σ 111 0)) 122 (fun _ => σ 112 0)) 123 (fun _ => nI 0)) 7 k7_p18) 8 (upd (w) (ld_ix k) (nI i))) 9 k9_p18) 10 k10_p18) 11 f11_p42) 12 f12_p42) 13 f13_p42 := by
              funext b_
              by_cases h0_ : b_ = 120
              · subst h0_; rfl
              by_cases h1_ : b_ = 121
              · subst h1_; rfl
              by_cases h2_ : b_ = 122
              · subst h2_; rfl
              by_cases h3_ : b_ = 123
              · subst h3_; rfl
              by_cases h4_ : b_ = 7
              · subst h4_; rfl
              by_cases h5_ : b_ = 8
              · subst h5_; rfl
              by_cases h6_ : b_ = 9
              · subst h6_; rfl
              by_cases h7_ : b_ = 10
              · subst h7_; rfl
              by_cases h8_ : b_ = 11
              · subst h8_; rfl
              by_cases h9_ : b_ = 12
              · subst h9_; rfl
              by_cases h10_ : b_ = 13
              · subst h10_; rfl
              simp only [us, h0_, h1_, h2_, h3_, h4_, h5_, h6_, h7_, h8_, h9_, h10_, if_false]
            refine ld_cv hs4 ?_
            exact ih25 (i + 1) set (upd (w) (ld_ix k) (nI i)) f11_p42 f12_p42 f13_p42 (by omega) (by omega) (fun x hx hn => (pk_un hn).trans (hw x hx hn)) (by rw [hs]; first | exact (ld_stt_t (P := fun z => ld_rh h (σ 0) (upd (σ 1) (ld_ix k) (nI z)) (σ 111 0) (σ 14) (σ 15) q) (n := i) c3).symm | exact (ld_stt_f (P := fun z => ld_rh h (σ 0) (upd (σ 1) (ld_ix k) (nI z)) (σ 111 0) (σ 14) (σ 15) q) (n := i) c3).symm)
          · refine ld_iload_n O (pc := 48) 2 dX2_tempers_48 rfl rfl ?_
            refine ld_iconst O (pc := 49) (v := nI 1) dX2_tempers_49 (by decide) ?_
            refine ld_iload_n O (pc := 50) 3 dX2_tempers_50 rfl rfl ?_
            refine ld_ishl O (pc := 51) dX2_tempers_51 ?_
            refine ld_ior O (pc := 52) dX2_tempers_52 ?_
            refine ld_istore_n O (pc := 53) [(2, .int (set ||| ((nI 1) <<< ((nI i) &&& 31)))), (0, .ref (ad 0)), (1, .int (nI (ld_ix k))), (3, .int (nI i))] dX2_tempers_53 rfl (by decide) rfl ?_
            refine ld_iincN O (pc := 54) [(3, .int (nI (i + 1))), (2, .int (set ||| ((nI 1) <<< ((nI i) &&& 31)))), (0, .ref (ad 0)), (1, .int (nI (ld_ix k)))] 3 dX2_tempers_54 rfl (by decide) rfl ?_
            refine ld_goto O (pc := 57) 25 dX2_tempers_57 (by decide) ?_
            refine ld_less O [2, 3, 1, 0] (lv2 := [(0, .ref (ad 0)), (1, .int (nI (ld_ix k))), (2, .int (set ||| ((nI 1) <<< ((nI i) &&& 31)))), (3, .int (nI (i + 1)))]) rfl ?_
            have hs5 : us (us (us (us (us (us (us (us (us (us (us (us (us (us (us σ 120 (fun _ => nI h)) 121 (fun _ => σ 111 0)) 122 (fun _ => σ 112 0)) 123 (fun _ => nI 0)) 7 k7_p18) 8 w) 9 k9_p18) 10 k10_p18) 11 f11) 12 f12) 13 f13) 8 (upd (w) (ld_ix k) (nI i))) 11 f11_p42) 12 f12_p42) 13 f13_p42 = us (us (us (us (us (us (us (us (us (us (us σ 120 (fun _ => nI h)) 121 (fun _ => σ 111 0)) 122 (fun _ => σ 112 0)) 123 (fun _ => nI 0)) 7 k7_p18) 8 (upd (w) (ld_ix k) (nI i))) 9 k9_p18) 10 k10_p18) 11 f11_p42) 12 f12_p42) 13 f13_p42 := by
              funext b_
              by_cases h0_ : b_ = 120
              · subst h0_; rfl
              by_cases h1_ : b_ = 121
              · subst h1_; rfl
              by_cases h2_ : b_ = 122
              · subst h2_; rfl
              by_cases h3_ : b_ = 123
              · subst h3_; rfl
              by_cases h4_ : b_ = 7
              · subst h4_; rfl
              by_cases h5_ : b_ = 8
              · subst h5_; rfl
              by_cases h6_ : b_ = 9
              · subst h6_; rfl
              by_cases h7_ : b_ = 10
              · subst h7_; rfl
              by_cases h8_ : b_ = 11
              · subst h8_; rfl
              by_cases h9_ : b_ = 12
              · subst h9_; rfl
              by_cases h10_ : b_ = 13
              · subst h10_; rfl
              simp only [us, h0_, h1_, h2_, h3_, h4_, h5_, h6_, h7_, h8_, h9_, h10_, if_false]
            refine ld_cv hs5 ?_
            exact ih25 (i + 1) (set ||| ((nI 1) <<< ((nI i) &&& 31))) (upd (w) (ld_ix k) (nI i)) f11_p42 f12_p42 f13_p42 (by omega) (by omega) (fun x hx hn => (pk_un hn).trans (hw x hx hn)) (by rw [hs]; first | exact (ld_stt_t (P := fun z => ld_rh h (σ 0) (upd (σ 1) (ld_ix k) (nI z)) (σ 111 0) (σ 14) (σ 15) q) (n := i) c3).symm | exact (ld_stt_f (P := fun z => ld_rh h (σ 0) (upd (σ 1) (ld_ix k) (nI z)) (σ 111 0) (σ 14) (σ 15) q) (n := i) c3).symm)
    refine ld_less O [2, 3, 1, 0] (lv2 := [(0, .ref (ad 0)), (1, .int (nI (ld_ix k))), (2, .int (nI 0)), (3, .int (nI 0))]) rfl ?_
    have hs6 : us (us (us (us (us (us (us (us σ 120 (fun _ => nI h)) 121 (fun _ => σ 111 0)) 122 (fun _ => σ 112 0)) 123 (fun _ => nI 0)) 7 k7_p18) 8 k8_p18) 9 k9_p18) 10 k10_p18 = us (us (us (us (us (us (us (us (us (us (us σ 120 (fun _ => nI h)) 121 (fun _ => σ 111 0)) 122 (fun _ => σ 112 0)) 123 (fun _ => nI 0)) 7 k7_p18) 8 k8_p18) 9 k9_p18) 10 k10_p18) 11 (σ 11)) 12 (σ 12)) 13 (σ 13) := by
      funext b_
      by_cases h0_ : b_ = 120
      · subst h0_; rfl
      by_cases h1_ : b_ = 121
      · subst h1_; rfl
      by_cases h2_ : b_ = 122
      · subst h2_; rfl
      by_cases h3_ : b_ = 123
      · subst h3_; rfl
      by_cases h4_ : b_ = 7
      · subst h4_; rfl
      by_cases h5_ : b_ = 8
      · subst h5_; rfl
      by_cases h6_ : b_ = 9
      · subst h6_; rfl
      by_cases h7_ : b_ = 10
      · subst h7_; rfl
      by_cases h8_ : b_ = 11
      · subst h8_; rfl
      by_cases h9_ : b_ = 12
      · subst h9_; rfl
      by_cases h10_ : b_ = 13
      · subst h10_; rfl
      simp only [us, h0_, h1_, h2_, h3_, h4_, h5_, h6_, h7_, h8_, h9_, h10_, if_false]
    refine ld_cv hs6 ?_
    exact L25 _ 0 (nI 0) k8_p18 (σ 11) (σ 12) (σ 13) (Nat.lt_succ_self _) (Nat.zero_le _) (fun x hx _ => (hk_p18 x hx).2.1) rfl
  · refine ld_iconst O (pc := 8) (v := (-1 : Int32)) dX2_tempers_8 (by decide) ?_
    refine ld_ireti E dX2_tempers_9 ?_
    refine ⟨?_, σ 120, σ 121, σ 122, σ 123, σ 7, σ 8, σ 9, σ 10, σ 11, σ 12, σ 13, ?_⟩
    · unfold ld_fTm
      rw [if_neg (by omega)]
    · funext b_
      by_cases h0_ : b_ = 121
      · subst h0_; first | rfl | (simp (disch := omega) only [us_ne, us_eq]; done)
      by_cases h1_ : b_ = 122
      · subst h1_; first | rfl | (simp (disch := omega) only [us_ne, us_eq]; done)
      by_cases h2_ : b_ = 123
      · subst h2_; first | rfl | (simp (disch := omega) only [us_ne, us_eq]; done)
      by_cases h3_ : b_ = 7
      · subst h3_; first | rfl | (simp (disch := omega) only [us_ne, us_eq]; done)
      by_cases h4_ : b_ = 8
      · subst h4_; first | rfl | (simp (disch := omega) only [us_ne, us_eq]; done)
      by_cases h5_ : b_ = 9
      · subst h5_; first | rfl | (simp (disch := omega) only [us_ne, us_eq]; done)
      by_cases h6_ : b_ = 10
      · subst h6_; first | rfl | (simp (disch := omega) only [us_ne, us_eq]; done)
      by_cases h7_ : b_ = 11
      · subst h7_; first | rfl | (simp (disch := omega) only [us_ne, us_eq]; done)
      by_cases h8_ : b_ = 12
      · subst h8_; first | rfl | (simp (disch := omega) only [us_ne, us_eq]; done)
      by_cases h9_ : b_ = 13
      · subst h9_; first | rfl | (simp (disch := omega) only [us_ne, us_eq]; done)
      by_cases h10_ : b_ = 120
      · subst h10_; first | rfl | (simp (disch := omega) only [us_ne, us_eq]; done)
      simp only [us, h0_, h1_, h2_, h3_, h4_, h5_, h6_, h7_, h8_, h9_, h10_, if_false]
set_option maxHeartbeats 4000000 in
set_option maxRecDepth 100000 in
theorem c_X2_kinds (l : Launch) (ad : Nat → Nat) (σ : ld_St) (h : Nat) (hh : σ 110 0 = nI h) (h8 : h ≤ 8) (q : Nat) (hq : σ 100 0 = nI q) (q8 : q ≤ 8) (hrd : ∀ x, x < q → 0 ≤ (σ 14 x).toInt ∧ (σ 14 x).toInt < (h : Int)) (k : Int32) : ld_Ctr l yX2_kinds cX2_kinds 4 (some .int) (3, 68) [.ref (ad 0), .int k] ad σ (ld_I (fun (r : Int32) (σ2 : ld_St) => r = ld_fKi h (σ 0) (σ 1) (σ 111 0) (σ 14) (σ 15) q k ∧ ∃ g120 g121 g122 g123 g7 g8 g9 g10 g11 g12 g13 : Nat → Int32, σ2 = us (us (us (us (us (us (us (us (us (us (us σ 120 g120) 121 g121) 122 g122) 123 g123) 7 g7) 8 g8) 9 g9) 10 g10) 11 g11) 12 g12) 13 g13)) := by
  refine ld_entry (by decide +kernel) (Nat.le_of_ble_eq_true rfl) (fun K O E => ?_)
  have O : ld_Ok l K ad cX2_kinds 4 RX2 (ld_rm (3, 68)) := O
  show K σ [(0, .ref (ad 0)), (1, .int k)] [] 0
  refine ld_aload_n O (pc := 0) 0 dX2_kinds_0 rfl rfl ?_
  refine ld_iload_n O (pc := 1) 1 dX2_kinds_1 rfl rfl ?_
  refine ld_callVi O (pc := 2) (As := [.int k]) (st := []) ld_recv0 (c_X2_isHouse l ad σ k h hh h8) ld_mw_X2_isHouse ld_w168 rfl rfl ⟨by decide, by decide⟩ (Nat.le_of_ble_eq_true rfl) dX2_kinds_2 (fun r_p2 σ_p2 h_p2 => ?_)
  obtain ⟨rfl, hσ_p2⟩ := h_p2
  rw [hσ_p2]
  show K σ [(0, .ref (ad 0)), (1, .int k)] [.int (ld_b (0 ≤ (k).toInt ∧ (k).toInt < (h : Int)))] 5
  refine ld_ifb_ne O (pc := 5) 10 dX2_kinds_5 (by decide) (fun c1 => ?_) (fun c1 => ?_)
  · obtain ⟨ek_k, hk_k, ik_k⟩ := ld_ofIx (k := k) (h := h) (by omega)
    rw [ek_k]
    refine ld_aload_n O (pc := 10) 0 dX2_kinds_10 rfl rfl ?_
    refine ld_g_LD_trial O (pc := 11) ld_w16 dX2_kinds_11 ?_
    refine ld_aload_n O (pc := 14) 0 dX2_kinds_14 rfl rfl ?_
    refine ld_g_LD_now O (pc := 15) ld_w15 dX2_kinds_15 ?_
    refine ld_callVNv O (pc := 18) (As := [.ref (ad 1)]) (st := []) ld_recv2 (c_X1_becomeLike l ad σ h hh h8) ld_mw_X1_becomeLike (List.mem_of_getElem? (i := 24) rfl) rfl rfl ⟨by decide, by decide⟩ (Nat.le_of_ble_eq_true rfl) dX2_kinds_18 (fun σ_p18 h_p18 => ?_)
    obtain ⟨k7_p18, k8_p18, k9_p18, k10_p18, hσ_p18, hk_p18⟩ := h_p18
    rw [hσ_p18]
    have hk_p18 : ∀ x, x < h → k7_p18 x = σ 0 x ∧ k8_p18 x = σ 1 x ∧ k9_p18 x = σ 2 x ∧ k10_p18 x = σ 3 x := hk_p18
    show K (us (us (us (us (us (us (us (us σ 120 (fun _ => nI h)) 121 (fun _ => σ 111 0)) 122 (fun _ => σ 112 0)) 123 (fun _ => nI 0)) 7 k7_p18) 8 k8_p18) 9 k9_p18) 10 k10_p18) [(0, .ref (ad 0)), (1, .int (nI (ld_ix k)))] [] 21
    refine ld_iconst O (pc := 21) (v := nI 0) dX2_kinds_21 (by decide) ?_
    refine ld_istore_n O (pc := 22) [(2, .int (nI 0)), (0, .ref (ad 0)), (1, .int (nI (ld_ix k)))] dX2_kinds_22 rfl (by decide) rfl ?_
    refine ld_iconst O (pc := 23) (v := nI 0) dX2_kinds_23 (by decide) ?_
    refine ld_istore_n O (pc := 24) [(3, .int (nI 0)), (2, .int (nI 0)), (0, .ref (ad 0)), (1, .int (nI (ld_ix k)))] dX2_kinds_24 rfl (by decide) rfl ?_
    have L25 : ∀ (m_25 : Nat) (i : Nat) (set : Int32) (w : Nat → Int32) (f11 : Nat → Int32) (f12 : Nat → Int32) (f13 : Nat → Int32), 3 - i < m_25 → (i ≤ 3) → (∀ x, x < h → x ≠ ld_ix k → w x = σ 0 x) → (set = ld_stt (fun z => ld_rh h (upd (σ 0) (ld_ix k) (nI z)) (σ 1) (σ 111 0) (σ 14) (σ 15) q) i) → K (us (us (us (us (us (us (us (us (us (us (us σ 120 (fun _ => nI h)) 121 (fun _ => σ 111 0)) 122 (fun _ => σ 112 0)) 123 (fun _ => nI 0)) 7 w) 8 k8_p18) 9 k9_p18) 10 k10_p18) 11 f11) 12 f12) 13 f13) [(0, .ref (ad 0)), (1, .int (nI (ld_ix k))), (2, .int set), (3, .int (nI i))] [] 25 := by
      intro m_25
      induction m_25 with
      | zero => intro i set w f11 f12 f13 hm_; exact absurd hm_ (Nat.not_lt_zero _)
      | succ m_25 ih25 =>
        intro i set w f11 f12 f13 hm_25 hi hw hs
        refine ld_iload_n O (pc := 25) 3 dX2_kinds_25 rfl rfl ?_
        refine ld_iconst O (pc := 26) (v := nI 3) dX2_kinds_26 (by decide) ?_
        refine ld_icmp_ge O (pc := 27) ((i : Nat) : Int) 3 (nI_toInt (by omega)) (by decide) 59 dX2_kinds_27 (by decide) (fun c2 => ?_) (fun c2 => ?_)
        · refine ld_iload_n O (pc := 59) 2 dX2_kinds_59 rfl rfl ?_
          refine ld_ireti E dX2_kinds_60 ?_
          refine ⟨?_, fun _ => nI h, fun _ => σ 111 0, fun _ => σ 112 0, fun _ => nI 0, w, k8_p18, k9_p18, k10_p18, f11, f12, f13, ?_⟩
          · unfold ld_fKi
            rw [if_pos (by omega), hs, show i = 3 by omega]
          · funext b_
            by_cases h0_ : b_ = 120
            · subst h0_; first | rfl | (simp (disch := omega) only [us_ne, us_eq]; done)
            by_cases h1_ : b_ = 121
            · subst h1_; first | rfl | (simp (disch := omega) only [us_ne, us_eq]; done)
            by_cases h2_ : b_ = 122
            · subst h2_; first | rfl | (simp (disch := omega) only [us_ne, us_eq]; done)
            by_cases h3_ : b_ = 123
            · subst h3_; first | rfl | (simp (disch := omega) only [us_ne, us_eq]; done)
            by_cases h4_ : b_ = 7
            · subst h4_; first | rfl | (simp (disch := omega) only [us_ne, us_eq]; done)
            by_cases h5_ : b_ = 8
            · subst h5_; first | rfl | (simp (disch := omega) only [us_ne, us_eq]; done)
            by_cases h6_ : b_ = 9
            · subst h6_; first | rfl | (simp (disch := omega) only [us_ne, us_eq]; done)
            by_cases h7_ : b_ = 10
            · subst h7_; first | rfl | (simp (disch := omega) only [us_ne, us_eq]; done)
            by_cases h8_ : b_ = 11
            · subst h8_; first | rfl | (simp (disch := omega) only [us_ne, us_eq]; done)
            by_cases h9_ : b_ = 12
            · subst h9_; first | rfl | (simp (disch := omega) only [us_ne, us_eq]; done)
            by_cases h10_ : b_ = 13
            · subst h10_; first | rfl | (simp (disch := omega) only [us_ne, us_eq]; done)
            simp only [us, h0_, h1_, h2_, h3_, h4_, h5_, h6_, h7_, h8_, h9_, h10_, if_false]
        · refine ld_aload_n O (pc := 30) 0 dX2_kinds_30 rfl rfl ?_
          refine ld_g_LD_trial O (pc := 31) ld_w16 dX2_kinds_31 ?_
          refine ld_g_trial_kindN O (pc := 34) (List.mem_of_getElem? (i := 5) rfl) dX2_kinds_34 ?_
          refine ld_iload_n O (pc := 37) 1 dX2_kinds_37 rfl rfl ?_
          refine ld_iload_n O (pc := 38) 3 dX2_kinds_38 rfl rfl ?_
          refine ld_iast O (pc := 39) 7 (ld_ix k) rfl (by decide) (show ld_ix k < 8 by omega) dX2_kinds_39 ?_
          refine ld_aload_n O (pc := 40) 0 dX2_kinds_40 rfl rfl ?_
          refine ld_callVi O (pc := 41) (As := []) (st := []) ld_recv0 (c_X2_holds l ad (us (us (us (us (us (us (us (us (us (us (us (us σ 120 (fun _ => nI h)) 121 (fun _ => σ 111 0)) 122 (fun _ => σ 112 0)) 123 (fun _ => nI 0)) 7 w) 8 k8_p18) 9 k9_p18) 10 k10_p18) 11 f11) 12 f12) 13 f13) 7 (upd (w) (ld_ix k) (nI i))) h rfl h8 q hq q8 hrd) ld_mw_X2_readingsHoldInTrial ld_w460 rfl rfl ⟨by decide, by decide⟩ (Nat.le_of_ble_eq_true rfl) dX2_kinds_41 (fun r_p41 σ_p41 h_p41 => ?_)
          obtain ⟨rfl, f11_p41, f12_p41, f13_p41, hσ_p41⟩ := h_p41
          rw [hσ_p41]
          show K (us (us (us (us (us (us (us (us (us (us (us (us (us (us (us σ 120 (fun _ => nI h)) 121 (fun _ => σ 111 0)) 122 (fun _ => σ 112 0)) 123 (fun _ => nI 0)) 7 w) 8 k8_p18) 9 k9_p18) 10 k10_p18) 11 f11) 12 f12) 13 f13) 7 (upd (w) (ld_ix k) (nI i))) 11 f11_p41) 12 f12_p41) 13 f13_p41) [(0, .ref (ad 0)), (1, .int (nI (ld_ix k))), (2, .int set), (3, .int (nI i))] [.int (ld_b (ld_rh h (upd (w) (ld_ix k) (nI i)) k8_p18 (σ 111 0) (σ 14) (σ 15) q))] 44
          have hu_ : ∀ x, x < h → upd w (ld_ix k) (nI i) x = upd (σ 0) (ld_ix k) (nI i) x := by
            intro x hx
            by_cases e : x = ld_ix k
            · subst e; rw [pk_us, pk_us]
            · rw [pk_un e, pk_un e]; exact hw x hx e
          rw [show (ld_rh h (upd (w) (ld_ix k) (nI i)) k8_p18 (σ 111 0) (σ 14) (σ 15) q) = (ld_rh h (upd (σ 0) (ld_ix k) (nI i)) (σ 1) (σ 111 0) (σ 14) (σ 15) q) from propext (ld_rh_cong hrd hu_ (fun y hy => (hk_p18 y hy).2.1))]
          refine ld_ifb_eq O (pc := 44) 53 dX2_kinds_44 (by decide) (fun c3 => ?_) (fun c3 => ?_)
          · refine ld_iincN O (pc := 53) [(3, .int (nI (i + 1))), (0, .ref (ad 0)), (1, .int (nI (ld_ix k))), (2, .int set)] 3 dX2_kinds_53 rfl (by decide) rfl ?_
            refine ld_goto O (pc := 56) 25 dX2_kinds_56 (by decide) ?_
            refine ld_less O [1, 2, 3, 0] (lv2 := [(0, .ref (ad 0)), (1, .int (nI (ld_ix k))), (2, .int set), (3, .int (nI (i + 1)))]) rfl ?_
            have hs4 : us (us (us (us (us (us (us (us (us (us (us (us (us (us (us σ 120 (fun _ => nI h)) 121 (fun _ => σ 111 0)) 122 (fun _ => σ 112 0)) 123 (fun _ => nI 0)) 7 w) 8 k8_p18) 9 k9_p18) 10 k10_p18) 11 f11) 12 f12) 13 f13) 7 (upd (w) (ld_ix k) (nI i))) 11 f11_p41) 12 f12_p41) 13 f13_p41 = us (us (us (us (us (us (us (us (us (us (us σ 120 (fun _ => nI h)) 121 (fun _ => σ 111 0)) 122 (fun _ => σ 112 0)) 123 (fun _ => nI 0)) 7 (upd (w) (ld_ix k) (nI i))) 8 k8_p18) 9 k9_p18) 10 k10_p18) 11 f11_p41) 12 f12_p41) 13 f13_p41 := by
              funext b_
              by_cases h0_ : b_ = 120
              · subst h0_; rfl
              by_cases h1_ : b_ = 121
              · subst h1_; rfl
              by_cases h2_ : b_ = 122
              · subst h2_; rfl
              by_cases h3_ : b_ = 123
              · subst h3_; rfl
              by_cases h4_ : b_ = 7
              · subst h4_; rfl
              by_cases h5_ : b_ = 8
              · subst h5_; rfl
              by_cases h6_ : b_ = 9
              · subst h6_; rfl
              by_cases h7_ : b_ = 10
              · subst h7_; rfl
              by_cases h8_ : b_ = 11
              · subst h8_; rfl
              by_cases h9_ : b_ = 12
              · subst h9_; rfl
              by_cases h10_ : b_ = 13
              · subst h10_; rfl
              simp only [us, h0_, h1_, h2_, h3_, h4_, h5_, h6_, h7_, h8_, h9_, h10_, if_false]
            refine ld_cv hs4 ?_
            exact ih25 (i + 1) set (upd (w) (ld_ix k) (nI i)) f11_p41 f12_p41 f13_p41 (by omega) (by omega) (fun x hx hn => (pk_un hn).trans (hw x hx hn)) (by rw [hs]; first | exact (ld_stt_t (P := fun z => ld_rh h (upd (σ 0) (ld_ix k) (nI z)) (σ 1) (σ 111 0) (σ 14) (σ 15) q) (n := i) c3).symm | exact (ld_stt_f (P := fun z => ld_rh h (upd (σ 0) (ld_ix k) (nI z)) (σ 1) (σ 111 0) (σ 14) (σ 15) q) (n := i) c3).symm)
          · refine ld_iload_n O (pc := 47) 2 dX2_kinds_47 rfl rfl ?_
            refine ld_iconst O (pc := 48) (v := nI 1) dX2_kinds_48 (by decide) ?_
            refine ld_iload_n O (pc := 49) 3 dX2_kinds_49 rfl rfl ?_
            refine ld_ishl O (pc := 50) dX2_kinds_50 ?_
            refine ld_ior O (pc := 51) dX2_kinds_51 ?_
            refine ld_istore_n O (pc := 52) [(2, .int (set ||| ((nI 1) <<< ((nI i) &&& 31)))), (0, .ref (ad 0)), (1, .int (nI (ld_ix k))), (3, .int (nI i))] dX2_kinds_52 rfl (by decide) rfl ?_
            refine ld_iincN O (pc := 53) [(3, .int (nI (i + 1))), (2, .int (set ||| ((nI 1) <<< ((nI i) &&& 31)))), (0, .ref (ad 0)), (1, .int (nI (ld_ix k)))] 3 dX2_kinds_53 rfl (by decide) rfl ?_
            refine ld_goto O (pc := 56) 25 dX2_kinds_56 (by decide) ?_
            refine ld_less O [2, 3, 1, 0] (lv2 := [(0, .ref (ad 0)), (1, .int (nI (ld_ix k))), (2, .int (set ||| ((nI 1) <<< ((nI i) &&& 31)))), (3, .int (nI (i + 1)))]) rfl ?_
            have hs5 : us (us (us (us (us (us (us (us (us (us (us (us (us (us (us σ 120 (fun _ => nI h)) 121 (fun _ => σ 111 0)) 122 (fun _ => σ 112 0)) 123 (fun _ => nI 0)) 7 w) 8 k8_p18) 9 k9_p18) 10 k10_p18) 11 f11) 12 f12) 13 f13) 7 (upd (w) (ld_ix k) (nI i))) 11 f11_p41) 12 f12_p41) 13 f13_p41 = us (us (us (us (us (us (us (us (us (us (us σ 120 (fun _ => nI h)) 121 (fun _ => σ 111 0)) 122 (fun _ => σ 112 0)) 123 (fun _ => nI 0)) 7 (upd (w) (ld_ix k) (nI i))) 8 k8_p18) 9 k9_p18) 10 k10_p18) 11 f11_p41) 12 f12_p41) 13 f13_p41 := by
              funext b_
              by_cases h0_ : b_ = 120
              · subst h0_; rfl
              by_cases h1_ : b_ = 121
              · subst h1_; rfl
              by_cases h2_ : b_ = 122
              · subst h2_; rfl
              by_cases h3_ : b_ = 123
              · subst h3_; rfl
              by_cases h4_ : b_ = 7
              · subst h4_; rfl
              by_cases h5_ : b_ = 8
              · subst h5_; rfl
              by_cases h6_ : b_ = 9
              · subst h6_; rfl
              by_cases h7_ : b_ = 10
              · subst h7_; rfl
              by_cases h8_ : b_ = 11
              · subst h8_; rfl
              by_cases h9_ : b_ = 12
              · subst h9_; rfl
              by_cases h10_ : b_ = 13
              · subst h10_; rfl
              simp only [us, h0_, h1_, h2_, h3_, h4_, h5_, h6_, h7_, h8_, h9_, h10_, if_false]
            refine ld_cv hs5 ?_
            exact ih25 (i + 1) (set ||| ((nI 1) <<< ((nI i) &&& 31))) (upd (w) (ld_ix k) (nI i)) f11_p41 f12_p41 f13_p41 (by omega) (by omega) (fun x hx hn => (pk_un hn).trans (hw x hx hn)) (by rw [hs]; first | exact (ld_stt_t (P := fun z => ld_rh h (upd (σ 0) (ld_ix k) (nI z)) (σ 1) (σ 111 0) (σ 14) (σ 15) q) (n := i) c3).symm | exact (ld_stt_f (P := fun z => ld_rh h (upd (σ 0) (ld_ix k) (nI z)) (σ 1) (σ 111 0) (σ 14) (σ 15) q) (n := i) c3).symm)
    refine ld_less O [2, 3, 1, 0] (lv2 := [(0, .ref (ad 0)), (1, .int (nI (ld_ix k))), (2, .int (nI 0)), (3, .int (nI 0))]) rfl ?_
    have hs6 : us (us (us (us (us (us (us (us σ 120 (fun _ => nI h)) 121 (fun _ => σ 111 0)) 122 (fun _ => σ 112 0)) 123 (fun _ => nI 0)) 7 k7_p18) 8 k8_p18) 9 k9_p18) 10 k10_p18 = us (us (us (us (us (us (us (us (us (us (us σ 120 (fun _ => nI h)) 121 (fun _ => σ 111 0)) 122 (fun _ => σ 112 0)) 123 (fun _ => nI 0)) 7 k7_p18) 8 k8_p18) 9 k9_p18) 10 k10_p18) 11 (σ 11)) 12 (σ 12)) 13 (σ 13) := by
      funext b_
      by_cases h0_ : b_ = 120
      · subst h0_; rfl
      by_cases h1_ : b_ = 121
      · subst h1_; rfl
      by_cases h2_ : b_ = 122
      · subst h2_; rfl
      by_cases h3_ : b_ = 123
      · subst h3_; rfl
      by_cases h4_ : b_ = 7
      · subst h4_; rfl
      by_cases h5_ : b_ = 8
      · subst h5_; rfl
      by_cases h6_ : b_ = 9
      · subst h6_; rfl
      by_cases h7_ : b_ = 10
      · subst h7_; rfl
      by_cases h8_ : b_ = 11
      · subst h8_; rfl
      by_cases h9_ : b_ = 12
      · subst h9_; rfl
      by_cases h10_ : b_ = 13
      · subst h10_; rfl
      simp only [us, h0_, h1_, h2_, h3_, h4_, h5_, h6_, h7_, h8_, h9_, h10_, if_false]
    refine ld_cv hs6 ?_
    exact L25 _ 0 (nI 0) k7_p18 (σ 11) (σ 12) (σ 13) (Nat.lt_succ_self _) (Nat.zero_le _) (fun x hx _ => (hk_p18 x hx).1) rfl
  · refine ld_iconst O (pc := 8) (v := (-1 : Int32)) dX2_kinds_8 (by decide) ?_
    refine ld_ireti E dX2_kinds_9 ?_
    refine ⟨?_, σ 120, σ 121, σ 122, σ 123, σ 7, σ 8, σ 9, σ 10, σ 11, σ 12, σ 13, ?_⟩
    · unfold ld_fKi
      rw [if_neg (by omega)]
    · funext b_
      by_cases h0_ : b_ = 121
      · subst h0_; first | rfl | (simp (disch := omega) only [us_ne, us_eq]; done)
      by_cases h1_ : b_ = 122
      · subst h1_; first | rfl | (simp (disch := omega) only [us_ne, us_eq]; done)
      by_cases h2_ : b_ = 123
      · subst h2_; first | rfl | (simp (disch := omega) only [us_ne, us_eq]; done)
      by_cases h3_ : b_ = 7
      · subst h3_; first | rfl | (simp (disch := omega) only [us_ne, us_eq]; done)
      by_cases h4_ : b_ = 8
      · subst h4_; first | rfl | (simp (disch := omega) only [us_ne, us_eq]; done)
      by_cases h5_ : b_ = 9
      · subst h5_; first | rfl | (simp (disch := omega) only [us_ne, us_eq]; done)
      by_cases h6_ : b_ = 10
      · subst h6_; first | rfl | (simp (disch := omega) only [us_ne, us_eq]; done)
      by_cases h7_ : b_ = 11
      · subst h7_; first | rfl | (simp (disch := omega) only [us_ne, us_eq]; done)
      by_cases h8_ : b_ = 12
      · subst h8_; first | rfl | (simp (disch := omega) only [us_ne, us_eq]; done)
      by_cases h9_ : b_ = 13
      · subst h9_; first | rfl | (simp (disch := omega) only [us_ne, us_eq]; done)
      by_cases h10_ : b_ = 120
      · subst h10_; first | rfl | (simp (disch := omega) only [us_ne, us_eq]; done)
      simp only [us, h0_, h1_, h2_, h3_, h4_, h5_, h6_, h7_, h8_, h9_, h10_, if_false]
set_option maxHeartbeats 4000000 in
set_option maxRecDepth 100000 in
theorem c_X2_crates (l : Launch) (ad : Nat → Nat) (σ : ld_St) (h : Nat) (hh : σ 110 0 = nI h) (h8 : h ≤ 8) (q : Nat) (hq : σ 100 0 = nI q) (q8 : q ≤ 8) (hrd : ∀ x, x < q → 0 ≤ (σ 14 x).toInt ∧ (σ 14 x).toInt < (h : Int)) (what : Int32) : ld_Ctr l yX2_crates cX2_crates 6 (some .int) (3, 68) [.ref (ad 0), .int what] ad σ (ld_I (fun (r : Int32) (σ2 : ld_St) => r = ld_fCs h (fun z => ld_rh h (σ 0) (σ 1) (nI z) (σ 14) (σ 15) q) what ∧ ∃ g120 g121 g122 g123 g7 g8 g9 g10 g11 g12 g13 : Nat → Int32, σ2 = us (us (us (us (us (us (us (us (us (us (us σ 120 g120) 121 g121) 122 g122) 123 g123) 7 g7) 8 g8) 9 g9) 10 g10) 11 g11) 12 g12) 13 g13)) := by
  refine ld_entry (by decide +kernel) (Nat.le_of_ble_eq_true rfl) (fun K O E => ?_)
  have O : ld_Ok l K ad cX2_crates 6 RX2 (ld_rm (3, 68)) := O
  show K σ [(0, .ref (ad 0)), (1, .int what)] [] 0
  refine ld_aload_n O (pc := 0) 0 dX2_crates_0 rfl rfl ?_
  refine ld_callVi O (pc := 1) (As := []) (st := []) ld_recv0 (c_X2_hasStreet l ad σ h hh h8) ld_mw_X2_hasStreet ld_w229 rfl rfl ⟨by decide, by decide⟩ (Nat.le_of_ble_eq_true rfl) dX2_crates_1 (fun r_p1 σ_p1 h_p1 => ?_)
  obtain ⟨rfl, hσ_p1⟩ := h_p1
  rw [hσ_p1]
  show K σ [(0, .ref (ad 0)), (1, .int what)] [.int (ld_b (0 < h))] 4
  refine ld_ifb_ne O (pc := 4) 10 dX2_crates_4 (by decide) (fun c1 => ?_) (fun c1 => ?_)
  · refine ld_iload_n O (pc := 10) 1 dX2_crates_10 rfl rfl ?_
    refine ld_if_lt O (pc := 11) (what).toInt rfl 19 dX2_crates_11 (by decide) (fun c2 => ?_) (fun c2 => ?_)
    · refine ld_bipush O (pc := 19) (v := (-2 : Int32)) dX2_crates_19 (by decide) ?_
      refine ld_ireti E dX2_crates_21 ?_
      refine ⟨?_, σ 120, σ 121, σ 122, σ 123, σ 7, σ 8, σ 9, σ 10, σ 11, σ 12, σ 13, ?_⟩
      · unfold ld_fCs
        repeat' split
        all_goals first | rfl | (exfalso; omega)
      · funext b_
        by_cases h0_ : b_ = 121
        · subst h0_; first | rfl | (simp (disch := omega) only [us_ne, us_eq]; done)
        by_cases h1_ : b_ = 122
        · subst h1_; first | rfl | (simp (disch := omega) only [us_ne, us_eq]; done)
        by_cases h2_ : b_ = 123
        · subst h2_; first | rfl | (simp (disch := omega) only [us_ne, us_eq]; done)
        by_cases h3_ : b_ = 7
        · subst h3_; first | rfl | (simp (disch := omega) only [us_ne, us_eq]; done)
        by_cases h4_ : b_ = 8
        · subst h4_; first | rfl | (simp (disch := omega) only [us_ne, us_eq]; done)
        by_cases h5_ : b_ = 9
        · subst h5_; first | rfl | (simp (disch := omega) only [us_ne, us_eq]; done)
        by_cases h6_ : b_ = 10
        · subst h6_; first | rfl | (simp (disch := omega) only [us_ne, us_eq]; done)
        by_cases h7_ : b_ = 11
        · subst h7_; first | rfl | (simp (disch := omega) only [us_ne, us_eq]; done)
        by_cases h8_ : b_ = 12
        · subst h8_; first | rfl | (simp (disch := omega) only [us_ne, us_eq]; done)
        by_cases h9_ : b_ = 13
        · subst h9_; first | rfl | (simp (disch := omega) only [us_ne, us_eq]; done)
        by_cases h10_ : b_ = 120
        · subst h10_; first | rfl | (simp (disch := omega) only [us_ne, us_eq]; done)
        simp only [us, h0_, h1_, h2_, h3_, h4_, h5_, h6_, h7_, h8_, h9_, h10_, if_false]
    · refine ld_iload_n O (pc := 14) 1 dX2_crates_14 rfl rfl ?_
      refine ld_iconst O (pc := 15) (v := nI 2) dX2_crates_15 (by decide) ?_
      refine ld_icmp_le O (pc := 16) (what).toInt 2 rfl (by decide) 22 dX2_crates_16 (by decide) (fun c3 => ?_) (fun c3 => ?_)
      · refine ld_aload_n O (pc := 22) 0 dX2_crates_22 rfl rfl ?_
        refine ld_g_LD_trial O (pc := 23) ld_w16 dX2_crates_23 ?_
        refine ld_aload_n O (pc := 26) 0 dX2_crates_26 rfl rfl ?_
        refine ld_g_LD_now O (pc := 27) ld_w15 dX2_crates_27 ?_
        refine ld_callVNv O (pc := 30) (As := [.ref (ad 1)]) (st := []) ld_recv2 (c_X1_becomeLike l ad σ h hh h8) ld_mw_X1_becomeLike (List.mem_of_getElem? (i := 24) rfl) rfl rfl ⟨by decide, by decide⟩ (Nat.le_of_ble_eq_true rfl) dX2_crates_30 (fun σ_p30 h_p30 => ?_)
        obtain ⟨k7_p30, k8_p30, k9_p30, k10_p30, hσ_p30, hk_p30⟩ := h_p30
        rw [hσ_p30]
        have hk_p30 : ∀ x, x < h → k7_p30 x = σ 0 x ∧ k8_p30 x = σ 1 x ∧ k9_p30 x = σ 2 x ∧ k10_p30 x = σ 3 x := hk_p30
        show K (us (us (us (us (us (us (us (us σ 120 (fun _ => nI h)) 121 (fun _ => σ 111 0)) 122 (fun _ => σ 112 0)) 123 (fun _ => nI 0)) 7 k7_p30) 8 k8_p30) 9 k9_p30) 10 k10_p30) [(0, .ref (ad 0)), (1, .int what)] [] 33
        refine ld_iconst O (pc := 33) (v := nI 0) dX2_crates_33 (by decide) ?_
        refine ld_istore_n O (pc := 34) [(2, .int (nI 0)), (0, .ref (ad 0)), (1, .int what)] dX2_crates_34 rfl (by decide) rfl ?_
        refine ld_bipush O (pc := 35) (v := (-9 : Int32)) dX2_crates_35 (by decide) ?_
        refine ld_istore_n O (pc := 37) [(3, .int (-9 : Int32)), (2, .int (nI 0)), (0, .ref (ad 0)), (1, .int what)] dX2_crates_37 rfl (by decide) rfl ?_
        refine ld_bipush O (pc := 38) (v := (-9 : Int32)) dX2_crates_38 (by decide) ?_
        refine ld_istore O (pc := 40) [(4, .int (-9 : Int32)), (3, .int (-9 : Int32)), (2, .int (nI 0)), (0, .ref (ad 0)), (1, .int what)] dX2_crates_40 (by decide) rfl ?_
        refine ld_iconst O (pc := 42) (v := nI 0) dX2_crates_42 (by decide) ?_
        refine ld_istore O (pc := 43) [(5, .int (nI 0)), (4, .int (-9 : Int32)), (3, .int (-9 : Int32)), (2, .int (nI 0)), (0, .ref (ad 0)), (1, .int what)] dX2_crates_43 (by decide) rfl ?_
        have L45 : ∀ (m_45 : Nat) (i : Nat) (fo : Nat) (le : Int32) (gr : Int32) (g121 : Nat → Int32) (f11 : Nat → Int32) (f12 : Nat → Int32) (f13 : Nat → Int32), 100 - i < m_45 → (i ≤ 100) → (fo = ld_cn (fun z => ld_rh h (σ 0) (σ 1) (nI z) (σ 14) (σ 15) q) i) → (fo ≤ i) → (le = ld_ls (fun z => ld_rh h (σ 0) (σ 1) (nI z) (σ 14) (σ 15) q) i) → (gr = ld_gr (fun z => ld_rh h (σ 0) (σ 1) (nI z) (σ 14) (σ 15) q) i) → K (us (us (us (us (us (us (us (us (us (us (us σ 120 (fun _ => nI h)) 121 g121) 122 (fun _ => σ 112 0)) 123 (fun _ => nI 0)) 7 k7_p30) 8 k8_p30) 9 k9_p30) 10 k10_p30) 11 f11) 12 f12) 13 f13) [(0, .ref (ad 0)), (1, .int what), (2, .int (nI fo)), (3, .int le), (4, .int gr), (5, .int (nI i))] [] 45 := by
          intro m_45
          induction m_45 with
          | zero => intro i fo le gr g121 f11 f12 f13 hm_; exact absurd hm_ (Nat.not_lt_zero _)
          | succ m_45 ih45 =>
            intro i fo le gr g121 f11 f12 f13 hm_45 hi hfo hfi hle hgr
            refine ld_iload O (pc := 45) 5 dX2_crates_45 rfl ?_
            refine ld_bipush O (pc := 47) (v := nI 99) dX2_crates_47 (by decide) ?_
            refine ld_icmp_gt O (pc := 49) ((i : Nat) : Int) 99 (nI_toInt (by omega)) (by decide) 92 dX2_crates_49 (by decide) (fun c4 => ?_) (fun c4 => ?_)
            · refine ld_iload_n O (pc := 92) 1 dX2_crates_92 rfl rfl ?_
              refine ld_if_ne O (pc := 93) (what).toInt rfl 98 dX2_crates_93 (by decide) (fun c5 => ?_) (fun c5 => ?_)
              · refine ld_iload_n O (pc := 98) 1 dX2_crates_98 rfl rfl ?_
                refine ld_iconst O (pc := 99) (v := nI 1) dX2_crates_99 (by decide) ?_
                refine ld_icmp_ne O (pc := 100) (what).toInt 1 rfl (by decide) 107 dX2_crates_100 (by decide) (fun c6 => ?_) (fun c6 => ?_)
                · refine ld_iload O (pc := 107) 4 dX2_crates_107 rfl ?_
                  refine ld_ireti E dX2_crates_109 ?_
                  refine ⟨?_, fun _ => nI h, g121, fun _ => σ 112 0, fun _ => nI 0, k7_p30, k8_p30, k9_p30, k10_p30, f11, f12, f13, ?_⟩
                  · unfold ld_fCs
                    rw [if_pos (by omega), if_pos (by omega)]
                    rw [show i = 100 by omega] at hfo hle hgr
                    rw [← hfo, ← hle, ← hgr]
                    repeat' split
                    all_goals first | rfl | (exfalso; omega)
                  · funext b_
                    by_cases h0_ : b_ = 120
                    · subst h0_; first | rfl | (simp (disch := omega) only [us_ne, us_eq]; done)
                    by_cases h1_ : b_ = 121
                    · subst h1_; first | rfl | (simp (disch := omega) only [us_ne, us_eq]; done)
                    by_cases h2_ : b_ = 122
                    · subst h2_; first | rfl | (simp (disch := omega) only [us_ne, us_eq]; done)
                    by_cases h3_ : b_ = 123
                    · subst h3_; first | rfl | (simp (disch := omega) only [us_ne, us_eq]; done)
                    by_cases h4_ : b_ = 7
                    · subst h4_; first | rfl | (simp (disch := omega) only [us_ne, us_eq]; done)
                    by_cases h5_ : b_ = 8
                    · subst h5_; first | rfl | (simp (disch := omega) only [us_ne, us_eq]; done)
                    by_cases h6_ : b_ = 9
                    · subst h6_; first | rfl | (simp (disch := omega) only [us_ne, us_eq]; done)
                    by_cases h7_ : b_ = 10
                    · subst h7_; first | rfl | (simp (disch := omega) only [us_ne, us_eq]; done)
                    by_cases h8_ : b_ = 11
                    · subst h8_; first | rfl | (simp (disch := omega) only [us_ne, us_eq]; done)
                    by_cases h9_ : b_ = 12
                    · subst h9_; first | rfl | (simp (disch := omega) only [us_ne, us_eq]; done)
                    by_cases h10_ : b_ = 13
                    · subst h10_; first | rfl | (simp (disch := omega) only [us_ne, us_eq]; done)
                    simp only [us, h0_, h1_, h2_, h3_, h4_, h5_, h6_, h7_, h8_, h9_, h10_, if_false]
                · refine ld_iload_n O (pc := 103) 3 dX2_crates_103 rfl rfl ?_
                  refine ld_goto O (pc := 104) 109 dX2_crates_104 (by decide) ?_
                  refine ld_ireti E dX2_crates_109 ?_
                  refine ⟨?_, fun _ => nI h, g121, fun _ => σ 112 0, fun _ => nI 0, k7_p30, k8_p30, k9_p30, k10_p30, f11, f12, f13, ?_⟩
                  · unfold ld_fCs
                    rw [if_pos (by omega), if_pos (by omega)]
                    rw [show i = 100 by omega] at hfo hle hgr
                    rw [← hfo, ← hle, ← hgr]
                    repeat' split
                    all_goals first | rfl | (exfalso; omega)
                  · funext b_
                    by_cases h0_ : b_ = 120
                    · subst h0_; first | rfl | (simp (disch := omega) only [us_ne, us_eq]; done)
                    by_cases h1_ : b_ = 121
                    · subst h1_; first | rfl | (simp (disch := omega) only [us_ne, us_eq]; done)
                    by_cases h2_ : b_ = 122
                    · subst h2_; first | rfl | (simp (disch := omega) only [us_ne, us_eq]; done)
                    by_cases h3_ : b_ = 123
                    · subst h3_; first | rfl | (simp (disch := omega) only [us_ne, us_eq]; done)
                    by_cases h4_ : b_ = 7
                    · subst h4_; first | rfl | (simp (disch := omega) only [us_ne, us_eq]; done)
                    by_cases h5_ : b_ = 8
                    · subst h5_; first | rfl | (simp (disch := omega) only [us_ne, us_eq]; done)
                    by_cases h6_ : b_ = 9
                    · subst h6_; first | rfl | (simp (disch := omega) only [us_ne, us_eq]; done)
                    by_cases h7_ : b_ = 10
                    · subst h7_; first | rfl | (simp (disch := omega) only [us_ne, us_eq]; done)
                    by_cases h8_ : b_ = 11
                    · subst h8_; first | rfl | (simp (disch := omega) only [us_ne, us_eq]; done)
                    by_cases h9_ : b_ = 12
                    · subst h9_; first | rfl | (simp (disch := omega) only [us_ne, us_eq]; done)
                    by_cases h10_ : b_ = 13
                    · subst h10_; first | rfl | (simp (disch := omega) only [us_ne, us_eq]; done)
                    simp only [us, h0_, h1_, h2_, h3_, h4_, h5_, h6_, h7_, h8_, h9_, h10_, if_false]
              · refine ld_iload_n O (pc := 96) 2 dX2_crates_96 rfl rfl ?_
                refine ld_ireti E dX2_crates_97 ?_
                refine ⟨?_, fun _ => nI h, g121, fun _ => σ 112 0, fun _ => nI 0, k7_p30, k8_p30, k9_p30, k10_p30, f11, f12, f13, ?_⟩
                · unfold ld_fCs
                  rw [if_pos (by omega), if_pos (by omega)]
                  rw [show i = 100 by omega] at hfo hle hgr
                  rw [← hfo, ← hle, ← hgr]
                  repeat' split
                  all_goals first | rfl | (exfalso; omega)
                · funext b_
                  by_cases h0_ : b_ = 120
                  · subst h0_; first | rfl | (simp (disch := omega) only [us_ne, us_eq]; done)
                  by_cases h1_ : b_ = 121
                  · subst h1_; first | rfl | (simp (disch := omega) only [us_ne, us_eq]; done)
                  by_cases h2_ : b_ = 122
                  · subst h2_; first | rfl | (simp (disch := omega) only [us_ne, us_eq]; done)
                  by_cases h3_ : b_ = 123
                  · subst h3_; first | rfl | (simp (disch := omega) only [us_ne, us_eq]; done)
                  by_cases h4_ : b_ = 7
                  · subst h4_; first | rfl | (simp (disch := omega) only [us_ne, us_eq]; done)
                  by_cases h5_ : b_ = 8
                  · subst h5_; first | rfl | (simp (disch := omega) only [us_ne, us_eq]; done)
                  by_cases h6_ : b_ = 9
                  · subst h6_; first | rfl | (simp (disch := omega) only [us_ne, us_eq]; done)
                  by_cases h7_ : b_ = 10
                  · subst h7_; first | rfl | (simp (disch := omega) only [us_ne, us_eq]; done)
                  by_cases h8_ : b_ = 11
                  · subst h8_; first | rfl | (simp (disch := omega) only [us_ne, us_eq]; done)
                  by_cases h9_ : b_ = 12
                  · subst h9_; first | rfl | (simp (disch := omega) only [us_ne, us_eq]; done)
                  by_cases h10_ : b_ = 13
                  · subst h10_; first | rfl | (simp (disch := omega) only [us_ne, us_eq]; done)
                  simp only [us, h0_, h1_, h2_, h3_, h4_, h5_, h6_, h7_, h8_, h9_, h10_, if_false]
            · refine ld_aload_n O (pc := 52) 0 dX2_crates_52 rfl rfl ?_
              refine ld_g_LD_trial O (pc := 53) ld_w16 dX2_crates_53 ?_
              refine ld_iload O (pc := 56) 5 dX2_crates_56 rfl ?_
              refine ld_p_trial_crateN O (pc := 58) (List.mem_of_getElem? (i := 2) rfl) dX2_crates_58 ?_
              refine ld_aload_n O (pc := 61) 0 dX2_crates_61 rfl rfl ?_
              refine ld_callVi O (pc := 62) (As := []) (st := []) ld_recv0 (c_X2_holds l ad (us (us (us (us (us (us (us (us (us (us (us (us σ 120 (fun _ => nI h)) 121 g121) 122 (fun _ => σ 112 0)) 123 (fun _ => nI 0)) 7 k7_p30) 8 k8_p30) 9 k9_p30) 10 k10_p30) 11 f11) 12 f12) 13 f13) 121 (fun _ => nI i)) h rfl h8 q hq q8 hrd) ld_mw_X2_readingsHoldInTrial ld_w460 rfl rfl ⟨by decide, by decide⟩ (Nat.le_of_ble_eq_true rfl) dX2_crates_62 (fun r_p62 σ_p62 h_p62 => ?_)
              obtain ⟨rfl, f11_p62, f12_p62, f13_p62, hσ_p62⟩ := h_p62
              rw [hσ_p62]
              show K (us (us (us (us (us (us (us (us (us (us (us (us (us (us (us σ 120 (fun _ => nI h)) 121 g121) 122 (fun _ => σ 112 0)) 123 (fun _ => nI 0)) 7 k7_p30) 8 k8_p30) 9 k9_p30) 10 k10_p30) 11 f11) 12 f12) 13 f13) 121 (fun _ => nI i)) 11 f11_p62) 12 f12_p62) 13 f13_p62) [(0, .ref (ad 0)), (1, .int what), (2, .int (nI fo)), (3, .int le), (4, .int gr), (5, .int (nI i))] [.int (ld_b (ld_rh h k7_p30 k8_p30 (nI i) (σ 14) (σ 15) q))] 65
              rw [show (ld_rh h k7_p30 k8_p30 (nI i) (σ 14) (σ 15) q) = (ld_rh h (σ 0) (σ 1) (nI i) (σ 14) (σ 15) q) from propext (ld_rh_cong hrd (fun y hy => (hk_p30 y hy).1) (fun y hy => (hk_p30 y hy).2.1))]
              refine ld_ifb_eq O (pc := 65) 86 dX2_crates_65 (by decide) (fun c7 => ?_) (fun c7 => ?_)
              · have hP_ := c7
                refine ld_iincN O (pc := 86) [(5, .int (nI (i + 1))), (0, .ref (ad 0)), (1, .int what), (2, .int (nI fo)), (3, .int le), (4, .int gr)] 5 dX2_crates_86 rfl (by decide) rfl ?_
                refine ld_goto O (pc := 89) 45 dX2_crates_89 (by decide) ?_
                refine ld_less O [1, 2, 3, 4, 5, 0] (lv2 := [(0, .ref (ad 0)), (1, .int what), (2, .int (nI fo)), (3, .int le), (4, .int gr), (5, .int (nI (i + 1)))]) rfl ?_
                have hs8 : us (us (us (us (us (us (us (us (us (us (us (us (us (us (us σ 120 (fun _ => nI h)) 121 g121) 122 (fun _ => σ 112 0)) 123 (fun _ => nI 0)) 7 k7_p30) 8 k8_p30) 9 k9_p30) 10 k10_p30) 11 f11) 12 f12) 13 f13) 121 (fun _ => nI i)) 11 f11_p62) 12 f12_p62) 13 f13_p62 = us (us (us (us (us (us (us (us (us (us (us σ 120 (fun _ => nI h)) 121 (fun _ => nI i)) 122 (fun _ => σ 112 0)) 123 (fun _ => nI 0)) 7 k7_p30) 8 k8_p30) 9 k9_p30) 10 k10_p30) 11 f11_p62) 12 f12_p62) 13 f13_p62 := by
                  funext b_
                  by_cases h0_ : b_ = 120
                  · subst h0_; rfl
                  by_cases h1_ : b_ = 121
                  · subst h1_; rfl
                  by_cases h2_ : b_ = 122
                  · subst h2_; rfl
                  by_cases h3_ : b_ = 123
                  · subst h3_; rfl
                  by_cases h4_ : b_ = 7
                  · subst h4_; rfl
                  by_cases h5_ : b_ = 8
                  · subst h5_; rfl
                  by_cases h6_ : b_ = 9
                  · subst h6_; rfl
                  by_cases h7_ : b_ = 10
                  · subst h7_; rfl
                  by_cases h8_ : b_ = 11
                  · subst h8_; rfl
                  by_cases h9_ : b_ = 12
                  · subst h9_; rfl
                  by_cases h10_ : b_ = 13
                  · subst h10_; rfl
                  simp only [us, h0_, h1_, h2_, h3_, h4_, h5_, h6_, h7_, h8_, h9_, h10_, if_false]
                refine ld_cv hs8 ?_
                exact ih45 (i + 1) fo le gr (fun _ => nI i) f11_p62 f12_p62 f13_p62 (by omega) (by omega) (by rw [hfo]; first | exact (ld_cn_t (P := (fun z => ld_rh h (σ 0) (σ 1) (nI z) (σ 14) (σ 15) q)) (n := i) hP_).symm | exact (ld_cn_f (P := (fun z => ld_rh h (σ 0) (σ 1) (nI z) (σ 14) (σ 15) q)) (n := i) hP_).symm) (by omega) (by first | (rw [ld_ls_f (P := (fun z => ld_rh h (σ 0) (σ 1) (nI z) (σ 14) (σ 15) q)) (n := i) hP_]; exact hle) | (rw [ld_ls_t (P := (fun z => ld_rh h (σ 0) (σ 1) (nI z) (σ 14) (σ 15) q)) (n := i) hP_, ← hfo, if_pos (by omega)]; done) | (rw [ld_ls_t (P := (fun z => ld_rh h (σ 0) (σ 1) (nI z) (σ 14) (σ 15) q)) (n := i) hP_, ← hfo, if_neg (by omega)]; exact hle)) (by first | (rw [ld_gr_f (P := (fun z => ld_rh h (σ 0) (σ 1) (nI z) (σ 14) (σ 15) q)) (n := i) hP_]; exact hgr) | exact (ld_gr_t (P := (fun z => ld_rh h (σ 0) (σ 1) (nI z) (σ 14) (σ 15) q)) (n := i) hP_).symm)
              · have hP_ := c7
                refine ld_iload_n O (pc := 68) 2 dX2_crates_68 rfl rfl ?_
                refine ld_if_ne O (pc := 69) ((fo : Nat) : Int) (nI_toInt (by omega)) 77 dX2_crates_69 (by decide) (fun c9 => ?_) (fun c9 => ?_)
                · refine ld_iload_n O (pc := 77) 3 dX2_crates_77 rfl rfl ?_
                  refine ld_istore_n O (pc := 78) [(3, .int le), (0, .ref (ad 0)), (1, .int what), (2, .int (nI fo)), (4, .int gr), (5, .int (nI i))] dX2_crates_78 rfl (by decide) rfl ?_
                  refine ld_iload O (pc := 79) 5 dX2_crates_79 rfl ?_
                  refine ld_istore O (pc := 81) [(4, .int (nI i)), (3, .int le), (0, .ref (ad 0)), (1, .int what), (2, .int (nI fo)), (5, .int (nI i))] dX2_crates_81 (by decide) rfl ?_
                  refine ld_iincN O (pc := 83) [(2, .int (nI (fo + 1))), (4, .int (nI i)), (3, .int le), (0, .ref (ad 0)), (1, .int what), (5, .int (nI i))] 4 dX2_crates_83 rfl (by decide) rfl ?_
                  have hP_ := c7
                  refine ld_iincN O (pc := 86) [(5, .int (nI (i + 1))), (2, .int (nI (fo + 1))), (4, .int (nI i)), (3, .int le), (0, .ref (ad 0)), (1, .int what)] 5 dX2_crates_86 rfl (by decide) rfl ?_
                  refine ld_goto O (pc := 89) 45 dX2_crates_89 (by decide) ?_
                  refine ld_less O [4, 5, 1, 3, 2, 0] (lv2 := [(0, .ref (ad 0)), (1, .int what), (2, .int (nI (fo + 1))), (3, .int le), (4, .int (nI i)), (5, .int (nI (i + 1)))]) rfl ?_
                  have hs10 : us (us (us (us (us (us (us (us (us (us (us (us (us (us (us σ 120 (fun _ => nI h)) 121 g121) 122 (fun _ => σ 112 0)) 123 (fun _ => nI 0)) 7 k7_p30) 8 k8_p30) 9 k9_p30) 10 k10_p30) 11 f11) 12 f12) 13 f13) 121 (fun _ => nI i)) 11 f11_p62) 12 f12_p62) 13 f13_p62 = us (us (us (us (us (us (us (us (us (us (us σ 120 (fun _ => nI h)) 121 (fun _ => nI i)) 122 (fun _ => σ 112 0)) 123 (fun _ => nI 0)) 7 k7_p30) 8 k8_p30) 9 k9_p30) 10 k10_p30) 11 f11_p62) 12 f12_p62) 13 f13_p62 := by
                    funext b_
                    by_cases h0_ : b_ = 120
                    · subst h0_; rfl
                    by_cases h1_ : b_ = 121
                    · subst h1_; rfl
                    by_cases h2_ : b_ = 122
                    · subst h2_; rfl
                    by_cases h3_ : b_ = 123
                    · subst h3_; rfl
                    by_cases h4_ : b_ = 7
                    · subst h4_; rfl
                    by_cases h5_ : b_ = 8
                    · subst h5_; rfl
                    by_cases h6_ : b_ = 9
                    · subst h6_; rfl
                    by_cases h7_ : b_ = 10
                    · subst h7_; rfl
                    by_cases h8_ : b_ = 11
                    · subst h8_; rfl
                    by_cases h9_ : b_ = 12
                    · subst h9_; rfl
                    by_cases h10_ : b_ = 13
                    · subst h10_; rfl
                    simp only [us, h0_, h1_, h2_, h3_, h4_, h5_, h6_, h7_, h8_, h9_, h10_, if_false]
                  refine ld_cv hs10 ?_
                  exact ih45 (i + 1) (fo + 1) le (nI i) (fun _ => nI i) f11_p62 f12_p62 f13_p62 (by omega) (by omega) (by rw [hfo]; first | exact (ld_cn_t (P := (fun z => ld_rh h (σ 0) (σ 1) (nI z) (σ 14) (σ 15) q)) (n := i) hP_).symm | exact (ld_cn_f (P := (fun z => ld_rh h (σ 0) (σ 1) (nI z) (σ 14) (σ 15) q)) (n := i) hP_).symm) (by omega) (by first | (rw [ld_ls_f (P := (fun z => ld_rh h (σ 0) (σ 1) (nI z) (σ 14) (σ 15) q)) (n := i) hP_]; exact hle) | (rw [ld_ls_t (P := (fun z => ld_rh h (σ 0) (σ 1) (nI z) (σ 14) (σ 15) q)) (n := i) hP_, ← hfo, if_pos (by omega)]; done) | (rw [ld_ls_t (P := (fun z => ld_rh h (σ 0) (σ 1) (nI z) (σ 14) (σ 15) q)) (n := i) hP_, ← hfo, if_neg (by omega)]; exact hle)) (by first | (rw [ld_gr_f (P := (fun z => ld_rh h (σ 0) (σ 1) (nI z) (σ 14) (σ 15) q)) (n := i) hP_]; exact hgr) | exact (ld_gr_t (P := (fun z => ld_rh h (σ 0) (σ 1) (nI z) (σ 14) (σ 15) q)) (n := i) hP_).symm)
                · refine ld_iload O (pc := 72) 5 dX2_crates_72 rfl ?_
                  refine ld_goto O (pc := 74) 78 dX2_crates_74 (by decide) ?_
                  refine ld_istore_n O (pc := 78) [(3, .int (nI i)), (0, .ref (ad 0)), (1, .int what), (2, .int (nI fo)), (4, .int gr), (5, .int (nI i))] dX2_crates_78 rfl (by decide) rfl ?_
                  refine ld_iload O (pc := 79) 5 dX2_crates_79 rfl ?_
                  refine ld_istore O (pc := 81) [(4, .int (nI i)), (3, .int (nI i)), (0, .ref (ad 0)), (1, .int what), (2, .int (nI fo)), (5, .int (nI i))] dX2_crates_81 (by decide) rfl ?_
                  refine ld_iincN O (pc := 83) [(2, .int (nI (fo + 1))), (4, .int (nI i)), (3, .int (nI i)), (0, .ref (ad 0)), (1, .int what), (5, .int (nI i))] 4 dX2_crates_83 rfl (by decide) rfl ?_
                  have hP_ := c7
                  refine ld_iincN O (pc := 86) [(5, .int (nI (i + 1))), (2, .int (nI (fo + 1))), (4, .int (nI i)), (3, .int (nI i)), (0, .ref (ad 0)), (1, .int what)] 5 dX2_crates_86 rfl (by decide) rfl ?_
                  refine ld_goto O (pc := 89) 45 dX2_crates_89 (by decide) ?_
                  refine ld_less O [4, 5, 1, 3, 2, 0] (lv2 := [(0, .ref (ad 0)), (1, .int what), (2, .int (nI (fo + 1))), (3, .int (nI i)), (4, .int (nI i)), (5, .int (nI (i + 1)))]) rfl ?_
                  have hs11 : us (us (us (us (us (us (us (us (us (us (us (us (us (us (us σ 120 (fun _ => nI h)) 121 g121) 122 (fun _ => σ 112 0)) 123 (fun _ => nI 0)) 7 k7_p30) 8 k8_p30) 9 k9_p30) 10 k10_p30) 11 f11) 12 f12) 13 f13) 121 (fun _ => nI i)) 11 f11_p62) 12 f12_p62) 13 f13_p62 = us (us (us (us (us (us (us (us (us (us (us σ 120 (fun _ => nI h)) 121 (fun _ => nI i)) 122 (fun _ => σ 112 0)) 123 (fun _ => nI 0)) 7 k7_p30) 8 k8_p30) 9 k9_p30) 10 k10_p30) 11 f11_p62) 12 f12_p62) 13 f13_p62 := by
                    funext b_
                    by_cases h0_ : b_ = 120
                    · subst h0_; rfl
                    by_cases h1_ : b_ = 121
                    · subst h1_; rfl
                    by_cases h2_ : b_ = 122
                    · subst h2_; rfl
                    by_cases h3_ : b_ = 123
                    · subst h3_; rfl
                    by_cases h4_ : b_ = 7
                    · subst h4_; rfl
                    by_cases h5_ : b_ = 8
                    · subst h5_; rfl
                    by_cases h6_ : b_ = 9
                    · subst h6_; rfl
                    by_cases h7_ : b_ = 10
                    · subst h7_; rfl
                    by_cases h8_ : b_ = 11
                    · subst h8_; rfl
                    by_cases h9_ : b_ = 12
                    · subst h9_; rfl
                    by_cases h10_ : b_ = 13
                    · subst h10_; rfl
                    simp only [us, h0_, h1_, h2_, h3_, h4_, h5_, h6_, h7_, h8_, h9_, h10_, if_false]
                  refine ld_cv hs11 ?_
                  exact ih45 (i + 1) (fo + 1) (nI i) (nI i) (fun _ => nI i) f11_p62 f12_p62 f13_p62 (by omega) (by omega) (by rw [hfo]; first | exact (ld_cn_t (P := (fun z => ld_rh h (σ 0) (σ 1) (nI z) (σ 14) (σ 15) q)) (n := i) hP_).symm | exact (ld_cn_f (P := (fun z => ld_rh h (σ 0) (σ 1) (nI z) (σ 14) (σ 15) q)) (n := i) hP_).symm) (by omega) (by first | (rw [ld_ls_f (P := (fun z => ld_rh h (σ 0) (σ 1) (nI z) (σ 14) (σ 15) q)) (n := i) hP_]; exact hle) | (rw [ld_ls_t (P := (fun z => ld_rh h (σ 0) (σ 1) (nI z) (σ 14) (σ 15) q)) (n := i) hP_, ← hfo, if_pos (by omega)]; done) | (rw [ld_ls_t (P := (fun z => ld_rh h (σ 0) (σ 1) (nI z) (σ 14) (σ 15) q)) (n := i) hP_, ← hfo, if_neg (by omega)]; exact hle)) (by first | (rw [ld_gr_f (P := (fun z => ld_rh h (σ 0) (σ 1) (nI z) (σ 14) (σ 15) q)) (n := i) hP_]; exact hgr) | exact (ld_gr_t (P := (fun z => ld_rh h (σ 0) (σ 1) (nI z) (σ 14) (σ 15) q)) (n := i) hP_).symm)
        refine ld_less O [4, 5, 3, 2, 1, 0] (lv2 := [(0, .ref (ad 0)), (1, .int what), (2, .int (nI 0)), (3, .int (-9 : Int32)), (4, .int (-9 : Int32)), (5, .int (nI 0))]) rfl ?_
        have hs12 : us (us (us (us (us (us (us (us σ 120 (fun _ => nI h)) 121 (fun _ => σ 111 0)) 122 (fun _ => σ 112 0)) 123 (fun _ => nI 0)) 7 k7_p30) 8 k8_p30) 9 k9_p30) 10 k10_p30 = us (us (us (us (us (us (us (us (us (us (us σ 120 (fun _ => nI h)) 121 (fun _ => σ 111 0)) 122 (fun _ => σ 112 0)) 123 (fun _ => nI 0)) 7 k7_p30) 8 k8_p30) 9 k9_p30) 10 k10_p30) 11 (σ 11)) 12 (σ 12)) 13 (σ 13) := by
          funext b_
          by_cases h0_ : b_ = 120
          · subst h0_; rfl
          by_cases h1_ : b_ = 121
          · subst h1_; rfl
          by_cases h2_ : b_ = 122
          · subst h2_; rfl
          by_cases h3_ : b_ = 123
          · subst h3_; rfl
          by_cases h4_ : b_ = 7
          · subst h4_; rfl
          by_cases h5_ : b_ = 8
          · subst h5_; rfl
          by_cases h6_ : b_ = 9
          · subst h6_; rfl
          by_cases h7_ : b_ = 10
          · subst h7_; rfl
          by_cases h8_ : b_ = 11
          · subst h8_; rfl
          by_cases h9_ : b_ = 12
          · subst h9_; rfl
          by_cases h10_ : b_ = 13
          · subst h10_; rfl
          simp only [us, h0_, h1_, h2_, h3_, h4_, h5_, h6_, h7_, h8_, h9_, h10_, if_false]
        refine ld_cv hs12 ?_
        exact L45 _ 0 0 (-9 : Int32) (-9 : Int32) (fun _ => σ 111 0) (σ 11) (σ 12) (σ 13) (Nat.lt_succ_self _) (Nat.zero_le _) rfl (Nat.le_refl _) rfl rfl
      · refine ld_bipush O (pc := 19) (v := (-2 : Int32)) dX2_crates_19 (by decide) ?_
        refine ld_ireti E dX2_crates_21 ?_
        refine ⟨?_, σ 120, σ 121, σ 122, σ 123, σ 7, σ 8, σ 9, σ 10, σ 11, σ 12, σ 13, ?_⟩
        · unfold ld_fCs
          repeat' split
          all_goals first | rfl | (exfalso; omega)
        · funext b_
          by_cases h0_ : b_ = 121
          · subst h0_; first | rfl | (simp (disch := omega) only [us_ne, us_eq]; done)
          by_cases h1_ : b_ = 122
          · subst h1_; first | rfl | (simp (disch := omega) only [us_ne, us_eq]; done)
          by_cases h2_ : b_ = 123
          · subst h2_; first | rfl | (simp (disch := omega) only [us_ne, us_eq]; done)
          by_cases h3_ : b_ = 7
          · subst h3_; first | rfl | (simp (disch := omega) only [us_ne, us_eq]; done)
          by_cases h4_ : b_ = 8
          · subst h4_; first | rfl | (simp (disch := omega) only [us_ne, us_eq]; done)
          by_cases h5_ : b_ = 9
          · subst h5_; first | rfl | (simp (disch := omega) only [us_ne, us_eq]; done)
          by_cases h6_ : b_ = 10
          · subst h6_; first | rfl | (simp (disch := omega) only [us_ne, us_eq]; done)
          by_cases h7_ : b_ = 11
          · subst h7_; first | rfl | (simp (disch := omega) only [us_ne, us_eq]; done)
          by_cases h8_ : b_ = 12
          · subst h8_; first | rfl | (simp (disch := omega) only [us_ne, us_eq]; done)
          by_cases h9_ : b_ = 13
          · subst h9_; first | rfl | (simp (disch := omega) only [us_ne, us_eq]; done)
          by_cases h10_ : b_ = 120
          · subst h10_; first | rfl | (simp (disch := omega) only [us_ne, us_eq]; done)
          simp only [us, h0_, h1_, h2_, h3_, h4_, h5_, h6_, h7_, h8_, h9_, h10_, if_false]
  · refine ld_bipush O (pc := 7) (v := (-3 : Int32)) dX2_crates_7 (by decide) ?_
    refine ld_ireti E dX2_crates_9 ?_
    refine ⟨?_, σ 120, σ 121, σ 122, σ 123, σ 7, σ 8, σ 9, σ 10, σ 11, σ 12, σ 13, ?_⟩
    · unfold ld_fCs
      repeat' split
      all_goals first | rfl | (exfalso; omega)
    · funext b_
      by_cases h0_ : b_ = 121
      · subst h0_; first | rfl | (simp (disch := omega) only [us_ne, us_eq]; done)
      by_cases h1_ : b_ = 122
      · subst h1_; first | rfl | (simp (disch := omega) only [us_ne, us_eq]; done)
      by_cases h2_ : b_ = 123
      · subst h2_; first | rfl | (simp (disch := omega) only [us_ne, us_eq]; done)
      by_cases h3_ : b_ = 7
      · subst h3_; first | rfl | (simp (disch := omega) only [us_ne, us_eq]; done)
      by_cases h4_ : b_ = 8
      · subst h4_; first | rfl | (simp (disch := omega) only [us_ne, us_eq]; done)
      by_cases h5_ : b_ = 9
      · subst h5_; first | rfl | (simp (disch := omega) only [us_ne, us_eq]; done)
      by_cases h6_ : b_ = 10
      · subst h6_; first | rfl | (simp (disch := omega) only [us_ne, us_eq]; done)
      by_cases h7_ : b_ = 11
      · subst h7_; first | rfl | (simp (disch := omega) only [us_ne, us_eq]; done)
      by_cases h8_ : b_ = 12
      · subst h8_; first | rfl | (simp (disch := omega) only [us_ne, us_eq]; done)
      by_cases h9_ : b_ = 13
      · subst h9_; first | rfl | (simp (disch := omega) only [us_ne, us_eq]; done)
      by_cases h10_ : b_ = 120
      · subst h10_; first | rfl | (simp (disch := omega) only [us_ne, us_eq]; done)
      simp only [us, h0_, h1_, h2_, h3_, h4_, h5_, h6_, h7_, h8_, h9_, h10_, if_false]
set_option maxHeartbeats 4000000 in
set_option maxRecDepth 100000 in
theorem c_X2_odds (l : Launch) (ad : Nat → Nat) (σ : ld_St) (h : Nat) (hh : σ 110 0 = nI h) (h8 : h ≤ 8) (k v which : Int32) : ld_Ctr l yX2_odds cX2_odds 6 (some .long) (3, 69) [.ref (ad 0), .int k, .int v, .int which] ad σ (ld_L (fun (r : Int64) (σ2 : ld_St) => r = ld_fOd h (σ 0) (σ 1) k v which ∧ ∃ f4 f5 f6 : Nat → Int32, σ2 = us (us (us σ 4 f4) 5 f5) 6 f6)) := by
  refine ld_entry (by decide +kernel) (Nat.le_of_ble_eq_true rfl) (fun K O E => ?_)
  have O : ld_Ok l K ad cX2_odds 6 RX2 (ld_rm (3, 69)) := O
  show K σ [(0, .ref (ad 0)), (1, .int k), (2, .int v), (3, .int which)] [] 0
  refine ld_aload_n O (pc := 0) 0 dX2_odds_0 rfl rfl ?_
  refine ld_iload_n O (pc := 1) 1 dX2_odds_1 rfl rfl ?_
  refine ld_callVi O (pc := 2) (As := [.int k]) (st := []) ld_recv0 (c_X2_isHouse l ad σ k h hh h8) ld_mw_X2_isHouse ld_w168 rfl rfl ⟨by decide, by decide⟩ (Nat.le_of_ble_eq_true rfl) dX2_odds_2 (fun r_p2 σ_p2 h_p2 => ?_)
  obtain ⟨rfl, hσ_p2⟩ := h_p2
  rw [hσ_p2]
  show K σ [(0, .ref (ad 0)), (1, .int k), (2, .int v), (3, .int which)] [.int (ld_b (0 ≤ (k).toInt ∧ (k).toInt < (h : Int)))] 5
  refine ld_ifb_eq O (pc := 5) 24 dX2_odds_5 (by decide) (fun c1 => ?_) (fun c1 => ?_)
  · refine ld_ldc2 O (pc := 24) (v := (-9223372036854775808 : Int64)) dX2_odds_24 ld_w492 ?_
    refine ld_lret E dX2_odds_27 ?_
    refine ⟨?_, σ 4, σ 5, σ 6, ?_⟩
    · unfold ld_fOd
      rw [if_neg (by omega)]
    · funext b_
      by_cases h0_ : b_ = 5
      · subst h0_; first | rfl | (simp (disch := omega) only [us_ne, us_eq]; done)
      by_cases h1_ : b_ = 6
      · subst h1_; first | rfl | (simp (disch := omega) only [us_ne, us_eq]; done)
      by_cases h2_ : b_ = 4
      · subst h2_; first | rfl | (simp (disch := omega) only [us_ne, us_eq]; done)
      simp only [us, h0_, h1_, h2_, if_false]
  · obtain ⟨ek_k, hk_k, ik_k⟩ := ld_ofIx (k := k) (h := h) (by omega)
    rw [ek_k]
    refine ld_iload_n O (pc := 8) 2 dX2_odds_8 rfl rfl ?_
    refine ld_callSi O (pc := 9) (As := [.int v]) (st := []) (c_X2_isCrate l ad σ v) ld_mw_X2_isCrate ld_w233 rfl rfl ⟨by decide, by decide⟩ (Nat.le_of_ble_eq_true rfl) dX2_odds_9 (fun r_p9 σ_p9 h_p9 => ?_)
    obtain ⟨rfl, hσ_p9⟩ := h_p9
    rw [hσ_p9]
    show K σ [(0, .ref (ad 0)), (1, .int (nI (ld_ix k))), (2, .int v), (3, .int which)] [.int (ld_b (0 ≤ (v).toInt ∧ (v).toInt < 100))] 12
    refine ld_ifb_eq O (pc := 12) 24 dX2_odds_12 (by decide) (fun c2 => ?_) (fun c2 => ?_)
    · refine ld_ldc2 O (pc := 24) (v := (-9223372036854775808 : Int64)) dX2_odds_24 ld_w492 ?_
      refine ld_lret E dX2_odds_27 ?_
      refine ⟨?_, σ 4, σ 5, σ 6, ?_⟩
      · unfold ld_fOd
        rw [if_neg (by omega)]
      · funext b_
        by_cases h0_ : b_ = 5
        · subst h0_; first | rfl | (simp (disch := omega) only [us_ne, us_eq]; done)
        by_cases h1_ : b_ = 6
        · subst h1_; first | rfl | (simp (disch := omega) only [us_ne, us_eq]; done)
        by_cases h2_ : b_ = 4
        · subst h2_; first | rfl | (simp (disch := omega) only [us_ne, us_eq]; done)
        simp only [us, h0_, h1_, h2_, if_false]
    · refine ld_iload_n O (pc := 15) 3 dX2_odds_15 rfl rfl ?_
      refine ld_if_lt O (pc := 16) (which).toInt rfl 24 dX2_odds_16 (by decide) (fun c3 => ?_) (fun c3 => ?_)
      · refine ld_ldc2 O (pc := 24) (v := (-9223372036854775808 : Int64)) dX2_odds_24 ld_w492 ?_
        refine ld_lret E dX2_odds_27 ?_
        refine ⟨?_, σ 4, σ 5, σ 6, ?_⟩
        · unfold ld_fOd
          rw [if_neg (by omega)]
        · funext b_
          by_cases h0_ : b_ = 5
          · subst h0_; first | rfl | (simp (disch := omega) only [us_ne, us_eq]; done)
          by_cases h1_ : b_ = 6
          · subst h1_; first | rfl | (simp (disch := omega) only [us_ne, us_eq]; done)
          by_cases h2_ : b_ = 4
          · subst h2_; first | rfl | (simp (disch := omega) only [us_ne, us_eq]; done)
          simp only [us, h0_, h1_, h2_, if_false]
      · refine ld_iload_n O (pc := 19) 3 dX2_odds_19 rfl rfl ?_
        refine ld_iconst O (pc := 20) (v := nI 1) dX2_odds_20 (by decide) ?_
        refine ld_icmp_le O (pc := 21) (which).toInt 1 rfl (by decide) 28 dX2_odds_21 (by decide) (fun c4 => ?_) (fun c4 => ?_)
        · refine ld_iconst O (pc := 28) (v := nI 0) dX2_odds_28 (by decide) ?_
          refine ld_istore O (pc := 29) [(4, .int (nI 0)), (0, .ref (ad 0)), (1, .int (nI (ld_ix k))), (2, .int v), (3, .int which)] dX2_odds_29 (by decide) rfl ?_
          refine ld_iconst O (pc := 31) (v := nI 0) dX2_odds_31 (by decide) ?_
          refine ld_istore O (pc := 32) [(5, .int (nI 0)), (4, .int (nI 0)), (0, .ref (ad 0)), (1, .int (nI (ld_ix k))), (2, .int v), (3, .int which)] dX2_odds_32 (by decide) rfl ?_
          have L34 : ∀ (m_34 : Nat) (i : Nat) (up : Nat) (f4 : Nat → Int32) (f5 : Nat → Int32) (f6 : Nat → Int32), 100 - i < m_34 → (i ≤ 100) → (up = ld_up h (σ 0) (σ 1) (ld_ix k) v i) → (up ≤ i) → K (us (us (us σ 4 f4) 5 f5) 6 f6) [(0, .ref (ad 0)), (1, .int (nI (ld_ix k))), (2, .int v), (3, .int which), (4, .int (nI up)), (5, .int (nI i))] [] 34 := by
            intro m_34
            induction m_34 with
            | zero => intro i up f4 f5 f6 hm_; exact absurd hm_ (Nat.not_lt_zero _)
            | succ m_34 ih34 =>
              intro i up f4 f5 f6 hm_34 hi hu hui
              refine ld_iload O (pc := 34) 5 dX2_odds_34 rfl ?_
              refine ld_bipush O (pc := 36) (v := nI 99) dX2_odds_36 (by decide) ?_
              refine ld_icmp_gt O (pc := 38) ((i : Nat) : Int) 99 (nI_toInt (by omega)) (by decide) 64 dX2_odds_38 (by decide) (fun c5 => ?_) (fun c5 => ?_)
              · refine ld_bipush O (pc := 64) (v := nI 100) dX2_odds_64 (by decide) ?_
                refine ld_istore O (pc := 66) [(5, .int (nI 100)), (0, .ref (ad 0)), (1, .int (nI (ld_ix k))), (2, .int v), (3, .int which), (4, .int (nI up))] dX2_odds_66 (by decide) rfl ?_
                have L68 : ∀ (m_68 : Nat) (d : Nat), d < m_68 → (1 ≤ d) → (d ≤ 100) → (∀ e, d < e → e ≤ 100 → ¬ (up % e = 0 ∧ 100 % e = 0)) → K (us (us (us σ 4 f4) 5 f5) 6 f6) [(0, .ref (ad 0)), (1, .int (nI (ld_ix k))), (2, .int v), (3, .int which), (4, .int (nI up)), (5, .int (nI d))] [] 68 := by
                  intro m_68
                  induction m_68 with
                  | zero => intro d hm_; exact absurd hm_ (Nat.not_lt_zero _)
                  | succ m_68 ih68 =>
                    intro d hm_68 hd1 hd2 hd3
                    refine ld_iload O (pc := 68) 5 dX2_odds_68 rfl ?_
                    refine ld_iconst O (pc := 70) (v := nI 1) dX2_odds_70 (by decide) ?_
                    refine ld_icmp_le O (pc := 71) ((d : Nat) : Int) 1 (nI_toInt (by omega)) (by decide) 96 dX2_odds_71 (by decide) (fun c6 => ?_) (fun c6 => ?_)
                    · refine ld_iload_n O (pc := 96) 3 dX2_odds_96 rfl rfl ?_
                      refine ld_if_ne O (pc := 97) (which).toInt rfl 109 dX2_odds_97 (by decide) (fun c7 => ?_) (fun c7 => ?_)
                      · refine ld_bipush O (pc := 109) (v := nI 100) dX2_odds_109 (by decide) ?_
                        refine ld_iload O (pc := 111) 5 dX2_odds_111 rfl ?_
                        refine ld_idiv O (pc := 113) dX2_odds_113 (nI_ne0 (by omega) (by omega)) ?_
                        have hl8 : (((nI 100) / (nI d)).toInt64).toInt = ((nI 100) / (nI d)).toInt := (Int32.toInt_toInt64 _).trans rfl
                        refine ld_i2l O (pc := 114) dX2_odds_114 ?_
                        refine ld_lret E dX2_odds_115 ?_
                        refine ⟨?_, f4, f5, f6, ?_⟩
                        · have hg_ : Nat.gcd up 100 = d := ld_gcd hd1 (by first | omega | (rw [show d = 1 by omega]; exact Nat.mod_one _)) (by first | omega | (rw [show d = 1 by omega])) hd3
                          unfold ld_fOd
                          rw [if_pos (by omega)]
                          rw [← show up = ld_up h (σ 0) (σ 1) (ld_ix k) v 100 by rw [hu, show i = 100 by omega], hg_, pk_div (by omega) (by omega) (by omega), nI_l (Nat.lt_of_le_of_lt (Nat.div_le_self _ _) (by omega))]
                          first | (rw [if_pos (by omega)]; done) | (rw [if_neg (by omega)]; done)
                        · funext b_
                          by_cases h0_ : b_ = 4
                          · subst h0_; first | rfl | (simp (disch := omega) only [us_ne, us_eq]; done)
                          by_cases h1_ : b_ = 5
                          · subst h1_; first | rfl | (simp (disch := omega) only [us_ne, us_eq]; done)
                          by_cases h2_ : b_ = 6
                          · subst h2_; first | rfl | (simp (disch := omega) only [us_ne, us_eq]; done)
                          simp only [us, h0_, h1_, h2_, if_false]
                      · refine ld_iload O (pc := 100) 4 dX2_odds_100 rfl ?_
                        refine ld_iload O (pc := 102) 5 dX2_odds_102 rfl ?_
                        refine ld_idiv O (pc := 104) dX2_odds_104 (nI_ne0 (by omega) (by omega)) ?_
                        have hl9 : (((nI up) / (nI d)).toInt64).toInt = ((nI up) / (nI d)).toInt := (Int32.toInt_toInt64 _).trans rfl
                        refine ld_i2l O (pc := 105) dX2_odds_105 ?_
                        refine ld_goto O (pc := 106) 115 dX2_odds_106 (by decide) ?_
                        refine ld_lret E dX2_odds_115 ?_
                        refine ⟨?_, f4, f5, f6, ?_⟩
                        · have hg_ : Nat.gcd up 100 = d := ld_gcd hd1 (by first | omega | (rw [show d = 1 by omega]; exact Nat.mod_one _)) (by first | omega | (rw [show d = 1 by omega])) hd3
                          unfold ld_fOd
                          rw [if_pos (by omega)]
                          rw [← show up = ld_up h (σ 0) (σ 1) (ld_ix k) v 100 by rw [hu, show i = 100 by omega], hg_, pk_div (by omega) (by omega) (by omega), nI_l (Nat.lt_of_le_of_lt (Nat.div_le_self _ _) (by omega))]
                          first | (rw [if_pos (by omega)]; done) | (rw [if_neg (by omega)]; done)
                        · funext b_
                          by_cases h0_ : b_ = 4
                          · subst h0_; first | rfl | (simp (disch := omega) only [us_ne, us_eq]; done)
                          by_cases h1_ : b_ = 5
                          · subst h1_; first | rfl | (simp (disch := omega) only [us_ne, us_eq]; done)
                          by_cases h2_ : b_ = 6
                          · subst h2_; first | rfl | (simp (disch := omega) only [us_ne, us_eq]; done)
                          simp only [us, h0_, h1_, h2_, if_false]
                    · refine ld_iload O (pc := 74) 4 dX2_odds_74 rfl ?_
                      refine ld_iload O (pc := 76) 5 dX2_odds_76 rfl ?_
                      refine ld_irem O (pc := 78) dX2_odds_78 (nI_ne0 (by omega) (by omega)) ?_
                      have hb_ := Nat.mod_lt up (show 0 < d by omega)
                      rw [pk_rem (by omega) (by omega) (by omega)]
                      refine ld_if_ne O (pc := 79) ((up % d : Nat) : Int) (nI_toInt (by omega)) 90 dX2_odds_79 (by decide) (fun c10 => ?_) (fun c10 => ?_)
                      · refine ld_iinc O (pc := 90) [(5, .int (nI (d - 1))), (0, .ref (ad 0)), (1, .int (nI (ld_ix k))), (2, .int v), (3, .int which), (4, .int (nI up))] 5 (v := nI (d - 1)) dX2_odds_90 rfl (ld_dec hd1) (by decide) rfl ?_
                        refine ld_goto O (pc := 93) 68 dX2_odds_93 (by decide) ?_
                        refine ld_less O [1, 2, 3, 4, 5, 0] (lv2 := [(0, .ref (ad 0)), (1, .int (nI (ld_ix k))), (2, .int v), (3, .int which), (4, .int (nI up)), (5, .int (nI (d - 1)))]) rfl ?_
                        exact ih68 (d - 1) (by omega) (by omega) (by omega) (ld_gstep hd3 (fun z => c10 (by omega)))
                      · refine ld_bipush O (pc := 82) (v := nI 100) dX2_odds_82 (by decide) ?_
                        refine ld_iload O (pc := 84) 5 dX2_odds_84 rfl ?_
                        refine ld_irem O (pc := 86) dX2_odds_86 (nI_ne0 (by omega) (by omega)) ?_
                        have hb_ := Nat.mod_lt 100 (show 0 < d by omega)
                        rw [pk_rem (by omega) (by omega) (by omega)]
                        refine ld_if_eq O (pc := 87) ((100 % d : Nat) : Int) (nI_toInt (by omega)) 96 dX2_odds_87 (by decide) (fun c11 => ?_) (fun c11 => ?_)
                        · refine ld_iload_n O (pc := 96) 3 dX2_odds_96 rfl rfl ?_
                          refine ld_if_ne O (pc := 97) (which).toInt rfl 109 dX2_odds_97 (by decide) (fun c12 => ?_) (fun c12 => ?_)
                          · refine ld_bipush O (pc := 109) (v := nI 100) dX2_odds_109 (by decide) ?_
                            refine ld_iload O (pc := 111) 5 dX2_odds_111 rfl ?_
                            refine ld_idiv O (pc := 113) dX2_odds_113 (nI_ne0 (by omega) (by omega)) ?_
                            have hl13 : (((nI 100) / (nI d)).toInt64).toInt = ((nI 100) / (nI d)).toInt := (Int32.toInt_toInt64 _).trans rfl
                            refine ld_i2l O (pc := 114) dX2_odds_114 ?_
                            refine ld_lret E dX2_odds_115 ?_
                            refine ⟨?_, f4, f5, f6, ?_⟩
                            · have hg_ : Nat.gcd up 100 = d := ld_gcd hd1 (by first | omega | (rw [show d = 1 by omega]; exact Nat.mod_one _)) (by first | omega | (rw [show d = 1 by omega])) hd3
                              unfold ld_fOd
                              rw [if_pos (by omega)]
                              rw [← show up = ld_up h (σ 0) (σ 1) (ld_ix k) v 100 by rw [hu, show i = 100 by omega], hg_, pk_div (by omega) (by omega) (by omega), nI_l (Nat.lt_of_le_of_lt (Nat.div_le_self _ _) (by omega))]
                              first | (rw [if_pos (by omega)]; done) | (rw [if_neg (by omega)]; done)
                            · funext b_
                              by_cases h0_ : b_ = 4
                              · subst h0_; first | rfl | (simp (disch := omega) only [us_ne, us_eq]; done)
                              by_cases h1_ : b_ = 5
                              · subst h1_; first | rfl | (simp (disch := omega) only [us_ne, us_eq]; done)
                              by_cases h2_ : b_ = 6
                              · subst h2_; first | rfl | (simp (disch := omega) only [us_ne, us_eq]; done)
                              simp only [us, h0_, h1_, h2_, if_false]
                          · refine ld_iload O (pc := 100) 4 dX2_odds_100 rfl ?_
                            refine ld_iload O (pc := 102) 5 dX2_odds_102 rfl ?_
                            refine ld_idiv O (pc := 104) dX2_odds_104 (nI_ne0 (by omega) (by omega)) ?_
                            have hl14 : (((nI up) / (nI d)).toInt64).toInt = ((nI up) / (nI d)).toInt := (Int32.toInt_toInt64 _).trans rfl
                            refine ld_i2l O (pc := 105) dX2_odds_105 ?_
                            refine ld_goto O (pc := 106) 115 dX2_odds_106 (by decide) ?_
                            refine ld_lret E dX2_odds_115 ?_
                            refine ⟨?_, f4, f5, f6, ?_⟩
                            · have hg_ : Nat.gcd up 100 = d := ld_gcd hd1 (by first | omega | (rw [show d = 1 by omega]; exact Nat.mod_one _)) (by first | omega | (rw [show d = 1 by omega])) hd3
                              unfold ld_fOd
                              rw [if_pos (by omega)]
                              rw [← show up = ld_up h (σ 0) (σ 1) (ld_ix k) v 100 by rw [hu, show i = 100 by omega], hg_, pk_div (by omega) (by omega) (by omega), nI_l (Nat.lt_of_le_of_lt (Nat.div_le_self _ _) (by omega))]
                              first | (rw [if_pos (by omega)]; done) | (rw [if_neg (by omega)]; done)
                            · funext b_
                              by_cases h0_ : b_ = 4
                              · subst h0_; first | rfl | (simp (disch := omega) only [us_ne, us_eq]; done)
                              by_cases h1_ : b_ = 5
                              · subst h1_; first | rfl | (simp (disch := omega) only [us_ne, us_eq]; done)
                              by_cases h2_ : b_ = 6
                              · subst h2_; first | rfl | (simp (disch := omega) only [us_ne, us_eq]; done)
                              simp only [us, h0_, h1_, h2_, if_false]
                        · refine ld_iinc O (pc := 90) [(5, .int (nI (d - 1))), (0, .ref (ad 0)), (1, .int (nI (ld_ix k))), (2, .int v), (3, .int which), (4, .int (nI up))] 5 (v := nI (d - 1)) dX2_odds_90 rfl (ld_dec hd1) (by decide) rfl ?_
                          refine ld_goto O (pc := 93) 68 dX2_odds_93 (by decide) ?_
                          refine ld_less O [1, 2, 3, 4, 5, 0] (lv2 := [(0, .ref (ad 0)), (1, .int (nI (ld_ix k))), (2, .int v), (3, .int which), (4, .int (nI up)), (5, .int (nI (d - 1)))]) rfl ?_
                          exact ih68 (d - 1) (by omega) (by omega) (by omega) (ld_gstep hd3 (fun z => c11 (by omega)))
                refine ld_less O [1, 2, 3, 4, 5, 0] (lv2 := [(0, .ref (ad 0)), (1, .int (nI (ld_ix k))), (2, .int v), (3, .int which), (4, .int (nI up)), (5, .int (nI 100))]) rfl ?_
                exact L68 _ 100 (Nat.lt_succ_self _) (by decide) (Nat.le_refl _) (fun e h1 h2 => absurd h1 (by omega))
              · refine ld_aload_n O (pc := 41) 0 dX2_odds_41 rfl rfl ?_
                refine ld_g_LD_now O (pc := 42) ld_w15 dX2_odds_42 ?_
                refine ld_iload_n O (pc := 45) 1 dX2_odds_45 rfl rfl ?_
                refine ld_iload O (pc := 46) 5 dX2_odds_46 rfl ?_
                refine ld_callVNi O (pc := 48) (As := [.int (nI (ld_ix k)), .int (nI i)]) (st := []) ld_recv1 (c_X1_dealtTo_0 l ad (us (us (us σ 4 f4) 5 f5) 6 f6) h hh h8 (ld_ix k) (by omega) (nI i)) ld_mw_X1_dealtTo (List.mem_of_getElem? (i := 20) rfl) rfl rfl ⟨by decide, by decide⟩ (Nat.le_of_ble_eq_true rfl) dX2_odds_48 (fun r_p48 σ_p48 h_p48 => ?_)
                obtain ⟨f4_p48, f5_p48, f6_p48, rfl, hσ_p48⟩ := h_p48
                rw [hσ_p48]
                show K (us (us (us (us (us (us σ 4 f4) 5 f5) 6 f6) 4 f4_p48) 5 f5_p48) 6 f6_p48) [(0, .ref (ad 0)), (1, .int (nI (ld_ix k))), (2, .int v), (3, .int which), (4, .int (nI up)), (5, .int (nI i))] [.int (ld_dt h (σ 0) (σ 1) (nI i) (ld_ix k))] 51
                refine ld_iload_n O (pc := 51) 2 dX2_odds_51 rfl rfl ?_
                refine ld_icmp_lt O (pc := 52) (ld_dt h (σ 0) (σ 1) (nI i) (ld_ix k)).toInt (v).toInt rfl rfl 58 dX2_odds_52 (by decide) (fun c15 => ?_) (fun c15 => ?_)
                · refine ld_iincN O (pc := 58) [(5, .int (nI (i + 1))), (0, .ref (ad 0)), (1, .int (nI (ld_ix k))), (2, .int v), (3, .int which), (4, .int (nI up))] 5 dX2_odds_58 rfl (by decide) rfl ?_
                  refine ld_goto O (pc := 61) 34 dX2_odds_61 (by decide) ?_
                  refine ld_less O [1, 2, 3, 4, 5, 0] (lv2 := [(0, .ref (ad 0)), (1, .int (nI (ld_ix k))), (2, .int v), (3, .int which), (4, .int (nI up)), (5, .int (nI (i + 1)))]) rfl ?_
                  have hs16 : us (us (us (us (us (us σ 4 f4) 5 f5) 6 f6) 4 f4_p48) 5 f5_p48) 6 f6_p48 = us (us (us σ 4 f4_p48) 5 f5_p48) 6 f6_p48 := by
                    funext b_
                    by_cases h0_ : b_ = 4
                    · subst h0_; rfl
                    by_cases h1_ : b_ = 5
                    · subst h1_; rfl
                    by_cases h2_ : b_ = 6
                    · subst h2_; rfl
                    simp only [us, h0_, h1_, h2_, if_false]
                  refine ld_cv hs16 ?_
                  exact ih34 (i + 1) up f4_p48 f5_p48 f6_p48 (by omega) (by omega) (ld_ct_f hu (fun z => by have z2 := of_decide_eq_true z; omega)) (by omega)
                · refine ld_iincN O (pc := 55) [(4, .int (nI (up + 1))), (0, .ref (ad 0)), (1, .int (nI (ld_ix k))), (2, .int v), (3, .int which), (5, .int (nI i))] 4 dX2_odds_55 rfl (by decide) rfl ?_
                  refine ld_iincN O (pc := 58) [(5, .int (nI (i + 1))), (4, .int (nI (up + 1))), (0, .ref (ad 0)), (1, .int (nI (ld_ix k))), (2, .int v), (3, .int which)] 5 dX2_odds_58 rfl (by decide) rfl ?_
                  refine ld_goto O (pc := 61) 34 dX2_odds_61 (by decide) ?_
                  refine ld_less O [2, 3, 4, 5, 1, 0] (lv2 := [(0, .ref (ad 0)), (1, .int (nI (ld_ix k))), (2, .int v), (3, .int which), (4, .int (nI (up + 1))), (5, .int (nI (i + 1)))]) rfl ?_
                  have hs17 : us (us (us (us (us (us σ 4 f4) 5 f5) 6 f6) 4 f4_p48) 5 f5_p48) 6 f6_p48 = us (us (us σ 4 f4_p48) 5 f5_p48) 6 f6_p48 := by
                    funext b_
                    by_cases h0_ : b_ = 4
                    · subst h0_; rfl
                    by_cases h1_ : b_ = 5
                    · subst h1_; rfl
                    by_cases h2_ : b_ = 6
                    · subst h2_; rfl
                    simp only [us, h0_, h1_, h2_, if_false]
                  refine ld_cv hs17 ?_
                  exact ih34 (i + 1) (up + 1) f4_p48 f5_p48 f6_p48 (by omega) (by omega) (ld_ct_t hu (decide_eq_true (by omega))) (by omega)
          refine ld_less O [2, 3, 4, 5, 1, 0] (lv2 := [(0, .ref (ad 0)), (1, .int (nI (ld_ix k))), (2, .int v), (3, .int which), (4, .int (nI 0)), (5, .int (nI 0))]) rfl ?_
          have hs18 : σ = us (us (us σ 4 (σ 4)) 5 (σ 5)) 6 (σ 6) := by
            funext b_
            by_cases h0_ : b_ = 4
            · subst h0_; rfl
            by_cases h1_ : b_ = 5
            · subst h1_; rfl
            by_cases h2_ : b_ = 6
            · subst h2_; rfl
            simp only [us, h0_, h1_, h2_, if_false]
          refine ld_cv hs18 ?_
          exact L34 _ 0 0 (σ 4) (σ 5) (σ 6) (Nat.lt_succ_self _) (Nat.zero_le _) rfl (Nat.le_refl _)
        · refine ld_ldc2 O (pc := 24) (v := (-9223372036854775808 : Int64)) dX2_odds_24 ld_w492 ?_
          refine ld_lret E dX2_odds_27 ?_
          refine ⟨?_, σ 4, σ 5, σ 6, ?_⟩
          · unfold ld_fOd
            rw [if_neg (by omega)]
          · funext b_
            by_cases h0_ : b_ = 5
            · subst h0_; first | rfl | (simp (disch := omega) only [us_ne, us_eq]; done)
            by_cases h1_ : b_ = 6
            · subst h1_; first | rfl | (simp (disch := omega) only [us_ne, us_eq]; done)
            by_cases h2_ : b_ = 4
            · subst h2_; first | rfl | (simp (disch := omega) only [us_ne, us_eq]; done)
            simp only [us, h0_, h1_, h2_, if_false]
