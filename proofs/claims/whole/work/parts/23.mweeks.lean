theorem ld_ofB {x : Int32} {n : Nat} (h0 : 0 ≤ x.toInt) (h1 : x.toInt ≤ (n : Int)) : ∃ j : Nat, j ≤ n ∧ x = nI j ∧ (j : Int) = x.toInt := by
  obtain ⟨a, b, c⟩ := ld_ofIx (k := x) (h := n + 1) (by omega)
  exact ⟨ld_ix x, by omega, a, c⟩
def ld_bd (h : Nat) (kd t s p : Nat → Int32) (T : Nat) : Prop := ∀ x, x < h → ((0 ≤ (kd x).toInt ∧ (kd x).toInt ≤ 2) ∧ 0 ≤ (t x).toInt ∧ (t x).toInt ≤ 9) ∧ (0 ≤ (p x).toInt ∧ (p x).toInt ≤ (T : Int)) ∧ 0 ≤ (s x).toInt ∧ (s x).toInt ≤ 5000 * (T : Int) + 9
theorem ld_bd.kt {h : Nat} {kd t s p : Nat → Int32} {T : Nat} (b : ld_bd h kd t s p T) : ld_kt h kd t := fun x hx => (b x hx).1
theorem ld_dt_b {h : Nat} {kd t : Nat → Int32} (hk : ld_kt h kd t) (h8 : h ≤ 8) {cr : Nat} (hc : cr ≤ 100) {k : Nat} (hkh : k < h) : 0 ≤ (ld_dt h kd t (nI cr) k).toInt ∧ (ld_dt h kd t (nI cr) k).toInt ≤ 2001 := by
  have qb : 0 ≤ (ld_q (l_sum (ld_ss kd t) h) (nI cr) (ld_ss kd t) k).toInt ∧ (ld_q (l_sum (ld_ss kd t) h) (nI cr) (ld_ss kd t) k).toInt ≤ 2000 := by
    unfold ld_q
    by_cases e : (l_sum (ld_ss kd t) h).toInt ≤ 0
    · rw [if_pos e]; decide
    · rw [if_neg e]
      have sb := ld_so_b hk h8 (Nat.le_refl h)
      have s1 := ld_sr_b (hk k hkh)
      obtain ⟨A, hA1, hA2, hA3⟩ := ld_ofB (n := 200) sb.1 (by omega)
      obtain ⟨S, hS1, hS2, hS3⟩ := ld_ofB (x := ld_ss kd t k) (n := 20) (by unfold ld_ss; omega) (by unfold ld_ss; omega)
      rw [hA2, hS2, pk_mul, pk_div (by have := Nat.mul_le_mul hc hS1; omega) (by omega) (by omega), nI_toInt (Nat.lt_of_le_of_lt (Nat.div_le_self _ _) (by have := Nat.mul_le_mul hc hS1; omega))]
      have m1 := Nat.mul_le_mul hc hS1
      have m2 := Nat.div_le_self (cr * S) A
      generalize cr * S / A = w at m2 ⊢
      omega
  unfold ld_dt ld_dl
  by_cases e : ((ld_ah (ld_r (l_sum (ld_ss kd t) h) (nI cr) (ld_ss kd t)) h k : Nat) : Int) < (ld_lf (l_sum (ld_ss kd t) h) (nI cr) (ld_ss kd t) h).toInt
  · rw [if_pos e, fb_addI (by rw [ld_n1]; omega) (by rw [ld_n1]; omega), ld_n1]; omega
  · rw [if_neg e]; omega
theorem ld_p4 {p : Int32} {T : Nat} (hT : T ≤ 9000) (h : 0 ≤ p.toInt ∧ p.toInt ≤ (T : Int)) : 0 ≤ (p / nI 4).toInt ∧ (p / nI 4).toInt ≤ 2250 := by
  obtain ⟨j, h1, h2, h3⟩ := ld_ofB h.1 h.2
  rw [h2, pk_div (by omega) (by decide) (by decide), nI_toInt (by omega)]
  omega
theorem ld_wg_b {h : Nat} {kd t s p : Nat → Int32} {T cr : Nat} (b : ld_bd h kd t s p T) (h8 : h ≤ 8) (hT : T ≤ 9000) (hc : cr ≤ 100) {x : Nat} (hx : x < h) : (ld_wg h (nI cr) kd t s p x).toInt = (s x).toInt + ((ld_dt h kd t (nI cr) x).toInt + (p x / nI 4).toInt) ∧ 0 ≤ (ld_wg h (nI cr) kd t s p x).toInt ∧ (ld_wg h (nI cr) kd t s p x).toInt ≤ (s x).toInt + 4251 := by
  have d := ld_dt_b b.kt h8 hc hx
  have q := ld_p4 hT (b x hx).2.1
  have z := (b x hx).2.2
  have e : (ld_wg h (nI cr) kd t s p x).toInt = (s x).toInt + ((ld_dt h kd t (nI cr) x).toInt + (p x / nI 4).toInt) := by
    unfold ld_wg
    have e1 : (ld_dt h kd t (nI cr) x + p x / nI 4).toInt = (ld_dt h kd t (nI cr) x).toInt + (p x / nI 4).toInt := fb_addI (by omega) (by omega)
    rw [fb_addI (by rw [e1]; omega) (by rw [e1]; omega), e1]
  exact ⟨e, by omega, by omega⟩
theorem ld_n9 : (nI 9).toInt = 9 := by decide
theorem ld_n0 : (nI 0).toInt = 0 := by decide
theorem ld_p1 {x : Int32} (h : x.toInt ≤ 2000000000) : (x + nI 1).toInt = x.toInt + 1 := by
  have := fb_rng x
  rw [fb_addI (by rw [ld_n1]; omega) (by rw [ld_n1]; omega), ld_n1]
theorem ld_s1 {x : Int32} (h : -2000000000 ≤ x.toInt) : (x - nI 1).toInt = x.toInt - 1 := by
  have := fb_rng x
  rw [fb_subI (by rw [ld_n1]; omega) (by rw [ld_n1]; omega), ld_n1]
theorem ld_bd_wk {h : Nat} {kd t s p : Nat → Int32} {T cr : Nat} (b : ld_bd h kd t s p T) (h8 : h ≤ 8) (hT : T ≤ 9000) (hc : cr ≤ 100) : ld_bd h kd (ld_wT h (nI cr) kd t s p) (ld_wS h (nI cr) kd t s p) (ld_wP h (nI cr) kd t s p) (T + 1) := by
  intro x hx
  obtain ⟨g1, g2, g3⟩ := ld_wg_b b h8 hT hc hx
  obtain ⟨⟨b1, b2⟩, b3, b4⟩ := b x hx
  have e1 := ld_p1 (x := t x) (by omega)
  have e2 := ld_s1 (x := t x) (by omega)
  refine ⟨⟨b1, ?_⟩, ?_, ?_⟩
  · unfold ld_wT
    by_cases g : (ld_wg h (nI cr) kd t s p x).toInt ≤ 0
    · rw [if_pos g]
      by_cases q : nI 9 < t x + nI 1
      · rw [if_pos q]; decide
      · rw [if_neg q, e1]
        have q2 : ¬ (nI 9).toInt < (t x + nI 1).toInt := fun z => q (Int32.lt_iff_toInt_lt.mpr z)
        rw [ld_n9, e1] at q2
        omega
    · rw [if_neg g]
      by_cases q : t x - nI 1 < nI 0
      · rw [if_pos q]; decide
      · rw [if_neg q, e2]
        have q2 : ¬ (t x - nI 1).toInt < (nI 0).toInt := fun z => q (Int32.lt_iff_toInt_lt.mpr z)
        rw [ld_n0, e2] at q2
        omega
  · unfold ld_wP
    by_cases g : (ld_wg h (nI cr) kd t s p x).toInt ≤ 0
    · rw [if_pos g]; omega
    · rw [if_neg g, ld_p1 (by omega)]; omega
  · unfold ld_wS
    by_cases g : (ld_wg h (nI cr) kd t s p x).toInt ≤ 0
    · rw [if_pos g]; omega
    · rw [if_neg g, ld_s1 (by omega)]; omega
theorem ld_bd_cong {h : Nat} {kd : Nat → Int32} {V U : ld_Tr} {T : Nat} (e : ld_eqv h V U) (b : ld_bd h kd U.1 U.2.1 U.2.2 T) : ld_bd h kd V.1 V.2.1 V.2.2 T := by
  intro x hx
  rw [(e x hx).1, (e x hx).2.1, (e x hx).2.2]
  exact b x hx
theorem ld_bd_mono {h : Nat} {kd t s p : Nat → Int32} {T T2 : Nat} (b : ld_bd h kd t s p T) (hT : T ≤ T2) : ld_bd h kd t s p T2 := by
  intro x hx
  obtain ⟨b1, b3, b4⟩ := b x hx
  exact ⟨b1, by omega, by omega⟩
theorem ld_bd_wks {h : Nat} {kd : Nat → Int32} {V : ld_Tr} {T cr : Nat} (b : ld_bd h kd V.1 V.2.1 V.2.2 T) (h8 : h ≤ 8) (hc : cr ≤ 100) : ∀ {n : Nat}, T + n ≤ 9000 → ld_bd h kd (ld_wks h (nI cr) kd V n).1 (ld_wks h (nI cr) kd V n).2.1 (ld_wks h (nI cr) kd V n).2.2 (T + n)
  | 0, _ => b
  | n + 1, hn => ld_bd_wk (T := T + n) (ld_bd_wks b h8 hc (n := n) (by omega)) h8 (by omega) hc
/-- temper as the model has it -/
theorem ld_m1 : ((-1 : Int32)).toInt = -1 := by decide
theorem ld_mT1 {h : Nat} {c : Int32} {kd t s p : Nat → Int32} {x : Nat} (g : ¬ (ld_wg h c kd t s p x).toInt ≤ 0) (hi : 0 ≤ (t x + (-1 : Int32)).toInt) : t x + (-1 : Int32) = ld_wT h c kd t s p x := by
  have e : t x + (-1 : Int32) = t x - nI 1 := by rw [Int32.sub_eq_add_neg, show -(nI 1) = (-1 : Int32) by decide]
  unfold ld_wT
  rw [if_neg g, e, if_neg]
  rw [e] at hi
  intro z
  have z2 := Int32.lt_iff_toInt_lt.mp z
  rw [ld_n0] at z2
  omega
theorem ld_mT2 {h : Nat} {c : Int32} {kd t s p : Nat → Int32} {x : Nat} (g : ¬ (ld_wg h c kd t s p x).toInt ≤ 0) (hb : 0 ≤ (t x).toInt ∧ (t x).toInt ≤ 9) (hi : ¬ (0 ≤ (t x + (-1 : Int32)).toInt ∧ (t x + (-1 : Int32)).toInt ≤ 9)) : t x = ld_wT h c kd t s p x := by
  have e : (t x + (-1 : Int32)).toInt = (t x).toInt - 1 := by rw [fb_addI (by rw [ld_m1]; omega) (by rw [ld_m1]; omega), ld_m1]; omega
  have e2 := ld_s1 (x := t x) (by omega)
  unfold ld_wT
  rw [if_neg g, if_pos (Int32.lt_iff_toInt_lt.mpr (by rw [ld_n0, e2]; omega))]
  exact Int32.toInt_inj.mp (by rw [ld_n0]; omega)
theorem ld_mT3 {h : Nat} {c : Int32} {kd t s p : Nat → Int32} {x : Nat} (g : (ld_wg h c kd t s p x).toInt ≤ 0) (hi : (t x + nI 1).toInt ≤ 9) : t x + nI 1 = ld_wT h c kd t s p x := by
  unfold ld_wT
  rw [if_pos g, if_neg]
  intro z
  have z2 := Int32.lt_iff_toInt_lt.mp z
  rw [ld_n9] at z2
  omega
theorem ld_mT4 {h : Nat} {c : Int32} {kd t s p : Nat → Int32} {x : Nat} (g : (ld_wg h c kd t s p x).toInt ≤ 0) (hb : 0 ≤ (t x).toInt ∧ (t x).toInt ≤ 9) (hi : ¬ (0 ≤ (t x + nI 1).toInt ∧ (t x + nI 1).toInt ≤ 9)) : t x = ld_wT h c kd t s p x := by
  have e := ld_p1 (x := t x) (by omega)
  unfold ld_wT
  rw [if_pos g, if_pos (Int32.lt_iff_toInt_lt.mpr (by rw [ld_n9, e]; omega))]
  exact Int32.toInt_inj.mp (by rw [ld_n9]; omega)
theorem ld_bd_gv {h : Nat} {kd t s p : Nat → Int32} {T : Nat} (b : ld_bd h kd t s p T) (hT : T ≤ 9000) {k : Nat} (hk : k < h) (hs : 0 < (s k).toInt) : ld_bd h kd t (ld_gv h s k) p (T + 1) := by
  have e1 : ∀ x, x < h → 0 ≤ (upd s k (s k - nI 1) x).toInt ∧ (upd s k (s k - nI 1) x).toInt ≤ 5000 * (T : Int) + 9 := fun x hx => by
    have bx := (b x hx).2.2
    by_cases q : x = k
    · subst q; rw [pk_us, ld_s1 (by omega)]; omega
    · rw [pk_un q]; omega
  intro x hx
  obtain ⟨b1, b3, b4⟩ := b x hx
  refine ⟨b1, by omega, ?_⟩
  unfold ld_gv
  have e2 := e1 x hx
  have e3 := e1 _ (ld_nb_lt hk)
  by_cases q : x = ld_nb h k
  · rw [q, pk_us, ld_p1 (by omega)]; omega
  · rw [pk_un q]; omega
set_option maxHeartbeats 4000000 in
set_option maxRecDepth 100000 in
theorem c_X3_passes (l : Launch) (ad : Nat → Nat) (σ : ld_St) (h : Nat) (hh : σ 141 0 = nI h) (h8 : h ≤ 8) (cr : Nat) (hcr : σ 142 0 = nI cr) (c99 : cr ≤ 99) (T : Nat) (hT : T ≤ 8999) (hbd : ld_bd h (σ 20) (σ 21) (σ 22) (σ 23) T) : ld_Ctr l yX3_passes cX3_passes 4 none (3, 74) [.ref (ad 8)] ad σ (ld_V (fun (σ2 : ld_St) => ∃ ft fs fp fd fw : Nat → Int32, σ2 = us (us (us (us (us σ 21 ft) 22 fs) 23 fp) 27 fd) 143 fw ∧ (∀ x, x < h → ft x = ld_wT h (nI cr) (σ 20) (σ 21) (σ 22) (σ 23) x) ∧ (∀ x, x < h → fs x = ld_wS h (nI cr) (σ 20) (σ 21) (σ 22) (σ 23) x) ∧ (∀ x, x < h → fp x = ld_wP h (nI cr) (σ 20) (σ 21) (σ 22) (σ 23) x) ∧ fw 0 = σ 143 0 + nI 1)) := by
  refine ld_entry (by decide +kernel) (Nat.le_of_ble_eq_true rfl) (fun K O E => ?_)
  have O : ld_Ok l K ad cX3_passes 4 RX3 (ld_rm (3, 74)) := O
  have hkt := hbd.kt
  show K σ [(0, .ref (ad 8))] [] 0
  refine ld_iconst O (pc := 0) (v := nI 0) dX3_passes_0 (by decide) ?_
  refine ld_istore_n O (pc := 1) [(1, .int (nI 0)), (0, .ref (ad 8))] dX3_passes_1 rfl (by decide) rfl ?_
  have L2 : ∀ (m_2 : Nat) (i : Nat) (fd : Nat → Int32), h - i < m_2 → (i ≤ h) → (∀ x, x < i → fd x = ld_dt h (σ 20) (σ 21) (nI cr) x + σ 23 x / nI 4) → K (us σ 27 fd) [(0, .ref (ad 8)), (1, .int (nI i))] [] 2 := by
    intro m_2
    induction m_2 with
    | zero => intro i fd hm_; exact absurd hm_ (Nat.not_lt_zero _)
    | succ m_2 ih2 =>
      intro i fd hm_2 hi hd
      refine ld_iload_n O (pc := 2) 1 dX3_passes_2 rfl rfl ?_
      refine ld_aload_n O (pc := 3) 0 dX3_passes_3 rfl rfl ?_
      refine ld_g_M_houses O (pc := 4) (v := nI h) ld_w119 hh dX3_passes_4 ?_
      refine ld_icmp_ge O (pc := 7) ((i : Nat) : Int) ((h : Nat) : Int) (nI_toInt (by omega)) (nI_toInt (by omega)) 40 dX3_passes_7 (by decide) (fun c1 => ?_) (fun c1 => ?_)
      · refine ld_iconst O (pc := 40) (v := nI 0) dX3_passes_40 (by decide) ?_
        refine ld_istore_n O (pc := 41) [(1, .int (nI 0)), (0, .ref (ad 8))] dX3_passes_41 rfl (by decide) rfl ?_
        have L42 : ∀ (m_42 : Nat) (i2 : Nat) (ft : Nat → Int32) (fs : Nat → Int32) (fp : Nat → Int32), h - i2 < m_42 → (i2 ≤ h) → (∀ x, x < i2 → ft x = ld_wT h (nI cr) (σ 20) (σ 21) (σ 22) (σ 23) x) → (∀ x, i2 ≤ x → x < h → ft x = σ 21 x) → (∀ x, x < i2 → fs x = ld_wS h (nI cr) (σ 20) (σ 21) (σ 22) (σ 23) x) → (∀ x, i2 ≤ x → x < h → fs x = σ 22 x) → (∀ x, x < i2 → fp x = ld_wP h (nI cr) (σ 20) (σ 21) (σ 22) (σ 23) x) → (∀ x, i2 ≤ x → x < h → fp x = σ 23 x) → K (us (us (us (us σ 21 ft) 22 fs) 23 fp) 27 fd) [(0, .ref (ad 8)), (1, .int (nI i2))] [] 42 := by
          intro m_42
          induction m_42 with
          | zero => intro i2 ft fs fp hm_; exact absurd hm_ (Nat.not_lt_zero _)
          | succ m_42 ih42 =>
            intro i2 ft fs fp hm_42 hi2 ht ht2 hs hs2 hp hp2
            refine ld_iload_n O (pc := 42) 1 dX3_passes_42 rfl rfl ?_
            refine ld_aload_n O (pc := 43) 0 dX3_passes_43 rfl rfl ?_
            refine ld_g_M_houses O (pc := 44) (v := nI h) ld_w119 hh dX3_passes_44 ?_
            refine ld_icmp_ge O (pc := 47) ((i2 : Nat) : Int) ((h : Nat) : Int) (nI_toInt (by omega)) (nI_toInt (by omega)) 167 dX3_passes_47 (by decide) (fun c2 => ?_) (fun c2 => ?_)
            · refine ld_aload_n O (pc := 167) 0 dX3_passes_167 rfl rfl ?_
              refine ld_dup O (pc := 168) dX3_passes_168 rfl ?_
              refine ld_g_M_weekNow O (pc := 169) (v := σ 143 0) ld_w122 rfl dX3_passes_169 ?_
              refine ld_iconst O (pc := 172) (v := nI 1) dX3_passes_172 (by decide) ?_
              refine ld_iadd O (pc := 173) dX3_passes_173 ?_
              refine ld_p_M_weekNow O (pc := 174) ld_w122 dX3_passes_174 ?_
              refine ld_vret E dX3_passes_177 ?_
              have ei : i2 = h := by omega
              rw [ei] at ht hs hp
              refine ⟨ft, fs, fp, fd, fun _ => σ 143 0 + nI 1, ?_, ht, hs, hp, rfl⟩
              funext b_
              by_cases h0_ : b_ = 21
              · subst h0_; exact ((us_ne _ _ (by decide)).trans ((us_ne _ _ (by decide)).trans ((us_ne _ _ (by decide)).trans ((us_ne _ _ (by decide)).trans (us_eq _ _ _))))).trans ((us_ne _ _ (by decide)).trans ((us_ne _ _ (by decide)).trans ((us_ne _ _ (by decide)).trans ((us_ne _ _ (by decide)).trans (us_eq _ _ _))))).symm
              by_cases h1_ : b_ = 22
              · subst h1_; exact ((us_ne _ _ (by decide)).trans ((us_ne _ _ (by decide)).trans ((us_ne _ _ (by decide)).trans (us_eq _ _ _)))).trans ((us_ne _ _ (by decide)).trans ((us_ne _ _ (by decide)).trans ((us_ne _ _ (by decide)).trans (us_eq _ _ _)))).symm
              by_cases h2_ : b_ = 23
              · subst h2_; exact ((us_ne _ _ (by decide)).trans ((us_ne _ _ (by decide)).trans (us_eq _ _ _))).trans ((us_ne _ _ (by decide)).trans ((us_ne _ _ (by decide)).trans (us_eq _ _ _))).symm
              by_cases h3_ : b_ = 27
              · subst h3_; exact ((us_ne _ _ (by decide)).trans (us_eq _ _ _)).trans ((us_ne _ _ (by decide)).trans (us_eq _ _ _)).symm
              by_cases h4_ : b_ = 143
              · subst h4_; exact (us_eq _ _ _).trans (us_eq _ _ _).symm
              simp only [us, h0_, h1_, h2_, h3_, h4_, if_false]
            · refine ld_aload_n O (pc := 50) 0 dX3_passes_50 rfl rfl ?_
              refine ld_g_M_stockOf O (pc := 51) ld_w53 dX3_passes_51 ?_
              refine ld_iload_n O (pc := 54) 1 dX3_passes_54 rfl rfl ?_
              refine ld_dup2 O (pc := 55) dX3_passes_55 rfl rfl ?_
              refine ld_iald O (pc := 56) 22 i2 (v := fs i2) rfl (by decide) (show i2 < 8 by omega) rfl dX3_passes_56 ?_
              refine ld_aload_n O (pc := 57) 0 dX3_passes_57 rfl rfl ?_
              refine ld_g_M_dealtNow O (pc := 58) ld_w58 dX3_passes_58 ?_
              refine ld_iload_n O (pc := 61) 1 dX3_passes_61 rfl rfl ?_
              refine ld_iald O (pc := 62) 27 i2 (v := fd i2) rfl (by decide) (show i2 < 8 by omega) rfl dX3_passes_62 ?_
              refine ld_iadd O (pc := 63) dX3_passes_63 ?_
              refine ld_iast O (pc := 64) 22 i2 rfl (by decide) (show i2 < 8 by omega) dX3_passes_64 ?_
              refine ld_aload_n O (pc := 65) 0 dX3_passes_65 rfl rfl ?_
              refine ld_g_M_stockOf O (pc := 66) ld_w53 dX3_passes_66 ?_
              refine ld_iload_n O (pc := 69) 1 dX3_passes_69 rfl rfl ?_
              refine ld_iald O (pc := 70) 22 i2 (v := (fs i2) + (fd i2)) rfl (by decide) (show i2 < 8 by omega) (by show (upd (fs) i2 ((fs i2) + (fd i2))) i2 = _; exact pk_us) dX3_passes_70 ?_
              refine ld_if_le O (pc := 71) ((fs i2) + (fd i2)).toInt rfl 78 dX3_passes_71 (by decide) (fun c3 => ?_) (fun c3 => ?_)
              · refine ld_iconst O (pc := 78) (v := nI 0) dX3_passes_78 (by decide) ?_
                refine ld_istore_n O (pc := 79) [(2, .int (nI 0)), (0, .ref (ad 8)), (1, .int (nI i2))] dX3_passes_79 rfl (by decide) rfl ?_
                refine ld_aload_n O (pc := 80) 1 dX3_passes_80 rfl rfl ?_
                refine ld_g_M_temperOf O (pc := 81) ld_w52 dX3_passes_81 ?_
                refine ld_iload_n O (pc := 84) 2 dX3_passes_84 rfl rfl ?_
                refine ld_iald O (pc := 85) 21 i2 (v := ft i2) rfl (by decide) (show i2 < 8 by omega) rfl dX3_passes_85 ?_
                refine ld_iload_n O (pc := 86) 0 dX3_passes_86 rfl rfl ?_
                refine ld_if_eq O (pc := 87) 0 (by decide) 94 dX3_passes_87 (by decide) (fun _ => ?_) (fun z => absurd z (by decide))
                refine ld_iconst O (pc := 94) (v := nI 1) dX3_passes_94 (by decide) ?_
                refine ld_iadd O (pc := 95) dX3_passes_95 ?_
                refine ld_istore_n O (pc := 96) [(3, .int ((ft i2) + (nI 1))), (2, .int (nI 0)), (0, .ref (ad 8)), (1, .int (nI i2))] dX3_passes_96 rfl (by decide) rfl ?_
                refine ld_aload_n O (pc := 97) 2 dX3_passes_97 rfl rfl ?_
                refine ld_g_M_stockOf O (pc := 98) ld_w53 dX3_passes_98 ?_
                refine ld_iload_n O (pc := 101) 3 dX3_passes_101 rfl rfl ?_
                refine ld_dup2 O (pc := 102) dX3_passes_102 rfl rfl ?_
                refine ld_iald O (pc := 103) 22 i2 (v := (fs i2) + (fd i2)) rfl (by decide) (show i2 < 8 by omega) (by show (upd (fs) i2 ((fs i2) + (fd i2))) i2 = _; exact pk_us) dX3_passes_103 ?_
                refine ld_iload_n O (pc := 104) 1 dX3_passes_104 rfl rfl ?_
                refine ld_if_eq O (pc := 105) 0 (by decide) 112 dX3_passes_105 (by decide) (fun _ => ?_) (fun z => absurd z (by decide))
                refine ld_iconst O (pc := 112) (v := nI 0) dX3_passes_112 (by decide) ?_
                refine ld_isub O (pc := 113) dX3_passes_113 ?_
                refine ld_iast O (pc := 114) 22 i2 rfl (by decide) (show i2 < 8 by omega) dX3_passes_114 ?_
                refine ld_aload_n O (pc := 115) 2 dX3_passes_115 rfl rfl ?_
                refine ld_g_M_pipsOf O (pc := 116) ld_w54 dX3_passes_116 ?_
                refine ld_iload_n O (pc := 119) 3 dX3_passes_119 rfl rfl ?_
                refine ld_dup2 O (pc := 120) dX3_passes_120 rfl rfl ?_
                refine ld_iald O (pc := 121) 23 i2 (v := fp i2) rfl (by decide) (show i2 < 8 by omega) rfl dX3_passes_121 ?_
                refine ld_iload_n O (pc := 122) 1 dX3_passes_122 rfl rfl ?_
                refine ld_if_eq O (pc := 123) 0 (by decide) 130 dX3_passes_123 (by decide) (fun _ => ?_) (fun z => absurd z (by decide))
                refine ld_iconst O (pc := 130) (v := nI 0) dX3_passes_130 (by decide) ?_
                refine ld_iadd O (pc := 131) dX3_passes_131 ?_
                refine ld_iast O (pc := 132) 23 i2 rfl (by decide) (show i2 < 8 by omega) dX3_passes_132 ?_
                refine ld_aload_n O (pc := 133) 2 dX3_passes_133 rfl rfl ?_
                refine ld_g_M_temperOf O (pc := 134) ld_w52 dX3_passes_134 ?_
                refine ld_iload_n O (pc := 137) 3 dX3_passes_137 rfl rfl ?_
                refine ld_iload_n O (pc := 138) 0 dX3_passes_138 rfl rfl ?_
                have hl7 : (((ft i2) + (nI 1)).toInt64).toInt = ((ft i2) + (nI 1)).toInt := (Int32.toInt_toInt64 _).trans rfl
                refine ld_i2l O (pc := 139) dX3_passes_139 ?_
                refine ld_lconst O (pc := 140) (v := (0 : Int64)) dX3_passes_140 (by decide) ?_
                refine ld_ldc2 O (pc := 141) (v := (9 : Int64)) dX3_passes_141 ld_w159 ?_
                refine ld_callSi O (pc := 144) (As := [.long (((ft i2) + (nI 1)).toInt64), .long (0 : Int64), .long (9 : Int64)]) (st := [.int (nI i2), .ref (ad (9 + 21))]) (c_X3_in l ad (us (us (us (us (us (us (us σ 21 ft) 22 fs) 23 fp) 27 fd) 22 (upd (fs) i2 ((fs i2) + (fd i2)))) 22 (upd (upd (fs) i2 ((fs i2) + (fd i2))) i2 (((fs i2) + (fd i2)) - (nI 0)))) 23 (upd (fp) i2 ((fp i2) + (nI 0)))) (((ft i2) + (nI 1)).toInt64) (0 : Int64) (9 : Int64) (((ft i2) + (nI 1)).toInt) 0 (9) hl7 (by decide) (by decide)) ld_mw_X3_in ld_w128 rfl rfl ⟨by decide, by decide⟩ (Nat.le_of_ble_eq_true rfl) dX3_passes_144 (fun r_p144 σ_p144 h_p144 => ?_)
                obtain ⟨rfl, hσ_p144⟩ := h_p144
                rw [hσ_p144]
                show K (us (us (us (us (us (us (us σ 21 ft) 22 fs) 23 fp) 27 fd) 22 (upd (fs) i2 ((fs i2) + (fd i2)))) 22 (upd (upd (fs) i2 ((fs i2) + (fd i2))) i2 (((fs i2) + (fd i2)) - (nI 0)))) 23 (upd (fp) i2 ((fp i2) + (nI 0)))) [(3, .int ((ft i2) + (nI 1))), (2, .int (nI 0)), (0, .ref (ad 8)), (1, .int (nI i2))] [.int (ld_b (0 ≤ ((ft i2) + (nI 1)).toInt ∧ ((ft i2) + (nI 1)).toInt ≤ (9))), .int (nI i2), .ref (ad (9 + 21))] 147
                refine ld_ifb_eq O (pc := 147) 154 dX3_passes_147 (by decide) (fun c8 => ?_) (fun c8 => ?_)
                · refine ld_aload_n O (pc := 154) 2 dX3_passes_154 rfl rfl ?_
                  refine ld_g_M_temperOf O (pc := 155) ld_w52 dX3_passes_155 ?_
                  refine ld_iload_n O (pc := 158) 3 dX3_passes_158 rfl rfl ?_
                  refine ld_iald O (pc := 159) 21 i2 (v := ft i2) rfl (by decide) (show i2 < 8 by omega) rfl dX3_passes_159 ?_
                  refine ld_iast O (pc := 160) 21 i2 rfl (by decide) (show i2 < 8 by omega) dX3_passes_160 ?_
                  have hg_ : fs i2 + fd i2 = ld_wg h (nI cr) (σ 20) (σ 21) (σ 22) (σ 23) i2 := by rw [hs2 i2 (Nat.le_refl _) (by omega), hd i2 (by omega)]; rfl
                  rw [hg_] at c3
                  rw [ht2 i2 (Nat.le_refl _) (by omega)] at c8
                  have hb_ := (hbd i2 (by omega)).1.2
                  have hvt_ : ft i2 = ld_wT h (nI cr) (σ 20) (σ 21) (σ 22) (σ 23) i2 := by rw [ht2 i2 (Nat.le_refl _) (by omega)]; exact ld_mT4 c3 hb_ c8
                  have hvs_ : ((fs i2) + (fd i2)) - (nI 0) = ld_wS h (nI cr) (σ 20) (σ 21) (σ 22) (σ 23) i2 := by rw [hg_]; unfold ld_wS; rw [if_pos c3]; exact Int32.sub_zero _
                  have hvp_ : (fp i2) + (nI 0) = ld_wP h (nI cr) (σ 20) (σ 21) (σ 22) (σ 23) i2 := by rw [hp2 i2 (Nat.le_refl _) (by omega)]; unfold ld_wP; rw [if_pos c3]; exact Int32.add_zero _
                  refine ld_iincN O (pc := 161) [(1, .int (nI (i2 + 1))), (3, .int ((ft i2) + (nI 1))), (2, .int (nI 0)), (0, .ref (ad 8))] 3 dX3_passes_161 rfl (by decide) rfl ?_
                  refine ld_goto O (pc := 164) 42 dX3_passes_164 (by decide) ?_
                  refine ld_less O [3, 0] (lv2 := [(0, .ref (ad 8)), (1, .int (nI (i2 + 1)))]) rfl ?_
                  have hs9 : us (us (us (us (us (us (us (us σ 21 ft) 22 fs) 23 fp) 27 fd) 22 (upd (fs) i2 ((fs i2) + (fd i2)))) 22 (upd (upd (fs) i2 ((fs i2) + (fd i2))) i2 (((fs i2) + (fd i2)) - (nI 0)))) 23 (upd (fp) i2 ((fp i2) + (nI 0)))) 21 (upd (ft) i2 (ft i2)) = us (us (us (us σ 21 (upd (ft) i2 (ft i2))) 22 (upd (upd (fs) i2 ((fs i2) + (fd i2))) i2 (((fs i2) + (fd i2)) - (nI 0)))) 23 (upd (fp) i2 ((fp i2) + (nI 0)))) 27 fd := by
                    funext b_
                    by_cases h0_ : b_ = 21
                    · subst h0_; exact (us_eq _ _ _).trans ((us_ne _ _ (by decide)).trans ((us_ne _ _ (by decide)).trans ((us_ne _ _ (by decide)).trans (us_eq _ _ _)))).symm
                    by_cases h1_ : b_ = 22
                    · subst h1_; exact ((us_ne _ _ (by decide)).trans ((us_ne _ _ (by decide)).trans (us_eq _ _ _))).trans ((us_ne _ _ (by decide)).trans ((us_ne _ _ (by decide)).trans (us_eq _ _ _))).symm
                    by_cases h2_ : b_ = 23
                    · subst h2_; exact ((us_ne _ _ (by decide)).trans (us_eq _ _ _)).trans ((us_ne _ _ (by decide)).trans (us_eq _ _ _)).symm
                    by_cases h3_ : b_ = 27
                    · subst h3_; exact ((us_ne _ _ (by decide)).trans ((us_ne _ _ (by decide)).trans ((us_ne _ _ (by decide)).trans ((us_ne _ _ (by decide)).trans (us_eq _ _ _))))).trans (us_eq _ _ _).symm
                    simp only [us, h0_, h1_, h2_, h3_, if_false]
                  refine ld_cv hs9 ?_
                  exact ih42 (i2 + 1) (upd (ft) i2 (ft i2)) (upd (upd (fs) i2 ((fs i2) + (fd i2))) i2 (((fs i2) + (fd i2)) - (nI 0))) (upd (fp) i2 ((fp i2) + (nI 0))) (by omega) (by omega) (ld_ext ht hvt_) (ld_exk ht2) (ld_ext (fun x hx => (pk_un (by omega)).trans (hs x hx)) hvs_) (fun x h1 h2 => (pk_un (by omega)).trans ((pk_un (by omega)).trans (hs2 x (by omega) h2))) (ld_ext hp hvp_) (ld_exk hp2)
                · refine ld_iload_n O (pc := 150) 0 dX3_passes_150 rfl rfl ?_
                  refine ld_goto O (pc := 151) 160 dX3_passes_151 (by decide) ?_
                  refine ld_iast O (pc := 160) 21 i2 rfl (by decide) (show i2 < 8 by omega) dX3_passes_160 ?_
                  have hg_ : fs i2 + fd i2 = ld_wg h (nI cr) (σ 20) (σ 21) (σ 22) (σ 23) i2 := by rw [hs2 i2 (Nat.le_refl _) (by omega), hd i2 (by omega)]; rfl
                  rw [hg_] at c3
                  rw [ht2 i2 (Nat.le_refl _) (by omega)] at c8
                  have hb_ := (hbd i2 (by omega)).1.2
                  have hvt_ : (ft i2) + (nI 1) = ld_wT h (nI cr) (σ 20) (σ 21) (σ 22) (σ 23) i2 := by rw [ht2 i2 (Nat.le_refl _) (by omega)]; exact ld_mT3 c3 c8.2
                  have hvs_ : ((fs i2) + (fd i2)) - (nI 0) = ld_wS h (nI cr) (σ 20) (σ 21) (σ 22) (σ 23) i2 := by rw [hg_]; unfold ld_wS; rw [if_pos c3]; exact Int32.sub_zero _
                  have hvp_ : (fp i2) + (nI 0) = ld_wP h (nI cr) (σ 20) (σ 21) (σ 22) (σ 23) i2 := by rw [hp2 i2 (Nat.le_refl _) (by omega)]; unfold ld_wP; rw [if_pos c3]; exact Int32.add_zero _
                  refine ld_iincN O (pc := 161) [(1, .int (nI (i2 + 1))), (3, .int ((ft i2) + (nI 1))), (2, .int (nI 0)), (0, .ref (ad 8))] 3 dX3_passes_161 rfl (by decide) rfl ?_
                  refine ld_goto O (pc := 164) 42 dX3_passes_164 (by decide) ?_
                  refine ld_less O [3, 0] (lv2 := [(0, .ref (ad 8)), (1, .int (nI (i2 + 1)))]) rfl ?_
                  have hs10 : us (us (us (us (us (us (us (us σ 21 ft) 22 fs) 23 fp) 27 fd) 22 (upd (fs) i2 ((fs i2) + (fd i2)))) 22 (upd (upd (fs) i2 ((fs i2) + (fd i2))) i2 (((fs i2) + (fd i2)) - (nI 0)))) 23 (upd (fp) i2 ((fp i2) + (nI 0)))) 21 (upd (ft) i2 ((ft i2) + (nI 1))) = us (us (us (us σ 21 (upd (ft) i2 ((ft i2) + (nI 1)))) 22 (upd (upd (fs) i2 ((fs i2) + (fd i2))) i2 (((fs i2) + (fd i2)) - (nI 0)))) 23 (upd (fp) i2 ((fp i2) + (nI 0)))) 27 fd := by
                    funext b_
                    by_cases h0_ : b_ = 21
                    · subst h0_; exact (us_eq _ _ _).trans ((us_ne _ _ (by decide)).trans ((us_ne _ _ (by decide)).trans ((us_ne _ _ (by decide)).trans (us_eq _ _ _)))).symm
                    by_cases h1_ : b_ = 22
                    · subst h1_; exact ((us_ne _ _ (by decide)).trans ((us_ne _ _ (by decide)).trans (us_eq _ _ _))).trans ((us_ne _ _ (by decide)).trans ((us_ne _ _ (by decide)).trans (us_eq _ _ _))).symm
                    by_cases h2_ : b_ = 23
                    · subst h2_; exact ((us_ne _ _ (by decide)).trans (us_eq _ _ _)).trans ((us_ne _ _ (by decide)).trans (us_eq _ _ _)).symm
                    by_cases h3_ : b_ = 27
                    · subst h3_; exact ((us_ne _ _ (by decide)).trans ((us_ne _ _ (by decide)).trans ((us_ne _ _ (by decide)).trans ((us_ne _ _ (by decide)).trans (us_eq _ _ _))))).trans (us_eq _ _ _).symm
                    simp only [us, h0_, h1_, h2_, h3_, if_false]
                  refine ld_cv hs10 ?_
                  exact ih42 (i2 + 1) (upd (ft) i2 ((ft i2) + (nI 1))) (upd (upd (fs) i2 ((fs i2) + (fd i2))) i2 (((fs i2) + (fd i2)) - (nI 0))) (upd (fp) i2 ((fp i2) + (nI 0))) (by omega) (by omega) (ld_ext ht hvt_) (ld_exk ht2) (ld_ext (fun x hx => (pk_un (by omega)).trans (hs x hx)) hvs_) (fun x h1 h2 => (pk_un (by omega)).trans ((pk_un (by omega)).trans (hs2 x (by omega) h2))) (ld_ext hp hvp_) (ld_exk hp2)
              · refine ld_iconst O (pc := 74) (v := nI 1) dX3_passes_74 (by decide) ?_
                refine ld_goto O (pc := 75) 79 dX3_passes_75 (by decide) ?_
                refine ld_istore_n O (pc := 79) [(2, .int (nI 1)), (0, .ref (ad 8)), (1, .int (nI i2))] dX3_passes_79 rfl (by decide) rfl ?_
                refine ld_aload_n O (pc := 80) 1 dX3_passes_80 rfl rfl ?_
                refine ld_g_M_temperOf O (pc := 81) ld_w52 dX3_passes_81 ?_
                refine ld_iload_n O (pc := 84) 2 dX3_passes_84 rfl rfl ?_
                refine ld_iald O (pc := 85) 21 i2 (v := ft i2) rfl (by decide) (show i2 < 8 by omega) rfl dX3_passes_85 ?_
                refine ld_iload_n O (pc := 86) 0 dX3_passes_86 rfl rfl ?_
                refine ld_if_eq O (pc := 87) 1 (by decide) 94 dX3_passes_87 (by decide) (fun z => absurd z (by decide)) (fun _ => ?_)
                refine ld_iconst O (pc := 90) (v := (-1 : Int32)) dX3_passes_90 (by decide) ?_
                refine ld_goto O (pc := 91) 95 dX3_passes_91 (by decide) ?_
                refine ld_iadd O (pc := 95) dX3_passes_95 ?_
                refine ld_istore_n O (pc := 96) [(3, .int ((ft i2) + (-1 : Int32))), (2, .int (nI 1)), (0, .ref (ad 8)), (1, .int (nI i2))] dX3_passes_96 rfl (by decide) rfl ?_
                refine ld_aload_n O (pc := 97) 2 dX3_passes_97 rfl rfl ?_
                refine ld_g_M_stockOf O (pc := 98) ld_w53 dX3_passes_98 ?_
                refine ld_iload_n O (pc := 101) 3 dX3_passes_101 rfl rfl ?_
                refine ld_dup2 O (pc := 102) dX3_passes_102 rfl rfl ?_
                refine ld_iald O (pc := 103) 22 i2 (v := (fs i2) + (fd i2)) rfl (by decide) (show i2 < 8 by omega) (by show (upd (fs) i2 ((fs i2) + (fd i2))) i2 = _; exact pk_us) dX3_passes_103 ?_
                refine ld_iload_n O (pc := 104) 1 dX3_passes_104 rfl rfl ?_
                refine ld_if_eq O (pc := 105) 1 (by decide) 112 dX3_passes_105 (by decide) (fun z => absurd z (by decide)) (fun _ => ?_)
                refine ld_iconst O (pc := 108) (v := nI 1) dX3_passes_108 (by decide) ?_
                refine ld_goto O (pc := 109) 113 dX3_passes_109 (by decide) ?_
                refine ld_isub O (pc := 113) dX3_passes_113 ?_
                refine ld_iast O (pc := 114) 22 i2 rfl (by decide) (show i2 < 8 by omega) dX3_passes_114 ?_
                refine ld_aload_n O (pc := 115) 2 dX3_passes_115 rfl rfl ?_
                refine ld_g_M_pipsOf O (pc := 116) ld_w54 dX3_passes_116 ?_
                refine ld_iload_n O (pc := 119) 3 dX3_passes_119 rfl rfl ?_
                refine ld_dup2 O (pc := 120) dX3_passes_120 rfl rfl ?_
                refine ld_iald O (pc := 121) 23 i2 (v := fp i2) rfl (by decide) (show i2 < 8 by omega) rfl dX3_passes_121 ?_
                refine ld_iload_n O (pc := 122) 1 dX3_passes_122 rfl rfl ?_
                refine ld_if_eq O (pc := 123) 1 (by decide) 130 dX3_passes_123 (by decide) (fun z => absurd z (by decide)) (fun _ => ?_)
                refine ld_iconst O (pc := 126) (v := nI 1) dX3_passes_126 (by decide) ?_
                refine ld_goto O (pc := 127) 131 dX3_passes_127 (by decide) ?_
                refine ld_iadd O (pc := 131) dX3_passes_131 ?_
                refine ld_iast O (pc := 132) 23 i2 rfl (by decide) (show i2 < 8 by omega) dX3_passes_132 ?_
                refine ld_aload_n O (pc := 133) 2 dX3_passes_133 rfl rfl ?_
                refine ld_g_M_temperOf O (pc := 134) ld_w52 dX3_passes_134 ?_
                refine ld_iload_n O (pc := 137) 3 dX3_passes_137 rfl rfl ?_
                refine ld_iload_n O (pc := 138) 0 dX3_passes_138 rfl rfl ?_
                have hl14 : (((ft i2) + (-1 : Int32)).toInt64).toInt = ((ft i2) + (-1 : Int32)).toInt := (Int32.toInt_toInt64 _).trans rfl
                refine ld_i2l O (pc := 139) dX3_passes_139 ?_
                refine ld_lconst O (pc := 140) (v := (0 : Int64)) dX3_passes_140 (by decide) ?_
                refine ld_ldc2 O (pc := 141) (v := (9 : Int64)) dX3_passes_141 ld_w159 ?_
                refine ld_callSi O (pc := 144) (As := [.long (((ft i2) + (-1 : Int32)).toInt64), .long (0 : Int64), .long (9 : Int64)]) (st := [.int (nI i2), .ref (ad (9 + 21))]) (c_X3_in l ad (us (us (us (us (us (us (us σ 21 ft) 22 fs) 23 fp) 27 fd) 22 (upd (fs) i2 ((fs i2) + (fd i2)))) 22 (upd (upd (fs) i2 ((fs i2) + (fd i2))) i2 (((fs i2) + (fd i2)) - (nI 1)))) 23 (upd (fp) i2 ((fp i2) + (nI 1)))) (((ft i2) + (-1 : Int32)).toInt64) (0 : Int64) (9 : Int64) (((ft i2) + (-1 : Int32)).toInt) 0 (9) hl14 (by decide) (by decide)) ld_mw_X3_in ld_w128 rfl rfl ⟨by decide, by decide⟩ (Nat.le_of_ble_eq_true rfl) dX3_passes_144 (fun r_p144 σ_p144 h_p144 => ?_)
                obtain ⟨rfl, hσ_p144⟩ := h_p144
                rw [hσ_p144]
                show K (us (us (us (us (us (us (us σ 21 ft) 22 fs) 23 fp) 27 fd) 22 (upd (fs) i2 ((fs i2) + (fd i2)))) 22 (upd (upd (fs) i2 ((fs i2) + (fd i2))) i2 (((fs i2) + (fd i2)) - (nI 1)))) 23 (upd (fp) i2 ((fp i2) + (nI 1)))) [(3, .int ((ft i2) + (-1 : Int32))), (2, .int (nI 1)), (0, .ref (ad 8)), (1, .int (nI i2))] [.int (ld_b (0 ≤ ((ft i2) + (-1 : Int32)).toInt ∧ ((ft i2) + (-1 : Int32)).toInt ≤ (9))), .int (nI i2), .ref (ad (9 + 21))] 147
                refine ld_ifb_eq O (pc := 147) 154 dX3_passes_147 (by decide) (fun c15 => ?_) (fun c15 => ?_)
                · refine ld_aload_n O (pc := 154) 2 dX3_passes_154 rfl rfl ?_
                  refine ld_g_M_temperOf O (pc := 155) ld_w52 dX3_passes_155 ?_
                  refine ld_iload_n O (pc := 158) 3 dX3_passes_158 rfl rfl ?_
                  refine ld_iald O (pc := 159) 21 i2 (v := ft i2) rfl (by decide) (show i2 < 8 by omega) rfl dX3_passes_159 ?_
                  refine ld_iast O (pc := 160) 21 i2 rfl (by decide) (show i2 < 8 by omega) dX3_passes_160 ?_
                  have hg_ : fs i2 + fd i2 = ld_wg h (nI cr) (σ 20) (σ 21) (σ 22) (σ 23) i2 := by rw [hs2 i2 (Nat.le_refl _) (by omega), hd i2 (by omega)]; rfl
                  rw [hg_] at c3
                  rw [ht2 i2 (Nat.le_refl _) (by omega)] at c15
                  have hb_ := (hbd i2 (by omega)).1.2
                  have hvt_ : ft i2 = ld_wT h (nI cr) (σ 20) (σ 21) (σ 22) (σ 23) i2 := by rw [ht2 i2 (Nat.le_refl _) (by omega)]; exact ld_mT2 c3 hb_ c15
                  have hvs_ : ((fs i2) + (fd i2)) - (nI 1) = ld_wS h (nI cr) (σ 20) (σ 21) (σ 22) (σ 23) i2 := by rw [hg_]; unfold ld_wS; rw [if_neg c3]
                  have hvp_ : (fp i2) + (nI 1) = ld_wP h (nI cr) (σ 20) (σ 21) (σ 22) (σ 23) i2 := by rw [hp2 i2 (Nat.le_refl _) (by omega)]; unfold ld_wP; rw [if_neg c3]
                  refine ld_iincN O (pc := 161) [(1, .int (nI (i2 + 1))), (3, .int ((ft i2) + (-1 : Int32))), (2, .int (nI 1)), (0, .ref (ad 8))] 3 dX3_passes_161 rfl (by decide) rfl ?_
                  refine ld_goto O (pc := 164) 42 dX3_passes_164 (by decide) ?_
                  refine ld_less O [3, 0] (lv2 := [(0, .ref (ad 8)), (1, .int (nI (i2 + 1)))]) rfl ?_
                  have hs16 : us (us (us (us (us (us (us (us σ 21 ft) 22 fs) 23 fp) 27 fd) 22 (upd (fs) i2 ((fs i2) + (fd i2)))) 22 (upd (upd (fs) i2 ((fs i2) + (fd i2))) i2 (((fs i2) + (fd i2)) - (nI 1)))) 23 (upd (fp) i2 ((fp i2) + (nI 1)))) 21 (upd (ft) i2 (ft i2)) = us (us (us (us σ 21 (upd (ft) i2 (ft i2))) 22 (upd (upd (fs) i2 ((fs i2) + (fd i2))) i2 (((fs i2) + (fd i2)) - (nI 1)))) 23 (upd (fp) i2 ((fp i2) + (nI 1)))) 27 fd := by
                    funext b_
                    by_cases h0_ : b_ = 21
                    · subst h0_; exact (us_eq _ _ _).trans ((us_ne _ _ (by decide)).trans ((us_ne _ _ (by decide)).trans ((us_ne _ _ (by decide)).trans (us_eq _ _ _)))).symm
                    by_cases h1_ : b_ = 22
                    · subst h1_; exact ((us_ne _ _ (by decide)).trans ((us_ne _ _ (by decide)).trans (us_eq _ _ _))).trans ((us_ne _ _ (by decide)).trans ((us_ne _ _ (by decide)).trans (us_eq _ _ _))).symm
                    by_cases h2_ : b_ = 23
                    · subst h2_; exact ((us_ne _ _ (by decide)).trans (us_eq _ _ _)).trans ((us_ne _ _ (by decide)).trans (us_eq _ _ _)).symm
                    by_cases h3_ : b_ = 27
                    · subst h3_; exact ((us_ne _ _ (by decide)).trans ((us_ne _ _ (by decide)).trans ((us_ne _ _ (by decide)).trans ((us_ne _ _ (by decide)).trans (us_eq _ _ _))))).trans (us_eq _ _ _).symm
                    simp only [us, h0_, h1_, h2_, h3_, if_false]
                  refine ld_cv hs16 ?_
                  exact ih42 (i2 + 1) (upd (ft) i2 (ft i2)) (upd (upd (fs) i2 ((fs i2) + (fd i2))) i2 (((fs i2) + (fd i2)) - (nI 1))) (upd (fp) i2 ((fp i2) + (nI 1))) (by omega) (by omega) (ld_ext ht hvt_) (ld_exk ht2) (ld_ext (fun x hx => (pk_un (by omega)).trans (hs x hx)) hvs_) (fun x h1 h2 => (pk_un (by omega)).trans ((pk_un (by omega)).trans (hs2 x (by omega) h2))) (ld_ext hp hvp_) (ld_exk hp2)
                · refine ld_iload_n O (pc := 150) 0 dX3_passes_150 rfl rfl ?_
                  refine ld_goto O (pc := 151) 160 dX3_passes_151 (by decide) ?_
                  refine ld_iast O (pc := 160) 21 i2 rfl (by decide) (show i2 < 8 by omega) dX3_passes_160 ?_
                  have hg_ : fs i2 + fd i2 = ld_wg h (nI cr) (σ 20) (σ 21) (σ 22) (σ 23) i2 := by rw [hs2 i2 (Nat.le_refl _) (by omega), hd i2 (by omega)]; rfl
                  rw [hg_] at c3
                  rw [ht2 i2 (Nat.le_refl _) (by omega)] at c15
                  have hb_ := (hbd i2 (by omega)).1.2
                  have hvt_ : (ft i2) + (-1 : Int32) = ld_wT h (nI cr) (σ 20) (σ 21) (σ 22) (σ 23) i2 := by rw [ht2 i2 (Nat.le_refl _) (by omega)]; exact ld_mT1 c3 c15.1
                  have hvs_ : ((fs i2) + (fd i2)) - (nI 1) = ld_wS h (nI cr) (σ 20) (σ 21) (σ 22) (σ 23) i2 := by rw [hg_]; unfold ld_wS; rw [if_neg c3]
                  have hvp_ : (fp i2) + (nI 1) = ld_wP h (nI cr) (σ 20) (σ 21) (σ 22) (σ 23) i2 := by rw [hp2 i2 (Nat.le_refl _) (by omega)]; unfold ld_wP; rw [if_neg c3]
                  refine ld_iincN O (pc := 161) [(1, .int (nI (i2 + 1))), (3, .int ((ft i2) + (-1 : Int32))), (2, .int (nI 1)), (0, .ref (ad 8))] 3 dX3_passes_161 rfl (by decide) rfl ?_
                  refine ld_goto O (pc := 164) 42 dX3_passes_164 (by decide) ?_
                  refine ld_less O [3, 0] (lv2 := [(0, .ref (ad 8)), (1, .int (nI (i2 + 1)))]) rfl ?_
                  have hs17 : us (us (us (us (us (us (us (us σ 21 ft) 22 fs) 23 fp) 27 fd) 22 (upd (fs) i2 ((fs i2) + (fd i2)))) 22 (upd (upd (fs) i2 ((fs i2) + (fd i2))) i2 (((fs i2) + (fd i2)) - (nI 1)))) 23 (upd (fp) i2 ((fp i2) + (nI 1)))) 21 (upd (ft) i2 ((ft i2) + (-1 : Int32))) = us (us (us (us σ 21 (upd (ft) i2 ((ft i2) + (-1 : Int32)))) 22 (upd (upd (fs) i2 ((fs i2) + (fd i2))) i2 (((fs i2) + (fd i2)) - (nI 1)))) 23 (upd (fp) i2 ((fp i2) + (nI 1)))) 27 fd := by
                    funext b_
                    by_cases h0_ : b_ = 21
                    · subst h0_; exact (us_eq _ _ _).trans ((us_ne _ _ (by decide)).trans ((us_ne _ _ (by decide)).trans ((us_ne _ _ (by decide)).trans (us_eq _ _ _)))).symm
                    by_cases h1_ : b_ = 22
                    · subst h1_; exact ((us_ne _ _ (by decide)).trans ((us_ne _ _ (by decide)).trans (us_eq _ _ _))).trans ((us_ne _ _ (by decide)).trans ((us_ne _ _ (by decide)).trans (us_eq _ _ _))).symm
                    by_cases h2_ : b_ = 23
                    · subst h2_; exact ((us_ne _ _ (by decide)).trans (us_eq _ _ _)).trans ((us_ne _ _ (by decide)).trans (us_eq _ _ _)).symm
                    by_cases h3_ : b_ = 27
                    · subst h3_; exact ((us_ne _ _ (by decide)).trans ((us_ne _ _ (by decide)).trans ((us_ne _ _ (by decide)).trans ((us_ne _ _ (by decide)).trans (us_eq _ _ _))))).trans (us_eq _ _ _).symm
                    simp only [us, h0_, h1_, h2_, h3_, if_false]
                  refine ld_cv hs17 ?_
                  exact ih42 (i2 + 1) (upd (ft) i2 ((ft i2) + (-1 : Int32))) (upd (upd (fs) i2 ((fs i2) + (fd i2))) i2 (((fs i2) + (fd i2)) - (nI 1))) (upd (fp) i2 ((fp i2) + (nI 1))) (by omega) (by omega) (ld_ext ht hvt_) (ld_exk ht2) (ld_ext (fun x hx => (pk_un (by omega)).trans (hs x hx)) hvs_) (fun x h1 h2 => (pk_un (by omega)).trans ((pk_un (by omega)).trans (hs2 x (by omega) h2))) (ld_ext hp hvp_) (ld_exk hp2)
        refine ld_less O [1, 0] (lv2 := [(0, .ref (ad 8)), (1, .int (nI 0))]) rfl ?_
        have hs18 : us σ 27 fd = us (us (us (us σ 21 (σ 21)) 22 (σ 22)) 23 (σ 23)) 27 fd := by
          funext b_
          by_cases h0_ : b_ = 27
          · subst h0_; exact (us_eq _ _ _).trans (us_eq _ _ _).symm
          by_cases h1_ : b_ = 21
          · subst h1_; exact (us_ne _ _ (by decide)).trans ((us_ne _ _ (by decide)).trans ((us_ne _ _ (by decide)).trans ((us_ne _ _ (by decide)).trans (us_eq _ _ _)))).symm
          by_cases h2_ : b_ = 22
          · subst h2_; exact (us_ne _ _ (by decide)).trans ((us_ne _ _ (by decide)).trans ((us_ne _ _ (by decide)).trans (us_eq _ _ _))).symm
          by_cases h3_ : b_ = 23
          · subst h3_; exact (us_ne _ _ (by decide)).trans ((us_ne _ _ (by decide)).trans (us_eq _ _ _)).symm
          simp only [us, h0_, h1_, h2_, h3_, if_false]
        refine ld_cv hs18 ?_
        exact L42 _ 0 (σ 21) (σ 22) (σ 23) (Nat.lt_succ_self _) (Nat.zero_le _) (fun x hx => absurd hx (Nat.not_lt_zero x)) (fun _ _ _ => rfl) (fun x hx => absurd hx (Nat.not_lt_zero x)) (fun _ _ _ => rfl) (fun x hx => absurd hx (Nat.not_lt_zero x)) (fun _ _ _ => rfl)
      · refine ld_aload_n O (pc := 10) 0 dX3_passes_10 rfl rfl ?_
        refine ld_g_M_dealtNow O (pc := 11) ld_w58 dX3_passes_11 ?_
        refine ld_iload_n O (pc := 14) 1 dX3_passes_14 rfl rfl ?_
        refine ld_aload_n O (pc := 15) 0 dX3_passes_15 rfl rfl ?_
        refine ld_iload_n O (pc := 16) 1 dX3_passes_16 rfl rfl ?_
        refine ld_aload_n O (pc := 17) 0 dX3_passes_17 rfl rfl ?_
        refine ld_g_M_crateNow O (pc := 18) (v := nI cr) ld_w121 hcr dX3_passes_18 ?_
        refine ld_callVi O (pc := 21) (As := [.int (nI i), .int (nI cr)]) (st := [.int (nI i), .ref (ad (9 + 27))]) ld_recv8 (c_X3_dealtTo l ad (us σ 27 fd) h hh h8 hkt i (by omega) (nI cr)) ld_mw_X3_dealtTo ld_w202 rfl rfl ⟨by decide, by decide⟩ (Nat.le_of_ble_eq_true rfl) dX3_passes_21 (fun r_p21 σ_p21 h_p21 => ?_)
        obtain ⟨rfl, hσ_p21⟩ := h_p21
        rw [hσ_p21]
        show K (us σ 27 fd) [(0, .ref (ad 8)), (1, .int (nI i))] [.int (ld_dt h (σ 20) (σ 21) (nI cr) i), .int (nI i), .ref (ad (9 + 27))] 24
        refine ld_aload_n O (pc := 24) 0 dX3_passes_24 rfl rfl ?_
        refine ld_g_M_pipsOf O (pc := 25) ld_w54 dX3_passes_25 ?_
        refine ld_iload_n O (pc := 28) 1 dX3_passes_28 rfl rfl ?_
        refine ld_iald O (pc := 29) 23 i (v := σ 23 i) rfl (by decide) (show i < 8 by omega) rfl dX3_passes_29 ?_
        refine ld_iconst O (pc := 30) (v := nI 4) dX3_passes_30 (by decide) ?_
        refine ld_idiv O (pc := 31) dX3_passes_31 (by decide) ?_
        refine ld_iadd O (pc := 32) dX3_passes_32 ?_
        refine ld_iast O (pc := 33) 27 i rfl (by decide) (show i < 8 by omega) dX3_passes_33 ?_
        refine ld_iincN O (pc := 34) [(1, .int (nI (i + 1))), (0, .ref (ad 8))] 1 dX3_passes_34 rfl (by decide) rfl ?_
        refine ld_goto O (pc := 37) 2 dX3_passes_37 (by decide) ?_
        refine ld_less O [1, 0] (lv2 := [(0, .ref (ad 8)), (1, .int (nI (i + 1)))]) rfl ?_
        have hs19 : us (us σ 27 fd) 27 (upd (fd) i ((ld_dt h (σ 20) (σ 21) (nI cr) i) + ((σ 23 i) / (nI 4)))) = us σ 27 (upd (fd) i ((ld_dt h (σ 20) (σ 21) (nI cr) i) + ((σ 23 i) / (nI 4)))) := by
          funext b_
          by_cases h0_ : b_ = 27
          · subst h0_; exact (us_eq _ _ _).trans (us_eq _ _ _).symm
          simp only [us, h0_, if_false]
        refine ld_cv hs19 ?_
        exact ih2 (i + 1) (upd (fd) i ((ld_dt h (σ 20) (σ 21) (nI cr) i) + ((σ 23 i) / (nI 4)))) (by omega) (by omega) (ld_ext (g := fun x => ld_dt h (σ 20) (σ 21) (nI cr) x + σ 23 x / nI 4) hd rfl)
  refine ld_less O [1, 0] (lv2 := [(0, .ref (ad 8)), (1, .int (nI 0))]) rfl ?_
  have hs20 : σ = us σ 27 (σ 27) := by
    funext b_
    by_cases h0_ : b_ = 27
    · subst h0_; exact (rfl).trans (us_eq _ _ _).symm
    simp only [us, h0_, if_false]
  refine ld_cv hs20 ?_
  exact L2 _ 0 (σ 27) (Nat.lt_succ_self _) (Nat.zero_le _) (fun x hx => absurd hx (Nat.not_lt_zero x))
set_option maxHeartbeats 4000000 in
set_option maxRecDepth 100000 in
theorem c_X3_without (l : Launch) (ad : Nat → Nat) (σ : ld_St) (h : Nat) (hh : σ 141 0 = nI h) (h8 : h ≤ 8) (hs0 : ∀ x, x < h → 0 ≤ (σ 22 x).toInt) : ld_Ctr l yX3_without cX3_without 3 (some .int) (0, 0) [.ref (ad 8)] ad σ (ld_I (fun (r : Int32) (σ2 : ld_St) => r = nI (ld_wo h (σ 22)) ∧ σ2 = σ)) := by
  refine ld_entry (by decide +kernel) (Nat.le_of_ble_eq_true rfl) (fun K O E => ?_)
  have O : ld_Ok l K ad cX3_without 3 RX3 (ld_rm (0, 0)) := O
  show K σ [(0, .ref (ad 8))] [] 0
  refine ld_iconst O (pc := 0) (v := nI 0) dX3_without_0 (by decide) ?_
  refine ld_istore_n O (pc := 1) [(1, .int (nI 0)), (0, .ref (ad 8))] dX3_without_1 rfl (by decide) rfl ?_
  refine ld_iconst O (pc := 2) (v := nI 0) dX3_without_2 (by decide) ?_
  refine ld_istore_n O (pc := 3) [(2, .int (nI 0)), (1, .int (nI 0)), (0, .ref (ad 8))] dX3_without_3 rfl (by decide) rfl ?_
  have L4 : ∀ (m_4 : Nat) (i : Nat) (m : Nat), h - i < m_4 → (i ≤ h) → (m = fb_ct (ld_wp (σ 22)) i) → K σ [(0, .ref (ad 8)), (1, .int (nI m)), (2, .int (nI i))] [] 4 := by
    intro m_4
    induction m_4 with
    | zero => intro i m hm_; exact absurd hm_ (Nat.not_lt_zero _)
    | succ m_4 ih4 =>
      intro i m hm_4 hi hm
      refine ld_iload_n O (pc := 4) 2 dX3_without_4 rfl rfl ?_
      refine ld_aload_n O (pc := 5) 0 dX3_without_5 rfl rfl ?_
      refine ld_g_M_houses O (pc := 6) (v := nI h) ld_w119 hh dX3_without_6 ?_
      refine ld_icmp_ge O (pc := 9) ((i : Nat) : Int) ((h : Nat) : Int) (nI_toInt (by omega)) (nI_toInt (by omega)) 35 dX3_without_9 (by decide) (fun c1 => ?_) (fun c1 => ?_)
      · refine ld_iload_n O (pc := 35) 1 dX3_without_35 rfl rfl ?_
        refine ld_ireti E dX3_without_36 ?_
        exact ⟨by rw [hm, show i = h by omega]; rfl, rfl⟩
      · refine ld_iload_n O (pc := 12) 1 dX3_without_12 rfl rfl ?_
        refine ld_aload_n O (pc := 13) 0 dX3_without_13 rfl rfl ?_
        refine ld_g_M_stockOf O (pc := 14) ld_w53 dX3_without_14 ?_
        refine ld_iload_n O (pc := 17) 2 dX3_without_17 rfl rfl ?_
        refine ld_iald O (pc := 18) 22 i (v := σ 22 i) rfl (by decide) (show i < 8 by omega) rfl dX3_without_18 ?_
        refine ld_if_ne O (pc := 19) (σ 22 i).toInt rfl 26 dX3_without_19 (by decide) (fun c2 => ?_) (fun c2 => ?_)
        · refine ld_iconst O (pc := 26) (v := nI 0) dX3_without_26 (by decide) ?_
          refine ld_iaddN O (pc := 27) dX3_without_27 ?_
          refine ld_istore_n O (pc := 28) [(1, .int (nI (m + 0))), (0, .ref (ad 8)), (2, .int (nI i))] dX3_without_28 rfl (by decide) rfl ?_
          refine ld_iincN O (pc := 29) [(2, .int (nI (i + 1))), (1, .int (nI (m + 0))), (0, .ref (ad 8))] 2 dX3_without_29 rfl (by decide) rfl ?_
          refine ld_goto O (pc := 32) 4 dX3_without_32 (by decide) ?_
          refine ld_less O [2, 1, 0] (lv2 := [(0, .ref (ad 8)), (1, .int (nI (m + 0))), (2, .int (nI (i + 1)))]) rfl ?_
          exact ih4 (i + 1) (m + 0) (by omega) (by omega) (ld_ct_f hm (by have := hs0 i (by omega); unfold ld_wp; intro z; have z2 := of_decide_eq_true z; omega))
        · refine ld_iconst O (pc := 22) (v := nI 1) dX3_without_22 (by decide) ?_
          refine ld_goto O (pc := 23) 27 dX3_without_23 (by decide) ?_
          refine ld_iaddN O (pc := 27) dX3_without_27 ?_
          refine ld_istore_n O (pc := 28) [(1, .int (nI (m + 1))), (0, .ref (ad 8)), (2, .int (nI i))] dX3_without_28 rfl (by decide) rfl ?_
          refine ld_iincN O (pc := 29) [(2, .int (nI (i + 1))), (1, .int (nI (m + 1))), (0, .ref (ad 8))] 2 dX3_without_29 rfl (by decide) rfl ?_
          refine ld_goto O (pc := 32) 4 dX3_without_32 (by decide) ?_
          refine ld_less O [2, 1, 0] (lv2 := [(0, .ref (ad 8)), (1, .int (nI (m + 1))), (2, .int (nI (i + 1)))]) rfl ?_
          exact ih4 (i + 1) (m + 1) (by omega) (by omega) (ld_ct_t hm (by unfold ld_wp; exact decide_eq_true (by omega)))
  refine ld_less O [2, 1, 0] (lv2 := [(0, .ref (ad 8)), (1, .int (nI 0)), (2, .int (nI 0))]) rfl ?_
  exact L4 _ 0 0 (Nat.lt_succ_self _) (Nat.zero_le _) rfl
set_option maxHeartbeats 4000000 in
set_option maxRecDepth 100000 in
theorem c_X3_worst (l : Launch) (ad : Nat → Nat) (σ : ld_St) (h : Nat) (hh : σ 141 0 = nI h) (h8 : h ≤ 8) : ld_Ctr l yX3_worstTemper cX3_worstTemper 3 (some .int) (0, 0) [.ref (ad 8)] ad σ (ld_I (fun (r : Int32) (σ2 : ld_St) => r = ld_wm (σ 21) h ∧ σ2 = σ)) := by
  refine ld_entry (by decide +kernel) (Nat.le_of_ble_eq_true rfl) (fun K O E => ?_)
  have O : ld_Ok l K ad cX3_worstTemper 3 RX3 (ld_rm (0, 0)) := O
  show K σ [(0, .ref (ad 8))] [] 0
  refine ld_iconst O (pc := 0) (v := nI 0) dX3_worstTemper_0 (by decide) ?_
  refine ld_istore_n O (pc := 1) [(1, .int (nI 0)), (0, .ref (ad 8))] dX3_worstTemper_1 rfl (by decide) rfl ?_
  refine ld_iconst O (pc := 2) (v := nI 0) dX3_worstTemper_2 (by decide) ?_
  refine ld_istore_n O (pc := 3) [(2, .int (nI 0)), (1, .int (nI 0)), (0, .ref (ad 8))] dX3_worstTemper_3 rfl (by decide) rfl ?_
  have L4 : ∀ (m_4 : Nat) (i : Nat) (w : Int32), h - i < m_4 → (i ≤ h) → (w = ld_wm (σ 21) i) → K σ [(0, .ref (ad 8)), (1, .int w), (2, .int (nI i))] [] 4 := by
    intro m_4
    induction m_4 with
    | zero => intro i w hm_; exact absurd hm_ (Nat.not_lt_zero _)
    | succ m_4 ih4 =>
      intro i w hm_4 hi hw
      refine ld_iload_n O (pc := 4) 2 dX3_worstTemper_4 rfl rfl ?_
      refine ld_aload_n O (pc := 5) 0 dX3_worstTemper_5 rfl rfl ?_
      refine ld_g_M_houses O (pc := 6) (v := nI h) ld_w119 hh dX3_worstTemper_6 ?_
      refine ld_icmp_ge O (pc := 9) ((i : Nat) : Int) ((h : Nat) : Int) (nI_toInt (by omega)) (nI_toInt (by omega)) 39 dX3_worstTemper_9 (by decide) (fun c1 => ?_) (fun c1 => ?_)
      · refine ld_iload_n O (pc := 39) 1 dX3_worstTemper_39 rfl rfl ?_
        refine ld_ireti E dX3_worstTemper_40 ?_
        exact ⟨by rw [hw, show i = h by omega], rfl⟩
      · refine ld_aload_n O (pc := 12) 0 dX3_worstTemper_12 rfl rfl ?_
        refine ld_g_M_temperOf O (pc := 13) ld_w52 dX3_worstTemper_13 ?_
        refine ld_iload_n O (pc := 16) 2 dX3_worstTemper_16 rfl rfl ?_
        refine ld_iald O (pc := 17) 21 i (v := σ 21 i) rfl (by decide) (show i < 8 by omega) rfl dX3_worstTemper_17 ?_
        refine ld_iload_n O (pc := 18) 1 dX3_worstTemper_18 rfl rfl ?_
        refine ld_icmp_le O (pc := 19) (σ 21 i).toInt (w).toInt rfl rfl 31 dX3_worstTemper_19 (by decide) (fun c2 => ?_) (fun c2 => ?_)
        · refine ld_iload_n O (pc := 31) 1 dX3_worstTemper_31 rfl rfl ?_
          refine ld_istore_n O (pc := 32) [(1, .int w), (0, .ref (ad 8)), (2, .int (nI i))] dX3_worstTemper_32 rfl (by decide) rfl ?_
          refine ld_iincN O (pc := 33) [(2, .int (nI (i + 1))), (1, .int w), (0, .ref (ad 8))] 2 dX3_worstTemper_33 rfl (by decide) rfl ?_
          refine ld_goto O (pc := 36) 4 dX3_worstTemper_36 (by decide) ?_
          refine ld_less O [2, 1, 0] (lv2 := [(0, .ref (ad 8)), (1, .int w), (2, .int (nI (i + 1)))]) rfl ?_
          exact ih4 (i + 1) w (by omega) (by omega) (by simp only [ld_wm]; rw [← hw]; first | exact (if_pos (Int32.lt_iff_toInt_lt.mpr (by omega))).symm | exact (if_neg (fun z => c2 (by have := Int32.lt_iff_toInt_lt.mp z; omega))).symm | exact (if_neg (fun z => absurd (Int32.lt_iff_toInt_lt.mp z) (by omega))).symm)
        · refine ld_aload_n O (pc := 22) 0 dX3_worstTemper_22 rfl rfl ?_
          refine ld_g_M_temperOf O (pc := 23) ld_w52 dX3_worstTemper_23 ?_
          refine ld_iload_n O (pc := 26) 2 dX3_worstTemper_26 rfl rfl ?_
          refine ld_iald O (pc := 27) 21 i (v := σ 21 i) rfl (by decide) (show i < 8 by omega) rfl dX3_worstTemper_27 ?_
          refine ld_goto O (pc := 28) 32 dX3_worstTemper_28 (by decide) ?_
          refine ld_istore_n O (pc := 32) [(1, .int (σ 21 i)), (0, .ref (ad 8)), (2, .int (nI i))] dX3_worstTemper_32 rfl (by decide) rfl ?_
          refine ld_iincN O (pc := 33) [(2, .int (nI (i + 1))), (1, .int (σ 21 i)), (0, .ref (ad 8))] 2 dX3_worstTemper_33 rfl (by decide) rfl ?_
          refine ld_goto O (pc := 36) 4 dX3_worstTemper_36 (by decide) ?_
          refine ld_less O [2, 1, 0] (lv2 := [(0, .ref (ad 8)), (1, .int (σ 21 i)), (2, .int (nI (i + 1)))]) rfl ?_
          exact ih4 (i + 1) (σ 21 i) (by omega) (by omega) (by simp only [ld_wm]; rw [← hw]; first | exact (if_pos (Int32.lt_iff_toInt_lt.mpr (by omega))).symm | exact (if_neg (fun z => c2 (by have := Int32.lt_iff_toInt_lt.mp z; omega))).symm | exact (if_neg (fun z => absurd (Int32.lt_iff_toInt_lt.mp z) (by omega))).symm)
  refine ld_less O [2, 1, 0] (lv2 := [(0, .ref (ad 8)), (1, .int (nI 0)), (2, .int (nI 0))]) rfl ?_
  exact L4 _ 0 (nI 0) (Nat.lt_succ_self _) (Nat.zero_le _) rfl
set_option maxHeartbeats 4000000 in
set_option maxRecDepth 100000 in
theorem c_X3_gave (l : Launch) (ad : Nat → Nat) (σ : ld_St) (h : Nat) (hh : σ 141 0 = nI h) (h8 : h ≤ 8) (k : Nat) (hk : k < h) : ld_Ctr l yX3_gave cX3_gave 4 (some .boolean) (0, 0) [.ref (ad 8), .int (nI k)] ad σ (ld_I (fun (r : Int32) (σ2 : ld_St) => r = ld_b (0 < (σ 22 k).toInt) ∧ ∃ f : Nat → Int32, σ2 = us σ 22 f ∧ (0 < (σ 22 k).toInt → f = ld_gv h (σ 22) k) ∧ (¬ 0 < (σ 22 k).toInt → f = σ 22))) := by
  refine ld_entry (by decide +kernel) (Nat.le_of_ble_eq_true rfl) (fun K O E => ?_)
  have O : ld_Ok l K ad cX3_gave 4 RX3 (ld_rm (0, 0)) := O
  show K σ [(0, .ref (ad 8)), (1, .int (nI k))] [] 0
  refine ld_aload_n O (pc := 0) 0 dX3_gave_0 rfl rfl ?_
  refine ld_g_M_stockOf O (pc := 1) ld_w53 dX3_gave_1 ?_
  refine ld_iload_n O (pc := 4) 1 dX3_gave_4 rfl rfl ?_
  refine ld_iald O (pc := 5) 22 k (v := σ 22 k) rfl (by decide) (show k < 8 by omega) rfl dX3_gave_5 ?_
  refine ld_if_le O (pc := 6) (σ 22 k).toInt rfl 13 dX3_gave_6 (by decide) (fun c1 => ?_) (fun c1 => ?_)
  · refine ld_iconst O (pc := 13) (v := nI 0) dX3_gave_13 (by decide) ?_
    refine ld_istore_n O (pc := 14) [(2, .int (nI 0)), (0, .ref (ad 8)), (1, .int (nI k))] dX3_gave_14 rfl (by decide) rfl ?_
    refine ld_iload_n O (pc := 15) 2 dX3_gave_15 rfl rfl ?_
    refine ld_iconst O (pc := 16) (v := nI 1) dX3_gave_16 (by decide) ?_
    refine ld_iaddN O (pc := 17) dX3_gave_17 ?_
    refine ld_aload_n O (pc := 18) 1 dX3_gave_18 rfl rfl ?_
    refine ld_g_M_houses O (pc := 19) (v := nI h) ld_w119 hh dX3_gave_19 ?_
    refine ld_icmp_ne O (pc := 22) ((k + 1 : Nat) : Int) ((h : Nat) : Int) (nI_toInt (by omega)) (nI_toInt (by omega)) 29 dX3_gave_22 (by decide) (fun c2 => ?_) (fun c2 => ?_)
    · refine ld_iload_n O (pc := 29) 2 dX3_gave_29 rfl rfl ?_
      refine ld_iconst O (pc := 30) (v := nI 1) dX3_gave_30 (by decide) ?_
      refine ld_iaddN O (pc := 31) dX3_gave_31 ?_
      refine ld_istore_n O (pc := 32) [(3, .int (nI (k + 1))), (2, .int (nI 0)), (0, .ref (ad 8)), (1, .int (nI k))] dX3_gave_32 rfl (by decide) rfl ?_
      refine ld_aload_n O (pc := 33) 2 dX3_gave_33 rfl rfl ?_
      refine ld_g_M_stockOf O (pc := 34) ld_w53 dX3_gave_34 ?_
      refine ld_iload_n O (pc := 37) 3 dX3_gave_37 rfl rfl ?_
      refine ld_dup2 O (pc := 38) dX3_gave_38 rfl rfl ?_
      refine ld_iald O (pc := 39) 22 k (v := σ 22 k) rfl (by decide) (show k < 8 by omega) rfl dX3_gave_39 ?_
      refine ld_iload_n O (pc := 40) 1 dX3_gave_40 rfl rfl ?_
      refine ld_if_eq O (pc := 41) 0 (by decide) 48 dX3_gave_41 (by decide) (fun _ => ?_) (fun z => absurd z (by decide))
      refine ld_iconst O (pc := 48) (v := nI 0) dX3_gave_48 (by decide) ?_
      refine ld_isub O (pc := 49) dX3_gave_49 ?_
      refine ld_iast O (pc := 50) 22 k rfl (by decide) (show k < 8 by omega) dX3_gave_50 ?_
      refine ld_aload_n O (pc := 51) 2 dX3_gave_51 rfl rfl ?_
      refine ld_g_M_stockOf O (pc := 52) ld_w53 dX3_gave_52 ?_
      refine ld_iload_n O (pc := 55) 0 dX3_gave_55 rfl rfl ?_
      refine ld_dup2 O (pc := 56) dX3_gave_56 rfl rfl ?_
      refine ld_iald O (pc := 57) 22 (k + 1) (v := (upd (σ 22) k ((σ 22 k) - (nI 0))) (k + 1)) rfl (by decide) (show k + 1 < 8 by omega) rfl dX3_gave_57 ?_
      refine ld_iload_n O (pc := 58) 1 dX3_gave_58 rfl rfl ?_
      refine ld_if_eq O (pc := 59) 0 (by decide) 66 dX3_gave_59 (by decide) (fun _ => ?_) (fun z => absurd z (by decide))
      refine ld_iconst O (pc := 66) (v := nI 0) dX3_gave_66 (by decide) ?_
      refine ld_iadd O (pc := 67) dX3_gave_67 ?_
      refine ld_iast O (pc := 68) 22 (k + 1) rfl (by decide) (show k + 1 < 8 by omega) dX3_gave_68 ?_
      refine ld_iload_n O (pc := 69) 1 dX3_gave_69 rfl rfl ?_
      refine ld_iretz E (Or.inl rfl) dX3_gave_70 ?_
      refine ⟨(ld_b_f (by omega)).symm, _, us_us _ _ _ _, fun z => absurd z (by omega), fun _ => ?_⟩
      show upd (upd (σ 22) k (σ 22 k - nI 0)) _ (upd (σ 22) k (σ 22 k - nI 0) _ + nI 0) = σ 22
      rw [show σ 22 k - nI 0 = σ 22 k from Int32.sub_zero _, fa_upd_same (f := σ 22) rfl, show ∀ z : Nat, σ 22 z + nI 0 = σ 22 z from fun z => Int32.add_zero _, fa_upd_same (f := σ 22) rfl]
    · refine ld_iconst O (pc := 25) (v := nI 0) dX3_gave_25 (by decide) ?_
      refine ld_goto O (pc := 26) 32 dX3_gave_26 (by decide) ?_
      refine ld_istore_n O (pc := 32) [(3, .int (nI 0)), (2, .int (nI 0)), (0, .ref (ad 8)), (1, .int (nI k))] dX3_gave_32 rfl (by decide) rfl ?_
      refine ld_aload_n O (pc := 33) 2 dX3_gave_33 rfl rfl ?_
      refine ld_g_M_stockOf O (pc := 34) ld_w53 dX3_gave_34 ?_
      refine ld_iload_n O (pc := 37) 3 dX3_gave_37 rfl rfl ?_
      refine ld_dup2 O (pc := 38) dX3_gave_38 rfl rfl ?_
      refine ld_iald O (pc := 39) 22 k (v := σ 22 k) rfl (by decide) (show k < 8 by omega) rfl dX3_gave_39 ?_
      refine ld_iload_n O (pc := 40) 1 dX3_gave_40 rfl rfl ?_
      refine ld_if_eq O (pc := 41) 0 (by decide) 48 dX3_gave_41 (by decide) (fun _ => ?_) (fun z => absurd z (by decide))
      refine ld_iconst O (pc := 48) (v := nI 0) dX3_gave_48 (by decide) ?_
      refine ld_isub O (pc := 49) dX3_gave_49 ?_
      refine ld_iast O (pc := 50) 22 k rfl (by decide) (show k < 8 by omega) dX3_gave_50 ?_
      refine ld_aload_n O (pc := 51) 2 dX3_gave_51 rfl rfl ?_
      refine ld_g_M_stockOf O (pc := 52) ld_w53 dX3_gave_52 ?_
      refine ld_iload_n O (pc := 55) 0 dX3_gave_55 rfl rfl ?_
      refine ld_dup2 O (pc := 56) dX3_gave_56 rfl rfl ?_
      refine ld_iald O (pc := 57) 22 0 (v := (upd (σ 22) k ((σ 22 k) - (nI 0))) 0) rfl (by decide) (show 0 < 8 by omega) rfl dX3_gave_57 ?_
      refine ld_iload_n O (pc := 58) 1 dX3_gave_58 rfl rfl ?_
      refine ld_if_eq O (pc := 59) 0 (by decide) 66 dX3_gave_59 (by decide) (fun _ => ?_) (fun z => absurd z (by decide))
      refine ld_iconst O (pc := 66) (v := nI 0) dX3_gave_66 (by decide) ?_
      refine ld_iadd O (pc := 67) dX3_gave_67 ?_
      refine ld_iast O (pc := 68) 22 0 rfl (by decide) (show 0 < 8 by omega) dX3_gave_68 ?_
      refine ld_iload_n O (pc := 69) 1 dX3_gave_69 rfl rfl ?_
      refine ld_iretz E (Or.inl rfl) dX3_gave_70 ?_
      refine ⟨(ld_b_f (by omega)).symm, _, us_us _ _ _ _, fun z => absurd z (by omega), fun _ => ?_⟩
      show upd (upd (σ 22) k (σ 22 k - nI 0)) _ (upd (σ 22) k (σ 22 k - nI 0) _ + nI 0) = σ 22
      rw [show σ 22 k - nI 0 = σ 22 k from Int32.sub_zero _, fa_upd_same (f := σ 22) rfl, show ∀ z : Nat, σ 22 z + nI 0 = σ 22 z from fun z => Int32.add_zero _, fa_upd_same (f := σ 22) rfl]
  · refine ld_iconst O (pc := 9) (v := nI 1) dX3_gave_9 (by decide) ?_
    refine ld_goto O (pc := 10) 14 dX3_gave_10 (by decide) ?_
    refine ld_istore_n O (pc := 14) [(2, .int (nI 1)), (0, .ref (ad 8)), (1, .int (nI k))] dX3_gave_14 rfl (by decide) rfl ?_
    refine ld_iload_n O (pc := 15) 2 dX3_gave_15 rfl rfl ?_
    refine ld_iconst O (pc := 16) (v := nI 1) dX3_gave_16 (by decide) ?_
    refine ld_iaddN O (pc := 17) dX3_gave_17 ?_
    refine ld_aload_n O (pc := 18) 1 dX3_gave_18 rfl rfl ?_
    refine ld_g_M_houses O (pc := 19) (v := nI h) ld_w119 hh dX3_gave_19 ?_
    refine ld_icmp_ne O (pc := 22) ((k + 1 : Nat) : Int) ((h : Nat) : Int) (nI_toInt (by omega)) (nI_toInt (by omega)) 29 dX3_gave_22 (by decide) (fun c7 => ?_) (fun c7 => ?_)
    · refine ld_iload_n O (pc := 29) 2 dX3_gave_29 rfl rfl ?_
      refine ld_iconst O (pc := 30) (v := nI 1) dX3_gave_30 (by decide) ?_
      refine ld_iaddN O (pc := 31) dX3_gave_31 ?_
      refine ld_istore_n O (pc := 32) [(3, .int (nI (k + 1))), (2, .int (nI 1)), (0, .ref (ad 8)), (1, .int (nI k))] dX3_gave_32 rfl (by decide) rfl ?_
      refine ld_aload_n O (pc := 33) 2 dX3_gave_33 rfl rfl ?_
      refine ld_g_M_stockOf O (pc := 34) ld_w53 dX3_gave_34 ?_
      refine ld_iload_n O (pc := 37) 3 dX3_gave_37 rfl rfl ?_
      refine ld_dup2 O (pc := 38) dX3_gave_38 rfl rfl ?_
      refine ld_iald O (pc := 39) 22 k (v := σ 22 k) rfl (by decide) (show k < 8 by omega) rfl dX3_gave_39 ?_
      refine ld_iload_n O (pc := 40) 1 dX3_gave_40 rfl rfl ?_
      refine ld_if_eq O (pc := 41) 1 (by decide) 48 dX3_gave_41 (by decide) (fun z => absurd z (by decide)) (fun _ => ?_)
      refine ld_iconst O (pc := 44) (v := nI 1) dX3_gave_44 (by decide) ?_
      refine ld_goto O (pc := 45) 49 dX3_gave_45 (by decide) ?_
      refine ld_isub O (pc := 49) dX3_gave_49 ?_
      refine ld_iast O (pc := 50) 22 k rfl (by decide) (show k < 8 by omega) dX3_gave_50 ?_
      refine ld_aload_n O (pc := 51) 2 dX3_gave_51 rfl rfl ?_
      refine ld_g_M_stockOf O (pc := 52) ld_w53 dX3_gave_52 ?_
      refine ld_iload_n O (pc := 55) 0 dX3_gave_55 rfl rfl ?_
      refine ld_dup2 O (pc := 56) dX3_gave_56 rfl rfl ?_
      refine ld_iald O (pc := 57) 22 (k + 1) (v := (upd (σ 22) k ((σ 22 k) - (nI 1))) (k + 1)) rfl (by decide) (show k + 1 < 8 by omega) rfl dX3_gave_57 ?_
      refine ld_iload_n O (pc := 58) 1 dX3_gave_58 rfl rfl ?_
      refine ld_if_eq O (pc := 59) 1 (by decide) 66 dX3_gave_59 (by decide) (fun z => absurd z (by decide)) (fun _ => ?_)
      refine ld_iconst O (pc := 62) (v := nI 1) dX3_gave_62 (by decide) ?_
      refine ld_goto O (pc := 63) 67 dX3_gave_63 (by decide) ?_
      refine ld_iadd O (pc := 67) dX3_gave_67 ?_
      refine ld_iast O (pc := 68) 22 (k + 1) rfl (by decide) (show k + 1 < 8 by omega) dX3_gave_68 ?_
      refine ld_iload_n O (pc := 69) 1 dX3_gave_69 rfl rfl ?_
      refine ld_iretz E (Or.inr rfl) dX3_gave_70 ?_
      refine ⟨(ld_b_t (by omega)).symm, _, us_us _ _ _ _, fun _ => ?_, fun z => absurd (by omega) z⟩
      unfold ld_gv ld_nb
      first | (rw [if_pos (by omega)]; rfl) | (rw [if_neg (by omega)]; rfl)
    · refine ld_iconst O (pc := 25) (v := nI 0) dX3_gave_25 (by decide) ?_
      refine ld_goto O (pc := 26) 32 dX3_gave_26 (by decide) ?_
      refine ld_istore_n O (pc := 32) [(3, .int (nI 0)), (2, .int (nI 1)), (0, .ref (ad 8)), (1, .int (nI k))] dX3_gave_32 rfl (by decide) rfl ?_
      refine ld_aload_n O (pc := 33) 2 dX3_gave_33 rfl rfl ?_
      refine ld_g_M_stockOf O (pc := 34) ld_w53 dX3_gave_34 ?_
      refine ld_iload_n O (pc := 37) 3 dX3_gave_37 rfl rfl ?_
      refine ld_dup2 O (pc := 38) dX3_gave_38 rfl rfl ?_
      refine ld_iald O (pc := 39) 22 k (v := σ 22 k) rfl (by decide) (show k < 8 by omega) rfl dX3_gave_39 ?_
      refine ld_iload_n O (pc := 40) 1 dX3_gave_40 rfl rfl ?_
      refine ld_if_eq O (pc := 41) 1 (by decide) 48 dX3_gave_41 (by decide) (fun z => absurd z (by decide)) (fun _ => ?_)
      refine ld_iconst O (pc := 44) (v := nI 1) dX3_gave_44 (by decide) ?_
      refine ld_goto O (pc := 45) 49 dX3_gave_45 (by decide) ?_
      refine ld_isub O (pc := 49) dX3_gave_49 ?_
      refine ld_iast O (pc := 50) 22 k rfl (by decide) (show k < 8 by omega) dX3_gave_50 ?_
      refine ld_aload_n O (pc := 51) 2 dX3_gave_51 rfl rfl ?_
      refine ld_g_M_stockOf O (pc := 52) ld_w53 dX3_gave_52 ?_
      refine ld_iload_n O (pc := 55) 0 dX3_gave_55 rfl rfl ?_
      refine ld_dup2 O (pc := 56) dX3_gave_56 rfl rfl ?_
      refine ld_iald O (pc := 57) 22 0 (v := (upd (σ 22) k ((σ 22 k) - (nI 1))) 0) rfl (by decide) (show 0 < 8 by omega) rfl dX3_gave_57 ?_
      refine ld_iload_n O (pc := 58) 1 dX3_gave_58 rfl rfl ?_
      refine ld_if_eq O (pc := 59) 1 (by decide) 66 dX3_gave_59 (by decide) (fun z => absurd z (by decide)) (fun _ => ?_)
      refine ld_iconst O (pc := 62) (v := nI 1) dX3_gave_62 (by decide) ?_
      refine ld_goto O (pc := 63) 67 dX3_gave_63 (by decide) ?_
      refine ld_iadd O (pc := 67) dX3_gave_67 ?_
      refine ld_iast O (pc := 68) 22 0 rfl (by decide) (show 0 < 8 by omega) dX3_gave_68 ?_
      refine ld_iload_n O (pc := 69) 1 dX3_gave_69 rfl rfl ?_
      refine ld_iretz E (Or.inr rfl) dX3_gave_70 ?_
      refine ⟨(ld_b_t (by omega)).symm, _, us_us _ _ _ _, fun _ => ?_, fun z => absurd (by omega) z⟩
      unfold ld_gv ld_nb
      first | (rw [if_pos (by omega)]; rfl) | (rw [if_neg (by omega)]; rfl)
set_option maxHeartbeats 4000000 in
set_option maxRecDepth 100000 in
theorem c_X3_keepAll (l : Launch) (ad : Nat → Nat) (σ : ld_St) (h : Nat) (hh : σ 141 0 = nI h) (h8 : h ≤ 8) : ld_Ctr l yX3_keepAll cX3_keepAll 2 none (0, 0) [.ref (ad 8)] ad σ (ld_V (fun (σ2 : ld_St) => ∃ a0 a1 a2 : Nat → Int32, σ2 = us (us (us (us (us σ 147 (fun _ => σ 142 0)) 148 (fun _ => σ 143 0)) 28 a0) 29 a1) 30 a2 ∧ ∀ x, x < h → a0 x = σ 21 x ∧ a1 x = σ 22 x ∧ a2 x = σ 23 x)) := by
  refine ld_entry (by decide +kernel) (Nat.le_of_ble_eq_true rfl) (fun K O E => ?_)
  have O : ld_Ok l K ad cX3_keepAll 2 RX3 (ld_rm (0, 0)) := O
  show K σ [(0, .ref (ad 8))] [] 0
  refine ld_aload_n O (pc := 0) 0 dX3_keepAll_0 rfl rfl ?_
  refine ld_aload_n O (pc := 1) 0 dX3_keepAll_1 rfl rfl ?_
  refine ld_g_M_crateNow O (pc := 2) (v := σ 142 0) ld_w121 rfl dX3_keepAll_2 ?_
  refine ld_p_M_crateKept O (pc := 5) ld_w352 dX3_keepAll_5 ?_
  refine ld_aload_n O (pc := 8) 0 dX3_keepAll_8 rfl rfl ?_
  refine ld_aload_n O (pc := 9) 0 dX3_keepAll_9 rfl rfl ?_
  refine ld_g_M_weekNow O (pc := 10) (v := σ 143 0) ld_w122 rfl dX3_keepAll_10 ?_
  refine ld_p_M_weekKept O (pc := 13) ld_w353 dX3_keepAll_13 ?_
  refine ld_iconst O (pc := 16) (v := nI 0) dX3_keepAll_16 (by decide) ?_
  refine ld_istore_n O (pc := 17) [(1, .int (nI 0)), (0, .ref (ad 8))] dX3_keepAll_17 rfl (by decide) rfl ?_
  have L18 : ∀ (m_18 : Nat) (i : Nat) (a0 : Nat → Int32) (a1 : Nat → Int32) (a2 : Nat → Int32), h - i < m_18 → (i ≤ h) → (∀ x, x < i → a0 x = σ 21 x) → (∀ x, x < i → a1 x = σ 22 x) → (∀ x, x < i → a2 x = σ 23 x) → K (us (us (us (us (us σ 147 (fun _ => σ 142 0)) 148 (fun _ => σ 143 0)) 28 a0) 29 a1) 30 a2) [(0, .ref (ad 8)), (1, .int (nI i))] [] 18 := by
    intro m_18
    induction m_18 with
    | zero => intro i a0 a1 a2 hm_; exact absurd hm_ (Nat.not_lt_zero _)
    | succ m_18 ih18 =>
      intro i a0 a1 a2 hm_18 hi e0 e1 e2
      refine ld_iload_n O (pc := 18) 1 dX3_keepAll_18 rfl rfl ?_
      refine ld_aload_n O (pc := 19) 0 dX3_keepAll_19 rfl rfl ?_
      refine ld_g_M_houses O (pc := 20) (v := nI h) ld_w119 hh dX3_keepAll_20 ?_
      refine ld_icmp_ge O (pc := 23) ((i : Nat) : Int) ((h : Nat) : Int) (nI_toInt (by omega)) (nI_toInt (by omega)) 68 dX3_keepAll_23 (by decide) (fun c1 => ?_) (fun c1 => ?_)
      · refine ld_vret E dX3_keepAll_68 ?_
        have ei : i = h := by omega
        rw [ei] at e0 e1 e2
        exact ⟨a0, a1, a2, rfl, fun x hx => ⟨e0 x hx, e1 x hx, e2 x hx⟩⟩
      · refine ld_aload_n O (pc := 26) 0 dX3_keepAll_26 rfl rfl ?_
        refine ld_g_M_temperKept O (pc := 27) ld_w59 dX3_keepAll_27 ?_
        refine ld_iload_n O (pc := 30) 1 dX3_keepAll_30 rfl rfl ?_
        refine ld_aload_n O (pc := 31) 0 dX3_keepAll_31 rfl rfl ?_
        refine ld_g_M_temperOf O (pc := 32) ld_w52 dX3_keepAll_32 ?_
        refine ld_iload_n O (pc := 35) 1 dX3_keepAll_35 rfl rfl ?_
        refine ld_iald O (pc := 36) 21 i (v := σ 21 i) rfl (by decide) (show i < 8 by omega) rfl dX3_keepAll_36 ?_
        refine ld_iast O (pc := 37) 28 i rfl (by decide) (show i < 8 by omega) dX3_keepAll_37 ?_
        refine ld_aload_n O (pc := 38) 0 dX3_keepAll_38 rfl rfl ?_
        refine ld_g_M_stockKept O (pc := 39) ld_w60 dX3_keepAll_39 ?_
        refine ld_iload_n O (pc := 42) 1 dX3_keepAll_42 rfl rfl ?_
        refine ld_aload_n O (pc := 43) 0 dX3_keepAll_43 rfl rfl ?_
        refine ld_g_M_stockOf O (pc := 44) ld_w53 dX3_keepAll_44 ?_
        refine ld_iload_n O (pc := 47) 1 dX3_keepAll_47 rfl rfl ?_
        refine ld_iald O (pc := 48) 22 i (v := σ 22 i) rfl (by decide) (show i < 8 by omega) rfl dX3_keepAll_48 ?_
        refine ld_iast O (pc := 49) 29 i rfl (by decide) (show i < 8 by omega) dX3_keepAll_49 ?_
        refine ld_aload_n O (pc := 50) 0 dX3_keepAll_50 rfl rfl ?_
        refine ld_g_M_pipsKept O (pc := 51) ld_w61 dX3_keepAll_51 ?_
        refine ld_iload_n O (pc := 54) 1 dX3_keepAll_54 rfl rfl ?_
        refine ld_aload_n O (pc := 55) 0 dX3_keepAll_55 rfl rfl ?_
        refine ld_g_M_pipsOf O (pc := 56) ld_w54 dX3_keepAll_56 ?_
        refine ld_iload_n O (pc := 59) 1 dX3_keepAll_59 rfl rfl ?_
        refine ld_iald O (pc := 60) 23 i (v := σ 23 i) rfl (by decide) (show i < 8 by omega) rfl dX3_keepAll_60 ?_
        refine ld_iast O (pc := 61) 30 i rfl (by decide) (show i < 8 by omega) dX3_keepAll_61 ?_
        refine ld_iincN O (pc := 62) [(1, .int (nI (i + 1))), (0, .ref (ad 8))] 1 dX3_keepAll_62 rfl (by decide) rfl ?_
        refine ld_goto O (pc := 65) 18 dX3_keepAll_65 (by decide) ?_
        refine ld_less O [1, 0] (lv2 := [(0, .ref (ad 8)), (1, .int (nI (i + 1)))]) rfl ?_
        have hs2 : us (us (us (us (us (us (us (us σ 147 (fun _ => σ 142 0)) 148 (fun _ => σ 143 0)) 28 a0) 29 a1) 30 a2) 28 (upd (a0) i (σ 21 i))) 29 (upd (a1) i (σ 22 i))) 30 (upd (a2) i (σ 23 i)) = us (us (us (us (us σ 147 (fun _ => σ 142 0)) 148 (fun _ => σ 143 0)) 28 (upd (a0) i (σ 21 i))) 29 (upd (a1) i (σ 22 i))) 30 (upd (a2) i (σ 23 i)) := by
          funext b_
          by_cases h0_ : b_ = 147
          · subst h0_; exact ((us_ne _ _ (by decide)).trans ((us_ne _ _ (by decide)).trans ((us_ne _ _ (by decide)).trans ((us_ne _ _ (by decide)).trans ((us_ne _ _ (by decide)).trans ((us_ne _ _ (by decide)).trans ((us_ne _ _ (by decide)).trans (us_eq _ _ _)))))))).trans ((us_ne _ _ (by decide)).trans ((us_ne _ _ (by decide)).trans ((us_ne _ _ (by decide)).trans ((us_ne _ _ (by decide)).trans (us_eq _ _ _))))).symm
          by_cases h1_ : b_ = 148
          · subst h1_; exact ((us_ne _ _ (by decide)).trans ((us_ne _ _ (by decide)).trans ((us_ne _ _ (by decide)).trans ((us_ne _ _ (by decide)).trans ((us_ne _ _ (by decide)).trans ((us_ne _ _ (by decide)).trans (us_eq _ _ _))))))).trans ((us_ne _ _ (by decide)).trans ((us_ne _ _ (by decide)).trans ((us_ne _ _ (by decide)).trans (us_eq _ _ _)))).symm
          by_cases h2_ : b_ = 28
          · subst h2_; exact ((us_ne _ _ (by decide)).trans ((us_ne _ _ (by decide)).trans (us_eq _ _ _))).trans ((us_ne _ _ (by decide)).trans ((us_ne _ _ (by decide)).trans (us_eq _ _ _))).symm
          by_cases h3_ : b_ = 29
          · subst h3_; exact ((us_ne _ _ (by decide)).trans (us_eq _ _ _)).trans ((us_ne _ _ (by decide)).trans (us_eq _ _ _)).symm
          by_cases h4_ : b_ = 30
          · subst h4_; exact (us_eq _ _ _).trans (us_eq _ _ _).symm
          simp only [us, h0_, h1_, h2_, h3_, h4_, if_false]
        refine ld_cv hs2 ?_
        exact ih18 (i + 1) (upd (a0) i (σ 21 i)) (upd (a1) i (σ 22 i)) (upd (a2) i (σ 23 i)) (by omega) (by omega) (ld_ext e0 rfl) (ld_ext e1 rfl) (ld_ext e2 rfl)
  refine ld_less O [1, 0] (lv2 := [(0, .ref (ad 8)), (1, .int (nI 0))]) rfl ?_
  have hs3 : us (us σ 147 (fun _ => σ 142 0)) 148 (fun _ => σ 143 0) = us (us (us (us (us σ 147 (fun _ => σ 142 0)) 148 (fun _ => σ 143 0)) 28 (σ 28)) 29 (σ 29)) 30 (σ 30) := by
    funext b_
    by_cases h0_ : b_ = 147
    · subst h0_; exact ((us_ne _ _ (by decide)).trans (us_eq _ _ _)).trans ((us_ne _ _ (by decide)).trans ((us_ne _ _ (by decide)).trans ((us_ne _ _ (by decide)).trans ((us_ne _ _ (by decide)).trans (us_eq _ _ _))))).symm
    by_cases h1_ : b_ = 148
    · subst h1_; exact (us_eq _ _ _).trans ((us_ne _ _ (by decide)).trans ((us_ne _ _ (by decide)).trans ((us_ne _ _ (by decide)).trans (us_eq _ _ _)))).symm
    by_cases h2_ : b_ = 28
    · subst h2_; exact ((us_ne _ _ (by decide)).trans (us_ne _ _ (by decide))).trans ((us_ne _ _ (by decide)).trans ((us_ne _ _ (by decide)).trans (us_eq _ _ _))).symm
    by_cases h3_ : b_ = 29
    · subst h3_; exact ((us_ne _ _ (by decide)).trans (us_ne _ _ (by decide))).trans ((us_ne _ _ (by decide)).trans (us_eq _ _ _)).symm
    by_cases h4_ : b_ = 30
    · subst h4_; exact ((us_ne _ _ (by decide)).trans (us_ne _ _ (by decide))).trans (us_eq _ _ _).symm
    simp only [us, h0_, h1_, h2_, h3_, h4_, if_false]
  refine ld_cv hs3 ?_
  exact L18 _ 0 (σ 28) (σ 29) (σ 30) (Nat.lt_succ_self _) (Nat.zero_le _) (fun x hx => absurd hx (Nat.not_lt_zero x)) (fun x hx => absurd hx (Nat.not_lt_zero x)) (fun x hx => absurd hx (Nat.not_lt_zero x))
set_option maxHeartbeats 4000000 in
set_option maxRecDepth 100000 in
theorem c_X3_bringBack (l : Launch) (ad : Nat → Nat) (σ : ld_St) (h : Nat) (hh : σ 141 0 = nI h) (h8 : h ≤ 8) : ld_Ctr l yX3_bringBack cX3_bringBack 2 none (0, 0) [.ref (ad 8)] ad σ (ld_V (fun (σ2 : ld_St) => ∃ a0 a1 a2 : Nat → Int32, σ2 = us (us (us (us (us σ 142 (fun _ => σ 147 0)) 143 (fun _ => σ 148 0)) 21 a0) 22 a1) 23 a2 ∧ ∀ x, x < h → a0 x = σ 28 x ∧ a1 x = σ 29 x ∧ a2 x = σ 30 x)) := by
  refine ld_entry (by decide +kernel) (Nat.le_of_ble_eq_true rfl) (fun K O E => ?_)
  have O : ld_Ok l K ad cX3_bringBack 2 RX3 (ld_rm (0, 0)) := O
  show K σ [(0, .ref (ad 8))] [] 0
  refine ld_aload_n O (pc := 0) 0 dX3_bringBack_0 rfl rfl ?_
  refine ld_aload_n O (pc := 1) 0 dX3_bringBack_1 rfl rfl ?_
  refine ld_g_M_crateKept O (pc := 2) (v := σ 147 0) ld_w352 rfl dX3_bringBack_2 ?_
  refine ld_p_M_crateNow O (pc := 5) ld_w121 dX3_bringBack_5 ?_
  refine ld_aload_n O (pc := 8) 0 dX3_bringBack_8 rfl rfl ?_
  refine ld_aload_n O (pc := 9) 0 dX3_bringBack_9 rfl rfl ?_
  refine ld_g_M_weekKept O (pc := 10) (v := σ 148 0) ld_w353 rfl dX3_bringBack_10 ?_
  refine ld_p_M_weekNow O (pc := 13) ld_w122 dX3_bringBack_13 ?_
  refine ld_iconst O (pc := 16) (v := nI 0) dX3_bringBack_16 (by decide) ?_
  refine ld_istore_n O (pc := 17) [(1, .int (nI 0)), (0, .ref (ad 8))] dX3_bringBack_17 rfl (by decide) rfl ?_
  have L18 : ∀ (m_18 : Nat) (i : Nat) (a0 : Nat → Int32) (a1 : Nat → Int32) (a2 : Nat → Int32), h - i < m_18 → (i ≤ h) → (∀ x, x < i → a0 x = σ 28 x) → (∀ x, x < i → a1 x = σ 29 x) → (∀ x, x < i → a2 x = σ 30 x) → K (us (us (us (us (us σ 142 (fun _ => σ 147 0)) 143 (fun _ => σ 148 0)) 21 a0) 22 a1) 23 a2) [(0, .ref (ad 8)), (1, .int (nI i))] [] 18 := by
    intro m_18
    induction m_18 with
    | zero => intro i a0 a1 a2 hm_; exact absurd hm_ (Nat.not_lt_zero _)
    | succ m_18 ih18 =>
      intro i a0 a1 a2 hm_18 hi e0 e1 e2
      refine ld_iload_n O (pc := 18) 1 dX3_bringBack_18 rfl rfl ?_
      refine ld_aload_n O (pc := 19) 0 dX3_bringBack_19 rfl rfl ?_
      refine ld_g_M_houses O (pc := 20) (v := nI h) ld_w119 hh dX3_bringBack_20 ?_
      refine ld_icmp_ge O (pc := 23) ((i : Nat) : Int) ((h : Nat) : Int) (nI_toInt (by omega)) (nI_toInt (by omega)) 68 dX3_bringBack_23 (by decide) (fun c1 => ?_) (fun c1 => ?_)
      · refine ld_vret E dX3_bringBack_68 ?_
        have ei : i = h := by omega
        rw [ei] at e0 e1 e2
        exact ⟨a0, a1, a2, rfl, fun x hx => ⟨e0 x hx, e1 x hx, e2 x hx⟩⟩
      · refine ld_aload_n O (pc := 26) 0 dX3_bringBack_26 rfl rfl ?_
        refine ld_g_M_temperOf O (pc := 27) ld_w52 dX3_bringBack_27 ?_
        refine ld_iload_n O (pc := 30) 1 dX3_bringBack_30 rfl rfl ?_
        refine ld_aload_n O (pc := 31) 0 dX3_bringBack_31 rfl rfl ?_
        refine ld_g_M_temperKept O (pc := 32) ld_w59 dX3_bringBack_32 ?_
        refine ld_iload_n O (pc := 35) 1 dX3_bringBack_35 rfl rfl ?_
        refine ld_iald O (pc := 36) 28 i (v := σ 28 i) rfl (by decide) (show i < 8 by omega) rfl dX3_bringBack_36 ?_
        refine ld_iast O (pc := 37) 21 i rfl (by decide) (show i < 8 by omega) dX3_bringBack_37 ?_
        refine ld_aload_n O (pc := 38) 0 dX3_bringBack_38 rfl rfl ?_
        refine ld_g_M_stockOf O (pc := 39) ld_w53 dX3_bringBack_39 ?_
        refine ld_iload_n O (pc := 42) 1 dX3_bringBack_42 rfl rfl ?_
        refine ld_aload_n O (pc := 43) 0 dX3_bringBack_43 rfl rfl ?_
        refine ld_g_M_stockKept O (pc := 44) ld_w60 dX3_bringBack_44 ?_
        refine ld_iload_n O (pc := 47) 1 dX3_bringBack_47 rfl rfl ?_
        refine ld_iald O (pc := 48) 29 i (v := σ 29 i) rfl (by decide) (show i < 8 by omega) rfl dX3_bringBack_48 ?_
        refine ld_iast O (pc := 49) 22 i rfl (by decide) (show i < 8 by omega) dX3_bringBack_49 ?_
        refine ld_aload_n O (pc := 50) 0 dX3_bringBack_50 rfl rfl ?_
        refine ld_g_M_pipsOf O (pc := 51) ld_w54 dX3_bringBack_51 ?_
        refine ld_iload_n O (pc := 54) 1 dX3_bringBack_54 rfl rfl ?_
        refine ld_aload_n O (pc := 55) 0 dX3_bringBack_55 rfl rfl ?_
        refine ld_g_M_pipsKept O (pc := 56) ld_w61 dX3_bringBack_56 ?_
        refine ld_iload_n O (pc := 59) 1 dX3_bringBack_59 rfl rfl ?_
        refine ld_iald O (pc := 60) 30 i (v := σ 30 i) rfl (by decide) (show i < 8 by omega) rfl dX3_bringBack_60 ?_
        refine ld_iast O (pc := 61) 23 i rfl (by decide) (show i < 8 by omega) dX3_bringBack_61 ?_
        refine ld_iincN O (pc := 62) [(1, .int (nI (i + 1))), (0, .ref (ad 8))] 1 dX3_bringBack_62 rfl (by decide) rfl ?_
        refine ld_goto O (pc := 65) 18 dX3_bringBack_65 (by decide) ?_
        refine ld_less O [1, 0] (lv2 := [(0, .ref (ad 8)), (1, .int (nI (i + 1)))]) rfl ?_
        have hs2 : us (us (us (us (us (us (us (us σ 142 (fun _ => σ 147 0)) 143 (fun _ => σ 148 0)) 21 a0) 22 a1) 23 a2) 21 (upd (a0) i (σ 28 i))) 22 (upd (a1) i (σ 29 i))) 23 (upd (a2) i (σ 30 i)) = us (us (us (us (us σ 142 (fun _ => σ 147 0)) 143 (fun _ => σ 148 0)) 21 (upd (a0) i (σ 28 i))) 22 (upd (a1) i (σ 29 i))) 23 (upd (a2) i (σ 30 i)) := by
          funext b_
          by_cases h0_ : b_ = 142
          · subst h0_; exact ((us_ne _ _ (by decide)).trans ((us_ne _ _ (by decide)).trans ((us_ne _ _ (by decide)).trans ((us_ne _ _ (by decide)).trans ((us_ne _ _ (by decide)).trans ((us_ne _ _ (by decide)).trans ((us_ne _ _ (by decide)).trans (us_eq _ _ _)))))))).trans ((us_ne _ _ (by decide)).trans ((us_ne _ _ (by decide)).trans ((us_ne _ _ (by decide)).trans ((us_ne _ _ (by decide)).trans (us_eq _ _ _))))).symm
          by_cases h1_ : b_ = 143
          · subst h1_; exact ((us_ne _ _ (by decide)).trans ((us_ne _ _ (by decide)).trans ((us_ne _ _ (by decide)).trans ((us_ne _ _ (by decide)).trans ((us_ne _ _ (by decide)).trans ((us_ne _ _ (by decide)).trans (us_eq _ _ _))))))).trans ((us_ne _ _ (by decide)).trans ((us_ne _ _ (by decide)).trans ((us_ne _ _ (by decide)).trans (us_eq _ _ _)))).symm
          by_cases h2_ : b_ = 21
          · subst h2_; exact ((us_ne _ _ (by decide)).trans ((us_ne _ _ (by decide)).trans (us_eq _ _ _))).trans ((us_ne _ _ (by decide)).trans ((us_ne _ _ (by decide)).trans (us_eq _ _ _))).symm
          by_cases h3_ : b_ = 22
          · subst h3_; exact ((us_ne _ _ (by decide)).trans (us_eq _ _ _)).trans ((us_ne _ _ (by decide)).trans (us_eq _ _ _)).symm
          by_cases h4_ : b_ = 23
          · subst h4_; exact (us_eq _ _ _).trans (us_eq _ _ _).symm
          simp only [us, h0_, h1_, h2_, h3_, h4_, if_false]
        refine ld_cv hs2 ?_
        exact ih18 (i + 1) (upd (a0) i (σ 28 i)) (upd (a1) i (σ 29 i)) (upd (a2) i (σ 30 i)) (by omega) (by omega) (ld_ext e0 rfl) (ld_ext e1 rfl) (ld_ext e2 rfl)
  refine ld_less O [1, 0] (lv2 := [(0, .ref (ad 8)), (1, .int (nI 0))]) rfl ?_
  have hs3 : us (us σ 142 (fun _ => σ 147 0)) 143 (fun _ => σ 148 0) = us (us (us (us (us σ 142 (fun _ => σ 147 0)) 143 (fun _ => σ 148 0)) 21 (σ 21)) 22 (σ 22)) 23 (σ 23) := by
    funext b_
    by_cases h0_ : b_ = 142
    · subst h0_; exact ((us_ne _ _ (by decide)).trans (us_eq _ _ _)).trans ((us_ne _ _ (by decide)).trans ((us_ne _ _ (by decide)).trans ((us_ne _ _ (by decide)).trans ((us_ne _ _ (by decide)).trans (us_eq _ _ _))))).symm
    by_cases h1_ : b_ = 143
    · subst h1_; exact (us_eq _ _ _).trans ((us_ne _ _ (by decide)).trans ((us_ne _ _ (by decide)).trans ((us_ne _ _ (by decide)).trans (us_eq _ _ _)))).symm
    by_cases h2_ : b_ = 21
    · subst h2_; exact ((us_ne _ _ (by decide)).trans (us_ne _ _ (by decide))).trans ((us_ne _ _ (by decide)).trans ((us_ne _ _ (by decide)).trans (us_eq _ _ _))).symm
    by_cases h3_ : b_ = 22
    · subst h3_; exact ((us_ne _ _ (by decide)).trans (us_ne _ _ (by decide))).trans ((us_ne _ _ (by decide)).trans (us_eq _ _ _)).symm
    by_cases h4_ : b_ = 23
    · subst h4_; exact ((us_ne _ _ (by decide)).trans (us_ne _ _ (by decide))).trans (us_eq _ _ _).symm
    simp only [us, h0_, h1_, h2_, h3_, h4_, if_false]
  refine ld_cv hs3 ?_
  exact L18 _ 0 (σ 21) (σ 22) (σ 23) (Nat.lt_succ_self _) (Nat.zero_le _) (fun x hx => absurd hx (Nat.not_lt_zero x)) (fun x hx => absurd hx (Nat.not_lt_zero x)) (fun x hx => absurd hx (Nat.not_lt_zero x))
