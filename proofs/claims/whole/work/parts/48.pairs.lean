def ld_PI (l : Launch) (ad : Nat → Nat) (T : Nat) (σ : ld_St) (y : MethodName) (b : ByteArray) (n : Nat) (rm : Nat × Nat) (y2 : MethodName) (b2 : ByteArray) (n2 : Nat) (rm2 : Nat × Nat) (as : List Value) : Prop := ∃ P : Int32 → ld_St → Prop, ld_Ctr l y b n (some .int) rm (.ref (ad 0) :: as) ad σ (ld_I P) ∧ ∀ r σ1, P r σ1 → ∃ P2 : Int32 → ld_St → Prop, ld_Ctr l y2 b2 n2 (some .int) rm2 (.ref (ad 8) :: as) ad σ1 (ld_I P2) ∧ ∀ r2 σ2, P2 r2 σ2 → r = r2 ∧ ld_J (T + 60) σ2
def ld_PL (l : Launch) (ad : Nat → Nat) (T : Nat) (σ : ld_St) (y : MethodName) (b : ByteArray) (n : Nat) (rm : Nat × Nat) (y2 : MethodName) (b2 : ByteArray) (n2 : Nat) (rm2 : Nat × Nat) (as : List Value) : Prop := ∃ P : Int64 → ld_St → Prop, ld_Ctr l y b n (some .long) rm (.ref (ad 0) :: as) ad σ (ld_L P) ∧ ∀ r σ1, P r σ1 → ∃ P2 : Int64 → ld_St → Prop, ld_Ctr l y2 b2 n2 (some .long) rm2 (.ref (ad 8) :: as) ad σ1 (ld_L P2) ∧ ∀ r2 σ2, P2 r2 σ2 → r = r2 ∧ ld_J (T + 60) σ2
theorem ld_J.mono {T T2 : Nat} {σ : ld_St} (J : ld_J T σ) (hT : T ≤ T2) : ld_J T2 σ := by
  obtain ⟨h, q, cr, ⟨h8, q8, c99⟩, ⟨hh, hh2⟩, ⟨hc, hc2⟩, hw, hx, hbd, ⟨hq, hq2⟩, hr, htr, hft, hs⟩ := J
  exact ⟨h, q, cr, ⟨h8, q8, c99⟩, ⟨hh, hh2⟩, ⟨hc, hc2⟩, hw, hx, ld_bd_mono hbd hT, ⟨hq, hq2⟩, hr, htr, hft, hs⟩
theorem ld_dgt {c : Int32} (h : ld_dg c) : ∃ a, a < 10 ∧ c = nI (48 + a) := by
  unfold ld_dg at h
  obtain ⟨e1, e2, e3⟩ := ld_ofIx (k := c) (h := 58) ⟨by omega, h.2⟩
  exact ⟨ld_ix c - 48, by omega, by rw [show 48 + (ld_ix c - 48) = ld_ix c by omega]; exact e1⟩
theorem ld_dg1 : ∀ a, a < 10 → nI (48 + a) - nI 48 = nI a := by decide +kernel
theorem ld_dg2 : ∀ a, a < 10 → ∀ b, b < 10 → (nI (48 + a) - nI 48) * nI 10 + nI (48 + b) - nI 48 = nI (10 * a + b) := by decide +kernel
theorem ld_kl3 {c : Int32} (h : ¬ (ld_kl c).toInt = -9) : 0 ≤ (ld_kl c).toInt ∧ (ld_kl c).toInt ≤ 2 := by
  unfold ld_kl at h ⊢
  split
  · decide
  · split
    · decide
    · split
      · decide
      · rename_i a b c
        rw [if_neg a, if_neg b, if_neg c] at h
        exact absurd (by decide) h
theorem ld_p_ofHouse {l : Launch} {ad : Nat → Nat} {T : Nat} {σ : ld_St} (J : ld_J T σ) (hT : T ≤ 8000) (k what : Int32) : ld_PI l ad T σ yX2_ofHouse cX2_ofHouse 3 (3, 69) yX3_ofHouse cX3_ofHouse 3 (3, 74) [.int k, .int what] := by
  have J0 := J
  obtain ⟨h, q, cr, ⟨h8, q8, c99⟩, ⟨hh, hh2⟩, ⟨hc, hc2⟩, hw, hx, hbd, ⟨hq, hq2⟩, hr, htr, hft, hs⟩ := J
  have e0 : ∀ x, x < h → σ 0 x = σ 20 x := fun x z => (hx x z).1
  have e1 : ∀ x, x < h → σ 1 x = σ 21 x := fun x z => (hx x z).2.1
  have e2 : ∀ x, x < h → σ 2 x = σ 22 x := fun x z => (hx x z).2.2.1
  have e3 : ∀ x, x < h → σ 3 x = σ 23 x := fun x z => (hx x z).2.2.2
  have eV : ld_eqv h (σ 1, σ 2, σ 3) (σ 21, σ 22, σ 23) := fun x z => (hx x z).2
  refine ⟨_, c_X2_ofHouse l ad σ h hh h8 k what, ?_⟩
  rintro r σ1 ⟨rfl, f4, f5, f6, rfl⟩
  refine ⟨_, c_X3_ofHouse l ad _ h (by (try simp (disch := decide) only [us_ne, us_eq]); exact hh2) h8 (by (try simp (disch := decide) only [us_ne, us_eq]); exact hbd.kt) k what, ?_⟩
  rintro r2 σ2 ⟨rfl, rfl⟩
  refine ⟨?_, ?_⟩
  · (try simp (disch := decide) only [us_ne, us_eq])
    rw [hc, hc2]
    exact ld_fOf_cong e0 e1 e2 e3
  · exact ((((J0.scr _ (by unfold ld_scrA; decide)).scr _ (by unfold ld_scrA; decide)).scr _ (by unfold ld_scrA; decide))).mono (by omega)
theorem ld_p_deal {l : Launch} {ad : Nat → Nat} {T : Nat} {σ : ld_St} (J : ld_J T σ) (hT : T ≤ 8000) (k c : Int32) : ld_PI l ad T σ yX2_deal cX2_deal 3 (3, 69) yX3_deal cX3_deal 3 (3, 74) [.int k, .int c] := by
  have J0 := J
  obtain ⟨h, q, cr, ⟨h8, q8, c99⟩, ⟨hh, hh2⟩, ⟨hc, hc2⟩, hw, hx, hbd, ⟨hq, hq2⟩, hr, htr, hft, hs⟩ := J
  have e0 : ∀ x, x < h → σ 0 x = σ 20 x := fun x z => (hx x z).1
  have e1 : ∀ x, x < h → σ 1 x = σ 21 x := fun x z => (hx x z).2.1
  have e2 : ∀ x, x < h → σ 2 x = σ 22 x := fun x z => (hx x z).2.2.1
  have e3 : ∀ x, x < h → σ 3 x = σ 23 x := fun x z => (hx x z).2.2.2
  have eV : ld_eqv h (σ 1, σ 2, σ 3) (σ 21, σ 22, σ 23) := fun x z => (hx x z).2
  refine ⟨_, c_X2_deal l ad σ h hh h8 k c, ?_⟩
  rintro r σ1 ⟨rfl, f4, f5, f6, rfl⟩
  refine ⟨_, c_X3_deal l ad _ h (by (try simp (disch := decide) only [us_ne, us_eq]); exact hh2) h8 (by (try simp (disch := decide) only [us_ne, us_eq]); exact hbd.kt) k c, ?_⟩
  rintro r2 σ2 ⟨rfl, rfl⟩
  refine ⟨?_, ?_⟩
  · (try simp (disch := decide) only [us_ne, us_eq])
    exact ld_fDe_cong e0 e1
  · exact ((((J0.scr _ (by unfold ld_scrA; decide)).scr _ (by unfold ld_scrA; decide)).scr _ (by unfold ld_scrA; decide))).mono (by omega)
theorem ld_p_wonder {l : Launch} {ad : Nat → Nat} {T : Nat} {σ : ld_St} (J : ld_J T σ) (hT : T ≤ 8000) (what : Int32) : ld_PI l ad T σ yX2_wonder cX2_wonder 4 (3, 69) yX3_wonder cX3_wonder 6 (3, 74) [.int what] := by
  have J0 := J
  obtain ⟨h, q, cr, ⟨h8, q8, c99⟩, ⟨hh, hh2⟩, ⟨hc, hc2⟩, hw, hx, hbd, ⟨hq, hq2⟩, hr, htr, hft, hs⟩ := J
  have e0 : ∀ x, x < h → σ 0 x = σ 20 x := fun x z => (hx x z).1
  have e1 : ∀ x, x < h → σ 1 x = σ 21 x := fun x z => (hx x z).2.1
  have e2 : ∀ x, x < h → σ 2 x = σ 22 x := fun x z => (hx x z).2.2.1
  have e3 : ∀ x, x < h → σ 3 x = σ 23 x := fun x z => (hx x z).2.2.2
  have eV : ld_eqv h (σ 1, σ 2, σ 3) (σ 21, σ 22, σ 23) := fun x z => (hx x z).2
  refine ⟨_, c_X2_wonder l ad σ h hh h8 cr hc c99 what, ?_⟩
  rintro r σ1 ⟨rfl, a0, a1, a2, g0, g1, g2, g3, g4, g5, g6, g7, g8, g9, g10, rfl⟩
  refine ⟨_, c_X3_wonder l ad _ h (by (try simp (disch := decide) only [us_ne, us_eq]); exact hh2) h8 (by (try simp (disch := decide) only [us_ne, us_eq]); exact hbd.kt) cr (by (try simp (disch := decide) only [us_ne, us_eq]); exact hc2) c99 what, ?_⟩
  rintro r2 σ2 ⟨rfl, rfl⟩
  refine ⟨?_, ?_⟩
  · (try simp (disch := decide) only [us_ne, us_eq])
    exact ld_fWo_cong e0 e1
  · exact (((((((((((((((J0.scr _ (by unfold ld_scrA; decide)).scr _ (by unfold ld_scrA; decide)).scr _ (by unfold ld_scrA; decide)).scr _ (by unfold ld_scrA; decide)).scr _ (by unfold ld_scrA; decide)).scr _ (by unfold ld_scrA; decide)).scr _ (by unfold ld_scrA; decide)).scr _ (by unfold ld_scrA; decide)).scr _ (by unfold ld_scrA; decide)).scr _ (by unfold ld_scrA; decide)).scr _ (by unfold ld_scrA; decide)).scr _ (by unfold ld_scrA; decide)).scr _ (by unfold ld_scrA; decide)).scr _ (by unfold ld_scrA; decide))).mono (by omega)
theorem ld_p_otherwise {l : Launch} {ad : Nat → Nat} {T : Nat} {σ : ld_St} (J : ld_J T σ) (hT : T ≤ 8000) (k : Int32) : ld_PI l ad T σ yX2_otherwise cX2_otherwise 2 (3, 67) yX3_otherwise cX3_otherwise 4 (2, 46) [.int k] := by
  have J0 := J
  obtain ⟨h, q, cr, ⟨h8, q8, c99⟩, ⟨hh, hh2⟩, ⟨hc, hc2⟩, hw, hx, hbd, ⟨hq, hq2⟩, hr, htr, hft, hs⟩ := J
  have e0 : ∀ x, x < h → σ 0 x = σ 20 x := fun x z => (hx x z).1
  have e1 : ∀ x, x < h → σ 1 x = σ 21 x := fun x z => (hx x z).2.1
  have e2 : ∀ x, x < h → σ 2 x = σ 22 x := fun x z => (hx x z).2.2.1
  have e3 : ∀ x, x < h → σ 3 x = σ 23 x := fun x z => (hx x z).2.2.2
  have eV : ld_eqv h (σ 1, σ 2, σ 3) (σ 21, σ 22, σ 23) := fun x z => (hx x z).2
  refine ⟨_, c_X2_otherwise l ad σ h hh h8 cr hc c99 k, ?_⟩
  rintro r σ1 ⟨rfl, a0, a1, rfl⟩
  refine ⟨_, c_X3_otherwise l ad _ h (by (try simp (disch := decide) only [us_ne, us_eq]); exact hh2) h8 (by (try simp (disch := decide) only [us_ne, us_eq]); exact hbd.kt) cr (by (try simp (disch := decide) only [us_ne, us_eq]); exact hc2) c99 k, ?_⟩
  rintro r2 σ2 ⟨rfl, g, rfl⟩
  refine ⟨?_, ?_⟩
  · (try simp (disch := decide) only [us_ne, us_eq])
    exact ld_fOt_cong e0 e1
  · exact ((((J0.scr _ (by unfold ld_scrA; decide)).scr _ (by unfold ld_scrA; decide)).scr _ (by unfold ld_scrA; decide))).mono (by omega)
theorem ld_p_halves {l : Launch} {ad : Nat → Nat} {T : Nat} {σ : ld_St} (J : ld_J T σ) (hT : T ≤ 8000) (what : Int32) : ld_PI l ad T σ yX2_halves cX2_halves 6 (2, 45) yX3_halves cX3_halves 4 (2, 45) [.int what] := by
  have J0 := J
  obtain ⟨h, q, cr, ⟨h8, q8, c99⟩, ⟨hh, hh2⟩, ⟨hc, hc2⟩, hw, hx, hbd, ⟨hq, hq2⟩, hr, htr, hft, hs⟩ := J
  have e0 : ∀ x, x < h → σ 0 x = σ 20 x := fun x z => (hx x z).1
  have e1 : ∀ x, x < h → σ 1 x = σ 21 x := fun x z => (hx x z).2.1
  have e2 : ∀ x, x < h → σ 2 x = σ 22 x := fun x z => (hx x z).2.2.1
  have e3 : ∀ x, x < h → σ 3 x = σ 23 x := fun x z => (hx x z).2.2.2
  have eV : ld_eqv h (σ 1, σ 2, σ 3) (σ 21, σ 22, σ 23) := fun x z => (hx x z).2
  refine ⟨_, c_X2_halves l ad σ h hh h8 what, ?_⟩
  rintro r σ1 ⟨rfl, rfl⟩
  refine ⟨_, c_X3_halves l ad _ h (by (try simp (disch := decide) only [us_ne, us_eq]); exact hh2) h8 (by (try simp (disch := decide) only [us_ne, us_eq]); exact hbd.kt) what, ?_⟩
  rintro r2 σ2 ⟨rfl, rfl⟩
  refine ⟨?_, ?_⟩
  · (try simp (disch := decide) only [us_ne, us_eq])
    exact ld_fHa_cong (ld_ss_cong e0 e1)
  · exact (J0).mono (by omega)
theorem ld_p_odds {l : Launch} {ad : Nat → Nat} {T : Nat} {σ : ld_St} (J : ld_J T σ) (hT : T ≤ 8000) (k v which : Int32) : ld_PL l ad T σ yX2_odds cX2_odds 6 (3, 69) yX3_odds cX3_odds 7 (3, 74) [.int k, .int v, .int which] := by
  have J0 := J
  obtain ⟨h, q, cr, ⟨h8, q8, c99⟩, ⟨hh, hh2⟩, ⟨hc, hc2⟩, hw, hx, hbd, ⟨hq, hq2⟩, hr, htr, hft, hs⟩ := J
  have e0 : ∀ x, x < h → σ 0 x = σ 20 x := fun x z => (hx x z).1
  have e1 : ∀ x, x < h → σ 1 x = σ 21 x := fun x z => (hx x z).2.1
  have e2 : ∀ x, x < h → σ 2 x = σ 22 x := fun x z => (hx x z).2.2.1
  have e3 : ∀ x, x < h → σ 3 x = σ 23 x := fun x z => (hx x z).2.2.2
  have eV : ld_eqv h (σ 1, σ 2, σ 3) (σ 21, σ 22, σ 23) := fun x z => (hx x z).2
  refine ⟨_, c_X2_odds l ad σ h hh h8 k v which, ?_⟩
  rintro r σ1 ⟨rfl, f4, f5, f6, rfl⟩
  refine ⟨_, c_X3_odds l ad _ h (by (try simp (disch := decide) only [us_ne, us_eq]); exact hh2) h8 (by (try simp (disch := decide) only [us_ne, us_eq]); exact hbd.kt) k v which, ?_⟩
  rintro r2 σ2 ⟨rfl, rfl⟩
  refine ⟨?_, ?_⟩
  · (try simp (disch := decide) only [us_ne, us_eq])
    exact ld_fOd_cong e0 e1
  · exact ((((J0.scr _ (by unfold ld_scrA; decide)).scr _ (by unfold ld_scrA; decide)).scr _ (by unfold ld_scrA; decide))).mono (by omega)
theorem ld_p_trace {l : Launch} {ad : Nat → Nat} {T : Nat} {σ : ld_St} (J : ld_J T σ) (hT : T ≤ 8000) : ld_PI l ad T σ yX2_trace cX2_trace 1 (0, 0) yX3_trace cX3_trace 1 (0, 0) [] := by
  have J0 := J
  obtain ⟨h, q, cr, ⟨h8, q8, c99⟩, ⟨hh, hh2⟩, ⟨hc, hc2⟩, hw, hx, hbd, ⟨hq, hq2⟩, hr, htr, hft, hs⟩ := J
  have e0 : ∀ x, x < h → σ 0 x = σ 20 x := fun x z => (hx x z).1
  have e1 : ∀ x, x < h → σ 1 x = σ 21 x := fun x z => (hx x z).2.1
  have e2 : ∀ x, x < h → σ 2 x = σ 22 x := fun x z => (hx x z).2.2.1
  have e3 : ∀ x, x < h → σ 3 x = σ 23 x := fun x z => (hx x z).2.2.2
  have eV : ld_eqv h (σ 1, σ 2, σ 3) (σ 21, σ 22, σ 23) := fun x z => (hx x z).2
  refine ⟨_, c_X2_trace l ad σ  , ?_⟩
  rintro r σ1 ⟨rfl, rfl⟩
  refine ⟨_, c_X3_trace l ad _  , ?_⟩
  rintro r2 σ2 ⟨rfl, rfl⟩
  refine ⟨?_, ?_⟩
  · (try simp (disch := decide) only [us_ne, us_eq])
    exact htr
  · exact (J0).mono (by omega)
theorem ld_p_fault {l : Launch} {ad : Nat → Nat} {T : Nat} {σ : ld_St} (J : ld_J T σ) (hT : T ≤ 8000) : ld_PI l ad T σ yX2_fault cX2_fault 1 (0, 0) yX3_fault cX3_fault 1 (0, 0) [] := by
  have J0 := J
  obtain ⟨h, q, cr, ⟨h8, q8, c99⟩, ⟨hh, hh2⟩, ⟨hc, hc2⟩, hw, hx, hbd, ⟨hq, hq2⟩, hr, htr, hft, hs⟩ := J
  have e0 : ∀ x, x < h → σ 0 x = σ 20 x := fun x z => (hx x z).1
  have e1 : ∀ x, x < h → σ 1 x = σ 21 x := fun x z => (hx x z).2.1
  have e2 : ∀ x, x < h → σ 2 x = σ 22 x := fun x z => (hx x z).2.2.1
  have e3 : ∀ x, x < h → σ 3 x = σ 23 x := fun x z => (hx x z).2.2.2
  have eV : ld_eqv h (σ 1, σ 2, σ 3) (σ 21, σ 22, σ 23) := fun x z => (hx x z).2
  refine ⟨_, c_X2_fault l ad σ  , ?_⟩
  rintro r σ1 ⟨rfl, rfl⟩
  refine ⟨_, c_X3_fault l ad _  , ?_⟩
  rintro r2 σ2 ⟨rfl, rfl⟩
  refine ⟨?_, ?_⟩
  · (try simp (disch := decide) only [us_ne, us_eq])
    exact hft
  · exact (J0).mono (by omega)
theorem ld_p_many {l : Launch} {ad : Nat → Nat} {T : Nat} {σ : ld_St} (J : ld_J T σ) (hT : T ≤ 8000) (what : Int32) : ld_PI l ad T σ yX2_many cX2_many 2 (1, 22) yX3_many cX3_many 2 (1, 22) [.int what] := by
  have J0 := J
  obtain ⟨h, q, cr, ⟨h8, q8, c99⟩, ⟨hh, hh2⟩, ⟨hc, hc2⟩, hw, hx, hbd, ⟨hq, hq2⟩, hr, htr, hft, hs⟩ := J
  have e0 : ∀ x, x < h → σ 0 x = σ 20 x := fun x z => (hx x z).1
  have e1 : ∀ x, x < h → σ 1 x = σ 21 x := fun x z => (hx x z).2.1
  have e2 : ∀ x, x < h → σ 2 x = σ 22 x := fun x z => (hx x z).2.2.1
  have e3 : ∀ x, x < h → σ 3 x = σ 23 x := fun x z => (hx x z).2.2.2
  have eV : ld_eqv h (σ 1, σ 2, σ 3) (σ 21, σ 22, σ 23) := fun x z => (hx x z).2
  refine ⟨_, c_X2_many l ad σ h hh h8 q hq q8 what, ?_⟩
  rintro r σ1 ⟨rfl, rfl⟩
  refine ⟨_, c_X3_many l ad _ h (by (try simp (disch := decide) only [us_ne, us_eq]); exact hh2) h8 q (by (try simp (disch := decide) only [us_ne, us_eq]); exact hq2) q8 (by (try simp (disch := decide) only [us_ne, us_eq]); exact fun x z => (hbd x z).2.2.1) what, ?_⟩
  rintro r2 σ2 ⟨rfl, rfl⟩
  refine ⟨?_, ?_⟩
  · (try simp (disch := decide) only [us_ne, us_eq])
    rw [hc, hc2, hw]
    exact ld_fMa_cong e2
  · exact (J0).mono (by omega)
