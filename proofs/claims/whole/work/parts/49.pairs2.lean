theorem ld_bd_an {h : Nat} {kd t s p : Nat → Int32} {T : Nat} {k v : Int32} (b : ld_bd h kd t s p T) : ld_bd h kd (ld_gAn h t k v) s p T := by
  intro x hx
  obtain ⟨⟨b1, b2⟩, b3⟩ := b x hx
  refine ⟨⟨b1, ?_⟩, b3⟩
  unfold ld_gAn
  by_cases c : (0 ≤ k.toInt ∧ k.toInt < (h : Int)) ∧ 0 ≤ v.toInt ∧ v.toInt < 10
  · rw [if_pos c]
    by_cases q : x = ld_ix k
    · rw [q, pk_us]; omega
    · rw [pk_un q]; exact b2
  · rw [if_neg c]; exact b2
theorem ld_bd_gi {h : Nat} {kd t s p : Nat → Int32} {T : Nat} {k : Int32} (b : ld_bd h kd t s p T) (hT : T ≤ 9000) : ld_bd h kd t (ld_gGi h s k) p (T + 1) := by
  unfold ld_gGi
  by_cases c : (0 ≤ k.toInt ∧ k.toInt < (h : Int)) ∧ 0 < (s (ld_ix k)).toInt
  · rw [if_pos c]; exact ld_bd_gv b hT (ld_ofIx c.1).2.1 c.2
  · rw [if_neg c]; exact ld_bd_mono b (by omega)
theorem ld_gCr_n {h cr : Nat} {v : Int32} (c99 : cr ≤ 99) : ∃ c2, c2 ≤ 99 ∧ ld_gCr h (nI cr) v = nI c2 := by
  unfold ld_gCr
  by_cases c : 0 < h ∧ 0 ≤ v.toInt ∧ v.toInt < 100
  · rw [if_pos c]
    have e := ld_ofIx (k := v) (h := 100) c.2
    exact ⟨ld_ix v, by omega, e.1⟩
  · rw [if_neg c]; exact ⟨cr, c99, rfl⟩
theorem ld_gWk_le {h : Nat} {n : Int32} : ld_gWk h n ≤ 60 := by
  unfold ld_gWk
  by_cases c : (1 ≤ n.toInt ∧ n.toInt ≤ 60) ∧ 0 < h
  · rw [if_pos c]
    have := ld_ixv (k := n) (by omega)
    omega
  · rw [if_neg c]; omega
theorem ld_p_tempers {l : Launch} {ad : Nat → Nat} {T : Nat} {σ : ld_St} (J : ld_J T σ) (hT : T ≤ 8000) (k : Int32) : ld_PI l ad T σ yX2_tempers cX2_tempers 4 (3, 68) yX3_tempers cX3_tempers 5 (4, 96) [.int k] := by
  have J0 := J
  obtain ⟨h, q, cr, ⟨h8, q8, c99⟩, ⟨hh, hh2⟩, ⟨hc, hc2⟩, hw, hx, hbd, ⟨hq, hq2⟩, hr, htr, hft, hs⟩ := J
  have e0 : ∀ x, x < h → σ 0 x = σ 20 x := fun x z => (hx x z).1
  have e1 : ∀ x, x < h → σ 1 x = σ 21 x := fun x z => (hx x z).2.1
  have e2 : ∀ x, x < h → σ 2 x = σ 22 x := fun x z => (hx x z).2.2.1
  have e3 : ∀ x, x < h → σ 3 x = σ 23 x := fun x z => (hx x z).2.2.2
  have eV : ld_eqv h (σ 1, σ 2, σ 3) (σ 21, σ 22, σ 23) := fun x z => (hx x z).2
  refine ⟨_, c_X2_tempers l ad σ h hh h8 q hq q8 (fun x z => by rw [(hr x z).1]; exact (hr x z).2.2) k, ?_⟩
  rintro r σ1 ⟨rfl, g0, g1, g2, g3, g4, g5, g6, g7, g8, g9, g10, rfl⟩
  refine ⟨_, c_X3_tempers l ad _ h (by (try simp (disch := decide) only [us_ne, us_eq]); exact hh2) h8 q (by (try simp (disch := decide) only [us_ne, us_eq]); exact hq2) q8 (by (try simp (disch := decide) only [us_ne, us_eq]); exact hbd.kt) (by (try simp (disch := decide) only [us_ne, us_eq]); exact fun x z => (hr x z).2.2) k, ?_⟩
  rintro r2 σ2 ⟨rfl, f, rfl, hf⟩
  try simp (disch := decide) only [us_ne, us_eq] at hf
  refine ⟨?_, ?_⟩
  · (try simp (disch := decide) only [us_ne, us_eq])
    rw [hc, hc2]
    exact ld_fTm_cong hr e0 e1
  · unfold ld_J
    refine ⟨h, q, cr, ⟨h8, q8, c99⟩, ⟨(by (try simp (disch := decide) only [us_ne, us_eq]); exact hh), (by (try simp (disch := decide) only [us_ne, us_eq]); exact hh2)⟩, ⟨(by (try simp (disch := decide) only [us_ne, us_eq]); exact hc), (by (try simp (disch := decide) only [us_ne, us_eq]); exact hc2)⟩, (by (try simp (disch := decide) only [us_ne, us_eq]); exact hw), (fun x z => by (try simp (disch := decide) only [us_ne, us_eq]); exact ⟨e0 x z, (e1 x z).trans (hf x z).symm, e2 x z, e3 x z⟩), (by (try simp (disch := decide) only [us_ne, us_eq]); exact ld_bd_mono (T := T) (fun x z => by rw [hf x z]; exact hbd x z) (by omega)), ⟨(by (try simp (disch := decide) only [us_ne, us_eq]); exact hq), (by (try simp (disch := decide) only [us_ne, us_eq]); exact hq2)⟩, (fun x z => by (try simp (disch := decide) only [us_ne, us_eq]); exact hr x z), (by (try simp (disch := decide) only [us_ne, us_eq]); exact htr), (by (try simp (disch := decide) only [us_ne, us_eq]); exact hft), (fun j z => by (try simp (disch := omega) only [us_ne, us_eq]); exact hs j z)⟩
theorem ld_p_kinds {l : Launch} {ad : Nat → Nat} {T : Nat} {σ : ld_St} (J : ld_J T σ) (hT : T ≤ 8000) (k : Int32) : ld_PI l ad T σ yX2_kinds cX2_kinds 4 (3, 68) yX3_kinds cX3_kinds 5 (4, 96) [.int k] := by
  have J0 := J
  obtain ⟨h, q, cr, ⟨h8, q8, c99⟩, ⟨hh, hh2⟩, ⟨hc, hc2⟩, hw, hx, hbd, ⟨hq, hq2⟩, hr, htr, hft, hs⟩ := J
  have e0 : ∀ x, x < h → σ 0 x = σ 20 x := fun x z => (hx x z).1
  have e1 : ∀ x, x < h → σ 1 x = σ 21 x := fun x z => (hx x z).2.1
  have e2 : ∀ x, x < h → σ 2 x = σ 22 x := fun x z => (hx x z).2.2.1
  have e3 : ∀ x, x < h → σ 3 x = σ 23 x := fun x z => (hx x z).2.2.2
  have eV : ld_eqv h (σ 1, σ 2, σ 3) (σ 21, σ 22, σ 23) := fun x z => (hx x z).2
  refine ⟨_, c_X2_kinds l ad σ h hh h8 q hq q8 (fun x z => by rw [(hr x z).1]; exact (hr x z).2.2) k, ?_⟩
  rintro r σ1 ⟨rfl, g0, g1, g2, g3, g4, g5, g6, g7, g8, g9, g10, rfl⟩
  refine ⟨_, c_X3_kinds l ad _ h (by (try simp (disch := decide) only [us_ne, us_eq]); exact hh2) h8 q (by (try simp (disch := decide) only [us_ne, us_eq]); exact hq2) q8 (by (try simp (disch := decide) only [us_ne, us_eq]); exact hbd.kt) (by (try simp (disch := decide) only [us_ne, us_eq]); exact fun x z => (hr x z).2.2) k, ?_⟩
  rintro r2 σ2 ⟨rfl, f, rfl, hf⟩
  try simp (disch := decide) only [us_ne, us_eq] at hf
  refine ⟨?_, ?_⟩
  · (try simp (disch := decide) only [us_ne, us_eq])
    rw [hc, hc2]
    exact ld_fKi_cong hr e0 e1
  · unfold ld_J
    refine ⟨h, q, cr, ⟨h8, q8, c99⟩, ⟨(by (try simp (disch := decide) only [us_ne, us_eq]); exact hh), (by (try simp (disch := decide) only [us_ne, us_eq]); exact hh2)⟩, ⟨(by (try simp (disch := decide) only [us_ne, us_eq]); exact hc), (by (try simp (disch := decide) only [us_ne, us_eq]); exact hc2)⟩, (by (try simp (disch := decide) only [us_ne, us_eq]); exact hw), (fun x z => by (try simp (disch := decide) only [us_ne, us_eq]); exact ⟨(e0 x z).trans (hf x z).symm, e1 x z, e2 x z, e3 x z⟩), (by (try simp (disch := decide) only [us_ne, us_eq]); exact ld_bd_mono (T := T) (fun x z => by rw [hf x z]; exact hbd x z) (by omega)), ⟨(by (try simp (disch := decide) only [us_ne, us_eq]); exact hq), (by (try simp (disch := decide) only [us_ne, us_eq]); exact hq2)⟩, (fun x z => by (try simp (disch := decide) only [us_ne, us_eq]); exact hr x z), (by (try simp (disch := decide) only [us_ne, us_eq]); exact htr), (by (try simp (disch := decide) only [us_ne, us_eq]); exact hft), (fun j z => by (try simp (disch := omega) only [us_ne, us_eq]); exact hs j z)⟩
theorem ld_p_crates {l : Launch} {ad : Nat → Nat} {T : Nat} {σ : ld_St} (J : ld_J T σ) (hT : T ≤ 8000) (what : Int32) : ld_PI l ad T σ yX2_crates cX2_crates 6 (3, 68) yX3_crates cX3_crates 8 (4, 96) [.int what] := by
  have J0 := J
  obtain ⟨h, q, cr, ⟨h8, q8, c99⟩, ⟨hh, hh2⟩, ⟨hc, hc2⟩, hw, hx, hbd, ⟨hq, hq2⟩, hr, htr, hft, hs⟩ := J
  have e0 : ∀ x, x < h → σ 0 x = σ 20 x := fun x z => (hx x z).1
  have e1 : ∀ x, x < h → σ 1 x = σ 21 x := fun x z => (hx x z).2.1
  have e2 : ∀ x, x < h → σ 2 x = σ 22 x := fun x z => (hx x z).2.2.1
  have e3 : ∀ x, x < h → σ 3 x = σ 23 x := fun x z => (hx x z).2.2.2
  have eV : ld_eqv h (σ 1, σ 2, σ 3) (σ 21, σ 22, σ 23) := fun x z => (hx x z).2
  refine ⟨_, c_X2_crates l ad σ h hh h8 q hq q8 (fun x z => by rw [(hr x z).1]; exact (hr x z).2.2) what, ?_⟩
  rintro r σ1 ⟨rfl, g0, g1, g2, g3, g4, g5, g6, g7, g8, g9, g10, rfl⟩
  refine ⟨_, c_X3_crates l ad _ h (by (try simp (disch := decide) only [us_ne, us_eq]); exact hh2) h8 q (by (try simp (disch := decide) only [us_ne, us_eq]); exact hq2) q8 (by (try simp (disch := decide) only [us_ne, us_eq]); exact hbd.kt) (by (try simp (disch := decide) only [us_ne, us_eq]); exact fun x z => (hr x z).2.2) cr (by (try simp (disch := decide) only [us_ne, us_eq]); exact hc2) what, ?_⟩
  rintro r2 σ2 ⟨rfl, f, rfl, hf⟩
  refine ⟨?_, ?_⟩
  · (try simp (disch := decide) only [us_ne, us_eq])
    exact ld_fCs_cong hr e0 e1
  · unfold ld_J
    refine ⟨h, q, cr, ⟨h8, q8, c99⟩, ⟨(by (try simp (disch := decide) only [us_ne, us_eq]); exact hh), (by (try simp (disch := decide) only [us_ne, us_eq]); exact hh2)⟩, ⟨(by (try simp (disch := decide) only [us_ne, us_eq]); exact hc), (by (try simp (disch := decide) only [us_ne, us_eq]); exact hf)⟩, (by (try simp (disch := decide) only [us_ne, us_eq]); exact hw), (fun x z => by (try simp (disch := decide) only [us_ne, us_eq]); exact hx x z), (by (try simp (disch := decide) only [us_ne, us_eq]); exact ld_bd_mono hbd (by omega)), ⟨(by (try simp (disch := decide) only [us_ne, us_eq]); exact hq), (by (try simp (disch := decide) only [us_ne, us_eq]); exact hq2)⟩, (fun x z => by (try simp (disch := decide) only [us_ne, us_eq]); exact hr x z), (by (try simp (disch := decide) only [us_ne, us_eq]); exact htr), (by (try simp (disch := decide) only [us_ne, us_eq]); exact hft), (fun j z => by (try simp (disch := omega) only [us_ne, us_eq]); exact hs j z)⟩
theorem ld_p_calm {l : Launch} {ad : Nat → Nat} {T : Nat} {σ : ld_St} (J : ld_J T σ) (hT : T ≤ 8000) (n v : Int32) : ld_PI l ad T σ yX2_calm cX2_calm 4 (4, 90) yX3_calm cX3_calm 6 (4, 97) [.int n, .int v] := by
  have J0 := J
  obtain ⟨h, q, cr, ⟨h8, q8, c99⟩, ⟨hh, hh2⟩, ⟨hc, hc2⟩, hw, hx, hbd, ⟨hq, hq2⟩, hr, htr, hft, hs⟩ := J
  have e0 : ∀ x, x < h → σ 0 x = σ 20 x := fun x z => (hx x z).1
  have e1 : ∀ x, x < h → σ 1 x = σ 21 x := fun x z => (hx x z).2.1
  have e2 : ∀ x, x < h → σ 2 x = σ 22 x := fun x z => (hx x z).2.2.1
  have e3 : ∀ x, x < h → σ 3 x = σ 23 x := fun x z => (hx x z).2.2.2
  have eV : ld_eqv h (σ 1, σ 2, σ 3) (σ 21, σ 22, σ 23) := fun x z => (hx x z).2
  refine ⟨_, c_X2_calm l ad σ h hh h8 n v, ?_⟩
  rintro r σ1 ⟨rfl, g0, g1, g2, g3, g4, g5, g6, g7, g8, g9, g10, rfl⟩
  refine ⟨_, c_X3_calm l ad _ h (by (try simp (disch := decide) only [us_ne, us_eq]); exact hh2) h8 cr (by (try simp (disch := decide) only [us_ne, us_eq]); exact hc2) c99 T (by omega) (by (try simp (disch := decide) only [us_ne, us_eq]); exact hbd) n v, ?_⟩
  rintro r2 σ2 ⟨rfl, t, s, p, d, k0, k1, k2, fc, fw, ck, wk, rfl, hp, hfc, hfw⟩
  try simp (disch := decide) only [us_ne, us_eq] at hp
  try simp (disch := decide) only [us_ne, us_eq] at hfc
  try simp (disch := decide) only [us_ne, us_eq] at hfw
  refine ⟨?_, ?_⟩
  · (try simp (disch := decide) only [us_ne, us_eq])
    exact ld_fCa_cong e0 eV
  · unfold ld_J
    refine ⟨h, q, cr, ⟨h8, q8, c99⟩, ⟨(by (try simp (disch := decide) only [us_ne, us_eq]); exact hh), (by (try simp (disch := decide) only [us_ne, us_eq]); exact hh2)⟩, ⟨(by (try simp (disch := decide) only [us_ne, us_eq]); exact hc), (by (try simp (disch := decide) only [us_ne, us_eq]); exact hfc.trans hc2)⟩, (by (try simp (disch := decide) only [us_ne, us_eq]); exact hw.trans hfw.symm), (fun x z => by (try simp (disch := decide) only [us_ne, us_eq]); exact ⟨e0 x z, (e1 x z).trans (hp x z).1.symm, (e2 x z).trans (hp x z).2.1.symm, (e3 x z).trans (hp x z).2.2.symm⟩), (by (try simp (disch := decide) only [us_ne, us_eq]); exact ld_bd_mono (ld_bd_cong (V := (t, s, p)) (U := (σ 21, σ 22, σ 23)) (fun x z => hp x z) hbd) (by omega)), ⟨(by (try simp (disch := decide) only [us_ne, us_eq]); exact hq), (by (try simp (disch := decide) only [us_ne, us_eq]); exact hq2)⟩, (fun x z => by (try simp (disch := decide) only [us_ne, us_eq]); exact hr x z), (by (try simp (disch := decide) only [us_ne, us_eq]); exact htr), (by (try simp (disch := decide) only [us_ne, us_eq]); exact hft), (fun j z => by (try simp (disch := omega) only [us_ne, us_eq]); exact hs j z)⟩
theorem ld_p_season {l : Launch} {ad : Nat → Nat} {T : Nat} {σ : ld_St} (J : ld_J T σ) (hT : T ≤ 8000) (k lane i n what : Int32) : ld_PI l ad T σ yX2_season cX2_season 10 (6, 136) yX3_season cX3_season 8 (6, 148) [.int k, .int lane, .int i, .int n, .int what] := by
  have J0 := J
  obtain ⟨h, q, cr, ⟨h8, q8, c99⟩, ⟨hh, hh2⟩, ⟨hc, hc2⟩, hw, hx, hbd, ⟨hq, hq2⟩, hr, htr, hft, hs⟩ := J
  have e0 : ∀ x, x < h → σ 0 x = σ 20 x := fun x z => (hx x z).1
  have e1 : ∀ x, x < h → σ 1 x = σ 21 x := fun x z => (hx x z).2.1
  have e2 : ∀ x, x < h → σ 2 x = σ 22 x := fun x z => (hx x z).2.2.1
  have e3 : ∀ x, x < h → σ 3 x = σ 23 x := fun x z => (hx x z).2.2.2
  have eV : ld_eqv h (σ 1, σ 2, σ 3) (σ 21, σ 22, σ 23) := fun x z => (hx x z).2
  have hse : ld_se (σ 131) (σ 130) (fun z => σ (16 + z)) (σ 34) (σ 35) (fun z x => σ 36 (60 * z + x)) := fun j z => ⟨(hs j z).1, (hs j z).2.1, (hs j z).2.2.2⟩
  have hS1 : ∀ x, x < 4 → -1 ≤ (σ 131 x).toInt ∧ (σ 131 x).toInt ≤ 60 := fun j z => by rw [(hs j z).1]; exact (hs j z).2.2.1
  have hS2 : ∀ x, x < 4 → -1 ≤ (σ 34 x).toInt ∧ (σ 34 x).toInt ≤ 60 := fun j z => (hs j z).2.2.1
  refine ⟨_, c_X2_season l ad σ h hh h8 hS1 k lane i n what, ?_⟩
  rintro r σ1 ⟨rfl, f, g120, g121, g122, g123, g7, g8, g9, g10, g11, g12, g13, hf, rfl⟩
  have eQ : ld_seq h (σ 111 0, (σ 1, σ 2, σ 3), nI 0) (σ 142 0, (σ 21, σ 22, σ 23), nI 0) := ⟨hc.trans hc2.symm, eV, rfl⟩
  refine ⟨_, c_X3_season l ad _ h (by (try simp (disch := decide) only [us_ne, us_eq]); exact hh2) h8 cr (by (try simp (disch := decide) only [us_ne, us_eq]); exact hc2) c99 T (by omega) (by (try simp (disch := decide) only [us_ne, us_eq]); exact hbd) (by (try simp (disch := decide) only [us_ne, us_eq]); exact hS2) k lane i n what, ?_⟩
  rintro r2 σ2 ⟨rfl, f2, t, s, p, d, k0, k1, k2, fc, fw, ck, wk, fl, hf2, rfl, hp, hfc, hfw⟩
  try simp (disch := decide) only [us_ne, us_eq] at hf2
  try simp (disch := decide) only [us_ne, us_eq] at hp
  try simp (disch := decide) only [us_ne, us_eq] at hfc
  try simp (disch := decide) only [us_ne, us_eq] at hfw
  refine ⟨?_, ?_⟩
  · (try simp (disch := decide) only [us_ne, us_eq])
    exact congrArg Prod.fst (ld_fSe_cong h8 hse e0 eQ)
  · unfold ld_J
    refine ⟨h, q, cr, ⟨h8, q8, c99⟩, ⟨(by (try simp (disch := decide) only [us_ne, us_eq]); exact hh), (by (try simp (disch := decide) only [us_ne, us_eq]); exact hh2)⟩, ⟨(by (try simp (disch := decide) only [us_ne, us_eq]); exact hc), (by (try simp (disch := decide) only [us_ne, us_eq]); exact hfc.trans hc2)⟩, (by (try simp (disch := decide) only [us_ne, us_eq]); exact hw.trans hfw.symm), (fun x z => by (try simp (disch := decide) only [us_ne, us_eq]); exact ⟨e0 x z, (e1 x z).trans (hp x z).1.symm, (e2 x z).trans (hp x z).2.1.symm, (e3 x z).trans (hp x z).2.2.symm⟩), (by (try simp (disch := decide) only [us_ne, us_eq]); exact ld_bd_mono (ld_bd_cong (V := (t, s, p)) (U := (σ 21, σ 22, σ 23)) (fun x z => hp x z) hbd) (by omega)), ⟨(by (try simp (disch := decide) only [us_ne, us_eq]); exact hq), (by (try simp (disch := decide) only [us_ne, us_eq]); exact hq2)⟩, (fun x z => by (try simp (disch := decide) only [us_ne, us_eq]); exact hr x z), (by (try simp (disch := decide) only [us_ne, us_eq]); exact htr), (by (try simp (disch := decide) only [us_ne, us_eq]); exact hf.trans ((congrArg Prod.snd (ld_fSe_cong h8 hse e0 eQ)).trans hf2.symm)), (fun j z => by (try simp (disch := omega) only [us_ne, us_eq]); exact hs j z)⟩
theorem ld_p_anger {l : Launch} {ad : Nat → Nat} {T : Nat} {σ : ld_St} (J : ld_J T σ) (hT : T ≤ 8000) (k v : Int32) : ld_PI l ad T σ yX2_anger cX2_anger 4 (1, 21) yX3_anger cX3_anger 4 (2, 46) [.int k, .int v] := by
  have J0 := J
  obtain ⟨h, q, cr, ⟨h8, q8, c99⟩, ⟨hh, hh2⟩, ⟨hc, hc2⟩, hw, hx, hbd, ⟨hq, hq2⟩, hr, htr, hft, hs⟩ := J
  have e0 : ∀ x, x < h → σ 0 x = σ 20 x := fun x z => (hx x z).1
  have e1 : ∀ x, x < h → σ 1 x = σ 21 x := fun x z => (hx x z).2.1
  have e2 : ∀ x, x < h → σ 2 x = σ 22 x := fun x z => (hx x z).2.2.1
  have e3 : ∀ x, x < h → σ 3 x = σ 23 x := fun x z => (hx x z).2.2.2
  have eV : ld_eqv h (σ 1, σ 2, σ 3) (σ 21, σ 22, σ 23) := fun x z => (hx x z).2
  refine ⟨_, c_X2_anger l ad σ h hh h8 k v, ?_⟩
  rintro r σ1 ⟨rfl, rfl⟩
  refine ⟨_, c_X3_anger l ad _ h (by (try simp (disch := decide) only [us_ne, us_eq]); exact hh2) h8 k v, ?_⟩
  rintro r2 σ2 ⟨rfl, rfl⟩
  refine ⟨?_, ?_⟩
  · (try simp (disch := decide) only [us_ne, us_eq])
    exact ld_fAn_cong e1
  · unfold ld_J
    refine ⟨h, q, cr, ⟨h8, q8, c99⟩, ⟨(by (try simp (disch := decide) only [us_ne, us_eq]); exact hh), (by (try simp (disch := decide) only [us_ne, us_eq]); exact hh2)⟩, ⟨(by (try simp (disch := decide) only [us_ne, us_eq]); exact hc), (by (try simp (disch := decide) only [us_ne, us_eq]); exact hc2)⟩, (by (try simp (disch := decide) only [us_ne, us_eq]); exact hw), (fun x z => by (try simp (disch := decide) only [us_ne, us_eq]); exact ⟨e0 x z, ld_gAn_cong e1 x z, e2 x z, e3 x z⟩), (by (try simp (disch := decide) only [us_ne, us_eq]); exact ld_bd_mono (ld_bd_an hbd) (by omega)), ⟨(by (try simp (disch := decide) only [us_ne, us_eq]); exact hq), (by (try simp (disch := decide) only [us_ne, us_eq]); exact hq2)⟩, (fun x z => by (try simp (disch := decide) only [us_ne, us_eq]); exact hr x z), (by (try simp (disch := decide) only [us_ne, us_eq]); exact htr), (by (try simp (disch := decide) only [us_ne, us_eq]); exact hft), (fun j z => by (try simp (disch := omega) only [us_ne, us_eq]); exact hs j z)⟩
theorem ld_p_crate {l : Launch} {ad : Nat → Nat} {T : Nat} {σ : ld_St} (J : ld_J T σ) (hT : T ≤ 8000) (v : Int32) : ld_PI l ad T σ yX2_crate cX2_crate 3 (1, 20) yX3_crate cX3_crate 3 (2, 45) [.int v] := by
  have J0 := J
  obtain ⟨h, q, cr, ⟨h8, q8, c99⟩, ⟨hh, hh2⟩, ⟨hc, hc2⟩, hw, hx, hbd, ⟨hq, hq2⟩, hr, htr, hft, hs⟩ := J
  have e0 : ∀ x, x < h → σ 0 x = σ 20 x := fun x z => (hx x z).1
  have e1 : ∀ x, x < h → σ 1 x = σ 21 x := fun x z => (hx x z).2.1
  have e2 : ∀ x, x < h → σ 2 x = σ 22 x := fun x z => (hx x z).2.2.1
  have e3 : ∀ x, x < h → σ 3 x = σ 23 x := fun x z => (hx x z).2.2.2
  have eV : ld_eqv h (σ 1, σ 2, σ 3) (σ 21, σ 22, σ 23) := fun x z => (hx x z).2
  refine ⟨_, c_X2_crate l ad σ h hh h8 v, ?_⟩
  rintro r σ1 ⟨rfl, f, rfl, hf⟩
  refine ⟨_, c_X3_crate l ad _ h (by (try simp (disch := decide) only [us_ne, us_eq]); exact hh2) h8 v, ?_⟩
  rintro r2 σ2 ⟨rfl, g, rfl, hg⟩
  try simp (disch := decide) only [us_ne, us_eq] at hg
  rw [hc] at hf
  rw [hc2] at hg
  obtain ⟨cr2, c92, ecr⟩ := ld_gCr_n (h := h) (v := v) c99
  refine ⟨?_, ?_⟩
  · (try simp (disch := decide) only [us_ne, us_eq])
    rw [hc, hc2]
  · unfold ld_J
    refine ⟨h, q, cr2, ⟨h8, q8, c92⟩, ⟨(by (try simp (disch := decide) only [us_ne, us_eq]); exact hh), (by (try simp (disch := decide) only [us_ne, us_eq]); exact hh2)⟩, ⟨(by (try simp (disch := decide) only [us_ne, us_eq]); exact hf.trans ecr), (by (try simp (disch := decide) only [us_ne, us_eq]); exact hg.trans ecr)⟩, (by (try simp (disch := decide) only [us_ne, us_eq]); exact hw), (fun x z => by (try simp (disch := decide) only [us_ne, us_eq]); exact hx x z), (by (try simp (disch := decide) only [us_ne, us_eq]); exact ld_bd_mono hbd (by omega)), ⟨(by (try simp (disch := decide) only [us_ne, us_eq]); exact hq), (by (try simp (disch := decide) only [us_ne, us_eq]); exact hq2)⟩, (fun x z => by (try simp (disch := decide) only [us_ne, us_eq]); exact hr x z), (by (try simp (disch := decide) only [us_ne, us_eq]); exact htr), (by (try simp (disch := decide) only [us_ne, us_eq]); exact hft), (fun j z => by (try simp (disch := omega) only [us_ne, us_eq]); exact hs j z)⟩
theorem ld_p_weeks {l : Launch} {ad : Nat → Nat} {T : Nat} {σ : ld_St} (J : ld_J T σ) (hT : T ≤ 8000) (n : Int32) : ld_PI l ad T σ yX2_weeks cX2_weeks 2 (4, 90) yX3_weeks cX3_weeks 3 (4, 97) [.int n] := by
  have J0 := J
  obtain ⟨h, q, cr, ⟨h8, q8, c99⟩, ⟨hh, hh2⟩, ⟨hc, hc2⟩, hw, hx, hbd, ⟨hq, hq2⟩, hr, htr, hft, hs⟩ := J
  have e0 : ∀ x, x < h → σ 0 x = σ 20 x := fun x z => (hx x z).1
  have e1 : ∀ x, x < h → σ 1 x = σ 21 x := fun x z => (hx x z).2.1
  have e2 : ∀ x, x < h → σ 2 x = σ 22 x := fun x z => (hx x z).2.2.1
  have e3 : ∀ x, x < h → σ 3 x = σ 23 x := fun x z => (hx x z).2.2.2
  have eV : ld_eqv h (σ 1, σ 2, σ 3) (σ 21, σ 22, σ 23) := fun x z => (hx x z).2
  refine ⟨_, c_X2_weeks l ad σ h hh h8 n, ?_⟩
  rintro r σ1 ⟨rfl, ft, fs, fp, f4, f5, f6, fw, fl, rfl, he, hfw⟩
  refine ⟨_, c_X3_weeks l ad _ h (by (try simp (disch := decide) only [us_ne, us_eq]); exact hh2) h8 cr (by (try simp (disch := decide) only [us_ne, us_eq]); exact hc2) c99 T (by omega) (by (try simp (disch := decide) only [us_ne, us_eq]); exact hbd) n, ?_⟩
  rintro r2 σ2 ⟨rfl, gt, gs, gp, gd, gw, rfl, ge, hgw⟩
  try simp (disch := decide) only [us_ne, us_eq] at ge
  try simp (disch := decide) only [us_ne, us_eq] at hgw
  rw [hc] at he
  have hle := ld_gWk_le (h := h) (n := n)
  refine ⟨?_, ?_⟩
  · (try simp (disch := decide) only [us_ne, us_eq])
    rw [hc]
    exact ld_fWk_cong e0 eV
  · unfold ld_J
    refine ⟨h, q, cr, ⟨h8, q8, c99⟩, ⟨(by (try simp (disch := decide) only [us_ne, us_eq]); exact hh), (by (try simp (disch := decide) only [us_ne, us_eq]); exact hh2)⟩, ⟨(by (try simp (disch := decide) only [us_ne, us_eq]); exact hc), (by (try simp (disch := decide) only [us_ne, us_eq]); exact hc2)⟩, (by (try simp (disch := decide) only [us_ne, us_eq]); rw [hfw, hgw, hw]), (fun x z => by (try simp (disch := decide) only [us_ne, us_eq]); exact ⟨e0 x z, (((he.tr (ld_wks_cong2 e0 eV _)).tr ge.sy) x z)⟩), (by (try simp (disch := decide) only [us_ne, us_eq]); exact ld_bd_mono (ld_bd_cong ge (ld_bd_wks (V := (σ 21, σ 22, σ 23)) hbd h8 (by omega) (by omega))) (by omega)), ⟨(by (try simp (disch := decide) only [us_ne, us_eq]); exact hq), (by (try simp (disch := decide) only [us_ne, us_eq]); exact hq2)⟩, (fun x z => by (try simp (disch := decide) only [us_ne, us_eq]); exact hr x z), (by (try simp (disch := decide) only [us_ne, us_eq]); exact htr), (by (try simp (disch := decide) only [us_ne, us_eq]); exact hft), (fun j z => by (try simp (disch := omega) only [us_ne, us_eq]); exact hs j z)⟩
theorem ld_p_gift {l : Launch} {ad : Nat → Nat} {T : Nat} {σ : ld_St} (J : ld_J T σ) (hT : T ≤ 8000) (k : Int32) : ld_PI l ad T σ yX2_gift cX2_gift 2 (1, 21) yX3_gift cX3_gift 2 (2, 46) [.int k] := by
  have J0 := J
  obtain ⟨h, q, cr, ⟨h8, q8, c99⟩, ⟨hh, hh2⟩, ⟨hc, hc2⟩, hw, hx, hbd, ⟨hq, hq2⟩, hr, htr, hft, hs⟩ := J
  have e0 : ∀ x, x < h → σ 0 x = σ 20 x := fun x z => (hx x z).1
  have e1 : ∀ x, x < h → σ 1 x = σ 21 x := fun x z => (hx x z).2.1
  have e2 : ∀ x, x < h → σ 2 x = σ 22 x := fun x z => (hx x z).2.2.1
  have e3 : ∀ x, x < h → σ 3 x = σ 23 x := fun x z => (hx x z).2.2.2
  have eV : ld_eqv h (σ 1, σ 2, σ 3) (σ 21, σ 22, σ 23) := fun x z => (hx x z).2
  refine ⟨_, c_X2_gift l ad σ h hh h8 k, ?_⟩
  rintro r σ1 ⟨rfl, rfl⟩
  refine ⟨_, c_X3_gift l ad _ h (by (try simp (disch := decide) only [us_ne, us_eq]); exact hh2) h8 k, ?_⟩
  rintro r2 σ2 ⟨rfl, rfl⟩
  refine ⟨?_, ?_⟩
  · (try simp (disch := decide) only [us_ne, us_eq])
    exact ld_fGi_cong e2
  · unfold ld_J
    refine ⟨h, q, cr, ⟨h8, q8, c99⟩, ⟨(by (try simp (disch := decide) only [us_ne, us_eq]); exact hh), (by (try simp (disch := decide) only [us_ne, us_eq]); exact hh2)⟩, ⟨(by (try simp (disch := decide) only [us_ne, us_eq]); exact hc), (by (try simp (disch := decide) only [us_ne, us_eq]); exact hc2)⟩, (by (try simp (disch := decide) only [us_ne, us_eq]); exact hw), (fun x z => by (try simp (disch := decide) only [us_ne, us_eq]); exact ⟨e0 x z, e1 x z, ld_gGi_cong e2 x z, e3 x z⟩), (by (try simp (disch := decide) only [us_ne, us_eq]); exact ld_bd_mono (ld_bd_gi hbd (by omega)) (by omega)), ⟨(by (try simp (disch := decide) only [us_ne, us_eq]); exact hq), (by (try simp (disch := decide) only [us_ne, us_eq]); exact hq2)⟩, (fun x z => by (try simp (disch := decide) only [us_ne, us_eq]); exact hr x z), (by (try simp (disch := decide) only [us_ne, us_eq]); exact htr), (by (try simp (disch := decide) only [us_ne, us_eq]); exact hft), (fun j z => by (try simp (disch := omega) only [us_ne, us_eq]); exact hs j z)⟩
theorem ld_p_tell {l : Launch} {ad : Nat → Nat} {T : Nat} {σ : ld_St} (J : ld_J T σ) (hT : T ≤ 8000) (k : Int32) : ld_PI l ad T σ yX2_tell cX2_tell 2 (4, 85) yX3_tell cX3_tell 4 (2, 46) [.int k] := by
  have J0 := J
  obtain ⟨h, q, cr, ⟨h8, q8, c99⟩, ⟨hh, hh2⟩, ⟨hc, hc2⟩, hw, hx, hbd, ⟨hq, hq2⟩, hr, htr, hft, hs⟩ := J
  have e0 : ∀ x, x < h → σ 0 x = σ 20 x := fun x z => (hx x z).1
  have e1 : ∀ x, x < h → σ 1 x = σ 21 x := fun x z => (hx x z).2.1
  have e2 : ∀ x, x < h → σ 2 x = σ 22 x := fun x z => (hx x z).2.2.1
  have e3 : ∀ x, x < h → σ 3 x = σ 23 x := fun x z => (hx x z).2.2.2
  have eV : ld_eqv h (σ 1, σ 2, σ 3) (σ 21, σ 22, σ 23) := fun x z => (hx x z).2
  refine ⟨_, c_X2_tell l ad σ h hh h8 k, ?_⟩
  rintro r σ1 ⟨rfl, f, rfl, hf⟩
  refine ⟨_, c_X3_tell l ad _ h (by (try simp (disch := decide) only [us_ne, us_eq]); exact hh2) h8 (by (try simp (disch := decide) only [us_ne, us_eq]); exact hbd.kt) k, ?_⟩
  rintro r2 σ2 ⟨rfl, g, rfl, hg⟩
  try simp (disch := decide) only [us_ne, us_eq] at hg
  refine ⟨?_, ?_⟩
  · (try simp (disch := decide) only [us_ne, us_eq])
    exact ld_fTe_cong e0 e1
  · unfold ld_J
    refine ⟨h, q, cr, ⟨h8, q8, c99⟩, ⟨(by (try simp (disch := decide) only [us_ne, us_eq]); exact hh), (by (try simp (disch := decide) only [us_ne, us_eq]); exact hh2)⟩, ⟨(by (try simp (disch := decide) only [us_ne, us_eq]); exact hc), (by (try simp (disch := decide) only [us_ne, us_eq]); exact hc2)⟩, (by (try simp (disch := decide) only [us_ne, us_eq]); exact hw), (fun x z => by (try simp (disch := decide) only [us_ne, us_eq]); exact hx x z), (by (try simp (disch := decide) only [us_ne, us_eq]); exact ld_bd_mono hbd (by omega)), ⟨(by (try simp (disch := decide) only [us_ne, us_eq]); exact hq), (by (try simp (disch := decide) only [us_ne, us_eq]); exact hq2)⟩, (fun x z => by (try simp (disch := decide) only [us_ne, us_eq]); exact hr x z), (by (try simp (disch := decide) only [us_ne, us_eq]); rw [hf, hg, htr]; exact ld_gTe_cong e0), (by (try simp (disch := decide) only [us_ne, us_eq]); exact hft), (fun j z => by (try simp (disch := omega) only [us_ne, us_eq]); exact hs j z)⟩
theorem ld_p_knock {l : Launch} {ad : Nat → Nat} {T : Nat} {σ : ld_St} (J : ld_J T σ) (hT : T ≤ 8000) (k : Int32) : ld_PI l ad T σ yX2_knock cX2_knock 3 (1, 21) yX3_knock cX3_knock 2 (2, 46) [.int k] := by
  have J0 := J
  obtain ⟨h, q, cr, ⟨h8, q8, c99⟩, ⟨hh, hh2⟩, ⟨hc, hc2⟩, hw, hx, hbd, ⟨hq, hq2⟩, hr, htr, hft, hs⟩ := J
  have e0 : ∀ x, x < h → σ 0 x = σ 20 x := fun x z => (hx x z).1
  have e1 : ∀ x, x < h → σ 1 x = σ 21 x := fun x z => (hx x z).2.1
  have e2 : ∀ x, x < h → σ 2 x = σ 22 x := fun x z => (hx x z).2.2.1
  have e3 : ∀ x, x < h → σ 3 x = σ 23 x := fun x z => (hx x z).2.2.2
  have eV : ld_eqv h (σ 1, σ 2, σ 3) (σ 21, σ 22, σ 23) := fun x z => (hx x z).2
  refine ⟨_, c_X2_knock l ad σ h hh h8 k, ?_⟩
  rintro r σ1 ⟨rfl, f, rfl, hf⟩
  refine ⟨_, c_X3_knock l ad _ h (by (try simp (disch := decide) only [us_ne, us_eq]); exact hh2) h8 (by (try simp (disch := decide) only [us_ne, us_eq]); exact hbd.kt) k, ?_⟩
  rintro r2 σ2 ⟨rfl, g, rfl, hg⟩
  try simp (disch := decide) only [us_ne, us_eq] at hg
  refine ⟨?_, ?_⟩
  · (try simp (disch := decide) only [us_ne, us_eq])
    exact ld_fKn_cong e0
  · unfold ld_J
    refine ⟨h, q, cr, ⟨h8, q8, c99⟩, ⟨(by (try simp (disch := decide) only [us_ne, us_eq]); exact hh), (by (try simp (disch := decide) only [us_ne, us_eq]); exact hh2)⟩, ⟨(by (try simp (disch := decide) only [us_ne, us_eq]); exact hc), (by (try simp (disch := decide) only [us_ne, us_eq]); exact hc2)⟩, (by (try simp (disch := decide) only [us_ne, us_eq]); exact hw), (fun x z => by (try simp (disch := decide) only [us_ne, us_eq]); exact hx x z), (by (try simp (disch := decide) only [us_ne, us_eq]); exact ld_bd_mono hbd (by omega)), ⟨(by (try simp (disch := decide) only [us_ne, us_eq]); exact hq), (by (try simp (disch := decide) only [us_ne, us_eq]); exact hq2)⟩, (fun x z => by (try simp (disch := decide) only [us_ne, us_eq]); exact hr x z), (by (try simp (disch := decide) only [us_ne, us_eq]); rw [hf, hg, htr]; exact ld_gKn_cong e0), (by (try simp (disch := decide) only [us_ne, us_eq]); exact hft), (fun j z => by (try simp (disch := omega) only [us_ne, us_eq]); exact hs j z)⟩
theorem ld_p_as {l : Launch} {ad : Nat → Nat} {T : Nat} {σ : ld_St} (J : ld_J T σ) (hT : T ≤ 8000) (k kind : Int32) : ld_PI l ad T σ yX2_as cX2_as 3 (1, 21) yX3_as cX3_as 3 (2, 46) [.int k, .int kind] := by
  have J0 := J
  obtain ⟨h, q, cr, ⟨h8, q8, c99⟩, ⟨hh, hh2⟩, ⟨hc, hc2⟩, hw, hx, hbd, ⟨hq, hq2⟩, hr, htr, hft, hs⟩ := J
  have e0 : ∀ x, x < h → σ 0 x = σ 20 x := fun x z => (hx x z).1
  have e1 : ∀ x, x < h → σ 1 x = σ 21 x := fun x z => (hx x z).2.1
  have e2 : ∀ x, x < h → σ 2 x = σ 22 x := fun x z => (hx x z).2.2.1
  have e3 : ∀ x, x < h → σ 3 x = σ 23 x := fun x z => (hx x z).2.2.2
  have eV : ld_eqv h (σ 1, σ 2, σ 3) (σ 21, σ 22, σ 23) := fun x z => (hx x z).2
  refine ⟨_, c_X2_as l ad σ h hh h8 k kind, ?_⟩
  rintro r σ1 ⟨rfl, f, rfl, hf⟩
  refine ⟨_, c_X3_as l ad _ h (by (try simp (disch := decide) only [us_ne, us_eq]); exact hh2) h8 k kind, ?_⟩
  rintro r2 σ2 ⟨rfl, g, rfl, hg⟩
  try simp (disch := decide) only [us_ne, us_eq] at hg
  refine ⟨?_, ?_⟩
  · (try simp (disch := decide) only [us_ne, us_eq])
    exact ld_fAs_cong e0
  · unfold ld_J
    refine ⟨h, q, cr, ⟨h8, q8, c99⟩, ⟨(by (try simp (disch := decide) only [us_ne, us_eq]); exact hh), (by (try simp (disch := decide) only [us_ne, us_eq]); exact hh2)⟩, ⟨(by (try simp (disch := decide) only [us_ne, us_eq]); exact hc), (by (try simp (disch := decide) only [us_ne, us_eq]); exact hc2)⟩, (by (try simp (disch := decide) only [us_ne, us_eq]); exact hw), (fun x z => by (try simp (disch := decide) only [us_ne, us_eq]); exact hx x z), (by (try simp (disch := decide) only [us_ne, us_eq]); exact ld_bd_mono hbd (by omega)), ⟨(by (try simp (disch := decide) only [us_ne, us_eq]); exact hq), (by (try simp (disch := decide) only [us_ne, us_eq]); exact hq2)⟩, (fun x z => by (try simp (disch := decide) only [us_ne, us_eq]); exact hr x z), (by (try simp (disch := decide) only [us_ne, us_eq]); exact htr), (by (try simp (disch := decide) only [us_ne, us_eq]); rw [hf, hg]; exact ld_eAs_cong e0), (fun j z => by (try simp (disch := omega) only [us_ne, us_eq]); exact hs j z)⟩
theorem ld_p_back {l : Launch} {ad : Nat → Nat} {T : Nat} {σ : ld_St} (J : ld_J T σ) (hT : T ≤ 8000) (k : Int32) : ld_PI l ad T σ yX2_back cX2_back 2 (0, 0) yX3_back cX3_back 2 (1, 25) [.int k] := by
  have J0 := J
  obtain ⟨h, q, cr, ⟨h8, q8, c99⟩, ⟨hh, hh2⟩, ⟨hc, hc2⟩, hw, hx, hbd, ⟨hq, hq2⟩, hr, htr, hft, hs⟩ := J
  have e0 : ∀ x, x < h → σ 0 x = σ 20 x := fun x z => (hx x z).1
  have e1 : ∀ x, x < h → σ 1 x = σ 21 x := fun x z => (hx x z).2.1
  have e2 : ∀ x, x < h → σ 2 x = σ 22 x := fun x z => (hx x z).2.2.1
  have e3 : ∀ x, x < h → σ 3 x = σ 23 x := fun x z => (hx x z).2.2.2
  have eV : ld_eqv h (σ 1, σ 2, σ 3) (σ 21, σ 22, σ 23) := fun x z => (hx x z).2
  refine ⟨_, c_X2_back l ad σ q hq q8 k, ?_⟩
  rintro r σ1 ⟨rfl, f, rfl, hf⟩
  refine ⟨_, c_X3_back l ad _ q (by (try simp (disch := decide) only [us_ne, us_eq]); exact hq2) q8 k, ?_⟩
  rintro r2 σ2 ⟨rfl, g, rfl, hg⟩
  have hle : ld_gBa q k ≤ q := by unfold ld_gBa; split <;> omega
  refine ⟨?_, ?_⟩
  · (try simp (disch := decide) only [us_ne, us_eq])
  · unfold ld_J
    refine ⟨h, ld_gBa q k, cr, ⟨h8, (by omega), c99⟩, ⟨(by (try simp (disch := decide) only [us_ne, us_eq]); exact hh), (by (try simp (disch := decide) only [us_ne, us_eq]); exact hh2)⟩, ⟨(by (try simp (disch := decide) only [us_ne, us_eq]); exact hc), (by (try simp (disch := decide) only [us_ne, us_eq]); exact hc2)⟩, (by (try simp (disch := decide) only [us_ne, us_eq]); exact hw), (fun x z => by (try simp (disch := decide) only [us_ne, us_eq]); exact hx x z), (by (try simp (disch := decide) only [us_ne, us_eq]); exact ld_bd_mono hbd (by omega)), ⟨(by (try simp (disch := decide) only [us_ne, us_eq]); exact hf), (by (try simp (disch := decide) only [us_ne, us_eq]); exact hg)⟩, (fun x z => by (try simp (disch := decide) only [us_ne, us_eq]); exact hr x (by omega)), (by (try simp (disch := decide) only [us_ne, us_eq]); exact htr), (by (try simp (disch := decide) only [us_ne, us_eq]); exact hft), (fun j z => by (try simp (disch := omega) only [us_ne, us_eq]); exact hs j z)⟩
