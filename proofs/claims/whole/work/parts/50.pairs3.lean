theorem ld_rdx {h q : Nat} {k v : Int32} {A B A2 B2 a b a2 b2 : Nat → Int32} (hr : ∀ x, x < q → A x = A2 x ∧ B x = B2 x ∧ 0 ≤ (A2 x).toInt ∧ (A2 x).toInt < (h : Int)) (hk : 0 ≤ k.toInt ∧ k.toInt < (h : Int)) (ha : a = upd A q k) (hb : b = upd B q v) (ha2 : a2 = upd A2 q k) (hb2 : b2 = upd B2 q v) : ∀ x, x < q + 1 → a x = a2 x ∧ b x = b2 x ∧ 0 ≤ (a2 x).toInt ∧ (a2 x).toInt < (h : Int) := by
  intro x hx
  subst ha; subst hb; subst ha2; subst hb2
  by_cases e : x = q
  · subst e
    rw [pk_us, pk_us, pk_us, pk_us]
    exact ⟨rfl, rfl, hk⟩
  · rw [pk_un e, pk_un e, pk_un e, pk_un e]
    exact hr x (by omega)
theorem ld_p_reading {l : Launch} {ad : Nat → Nat} {T : Nat} {σ : ld_St} (J : ld_J T σ) (hT : T ≤ 8000) (k v : Int32) : ld_PI l ad T σ yX2_reading cX2_reading 3 (1, 21) yX3_reading cX3_reading 3 (2, 46) [.int k, .int v] := by
  have J0 := J
  obtain ⟨h, q, cr, ⟨h8, q8, c99⟩, ⟨hh, hh2⟩, ⟨hc, hc2⟩, hw, hx, hbd, ⟨hq, hq2⟩, hr, htr, hft, hs⟩ := J
  have e0 : ∀ x, x < h → σ 0 x = σ 20 x := fun x z => (hx x z).1
  have e1 : ∀ x, x < h → σ 1 x = σ 21 x := fun x z => (hx x z).2.1
  have e2 : ∀ x, x < h → σ 2 x = σ 22 x := fun x z => (hx x z).2.2.1
  have e3 : ∀ x, x < h → σ 3 x = σ 23 x := fun x z => (hx x z).2.2.2
  have eV : ld_eqv h (σ 1, σ 2, σ 3) (σ 21, σ 22, σ 23) := fun x z => (hx x z).2
  refine ⟨_, c_X2_reading l ad σ h hh h8 q hq q8 k v, ?_⟩
  rintro r σ1 ⟨rfl, a, b, f, rfl, ha, hb, hf⟩
  refine ⟨_, c_X3_reading l ad _ h (by (try simp (disch := decide) only [us_ne, us_eq]); exact hh2) h8 q (by (try simp (disch := decide) only [us_ne, us_eq]); exact hq2) q8 k v, ?_⟩
  rintro r2 σ2 ⟨rfl, a2, b2, f2, rfl, ha2, hb2, hf2⟩
  try simp (disch := decide) only [us_ne, us_eq] at ha2
  try simp (disch := decide) only [us_ne, us_eq] at hb2
  refine ⟨rfl, ?_⟩
  by_cases o : ld_oRe h q k v
  · rw [if_pos o] at ha hb hf ha2 hb2 hf2
    unfold ld_oRe at o
    unfold ld_J
    refine ⟨h, (q + 1), cr, ⟨h8, (by omega), c99⟩, ⟨(by (try simp (disch := decide) only [us_ne, us_eq]); exact hh), (by (try simp (disch := decide) only [us_ne, us_eq]); exact hh2)⟩, ⟨(by (try simp (disch := decide) only [us_ne, us_eq]); exact hc), (by (try simp (disch := decide) only [us_ne, us_eq]); exact hc2)⟩, (by (try simp (disch := decide) only [us_ne, us_eq]); exact hw), (fun x z => by (try simp (disch := decide) only [us_ne, us_eq]); exact hx x z), (by (try simp (disch := decide) only [us_ne, us_eq]); exact ld_bd_mono hbd (by omega)), ⟨(by (try simp (disch := decide) only [us_ne, us_eq]); exact hf), (by (try simp (disch := decide) only [us_ne, us_eq]); exact hf2)⟩, (fun x z => by (try simp (disch := decide) only [us_ne, us_eq]); exact ld_rdx hr o.1 ha hb ha2 hb2 x z), (by (try simp (disch := decide) only [us_ne, us_eq]); exact htr), (by (try simp (disch := decide) only [us_ne, us_eq]); exact hft), (fun j z => by (try simp (disch := omega) only [us_ne, us_eq]); exact hs j z)⟩
  · rw [if_neg o] at ha hb hf ha2 hb2 hf2
    unfold ld_J
    refine ⟨h, q, cr, ⟨h8, q8, c99⟩, ⟨(by (try simp (disch := decide) only [us_ne, us_eq]); exact hh), (by (try simp (disch := decide) only [us_ne, us_eq]); exact hh2)⟩, ⟨(by (try simp (disch := decide) only [us_ne, us_eq]); exact hc), (by (try simp (disch := decide) only [us_ne, us_eq]); exact hc2)⟩, (by (try simp (disch := decide) only [us_ne, us_eq]); exact hw), (fun x z => by (try simp (disch := decide) only [us_ne, us_eq]); exact hx x z), (by (try simp (disch := decide) only [us_ne, us_eq]); exact ld_bd_mono hbd (by omega)), ⟨(by (try simp (disch := decide) only [us_ne, us_eq]); exact hf), (by (try simp (disch := decide) only [us_ne, us_eq]); exact hf2)⟩, (fun x z => by (try simp (disch := decide) only [us_ne, us_eq]); rw [ha, hb, ha2, hb2]; exact hr x z), (by (try simp (disch := decide) only [us_ne, us_eq]); exact htr), (by (try simp (disch := decide) only [us_ne, us_eq]); exact hft), (fun j z => by (try simp (disch := omega) only [us_ne, us_eq]); exact hs j z)⟩
/-- one sheet changed, the others as they were -/
theorem ld_shx {σ σ2 : ld_St} {k : Nat} (hk : k < 4) (hs : ∀ j, j < 4 → σ 131 j = σ 34 j ∧ σ 130 j = σ 35 j ∧ (-1 ≤ (σ 34 j).toInt ∧ (σ 34 j).toInt ≤ 60) ∧ ∀ x : Nat, (x : Int) < (σ 34 j).toInt → σ (16 + j) x = σ 36 (60 * j + x))
    (h1 : ∀ j, j ≠ k → j < 4 → σ2 131 j = σ 131 j ∧ σ2 34 j = σ 34 j ∧ σ2 130 j = σ 130 j ∧ σ2 35 j = σ 35 j ∧ σ2 (16 + j) = σ (16 + j) ∧ ∀ x, x < 60 → σ2 36 (60 * j + x) = σ 36 (60 * j + x))
    (h2 : σ2 131 k = σ2 34 k ∧ σ2 130 k = σ2 35 k ∧ (-1 ≤ (σ2 34 k).toInt ∧ (σ2 34 k).toInt ≤ 60) ∧ ∀ x : Nat, (x : Int) < (σ2 34 k).toInt → σ2 (16 + k) x = σ2 36 (60 * k + x)) :
    ∀ j, j < 4 → σ2 131 j = σ2 34 j ∧ σ2 130 j = σ2 35 j ∧ (-1 ≤ (σ2 34 j).toInt ∧ (σ2 34 j).toInt ≤ 60) ∧ ∀ x : Nat, (x : Int) < (σ2 34 j).toInt → σ2 (16 + j) x = σ2 36 (60 * j + x) := by
  intro j hj
  by_cases e : j = k
  · rw [e]; exact h2
  · obtain ⟨a1, a2, a3, a4, a5, a6⟩ := h1 j e hj
    obtain ⟨b1, b2, b3, b4⟩ := hs j hj
    rw [a1, a2, a3, a4, a5]
    exact ⟨b1, b2, b3, fun x hx => by rw [a6 x (by omega)]; exact b4 x hx⟩
theorem ld_p_lose {l : Launch} {ad : Nat → Nat} {T : Nat} {σ : ld_St} (J : ld_J T σ) (hT : T ≤ 8000) (k : Int32) : ld_PI l ad T σ yX2_lose cX2_lose 3 (1, 20) yX3_lose cX3_lose 3 (2, 45) [.int k] := by
  have J0 := J
  obtain ⟨h, q, cr, ⟨h8, q8, c99⟩, ⟨hh, hh2⟩, ⟨hc, hc2⟩, hw, hx, hbd, ⟨hq, hq2⟩, hr, htr, hft, hs⟩ := J
  have e0 : ∀ x, x < h → σ 0 x = σ 20 x := fun x z => (hx x z).1
  have e1 : ∀ x, x < h → σ 1 x = σ 21 x := fun x z => (hx x z).2.1
  have e2 : ∀ x, x < h → σ 2 x = σ 22 x := fun x z => (hx x z).2.2.1
  have e3 : ∀ x, x < h → σ 3 x = σ 23 x := fun x z => (hx x z).2.2.2
  have eV : ld_eqv h (σ 1, σ 2, σ 3) (σ 21, σ 22, σ 23) := fun x z => (hx x z).2
  have hse : ld_se (σ 131) (σ 130) (fun z => σ (16 + z)) (σ 34) (σ 35) (fun z x => σ 36 (60 * z + x)) := fun j z => ⟨(hs j z).1, (hs j z).2.1, (hs j z).2.2.2⟩
  have hS1 : ∀ x, x < 4 → -1 ≤ (σ 131 x).toInt ∧ (σ 131 x).toInt ≤ 60 := fun j z => by rw [(hs j z).1]; exact (hs j z).2.2.1
  have hS2 : ∀ x, x < 4 → -1 ≤ (σ 34 x).toInt ∧ (σ 34 x).toInt ≤ 60 := fun j z => (hs j z).2.2.1
  refine ⟨_, c_X2_lose l ad σ k, ?_⟩
  rintro r σ1 ⟨rfl, rfl⟩
  refine ⟨_, c_X3_lose l ad _ (by (try simp (disch := decide) only [us_ne, us_eq]); exact hS2) k, ?_⟩
  rintro r2 σ2 ⟨rfl, rfl⟩
  refine ⟨?_, ?_⟩
  · (try simp (disch := decide) only [us_ne, us_eq])
    exact ld_fLo_cong hse
  · have hz := hs
    unfold ld_J
    refine ⟨h, q, cr, ⟨h8, q8, c99⟩, ⟨(by (try simp (disch := decide) only [us_ne, us_eq]); exact hh), (by (try simp (disch := decide) only [us_ne, us_eq]); exact hh2)⟩, ⟨(by (try simp (disch := decide) only [us_ne, us_eq]); exact hc), (by (try simp (disch := decide) only [us_ne, us_eq]); exact hc2)⟩, (by (try simp (disch := decide) only [us_ne, us_eq]); exact hw), (fun x z => by (try simp (disch := decide) only [us_ne, us_eq]); exact hx x z), (by (try simp (disch := decide) only [us_ne, us_eq]); exact ld_bd_mono hbd (by omega)), ⟨(by (try simp (disch := decide) only [us_ne, us_eq]); exact hq), (by (try simp (disch := decide) only [us_ne, us_eq]); exact hq2)⟩, (fun x z => by (try simp (disch := decide) only [us_ne, us_eq]); exact hr x z), (by (try simp (disch := decide) only [us_ne, us_eq]); exact htr), (by (try simp (disch := decide) only [us_ne, us_eq]); exact hft), ?_⟩
    by_cases c : 0 ≤ k.toInt ∧ k.toInt < 4
    · refine ld_shx (ld_ix4 c) hs (fun j hj hj4 => ?_) ?_
      · unfold ld_gLo
        rw [if_pos c, if_pos c]
        (try simp (disch := omega) only [us_ne, us_eq, pk_un hj])
        try simp only [true_and, implies_true]
      · have e1 := (hs _ (ld_ix4 c)).2.1
        unfold ld_gLo
        rw [if_pos c, if_pos c]
        (try simp (disch := omega) only [us_ne, us_eq, pk_us])
        exact ⟨trivial, e1, by decide, fun x hx => absurd hx (by rw [ld_m1]; omega)⟩
    · unfold ld_gLo
      rw [if_neg c, if_neg c]
      intro j z
      (try simp (disch := omega) only [us_ne, us_eq])
      exact hs j z
theorem ld_p_cell {l : Launch} {ad : Nat → Nat} {T : Nat} {σ : ld_St} (J : ld_J T σ) (hT : T ≤ 8000) (k i lane : Int32) : ld_PL l ad T σ yX2_cell cX2_cell 6 (2, 41) yX3_cell cX3_cell 4 (2, 47) [.int k, .int i, .int lane] := by
  have J0 := J
  obtain ⟨h, q, cr, ⟨h8, q8, c99⟩, ⟨hh, hh2⟩, ⟨hc, hc2⟩, hw, hx, hbd, ⟨hq, hq2⟩, hr, htr, hft, hs⟩ := J
  have e0 : ∀ x, x < h → σ 0 x = σ 20 x := fun x z => (hx x z).1
  have e1 : ∀ x, x < h → σ 1 x = σ 21 x := fun x z => (hx x z).2.1
  have e2 : ∀ x, x < h → σ 2 x = σ 22 x := fun x z => (hx x z).2.2.1
  have e3 : ∀ x, x < h → σ 3 x = σ 23 x := fun x z => (hx x z).2.2.2
  have eV : ld_eqv h (σ 1, σ 2, σ 3) (σ 21, σ 22, σ 23) := fun x z => (hx x z).2
  have hse : ld_se (σ 131) (σ 130) (fun z => σ (16 + z)) (σ 34) (σ 35) (fun z x => σ 36 (60 * z + x)) := fun j z => ⟨(hs j z).1, (hs j z).2.1, (hs j z).2.2.2⟩
  have hS1 : ∀ x, x < 4 → -1 ≤ (σ 131 x).toInt ∧ (σ 131 x).toInt ≤ 60 := fun j z => by rw [(hs j z).1]; exact (hs j z).2.2.1
  have hS2 : ∀ x, x < 4 → -1 ≤ (σ 34 x).toInt ∧ (σ 34 x).toInt ≤ 60 := fun j z => (hs j z).2.2.1
  refine ⟨_, c_X2_cell l ad σ hS1 k i lane, ?_⟩
  rintro r σ1 ⟨rfl, f, hf, rfl⟩
  refine ⟨_, c_X3_cell l ad _ (by (try simp (disch := decide) only [us_ne, us_eq]); exact hS2) k i lane, ?_⟩
  rintro r2 σ2 ⟨rfl, g, hg, rfl⟩
  try simp (disch := decide) only [us_ne, us_eq] at hg
  refine ⟨?_, ?_⟩
  · (try simp (disch := decide) only [us_ne, us_eq])
    exact congrArg Prod.fst (ld_fCe_cong hse)
  · unfold ld_J
    refine ⟨h, q, cr, ⟨h8, q8, c99⟩, ⟨(by (try simp (disch := decide) only [us_ne, us_eq]); exact hh), (by (try simp (disch := decide) only [us_ne, us_eq]); exact hh2)⟩, ⟨(by (try simp (disch := decide) only [us_ne, us_eq]); exact hc), (by (try simp (disch := decide) only [us_ne, us_eq]); exact hc2)⟩, (by (try simp (disch := decide) only [us_ne, us_eq]); exact hw), (fun x z => by (try simp (disch := decide) only [us_ne, us_eq]); exact hx x z), (by (try simp (disch := decide) only [us_ne, us_eq]); exact ld_bd_mono hbd (by omega)), ⟨(by (try simp (disch := decide) only [us_ne, us_eq]); exact hq), (by (try simp (disch := decide) only [us_ne, us_eq]); exact hq2)⟩, (fun x z => by (try simp (disch := decide) only [us_ne, us_eq]); exact hr x z), (by (try simp (disch := decide) only [us_ne, us_eq]); exact htr), (by (try simp (disch := decide) only [us_ne, us_eq]); exact hf.trans ((congrArg Prod.snd (ld_fCe_cong hse)).trans hg.symm)), (fun j z => by (try simp (disch := omega) only [us_ne, us_eq]); exact hs j z)⟩
theorem ld_p_sheet {l : Launch} {ad : Nat → Nat} {T : Nat} {σ : ld_St} (J : ld_J T σ) (hT : T ≤ 8000) (k lane n : Int32) : ld_PI l ad T σ yX2_sheet cX2_sheet 4 (1, 23) yX3_sheet cX3_sheet 5 (2, 45) [.int k, .int lane, .int n] := by
  have J0 := J
  obtain ⟨h, q, cr, ⟨h8, q8, c99⟩, ⟨hh, hh2⟩, ⟨hc, hc2⟩, hw, hx, hbd, ⟨hq, hq2⟩, hr, htr, hft, hs⟩ := J
  have e0 : ∀ x, x < h → σ 0 x = σ 20 x := fun x z => (hx x z).1
  have e1 : ∀ x, x < h → σ 1 x = σ 21 x := fun x z => (hx x z).2.1
  have e2 : ∀ x, x < h → σ 2 x = σ 22 x := fun x z => (hx x z).2.2.1
  have e3 : ∀ x, x < h → σ 3 x = σ 23 x := fun x z => (hx x z).2.2.2
  have eV : ld_eqv h (σ 1, σ 2, σ 3) (σ 21, σ 22, σ 23) := fun x z => (hx x z).2
  have hse : ld_se (σ 131) (σ 130) (fun z => σ (16 + z)) (σ 34) (σ 35) (fun z x => σ 36 (60 * z + x)) := fun j z => ⟨(hs j z).1, (hs j z).2.1, (hs j z).2.2.2⟩
  have hS1 : ∀ x, x < 4 → -1 ≤ (σ 131 x).toInt ∧ (σ 131 x).toInt ≤ 60 := fun j z => by rw [(hs j z).1]; exact (hs j z).2.2.1
  have hS2 : ∀ x, x < 4 → -1 ≤ (σ 34 x).toInt ∧ (σ 34 x).toInt ≤ 60 := fun j z => (hs j z).2.2.1
  refine ⟨_, c_X2_sheet l ad σ k lane n, ?_⟩
  rintro r σ1 ⟨rfl, f, hf, hp⟩
  rcases hp with ⟨o, g, rfl, hg⟩ | ⟨o, rfl⟩
  · refine ⟨_, c_X3_sheet l ad _ k lane n, ?_⟩
    rintro r2 σ2 ⟨rfl, f2, hf2, hp⟩
    rcases hp with ⟨o2, g2, rfl, hg2, hgo⟩ | ⟨o2, rfl⟩
    · refine ⟨rfl, ?_⟩
      obtain ⟨ok, ol, on⟩ := o
      have hk := ld_ix4 ok
      have vn := ld_ixv on.1
      generalize hK : ld_ix k = K at *
      generalize hN : ld_ix n = N at *
      unfold ld_J
      refine ⟨h, q, cr, ⟨h8, q8, c99⟩, ⟨(by (try simp (disch := omega) only [us_ne, us_eq]); exact hh), (by (try simp (disch := omega) only [us_ne, us_eq]); exact hh2)⟩, ⟨(by (try simp (disch := omega) only [us_ne, us_eq]); exact hc), (by (try simp (disch := omega) only [us_ne, us_eq]); exact hc2)⟩, (by (try simp (disch := omega) only [us_ne, us_eq]); exact hw), (fun x z => by (try simp (disch := omega) only [us_ne, us_eq]); exact hx x z), (by (try simp (disch := omega) only [us_ne, us_eq]); exact ld_bd_mono hbd (by omega)), ⟨(by (try simp (disch := omega) only [us_ne, us_eq]); exact hq), (by (try simp (disch := omega) only [us_ne, us_eq]); exact hq2)⟩, (fun x z => by (try simp (disch := omega) only [us_ne, us_eq]); exact hr x z), (by (try simp (disch := omega) only [us_ne, us_eq]); exact htr), (by (try simp (disch := omega) only [us_ne, us_eq]); exact hf.trans hf2.symm), ?_⟩
      refine ld_shx hk hs (fun j hj hj4 => ?_) ?_
      · (try simp (disch := omega) only [us_ne, us_eq, pk_un hj])
        refine ⟨trivial, trivial, trivial, trivial, trivial, fun x hx => ?_⟩
        rw [hgo _ (by omega)]
        (try simp (disch := omega) only [us_ne, us_eq])
      · (try simp (disch := omega) only [us_ne, us_eq, pk_us])
        refine ⟨trivial, trivial, ?_, fun x hx => ?_⟩
        · rw [nI_toInt (by omega)]; omega
        · rw [nI_toInt (by omega)] at hx
          rw [hg x (by omega), hg2 x (by omega)]
    · exact absurd o o2
  · refine ⟨_, c_X3_sheet l ad _ k lane n, ?_⟩
    rintro r2 σ2 ⟨rfl, f2, hf2, hp⟩
    rcases hp with ⟨o2, _⟩ | ⟨o2, rfl⟩
    · exact absurd o2 o
    · refine ⟨rfl, ?_⟩
      unfold ld_J
      refine ⟨h, q, cr, ⟨h8, q8, c99⟩, ⟨(by (try simp (disch := decide) only [us_ne, us_eq]); exact hh), (by (try simp (disch := decide) only [us_ne, us_eq]); exact hh2)⟩, ⟨(by (try simp (disch := decide) only [us_ne, us_eq]); exact hc), (by (try simp (disch := decide) only [us_ne, us_eq]); exact hc2)⟩, (by (try simp (disch := decide) only [us_ne, us_eq]); exact hw), (fun x z => by (try simp (disch := decide) only [us_ne, us_eq]); exact hx x z), (by (try simp (disch := decide) only [us_ne, us_eq]); exact ld_bd_mono hbd (by omega)), ⟨(by (try simp (disch := decide) only [us_ne, us_eq]); exact hq), (by (try simp (disch := decide) only [us_ne, us_eq]); exact hq2)⟩, (fun x z => by (try simp (disch := decide) only [us_ne, us_eq]); exact hr x z), (by (try simp (disch := decide) only [us_ne, us_eq]); exact htr), (by (try simp (disch := decide) only [us_ne, us_eq]); exact hf.trans hf2.symm), (fun j z => by (try simp (disch := omega) only [us_ne, us_eq]); exact hs j z)⟩
theorem ld_p_put {l : Launch} {ad : Nat → Nat} {T : Nat} {σ : ld_St} (J : ld_J T σ) (hT : T ≤ 8000) (k i v : Int32) : ld_PI l ad T σ yX2_put cX2_put 5 (1, 21) yX3_put cX3_put 4 (2, 47) [.int k, .int i, .int v] := by
  have J0 := J
  obtain ⟨h, q, cr, ⟨h8, q8, c99⟩, ⟨hh, hh2⟩, ⟨hc, hc2⟩, hw, hx, hbd, ⟨hq, hq2⟩, hr, htr, hft, hs⟩ := J
  have e0 : ∀ x, x < h → σ 0 x = σ 20 x := fun x z => (hx x z).1
  have e1 : ∀ x, x < h → σ 1 x = σ 21 x := fun x z => (hx x z).2.1
  have e2 : ∀ x, x < h → σ 2 x = σ 22 x := fun x z => (hx x z).2.2.1
  have e3 : ∀ x, x < h → σ 3 x = σ 23 x := fun x z => (hx x z).2.2.2
  have eV : ld_eqv h (σ 1, σ 2, σ 3) (σ 21, σ 22, σ 23) := fun x z => (hx x z).2
  have hse : ld_se (σ 131) (σ 130) (fun z => σ (16 + z)) (σ 34) (σ 35) (fun z x => σ 36 (60 * z + x)) := fun j z => ⟨(hs j z).1, (hs j z).2.1, (hs j z).2.2.2⟩
  have hS1 : ∀ x, x < 4 → -1 ≤ (σ 131 x).toInt ∧ (σ 131 x).toInt ≤ 60 := fun j z => by rw [(hs j z).1]; exact (hs j z).2.2.1
  have hS2 : ∀ x, x < 4 → -1 ≤ (σ 34 x).toInt ∧ (σ 34 x).toInt ≤ 60 := fun j z => (hs j z).2.2.1
  refine ⟨_, c_X2_put l ad σ hS1 k i v, ?_⟩
  rintro r σ1 ⟨rfl, f, hf, hp⟩
  have eF := ld_fPu_cong (k := k) (i := i) hse
  have eO := ld_okPu_cong (k := k) (i := i) hse
  rcases hp with ⟨o, rfl⟩ | ⟨o, rfl⟩
  · obtain ⟨ok, o1, oi⟩ := id o
    have hk := ld_ix4 ok
    have vi := ld_ixv oi.1
    have hN60 : ld_ix i < 60 := by have := hS1 _ hk; omega
    refine ⟨_, c_X3_put l ad _ (by (try simp (disch := omega) only [us_ne, us_eq]); exact hS2) k i v, ?_⟩
    rintro r2 σ2 ⟨rfl, f2, hf2, hp⟩
    try simp (disch := omega) only [us_ne, us_eq] at hf2
    try simp (disch := omega) only [us_ne, us_eq] at hp
    refine ⟨by (try simp (disch := omega) only [us_ne, us_eq]); exact congrArg Prod.fst eF, ?_⟩
    rcases hp with ⟨o2, rfl⟩ | ⟨o2, _⟩
    · have hlc : σ 130 (ld_ix k) = σ 35 (ld_ix k) := (hs _ hk).2.1
      have hln := (hs _ hk)
      generalize ld_ix k = K at *
      generalize ld_ix i = N at *
      unfold ld_J
      refine ⟨h, q, cr, ⟨h8, q8, c99⟩, ⟨(by (try simp (disch := omega) only [us_ne, us_eq]); exact hh), (by (try simp (disch := omega) only [us_ne, us_eq]); exact hh2)⟩, ⟨(by (try simp (disch := omega) only [us_ne, us_eq]); exact hc), (by (try simp (disch := omega) only [us_ne, us_eq]); exact hc2)⟩, (by (try simp (disch := omega) only [us_ne, us_eq]); exact hw), (fun x z => by (try simp (disch := omega) only [us_ne, us_eq]); exact hx x z), (by (try simp (disch := omega) only [us_ne, us_eq]); exact ld_bd_mono hbd (by omega)), ⟨(by (try simp (disch := omega) only [us_ne, us_eq]); exact hq), (by (try simp (disch := omega) only [us_ne, us_eq]); exact hq2)⟩, (fun x z => by (try simp (disch := omega) only [us_ne, us_eq]); exact hr x z), (by (try simp (disch := omega) only [us_ne, us_eq]); exact htr), (by (try simp (disch := omega) only [us_ne, us_eq]); exact hf.trans ((congrArg Prod.snd eF).trans hf2.symm)), ?_⟩
      refine ld_shx hk hs (fun j hj hj4 => ?_) ?_
      · (try simp (disch := omega) only [us_ne, us_eq])
        refine ⟨trivial, trivial, trivial, trivial, trivial, fun x hx => ?_⟩
        (try simp (disch := omega) only [us_ne, us_eq])
        rw [pk_un (by omega)]
      · (try simp (disch := omega) only [us_ne, us_eq])
        refine ⟨hln.1, hln.2.1, hln.2.2.1, fun x hx => ?_⟩
        by_cases e : x = N
        · rw [e, pk_us, pk_us, hlc]
        · rw [pk_un e, pk_un (by omega)]; exact hln.2.2.2 x hx
    · exact absurd (eO.mp o) o2
  · refine ⟨_, c_X3_put l ad _ (by (try simp (disch := decide) only [us_ne, us_eq]); exact hS2) k i v, ?_⟩
    rintro r2 σ2 ⟨rfl, f2, hf2, hp⟩
    try simp (disch := decide) only [us_ne, us_eq] at hf2
    try simp (disch := decide) only [us_ne, us_eq] at hp
    rcases hp with ⟨o2, _⟩ | ⟨o2, rfl⟩
    · exact absurd (eO.mpr o2) o
    · refine ⟨by (try simp (disch := omega) only [us_ne, us_eq]); exact congrArg Prod.fst eF, ?_⟩
      unfold ld_J
      refine ⟨h, q, cr, ⟨h8, q8, c99⟩, ⟨(by (try simp (disch := decide) only [us_ne, us_eq]); exact hh), (by (try simp (disch := decide) only [us_ne, us_eq]); exact hh2)⟩, ⟨(by (try simp (disch := decide) only [us_ne, us_eq]); exact hc), (by (try simp (disch := decide) only [us_ne, us_eq]); exact hc2)⟩, (by (try simp (disch := decide) only [us_ne, us_eq]); exact hw), (fun x z => by (try simp (disch := decide) only [us_ne, us_eq]); exact hx x z), (by (try simp (disch := decide) only [us_ne, us_eq]); exact ld_bd_mono hbd (by omega)), ⟨(by (try simp (disch := decide) only [us_ne, us_eq]); exact hq), (by (try simp (disch := decide) only [us_ne, us_eq]); exact hq2)⟩, (fun x z => by (try simp (disch := decide) only [us_ne, us_eq]); exact hr x z), (by (try simp (disch := decide) only [us_ne, us_eq]); exact htr), (by (try simp (disch := decide) only [us_ne, us_eq]); exact hf.trans ((congrArg Prod.snd eF).trans hf2.symm)), (fun j z => by (try simp (disch := omega) only [us_ne, us_eq]); exact hs j z)⟩
theorem ld_p_copy {l : Launch} {ad : Nat → Nat} {T : Nat} {σ : ld_St} (J : ld_J T σ) (hT : T ≤ 8000) (k i o j n : Int32) : ld_PI l ad T σ yX2_copy cX2_copy 8 (1, 40) yX3_copy cX3_copy 7 (2, 45) [.int k, .int i, .int o, .int j, .int n] := by
  have J0 := J
  obtain ⟨h, q, cr, ⟨h8, q8, c99⟩, ⟨hh, hh2⟩, ⟨hc, hc2⟩, hw, hx, hbd, ⟨hq, hq2⟩, hr, htr, hft, hs⟩ := J
  have e0 : ∀ x, x < h → σ 0 x = σ 20 x := fun x z => (hx x z).1
  have e1 : ∀ x, x < h → σ 1 x = σ 21 x := fun x z => (hx x z).2.1
  have e2 : ∀ x, x < h → σ 2 x = σ 22 x := fun x z => (hx x z).2.2.1
  have e3 : ∀ x, x < h → σ 3 x = σ 23 x := fun x z => (hx x z).2.2.2
  have eV : ld_eqv h (σ 1, σ 2, σ 3) (σ 21, σ 22, σ 23) := fun x z => (hx x z).2
  have hse : ld_se (σ 131) (σ 130) (fun z => σ (16 + z)) (σ 34) (σ 35) (fun z x => σ 36 (60 * z + x)) := fun j z => ⟨(hs j z).1, (hs j z).2.1, (hs j z).2.2.2⟩
  have hS1 : ∀ x, x < 4 → -1 ≤ (σ 131 x).toInt ∧ (σ 131 x).toInt ≤ 60 := fun j z => by rw [(hs j z).1]; exact (hs j z).2.2.1
  have hS2 : ∀ x, x < 4 → -1 ≤ (σ 34 x).toInt ∧ (σ 34 x).toInt ≤ 60 := fun j z => (hs j z).2.2.1
  refine ⟨_, c_X2_copy l ad σ hS1 k i o j n, ?_⟩
  rintro r σ1 ⟨rfl, f, hf, hp⟩
  have eF := ld_fCp_cong (k := k) (i := i) (o := o) (j := j) (n := n) hse
  have eO := ld_okCp_cong (k := k) (i := i) (o := o) (j := j) (n := n) hse
  rcases hp with ⟨ok, rfl⟩ | ⟨ok, rfl⟩
  · obtain ⟨⟨okk, oko⟩, o1, ol, oi, oj⟩ := eO.mp ok
    have hk := ld_ix4 okk
    have ho := ld_ix4 oko
    have vi := ld_ixv (k := i) (by omega)
    have vj := ld_ixv (k := j) (by omega)
    have vn := ld_ixv (k := n) (by omega)
    refine ⟨_, c_X3_copy l ad _ (by (try simp (disch := omega) only [us_ne, us_eq]); exact hS2) k i o j n, ?_⟩
    rintro r2 σ2 ⟨rfl, f2, hf2, hp⟩
    try simp (disch := omega) only [us_ne, us_eq] at hf2
    try simp (disch := omega) only [us_ne, us_eq] at hp
    refine ⟨by (try simp (disch := omega) only [us_ne, us_eq]); exact congrArg Prod.fst eF, ?_⟩
    rcases hp with ⟨o2, hd, g, rfl, hg, hgo⟩ | ⟨o2, _⟩
    · have hsk := hs _ hk
      have hso := hs _ ho
      generalize ld_ix k = K at *
      generalize ld_ix o = O at *
      generalize ld_ix i = I at *
      generalize ld_ix j = Jx at *
      generalize ld_ix n = N at *
      unfold ld_J
      refine ⟨h, q, cr, ⟨h8, q8, c99⟩, ⟨(by (try simp (disch := omega) only [us_ne, us_eq]); exact hh), (by (try simp (disch := omega) only [us_ne, us_eq]); exact hh2)⟩, ⟨(by (try simp (disch := omega) only [us_ne, us_eq]); exact hc), (by (try simp (disch := omega) only [us_ne, us_eq]); exact hc2)⟩, (by (try simp (disch := omega) only [us_ne, us_eq]); exact hw), (fun x z => by (try simp (disch := omega) only [us_ne, us_eq]); exact hx x z), (by (try simp (disch := omega) only [us_ne, us_eq]); exact ld_bd_mono hbd (by omega)), ⟨(by (try simp (disch := omega) only [us_ne, us_eq]); exact hq), (by (try simp (disch := omega) only [us_ne, us_eq]); exact hq2)⟩, (fun x z => by (try simp (disch := omega) only [us_ne, us_eq]); exact hr x z), (by (try simp (disch := omega) only [us_ne, us_eq]); exact htr), (by (try simp (disch := omega) only [us_ne, us_eq]); exact hf.trans ((congrArg Prod.snd eF).trans hf2.symm)), ?_⟩
      refine ld_shx ho hs (fun y hy hy4 => ?_) ?_
      · (try simp (disch := omega) only [us_ne, us_eq])
        refine ⟨trivial, trivial, trivial, trivial, trivial, fun x hx => ?_⟩
        (try simp (disch := omega) only [us_ne, us_eq])
        exact hgo _ (by omega)
      · (try simp (disch := omega) only [us_ne, us_eq])
        refine ⟨hso.1, hso.2.1, hso.2.2.1, fun x hx => ?_⟩
        unfold va_cpy
        by_cases e : Jx ≤ x ∧ x < Jx + N
        · rw [if_pos e, hsk.2.2.2 _ (by omega)]
          have z := hg (x - Jx) (by omega)
          rw [show 60 * O + Jx + (x - Jx) = 60 * O + x by omega, show 60 * K + I + (x - Jx) = 60 * K + (I + (x - Jx)) by omega] at z
          exact z.symm
        · rw [if_neg e, hgo _ (by omega)]; exact hso.2.2.2 x hx
    · exact absurd (eO.mp ok) o2
  · refine ⟨_, c_X3_copy l ad _ (by (try simp (disch := decide) only [us_ne, us_eq]); exact hS2) k i o j n, ?_⟩
    rintro r2 σ2 ⟨rfl, f2, hf2, hp⟩
    try simp (disch := decide) only [us_ne, us_eq] at hf2
    try simp (disch := decide) only [us_ne, us_eq] at hp
    rcases hp with ⟨o2, _⟩ | ⟨o2, rfl⟩
    · exact absurd (eO.mpr o2) ok
    · refine ⟨by (try simp (disch := omega) only [us_ne, us_eq]); exact congrArg Prod.fst eF, ?_⟩
      unfold ld_J
      refine ⟨h, q, cr, ⟨h8, q8, c99⟩, ⟨(by (try simp (disch := decide) only [us_ne, us_eq]); exact hh), (by (try simp (disch := decide) only [us_ne, us_eq]); exact hh2)⟩, ⟨(by (try simp (disch := decide) only [us_ne, us_eq]); exact hc), (by (try simp (disch := decide) only [us_ne, us_eq]); exact hc2)⟩, (by (try simp (disch := decide) only [us_ne, us_eq]); exact hw), (fun x z => by (try simp (disch := decide) only [us_ne, us_eq]); exact hx x z), (by (try simp (disch := decide) only [us_ne, us_eq]); exact ld_bd_mono hbd (by omega)), ⟨(by (try simp (disch := decide) only [us_ne, us_eq]); exact hq), (by (try simp (disch := decide) only [us_ne, us_eq]); exact hq2)⟩, (fun x z => by (try simp (disch := decide) only [us_ne, us_eq]); exact hr x z), (by (try simp (disch := decide) only [us_ne, us_eq]); exact htr), (by (try simp (disch := decide) only [us_ne, us_eq]); exact hf.trans ((congrArg Prod.snd eF).trans hf2.symm)), (fun j z => by (try simp (disch := omega) only [us_ne, us_eq]); exact hs j z)⟩
