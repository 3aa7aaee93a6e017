def ld_scrA (a : Nat) : Prop := (4 ≤ a ∧ a < 14) ∨ (24 ≤ a ∧ a < 32) ∨ a = 37 ∨ (120 ≤ a ∧ a < 124) ∨ a = 113 ∨ (144 ≤ a ∧ a < 150)
theorem ld_J.scr {T : Nat} {σ : ld_St} (h : ld_J T σ) {a : Nat} (f : Nat → Int32) (ha : ld_scrA a) : ld_J T (us σ a f) := by
  have hn : ∀ b, b ≠ a → us σ a f b = σ b := fun b hb => us_ne σ f hb
  unfold ld_scrA at ha
  unfold ld_J at h ⊢
  rw [hn 110 (by omega), hn 141 (by omega), hn 111 (by omega), hn 142 (by omega), hn 112 (by omega), hn 143 (by omega), hn 0 (by omega), hn 20 (by omega), hn 1 (by omega), hn 21 (by omega), hn 2 (by omega), hn 22 (by omega), hn 3 (by omega), hn 23 (by omega), hn 100 (by omega), hn 150 (by omega), hn 14 (by omega), hn 32 (by omega), hn 15 (by omega), hn 33 (by omega), hn 101 (by omega), hn 151 (by omega), hn 102 (by omega), hn 140 (by omega), hn 131 (by omega), hn 34 (by omega), hn 130 (by omega), hn 35 (by omega), hn 36 (by omega)]
  obtain ⟨hh, q, cr, z1, z2, z3, z4, z5, z6, z7, z8, z9, z10, z11⟩ := h
  refine ⟨hh, q, cr, z1, z2, z3, z4, z5, z6, z7, z8, z9, z10, fun k hk => ?_⟩
  rw [hn (16 + k) (by omega)]
  exact z11 k hk
