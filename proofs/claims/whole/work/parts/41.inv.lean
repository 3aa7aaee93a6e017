def ld_J (T : Nat) (σ : ld_St) : Prop := ∃ h q cr : Nat, (h ≤ 8 ∧ q ≤ 8 ∧ cr ≤ 99) ∧ (σ 110 0 = nI h ∧ σ 141 0 = nI h) ∧ (σ 111 0 = nI cr ∧ σ 142 0 = nI cr) ∧ σ 112 0 = σ 143 0 ∧
  (∀ x, x < h → σ 0 x = σ 20 x ∧ σ 1 x = σ 21 x ∧ σ 2 x = σ 22 x ∧ σ 3 x = σ 23 x) ∧ ld_bd h (σ 20) (σ 21) (σ 22) (σ 23) T ∧
  (σ 100 0 = nI q ∧ σ 150 0 = nI q) ∧ (∀ x, x < q → σ 14 x = σ 32 x ∧ σ 15 x = σ 33 x ∧ 0 ≤ (σ 32 x).toInt ∧ (σ 32 x).toInt < (h : Int)) ∧
  σ 101 0 = σ 151 0 ∧ σ 102 0 = σ 140 0 ∧
  (∀ k, k < 4 → σ 131 k = σ 34 k ∧ σ 130 k = σ 35 k ∧ (-1 ≤ (σ 34 k).toInt ∧ (σ 34 k).toInt ≤ 60) ∧ ∀ x : Nat, (x : Int) < (σ 34 k).toInt → σ (16 + k) x = σ 36 (60 * k + x))
theorem ld_J0 : ld_J 0 ld_s0 := by
  refine ⟨0, 0, 0, ⟨by decide, by decide, by decide⟩, ⟨rfl, rfl⟩, ⟨rfl, rfl⟩, rfl, fun x hx => absurd hx (Nat.not_lt_zero x), fun x hx => absurd hx (Nat.not_lt_zero x), ⟨rfl, rfl⟩, fun x hx => absurd hx (Nat.not_lt_zero x), rfl, rfl, fun k hk => ?_⟩
  have e : ld_s0 34 k = (-1 : Int32) := by rcases (show k = 0 ∨ k = 1 ∨ k = 2 ∨ k = 3 by omega) with rfl | rfl | rfl | rfl <;> rfl
  rw [e, ld_m1]
  exact ⟨rfl, rfl, ⟨by decide, by decide⟩, fun x hx => absurd hx (by omega)⟩
