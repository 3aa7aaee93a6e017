theorem ld_known {A : Array Value} {s : State} (hts : ∀ w ∈ wsL_law, w.before A s = true) : ∃ D : va_G, va_K D ld_cl [] s := by
  obtain ⟨c0, i0, k0⟩ := u_known (C := RX0) (T := TX0) (N := 3) (n := 3) hts inlX0 (hts _ ld_w25)
  obtain ⟨c1, i1, k1⟩ := u_known (C := RX1) (T := TX1) (N := 11) (n := 11) hts inlX1 (hts _ ld_w13)
  obtain ⟨c2, i2, k2⟩ := u_known (C := RX2) (T := TX2) (N := 8) (n := 8) hts inlX2 (hts _ ld_w1)
  obtain ⟨c3, i3, k3⟩ := u_known (C := RX3) (T := TX3) (N := 30) (n := 30) hts inlX3 (hts _ ld_w4)
  refine ⟨(fun k => if k = 0 then c0 else if k = 1 then c1 else if k = 2 then c2 else c3, fun k => if k = 0 then i0 else if k = 1 then i1 else if k = 2 then i2 else i3), ?_, fun k q h => by simp at h⟩
  intro k q hq
  match k, hq with
  | 0, hq => cases hq; exact k0
  | 1, hq => cases hq; exact k1
  | 2, hq => cases hq; exact k2
  | 3, hq => cases hq; exact k3
  | k + 4, hq => simp [ld_cl] at hq
theorem ld_knownI {A : Array Value} {s : State} (hts : ∀ w ∈ wsL_law, w.before A s = true) : ∃ (D : va_G) (cI : ClassId), va_K D ld_cl [(cI, .int)] s := by
  obtain ⟨D, hK⟩ := ld_known hts
  obtain ⟨cA, kA, comp, hfind, hk, hkind⟩ := Cond.arrayClass_spec (hts _ ld_w19)
  refine ⟨D, cA, hK.1, fun k q hq => ?_⟩
  match k, hq with
  | 0, hq =>
    cases hq
    exact ⟨fun N z => ⟨fun k h => (by cases h), kA, hk, comp, hkind⟩, hfind⟩
  | k + 1, hq => simp at hq
/-- the array of the sheets: only the first four places count -/
theorem ld_refs {D : va_G} {cl : List vw_C} {ws : va_W} {H : Heap} (h : va_P D cl ws H) {i a n : Nat} {c : ClassId} {f g : Nat → Option Nat} (hi : ws[i]? = some (a, .inl (c, n, .inr (.inr (.inr (.inr f)))))) (e : ∀ k, k < n → f k = g k) : va_P D cl (ws.set i (a, .inl (c, n, .inr (.inr (.inr (.inr g)))))) H := by
  have hv : vp_cell c (n, .inr (.inr (.inr (.inr f)))) = vp_cell c (n, .inr (.inr (.inr (.inr g)))) := by
    rw [vp_cell_q, vp_cell_q]
    unfold arrV
    congr 1
    apply Array.ext
    · simp
    · intro j h1 h2
      have hj : j < n := by simpa using h1
      simp [e j hj]
  intro k q hq
  rw [List.getElem?_set] at hq
  by_cases hik : i = k
  · subst hik
    rw [if_pos rfl] at hq
    have hl := (List.getElem?_eq_some_iff.mp hi).1
    rw [if_pos hl] at hq
    cases hq
    have h1 := h i _ hi
    show H[a]? = some (vp_cell c (n, .inr (.inr (.inr (.inr g)))))
    rw [← hv]
    exact h1
  · rw [if_neg hik] at hq
    exact h k q hq
