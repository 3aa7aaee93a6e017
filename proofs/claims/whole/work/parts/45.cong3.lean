theorem ld_fGi_cong {h : Nat} {s s2 : Nat → Int32} {k : Int32} (e : ∀ x, x < h → s x = s2 x) : ld_fGi h s k = ld_fGi h s2 k := by
  unfold ld_fGi
  by_cases hk : 0 ≤ k.toInt ∧ k.toInt < (h : Int)
  · have hl := (ld_ofIx hk).2.1
    rw [if_pos hk, if_pos hk, ld_ixe e hk, ld_gv_cong hl e _ hl]
  · rw [if_neg hk, if_neg hk]
theorem ld_gGi_cong {h : Nat} {s s2 : Nat → Int32} {k : Int32} (e : ∀ x, x < h → s x = s2 x) : ∀ x, x < h → ld_gGi h s k x = ld_gGi h s2 k x := by
  intro x hx
  unfold ld_gGi
  by_cases hk : 0 ≤ k.toInt ∧ k.toInt < (h : Int)
  · have hl := (ld_ofIx hk).2.1
    rw [ld_ixe e hk]
    by_cases g : 0 < (s2 (ld_ix k)).toInt
    · rw [if_pos ⟨hk, g⟩, if_pos ⟨hk, g⟩, ld_gv_cong hl e x hx]
    · rw [if_neg (fun z => g z.2), if_neg (fun z => g z.2), e x hx]
  · rw [if_neg (fun z => hk z.1), if_neg (fun z => hk z.1), e x hx]
theorem ld_fWk_cong {h : Nat} {c : Int32} {kd kd2 : Nat → Int32} {V U : ld_Tr} {n : Int32} (ek : ∀ x, x < h → kd x = kd2 x) (e : ld_eqv h V U) : ld_fWk h c kd V n = ld_fWk h c kd2 U n := by
  unfold ld_fWk
  rw [ld_wo_cong (fun x hx => (ld_wks_cong2 ek e _ x hx).2.1)]
