theorem ld_fOf_cong {h : Nat} {c : Int32} {kd kd2 t t2 s s2 p p2 : Nat → Int32} {k what : Int32} (e : ∀ x, x < h → kd x = kd2 x) (e2 : ∀ x, x < h → t x = t2 x) (e3 : ∀ x, x < h → s x = s2 x) (e4 : ∀ x, x < h → p x = p2 x) : ld_fOf h c kd t s p k what = ld_fOf h c kd2 t2 s2 p2 k what := by
  unfold ld_fOf
  by_cases hk : 0 ≤ k.toInt ∧ k.toInt < (h : Int)
  · simp only [if_pos hk, ld_ixe e hk, ld_ixe e2 hk, ld_ixe e3 hk, ld_ixe e4 hk, ld_dt_cong e e2 (ld_ofIx hk).2.1]
  · rw [if_neg hk, if_neg hk]
theorem ld_gAn_cong {h : Nat} {t t2 : Nat → Int32} {k v : Int32} (e : ∀ x, x < h → t x = t2 x) : ∀ x, x < h → ld_gAn h t k v x = ld_gAn h t2 k v x := by
  intro x hx
  unfold ld_gAn
  by_cases hk : (0 ≤ k.toInt ∧ k.toInt < (h : Int)) ∧ 0 ≤ v.toInt ∧ v.toInt < 10
  · rw [if_pos hk, if_pos hk]
    by_cases q : x = ld_ix k
    · rw [q, pk_us, pk_us]
    · rw [pk_un q, pk_un q, e x hx]
  · rw [if_neg hk, if_neg hk, e x hx]
theorem ld_eAs_cong {h : Nat} {kd kd2 : Nat → Int32} {k z : Int32} (e : ∀ x, x < h → kd x = kd2 x) : ld_eAs h kd k z = ld_eAs h kd2 k z := by
  unfold ld_eAs
  by_cases hk : 0 ≤ k.toInt ∧ k.toInt < (h : Int)
  · rw [ld_ixe e hk]
  · rw [if_neg (fun z => hk z.1), if_neg (fun z => hk z.1)]
