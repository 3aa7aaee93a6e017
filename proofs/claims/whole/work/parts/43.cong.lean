theorem ld_ixe {h : Nat} {k : Int32} {f g : Nat → Int32} (e : ∀ x, x < h → f x = g x) (hk : 0 ≤ k.toInt ∧ k.toInt < (h : Int)) : f (ld_ix k) = g (ld_ix k) := e _ (ld_ofIx hk).2.1
theorem ld_fAn_cong {h : Nat} {t t2 : Nat → Int32} {k v : Int32} (e : ∀ x, x < h → t x = t2 x) : ld_fAn h t k v = ld_fAn h t2 k v := by
  unfold ld_fAn
  by_cases hk : 0 ≤ k.toInt ∧ k.toInt < (h : Int)
  · rw [if_pos hk, if_pos hk, ld_ixe e hk]
  · rw [if_neg hk, if_neg hk]
theorem ld_fKn_cong {h : Nat} {kd kd2 : Nat → Int32} {k : Int32} (e : ∀ x, x < h → kd x = kd2 x) : ld_fKn h kd k = ld_fKn h kd2 k := by
  unfold ld_fKn
  by_cases hk : 0 ≤ k.toInt ∧ k.toInt < (h : Int)
  · rw [if_pos hk, if_pos hk, ld_ixe e hk]
  · rw [if_neg hk, if_neg hk]
theorem ld_gKn_cong {h : Nat} {kd kd2 : Nat → Int32} {x k : Int32} (e : ∀ x, x < h → kd x = kd2 x) : ld_gKn h kd x k = ld_gKn h kd2 x k := by
  unfold ld_gKn
  by_cases hk : 0 ≤ k.toInt ∧ k.toInt < (h : Int)
  · rw [if_pos hk, if_pos hk, ld_ixe e hk]
  · rw [if_neg hk, if_neg hk]
theorem ld_fAs_cong {h : Nat} {kd kd2 : Nat → Int32} {k z : Int32} (e : ∀ x, x < h → kd x = kd2 x) : ld_fAs h kd k z = ld_fAs h kd2 k z := by
  unfold ld_fAs
  by_cases hk : 0 ≤ k.toInt ∧ k.toInt < (h : Int)
  · rw [if_pos hk, if_pos hk, ld_ixe e hk]
  · rw [if_neg hk, if_neg hk]
theorem ld_fTe_cong {h : Nat} {kd kd2 t t2 : Nat → Int32} {k : Int32} (e : ∀ x, x < h → kd x = kd2 x) (e2 : ∀ x, x < h → t x = t2 x) : ld_fTe h kd t k = ld_fTe h kd2 t2 k := by
  unfold ld_fTe
  by_cases hk : 0 ≤ k.toInt ∧ k.toInt < (h : Int)
  · rw [if_pos hk, if_pos hk, ld_ixe e hk, ld_ixe e2 hk]
  · rw [if_neg hk, if_neg hk]
theorem ld_gTe_cong {h : Nat} {kd kd2 : Nat → Int32} {x k : Int32} (e : ∀ x, x < h → kd x = kd2 x) : ld_gTe h kd x k = ld_gTe h kd2 x k := by
  unfold ld_gTe
  by_cases hk : 0 ≤ k.toInt ∧ k.toInt < (h : Int)
  · rw [if_pos hk, if_pos hk, ld_ixe e hk]
  · rw [if_neg hk, if_neg hk]
theorem ld_fDe_cong {h : Nat} {kd kd2 t t2 : Nat → Int32} {k c : Int32} (e : ∀ x, x < h → kd x = kd2 x) (e2 : ∀ x, x < h → t x = t2 x) : ld_fDe h kd t k c = ld_fDe h kd2 t2 k c := by
  unfold ld_fDe
  by_cases hk : 0 ≤ k.toInt ∧ k.toInt < (h : Int)
  · rw [if_pos hk, if_pos hk, ld_dt_cong e e2 (ld_ofIx hk).2.1]
  · rw [if_neg hk, if_neg hk]
theorem ld_fMa_cong {h q : Nat} {c w what : Int32} {s s2 : Nat → Int32} (e : ∀ x, x < h → s x = s2 x) : ld_fMa h q c w s what = ld_fMa h q c w s2 what := by
  unfold ld_fMa
  rw [ld_wo_cong e]
