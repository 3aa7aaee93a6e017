theorem ld_ss_cong {h : Nat} {kd kd2 t t2 : Nat → Int32} (e : ∀ x, x < h → kd x = kd2 x) (e2 : ∀ x, x < h → t x = t2 x) : ∀ x, x < h → ld_ss kd t x = ld_ss kd2 t2 x := fun x hx => by unfold ld_ss; rw [e x hx, e2 x hx]
theorem ld_fCa_cong {h : Nat} {kd kd2 : Nat → Int32} {V U : ld_Tr} {n v : Int32} (ek : ∀ x, x < h → kd x = kd2 x) (e : ld_eqv h V U) : ld_fCa h kd V n v = ld_fCa h kd2 U n v := by
  unfold ld_fCa
  rw [ld_fi_cong (q := fun c => (ld_wm (ld_wks h (nI c) kd2 U (ld_ix n)).1 h).toInt ≤ v.toInt) (fun c _ => by rw [ld_wm_cong (fun x hx => (ld_wks_cong2 ek e (ld_ix n) x hx).1)])]
theorem ld_lo_cong {h : Nat} {kd kd2 t t2 : Nat → Int32} {c : Nat} (e : ∀ x, x < h → kd x = kd2 x) (e2 : ∀ x, x < h → t x = t2 x) : ld_lo h kd t c = ld_lo h kd2 t2 c := by
  unfold ld_lo
  exact ld_fi_cong (fun x hx => by rw [ld_dt_cong e e2 hx, ld_dt_cong e e2 hx])
theorem ld_fWo_cong {h : Nat} {kd kd2 t t2 : Nat → Int32} {cr : Nat} {what : Int32} (e : ∀ x, x < h → kd x = kd2 x) (e2 : ∀ x, x < h → t x = t2 x) : ld_fWo h kd t cr what = ld_fWo h kd2 t2 cr what := by
  have hl : ∀ c, ld_lo h kd t c = ld_lo h kd2 t2 c := fun c => ld_lo_cong e e2
  have hw : ld_wd h kd t cr = ld_wd h kd2 t2 cr := by
    unfold ld_wd
    exact ld_fi_cong (fun d _ => by rw [hl])
  unfold ld_fWo
  rw [hw]
  simp only [hl]
theorem ld_fOt_cong {h : Nat} {kd kd2 t t2 : Nat → Int32} {cr : Nat} {k : Int32} (e : ∀ x, x < h → kd x = kd2 x) (e2 : ∀ x, x < h → t x = t2 x) : ld_fOt h kd t cr k = ld_fOt h kd2 t2 cr k := by
  unfold ld_fOt
  rw [ld_o1_cong (ld_ss_cong e e2)]
