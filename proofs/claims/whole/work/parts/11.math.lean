/-! pure words: a street's deal and its weeks, as the class computes them -/
def ld_q (a c : Int32) (s : Nat → Int32) (k : Nat) : Int32 := if a.toInt ≤ 0 then nI 0 else c * s k / a
def ld_r (a c : Int32) (s : Nat → Int32) (k : Nat) : Int32 := if a.toInt ≤ 0 then nI 0 else c * s k - c * s k / a * a
def ld_lf (a c : Int32) (s : Nat → Int32) : Nat → Int32
  | 0 => if a.toInt ≤ 0 then nI 0 else c
  | n + 1 => ld_lf a c s n - ld_q a c s n
def ld_ap (f : Nat → Int32) (k x : Nat) : Bool := decide ((f k).toInt < (f x).toInt ∨ ((f x).toInt = (f k).toInt ∧ x < k))
def ld_ah (f : Nat → Int32) (h k : Nat) : Nat := fb_ct (ld_ap f k) h
def ld_dl (h : Nat) (a c : Int32) (s : Nat → Int32) (k : Nat) : Int32 := if ((ld_ah (ld_r a c s) h k : Nat) : Int) < (ld_lf a c s h).toInt then ld_q a c s k + nI 1 else ld_q a c s k
def ld_ss (kd t : Nat → Int32) : Nat → Int32 := fun x => ld_sr (kd x) (t x)
def ld_dt (h : Nat) (kd t : Nat → Int32) (c : Int32) (k : Nat) : Int32 := ld_dl h (l_sum (ld_ss kd t) h) c (ld_ss kd t) k
theorem ld_ext {f g : Nat → Int32} {i : Nat} {v : Int32} (h : ∀ x, x < i → f x = g x) (hv : v = g i) : ∀ x, x < i + 1 → upd f i v x = g x := by
  intro x hx
  by_cases e : x = i
  · subst e; rw [pk_us, hv]
  · rw [pk_un e]; exact h x (by omega)
theorem ld_exk {f : Nat → Int32} {g : Nat → Int32} {i h : Nat} {v : Int32} (hk : ∀ x, i ≤ x → x < h → f x = g x) : ∀ x, i + 1 ≤ x → x < h → upd f i v x = g x := by
  intro x h1 h2
  rw [pk_un (by omega)]
  exact hk x (by omega) h2
theorem ld_lsum_cong {f g : Nat → Int32} {h : Nat} (e : ∀ x, x < h → f x = g x) : l_sum f h = l_sum g h := by
  induction h with
  | zero => rfl
  | succ n ih => show l_sum f n + f n = l_sum g n + g n; rw [ih (fun x hx => e x (by omega)), e n (by omega)]
theorem ld_q_cong {a c : Int32} {f g : Nat → Int32} {k : Nat} (e : f k = g k) : ld_q a c f k = ld_q a c g k := by unfold ld_q; rw [e]
theorem ld_r_cong {a c : Int32} {f g : Nat → Int32} {k : Nat} (e : f k = g k) : ld_r a c f k = ld_r a c g k := by unfold ld_r; rw [e]
theorem ld_lf_cong {a c : Int32} {f g : Nat → Int32} {h : Nat} (e : ∀ x, x < h → f x = g x) : ld_lf a c f h = ld_lf a c g h := by
  induction h with
  | zero => rfl
  | succ n ih => show ld_lf a c f n - ld_q a c f n = ld_lf a c g n - ld_q a c g n; rw [ih (fun x hx => e x (by omega)), ld_q_cong (e n (by omega))]
theorem ld_ah_cong {f g : Nat → Int32} {h k : Nat} (e : ∀ x, x < h → f x = g x) (hk : k < h) : ld_ah f h k = ld_ah g h k :=
  fb_ct_cong (fun x hx => by unfold ld_ap; rw [e x hx, e k hk])
theorem ld_ah_le (f : Nat → Int32) (h k : Nat) : ld_ah f h k ≤ h := fb_ct_le _ _
theorem ld_dl_cong {h : Nat} {a c : Int32} {f g : Nat → Int32} {k : Nat} (e : ∀ x, x < h → f x = g x) (hk : k < h) : ld_dl h a c f k = ld_dl h a c g k := by
  unfold ld_dl
  rw [ld_lf_cong e, ld_q_cong (e k hk), ld_ah_cong (fun x hx => ld_r_cong (e x hx)) hk]
theorem ld_dt_cong {h : Nat} {kd t kd2 t2 : Nat → Int32} {c : Int32} {k : Nat} (e1 : ∀ x, x < h → kd x = kd2 x) (e2 : ∀ x, x < h → t x = t2 x) (hk : k < h) : ld_dt h kd t c k = ld_dt h kd2 t2 c k := by
  have e : ∀ x, x < h → ld_ss kd t x = ld_ss kd2 t2 x := fun x hx => by unfold ld_ss; rw [e1 x hx, e2 x hx]
  unfold ld_dt
  rw [ld_lsum_cong e, ld_dl_cong e hk]
theorem ld_ct_t {p : Nat → Bool} {m i : Nat} (hm : m = fb_ct p i) (h : p i = true) : m + 1 = fb_ct p (i + 1) := by rw [fb_ct_succ, ← hm, h]; rfl
theorem ld_ct_f {p : Nat → Bool} {m i : Nat} (hm : m = fb_ct p i) (h : ¬ p i = true) : m = fb_ct p (i + 1) := by
  rw [fb_ct_succ, ← hm, if_neg h]; rfl
/-- a week: what a house then has, its stock, temper and pips -/
def ld_wg (h : Nat) (c : Int32) (kd t s p : Nat → Int32) (x : Nat) : Int32 := s x + (ld_dt h kd t c x + p x / nI 4)
def ld_wS (h : Nat) (c : Int32) (kd t s p : Nat → Int32) (x : Nat) : Int32 := if (ld_wg h c kd t s p x).toInt ≤ 0 then ld_wg h c kd t s p x else ld_wg h c kd t s p x - nI 1
def ld_wT (h : Nat) (c : Int32) (kd t s p : Nat → Int32) (x : Nat) : Int32 := if (ld_wg h c kd t s p x).toInt ≤ 0 then (if nI 9 < t x + nI 1 then nI 9 else t x + nI 1) else (if t x - nI 1 < nI 0 then nI 0 else t x - nI 1)
def ld_wP (h : Nat) (c : Int32) (kd t s p : Nat → Int32) (x : Nat) : Int32 := if (ld_wg h c kd t s p x).toInt ≤ 0 then p x else p x + nI 1
abbrev ld_Tr : Type := (Nat → Int32) × (Nat → Int32) × (Nat → Int32)
/-- a week on (temper, stock, pips) -/
def ld_wk (h : Nat) (c : Int32) (kd : Nat → Int32) (V : ld_Tr) : ld_Tr := (ld_wT h c kd V.1 V.2.1 V.2.2, ld_wS h c kd V.1 V.2.1 V.2.2, ld_wP h c kd V.1 V.2.1 V.2.2)
def ld_wks (h : Nat) (c : Int32) (kd : Nat → Int32) (V : ld_Tr) : Nat → ld_Tr
  | 0 => V
  | n + 1 => ld_wk h c kd (ld_wks h c kd V n)
def ld_eqv (h : Nat) (V U : ld_Tr) : Prop := ∀ x, x < h → V.1 x = U.1 x ∧ V.2.1 x = U.2.1 x ∧ V.2.2 x = U.2.2 x
theorem ld_eqv.rf {h : Nat} {V : ld_Tr} : ld_eqv h V V := fun _ _ => ⟨rfl, rfl, rfl⟩
theorem ld_eqv.tr {h : Nat} {V U Z : ld_Tr} (a : ld_eqv h V U) (b : ld_eqv h U Z) : ld_eqv h V Z := fun x hx => ⟨(a x hx).1.trans (b x hx).1, (a x hx).2.1.trans (b x hx).2.1, (a x hx).2.2.trans (b x hx).2.2⟩
theorem ld_eqv.sy {h : Nat} {V U : ld_Tr} (a : ld_eqv h V U) : ld_eqv h U V := fun x hx => ⟨(a x hx).1.symm, (a x hx).2.1.symm, (a x hx).2.2.symm⟩
theorem ld_wg_cong {h : Nat} {c : Int32} {kd : Nat → Int32} {V U : ld_Tr} (e : ld_eqv h V U) {x : Nat} (hx : x < h) : ld_wg h c kd V.1 V.2.1 V.2.2 x = ld_wg h c kd U.1 U.2.1 U.2.2 x := by
  unfold ld_wg
  rw [(e x hx).2.1, (e x hx).2.2, ld_dt_cong (fun _ _ => rfl) (fun y hy => (e y hy).1) hx]
theorem ld_wk_cong {h : Nat} {c : Int32} {kd : Nat → Int32} {V U : ld_Tr} (e : ld_eqv h V U) : ld_eqv h (ld_wk h c kd V) (ld_wk h c kd U) := by
  intro x hx
  simp only [ld_wk, ld_wT, ld_wS, ld_wP]
  rw [ld_wg_cong e hx, (e x hx).1, (e x hx).2.2]
  exact ⟨rfl, rfl, rfl⟩
theorem ld_wks_cong {h : Nat} {c : Int32} {kd : Nat → Int32} {V U : ld_Tr} (e : ld_eqv h V U) : ∀ n, ld_eqv h (ld_wks h c kd V n) (ld_wks h c kd U n)
  | 0 => e
  | n + 1 => ld_wk_cong (ld_wks_cong e n)
theorem ld_wks_add (h : Nat) (c : Int32) (kd : Nat → Int32) (V : ld_Tr) (n : Nat) : ∀ m, ld_wks h c kd (ld_wks h c kd V n) m = ld_wks h c kd V (n + m)
  | 0 => rfl
  | m + 1 => congrArg (ld_wk h c kd) (ld_wks_add h c kd V n m)
/-- houses without stock -/
def ld_wp (s : Nat → Int32) (x : Nat) : Bool := decide ((s x).toInt ≤ 0)
def ld_wo (h : Nat) (s : Nat → Int32) : Nat := fb_ct (ld_wp s) h
theorem ld_wo_cong {h : Nat} {s s2 : Nat → Int32} (e : ∀ x, x < h → s x = s2 x) : ld_wo h s = ld_wo h s2 := fb_ct_cong (fun x hx => by unfold ld_wp; rw [e x hx])
theorem ld_wo_le (h : Nat) (s : Nat → Int32) : ld_wo h s ≤ h := fb_ct_le _ _
/-- how many of the n weeks left somebody without stock -/
def ld_lw (h : Nat) (c : Int32) (kd : Nat → Int32) (V : ld_Tr) : Nat → Nat
  | 0 => 0
  | n + 1 => ld_lw h c kd V n + (if 0 < ld_wo h (ld_wks h c kd V (n + 1)).2.1 then 1 else 0)
def ld_wm (t : Nat → Int32) : Nat → Int32
  | 0 => nI 0
  | n + 1 => if ld_wm t n < t n then t n else ld_wm t n
theorem ld_wm_cong {t t2 : Nat → Int32} {h : Nat} (e : ∀ x, x < h → t x = t2 x) : ld_wm t h = ld_wm t2 h := by
  induction h with
  | zero => rfl
  | succ n ih => simp only [ld_wm]; rw [ih (fun x hx => e x (by omega)), e n (by omega)]
def ld_nb (h k : Nat) : Nat := if k + 1 < h then k + 1 else 0
def ld_gv (h : Nat) (s : Nat → Int32) (k : Nat) : Nat → Int32 := upd (upd s k (s k - nI 1)) (ld_nb h k) (upd s k (s k - nI 1) (ld_nb h k) + nI 1)
theorem ld_nb_lt {h k : Nat} (hk : k < h) : ld_nb h k < h := by unfold ld_nb; split <;> omega
/-- one by one -/
def ld_ao (s d : Nat → Int32) (k o : Nat) : Prop := (s o * (d k + nI 1)).toInt < (s k * (d o + nI 1)).toInt
noncomputable def ld_nx (s d : Nat → Int32) : Nat → Option Nat
  | 0 => none
  | n + 1 => @ite _ (0 < (s n).toInt ∧ (∀ o, ld_nx s d n = some o → ld_ao s d n o)) (Classical.propDecidable _) (some n) (ld_nx s d n)
def ld_nv (o : Option Nat) : Int32 := match o with
  | none => (-9 : Int32)
  | some j => nI j
theorem ld_nx_lt {s d : Nat → Int32} : ∀ {n j : Nat}, ld_nx s d n = some j → j < n
  | 0, j, h => by cases h
  | n + 1, j, h => by
    unfold ld_nx at h
    by_cases e : (0 < (s n).toInt ∧ (∀ o, ld_nx s d n = some o → ld_ao s d n o))
    · rw [if_pos e] at h; cases h; omega
    · rw [if_neg e] at h; have := ld_nx_lt h; omega
theorem ld_nx_t {s d : Nat → Int32} {n : Nat} {o : Option Nat} (ho : o = ld_nx s d n) (h : 0 < (s n).toInt) (h2 : ∀ j, o = some j → ld_ao s d n j) : some n = ld_nx s d (n + 1) := by
  subst ho
  unfold ld_nx; exact (if_pos ⟨h, h2⟩).symm
theorem ld_nx_f {s d : Nat → Int32} {n : Nat} {o : Option Nat} (ho : o = ld_nx s d n) (h : ¬ (0 < (s n).toInt ∧ ∀ j, o = some j → ld_ao s d n j)) : o = ld_nx s d (n + 1) := by
  subst ho
  conv => rhs; unfold ld_nx
  exact (if_neg h).symm
theorem ld_nx_cong {s d s2 d2 : Nat → Int32} : ∀ {h : Nat}, (∀ x, x < h → s x = s2 x ∧ d x = d2 x) → ld_nx s d h = ld_nx s2 d2 h
  | 0, _ => rfl
  | n + 1, e => by
    have ih := ld_nx_cong (s := s) (d := d) (s2 := s2) (d2 := d2) (h := n) (fun x hx => e x (by omega))
    unfold ld_nx
    rw [ih, (e n (by omega)).1]
    have e2 : (∀ o, ld_nx s2 d2 n = some o → ld_ao s d n o) ↔ (∀ o, ld_nx s2 d2 n = some o → ld_ao s2 d2 n o) := by
      have e3 : ∀ o, o < n → (ld_ao s d n o ↔ ld_ao s2 d2 n o) := fun o ho => by
        unfold ld_ao
        rw [(e o (by omega)).1, (e o (by omega)).2, (e n (by omega)).1, (e n (by omega)).2]
      exact ⟨fun z o ho => (e3 o (ld_nx_lt ho)).mp (z o ho), fun z o ho => (e3 o (ld_nx_lt ho)).mpr (z o ho)⟩
    rw [propext (and_congr_right (fun _ => e2))]
noncomputable def ld_o1 (h : Nat) (s : Nat → Int32) : Nat → Nat → Int32
  | 0 => fun _ => nI 0
  | n + 1 => match ld_nx s (ld_o1 h s n) h with
    | none => ld_o1 h s n
    | some j => upd (ld_o1 h s n) j (ld_o1 h s n j + nI 1)
theorem ld_o1_cong {h : Nat} {s s2 : Nat → Int32} (e : ∀ x, x < h → s x = s2 x) : ∀ n, ld_o1 h s n = ld_o1 h s2 n
  | 0 => rfl
  | n + 1 => by
    have ih := ld_o1_cong e n
    simp only [ld_o1]
    rw [ih, ld_nx_cong (s := s) (s2 := s2) (d := ld_o1 h s2 n) (d2 := ld_o1 h s2 n) (fun x hx => ⟨e x hx, rfl⟩)]
theorem ld_o1_n {h n : Nat} {s : Nat → Int32} (e : ld_nx s (ld_o1 h s n) h = none) : ld_o1 h s (n + 1) = ld_o1 h s n := by simp only [ld_o1, e]
theorem ld_o1_s {h n j : Nat} {s : Nat → Int32} (e : ld_nx s (ld_o1 h s n) h = some j) : ld_o1 h s (n + 1) = upd (ld_o1 h s n) j (ld_o1 h s n j + nI 1) := by simp only [ld_o1, e]
theorem ld_len8 {a : Nat} (h : a < 16) : ld_len a = 8 := by unfold ld_len; rw [if_pos h]
