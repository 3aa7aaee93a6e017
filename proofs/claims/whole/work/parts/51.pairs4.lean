theorem ld_go_d {p : Nat} {c : Int32} (h : ld_go p c) (hp : p = 1 ∨ p = 2 ∨ (3 ≤ p ∧ ((p - 3) % 4 = 2 ∨ (p - 3) % 4 = 3))) : ld_dg c := by
  have z := h.2
  rw [if_neg (show ¬ p = 0 by omega)] at z
  by_cases q : p < 3
  · rw [if_pos q] at z; exact z
  · rw [if_neg q, if_neg (show ¬ (p - 3) % 4 = 0 by omega), if_neg (show ¬ (p - 3) % 4 = 1 by omega)] at z; exact z
theorem ld_go_k {p : Nat} {c : Int32} (h : ld_go p c) (hp : 3 ≤ p ∧ (p - 3) % 4 = 1) : ¬ (ld_kl c).toInt = -9 := by
  have z := h.2
  rw [if_neg (show ¬ p = 0 by omega), if_neg (show ¬ p < 3 by omega), if_neg (show ¬ (p - 3) % 4 = 0 by omega), if_pos hp.2] at z
  exact z
theorem ld_dgb {c : Int32} (h : ld_dg c) : 0 ≤ (c - nI 48).toInt ∧ (c - nI 48).toInt ≤ 9 := by
  obtain ⟨a, ha, rfl⟩ := ld_dgt h
  rw [ld_dg1 a ha, nI_toInt (by omega)]
  omega
theorem ld_p_street {l : Launch} {ad : Nat → Nat} {T : Nat} {σ : ld_St} (J : ld_J T σ) (hT : T ≤ 8000) (k lane i n : Int32) : ld_PI l ad T σ yX2_street cX2_street 8 (3, 64) yX3_street cX3_street 7 (4, 100) [.int k, .int lane, .int i, .int n] := by
  have J0 := J
  obtain ⟨h, q, cr, ⟨h8, q8, c99⟩, ⟨hh, hh2⟩, ⟨hc, hc2⟩, hw, hx, hbd, ⟨hq, hq2⟩, hr, htr, hft, hs⟩ := J
  have e0 : ∀ x, x < h → σ 0 x = σ 20 x := fun x z => (hx x z).1
  have e1 : ∀ x, x < h → σ 1 x = σ 21 x := fun x z => (hx x z).2.1
  have e2 : ∀ x, x < h → σ 2 x = σ 22 x := fun x z => (hx x z).2.2.1
  have e3 : ∀ x, x < h → σ 3 x = σ 23 x := fun x z => (hx x z).2.2.2
  have eV : ld_eqv h (σ 1, σ 2, σ 3) (σ 21, σ 22, σ 23) := fun x z => (hx x z).2
  have hse : ld_se (σ 131) (σ 130) (fun z => σ (16 + z)) (σ 34) (σ 35) (fun z x => σ 36 (60 * z + x)) := fun j z => ⟨(hs j z).1, (hs j z).2.1, (hs j z).2.2.2⟩
  have hS1 : ∀ x, x < 4 → -1 ≤ (σ 131 x).toInt ∧ (σ 131 x).toInt ≤ 60 := fun j z => by rw [(hs j z).1]; exact (hs j z).2.2.1
  have hS2 : ∀ x, x < 4 → -1 ≤ (σ 34 x).toInt ∧ (σ 34 x).toInt ≤ 60 := fun j z => (hs j z).2.2.1
  refine ⟨_, c_X2_street l ad σ hS1 k lane i n, ?_⟩
  rintro r σ1 ⟨rfl, f, hf, hp⟩
  have eF := ld_fSt_cong (k := k) (lane := lane) (i := i) (n := n) hse
  have eO := ld_okSt_cong (k := k) (lane := lane) (i := i) (n := n) hse
  rcases hp with ⟨ok, m, k0, k1, k2, k3, hn, m1, m8, rfl, hv⟩ | ⟨ok, rfl⟩
  · refine ⟨_, c_X3_street l ad _ (by (try simp (disch := decide) only [us_ne, us_eq]); exact hS2) k lane i n, ?_⟩
    rintro r2 σ2 ⟨rfl, f2, f24, f25, f26, fa, fm, fc, hf2, hp⟩
    try simp (disch := decide) only [us_ne, us_eq] at hf2
    try simp (disch := decide) only [us_ne, us_eq] at hp
    refine ⟨by (try simp (disch := decide) only [us_ne, us_eq]); exact congrArg Prod.fst eF, ?_⟩
    rcases hp with ⟨o2, m2, fcr, p0, p1, p2, p3, hn2, m12, m82, hcr, rfl, hv2⟩ | ⟨o2, _⟩
    · obtain ⟨⟨⟨okk, okl⟩, o0, on, oi, ob⟩, oft⟩ := eO.mp ok
      have hk := ld_ix4 okk
      have vi := ld_ixv oi
      have vn := ld_ixv on
      have hm : m2 = m := by omega
      subst hm
      have hft9 := ld_ftf_ok (by omega) oft
      rw [hn] at hft9
      generalize ld_ix k = K at *
      generalize ld_ix i = I at *
      have eD : ∀ z, z < 3 + 4 * m2 → σ (16 + K) (I + z) = σ 36 (60 * K + (I + z)) := fun z hz => (hs _ hk).2.2.2 _ (by omega)
      have go : ∀ p, p < 3 + 4 * m2 → ld_go p (σ 36 (60 * K + (I + p))) := fun p hp => Classical.byContradiction (fun z => ld_fi_none hft9.1 p hp z)
      obtain ⟨a, ha, ea⟩ := ld_dgt (ld_go_d (go 1 (by omega)) (by omega))
      obtain ⟨b, hb, eb⟩ := ld_dgt (ld_go_d (go 2 (by omega)) (by omega))
      unfold ld_J
      refine ⟨m2, 0, (10 * a + b), ⟨m8, (by omega), (by omega)⟩, ⟨(by simp (disch := decide) only [us_ne, us_eq]), (by simp (disch := decide) only [us_ne, us_eq])⟩, ⟨(by (try simp (disch := decide) only [us_ne, us_eq]); rw [eD 1 (by omega), eD 2 (by omega), ea, eb]; exact ld_dg2 a ha b hb), (by (try simp (disch := decide) only [us_ne, us_eq]); rw [hcr, ea, eb]; exact ld_dg2 a ha b hb)⟩, (by simp (disch := decide) only [us_ne, us_eq]), (fun x z => by (try simp (disch := decide) only [us_ne, us_eq]); obtain ⟨v0, v1, v2, v3⟩ := hv x z; obtain ⟨w0, w1, w2, w3⟩ := hv2 x z; rw [v0, v1, v2, v3, w0, w1, w2, w3, show I + 3 + 4 * x + 1 = I + (3 + 4 * x + 1) by omega, show I + 3 + 4 * x + 2 = I + (3 + 4 * x + 2) by omega, show I + 3 + 4 * x + 3 = I + (3 + 4 * x + 3) by omega, eD (3 + 4 * x + 1) (by omega), eD (3 + 4 * x + 2) (by omega), eD (3 + 4 * x + 3) (by omega)]; exact ⟨rfl, rfl, rfl, rfl⟩), ?_, ⟨(by simp (disch := decide) only [us_ne, us_eq]), (by simp (disch := decide) only [us_ne, us_eq])⟩, (fun x z => absurd z (Nat.not_lt_zero x)), (by (try simp (disch := decide) only [us_ne, us_eq]); exact htr), (by (try simp (disch := decide) only [us_ne, us_eq]); exact hf.trans ((congrArg Prod.snd eF).trans hf2.symm)), (fun j z => by (try simp (disch := omega) only [us_ne, us_eq]); exact hs j z)⟩
      (try simp (disch := decide) only [us_ne, us_eq])
      intro x hx2
      obtain ⟨w0, w1, w2, w3⟩ := hv2 x hx2
      rw [w0, w1, w2, w3]
      have g1 := ld_kl3 (ld_go_k (go (3 + 4 * x + 1) (by omega)) (by omega))
      have g2 := ld_dgb (ld_go_d (go (3 + 4 * x + 2) (by omega)) (by omega))
      have g3 := ld_dgb (ld_go_d (go (3 + 4 * x + 3) (by omega)) (by omega))
      have g4 : (nI 0 : Int32).toInt = 0 := by decide
      exact ⟨⟨g1, g2⟩, by rw [g4]; omega, g3.1, by omega⟩
    · exact absurd (eO.mp ok) o2
  · refine ⟨_, c_X3_street l ad _ (by (try simp (disch := decide) only [us_ne, us_eq]); exact hS2) k lane i n, ?_⟩
    rintro r2 σ2 ⟨rfl, f2, f24, f25, f26, fa, fm, fc, hf2, hp⟩
    try simp (disch := decide) only [us_ne, us_eq] at hf2
    try simp (disch := decide) only [us_ne, us_eq] at hp
    rcases hp with ⟨o2, _⟩ | ⟨o2, rfl⟩
    · exact absurd (eO.mpr o2) ok
    · refine ⟨by (try simp (disch := omega) only [us_ne, us_eq]); exact congrArg Prod.fst eF, ?_⟩
      unfold ld_J
      refine ⟨h, q, cr, ⟨h8, q8, c99⟩, ⟨(by (try simp (disch := decide) only [us_ne, us_eq]); exact hh), (by (try simp (disch := decide) only [us_ne, us_eq]); exact hh2)⟩, ⟨(by (try simp (disch := decide) only [us_ne, us_eq]); exact hc), (by (try simp (disch := decide) only [us_ne, us_eq]); exact hc2)⟩, (by (try simp (disch := decide) only [us_ne, us_eq]); exact hw), (fun x z => by (try simp (disch := decide) only [us_ne, us_eq]); exact hx x z), (by (try simp (disch := decide) only [us_ne, us_eq]); exact ld_bd_mono hbd (by omega)), ⟨(by (try simp (disch := decide) only [us_ne, us_eq]); exact hq), (by (try simp (disch := decide) only [us_ne, us_eq]); exact hq2)⟩, (fun x z => by (try simp (disch := decide) only [us_ne, us_eq]); exact hr x z), (by (try simp (disch := decide) only [us_ne, us_eq]); exact htr), (by (try simp (disch := decide) only [us_ne, us_eq]); exact hf.trans ((congrArg Prod.snd eF).trans hf2.symm)), (fun j z => by (try simp (disch := omega) only [us_ne, us_eq]); exact hs j z)⟩
