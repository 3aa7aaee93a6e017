/-! the world: one list of 47 cells, a function of one state σ (array id, place); int fields are arrays of ids from 100 on -/
abbrev ld_St : Type := Nat → Nat → Int32
abbrev ld_X : Type := va_G × ClassId × ClassId
abbrev ld_cl : List vw_C := [(RX0, TX0, 3), (RX1, TX1, 11), (RX2, TX2, 8), (RX3, TX3, 30)]
def ld_tys (X : ld_X) : List (ClassId × FieldType) := [(X.2.1, .int), (X.2.2, .object "LemonDeals$Sheet")]
def us (σ : ld_St) (a : Nat) (f : Nat → Int32) : ld_St := fun b => if b = a then f else σ b
theorem us_eq (σ : ld_St) (a : Nat) (f : Nat → Int32) : us σ a f a = f := if_pos rfl
theorem us_ne (σ : ld_St) {a b : Nat} (f : Nat → Int32) (h : b ≠ a) : us σ a f b = σ b := if_neg h
def ld_len (a : Nat) : Nat := if a < 16 then 8 else if a < 20 then 60 else if a < 34 then 8 else if a < 36 then 4 else if a = 36 then 240 else 60
def ld_ct (X : ld_X) (ad : Nat → Nat) (σ : ld_St) (i : Nat) : va_E :=
  if i = 0 then .inr (2, [.ref (ad 1), .ref (ad 2), .ref (ad 3), .ref (ad (9 + 14)), .ref (ad (9 + 15)), .int (σ 100 0), .int (σ 101 0), .int (σ 102 0)])
  else if i = 1 then .inr (1, [.int (σ 110 0), .int (σ 111 0), .int (σ 112 0), .int (σ 113 0), .ref (ad (9 + 0)), .ref (ad (9 + 1)), .ref (ad (9 + 2)), .ref (ad (9 + 3)), .ref (ad (9 + 4)), .ref (ad (9 + 5)), .ref (ad (9 + 6))])
  else if i = 2 then .inr (1, [.int (σ 120 0), .int (σ 121 0), .int (σ 122 0), .int (σ 123 0), .ref (ad (9 + 7)), .ref (ad (9 + 8)), .ref (ad (9 + 9)), .ref (ad (9 + 10)), .ref (ad (9 + 11)), .ref (ad (9 + 12)), .ref (ad (9 + 13))])
  else if i = 3 then .inl (X.2.2, 4, .inr (.inr (.inr (.inr (fun k => some (ad (4 + k)))))))
  else if i < 8 then .inr (0, [.ref (ad (9 + (16 + (i - 4)))), .int (σ 130 (i - 4)), .int (σ 131 (i - 4))])
  else if i = 8 then .inr (3, [.int (σ 140 0), .int (σ 141 0), .int (σ 142 0), .int (σ 143 0), .ref (ad (9 + 20)), .ref (ad (9 + 21)), .ref (ad (9 + 22)), .ref (ad (9 + 23)), .int (σ 144 0), .int (σ 145 0), .int (σ 146 0), .ref (ad (9 + 24)), .ref (ad (9 + 25)), .ref (ad (9 + 26)), .ref (ad (9 + 27)), .int (σ 147 0), .int (σ 148 0), .ref (ad (9 + 28)), .ref (ad (9 + 29)), .ref (ad (9 + 30)), .int (σ 149 0), .ref (ad (9 + 31)), .int (σ 150 0), .ref (ad (9 + 32)), .ref (ad (9 + 33)), .ref (ad (9 + 34)), .ref (ad (9 + 35)), .ref (ad (9 + 36)), .ref (ad (9 + 37)), .int (σ 151 0)])
  else .inl (X.2.1, ld_len (i - 9), .inl (σ (i - 9)))
def ld_G (X : ld_X) (ad : Nat → Nat) (σ : ld_St) : va_W := (List.range 47).map (fun i => (ad i, ld_ct X ad σ i))
theorem ld_at (X : ld_X) (ad : Nat → Nat) (σ : ld_St) {i : Nat} (hi : i < 47) : (ld_G X ad σ)[i]? = some (ad i, ld_ct X ad σ i) := by
  rw [ld_G, List.getElem?_map, List.getElem?_range hi]; rfl
theorem ld_at0 (X : ld_X) (ad : Nat → Nat) (σ : ld_St) : (ld_G X ad σ)[0]? = some (ad 0, .inr (2, [.ref (ad 1), .ref (ad 2), .ref (ad 3), .ref (ad (9 + 14)), .ref (ad (9 + 15)), .int (σ 100 0), .int (σ 101 0), .int (σ 102 0)])) := ld_at X ad σ (by decide)
theorem ld_at1 (X : ld_X) (ad : Nat → Nat) (σ : ld_St) : (ld_G X ad σ)[1]? = some (ad 1, .inr (1, [.int (σ 110 0), .int (σ 111 0), .int (σ 112 0), .int (σ 113 0), .ref (ad (9 + 0)), .ref (ad (9 + 1)), .ref (ad (9 + 2)), .ref (ad (9 + 3)), .ref (ad (9 + 4)), .ref (ad (9 + 5)), .ref (ad (9 + 6))])) := ld_at X ad σ (by decide)
theorem ld_at2 (X : ld_X) (ad : Nat → Nat) (σ : ld_St) : (ld_G X ad σ)[2]? = some (ad 2, .inr (1, [.int (σ 120 0), .int (σ 121 0), .int (σ 122 0), .int (σ 123 0), .ref (ad (9 + 7)), .ref (ad (9 + 8)), .ref (ad (9 + 9)), .ref (ad (9 + 10)), .ref (ad (9 + 11)), .ref (ad (9 + 12)), .ref (ad (9 + 13))])) := ld_at X ad σ (by decide)
theorem ld_at3 (X : ld_X) (ad : Nat → Nat) (σ : ld_St) : (ld_G X ad σ)[3]? = some (ad 3, .inl (X.2.2, 4, .inr (.inr (.inr (.inr (fun k => some (ad (4 + k)))))))) := ld_at X ad σ (by decide)
theorem ld_at8 (X : ld_X) (ad : Nat → Nat) (σ : ld_St) : (ld_G X ad σ)[8]? = some (ad 8, .inr (3, [.int (σ 140 0), .int (σ 141 0), .int (σ 142 0), .int (σ 143 0), .ref (ad (9 + 20)), .ref (ad (9 + 21)), .ref (ad (9 + 22)), .ref (ad (9 + 23)), .int (σ 144 0), .int (σ 145 0), .int (σ 146 0), .ref (ad (9 + 24)), .ref (ad (9 + 25)), .ref (ad (9 + 26)), .ref (ad (9 + 27)), .int (σ 147 0), .int (σ 148 0), .ref (ad (9 + 28)), .ref (ad (9 + 29)), .ref (ad (9 + 30)), .int (σ 149 0), .ref (ad (9 + 31)), .int (σ 150 0), .ref (ad (9 + 32)), .ref (ad (9 + 33)), .ref (ad (9 + 34)), .ref (ad (9 + 35)), .ref (ad (9 + 36)), .ref (ad (9 + 37)), .int (σ 151 0)])) := ld_at X ad σ (by decide)
theorem ld_atS (X : ld_X) (ad : Nat → Nat) (σ : ld_St) {k : Nat} (hk : k < 4) : (ld_G X ad σ)[4 + k]? = some (ad (4 + k), .inr (0, [.ref (ad (9 + (16 + k))), .int (σ 130 k), .int (σ 131 k)])) := by
  rw [ld_at X ad σ (show 4 + k < 47 by omega)]
  rcases (show k = 0 ∨ k = 1 ∨ k = 2 ∨ k = 3 by omega) with rfl | rfl | rfl | rfl <;> rfl
theorem ld_atA (X : ld_X) (ad : Nat → Nat) (σ : ld_St) {a : Nat} (ha : a < 38) : (ld_G X ad σ)[9 + a]? = some (ad (9 + a), .inl (X.2.1, ld_len a, .inl (σ a))) := by
  rw [ld_at X ad σ (show 9 + a < 47 by omega)]
  have h : 9 + a - 9 = a := by omega
  simp only [ld_ct, h, show ¬ 9 + a = 0 by omega, show ¬ 9 + a = 1 by omega, show ¬ 9 + a = 2 by omega, show ¬ 9 + a = 3 by omega, show ¬ 9 + a < 8 by omega, show ¬ 9 + a = 8 by omega, if_false]
theorem ld_set (X : ld_X) (ad : Nat → Nat) (σ σ2 : ld_St) {i : Nat} (hi : i < 47) {q : va_E} (h1 : ld_ct X ad σ2 i = q) (h2 : ∀ j, j < 47 → j ≠ i → ld_ct X ad σ2 j = ld_ct X ad σ j) : (ld_G X ad σ).set i (ad i, q) = ld_G X ad σ2 := by
  subst h1
  apply List.ext_getElem?
  intro j
  rw [List.getElem?_set]
  by_cases hj : j < 47
  · rw [ld_at X ad σ2 hj, ld_at X ad σ hj]
    by_cases hij : i = j
    · subst hij
      simp [ld_G, hi]
    · rw [if_neg hij, h2 j hj (fun h => hij h.symm)]
  · have n1 : (ld_G X ad σ)[j]? = none := by simp [ld_G]; omega
    have n2 : (ld_G X ad σ2)[j]? = none := by simp [ld_G]; omega
    rw [n1, n2, if_neg (by omega)]
/-- the contents depend on the ids alone -/
theorem ld_ct_A (X : ld_X) (ad : Nat → Nat) (σ : ld_St) (a : Nat) (f : Nat → Int32) (ha : a < 38) {j : Nat} (hj : j ≠ 9 + a) : ld_ct X ad (us σ a f) j = ld_ct X ad σ j := by
  have hn : ∀ b, 100 ≤ b → us σ a f b = σ b := fun b hb => us_ne σ f (by omega)
  have h9 : ¬ j < 9 → us σ a f (j - 9) = σ (j - 9) := fun h => us_ne σ f (by omega)
  unfold ld_ct
  by_cases h : j < 9
  · rw [hn 100 (by decide), hn 101 (by decide), hn 102 (by decide), hn 110 (by decide), hn 111 (by decide), hn 112 (by decide), hn 113 (by decide), hn 120 (by decide), hn 121 (by decide), hn 122 (by decide), hn 123 (by decide), hn 130 (by decide), hn 131 (by decide)]
    rw [hn 140 (by decide), hn 141 (by decide), hn 142 (by decide), hn 143 (by decide), hn 144 (by decide), hn 145 (by decide), hn 146 (by decide), hn 147 (by decide), hn 148 (by decide), hn 149 (by decide), hn 150 (by decide), hn 151 (by decide)]
    by_cases h0 : j = 0 <;> by_cases h1 : j = 1 <;> by_cases h2 : j = 2 <;> by_cases h3 : j = 3 <;> by_cases h4 : j < 8 <;> by_cases h8 : j = 8 <;> first | (exfalso; omega) | simp only [h0, h1, h2, h3, h4, h8, if_true, if_false]
  · simp only [show ¬ j = 0 by omega, show ¬ j = 1 by omega, show ¬ j = 2 by omega, show ¬ j = 3 by omega, show ¬ j < 8 by omega, show ¬ j = 8 by omega, if_false, h9 h]
theorem ld_setA (X : ld_X) (ad : Nat → Nat) (σ : ld_St) {a : Nat} (ha : a < 38) (f : Nat → Int32) : (ld_G X ad σ).set (9 + a) (ad (9 + a), .inl (X.2.1, ld_len a, .inl f)) = ld_G X ad (us σ a f) := by
  refine ld_set X ad σ _ (by omega) ?_ (fun j _ hj => ld_ct_A X ad σ a f ha hj)
  have h := (ld_at X ad (us σ a f) (show 9 + a < 47 by omega)).symm.trans (ld_atA X ad (us σ a f) ha)
  have h2 := congrArg Prod.snd (Option.some.inj h)
  rw [us_eq] at h2
  exact h2
theorem ld_ct_I (X : ld_X) (ad : Nat → Nat) (σ : ld_St) {a c : Nat} (f : Nat → Int32) (ha : 100 ≤ a) (hc : (a < 103 ∧ c = 0) ∨ (110 ≤ a ∧ a < 114 ∧ c = 1) ∨ (120 ≤ a ∧ a < 124 ∧ c = 2) ∨ (140 ≤ a ∧ c = 8)) {j : Nat} (hj47 : j < 47) (hj : j ≠ c) : ld_ct X ad (us σ a f) j = ld_ct X ad σ j := by
  have h9 : us σ a f (j - 9) = σ (j - 9) := us_ne σ f (by omega)
  have h0 : ∀ b, j = 0 → b < 103 → us σ a f b = σ b := fun b _ _ => us_ne σ f (by omega)
  have h1 : ∀ b, j = 1 → 110 ≤ b → b < 114 → us σ a f b = σ b := fun b _ _ _ => us_ne σ f (by omega)
  have h2 : ∀ b, j = 2 → 120 ≤ b → b < 124 → us σ a f b = σ b := fun b _ _ _ => us_ne σ f (by omega)
  have h8 : ∀ b, j = 8 → 140 ≤ b → us σ a f b = σ b := fun b _ _ => us_ne σ f (by omega)
  have h13 : ∀ b, 130 ≤ b → b < 132 → us σ a f b = σ b := fun b _ _ => us_ne σ f (by omega)
  unfold ld_ct
  rw [h13 130 (by decide) (by decide), h13 131 (by decide) (by decide)]
  by_cases e0 : j = 0
  · simp only [e0, if_true, h0 100 e0 (by decide), h0 101 e0 (by decide), h0 102 e0 (by decide)]
  by_cases e1 : j = 1
  · simp only [e1, if_true, if_false, h1 110 e1 (by decide) (by decide), h1 111 e1 (by decide) (by decide), h1 112 e1 (by decide) (by decide), h1 113 e1 (by decide) (by decide)]
    rfl
  by_cases e2 : j = 2
  · simp only [e2, if_true, if_false, h2 120 e2 (by decide) (by decide), h2 121 e2 (by decide) (by decide), h2 122 e2 (by decide) (by decide), h2 123 e2 (by decide) (by decide)]
    rfl
  by_cases e8 : j = 8
  · simp only [e8, if_true, if_false, h8 140 e8 (by decide), h8 141 e8 (by decide), h8 142 e8 (by decide), h8 143 e8 (by decide), h8 144 e8 (by decide), h8 145 e8 (by decide), h8 146 e8 (by decide), h8 147 e8 (by decide), h8 148 e8 (by decide), h8 149 e8 (by decide), h8 150 e8 (by decide), h8 151 e8 (by decide)]
    rfl
  simp only [e0, e1, e2, e8, if_false, h9]
theorem ld_ct_S (X : ld_X) (ad : Nat → Nat) (σ : ld_St) {a k : Nat} (v : Int32) (ha : a = 130 ∨ a = 131) {j : Nat} (hj47 : j < 47) (hj : j ≠ 4 + k) : ld_ct X ad (us σ a (upd (σ a) k v)) j = ld_ct X ad σ j := by
  have h9 : us σ a (upd (σ a) k v) (j - 9) = σ (j - 9) := us_ne σ _ (by omega)
  have hn : ∀ b, 100 ≤ b → b < 130 ∨ 131 < b → us σ a (upd (σ a) k v) b = σ b := fun b _ _ => us_ne σ _ (by omega)
  have hs : ∀ b, 4 ≤ j → us σ a (upd (σ a) k v) b (j - 4) = σ b (j - 4) := by
    intro b h4
    by_cases hb : b = a
    · subst hb
      rw [us_eq, pk_un (by omega)]
    · rw [us_ne σ _ hb]
  unfold ld_ct
  rw [hn 100 (by decide) (by decide), hn 101 (by decide) (by decide), hn 102 (by decide) (by decide), hn 110 (by decide) (by decide), hn 111 (by decide) (by decide), hn 112 (by decide) (by decide), hn 113 (by decide) (by decide), hn 120 (by decide) (by decide), hn 121 (by decide) (by decide), hn 122 (by decide) (by decide), hn 123 (by decide) (by decide), h9]
  rw [hn 140 (by decide) (by decide), hn 141 (by decide) (by decide), hn 142 (by decide) (by decide), hn 143 (by decide) (by decide), hn 144 (by decide) (by decide), hn 145 (by decide) (by decide), hn 146 (by decide) (by decide), hn 147 (by decide) (by decide), hn 148 (by decide) (by decide), hn 149 (by decide) (by decide), hn 150 (by decide) (by decide), hn 151 (by decide) (by decide)]
  by_cases h4 : 4 ≤ j
  · rw [hs 130 h4, hs 131 h4]
  · simp only [show j < 8 by omega, if_true]
    by_cases e0 : j = 0
    · simp only [e0, if_true]
    by_cases e1 : j = 1
    · simp only [e1, if_true, if_false]
    by_cases e2 : j = 2
    · simp only [e2, if_true, if_false]
    simp only [show j = 3 by omega, if_true]
/-! judgements -/
def ld_nws : List Cond := [.methodLinkNest RX2 13 yX1_init "LemonDeals", .fieldLinkNest RX2 74 "LemonDeals$Street" "houses" "I" "LemonDeals", .fieldLinkNest RX2 98 "LemonDeals$Street" "crate" "I" "LemonDeals", .fieldLinkNest RX2 199 "LemonDeals$Street" "week" "I" "LemonDeals", .fieldLinkNest RX2 221 "LemonDeals$Street" "leanWeeks" "I" "LemonDeals", .fieldLinkNest RX2 80 "LemonDeals$Street" "kind" "[I" "LemonDeals", .fieldLinkNest RX2 83 "LemonDeals$Street" "temper" "[I" "LemonDeals", .fieldLinkNest RX2 86 "LemonDeals$Street" "stock" "[I" "LemonDeals", .fieldLinkNest RX2 89 "LemonDeals$Street" "pips" "[I" "LemonDeals", .fieldLinkNest RX2 151 "LemonDeals$Street" "dealt" "[I" "LemonDeals", .methodLinkNest RX2 44 yX0_init "LemonDeals", .fieldLinkNest RX2 63 "LemonDeals$Sheet" "cells" "[I" "LemonDeals", .fieldLinkNest RX2 178 "LemonDeals$Sheet" "lane" "I" "LemonDeals", .fieldLinkNest RX2 169 "LemonDeals$Sheet" "length" "I" "LemonDeals", .methodLinkNest RX2 52 yX0_faultAs "LemonDeals", .methodLinkNest RX2 56 yX0_lacks "LemonDeals", .methodLinkNest RX2 70 yX1_beginByText "LemonDeals", .methodLinkNest RX1 52 yX2_kindByLetter "LemonDeals", .methodLinkNest RX2 92 yX1_treesOf "LemonDeals", .methodLinkNest RX2 95 yX1_sourOf "LemonDeals", .methodLinkNest RX2 101 yX1_dealtTo "LemonDeals", .methodLinkNest RX2 115 yX1_passWeeks "LemonDeals", .methodLinkNest RX2 119 yX1_withoutStock "LemonDeals", .methodLinkNest RX2 123 yX1_giveOneFrom "LemonDeals", .methodLinkNest RX2 132 yX1_becomeLike "LemonDeals", .methodLinkNest RX2 217 yX1_sumOf "LemonDeals", .methodLinkNest RX2 142 yX1_worstTemper "LemonDeals", .methodLinkNest RX2 224 yX1_dealOut "LemonDeals", .methodLinkNest RX2 148 yX1_dealOneByOne "LemonDeals", .methodLinkNest RX2 162 yX0_begin "LemonDeals", .methodLinkNest RX2 166 yX0_isThere "LemonDeals", .methodLinkNest RX2 172 yX0_hasCell "LemonDeals", .methodLinkNest RX2 175 yX0_cutToLane "LemonDeals"]
def ld_nOK : Cond → Bool | .fieldLinkNest _ _ _ _ _ _ => true | .methodLinkNest _ _ _ _ => true | _ => false
def ld_NW (U : State) : Prop := ∀ w ∈ ld_nws, va_Nw w U
theorem ld_NW_all : ∀ w ∈ ld_nws, ld_nOK w = true := by decide +kernel
theorem ld_NW.warm {s U : State} (hW : s.WarmedH U.vm) (h : ld_NW s) : ld_NW U := by
  intro w hw
  have h1 := h w hw
  have h2 := ld_NW_all w hw
  cases w <;> first | exact va_Nw.warmF hW h1 | exact va_Nw.warmM hW h1 | cases h2
theorem ld_NW.same {s U : State} (e : s.vm = U.vm) (h : ld_NW s) : ld_NW U := by
  intro w hw
  have h1 := h w hw
  have h2 := ld_NW_all w hw
  cases w <;> first | exact va_Nw.same rfl e h1 | cases h2
def ld_inj (ad : Nat → Nat) : Prop := ∀ i j, i < 47 → j < 47 → ad i = ad j → i = j
def ld_A (ad : Nat → Nat) (sz : Nat) : Nat → Prop := fun q => (∃ i, i < 47 ∧ q = ad i) ∨ sz ≤ q
theorem ld_D {A : Nat → Prop} {ad : Nat → Nat} (hi : ld_inj ad) (hA : ∀ i, i < 47 → A (ad i)) (X : ld_X) (σ : ld_St) : va_D A (ld_G X ad σ) := by
  have g : ∀ (k : Nat) (q : Nat × va_E), (ld_G X ad σ)[k]? = some q → k < 47 ∧ q.1 = ad k := by
    intro k q h
    have hk : k < 47 := by
      have h1 := (List.getElem?_eq_some_iff.mp h).1
      simpa [ld_G] using h1
    rw [ld_at X ad σ hk] at h
    exact ⟨hk, by rw [← Option.some.inj h]⟩
  refine ⟨fun i j p q h1 h2 h3 => ?_, fun k q h => ?_⟩
  · obtain ⟨a1, a2⟩ := g i p h1
    obtain ⟨b1, b2⟩ := g j q h2
    exact hi i j a1 b1 (by rw [← a2, ← b2, h3])
  · obtain ⟨a1, a2⟩ := g k q h
    rw [a2]
    exact hA k a1
def ld_Env (X : ld_X) (ad : Nat → Nat) (σ : ld_St) (U : State) : Prop := va_P X.1 ld_cl (ld_G X ad σ) U.heap ∧ va_K X.1 ld_cl (ld_tys X) U ∧ ld_NW U
def ld_Pc (X : ld_X) (ad : Nat → Nat) (σ : ld_St) (sz : Nat) (args : List Value) : Array Value → State → Prop := va_Pc args (fun U => U.heap.size = sz ∧ ld_Env X ad σ U)
def ld_Qc (X : ld_X) (ad : Nat → Nat) (sz : Nat) (P : Option Value → ld_St → Prop) : Array Value → State → Outcome → State → Prop := fun _ st oc t => (∃ (v : Option Value) (σ2 : ld_St), oc = .returned v ∧ P v σ2 ∧ va_P X.1 ld_cl (ld_G X ad σ2) t.heap) ∧ va_F (ld_A ad sz) st t
abbrev ld_ws (y : MethodName) (b : ByteArray) (n : Nat) (ret : Option FieldType) : List Cond := Cond.code y b n ret :: wsL_law
abbrev ld_rm (rm : Nat × Nat) : Room := { frames := rm.1, cells := 0, slots := 0, locals := rm.2 }
def ld_Ctr (l : Launch) (y : MethodName) (b : ByteArray) (n : Nat) (ret : Option FieldType) (rm : Nat × Nat) (args : List Value) (ad : Nat → Nat) (σ : ld_St) (P : Option Value → ld_St → Prop) : Prop :=
  ∀ (X : ld_X) (sz : Nat), ld_inj ad → Met l y (ld_ws y b n ret) (ld_rm rm) (ld_Pc X ad σ sz args) (ld_Qc X ad sz P) 0 0 (ld_A ad sz)
def ld_Ob (X : ld_X) (p : Program) (l : Launch) (e : Env) (R : Room) (s : State) (m : MethodId) (args : Array Value) (below : List Frame) (meth : Method) (c : Code) (cells slots : Nat) (A : Nat → Prop) (ad : Nat → Nat) (nL : Nat) (Q : State → Prop) : ld_St → List (Nat × Value) → List Value → Nat → Prop :=
  fun σ lv st pc => ∀ (H : Heap) (locs : List Loc) (ls : Array Slot), va_P X.1 ld_cl (ld_G X ad σ) H → va_S A s.heap H locs → lv_has ls nL lv → W p l e R s m args below meth c H locs cells slots Q (F0 m pc ls st)
def ld_Ok (l : Launch) (K : ld_St → List (Nat × Value) → List Value → Nat → Prop) (ad : Nat → Nat) (cc : ByteArray) (nL : Nat) (own : String) (R : Room) : Prop :=
  ∃ (X : ld_X) (p : Program) (e : Env) (s : State) (m : MethodId) (args : Array Value) (below : List Frame) (meth : Method) (c : Code) (cells slots : Nat) (A : Nat → Prop) (Q : State → Prop),
    p.tables.exec = Jvm.exec ∧ c.code = cc ∧ c.maxLocals = nL ∧ s.vm.findClass own = some m.cls ∧ (∀ w ∈ wsL_law, w.before args s = true) ∧ ld_inj ad ∧ va_K X.1 ld_cl (ld_tys X) s ∧ ld_NW s ∧ (∀ i, i < 47 → A (ad i)) ∧ (∀ q, s.heap.size ≤ q → A q) ∧ (cells ≤ R.cells ∧ slots ≤ R.slots) ∧ K = ld_Ob X p l e R s m args below meth c cells slots A ad nL Q
/-- the ends -/
def ld_Re (K : ld_St → List (Nat × Value) → List Value → Nat → Prop) (cc : ByteArray) (ret : Option FieldType) (P : Option Value → ld_St → Prop) : Prop :=
  (∀ (σ : ld_St) (lv : List (Nat × Value)) (v : Int32) (pc : Nat), decode cc pc = .ok (.ireturn, 1) → (∃ ty, ret = some ty ∧ narrow ty (.int v) = .int v) → P (some (.int v)) σ → K σ lv [.int v] pc) ∧
  (∀ (σ : ld_St) (lv : List (Nat × Value)) (v : Int64) (pc : Nat), decode cc pc = .ok (.lreturn, 1) → ret = some .long → P (some (.long v)) σ → K σ lv [.long v] pc) ∧
  (∀ (σ : ld_St) (lv : List (Nat × Value)) (pc : Nat), decode cc pc = .ok (.return_, 1) → ret = none → P none σ → K σ lv [] pc)
def ld_I (q : Int32 → ld_St → Prop) : Option Value → ld_St → Prop := fun v σ => ∃ r, v = some (.int r) ∧ q r σ
def ld_L (q : Int64 → ld_St → Prop) : Option Value → ld_St → Prop := fun v σ => ∃ r, v = some (.long r) ∧ q r σ
def ld_V (q : ld_St → Prop) : Option Value → ld_St → Prop := fun v σ => v = none ∧ q σ
/-- a contract out of a walk over an abstract K -/
theorem ld_entry {l : Launch} {y : MethodName} {b : ByteArray} {n : Nat} {ret : Option FieldType} {rm : Nat × Nat} {args : List Value} {ad : Nat → Nat} {σ : ld_St} {P : Option Value → ld_St → Prop} (hy : plainName y.cls = true) (hn : (lg_sl args).length ≤ n)
    (body : ∀ K : ld_St → List (Nat × Value) → List Value → Nat → Prop, ld_Ok l K ad b n y.cls (ld_rm rm) → ld_Re K b ret P → K σ (lv_args 0 args) [] 0) : ld_Ctr l y b n ret rm args ad σ P := by
  intro X sz hinj
  refine Met.ofW (cc := b) (maxL := n) (ret := ret) hy rfl ?_
  intro p e s m argv below meth c s₁ B hml hv
  obtain ⟨rfl, hsz, hP, hK, hN⟩ := hv
  have hx := B.exec
  have hb := B.bytes
  have hr := B.returns
  have hts0 := atoms_spec (ws := ld_ws y b n ret) B.pre
  have hts : ∀ w ∈ wsL_law, w.before args.toArray s = true := fun w hw => hts0 w (List.mem_cons_of_mem _ hw)
  have hown : s.vm.findClass y.cls = some m.cls := findClass_of_methodNamed B.named
  have hlocks := B.notSynchronized
  subst hsz
  have hA1 : ∀ i, i < 47 → ld_A ad s.heap.size (ad i) := fun i hi => Or.inl ⟨i, hi, rfl⟩
  have hA2 : ∀ q, s.heap.size ≤ q → ld_A ad s.heap.size q := fun q h => Or.inr h
  have hl := lv_entry args hn
  rw [lg_entry_eq]
  refine body (ld_Ob X p l e (ld_rm rm) s m args.toArray below meth c 0 0 (ld_A ad s.heap.size) ad n (MQ below (ld_Qc X ad s.heap.size P) args.toArray s 0 0 (ld_A ad s.heap.size))) ⟨X, p, e, s, m, args.toArray, below, meth, c, 0, 0, _, _, hx, hb, hml, hown, hts, hinj, hK, hN, hA1, hA2, ⟨Nat.le_refl _, Nat.le_refl _⟩, rfl⟩ ⟨?_, ?_, ?_⟩ s.heap [] _ hP va_S.rf hl
  · intro σ2 lv v pc hd hret hq H locs ls hP hS hl
    obtain ⟨ty, e1, e2⟩ := hret
    exact W.zret hx hb (hr.trans e1) e2 (fun t ht hW => ⟨⟨_, σ2, rfl, hq, by rw [ht]; exact hP⟩, hS.F ht⟩) hS.2.2 hd
  · intro σ2 lv v pc hd hret hq H locs ls hP hS hl
    exact W.lret hx hb (hr.trans hret) (fun t ht hW => ⟨⟨_, σ2, rfl, hq, by rw [ht]; exact hP⟩, hS.F ht⟩) hS.2.2 hd
  · intro σ2 lv pc hd hret hq H locs ls hP hS hl
    exact W.vret hx hb (hr.trans hret) (fun t ht hW => ⟨⟨_, σ2, rfl, hq, by rw [ht]; exact hP⟩, hS.F ht⟩) hS.2.2 hd
