theorem ld_sub6 {L : Nat} (hL : L ≤ 384) : (nI L - nI 6).toInt = (L : Int) - 6 := by
  by_cases h : 6 ≤ L
  · rw [pk_sub h, nI_toInt (by omega)]; omega
  · rcases (show L = 0 ∨ L = 1 ∨ L = 2 ∨ L = 3 ∨ L = 4 ∨ L = 5 by omega) with rfl | rfl | rfl | rfl | rfl | rfl <;> decide
theorem ld_add6 (j : Nat) : nI j + Int32.ofInt 6 = nI (j + 6) := by
  rw [← nI_add]; rfl
set_option maxHeartbeats 4000000 in
set_option maxRecDepth 100000 in
theorem ld_loop {l : Launch} {K : ld_St → List (Nat × Value) → List Value → Nat → Prop} {ad : Nat → Nat} {b L : Nat} {xs : Nat → Int32} (O : ld_Ok l K ad cL_law 4 RL room_1) (Z : ld_Scr K cL_law b L xs) (E : ∀ σ lv, K σ lv [.int (nI 1)] 1070) (hL : L ≤ 384) : ∀ (f n : Nat) (σ : ld_St), L ≤ 6 * n + f → 6 * n ≤ L + 5 → ld_J (60 * n) σ → K σ [(3, .int (nI (6 * n))), (2, .ref (ad 8)), (1, .ref (ad 0)), (0, .ref b)] [] 18
  | f, n, σ, hf, hn, J => by
    refine ld_iload_n O 0 dL_law_18 rfl rfl ?_
    refine ld_aload_n O 3 dL_law_19 rfl rfl ?_
    refine Z.2 _ _ _ _ dL_law_20 ?_
    refine ld_bipush O (v := nI 6) dL_law_21 (by decide) ?_
    refine ld_isub O dL_law_23 ?_
    refine ld_icmp_gt O ((6 * n : Nat) : Int) ((L : Int) - 6) (nI_toInt (by omega)) (ld_sub6 hL) 1069 dL_law_24 (by decide) (fun _ => ?_) (fun c => ?_)
    · exact ld_iconst O (v := nI 1) dL_law_1069 (by decide) (E σ _)
    have k : ∀ σ2, ld_J (60 * n + 60) σ2 → K σ2 [(3, .int (nI (6 * n))), (2, .ref (ad 8)), (1, .ref (ad 0)), (0, .ref b)] [] 1063 := by
      intro σ2 J2
      refine ld_iinc O [(3, .int (nI (6 * (n + 1)))), (2, .ref (ad 8)), (1, .ref (ad 0)), (0, .ref b)] 0 (v := nI (6 * (n + 1))) dL_law_1063 rfl ?_ (by decide) rfl ?_
      · rw [ld_add6]; exact congrArg nI (by omega)
      refine ld_goto O 18 dL_law_1066 (by decide) ?_
      exact ld_loop O Z E hL (f - 6) (n + 1) σ2 (by omega) (by omega) (by rw [show 60 * (n + 1) = 60 * n + 60 by omega]; exact J2)
    have hT : 60 * n ≤ 8000 := by omega
    have hj : 6 * n + 5 < L := by omega
    refine ld_aload_n O 3 dL_law_27 rfl rfl ?_
    refine ld_iload_n O 0 dL_law_28 rfl rfl ?_
    refine Z.1 _ _ _ _ (6 * n) (by omega) dL_law_29 ?_
    refine ld_bipush O (v := nI 31) dL_law_30 (by decide) ?_
    refine ld_iand O dL_law_32 ?_
    generalize xs (6 * n) &&& nI 31 = w
    by_cases h0 : w.toInt < 0
    · exact ld_tabOut O 1063 dL_law_33 (Or.inl h0) (by decide) (k σ (J.mono (by omega)))
    by_cases h1 : 28 < w.toInt
    · exact ld_tabOut O 1063 dL_law_33 (Or.inr h1) (by decide) (k σ (J.mono (by omega)))
    rcases (show w.toInt = 0 ∨ w.toInt = 1 ∨ w.toInt = 2 ∨ w.toInt = 3 ∨ w.toInt = 4 ∨ w.toInt = 5 ∨ w.toInt = 6 ∨ w.toInt = 7 ∨ w.toInt = 8 ∨ w.toInt = 9 ∨ w.toInt = 10 ∨ w.toInt = 11 ∨ w.toInt = 12 ∨ w.toInt = 13 ∨ w.toInt = 14 ∨ w.toInt = 15 ∨ w.toInt = 16 ∨ w.toInt = 17 ∨ w.toInt = 18 ∨ w.toInt = 19 ∨ w.toInt = 20 ∨ w.toInt = 21 ∨ w.toInt = 22 ∨ w.toInt = 23 ∨ w.toInt = 24 ∨ w.toInt = 25 ∨ w.toInt = 26 ∨ w.toInt = 27 ∨ w.toInt = 28 by omega) with v | v | v | v | v | v | v | v | v | v | v | v | v | v | v | v | v | v | v | v | v | v | v | v | v | v | v | v | v
    · exact ld_tabIn O 164 dL_law_33 h0 h1 (by rw [v]; rfl) (by decide) (ld_q_street O Z J hT hj k)
    · exact ld_tabIn O 217 dL_law_33 h0 h1 (by rw [v]; rfl) (by decide) (ld_q_ofHouse O Z J hT hj k)
    · exact ld_tabIn O 250 dL_law_33 h0 h1 (by rw [v]; rfl) (by decide) (ld_q_anger O Z J hT hj k)
    · exact ld_tabIn O 283 dL_law_33 h0 h1 (by rw [v]; rfl) (by decide) (ld_q_crate O Z J hT hj k)
    · exact ld_tabIn O 306 dL_law_33 h0 h1 (by rw [v]; rfl) (by decide) (ld_q_deal O Z J hT hj k)
    · exact ld_tabIn O 339 dL_law_33 h0 h1 (by rw [v]; rfl) (by decide) (ld_q_weeks O Z J hT hj k)
    · exact ld_tabIn O 362 dL_law_33 h0 h1 (by rw [v]; rfl) (by decide) (ld_q_gift O Z J hT hj k)
    · exact ld_tabIn O 385 dL_law_33 h0 h1 (by rw [v]; rfl) (by decide) (ld_q_season O Z J hT hj k)
    · exact ld_tabIn O 448 dL_law_33 h0 h1 (by rw [v]; rfl) (by decide) (ld_q_calm O Z J hT hj k)
    · exact ld_tabIn O 481 dL_law_33 h0 h1 (by rw [v]; rfl) (by decide) (ld_q_wonder O Z J hT hj k)
    · exact ld_tabIn O 504 dL_law_33 h0 h1 (by rw [v]; rfl) (by decide) (ld_q_otherwise O Z J hT hj k)
    · exact ld_tabIn O 527 dL_law_33 h0 h1 (by rw [v]; rfl) (by decide) (ld_q_halves O Z J hT hj k)
    · exact ld_tabIn O 550 dL_law_33 h0 h1 (by rw [v]; rfl) (by decide) (ld_q_reading O Z J hT hj k)
    · exact ld_tabIn O 583 dL_law_33 h0 h1 (by rw [v]; rfl) (by decide) (ld_q_back O Z J hT hj k)
    · exact ld_tabIn O 606 dL_law_33 h0 h1 (by rw [v]; rfl) (by decide) (ld_q_tempers O Z J hT hj k)
    · exact ld_tabIn O 629 dL_law_33 h0 h1 (by rw [v]; rfl) (by decide) (ld_q_kinds O Z J hT hj k)
    · exact ld_tabIn O 652 dL_law_33 h0 h1 (by rw [v]; rfl) (by decide) (ld_q_crates O Z J hT hj k)
    · exact ld_tabIn O 675 dL_law_33 h0 h1 (by rw [v]; rfl) (by decide) (ld_q_odds O Z J hT hj k)
    · exact ld_tabIn O 719 dL_law_33 h0 h1 (by rw [v]; rfl) (by decide) (ld_q_sheet O Z J hT hj k)
    · exact ld_tabIn O 762 dL_law_33 h0 h1 (by rw [v]; rfl) (by decide) (ld_q_lose O Z J hT hj k)
    · exact ld_tabIn O 785 dL_law_33 h0 h1 (by rw [v]; rfl) (by decide) (ld_q_put O Z J hT hj k)
    · exact ld_tabIn O 828 dL_law_33 h0 h1 (by rw [v]; rfl) (by decide) (ld_q_cell O Z J hT hj k)
    · exact ld_tabIn O 872 dL_law_33 h0 h1 (by rw [v]; rfl) (by decide) (ld_q_copy O Z J hT hj k)
    · exact ld_tabIn O 935 dL_law_33 h0 h1 (by rw [v]; rfl) (by decide) (ld_q_tell O Z J hT hj k)
    · exact ld_tabIn O 958 dL_law_33 h0 h1 (by rw [v]; rfl) (by decide) (ld_q_knock O Z J hT hj k)
    · exact ld_tabIn O 981 dL_law_33 h0 h1 (by rw [v]; rfl) (by decide) (ld_q_as O Z J hT hj k)
    · exact ld_tabIn O 1014 dL_law_33 h0 h1 (by rw [v]; rfl) (by decide) (ld_q_trace O Z J hT hj k)
    · exact ld_tabIn O 1027 dL_law_33 h0 h1 (by rw [v]; rfl) (by decide) (ld_q_fault O Z J hT hj k)
    · exact ld_tabIn O 1040 dL_law_33 h0 h1 (by rw [v]; rfl) (by decide) (ld_q_many O Z J hT hj k)
