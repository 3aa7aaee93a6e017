theorem ld_cI {D : va_G} {cl : List vw_C} {s : State} {cA cI : ClassId} (hK : va_K D cl [(cI, .int)] s) (hK2 : va_K D cl ([(cI, .int)] ++ [(cA, .int)]) s) : cA = cI := by
  have h1 : s.vm.findClass ("[" ++ FieldType.int.toString) = some cI := (hK.2 0 _ rfl).2
  have h2 : s.vm.findClass ("[" ++ FieldType.int.toString) = some cA := (hK2.2 1 _ rfl).2
  exact Option.some.inj (h2.symm.trans h1)
set_option maxHeartbeats 400000 in
set_option maxRecDepth 100000 in
theorem c_X0_init (l : Launch) (D : va_G) (cI : ClassId) (h0 sz : Nat) : Met l yX0_init (ld_ws yX0_init cX0_init 1 none) { frames := 1, cells := 1, slots := 60, locals := 12 } (va_Pc [.ref h0] (fun U => U.heap.size = sz ∧ va_P D ld_cl [(h0, .inr (0, [.null, .int 0, .int 0]))] U.heap ∧ va_K D ld_cl [(cI, .int)] U ∧ va_D (fun _ => True) [(h0, .inr (0, [.null, .int 0, .int 0]))])) (va_Qv (fun _ : Unit => True) (fun _ t => ∃ q7 : Nat, va_P D ld_cl [(h0, .inr (0, [.ref q7, .int (nI 0), .int (-1 : Int32)])), (q7, .inl (cI, 60, .inl (fun _ => nI 0)))] t.heap ∧ va_D (va_A [(h0, .inr (0, [.null, .int 0, .int 0]))] sz) [(h0, .inr (0, [.ref q7, .int (nI 0), .int (-1 : Int32)])), (q7, .inl (cI, 60, .inl (fun _ => nI 0)))]) (va_A [(h0, .inr (0, [.null, .int 0, .int 0]))] sz)) 1 60 (va_A [(h0, .inr (0, [.null, .int 0, .int 0]))] sz) := by
  refine Met.ofW (cc := cX0_init) (maxL := 1) (ret := none) (by decide +kernel) rfl ?_
  intro p e s m args below meth c s₁ B hml hv
  obtain ⟨rfl, hsz, hP, hK, hD0⟩ := hv
  have hx := B.exec
  have hb := B.bytes
  have hr := B.returns
  have hts0 := atoms_spec (ws := ld_ws yX0_init cX0_init 1 none) B.pre
  have hts : ∀ w ∈ wsL_law, w.before ([Value.ref h0] : List Value).toArray s = true := fun w hw => hts0 w (List.mem_cons_of_mem _ hw)
  have hown : s.vm.findClass RX0 = some m.cls := findClass_of_methodNamed B.named
  have hlocks := B.notSynchronized
  have hin : meth.name = "<init>" := (name_of_methodNamed B.named B.method).1
  subst hsz
  have hD := hD0.self (sz := s.heap.size)
  generalize hAe : va_A [(h0, .inr (0, [.null, .int 0, .int 0]))] s.heap.size = A at hD ⊢
  have hA : ∀ q : Nat, s.heap.size ≤ q → A q := fun q h => by rw [← hAe]; exact Or.inr h
  have hS : va_S A s.heap s.heap [] := va_S.rf
  have hP : va_P D ld_cl [(h0, .inr (0, [.null, .int 0, .int 0]))] s.heap := hP
  have hl := lv_entry ([.ref h0]) (n := 1) (Nat.le_of_ble_eq_true rfl)
  rw [lg_entry_eq]
  generalize (lg_sl ([.ref h0]) ++ List.replicate (1 - (lg_sl ([.ref h0])).length) Slot.unset).toArray = ls at hl ⊢
  have hl : lv_has ls 1 [(0, .ref h0)] := hl
  refine lv_aload_n hx hb dX0_init_0 rfl (lv_at hl 0 rfl) ?_
  refine W.objInit hx hb hown (hts _ ld_w43) (hts _ ld_w10) (hts _ ld_w11) rfl (by rw [hml]; exact hl.1) rfl dX0_init_1 (Nat.le_of_ble_eq_true rfl) (Nat.le_of_ble_eq_true rfl) ?_
  refine W.eq (g2 := F0 m 4 ls []) rfl ?_
  refine lv_aload_n hx hb dX0_init_4 rfl (lv_at hl 0 rfl) ?_
  refine lv_bipush hx hb dX0_init_5 (v := nI 60) (by decide) ?_
  refine va_newa (atype := .int) (a0 := (60, .inl (fun _ => nI 0))) (N' := 60) hx hb (hts _ ld_w19) rfl hK hP hD hS hA (fun _ => rfl) (by decide) (by decide) (by decide) (Nat.le_of_ble_eq_true rfl) (Nat.le_of_ble_eq_true rfl) dX0_init_7 (fun q7 cA H hK2 hP hD hS => ?_)
  have ecA_ : cI = cA := (ld_cI hK hK2).symm
  subst ecA_
  have hP : va_P D ld_cl [(h0, .inr (0, [.null, .int 0, .int 0])), (q7, .inl (cI, 60, .inl (fun _ => nI 0)))] H := hP
  have hD : va_D A [(h0, .inr (0, [.null, .int 0, .int 0])), (q7, .inl (cI, 60, .inl (fun _ => nI 0)))] := hD
  refine va_putF (D := D) (ci := 0) (v := .ref q7) (ty := .array .int) (C := RX0) (T := TX0) (N := 3) hx hb hts inlX0 tyX0 tyX0_ok nmX0 hown hK hP hD hS 0 rfl rfl 0 (by decide) (hts _ ld_w44) (fun _ h9 => h9) rfl hin rfl (by decide +kernel) rfl rfl (Nat.le_of_ble_eq_true rfl) dX0_init_9 (fun H locs hP hD hS => ?_)
  have hP : va_P D ld_cl [(h0, .inr (0, [.ref q7, .int 0, .int 0])), (q7, .inl (cI, 60, .inl (fun _ => nI 0)))] H := hP
  have hD : va_D A [(h0, .inr (0, [.ref q7, .int 0, .int 0])), (q7, .inl (cI, 60, .inl (fun _ => nI 0)))] := hD
  refine lv_aload_n hx hb dX0_init_12 rfl (lv_at hl 0 rfl) ?_
  refine lv_iconst hx hb dX0_init_13 (v := nI 0) (by decide) ?_
  refine va_put (D := D) (ci := 0) (v := .int (nI 0)) (ty := .int) (C := RX0) (T := TX0) (N := 3) hx hb hts inlX0 tyX0 tyX0_ok nmX0 hown hK hP hD hS 0 rfl rfl 1 (by decide) (hts _ ld_w45) (fun _ h9 => h9) rfl (by decide +kernel) rfl rfl (Nat.le_of_ble_eq_true rfl) dX0_init_14 (fun H locs hP hD hS => ?_)
  have hP : va_P D ld_cl [(h0, .inr (0, [.ref q7, .int (nI 0), .int 0])), (q7, .inl (cI, 60, .inl (fun _ => nI 0)))] H := hP
  have hD : va_D A [(h0, .inr (0, [.ref q7, .int (nI 0), .int 0])), (q7, .inl (cI, 60, .inl (fun _ => nI 0)))] := hD
  refine lv_aload_n hx hb dX0_init_17 rfl (lv_at hl 0 rfl) ?_
  refine lv_iconst hx hb dX0_init_18 (v := (-1 : Int32)) (by decide) ?_
  refine va_put (D := D) (ci := 0) (v := .int (-1 : Int32)) (ty := .int) (C := RX0) (T := TX0) (N := 3) hx hb hts inlX0 tyX0 tyX0_ok nmX0 hown hK hP hD hS 0 rfl rfl 2 (by decide) (hts _ ld_w46) (fun _ h9 => h9) rfl (by decide +kernel) rfl rfl (Nat.le_of_ble_eq_true rfl) dX0_init_19 (fun H locs hP hD hS => ?_)
  have hP : va_P D ld_cl [(h0, .inr (0, [.ref q7, .int (nI 0), .int (-1 : Int32)])), (q7, .inl (cI, 60, .inl (fun _ => nI 0)))] H := hP
  have hD : va_D A [(h0, .inr (0, [.ref q7, .int (nI 0), .int (-1 : Int32)])), (q7, .inl (cI, 60, .inl (fun _ => nI 0)))] := hD
  refine W.widen (k := 1) (n := 60) (by omega) (by omega) ?_
  exact W.vret hx hb hr (fun t ht hW => ⟨⟨(), rfl, trivial, ⟨q7, by rw [ht]; exact hP, hD⟩⟩, hS.F ht⟩) hS.2.2 dX0_init_22
set_option maxHeartbeats 400000 in
set_option maxRecDepth 100000 in
theorem c_X1_init (l : Launch) (D : va_G) (cI : ClassId) (h0 sz : Nat) : Met l yX1_init (ld_ws yX1_init cX1_init 1 none) { frames := 1, cells := 7, slots := 56, locals := 12 } (va_Pc [.ref h0] (fun U => U.heap.size = sz ∧ va_P D ld_cl [(h0, .inr (1, [.int 0, .int 0, .int 0, .int 0, .null, .null, .null, .null, .null, .null, .null]))] U.heap ∧ va_K D ld_cl [(cI, .int)] U ∧ va_D (fun _ => True) [(h0, .inr (1, [.int 0, .int 0, .int 0, .int 0, .null, .null, .null, .null, .null, .null, .null]))])) (va_Qv (fun _ : Unit => True) (fun _ t => ∃ q27 q35 q43 q51 q59 q67 q75 : Nat, va_P D ld_cl [(h0, .inr (1, [.int (nI 0), .int (nI 0), .int (nI 0), .int (nI 0), .ref q27, .ref q35, .ref q43, .ref q51, .ref q59, .ref q67, .ref q75])), (q27, .inl (cI, 8, .inl (fun _ => nI 0))), (q35, .inl (cI, 8, .inl (fun _ => nI 0))), (q43, .inl (cI, 8, .inl (fun _ => nI 0))), (q51, .inl (cI, 8, .inl (fun _ => nI 0))), (q59, .inl (cI, 8, .inl (fun _ => nI 0))), (q67, .inl (cI, 8, .inl (fun _ => nI 0))), (q75, .inl (cI, 8, .inl (fun _ => nI 0)))] t.heap ∧ va_D (va_A [(h0, .inr (1, [.int 0, .int 0, .int 0, .int 0, .null, .null, .null, .null, .null, .null, .null]))] sz) [(h0, .inr (1, [.int (nI 0), .int (nI 0), .int (nI 0), .int (nI 0), .ref q27, .ref q35, .ref q43, .ref q51, .ref q59, .ref q67, .ref q75])), (q27, .inl (cI, 8, .inl (fun _ => nI 0))), (q35, .inl (cI, 8, .inl (fun _ => nI 0))), (q43, .inl (cI, 8, .inl (fun _ => nI 0))), (q51, .inl (cI, 8, .inl (fun _ => nI 0))), (q59, .inl (cI, 8, .inl (fun _ => nI 0))), (q67, .inl (cI, 8, .inl (fun _ => nI 0))), (q75, .inl (cI, 8, .inl (fun _ => nI 0)))]) (va_A [(h0, .inr (1, [.int 0, .int 0, .int 0, .int 0, .null, .null, .null, .null, .null, .null, .null]))] sz)) 7 56 (va_A [(h0, .inr (1, [.int 0, .int 0, .int 0, .int 0, .null, .null, .null, .null, .null, .null, .null]))] sz) := by
  refine Met.ofW (cc := cX1_init) (maxL := 1) (ret := none) (by decide +kernel) rfl ?_
  intro p e s m args below meth c s₁ B hml hv
  obtain ⟨rfl, hsz, hP, hK, hD0⟩ := hv
  have hx := B.exec
  have hb := B.bytes
  have hr := B.returns
  have hts0 := atoms_spec (ws := ld_ws yX1_init cX1_init 1 none) B.pre
  have hts : ∀ w ∈ wsL_law, w.before ([Value.ref h0] : List Value).toArray s = true := fun w hw => hts0 w (List.mem_cons_of_mem _ hw)
  have hown : s.vm.findClass RX1 = some m.cls := findClass_of_methodNamed B.named
  have hlocks := B.notSynchronized
  have hin : meth.name = "<init>" := (name_of_methodNamed B.named B.method).1
  subst hsz
  have hD := hD0.self (sz := s.heap.size)
  generalize hAe : va_A [(h0, .inr (1, [.int 0, .int 0, .int 0, .int 0, .null, .null, .null, .null, .null, .null, .null]))] s.heap.size = A at hD ⊢
  have hA : ∀ q : Nat, s.heap.size ≤ q → A q := fun q h => by rw [← hAe]; exact Or.inr h
  have hS : va_S A s.heap s.heap [] := va_S.rf
  have hP : va_P D ld_cl [(h0, .inr (1, [.int 0, .int 0, .int 0, .int 0, .null, .null, .null, .null, .null, .null, .null]))] s.heap := hP
  have hl := lv_entry ([.ref h0]) (n := 1) (Nat.le_of_ble_eq_true rfl)
  rw [lg_entry_eq]
  generalize (lg_sl ([.ref h0]) ++ List.replicate (1 - (lg_sl ([.ref h0])).length) Slot.unset).toArray = ls at hl ⊢
  have hl : lv_has ls 1 [(0, .ref h0)] := hl
  refine lv_aload_n hx hb dX1_init_0 rfl (lv_at hl 0 rfl) ?_
  refine W.objInit hx hb hown (hts _ ld_w29) (hts _ ld_w10) (hts _ ld_w11) rfl (by rw [hml]; exact hl.1) rfl dX1_init_1 (Nat.le_of_ble_eq_true rfl) (Nat.le_of_ble_eq_true rfl) ?_
  refine W.eq (g2 := F0 m 4 ls []) rfl ?_
  refine lv_aload_n hx hb dX1_init_4 rfl (lv_at hl 0 rfl) ?_
  refine lv_iconst hx hb dX1_init_5 (v := nI 0) (by decide) ?_
  refine va_put (D := D) (ci := 1) (v := .int (nI 0)) (ty := .int) (C := RX1) (T := TX1) (N := 11) hx hb hts inlX1 tyX1 tyX1_ok nmX1 hown hK hP hD hS 0 rfl rfl 0 (by decide) (hts _ ld_w30) (fun _ h9 => h9) rfl (by decide +kernel) rfl rfl (Nat.le_of_ble_eq_true rfl) dX1_init_6 (fun H locs hP hD hS => ?_)
  have hP : va_P D ld_cl [(h0, .inr (1, [.int (nI 0), .int 0, .int 0, .int 0, .null, .null, .null, .null, .null, .null, .null]))] H := hP
  have hD : va_D A [(h0, .inr (1, [.int (nI 0), .int 0, .int 0, .int 0, .null, .null, .null, .null, .null, .null, .null]))] := hD
  refine lv_aload_n hx hb dX1_init_9 rfl (lv_at hl 0 rfl) ?_
  refine lv_iconst hx hb dX1_init_10 (v := nI 0) (by decide) ?_
  refine va_put (D := D) (ci := 1) (v := .int (nI 0)) (ty := .int) (C := RX1) (T := TX1) (N := 11) hx hb hts inlX1 tyX1 tyX1_ok nmX1 hown hK hP hD hS 0 rfl rfl 1 (by decide) (hts _ ld_w31) (fun _ h9 => h9) rfl (by decide +kernel) rfl rfl (Nat.le_of_ble_eq_true rfl) dX1_init_11 (fun H locs hP hD hS => ?_)
  have hP : va_P D ld_cl [(h0, .inr (1, [.int (nI 0), .int (nI 0), .int 0, .int 0, .null, .null, .null, .null, .null, .null, .null]))] H := hP
  have hD : va_D A [(h0, .inr (1, [.int (nI 0), .int (nI 0), .int 0, .int 0, .null, .null, .null, .null, .null, .null, .null]))] := hD
  refine lv_aload_n hx hb dX1_init_14 rfl (lv_at hl 0 rfl) ?_
  refine lv_iconst hx hb dX1_init_15 (v := nI 0) (by decide) ?_
  refine va_put (D := D) (ci := 1) (v := .int (nI 0)) (ty := .int) (C := RX1) (T := TX1) (N := 11) hx hb hts inlX1 tyX1 tyX1_ok nmX1 hown hK hP hD hS 0 rfl rfl 2 (by decide) (hts _ ld_w32) (fun _ h9 => h9) rfl (by decide +kernel) rfl rfl (Nat.le_of_ble_eq_true rfl) dX1_init_16 (fun H locs hP hD hS => ?_)
  have hP : va_P D ld_cl [(h0, .inr (1, [.int (nI 0), .int (nI 0), .int (nI 0), .int 0, .null, .null, .null, .null, .null, .null, .null]))] H := hP
  have hD : va_D A [(h0, .inr (1, [.int (nI 0), .int (nI 0), .int (nI 0), .int 0, .null, .null, .null, .null, .null, .null, .null]))] := hD
  refine lv_aload_n hx hb dX1_init_19 rfl (lv_at hl 0 rfl) ?_
  refine lv_iconst hx hb dX1_init_20 (v := nI 0) (by decide) ?_
  refine va_put (D := D) (ci := 1) (v := .int (nI 0)) (ty := .int) (C := RX1) (T := TX1) (N := 11) hx hb hts inlX1 tyX1 tyX1_ok nmX1 hown hK hP hD hS 0 rfl rfl 3 (by decide) (hts _ ld_w33) (fun _ h9 => h9) rfl (by decide +kernel) rfl rfl (Nat.le_of_ble_eq_true rfl) dX1_init_21 (fun H locs hP hD hS => ?_)
  have hP : va_P D ld_cl [(h0, .inr (1, [.int (nI 0), .int (nI 0), .int (nI 0), .int (nI 0), .null, .null, .null, .null, .null, .null, .null]))] H := hP
  have hD : va_D A [(h0, .inr (1, [.int (nI 0), .int (nI 0), .int (nI 0), .int (nI 0), .null, .null, .null, .null, .null, .null, .null]))] := hD
  refine lv_aload_n hx hb dX1_init_24 rfl (lv_at hl 0 rfl) ?_
  refine lv_bipush hx hb dX1_init_25 (v := nI 8) (by decide) ?_
  refine va_newa (atype := .int) (a0 := (8, .inl (fun _ => nI 0))) (N' := 8) hx hb (hts _ ld_w19) rfl hK hP hD hS hA (fun _ => rfl) (by decide) (by decide) (by decide) (Nat.le_of_ble_eq_true rfl) (Nat.le_of_ble_eq_true rfl) dX1_init_27 (fun q27 cA H hK2 hP hD hS => ?_)
  have ecA_ : cI = cA := (ld_cI hK hK2).symm
  subst ecA_
  have hP : va_P D ld_cl [(h0, .inr (1, [.int (nI 0), .int (nI 0), .int (nI 0), .int (nI 0), .null, .null, .null, .null, .null, .null, .null])), (q27, .inl (cI, 8, .inl (fun _ => nI 0)))] H := hP
  have hD : va_D A [(h0, .inr (1, [.int (nI 0), .int (nI 0), .int (nI 0), .int (nI 0), .null, .null, .null, .null, .null, .null, .null])), (q27, .inl (cI, 8, .inl (fun _ => nI 0)))] := hD
  refine va_putF (D := D) (ci := 1) (v := .ref q27) (ty := .array .int) (C := RX1) (T := TX1) (N := 11) hx hb hts inlX1 tyX1 tyX1_ok nmX1 hown hK hP hD hS 0 rfl rfl 4 (by decide) (hts _ ld_w34) (fun _ h9 => h9) rfl hin rfl (by decide +kernel) rfl rfl (Nat.le_of_ble_eq_true rfl) dX1_init_29 (fun H locs hP hD hS => ?_)
  have hP : va_P D ld_cl [(h0, .inr (1, [.int (nI 0), .int (nI 0), .int (nI 0), .int (nI 0), .ref q27, .null, .null, .null, .null, .null, .null])), (q27, .inl (cI, 8, .inl (fun _ => nI 0)))] H := hP
  have hD : va_D A [(h0, .inr (1, [.int (nI 0), .int (nI 0), .int (nI 0), .int (nI 0), .ref q27, .null, .null, .null, .null, .null, .null])), (q27, .inl (cI, 8, .inl (fun _ => nI 0)))] := hD
  refine lv_aload_n hx hb dX1_init_32 rfl (lv_at hl 0 rfl) ?_
  refine lv_bipush hx hb dX1_init_33 (v := nI 8) (by decide) ?_
  refine va_newa (atype := .int) (a0 := (8, .inl (fun _ => nI 0))) (N' := 8) hx hb (hts _ ld_w19) rfl hK hP hD hS hA (fun _ => rfl) (by decide) (by decide) (by decide) (Nat.le_of_ble_eq_true rfl) (Nat.le_of_ble_eq_true rfl) dX1_init_35 (fun q35 cA H hK2 hP hD hS => ?_)
  have ecA_ : cI = cA := (ld_cI hK hK2).symm
  subst ecA_
  have hP : va_P D ld_cl [(h0, .inr (1, [.int (nI 0), .int (nI 0), .int (nI 0), .int (nI 0), .ref q27, .null, .null, .null, .null, .null, .null])), (q27, .inl (cI, 8, .inl (fun _ => nI 0))), (q35, .inl (cI, 8, .inl (fun _ => nI 0)))] H := hP
  have hD : va_D A [(h0, .inr (1, [.int (nI 0), .int (nI 0), .int (nI 0), .int (nI 0), .ref q27, .null, .null, .null, .null, .null, .null])), (q27, .inl (cI, 8, .inl (fun _ => nI 0))), (q35, .inl (cI, 8, .inl (fun _ => nI 0)))] := hD
  refine va_putF (D := D) (ci := 1) (v := .ref q35) (ty := .array .int) (C := RX1) (T := TX1) (N := 11) hx hb hts inlX1 tyX1 tyX1_ok nmX1 hown hK hP hD hS 0 rfl rfl 5 (by decide) (hts _ ld_w35) (fun _ h9 => h9) rfl hin rfl (by decide +kernel) rfl rfl (Nat.le_of_ble_eq_true rfl) dX1_init_37 (fun H locs hP hD hS => ?_)
  have hP : va_P D ld_cl [(h0, .inr (1, [.int (nI 0), .int (nI 0), .int (nI 0), .int (nI 0), .ref q27, .ref q35, .null, .null, .null, .null, .null])), (q27, .inl (cI, 8, .inl (fun _ => nI 0))), (q35, .inl (cI, 8, .inl (fun _ => nI 0)))] H := hP
  have hD : va_D A [(h0, .inr (1, [.int (nI 0), .int (nI 0), .int (nI 0), .int (nI 0), .ref q27, .ref q35, .null, .null, .null, .null, .null])), (q27, .inl (cI, 8, .inl (fun _ => nI 0))), (q35, .inl (cI, 8, .inl (fun _ => nI 0)))] := hD
  refine lv_aload_n hx hb dX1_init_40 rfl (lv_at hl 0 rfl) ?_
  refine lv_bipush hx hb dX1_init_41 (v := nI 8) (by decide) ?_
  refine va_newa (atype := .int) (a0 := (8, .inl (fun _ => nI 0))) (N' := 8) hx hb (hts _ ld_w19) rfl hK hP hD hS hA (fun _ => rfl) (by decide) (by decide) (by decide) (Nat.le_of_ble_eq_true rfl) (Nat.le_of_ble_eq_true rfl) dX1_init_43 (fun q43 cA H hK2 hP hD hS => ?_)
  have ecA_ : cI = cA := (ld_cI hK hK2).symm
  subst ecA_
  have hP : va_P D ld_cl [(h0, .inr (1, [.int (nI 0), .int (nI 0), .int (nI 0), .int (nI 0), .ref q27, .ref q35, .null, .null, .null, .null, .null])), (q27, .inl (cI, 8, .inl (fun _ => nI 0))), (q35, .inl (cI, 8, .inl (fun _ => nI 0))), (q43, .inl (cI, 8, .inl (fun _ => nI 0)))] H := hP
  have hD : va_D A [(h0, .inr (1, [.int (nI 0), .int (nI 0), .int (nI 0), .int (nI 0), .ref q27, .ref q35, .null, .null, .null, .null, .null])), (q27, .inl (cI, 8, .inl (fun _ => nI 0))), (q35, .inl (cI, 8, .inl (fun _ => nI 0))), (q43, .inl (cI, 8, .inl (fun _ => nI 0)))] := hD
  refine va_putF (D := D) (ci := 1) (v := .ref q43) (ty := .array .int) (C := RX1) (T := TX1) (N := 11) hx hb hts inlX1 tyX1 tyX1_ok nmX1 hown hK hP hD hS 0 rfl rfl 6 (by decide) (hts _ ld_w36) (fun _ h9 => h9) rfl hin rfl (by decide +kernel) rfl rfl (Nat.le_of_ble_eq_true rfl) dX1_init_45 (fun H locs hP hD hS => ?_)
  have hP : va_P D ld_cl [(h0, .inr (1, [.int (nI 0), .int (nI 0), .int (nI 0), .int (nI 0), .ref q27, .ref q35, .ref q43, .null, .null, .null, .null])), (q27, .inl (cI, 8, .inl (fun _ => nI 0))), (q35, .inl (cI, 8, .inl (fun _ => nI 0))), (q43, .inl (cI, 8, .inl (fun _ => nI 0)))] H := hP
  have hD : va_D A [(h0, .inr (1, [.int (nI 0), .int (nI 0), .int (nI 0), .int (nI 0), .ref q27, .ref q35, .ref q43, .null, .null, .null, .null])), (q27, .inl (cI, 8, .inl (fun _ => nI 0))), (q35, .inl (cI, 8, .inl (fun _ => nI 0))), (q43, .inl (cI, 8, .inl (fun _ => nI 0)))] := hD
  refine lv_aload_n hx hb dX1_init_48 rfl (lv_at hl 0 rfl) ?_
  refine lv_bipush hx hb dX1_init_49 (v := nI 8) (by decide) ?_
  refine va_newa (atype := .int) (a0 := (8, .inl (fun _ => nI 0))) (N' := 8) hx hb (hts _ ld_w19) rfl hK hP hD hS hA (fun _ => rfl) (by decide) (by decide) (by decide) (Nat.le_of_ble_eq_true rfl) (Nat.le_of_ble_eq_true rfl) dX1_init_51 (fun q51 cA H hK2 hP hD hS => ?_)
  have ecA_ : cI = cA := (ld_cI hK hK2).symm
  subst ecA_
  have hP : va_P D ld_cl [(h0, .inr (1, [.int (nI 0), .int (nI 0), .int (nI 0), .int (nI 0), .ref q27, .ref q35, .ref q43, .null, .null, .null, .null])), (q27, .inl (cI, 8, .inl (fun _ => nI 0))), (q35, .inl (cI, 8, .inl (fun _ => nI 0))), (q43, .inl (cI, 8, .inl (fun _ => nI 0))), (q51, .inl (cI, 8, .inl (fun _ => nI 0)))] H := hP
  have hD : va_D A [(h0, .inr (1, [.int (nI 0), .int (nI 0), .int (nI 0), .int (nI 0), .ref q27, .ref q35, .ref q43, .null, .null, .null, .null])), (q27, .inl (cI, 8, .inl (fun _ => nI 0))), (q35, .inl (cI, 8, .inl (fun _ => nI 0))), (q43, .inl (cI, 8, .inl (fun _ => nI 0))), (q51, .inl (cI, 8, .inl (fun _ => nI 0)))] := hD
  refine va_putF (D := D) (ci := 1) (v := .ref q51) (ty := .array .int) (C := RX1) (T := TX1) (N := 11) hx hb hts inlX1 tyX1 tyX1_ok nmX1 hown hK hP hD hS 0 rfl rfl 7 (by decide) (hts _ ld_w37) (fun _ h9 => h9) rfl hin rfl (by decide +kernel) rfl rfl (Nat.le_of_ble_eq_true rfl) dX1_init_53 (fun H locs hP hD hS => ?_)
  have hP : va_P D ld_cl [(h0, .inr (1, [.int (nI 0), .int (nI 0), .int (nI 0), .int (nI 0), .ref q27, .ref q35, .ref q43, .ref q51, .null, .null, .null])), (q27, .inl (cI, 8, .inl (fun _ => nI 0))), (q35, .inl (cI, 8, .inl (fun _ => nI 0))), (q43, .inl (cI, 8, .inl (fun _ => nI 0))), (q51, .inl (cI, 8, .inl (fun _ => nI 0)))] H := hP
  have hD : va_D A [(h0, .inr (1, [.int (nI 0), .int (nI 0), .int (nI 0), .int (nI 0), .ref q27, .ref q35, .ref q43, .ref q51, .null, .null, .null])), (q27, .inl (cI, 8, .inl (fun _ => nI 0))), (q35, .inl (cI, 8, .inl (fun _ => nI 0))), (q43, .inl (cI, 8, .inl (fun _ => nI 0))), (q51, .inl (cI, 8, .inl (fun _ => nI 0)))] := hD
  refine lv_aload_n hx hb dX1_init_56 rfl (lv_at hl 0 rfl) ?_
  refine lv_bipush hx hb dX1_init_57 (v := nI 8) (by decide) ?_
  refine va_newa (atype := .int) (a0 := (8, .inl (fun _ => nI 0))) (N' := 8) hx hb (hts _ ld_w19) rfl hK hP hD hS hA (fun _ => rfl) (by decide) (by decide) (by decide) (Nat.le_of_ble_eq_true rfl) (Nat.le_of_ble_eq_true rfl) dX1_init_59 (fun q59 cA H hK2 hP hD hS => ?_)
  have ecA_ : cI = cA := (ld_cI hK hK2).symm
  subst ecA_
  have hP : va_P D ld_cl [(h0, .inr (1, [.int (nI 0), .int (nI 0), .int (nI 0), .int (nI 0), .ref q27, .ref q35, .ref q43, .ref q51, .null, .null, .null])), (q27, .inl (cI, 8, .inl (fun _ => nI 0))), (q35, .inl (cI, 8, .inl (fun _ => nI 0))), (q43, .inl (cI, 8, .inl (fun _ => nI 0))), (q51, .inl (cI, 8, .inl (fun _ => nI 0))), (q59, .inl (cI, 8, .inl (fun _ => nI 0)))] H := hP
  have hD : va_D A [(h0, .inr (1, [.int (nI 0), .int (nI 0), .int (nI 0), .int (nI 0), .ref q27, .ref q35, .ref q43, .ref q51, .null, .null, .null])), (q27, .inl (cI, 8, .inl (fun _ => nI 0))), (q35, .inl (cI, 8, .inl (fun _ => nI 0))), (q43, .inl (cI, 8, .inl (fun _ => nI 0))), (q51, .inl (cI, 8, .inl (fun _ => nI 0))), (q59, .inl (cI, 8, .inl (fun _ => nI 0)))] := hD
  refine va_putF (D := D) (ci := 1) (v := .ref q59) (ty := .array .int) (C := RX1) (T := TX1) (N := 11) hx hb hts inlX1 tyX1 tyX1_ok nmX1 hown hK hP hD hS 0 rfl rfl 8 (by decide) (hts _ ld_w38) (fun _ h9 => h9) rfl hin rfl (by decide +kernel) rfl rfl (Nat.le_of_ble_eq_true rfl) dX1_init_61 (fun H locs hP hD hS => ?_)
  have hP : va_P D ld_cl [(h0, .inr (1, [.int (nI 0), .int (nI 0), .int (nI 0), .int (nI 0), .ref q27, .ref q35, .ref q43, .ref q51, .ref q59, .null, .null])), (q27, .inl (cI, 8, .inl (fun _ => nI 0))), (q35, .inl (cI, 8, .inl (fun _ => nI 0))), (q43, .inl (cI, 8, .inl (fun _ => nI 0))), (q51, .inl (cI, 8, .inl (fun _ => nI 0))), (q59, .inl (cI, 8, .inl (fun _ => nI 0)))] H := hP
  have hD : va_D A [(h0, .inr (1, [.int (nI 0), .int (nI 0), .int (nI 0), .int (nI 0), .ref q27, .ref q35, .ref q43, .ref q51, .ref q59, .null, .null])), (q27, .inl (cI, 8, .inl (fun _ => nI 0))), (q35, .inl (cI, 8, .inl (fun _ => nI 0))), (q43, .inl (cI, 8, .inl (fun _ => nI 0))), (q51, .inl (cI, 8, .inl (fun _ => nI 0))), (q59, .inl (cI, 8, .inl (fun _ => nI 0)))] := hD
  refine lv_aload_n hx hb dX1_init_64 rfl (lv_at hl 0 rfl) ?_
  refine lv_bipush hx hb dX1_init_65 (v := nI 8) (by decide) ?_
  refine va_newa (atype := .int) (a0 := (8, .inl (fun _ => nI 0))) (N' := 8) hx hb (hts _ ld_w19) rfl hK hP hD hS hA (fun _ => rfl) (by decide) (by decide) (by decide) (Nat.le_of_ble_eq_true rfl) (Nat.le_of_ble_eq_true rfl) dX1_init_67 (fun q67 cA H hK2 hP hD hS => ?_)
  have ecA_ : cI = cA := (ld_cI hK hK2).symm
  subst ecA_
  have hP : va_P D ld_cl [(h0, .inr (1, [.int (nI 0), .int (nI 0), .int (nI 0), .int (nI 0), .ref q27, .ref q35, .ref q43, .ref q51, .ref q59, .null, .null])), (q27, .inl (cI, 8, .inl (fun _ => nI 0))), (q35, .inl (cI, 8, .inl (fun _ => nI 0))), (q43, .inl (cI, 8, .inl (fun _ => nI 0))), (q51, .inl (cI, 8, .inl (fun _ => nI 0))), (q59, .inl (cI, 8, .inl (fun _ => nI 0))), (q67, .inl (cI, 8, .inl (fun _ => nI 0)))] H := hP
  have hD : va_D A [(h0, .inr (1, [.int (nI 0), .int (nI 0), .int (nI 0), .int (nI 0), .ref q27, .ref q35, .ref q43, .ref q51, .ref q59, .null, .null])), (q27, .inl (cI, 8, .inl (fun _ => nI 0))), (q35, .inl (cI, 8, .inl (fun _ => nI 0))), (q43, .inl (cI, 8, .inl (fun _ => nI 0))), (q51, .inl (cI, 8, .inl (fun _ => nI 0))), (q59, .inl (cI, 8, .inl (fun _ => nI 0))), (q67, .inl (cI, 8, .inl (fun _ => nI 0)))] := hD
  refine va_putF (D := D) (ci := 1) (v := .ref q67) (ty := .array .int) (C := RX1) (T := TX1) (N := 11) hx hb hts inlX1 tyX1 tyX1_ok nmX1 hown hK hP hD hS 0 rfl rfl 9 (by decide) (hts _ ld_w39) (fun _ h9 => h9) rfl hin rfl (by decide +kernel) rfl rfl (Nat.le_of_ble_eq_true rfl) dX1_init_69 (fun H locs hP hD hS => ?_)
  have hP : va_P D ld_cl [(h0, .inr (1, [.int (nI 0), .int (nI 0), .int (nI 0), .int (nI 0), .ref q27, .ref q35, .ref q43, .ref q51, .ref q59, .ref q67, .null])), (q27, .inl (cI, 8, .inl (fun _ => nI 0))), (q35, .inl (cI, 8, .inl (fun _ => nI 0))), (q43, .inl (cI, 8, .inl (fun _ => nI 0))), (q51, .inl (cI, 8, .inl (fun _ => nI 0))), (q59, .inl (cI, 8, .inl (fun _ => nI 0))), (q67, .inl (cI, 8, .inl (fun _ => nI 0)))] H := hP
  have hD : va_D A [(h0, .inr (1, [.int (nI 0), .int (nI 0), .int (nI 0), .int (nI 0), .ref q27, .ref q35, .ref q43, .ref q51, .ref q59, .ref q67, .null])), (q27, .inl (cI, 8, .inl (fun _ => nI 0))), (q35, .inl (cI, 8, .inl (fun _ => nI 0))), (q43, .inl (cI, 8, .inl (fun _ => nI 0))), (q51, .inl (cI, 8, .inl (fun _ => nI 0))), (q59, .inl (cI, 8, .inl (fun _ => nI 0))), (q67, .inl (cI, 8, .inl (fun _ => nI 0)))] := hD
  refine lv_aload_n hx hb dX1_init_72 rfl (lv_at hl 0 rfl) ?_
  refine lv_bipush hx hb dX1_init_73 (v := nI 8) (by decide) ?_
  refine va_newa (atype := .int) (a0 := (8, .inl (fun _ => nI 0))) (N' := 8) hx hb (hts _ ld_w19) rfl hK hP hD hS hA (fun _ => rfl) (by decide) (by decide) (by decide) (Nat.le_of_ble_eq_true rfl) (Nat.le_of_ble_eq_true rfl) dX1_init_75 (fun q75 cA H hK2 hP hD hS => ?_)
  have ecA_ : cI = cA := (ld_cI hK hK2).symm
  subst ecA_
  have hP : va_P D ld_cl [(h0, .inr (1, [.int (nI 0), .int (nI 0), .int (nI 0), .int (nI 0), .ref q27, .ref q35, .ref q43, .ref q51, .ref q59, .ref q67, .null])), (q27, .inl (cI, 8, .inl (fun _ => nI 0))), (q35, .inl (cI, 8, .inl (fun _ => nI 0))), (q43, .inl (cI, 8, .inl (fun _ => nI 0))), (q51, .inl (cI, 8, .inl (fun _ => nI 0))), (q59, .inl (cI, 8, .inl (fun _ => nI 0))), (q67, .inl (cI, 8, .inl (fun _ => nI 0))), (q75, .inl (cI, 8, .inl (fun _ => nI 0)))] H := hP
  have hD : va_D A [(h0, .inr (1, [.int (nI 0), .int (nI 0), .int (nI 0), .int (nI 0), .ref q27, .ref q35, .ref q43, .ref q51, .ref q59, .ref q67, .null])), (q27, .inl (cI, 8, .inl (fun _ => nI 0))), (q35, .inl (cI, 8, .inl (fun _ => nI 0))), (q43, .inl (cI, 8, .inl (fun _ => nI 0))), (q51, .inl (cI, 8, .inl (fun _ => nI 0))), (q59, .inl (cI, 8, .inl (fun _ => nI 0))), (q67, .inl (cI, 8, .inl (fun _ => nI 0))), (q75, .inl (cI, 8, .inl (fun _ => nI 0)))] := hD
  refine va_putF (D := D) (ci := 1) (v := .ref q75) (ty := .array .int) (C := RX1) (T := TX1) (N := 11) hx hb hts inlX1 tyX1 tyX1_ok nmX1 hown hK hP hD hS 0 rfl rfl 10 (by decide) (hts _ ld_w40) (fun _ h9 => h9) rfl hin rfl (by decide +kernel) rfl rfl (Nat.le_of_ble_eq_true rfl) dX1_init_77 (fun H locs hP hD hS => ?_)
  have hP : va_P D ld_cl [(h0, .inr (1, [.int (nI 0), .int (nI 0), .int (nI 0), .int (nI 0), .ref q27, .ref q35, .ref q43, .ref q51, .ref q59, .ref q67, .ref q75])), (q27, .inl (cI, 8, .inl (fun _ => nI 0))), (q35, .inl (cI, 8, .inl (fun _ => nI 0))), (q43, .inl (cI, 8, .inl (fun _ => nI 0))), (q51, .inl (cI, 8, .inl (fun _ => nI 0))), (q59, .inl (cI, 8, .inl (fun _ => nI 0))), (q67, .inl (cI, 8, .inl (fun _ => nI 0))), (q75, .inl (cI, 8, .inl (fun _ => nI 0)))] H := hP
  have hD : va_D A [(h0, .inr (1, [.int (nI 0), .int (nI 0), .int (nI 0), .int (nI 0), .ref q27, .ref q35, .ref q43, .ref q51, .ref q59, .ref q67, .ref q75])), (q27, .inl (cI, 8, .inl (fun _ => nI 0))), (q35, .inl (cI, 8, .inl (fun _ => nI 0))), (q43, .inl (cI, 8, .inl (fun _ => nI 0))), (q51, .inl (cI, 8, .inl (fun _ => nI 0))), (q59, .inl (cI, 8, .inl (fun _ => nI 0))), (q67, .inl (cI, 8, .inl (fun _ => nI 0))), (q75, .inl (cI, 8, .inl (fun _ => nI 0)))] := hD
  refine W.widen (k := 7) (n := 56) (by omega) (by omega) ?_
  exact W.vret hx hb hr (fun t ht hW => ⟨⟨(), rfl, trivial, ⟨q27, q35, q43, q51, q59, q67, q75, by rw [ht]; exact hP, hD⟩⟩, hS.F ht⟩) hS.2.2 dX1_init_80
