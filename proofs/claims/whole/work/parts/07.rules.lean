theorem ld_wS_max : Cond.static Lib.Math.max.name ∈ wsL_law := ld_w269
theorem ld_wC_max : Cond.code Lib.Math.max.name Lib.Math.max.code 2 (some .int) ∈ wsL_law := ld_w270
theorem ld_wS_min : Cond.static Lib.Math.min.name ∈ wsL_law := ld_w109
theorem ld_wC_min : Cond.code Lib.Math.min.name Lib.Math.min.code 2 (some .int) ∈ wsL_law := ld_w111
theorem ld_wS_abs : Cond.static Lib.Math.abs.name ∈ wsL_law := ld_w427
theorem ld_wC_abs : Cond.code Lib.Math.abs.name Lib.Math.abs.code 1 (some .int) ∈ wsL_law := ld_w428
theorem ld_wI_math : Cond.initialized "java/lang/Math" ∈ wsL_law := ld_w110
section RUL
variable {l : Launch} {K : ld_St → List (Nat × Value) → List Value → Nat → Prop} {ad : Nat → Nat} {cc : ByteArray} {nL : Nat} {own : String} {R : Room}
variable {σ : ld_St} {lv : List (Nat × Value)} {st : List Value} {pc : Nat}
theorem ld_iconst (O : ld_Ok l K ad cc nL own R) {n : Int} {v : Int32} (hd : decode cc pc = .ok (.iconst n, 1)) (hv : Int32.ofInt n = v) (k : K σ lv (.int v :: st) (pc + 1)) : K σ lv (st) pc := by
  obtain ⟨X, p, e, s, m, args, below, meth, c, cells, slots, A, Q, hx, hb, hml, hown, hts, hinj, hK, hN, hA1, hA2, hR, rfl⟩ := O
  intro H locs ls hP hS hl
  exact lv_iconst hx hb hd hv (k H locs ls hP hS hl)
theorem ld_bipush (O : ld_Ok l K ad cc nL own R) {n : Int} {v : Int32} (hd : decode cc pc = .ok (.bipush n, 2)) (hv : (Int8.ofInt n).toInt32 = v) (k : K σ lv (.int v :: st) (pc + 2)) : K σ lv (st) pc := by
  obtain ⟨X, p, e, s, m, args, below, meth, c, cells, slots, A, Q, hx, hb, hml, hown, hts, hinj, hK, hN, hA1, hA2, hR, rfl⟩ := O
  intro H locs ls hP hS hl
  exact lv_bipush hx hb hd hv (k H locs ls hP hS hl)
theorem ld_sipush (O : ld_Ok l K ad cc nL own R) {n : Int} {v : Int32} (hd : decode cc pc = .ok (.sipush n, 3)) (hv : (Int16.ofInt n).toInt32 = v) (k : K σ lv (.int v :: st) (pc + 3)) : K σ lv (st) pc := by
  obtain ⟨X, p, e, s, m, args, below, meth, c, cells, slots, A, Q, hx, hb, hml, hown, hts, hinj, hK, hN, hA1, hA2, hR, rfl⟩ := O
  intro H locs ls hP hS hl
  exact lv_sipush hx hb hd hv (k H locs ls hP hS hl)
theorem ld_lconst (O : ld_Ok l K ad cc nL own R) {n : Fin 2} {v : Int64} (hd : decode cc pc = .ok (.lconst n, 1)) (hv : Int64.ofNat (n : Nat) = v) (k : K σ lv (.long v :: st) (pc + 1)) : K σ lv (st) pc := by
  obtain ⟨X, p, e, s, m, args, below, meth, c, cells, slots, A, Q, hx, hb, hml, hown, hts, hinj, hK, hN, hA1, hA2, hR, rfl⟩ := O
  intro H locs ls hP hS hl
  exact lv_lconst hx hb hd hv (k H locs ls hP hS hl)
theorem ld_ldc2 (O : ld_Ok l K ad cc nL own R) {ix : Nat} {v : Int64} (hd : decode cc pc = .ok (.ldc2_w ix, 3)) (hw : Cond.constantLong own ix v ∈ wsL_law) (k : K σ lv (.long v :: st) (pc + 3)) : K σ lv (st) pc := by
  obtain ⟨X, p, e, s, m, args, below, meth, c, cells, slots, A, Q, hx, hb, hml, hown, hts, hinj, hK, hN, hA1, hA2, hR, rfl⟩ := O
  intro H locs ls hP hS hl
  exact lv_ldc2 hx hb hown (hts _ hw) hd (k H locs ls hP hS hl)
theorem ld_iload_n (O : ld_Ok l K ad cc nL own R) (q : Nat) {n : Fin 4} {i : Nat} {x : Int32} (hd : decode cc pc = .ok (.iload_n n, 1)) (hi : (n : Nat) = i) (hq : lv[q]? = some (i, .int x)) (k : K σ lv (.int x :: st) (pc + 1)) : K σ lv (st) pc := by
  obtain ⟨X, p, e, s, m, args, below, meth, c, cells, slots, A, Q, hx, hb, hml, hown, hts, hinj, hK, hN, hA1, hA2, hR, rfl⟩ := O
  intro H locs ls hP hS hl
  exact lv_iload_n hx hb hd hi (lv_at hl q hq) (k H locs ls hP hS hl)
theorem ld_iload (O : ld_Ok l K ad cc nL own R) (q : Nat) {i : Nat} {x : Int32} (hd : decode cc pc = .ok (.iload i, 2)) (hq : lv[q]? = some (i, .int x)) (k : K σ lv (.int x :: st) (pc + 2)) : K σ lv (st) pc := by
  obtain ⟨X, p, e, s, m, args, below, meth, c, cells, slots, A, Q, hx, hb, hml, hown, hts, hinj, hK, hN, hA1, hA2, hR, rfl⟩ := O
  intro H locs ls hP hS hl
  exact lv_iload hx hb hd (lv_at hl q hq) (k H locs ls hP hS hl)
theorem ld_lload_n (O : ld_Ok l K ad cc nL own R) (q : Nat) {n : Fin 4} {i : Nat} {x : Int64} (hd : decode cc pc = .ok (.lload_n n, 1)) (hi : (n : Nat) = i) (hq : lv[q]? = some (i, .long x)) (k : K σ lv (.long x :: st) (pc + 1)) : K σ lv (st) pc := by
  obtain ⟨X, p, e, s, m, args, below, meth, c, cells, slots, A, Q, hx, hb, hml, hown, hts, hinj, hK, hN, hA1, hA2, hR, rfl⟩ := O
  intro H locs ls hP hS hl
  exact lv_lload_n hx hb hd hi (lv_at hl q hq) (k H locs ls hP hS hl)
theorem ld_lload (O : ld_Ok l K ad cc nL own R) (q : Nat) {i : Nat} {x : Int64} (hd : decode cc pc = .ok (.lload i, 2)) (hq : lv[q]? = some (i, .long x)) (k : K σ lv (.long x :: st) (pc + 2)) : K σ lv (st) pc := by
  obtain ⟨X, p, e, s, m, args, below, meth, c, cells, slots, A, Q, hx, hb, hml, hown, hts, hinj, hK, hN, hA1, hA2, hR, rfl⟩ := O
  intro H locs ls hP hS hl
  exact lv_lload hx hb hd (lv_at hl q hq) (k H locs ls hP hS hl)
theorem ld_aload_n (O : ld_Ok l K ad cc nL own R) (q : Nat) {n : Fin 4} {i : Nat} {x : Nat} (hd : decode cc pc = .ok (.aload_n n, 1)) (hi : (n : Nat) = i) (hq : lv[q]? = some (i, .ref x)) (k : K σ lv (.ref x :: st) (pc + 1)) : K σ lv (st) pc := by
  obtain ⟨X, p, e, s, m, args, below, meth, c, cells, slots, A, Q, hx, hb, hml, hown, hts, hinj, hK, hN, hA1, hA2, hR, rfl⟩ := O
  intro H locs ls hP hS hl
  exact lv_aload_n hx hb hd hi (lv_at hl q hq) (k H locs ls hP hS hl)
theorem ld_aload (O : ld_Ok l K ad cc nL own R) (q : Nat) {i : Nat} {x : Nat} (hd : decode cc pc = .ok (.aload i, 2)) (hq : lv[q]? = some (i, .ref x)) (k : K σ lv (.ref x :: st) (pc + 2)) : K σ lv (st) pc := by
  obtain ⟨X, p, e, s, m, args, below, meth, c, cells, slots, A, Q, hx, hb, hml, hown, hts, hinj, hK, hN, hA1, hA2, hR, rfl⟩ := O
  intro H locs ls hP hS hl
  exact lv_aload hx hb hd (lv_at hl q hq) (k H locs ls hP hS hl)
theorem ld_istore_n (O : ld_Ok l K ad cc nL own R) (lv2 : List (Nat × Value)) {n : Fin 4} {i : Nat} {x : Int32} (hd : decode cc pc = .ok (.istore_n n, 1)) (hi : (n : Nat) = i) (hn : i < nL) (hf : (i, Value.int x) :: lv.filter (fun q => !(q.1 == i) && !(q.1 + 1 == i && q.2.category == 2)) = lv2) (k : K σ lv2 st (pc + 1)) : K σ lv (.int x :: st) pc := by
  obtain ⟨X, p, e, s, m, args, below, meth, c, cells, slots, A, Q, hx, hb, hml, hown, hts, hinj, hK, hN, hA1, hA2, hR, rfl⟩ := O
  intro H locs ls hP hS hl
  exact lv_istore_n hx hb hd hi hl hn hf (fun ls hl => k H locs ls hP hS hl)
theorem ld_istore (O : ld_Ok l K ad cc nL own R) (lv2 : List (Nat × Value)) {i : Nat} {x : Int32} (hd : decode cc pc = .ok (.istore i, 2)) (hn : i < nL) (hf : (i, Value.int x) :: lv.filter (fun q => !(q.1 == i) && !(q.1 + 1 == i && q.2.category == 2)) = lv2) (k : K σ lv2 st (pc + 2)) : K σ lv (.int x :: st) pc := by
  obtain ⟨X, p, e, s, m, args, below, meth, c, cells, slots, A, Q, hx, hb, hml, hown, hts, hinj, hK, hN, hA1, hA2, hR, rfl⟩ := O
  intro H locs ls hP hS hl
  exact lv_istore hx hb hd hl hn hf (fun ls hl => k H locs ls hP hS hl)
theorem ld_lstore_n (O : ld_Ok l K ad cc nL own R) (lv2 : List (Nat × Value)) {n : Fin 4} {i : Nat} {x : Int64} (hd : decode cc pc = .ok (.lstore_n n, 1)) (hi : (n : Nat) = i) (hn : i + 1 < nL) (hf : (i, Value.long x) :: lv.filter (fun q => !(q.1 == i) && (!(q.1 == i + 1) && !(q.1 + 1 == i && q.2.category == 2))) = lv2) (k : K σ lv2 st (pc + 1)) : K σ lv (.long x :: st) pc := by
  obtain ⟨X, p, e, s, m, args, below, meth, c, cells, slots, A, Q, hx, hb, hml, hown, hts, hinj, hK, hN, hA1, hA2, hR, rfl⟩ := O
  intro H locs ls hP hS hl
  exact lv_lstore_n hx hb hd hi hl hn hf (fun ls hl => k H locs ls hP hS hl)
theorem ld_lstore (O : ld_Ok l K ad cc nL own R) (lv2 : List (Nat × Value)) {i : Nat} {x : Int64} (hd : decode cc pc = .ok (.lstore i, 2)) (hn : i + 1 < nL) (hf : (i, Value.long x) :: lv.filter (fun q => !(q.1 == i) && (!(q.1 == i + 1) && !(q.1 + 1 == i && q.2.category == 2))) = lv2) (k : K σ lv2 st (pc + 2)) : K σ lv (.long x :: st) pc := by
  obtain ⟨X, p, e, s, m, args, below, meth, c, cells, slots, A, Q, hx, hb, hml, hown, hts, hinj, hK, hN, hA1, hA2, hR, rfl⟩ := O
  intro H locs ls hP hS hl
  exact lv_lstore hx hb hd hl hn hf (fun ls hl => k H locs ls hP hS hl)
theorem ld_astore_n (O : ld_Ok l K ad cc nL own R) (lv2 : List (Nat × Value)) {n : Fin 4} {i : Nat} {x : Nat} (hd : decode cc pc = .ok (.astore_n n, 1)) (hi : (n : Nat) = i) (hn : i < nL) (hf : (i, Value.ref x) :: lv.filter (fun q => !(q.1 == i) && !(q.1 + 1 == i && q.2.category == 2)) = lv2) (k : K σ lv2 st (pc + 1)) : K σ lv (.ref x :: st) pc := by
  obtain ⟨X, p, e, s, m, args, below, meth, c, cells, slots, A, Q, hx, hb, hml, hown, hts, hinj, hK, hN, hA1, hA2, hR, rfl⟩ := O
  intro H locs ls hP hS hl
  exact lv_astore_n hx hb hd hi hl hn hf (fun ls hl => k H locs ls hP hS hl)
theorem ld_astore (O : ld_Ok l K ad cc nL own R) (lv2 : List (Nat × Value)) {i : Nat} {x : Nat} (hd : decode cc pc = .ok (.astore i, 2)) (hn : i < nL) (hf : (i, Value.ref x) :: lv.filter (fun q => !(q.1 == i) && !(q.1 + 1 == i && q.2.category == 2)) = lv2) (k : K σ lv2 st (pc + 2)) : K σ lv (.ref x :: st) pc := by
  obtain ⟨X, p, e, s, m, args, below, meth, c, cells, slots, A, Q, hx, hb, hml, hown, hts, hinj, hK, hN, hA1, hA2, hR, rfl⟩ := O
  intro H locs ls hP hS hl
  exact lv_astore hx hb hd hl hn hf (fun ls hl => k H locs ls hP hS hl)
theorem ld_iinc (O : ld_Ok l K ad cc nL own R) (lv2 : List (Nat × Value)) (q : Nat) {i : Nat} {n : Int} {x v : Int32} (hd : decode cc pc = .ok (.iinc i n, 3)) (hq : lv[q]? = some (i, .int x)) (hv : x + Int32.ofInt n = v) (hn : i < nL) (hf : (i, Value.int v) :: lv.filter (fun q => !(q.1 == i) && !(q.1 + 1 == i && q.2.category == 2)) = lv2) (k : K σ lv2 st (pc + 3)) : K σ lv st pc := by
  obtain ⟨X, p, e, s, m, args, below, meth, c, cells, slots, A, Q, hx, hb, hml, hown, hts, hinj, hK, hN, hA1, hA2, hR, rfl⟩ := O
  intro H locs ls hP hS hl
  exact lv_iinc hx hb hd hl hq hv hn hf (fun ls hl => k H locs ls hP hS hl)
theorem ld_iadd (O : ld_Ok l K ad cc nL own R) {x y : Int32} (hd : decode cc pc = .ok (.iadd, 1)) (k : K σ lv (.int (x + y) :: st) (pc + 1)) : K σ lv (.int y :: .int x :: st) pc := by
  obtain ⟨X, p, e, s, m, args, below, meth, c, cells, slots, A, Q, hx, hb, hml, hown, hts, hinj, hK, hN, hA1, hA2, hR, rfl⟩ := O
  intro H locs ls hP hS hl
  exact lv_iadd hx hb hd (k H locs ls hP hS hl)
theorem ld_isub (O : ld_Ok l K ad cc nL own R) {x y : Int32} (hd : decode cc pc = .ok (.isub, 1)) (k : K σ lv (.int (x - y) :: st) (pc + 1)) : K σ lv (.int y :: .int x :: st) pc := by
  obtain ⟨X, p, e, s, m, args, below, meth, c, cells, slots, A, Q, hx, hb, hml, hown, hts, hinj, hK, hN, hA1, hA2, hR, rfl⟩ := O
  intro H locs ls hP hS hl
  exact lv_isub hx hb hd (k H locs ls hP hS hl)
theorem ld_imul (O : ld_Ok l K ad cc nL own R) {x y : Int32} (hd : decode cc pc = .ok (.imul, 1)) (k : K σ lv (.int (x * y) :: st) (pc + 1)) : K σ lv (.int y :: .int x :: st) pc := by
  obtain ⟨X, p, e, s, m, args, below, meth, c, cells, slots, A, Q, hx, hb, hml, hown, hts, hinj, hK, hN, hA1, hA2, hR, rfl⟩ := O
  intro H locs ls hP hS hl
  exact lv_imul hx hb hd (k H locs ls hP hS hl)
theorem ld_iand (O : ld_Ok l K ad cc nL own R) {x y : Int32} (hd : decode cc pc = .ok (.iand, 1)) (k : K σ lv (.int (x &&& y) :: st) (pc + 1)) : K σ lv (.int y :: .int x :: st) pc := by
  obtain ⟨X, p, e, s, m, args, below, meth, c, cells, slots, A, Q, hx, hb, hml, hown, hts, hinj, hK, hN, hA1, hA2, hR, rfl⟩ := O
  intro H locs ls hP hS hl
  exact lv_iand hx hb hd (k H locs ls hP hS hl)
theorem ld_ior (O : ld_Ok l K ad cc nL own R) {x y : Int32} (hd : decode cc pc = .ok (.ior, 1)) (k : K σ lv (.int (x ||| y) :: st) (pc + 1)) : K σ lv (.int y :: .int x :: st) pc := by
  obtain ⟨X, p, e, s, m, args, below, meth, c, cells, slots, A, Q, hx, hb, hml, hown, hts, hinj, hK, hN, hA1, hA2, hR, rfl⟩ := O
  intro H locs ls hP hS hl
  exact lv_ior hx hb hd (k H locs ls hP hS hl)
theorem ld_idiv (O : ld_Ok l K ad cc nL own R) {x y : Int32} (hd : decode cc pc = .ok (.idiv, 1)) (hne : ¬ y = 0) (k : K σ lv (.int (x / y) :: st) (pc + 1)) : K σ lv (.int y :: .int x :: st) pc := by
  obtain ⟨X, p, e, s, m, args, below, meth, c, cells, slots, A, Q, hx, hb, hml, hown, hts, hinj, hK, hN, hA1, hA2, hR, rfl⟩ := O
  intro H locs ls hP hS hl
  exact lv_idiv hx hb hd hne (k H locs ls hP hS hl)
theorem ld_irem (O : ld_Ok l K ad cc nL own R) {x y : Int32} (hd : decode cc pc = .ok (.irem, 1)) (hne : ¬ y = 0) (k : K σ lv (.int (x - x / y * y) :: st) (pc + 1)) : K σ lv (.int y :: .int x :: st) pc := by
  obtain ⟨X, p, e, s, m, args, below, meth, c, cells, slots, A, Q, hx, hb, hml, hown, hts, hinj, hK, hN, hA1, hA2, hR, rfl⟩ := O
  intro H locs ls hP hS hl
  exact lv_irem hx hb hd hne (k H locs ls hP hS hl)
theorem ld_ishl (O : ld_Ok l K ad cc nL own R) {x y : Int32} (hd : decode cc pc = .ok (.ishl, 1)) (k : K σ lv (.int (x <<< (y &&& 31)) :: st) (pc + 1)) : K σ lv (.int y :: .int x :: st) pc := by
  obtain ⟨X, p, e, s, m, args, below, meth, c, cells, slots, A, Q, hx, hb, hml, hown, hts, hinj, hK, hN, hA1, hA2, hR, rfl⟩ := O
  intro H locs ls hP hS hl
  exact lv_ishl hx hb hd (k H locs ls hP hS hl)
theorem ld_ishr (O : ld_Ok l K ad cc nL own R) {x y : Int32} (hd : decode cc pc = .ok (.ishr, 1)) (k : K σ lv (.int (x >>> (y &&& 31)) :: st) (pc + 1)) : K σ lv (.int y :: .int x :: st) pc := by
  obtain ⟨X, p, e, s, m, args, below, meth, c, cells, slots, A, Q, hx, hb, hml, hown, hts, hinj, hK, hN, hA1, hA2, hR, rfl⟩ := O
  intro H locs ls hP hS hl
  exact lv_ishr hx hb hd (k H locs ls hP hS hl)
theorem ld_ineg (O : ld_Ok l K ad cc nL own R) {x : Int32} (hd : decode cc pc = .ok (.ineg, 1)) (k : K σ lv (.int (-x) :: st) (pc + 1)) : K σ lv (.int x :: st) pc := by
  obtain ⟨X, p, e, s, m, args, below, meth, c, cells, slots, A, Q, hx, hb, hml, hown, hts, hinj, hK, hN, hA1, hA2, hR, rfl⟩ := O
  intro H locs ls hP hS hl
  exact lv_ineg hx hb hd (k H locs ls hP hS hl)
theorem ld_ladd (O : ld_Ok l K ad cc nL own R) {x y : Int64} (hd : decode cc pc = .ok (.ladd, 1)) (k : K σ lv (.long (x + y) :: st) (pc + 1)) : K σ lv (.long y :: .long x :: st) pc := by
  obtain ⟨X, p, e, s, m, args, below, meth, c, cells, slots, A, Q, hx, hb, hml, hown, hts, hinj, hK, hN, hA1, hA2, hR, rfl⟩ := O
  intro H locs ls hP hS hl
  exact lv_ladd hx hb hd (k H locs ls hP hS hl)
theorem ld_lsub (O : ld_Ok l K ad cc nL own R) {x y : Int64} (hd : decode cc pc = .ok (.lsub, 1)) (k : K σ lv (.long (x - y) :: st) (pc + 1)) : K σ lv (.long y :: .long x :: st) pc := by
  obtain ⟨X, p, e, s, m, args, below, meth, c, cells, slots, A, Q, hx, hb, hml, hown, hts, hinj, hK, hN, hA1, hA2, hR, rfl⟩ := O
  intro H locs ls hP hS hl
  exact lv_lsub hx hb hd (k H locs ls hP hS hl)
theorem ld_lmul (O : ld_Ok l K ad cc nL own R) {x y : Int64} (hd : decode cc pc = .ok (.lmul, 1)) (k : K σ lv (.long (x * y) :: st) (pc + 1)) : K σ lv (.long y :: .long x :: st) pc := by
  obtain ⟨X, p, e, s, m, args, below, meth, c, cells, slots, A, Q, hx, hb, hml, hown, hts, hinj, hK, hN, hA1, hA2, hR, rfl⟩ := O
  intro H locs ls hP hS hl
  exact lv_lmul hx hb hd (k H locs ls hP hS hl)
theorem ld_ldiv (O : ld_Ok l K ad cc nL own R) {x y : Int64} (hd : decode cc pc = .ok (.ldiv, 1)) (hne : ¬ y = 0) (k : K σ lv (.long (x / y) :: st) (pc + 1)) : K σ lv (.long y :: .long x :: st) pc := by
  obtain ⟨X, p, e, s, m, args, below, meth, c, cells, slots, A, Q, hx, hb, hml, hown, hts, hinj, hK, hN, hA1, hA2, hR, rfl⟩ := O
  intro H locs ls hP hS hl
  exact lv_ldiv hx hb hd hne (k H locs ls hP hS hl)
theorem ld_lrem (O : ld_Ok l K ad cc nL own R) {x y : Int64} (hd : decode cc pc = .ok (.lrem, 1)) (hne : ¬ y = 0) (k : K σ lv (.long (x - x / y * y) :: st) (pc + 1)) : K σ lv (.long y :: .long x :: st) pc := by
  obtain ⟨X, p, e, s, m, args, below, meth, c, cells, slots, A, Q, hx, hb, hml, hown, hts, hinj, hK, hN, hA1, hA2, hR, rfl⟩ := O
  intro H locs ls hP hS hl
  exact lv_lrem hx hb hd hne (k H locs ls hP hS hl)
theorem ld_i2l (O : ld_Ok l K ad cc nL own R) {x : Int32} (hd : decode cc pc = .ok (.i2l, 1)) (k : K σ lv (.long x.toInt64 :: st) (pc + 1)) : K σ lv (.int x :: st) pc := by
  obtain ⟨X, p, e, s, m, args, below, meth, c, cells, slots, A, Q, hx, hb, hml, hown, hts, hinj, hK, hN, hA1, hA2, hR, rfl⟩ := O
  intro H locs ls hP hS hl
  exact lv_i2l hx hb hd rfl (k H locs ls hP hS hl)
theorem ld_i2b (O : ld_Ok l K ad cc nL own R) {x : Int32} (hd : decode cc pc = .ok (.i2b, 1)) (k : K σ lv (.int x.toInt8.toInt32 :: st) (pc + 1)) : K σ lv (.int x :: st) pc := by
  obtain ⟨X, p, e, s, m, args, below, meth, c, cells, slots, A, Q, hx, hb, hml, hown, hts, hinj, hK, hN, hA1, hA2, hR, rfl⟩ := O
  intro H locs ls hP hS hl
  exact lv_i2b hx hb hd rfl (k H locs ls hP hS hl)
theorem ld_i2s (O : ld_Ok l K ad cc nL own R) {x : Int32} (hd : decode cc pc = .ok (.i2s, 1)) (k : K σ lv (.int x.toInt16.toInt32 :: st) (pc + 1)) : K σ lv (.int x :: st) pc := by
  obtain ⟨X, p, e, s, m, args, below, meth, c, cells, slots, A, Q, hx, hb, hml, hown, hts, hinj, hK, hN, hA1, hA2, hR, rfl⟩ := O
  intro H locs ls hP hS hl
  exact lv_i2s hx hb hd rfl (k H locs ls hP hS hl)
theorem ld_lcmp (O : ld_Ok l K ad cc nL own R) {x y : Int64} (hd : decode cc pc = .ok (.lcmp, 1)) (k : K σ lv (.int (lg_cmp x y) :: st) (pc + 1)) : K σ lv (.long y :: .long x :: st) pc := by
  obtain ⟨X, p, e, s, m, args, below, meth, c, cells, slots, A, Q, hx, hb, hml, hown, hts, hinj, hK, hN, hA1, hA2, hR, rfl⟩ := O
  intro H locs ls hP hS hl
  exact W.lcmp hx hb hd (k H locs ls hP hS hl)
theorem ld_dup (O : ld_Ok l K ad cc nL own R) {a : Value} (hd : decode cc pc = .ok (.dup, 1)) (ha : a.category = 1) (k : K σ lv (a :: a :: st) (pc + 1)) : K σ lv (a :: st) pc := by
  obtain ⟨X, p, e, s, m, args, below, meth, c, cells, slots, A, Q, hx, hb, hml, hown, hts, hinj, hK, hN, hA1, hA2, hR, rfl⟩ := O
  intro H locs ls hP hS hl
  exact lv_dup hx hb hd ha (k H locs ls hP hS hl)
theorem ld_dup2 (O : ld_Ok l K ad cc nL own R) {a b : Value} (hd : decode cc pc = .ok (.dup2, 1)) (ha : a.category = 1) (hb1 : b.category = 1) (k : K σ lv (a :: b :: a :: b :: st) (pc + 1)) : K σ lv (a :: b :: st) pc := by
  obtain ⟨X, p, e, s, m, args, below, meth, c, cells, slots, A, Q, hx, hb, hml, hown, hts, hinj, hK, hN, hA1, hA2, hR, rfl⟩ := O
  intro H locs ls hP hS hl
  exact lv_dup2_11 hx hb hd ha hb1 (k H locs ls hP hS hl)
theorem ld_zi : (0 : Int32).toInt = 0 := by decide
theorem ld_if_eq (O : ld_Ok l K ad cc nL own R) {x : Int32} (X : Int) (hx : x.toInt = X) {off : Int} (tgt : Nat) (hd : decode cc pc = .ok (.ifCond .eq off, 3)) (ht : (pc : Int) + off = (tgt : Int)) (kt : X = 0 → K σ lv st tgt) (kf : ¬ X = 0 → K σ lv st (pc + 3)) : K σ lv (.int x :: st) pc := by
  subst hx
  have hc : (x = (0 : Int32)) ↔ (x.toInt = 0) := by
    have h := (Int32.toInt_inj.symm : (x = (0 : Int32)) ↔ (x.toInt = (0 : Int32).toInt))
    rw [ld_zi] at h
    exact h
  obtain ⟨X, p, e, s, m, args, below, meth, c, cells, slots, A, Q, hxx, hb, hml, hown, hts, hinj, hK, hN, hA1, hA2, hR, rfl⟩ := O
  intro H locs ls hP hS hl
  exact lv_if_eq hxx hb hd ht (fun q => kt (hc.mp q) H locs ls hP hS hl) (fun q => kf (fun z => q (hc.mpr z)) H locs ls hP hS hl)
theorem ld_icmp_eq (O : ld_Ok l K ad cc nL own R) {x y : Int32} (X Y : Int) (hx : x.toInt = X) (hy : y.toInt = Y) {off : Int} (tgt : Nat) (hd : decode cc pc = .ok (.if_icmp .eq off, 3)) (ht : (pc : Int) + off = (tgt : Int)) (kt : X = Y → K σ lv st tgt) (kf : ¬ X = Y → K σ lv st (pc + 3)) : K σ lv (.int y :: .int x :: st) pc := by
  subst hx; subst hy
  have hc : (x = y) ↔ (x.toInt = y.toInt) := Int32.toInt_inj.symm
  obtain ⟨X, p, e, s, m, args, below, meth, c, cells, slots, A, Q, hxx, hb, hml, hown, hts, hinj, hK, hN, hA1, hA2, hR, rfl⟩ := O
  intro H locs ls hP hS hl
  exact lv_icmp_eq hxx hb hd ht (fun q => kt (hc.mp q) H locs ls hP hS hl) (fun q => kf (fun z => q (hc.mpr z)) H locs ls hP hS hl)
theorem ld_if_ne (O : ld_Ok l K ad cc nL own R) {x : Int32} (X : Int) (hx : x.toInt = X) {off : Int} (tgt : Nat) (hd : decode cc pc = .ok (.ifCond .ne off, 3)) (ht : (pc : Int) + off = (tgt : Int)) (kt : ¬ X = 0 → K σ lv st tgt) (kf : X = 0 → K σ lv st (pc + 3)) : K σ lv (.int x :: st) pc := by
  subst hx
  have hc : (x = (0 : Int32)) ↔ (x.toInt = 0) := by
    have h := (Int32.toInt_inj.symm : (x = (0 : Int32)) ↔ (x.toInt = (0 : Int32).toInt))
    rw [ld_zi] at h
    exact h
  obtain ⟨X, p, e, s, m, args, below, meth, c, cells, slots, A, Q, hxx, hb, hml, hown, hts, hinj, hK, hN, hA1, hA2, hR, rfl⟩ := O
  intro H locs ls hP hS hl
  exact lv_if_ne hxx hb hd ht (fun q => kt (fun z => q (hc.mpr z)) H locs ls hP hS hl) (fun q => kf (hc.mp q) H locs ls hP hS hl)
theorem ld_icmp_ne (O : ld_Ok l K ad cc nL own R) {x y : Int32} (X Y : Int) (hx : x.toInt = X) (hy : y.toInt = Y) {off : Int} (tgt : Nat) (hd : decode cc pc = .ok (.if_icmp .ne off, 3)) (ht : (pc : Int) + off = (tgt : Int)) (kt : ¬ X = Y → K σ lv st tgt) (kf : X = Y → K σ lv st (pc + 3)) : K σ lv (.int y :: .int x :: st) pc := by
  subst hx; subst hy
  have hc : (x = y) ↔ (x.toInt = y.toInt) := Int32.toInt_inj.symm
  obtain ⟨X, p, e, s, m, args, below, meth, c, cells, slots, A, Q, hxx, hb, hml, hown, hts, hinj, hK, hN, hA1, hA2, hR, rfl⟩ := O
  intro H locs ls hP hS hl
  exact lv_icmp_ne hxx hb hd ht (fun q => kt (fun z => q (hc.mpr z)) H locs ls hP hS hl) (fun q => kf (hc.mp q) H locs ls hP hS hl)
theorem ld_if_lt (O : ld_Ok l K ad cc nL own R) {x : Int32} (X : Int) (hx : x.toInt = X) {off : Int} (tgt : Nat) (hd : decode cc pc = .ok (.ifCond .lt off, 3)) (ht : (pc : Int) + off = (tgt : Int)) (kt : X < 0 → K σ lv st tgt) (kf : ¬ X < 0 → K σ lv st (pc + 3)) : K σ lv (.int x :: st) pc := by
  subst hx
  have hc : (x < (0 : Int32)) ↔ (x.toInt < 0) := by
    have h := (Int32.lt_iff_toInt_lt : (x < (0 : Int32)) ↔ (x.toInt < (0 : Int32).toInt))
    rw [ld_zi] at h
    exact h
  obtain ⟨X, p, e, s, m, args, below, meth, c, cells, slots, A, Q, hxx, hb, hml, hown, hts, hinj, hK, hN, hA1, hA2, hR, rfl⟩ := O
  intro H locs ls hP hS hl
  exact lv_if_lt hxx hb hd ht (fun q => kt (hc.mp q) H locs ls hP hS hl) (fun q => kf (fun z => q (hc.mpr z)) H locs ls hP hS hl)
theorem ld_icmp_lt (O : ld_Ok l K ad cc nL own R) {x y : Int32} (X Y : Int) (hx : x.toInt = X) (hy : y.toInt = Y) {off : Int} (tgt : Nat) (hd : decode cc pc = .ok (.if_icmp .lt off, 3)) (ht : (pc : Int) + off = (tgt : Int)) (kt : X < Y → K σ lv st tgt) (kf : ¬ X < Y → K σ lv st (pc + 3)) : K σ lv (.int y :: .int x :: st) pc := by
  subst hx; subst hy
  have hc : (x < y) ↔ (x.toInt < y.toInt) := Int32.lt_iff_toInt_lt
  obtain ⟨X, p, e, s, m, args, below, meth, c, cells, slots, A, Q, hxx, hb, hml, hown, hts, hinj, hK, hN, hA1, hA2, hR, rfl⟩ := O
  intro H locs ls hP hS hl
  exact lv_icmp_lt hxx hb hd ht (fun q => kt (hc.mp q) H locs ls hP hS hl) (fun q => kf (fun z => q (hc.mpr z)) H locs ls hP hS hl)
theorem ld_if_ge (O : ld_Ok l K ad cc nL own R) {x : Int32} (X : Int) (hx : x.toInt = X) {off : Int} (tgt : Nat) (hd : decode cc pc = .ok (.ifCond .ge off, 3)) (ht : (pc : Int) + off = (tgt : Int)) (kt : 0 ≤ X → K σ lv st tgt) (kf : ¬ 0 ≤ X → K σ lv st (pc + 3)) : K σ lv (.int x :: st) pc := by
  subst hx
  have hc : ((0 : Int32) ≤ x) ↔ (0 ≤ x.toInt) := by
    have h := (Int32.le_iff_toInt_le : ((0 : Int32) ≤ x) ↔ ((0 : Int32).toInt ≤ x.toInt))
    rw [ld_zi] at h
    exact h
  obtain ⟨X, p, e, s, m, args, below, meth, c, cells, slots, A, Q, hxx, hb, hml, hown, hts, hinj, hK, hN, hA1, hA2, hR, rfl⟩ := O
  intro H locs ls hP hS hl
  exact lv_if_ge hxx hb hd ht (fun q => kt (hc.mp q) H locs ls hP hS hl) (fun q => kf (fun z => q (hc.mpr z)) H locs ls hP hS hl)
theorem ld_icmp_ge (O : ld_Ok l K ad cc nL own R) {x y : Int32} (X Y : Int) (hx : x.toInt = X) (hy : y.toInt = Y) {off : Int} (tgt : Nat) (hd : decode cc pc = .ok (.if_icmp .ge off, 3)) (ht : (pc : Int) + off = (tgt : Int)) (kt : Y ≤ X → K σ lv st tgt) (kf : ¬ Y ≤ X → K σ lv st (pc + 3)) : K σ lv (.int y :: .int x :: st) pc := by
  subst hx; subst hy
  have hc : (y ≤ x) ↔ (y.toInt ≤ x.toInt) := Int32.le_iff_toInt_le
  obtain ⟨X, p, e, s, m, args, below, meth, c, cells, slots, A, Q, hxx, hb, hml, hown, hts, hinj, hK, hN, hA1, hA2, hR, rfl⟩ := O
  intro H locs ls hP hS hl
  exact lv_icmp_ge hxx hb hd ht (fun q => kt (hc.mp q) H locs ls hP hS hl) (fun q => kf (fun z => q (hc.mpr z)) H locs ls hP hS hl)
theorem ld_if_gt (O : ld_Ok l K ad cc nL own R) {x : Int32} (X : Int) (hx : x.toInt = X) {off : Int} (tgt : Nat) (hd : decode cc pc = .ok (.ifCond .gt off, 3)) (ht : (pc : Int) + off = (tgt : Int)) (kt : 0 < X → K σ lv st tgt) (kf : ¬ 0 < X → K σ lv st (pc + 3)) : K σ lv (.int x :: st) pc := by
  subst hx
  have hc : ((0 : Int32) < x) ↔ (0 < x.toInt) := by
    have h := (Int32.lt_iff_toInt_lt : ((0 : Int32) < x) ↔ ((0 : Int32).toInt < x.toInt))
    rw [ld_zi] at h
    exact h
  obtain ⟨X, p, e, s, m, args, below, meth, c, cells, slots, A, Q, hxx, hb, hml, hown, hts, hinj, hK, hN, hA1, hA2, hR, rfl⟩ := O
  intro H locs ls hP hS hl
  exact lv_if_gt hxx hb hd ht (fun q => kt (hc.mp q) H locs ls hP hS hl) (fun q => kf (fun z => q (hc.mpr z)) H locs ls hP hS hl)
theorem ld_icmp_gt (O : ld_Ok l K ad cc nL own R) {x y : Int32} (X Y : Int) (hx : x.toInt = X) (hy : y.toInt = Y) {off : Int} (tgt : Nat) (hd : decode cc pc = .ok (.if_icmp .gt off, 3)) (ht : (pc : Int) + off = (tgt : Int)) (kt : Y < X → K σ lv st tgt) (kf : ¬ Y < X → K σ lv st (pc + 3)) : K σ lv (.int y :: .int x :: st) pc := by
  subst hx; subst hy
  have hc : (y < x) ↔ (y.toInt < x.toInt) := Int32.lt_iff_toInt_lt
  obtain ⟨X, p, e, s, m, args, below, meth, c, cells, slots, A, Q, hxx, hb, hml, hown, hts, hinj, hK, hN, hA1, hA2, hR, rfl⟩ := O
  intro H locs ls hP hS hl
  exact lv_icmp_gt hxx hb hd ht (fun q => kt (hc.mp q) H locs ls hP hS hl) (fun q => kf (fun z => q (hc.mpr z)) H locs ls hP hS hl)
theorem ld_if_le (O : ld_Ok l K ad cc nL own R) {x : Int32} (X : Int) (hx : x.toInt = X) {off : Int} (tgt : Nat) (hd : decode cc pc = .ok (.ifCond .le off, 3)) (ht : (pc : Int) + off = (tgt : Int)) (kt : X ≤ 0 → K σ lv st tgt) (kf : ¬ X ≤ 0 → K σ lv st (pc + 3)) : K σ lv (.int x :: st) pc := by
  subst hx
  have hc : (x ≤ (0 : Int32)) ↔ (x.toInt ≤ 0) := by
    have h := (Int32.le_iff_toInt_le : (x ≤ (0 : Int32)) ↔ (x.toInt ≤ (0 : Int32).toInt))
    rw [ld_zi] at h
    exact h
  obtain ⟨X, p, e, s, m, args, below, meth, c, cells, slots, A, Q, hxx, hb, hml, hown, hts, hinj, hK, hN, hA1, hA2, hR, rfl⟩ := O
  intro H locs ls hP hS hl
  exact lv_if_le hxx hb hd ht (fun q => kt (hc.mp q) H locs ls hP hS hl) (fun q => kf (fun z => q (hc.mpr z)) H locs ls hP hS hl)
theorem ld_icmp_le (O : ld_Ok l K ad cc nL own R) {x y : Int32} (X Y : Int) (hx : x.toInt = X) (hy : y.toInt = Y) {off : Int} (tgt : Nat) (hd : decode cc pc = .ok (.if_icmp .le off, 3)) (ht : (pc : Int) + off = (tgt : Int)) (kt : X ≤ Y → K σ lv st tgt) (kf : ¬ X ≤ Y → K σ lv st (pc + 3)) : K σ lv (.int y :: .int x :: st) pc := by
  subst hx; subst hy
  have hc : (x ≤ y) ↔ (x.toInt ≤ y.toInt) := Int32.le_iff_toInt_le
  obtain ⟨X, p, e, s, m, args, below, meth, c, cells, slots, A, Q, hxx, hb, hml, hown, hts, hinj, hK, hN, hA1, hA2, hR, rfl⟩ := O
  intro H locs ls hP hS hl
  exact lv_icmp_le hxx hb hd ht (fun q => kt (hc.mp q) H locs ls hP hS hl) (fun q => kf (fun z => q (hc.mpr z)) H locs ls hP hS hl)
noncomputable def ld_b (p : Prop) : Int32 := @ite _ p (Classical.propDecidable p) (nI 1) (nI 0)
theorem ld_b_t {p : Prop} (h : p) : ld_b p = nI 1 := if_pos h
theorem ld_b_f {p : Prop} (h : ¬ p) : ld_b p = nI 0 := if_neg h
theorem ld_b_01 (p : Prop) : ld_b p = 0 ∨ ld_b p = 1 := by
  by_cases h : p
  · exact Or.inr (ld_b_t h)
  · exact Or.inl (ld_b_f h)
theorem ld_b_cong {p q : Prop} (h : p ↔ q) : ld_b p = ld_b q := by rw [propext h]
theorem ld_b_i (p : Prop) : (ld_b p).toInt = 0 ∨ (ld_b p).toInt = 1 := by
  rcases ld_b_01 p with h | h <;> rw [h] <;> decide
theorem ld_b_z {p : Prop} : (ld_b p).toInt = 0 ↔ ¬ p := by
  by_cases h : p
  · rw [ld_b_t h]; exact ⟨fun z => absurd z (by decide), fun z => absurd h z⟩
  · rw [ld_b_f h]; exact ⟨fun _ => h, fun _ => by decide⟩
theorem ld_ifb_eq (O : ld_Ok l K ad cc nL own R) {p : Prop} {off : Int} (tgt : Nat) (hd : decode cc pc = .ok (.ifCond .eq off, 3)) (ht : (pc : Int) + off = (tgt : Int)) (kt : ¬ p → K σ lv st tgt) (kf : p → K σ lv st (pc + 3)) : K σ lv (.int (ld_b p) :: st) pc :=
  ld_if_eq O _ rfl tgt hd ht (fun q => kt (ld_b_z.mp q)) (fun q => kf (Classical.byContradiction fun z => q (ld_b_z.mpr z)))
theorem ld_ifb_ne (O : ld_Ok l K ad cc nL own R) {p : Prop} {off : Int} (tgt : Nat) (hd : decode cc pc = .ok (.ifCond .ne off, 3)) (ht : (pc : Int) + off = (tgt : Int)) (kt : p → K σ lv st tgt) (kf : ¬ p → K σ lv st (pc + 3)) : K σ lv (.int (ld_b p) :: st) pc :=
  ld_if_ne O _ rfl tgt hd ht (fun q => kt (Classical.byContradiction fun z => q (ld_b_z.mpr z))) (fun q => kf (ld_b_z.mp q))
theorem ld_iaddN (O : ld_Ok l K ad cc nL own R) {a b : Nat} (hd : decode cc pc = .ok (.iadd, 1)) (k : K σ lv (.int (nI (a + b)) :: st) (pc + 1)) : K σ lv (.int (nI b) :: .int (nI a) :: st) pc := ld_iadd O hd (by rw [nI_add]; exact k)
theorem ld_isubN (O : ld_Ok l K ad cc nL own R) {a b : Nat} (h : b ≤ a) (hd : decode cc pc = .ok (.isub, 1)) (k : K σ lv (.int (nI (a - b)) :: st) (pc + 1)) : K σ lv (.int (nI b) :: .int (nI a) :: st) pc := ld_isub O hd (by rw [pk_sub h]; exact k)
theorem ld_imulN (O : ld_Ok l K ad cc nL own R) {a b : Nat} (hd : decode cc pc = .ok (.imul, 1)) (k : K σ lv (.int (nI (a * b)) :: st) (pc + 1)) : K σ lv (.int (nI b) :: .int (nI a) :: st) pc := ld_imul O hd (by rw [pk_mul]; exact k)
theorem ld_iincN (O : ld_Ok l K ad cc nL own R) (lv2 : List (Nat × Value)) (q : Nat) {i n a : Nat} (hd : decode cc pc = .ok (.iinc i n, 3)) (hq : lv[q]? = some (i, .int (nI a))) (hn : i < nL) (hf : (i, Value.int (nI (a + n))) :: lv.filter (fun q => !(q.1 == i) && !(q.1 + 1 == i && q.2.category == 2)) = lv2) (k : K σ lv2 st (pc + 3)) : K σ lv st pc :=
  ld_iinc O lv2 q hd hq (by rw [← nI_add]; rfl) hn hf k
theorem ld_i2lN {a : Nat} (h : a < 2 ^ 31) : (nI a).toInt64.toInt = (a : Int) := by rw [Int32.toInt_toInt64, nI_toInt h]
theorem ld_cmp_i {x y : Int64} {X Y : Int} (hx : x.toInt = X) (hy : y.toInt = Y) : ((lg_cmp x y).toInt < 0 ↔ X < Y) ∧ ((lg_cmp x y).toInt = 0 ↔ X = Y) ∧ (0 < (lg_cmp x y).toInt ↔ Y < X) := by
  subst hx; subst hy
  unfold lg_cmp
  simp only [gt_iff_lt, Int64.lt_iff_toInt_lt, ← Int64.toInt_inj]
  by_cases a : y.toInt < x.toInt
  · rw [if_pos a]
    exact ⟨⟨fun z => absurd z (by decide), fun z => by omega⟩, ⟨fun z => absurd z (by decide), fun z => by omega⟩, ⟨fun _ => a, fun _ => by decide⟩⟩
  · rw [if_neg a]
    by_cases b : x.toInt = y.toInt
    · rw [if_pos b]
      exact ⟨⟨fun z => absurd z (by decide), fun z => by omega⟩, ⟨fun _ => b, fun _ => by decide⟩, ⟨fun z => absurd z (by decide), fun z => by omega⟩⟩
    · rw [if_neg b]
      exact ⟨⟨fun _ => by omega, fun _ => by decide⟩, ⟨fun z => absurd z (by decide), fun z => by omega⟩, ⟨fun z => absurd z (by decide), fun z => by omega⟩⟩
/-- fewer locals -/
theorem ld_less (O : ld_Ok l K ad cc nL own R) (ks : List Nat) {lv2 : List (Nat × Value)} (h : lv_pick lv ks = lv2) (k : K σ lv2 st pc) : K σ lv st pc := by
  obtain ⟨X, p, e, s, m, args, below, meth, c, cells, slots, A, Q, hx, hb, hml, hown, hts, hinj, hK, hN, hA1, hA2, hR, rfl⟩ := O
  intro H locs ls hP hS hl
  exact k H locs ls hP hS (lv_sub hl ks h)
theorem ld_cv {σ2 : ld_St} (h : σ = σ2) (k : K σ2 lv st pc) : K σ lv st pc := by rw [h]; exact k
theorem us_us (σ : ld_St) (a : Nat) (f g : Nat → Int32) : us (us σ a f) a g = us σ a g := by
  funext b
  by_cases h : b = a
  · subst h; rw [us_eq, us_eq]
  · rw [us_ne _ _ h, us_ne _ _ h, us_ne _ _ h]
theorem us_comm (σ : ld_St) {a b : Nat} (h : a < b) (f g : Nat → Int32) : us (us σ b f) a g = us (us σ a g) b f := by
  funext c
  by_cases h1 : c = a
  · subst h1; rw [us_eq, us_ne _ _ (by omega), us_eq]
  · by_cases h2 : c = b
    · subst h2; rw [us_ne _ _ h1, us_eq, us_eq]
    · rw [us_ne _ _ h1, us_ne _ _ h2, us_ne _ _ h2, us_ne _ _ h1]
theorem us_self (σ : ld_St) (a : Nat) : us σ a (σ a) = σ := by
  funext b
  by_cases h : b = a
  · subst h; rw [us_eq]
  · rw [us_ne _ _ h]
theorem ld_goto (O : ld_Ok l K ad cc nL own R) {off : Int} (tgt : Nat) (hd : decode cc pc = .ok (.goto off, 3)) (ht : (pc : Int) + off = (tgt : Int)) (k : K σ lv st tgt) : K σ lv st pc := by
  obtain ⟨X, p, e, s, m, args, below, meth, c, cells, slots, A, Q, hx, hb, hml, hown, hts, hinj, hK, hN, hA1, hA2, hR, rfl⟩ := O
  intro H locs ls hP hS hl
  exact lv_goto hx hb hd ht (k H locs ls hP hS hl)
theorem ld_tabOut (O : ld_Ok l K ad cc nL own R) {dflt lo hi : Int} {offs : Array Int} {len : Nat} {x : Int32} (tgt : Nat) (hd : decode cc pc = .ok (.tableswitch dflt lo hi offs, len)) (h : x.toInt < lo ∨ hi < x.toInt) (ht : (pc : Int) + dflt = (tgt : Int)) (k : K σ lv st tgt) : K σ lv (.int x :: st) pc := by
  obtain ⟨X, p, e, s, m, args, below, meth, c, cells, slots, A, Q, hx, hb, hml, hown, hts, hinj, hK, hN, hA1, hA2, hR, rfl⟩ := O
  intro H locs ls hP hS hl
  exact lv_tableOut hx hb hd h ht (k H locs ls hP hS hl)
theorem ld_tabIn (O : ld_Ok l K ad cc nL own R) {dflt lo hi : Int} {offs : Array Int} {len : Nat} {x : Int32} {off : Int} (tgt : Nat) (hd : decode cc pc = .ok (.tableswitch dflt lo hi offs, len)) (h1 : ¬ x.toInt < lo) (h2 : ¬ hi < x.toInt) (ho : offs[(x.toInt - lo).toNat]? = some off) (ht : (pc : Int) + off = (tgt : Int)) (k : K σ lv st tgt) : K σ lv (.int x :: st) pc := by
  obtain ⟨X, p, e, s, m, args, below, meth, c, cells, slots, A, Q, hx, hb, hml, hown, hts, hinj, hK, hN, hA1, hA2, hR, rfl⟩ := O
  intro H locs ls hP hS hl
  exact lv_tableIn hx hb hd h1 h2 ho ht (k H locs ls hP hS hl)
theorem ld_look (O : ld_Ok l K ad cc nL own R) {dflt : Int} {ps : Array (Int × Int)} {len : Nat} {x : Int32} {off : Int} (tgt : Nat) (hd : decode cc pc = .ok (.lookupswitch dflt ps, len)) (hp : (ps.toList.zip (ps.toList.drop 1)).all (fun (a, next) => a.1 < next.1) = true) (ho : Op.lookupswitch.offset ps.toList dflt x.toInt = off) (ht : (pc : Int) + off = (tgt : Int)) (k : K σ lv st tgt) : K σ lv (.int x :: st) pc := by
  obtain ⟨X, p, e, s, m, args, below, meth, c, cells, slots, A, Q, hx, hb, hml, hown, hts, hinj, hK, hN, hA1, hA2, hR, rfl⟩ := O
  intro H locs ls hP hS hl
  exact lv_lookup hx hb hd hp ho ht (k H locs ls hP hS hl)
theorem ld_g_LD_readings (O : ld_Ok l K ad cc nL own R) {v : Int32} {ix : Nat} (hw : Cond.fieldLink own ix "LemonDeals" "readings" "I" ∈ wsL_law) (hv : σ 100 0 = v) (hd : decode cc pc = .ok (.getfield ix, 3)) (k : K σ lv (.int v :: st) (pc + 3)) : K σ lv (.ref (ad 0) :: st) pc := by
  obtain ⟨X, p, e, s, m, args, below, meth, c, cells, slots, A, Q, hx, hb, hml, hown, hts, hinj, hK, hN, hA1, hA2, hR, rfl⟩ := O
  intro H locs ls hP hS hl
  subst hv; exact va_get (D := X.1) (ci := 2) (C := RX2) (T := TX2) (N := 8) hx hb hts inlX2 hown hK hP 0 (ld_at0 X ad σ) rfl 5 (by decide) (hts _ hw) (fun _ h9 => h9) rfl hd (k H locs ls hP hS hl)
theorem ld_p_LD_readings (O : ld_Ok l K ad cc nL own R) {ix : Nat} {v : Int32} (hw : Cond.fieldLink own ix "LemonDeals" "readings" "I" ∈ wsL_law) (hd : decode cc pc = .ok (.putfield ix, 3)) (k : K (us σ 100 (fun _ => v)) lv st (pc + 3)) : K σ lv (.int v :: .ref (ad 0) :: st) pc := by
  obtain ⟨X, p, e, s, m, args, below, meth, c, cells, slots, A, Q, hx, hb, hml, hown, hts, hinj, hK, hN, hA1, hA2, hR, rfl⟩ := O
  intro H locs ls hP hS hl
  refine va_put (D := X.1) (ci := 2) (v := .int v) (ty := .int) (C := RX2) (T := TX2) (N := 8) hx hb hts inlX2 tyX2 tyX2_ok nmX2 hown hK hP (ld_D hinj hA1 X σ) hS 0 (ld_at0 X ad σ) rfl 5 (by decide) (hts _ hw) (fun _ h9 => h9) rfl (by decide +kernel) rfl rfl (Nat.le_of_ble_eq_true rfl) hd (fun H locs hP hD hS => ?_)
  refine k H locs ls ?_ hS hl
  exact (ld_set X ad σ (us σ 100 (fun _ => v)) (by decide) (by rfl) (fun j h1 h2 => ld_ct_I X ad σ _ (by decide) (Or.inl ⟨by decide, rfl⟩) h1 h2)) ▸ hP
theorem ld_g_LD_traced (O : ld_Ok l K ad cc nL own R) {v : Int32} {ix : Nat} (hw : Cond.fieldLink own ix "LemonDeals" "traced" "I" ∈ wsL_law) (hv : σ 101 0 = v) (hd : decode cc pc = .ok (.getfield ix, 3)) (k : K σ lv (.int v :: st) (pc + 3)) : K σ lv (.ref (ad 0) :: st) pc := by
  obtain ⟨X, p, e, s, m, args, below, meth, c, cells, slots, A, Q, hx, hb, hml, hown, hts, hinj, hK, hN, hA1, hA2, hR, rfl⟩ := O
  intro H locs ls hP hS hl
  subst hv; exact va_get (D := X.1) (ci := 2) (C := RX2) (T := TX2) (N := 8) hx hb hts inlX2 hown hK hP 0 (ld_at0 X ad σ) rfl 6 (by decide) (hts _ hw) (fun _ h9 => h9) rfl hd (k H locs ls hP hS hl)
theorem ld_p_LD_traced (O : ld_Ok l K ad cc nL own R) {ix : Nat} {v : Int32} (hw : Cond.fieldLink own ix "LemonDeals" "traced" "I" ∈ wsL_law) (hd : decode cc pc = .ok (.putfield ix, 3)) (k : K (us σ 101 (fun _ => v)) lv st (pc + 3)) : K σ lv (.int v :: .ref (ad 0) :: st) pc := by
  obtain ⟨X, p, e, s, m, args, below, meth, c, cells, slots, A, Q, hx, hb, hml, hown, hts, hinj, hK, hN, hA1, hA2, hR, rfl⟩ := O
  intro H locs ls hP hS hl
  refine va_put (D := X.1) (ci := 2) (v := .int v) (ty := .int) (C := RX2) (T := TX2) (N := 8) hx hb hts inlX2 tyX2 tyX2_ok nmX2 hown hK hP (ld_D hinj hA1 X σ) hS 0 (ld_at0 X ad σ) rfl 6 (by decide) (hts _ hw) (fun _ h9 => h9) rfl (by decide +kernel) rfl rfl (Nat.le_of_ble_eq_true rfl) hd (fun H locs hP hD hS => ?_)
  refine k H locs ls ?_ hS hl
  exact (ld_set X ad σ (us σ 101 (fun _ => v)) (by decide) (by rfl) (fun j h1 h2 => ld_ct_I X ad σ _ (by decide) (Or.inl ⟨by decide, rfl⟩) h1 h2)) ▸ hP
theorem ld_g_LD_lastFault (O : ld_Ok l K ad cc nL own R) {v : Int32} {ix : Nat} (hw : Cond.fieldLink own ix "LemonDeals" "lastFault" "I" ∈ wsL_law) (hv : σ 102 0 = v) (hd : decode cc pc = .ok (.getfield ix, 3)) (k : K σ lv (.int v :: st) (pc + 3)) : K σ lv (.ref (ad 0) :: st) pc := by
  obtain ⟨X, p, e, s, m, args, below, meth, c, cells, slots, A, Q, hx, hb, hml, hown, hts, hinj, hK, hN, hA1, hA2, hR, rfl⟩ := O
  intro H locs ls hP hS hl
  subst hv; exact va_get (D := X.1) (ci := 2) (C := RX2) (T := TX2) (N := 8) hx hb hts inlX2 hown hK hP 0 (ld_at0 X ad σ) rfl 7 (by decide) (hts _ hw) (fun _ h9 => h9) rfl hd (k H locs ls hP hS hl)
theorem ld_p_LD_lastFault (O : ld_Ok l K ad cc nL own R) {ix : Nat} {v : Int32} (hw : Cond.fieldLink own ix "LemonDeals" "lastFault" "I" ∈ wsL_law) (hd : decode cc pc = .ok (.putfield ix, 3)) (k : K (us σ 102 (fun _ => v)) lv st (pc + 3)) : K σ lv (.int v :: .ref (ad 0) :: st) pc := by
  obtain ⟨X, p, e, s, m, args, below, meth, c, cells, slots, A, Q, hx, hb, hml, hown, hts, hinj, hK, hN, hA1, hA2, hR, rfl⟩ := O
  intro H locs ls hP hS hl
  refine va_put (D := X.1) (ci := 2) (v := .int v) (ty := .int) (C := RX2) (T := TX2) (N := 8) hx hb hts inlX2 tyX2 tyX2_ok nmX2 hown hK hP (ld_D hinj hA1 X σ) hS 0 (ld_at0 X ad σ) rfl 7 (by decide) (hts _ hw) (fun _ h9 => h9) rfl (by decide +kernel) rfl rfl (Nat.le_of_ble_eq_true rfl) hd (fun H locs hP hD hS => ?_)
  refine k H locs ls ?_ hS hl
  exact (ld_set X ad σ (us σ 102 (fun _ => v)) (by decide) (by rfl) (fun j h1 h2 => ld_ct_I X ad σ _ (by decide) (Or.inl ⟨by decide, rfl⟩) h1 h2)) ▸ hP
theorem ld_g_now_houses (O : ld_Ok l K ad cc nL own R) {v : Int32} {ix : Nat} (hw : Cond.fieldLink own ix "LemonDeals$Street" "houses" "I" ∈ wsL_law) (hv : σ 110 0 = v) (hd : decode cc pc = .ok (.getfield ix, 3)) (k : K σ lv (.int v :: st) (pc + 3)) : K σ lv (.ref (ad 1) :: st) pc := by
  obtain ⟨X, p, e, s, m, args, below, meth, c, cells, slots, A, Q, hx, hb, hml, hown, hts, hinj, hK, hN, hA1, hA2, hR, rfl⟩ := O
  intro H locs ls hP hS hl
  subst hv; exact va_get (D := X.1) (ci := 1) (C := RX1) (T := TX1) (N := 11) hx hb hts inlX1 hown hK hP 1 (ld_at1 X ad σ) rfl 0 (by decide) (hts _ hw) (fun _ h9 => h9) rfl hd (k H locs ls hP hS hl)
theorem ld_g_now_housesN (O : ld_Ok l K ad cc nL own R) {v : Int32} {ix : Nat} (hw : Cond.fieldLinkNest own ix "LemonDeals$Street" "houses" "I" "LemonDeals" ∈ ld_nws) (hv : σ 110 0 = v) (hd : decode cc pc = .ok (.getfield ix, 3)) (k : K σ lv (.int v :: st) (pc + 3)) : K σ lv (.ref (ad 1) :: st) pc := by
  obtain ⟨X, p, e, s, m, args, below, meth, c, cells, slots, A, Q, hx, hb, hml, hown, hts, hinj, hK, hN, hA1, hA2, hR, rfl⟩ := O
  intro H locs ls hP hS hl
  subst hv; exact va_getN (D := X.1) (ci := 1) (C := RX1) (T := TX1) (N := 11) hx hb hts inlX1 hown hK hP 1 (ld_at1 X ad σ) rfl 0 (by decide) (va_Nw.use rfl (hN _ hw)) (fun _ h9 => h9) rfl hd (k H locs ls hP hS hl)
theorem ld_p_now_houses (O : ld_Ok l K ad cc nL own R) {ix : Nat} {v : Int32} (hw : Cond.fieldLink own ix "LemonDeals$Street" "houses" "I" ∈ wsL_law) (hd : decode cc pc = .ok (.putfield ix, 3)) (k : K (us σ 110 (fun _ => v)) lv st (pc + 3)) : K σ lv (.int v :: .ref (ad 1) :: st) pc := by
  obtain ⟨X, p, e, s, m, args, below, meth, c, cells, slots, A, Q, hx, hb, hml, hown, hts, hinj, hK, hN, hA1, hA2, hR, rfl⟩ := O
  intro H locs ls hP hS hl
  refine va_put (D := X.1) (ci := 1) (v := .int v) (ty := .int) (C := RX1) (T := TX1) (N := 11) hx hb hts inlX1 tyX1 tyX1_ok nmX1 hown hK hP (ld_D hinj hA1 X σ) hS 1 (ld_at1 X ad σ) rfl 0 (by decide) (hts _ hw) (fun _ h9 => h9) rfl (by decide +kernel) rfl rfl (Nat.le_of_ble_eq_true rfl) hd (fun H locs hP hD hS => ?_)
  refine k H locs ls ?_ hS hl
  exact (ld_set X ad σ (us σ 110 (fun _ => v)) (by decide) (by rfl) (fun j h1 h2 => ld_ct_I X ad σ _ (by decide) (Or.inr (Or.inl ⟨by decide, by decide, rfl⟩)) h1 h2)) ▸ hP
theorem ld_p_now_housesN (O : ld_Ok l K ad cc nL own R) {ix : Nat} {v : Int32} (hw : Cond.fieldLinkNest own ix "LemonDeals$Street" "houses" "I" "LemonDeals" ∈ ld_nws) (hd : decode cc pc = .ok (.putfield ix, 3)) (k : K (us σ 110 (fun _ => v)) lv st (pc + 3)) : K σ lv (.int v :: .ref (ad 1) :: st) pc := by
  obtain ⟨X, p, e, s, m, args, below, meth, c, cells, slots, A, Q, hx, hb, hml, hown, hts, hinj, hK, hN, hA1, hA2, hR, rfl⟩ := O
  intro H locs ls hP hS hl
  refine va_putN (D := X.1) (ci := 1) (v := .int v) (ty := .int) (C := RX1) (T := TX1) (N := 11) hx hb hts inlX1 tyX1 tyX1_ok nmX1 hown hK hP (ld_D hinj hA1 X σ) hS 1 (ld_at1 X ad σ) rfl 0 (by decide) (va_Nw.use rfl (hN _ hw)) (fun _ h9 => h9) rfl (by decide +kernel) rfl rfl (Nat.le_of_ble_eq_true rfl) hd (fun H locs hP hD hS => ?_)
  refine k H locs ls ?_ hS hl
  exact (ld_set X ad σ (us σ 110 (fun _ => v)) (by decide) (by rfl) (fun j h1 h2 => ld_ct_I X ad σ _ (by decide) (Or.inr (Or.inl ⟨by decide, by decide, rfl⟩)) h1 h2)) ▸ hP
theorem ld_g_now_crate (O : ld_Ok l K ad cc nL own R) {v : Int32} {ix : Nat} (hw : Cond.fieldLink own ix "LemonDeals$Street" "crate" "I" ∈ wsL_law) (hv : σ 111 0 = v) (hd : decode cc pc = .ok (.getfield ix, 3)) (k : K σ lv (.int v :: st) (pc + 3)) : K σ lv (.ref (ad 1) :: st) pc := by
  obtain ⟨X, p, e, s, m, args, below, meth, c, cells, slots, A, Q, hx, hb, hml, hown, hts, hinj, hK, hN, hA1, hA2, hR, rfl⟩ := O
  intro H locs ls hP hS hl
  subst hv; exact va_get (D := X.1) (ci := 1) (C := RX1) (T := TX1) (N := 11) hx hb hts inlX1 hown hK hP 1 (ld_at1 X ad σ) rfl 1 (by decide) (hts _ hw) (fun _ h9 => h9) rfl hd (k H locs ls hP hS hl)
theorem ld_g_now_crateN (O : ld_Ok l K ad cc nL own R) {v : Int32} {ix : Nat} (hw : Cond.fieldLinkNest own ix "LemonDeals$Street" "crate" "I" "LemonDeals" ∈ ld_nws) (hv : σ 111 0 = v) (hd : decode cc pc = .ok (.getfield ix, 3)) (k : K σ lv (.int v :: st) (pc + 3)) : K σ lv (.ref (ad 1) :: st) pc := by
  obtain ⟨X, p, e, s, m, args, below, meth, c, cells, slots, A, Q, hx, hb, hml, hown, hts, hinj, hK, hN, hA1, hA2, hR, rfl⟩ := O
  intro H locs ls hP hS hl
  subst hv; exact va_getN (D := X.1) (ci := 1) (C := RX1) (T := TX1) (N := 11) hx hb hts inlX1 hown hK hP 1 (ld_at1 X ad σ) rfl 1 (by decide) (va_Nw.use rfl (hN _ hw)) (fun _ h9 => h9) rfl hd (k H locs ls hP hS hl)
theorem ld_p_now_crate (O : ld_Ok l K ad cc nL own R) {ix : Nat} {v : Int32} (hw : Cond.fieldLink own ix "LemonDeals$Street" "crate" "I" ∈ wsL_law) (hd : decode cc pc = .ok (.putfield ix, 3)) (k : K (us σ 111 (fun _ => v)) lv st (pc + 3)) : K σ lv (.int v :: .ref (ad 1) :: st) pc := by
  obtain ⟨X, p, e, s, m, args, below, meth, c, cells, slots, A, Q, hx, hb, hml, hown, hts, hinj, hK, hN, hA1, hA2, hR, rfl⟩ := O
  intro H locs ls hP hS hl
  refine va_put (D := X.1) (ci := 1) (v := .int v) (ty := .int) (C := RX1) (T := TX1) (N := 11) hx hb hts inlX1 tyX1 tyX1_ok nmX1 hown hK hP (ld_D hinj hA1 X σ) hS 1 (ld_at1 X ad σ) rfl 1 (by decide) (hts _ hw) (fun _ h9 => h9) rfl (by decide +kernel) rfl rfl (Nat.le_of_ble_eq_true rfl) hd (fun H locs hP hD hS => ?_)
  refine k H locs ls ?_ hS hl
  exact (ld_set X ad σ (us σ 111 (fun _ => v)) (by decide) (by rfl) (fun j h1 h2 => ld_ct_I X ad σ _ (by decide) (Or.inr (Or.inl ⟨by decide, by decide, rfl⟩)) h1 h2)) ▸ hP
theorem ld_p_now_crateN (O : ld_Ok l K ad cc nL own R) {ix : Nat} {v : Int32} (hw : Cond.fieldLinkNest own ix "LemonDeals$Street" "crate" "I" "LemonDeals" ∈ ld_nws) (hd : decode cc pc = .ok (.putfield ix, 3)) (k : K (us σ 111 (fun _ => v)) lv st (pc + 3)) : K σ lv (.int v :: .ref (ad 1) :: st) pc := by
  obtain ⟨X, p, e, s, m, args, below, meth, c, cells, slots, A, Q, hx, hb, hml, hown, hts, hinj, hK, hN, hA1, hA2, hR, rfl⟩ := O
  intro H locs ls hP hS hl
  refine va_putN (D := X.1) (ci := 1) (v := .int v) (ty := .int) (C := RX1) (T := TX1) (N := 11) hx hb hts inlX1 tyX1 tyX1_ok nmX1 hown hK hP (ld_D hinj hA1 X σ) hS 1 (ld_at1 X ad σ) rfl 1 (by decide) (va_Nw.use rfl (hN _ hw)) (fun _ h9 => h9) rfl (by decide +kernel) rfl rfl (Nat.le_of_ble_eq_true rfl) hd (fun H locs hP hD hS => ?_)
  refine k H locs ls ?_ hS hl
  exact (ld_set X ad σ (us σ 111 (fun _ => v)) (by decide) (by rfl) (fun j h1 h2 => ld_ct_I X ad σ _ (by decide) (Or.inr (Or.inl ⟨by decide, by decide, rfl⟩)) h1 h2)) ▸ hP
theorem ld_g_now_week (O : ld_Ok l K ad cc nL own R) {v : Int32} {ix : Nat} (hw : Cond.fieldLink own ix "LemonDeals$Street" "week" "I" ∈ wsL_law) (hv : σ 112 0 = v) (hd : decode cc pc = .ok (.getfield ix, 3)) (k : K σ lv (.int v :: st) (pc + 3)) : K σ lv (.ref (ad 1) :: st) pc := by
  obtain ⟨X, p, e, s, m, args, below, meth, c, cells, slots, A, Q, hx, hb, hml, hown, hts, hinj, hK, hN, hA1, hA2, hR, rfl⟩ := O
  intro H locs ls hP hS hl
  subst hv; exact va_get (D := X.1) (ci := 1) (C := RX1) (T := TX1) (N := 11) hx hb hts inlX1 hown hK hP 1 (ld_at1 X ad σ) rfl 2 (by decide) (hts _ hw) (fun _ h9 => h9) rfl hd (k H locs ls hP hS hl)
theorem ld_g_now_weekN (O : ld_Ok l K ad cc nL own R) {v : Int32} {ix : Nat} (hw : Cond.fieldLinkNest own ix "LemonDeals$Street" "week" "I" "LemonDeals" ∈ ld_nws) (hv : σ 112 0 = v) (hd : decode cc pc = .ok (.getfield ix, 3)) (k : K σ lv (.int v :: st) (pc + 3)) : K σ lv (.ref (ad 1) :: st) pc := by
  obtain ⟨X, p, e, s, m, args, below, meth, c, cells, slots, A, Q, hx, hb, hml, hown, hts, hinj, hK, hN, hA1, hA2, hR, rfl⟩ := O
  intro H locs ls hP hS hl
  subst hv; exact va_getN (D := X.1) (ci := 1) (C := RX1) (T := TX1) (N := 11) hx hb hts inlX1 hown hK hP 1 (ld_at1 X ad σ) rfl 2 (by decide) (va_Nw.use rfl (hN _ hw)) (fun _ h9 => h9) rfl hd (k H locs ls hP hS hl)
theorem ld_p_now_week (O : ld_Ok l K ad cc nL own R) {ix : Nat} {v : Int32} (hw : Cond.fieldLink own ix "LemonDeals$Street" "week" "I" ∈ wsL_law) (hd : decode cc pc = .ok (.putfield ix, 3)) (k : K (us σ 112 (fun _ => v)) lv st (pc + 3)) : K σ lv (.int v :: .ref (ad 1) :: st) pc := by
  obtain ⟨X, p, e, s, m, args, below, meth, c, cells, slots, A, Q, hx, hb, hml, hown, hts, hinj, hK, hN, hA1, hA2, hR, rfl⟩ := O
  intro H locs ls hP hS hl
  refine va_put (D := X.1) (ci := 1) (v := .int v) (ty := .int) (C := RX1) (T := TX1) (N := 11) hx hb hts inlX1 tyX1 tyX1_ok nmX1 hown hK hP (ld_D hinj hA1 X σ) hS 1 (ld_at1 X ad σ) rfl 2 (by decide) (hts _ hw) (fun _ h9 => h9) rfl (by decide +kernel) rfl rfl (Nat.le_of_ble_eq_true rfl) hd (fun H locs hP hD hS => ?_)
  refine k H locs ls ?_ hS hl
  exact (ld_set X ad σ (us σ 112 (fun _ => v)) (by decide) (by rfl) (fun j h1 h2 => ld_ct_I X ad σ _ (by decide) (Or.inr (Or.inl ⟨by decide, by decide, rfl⟩)) h1 h2)) ▸ hP
theorem ld_p_now_weekN (O : ld_Ok l K ad cc nL own R) {ix : Nat} {v : Int32} (hw : Cond.fieldLinkNest own ix "LemonDeals$Street" "week" "I" "LemonDeals" ∈ ld_nws) (hd : decode cc pc = .ok (.putfield ix, 3)) (k : K (us σ 112 (fun _ => v)) lv st (pc + 3)) : K σ lv (.int v :: .ref (ad 1) :: st) pc := by
  obtain ⟨X, p, e, s, m, args, below, meth, c, cells, slots, A, Q, hx, hb, hml, hown, hts, hinj, hK, hN, hA1, hA2, hR, rfl⟩ := O
  intro H locs ls hP hS hl
  refine va_putN (D := X.1) (ci := 1) (v := .int v) (ty := .int) (C := RX1) (T := TX1) (N := 11) hx hb hts inlX1 tyX1 tyX1_ok nmX1 hown hK hP (ld_D hinj hA1 X σ) hS 1 (ld_at1 X ad σ) rfl 2 (by decide) (va_Nw.use rfl (hN _ hw)) (fun _ h9 => h9) rfl (by decide +kernel) rfl rfl (Nat.le_of_ble_eq_true rfl) hd (fun H locs hP hD hS => ?_)
  refine k H locs ls ?_ hS hl
  exact (ld_set X ad σ (us σ 112 (fun _ => v)) (by decide) (by rfl) (fun j h1 h2 => ld_ct_I X ad σ _ (by decide) (Or.inr (Or.inl ⟨by decide, by decide, rfl⟩)) h1 h2)) ▸ hP
theorem ld_g_now_leanWeeks (O : ld_Ok l K ad cc nL own R) {v : Int32} {ix : Nat} (hw : Cond.fieldLink own ix "LemonDeals$Street" "leanWeeks" "I" ∈ wsL_law) (hv : σ 113 0 = v) (hd : decode cc pc = .ok (.getfield ix, 3)) (k : K σ lv (.int v :: st) (pc + 3)) : K σ lv (.ref (ad 1) :: st) pc := by
  obtain ⟨X, p, e, s, m, args, below, meth, c, cells, slots, A, Q, hx, hb, hml, hown, hts, hinj, hK, hN, hA1, hA2, hR, rfl⟩ := O
  intro H locs ls hP hS hl
  subst hv; exact va_get (D := X.1) (ci := 1) (C := RX1) (T := TX1) (N := 11) hx hb hts inlX1 hown hK hP 1 (ld_at1 X ad σ) rfl 3 (by decide) (hts _ hw) (fun _ h9 => h9) rfl hd (k H locs ls hP hS hl)
theorem ld_g_now_leanWeeksN (O : ld_Ok l K ad cc nL own R) {v : Int32} {ix : Nat} (hw : Cond.fieldLinkNest own ix "LemonDeals$Street" "leanWeeks" "I" "LemonDeals" ∈ ld_nws) (hv : σ 113 0 = v) (hd : decode cc pc = .ok (.getfield ix, 3)) (k : K σ lv (.int v :: st) (pc + 3)) : K σ lv (.ref (ad 1) :: st) pc := by
  obtain ⟨X, p, e, s, m, args, below, meth, c, cells, slots, A, Q, hx, hb, hml, hown, hts, hinj, hK, hN, hA1, hA2, hR, rfl⟩ := O
  intro H locs ls hP hS hl
  subst hv; exact va_getN (D := X.1) (ci := 1) (C := RX1) (T := TX1) (N := 11) hx hb hts inlX1 hown hK hP 1 (ld_at1 X ad σ) rfl 3 (by decide) (va_Nw.use rfl (hN _ hw)) (fun _ h9 => h9) rfl hd (k H locs ls hP hS hl)
theorem ld_p_now_leanWeeks (O : ld_Ok l K ad cc nL own R) {ix : Nat} {v : Int32} (hw : Cond.fieldLink own ix "LemonDeals$Street" "leanWeeks" "I" ∈ wsL_law) (hd : decode cc pc = .ok (.putfield ix, 3)) (k : K (us σ 113 (fun _ => v)) lv st (pc + 3)) : K σ lv (.int v :: .ref (ad 1) :: st) pc := by
  obtain ⟨X, p, e, s, m, args, below, meth, c, cells, slots, A, Q, hx, hb, hml, hown, hts, hinj, hK, hN, hA1, hA2, hR, rfl⟩ := O
  intro H locs ls hP hS hl
  refine va_put (D := X.1) (ci := 1) (v := .int v) (ty := .int) (C := RX1) (T := TX1) (N := 11) hx hb hts inlX1 tyX1 tyX1_ok nmX1 hown hK hP (ld_D hinj hA1 X σ) hS 1 (ld_at1 X ad σ) rfl 3 (by decide) (hts _ hw) (fun _ h9 => h9) rfl (by decide +kernel) rfl rfl (Nat.le_of_ble_eq_true rfl) hd (fun H locs hP hD hS => ?_)
  refine k H locs ls ?_ hS hl
  exact (ld_set X ad σ (us σ 113 (fun _ => v)) (by decide) (by rfl) (fun j h1 h2 => ld_ct_I X ad σ _ (by decide) (Or.inr (Or.inl ⟨by decide, by decide, rfl⟩)) h1 h2)) ▸ hP
theorem ld_p_now_leanWeeksN (O : ld_Ok l K ad cc nL own R) {ix : Nat} {v : Int32} (hw : Cond.fieldLinkNest own ix "LemonDeals$Street" "leanWeeks" "I" "LemonDeals" ∈ ld_nws) (hd : decode cc pc = .ok (.putfield ix, 3)) (k : K (us σ 113 (fun _ => v)) lv st (pc + 3)) : K σ lv (.int v :: .ref (ad 1) :: st) pc := by
  obtain ⟨X, p, e, s, m, args, below, meth, c, cells, slots, A, Q, hx, hb, hml, hown, hts, hinj, hK, hN, hA1, hA2, hR, rfl⟩ := O
  intro H locs ls hP hS hl
  refine va_putN (D := X.1) (ci := 1) (v := .int v) (ty := .int) (C := RX1) (T := TX1) (N := 11) hx hb hts inlX1 tyX1 tyX1_ok nmX1 hown hK hP (ld_D hinj hA1 X σ) hS 1 (ld_at1 X ad σ) rfl 3 (by decide) (va_Nw.use rfl (hN _ hw)) (fun _ h9 => h9) rfl (by decide +kernel) rfl rfl (Nat.le_of_ble_eq_true rfl) hd (fun H locs hP hD hS => ?_)
  refine k H locs ls ?_ hS hl
  exact (ld_set X ad σ (us σ 113 (fun _ => v)) (by decide) (by rfl) (fun j h1 h2 => ld_ct_I X ad σ _ (by decide) (Or.inr (Or.inl ⟨by decide, by decide, rfl⟩)) h1 h2)) ▸ hP
theorem ld_g_trial_houses (O : ld_Ok l K ad cc nL own R) {v : Int32} {ix : Nat} (hw : Cond.fieldLink own ix "LemonDeals$Street" "houses" "I" ∈ wsL_law) (hv : σ 120 0 = v) (hd : decode cc pc = .ok (.getfield ix, 3)) (k : K σ lv (.int v :: st) (pc + 3)) : K σ lv (.ref (ad 2) :: st) pc := by
  obtain ⟨X, p, e, s, m, args, below, meth, c, cells, slots, A, Q, hx, hb, hml, hown, hts, hinj, hK, hN, hA1, hA2, hR, rfl⟩ := O
  intro H locs ls hP hS hl
  subst hv; exact va_get (D := X.1) (ci := 1) (C := RX1) (T := TX1) (N := 11) hx hb hts inlX1 hown hK hP 2 (ld_at2 X ad σ) rfl 0 (by decide) (hts _ hw) (fun _ h9 => h9) rfl hd (k H locs ls hP hS hl)
theorem ld_g_trial_housesN (O : ld_Ok l K ad cc nL own R) {v : Int32} {ix : Nat} (hw : Cond.fieldLinkNest own ix "LemonDeals$Street" "houses" "I" "LemonDeals" ∈ ld_nws) (hv : σ 120 0 = v) (hd : decode cc pc = .ok (.getfield ix, 3)) (k : K σ lv (.int v :: st) (pc + 3)) : K σ lv (.ref (ad 2) :: st) pc := by
  obtain ⟨X, p, e, s, m, args, below, meth, c, cells, slots, A, Q, hx, hb, hml, hown, hts, hinj, hK, hN, hA1, hA2, hR, rfl⟩ := O
  intro H locs ls hP hS hl
  subst hv; exact va_getN (D := X.1) (ci := 1) (C := RX1) (T := TX1) (N := 11) hx hb hts inlX1 hown hK hP 2 (ld_at2 X ad σ) rfl 0 (by decide) (va_Nw.use rfl (hN _ hw)) (fun _ h9 => h9) rfl hd (k H locs ls hP hS hl)
theorem ld_p_trial_houses (O : ld_Ok l K ad cc nL own R) {ix : Nat} {v : Int32} (hw : Cond.fieldLink own ix "LemonDeals$Street" "houses" "I" ∈ wsL_law) (hd : decode cc pc = .ok (.putfield ix, 3)) (k : K (us σ 120 (fun _ => v)) lv st (pc + 3)) : K σ lv (.int v :: .ref (ad 2) :: st) pc := by
  obtain ⟨X, p, e, s, m, args, below, meth, c, cells, slots, A, Q, hx, hb, hml, hown, hts, hinj, hK, hN, hA1, hA2, hR, rfl⟩ := O
  intro H locs ls hP hS hl
  refine va_put (D := X.1) (ci := 1) (v := .int v) (ty := .int) (C := RX1) (T := TX1) (N := 11) hx hb hts inlX1 tyX1 tyX1_ok nmX1 hown hK hP (ld_D hinj hA1 X σ) hS 2 (ld_at2 X ad σ) rfl 0 (by decide) (hts _ hw) (fun _ h9 => h9) rfl (by decide +kernel) rfl rfl (Nat.le_of_ble_eq_true rfl) hd (fun H locs hP hD hS => ?_)
  refine k H locs ls ?_ hS hl
  exact (ld_set X ad σ (us σ 120 (fun _ => v)) (by decide) (by rfl) (fun j h1 h2 => ld_ct_I X ad σ _ (by decide) (Or.inr (Or.inr (Or.inl ⟨by decide, by decide, rfl⟩))) h1 h2)) ▸ hP
theorem ld_p_trial_housesN (O : ld_Ok l K ad cc nL own R) {ix : Nat} {v : Int32} (hw : Cond.fieldLinkNest own ix "LemonDeals$Street" "houses" "I" "LemonDeals" ∈ ld_nws) (hd : decode cc pc = .ok (.putfield ix, 3)) (k : K (us σ 120 (fun _ => v)) lv st (pc + 3)) : K σ lv (.int v :: .ref (ad 2) :: st) pc := by
  obtain ⟨X, p, e, s, m, args, below, meth, c, cells, slots, A, Q, hx, hb, hml, hown, hts, hinj, hK, hN, hA1, hA2, hR, rfl⟩ := O
  intro H locs ls hP hS hl
  refine va_putN (D := X.1) (ci := 1) (v := .int v) (ty := .int) (C := RX1) (T := TX1) (N := 11) hx hb hts inlX1 tyX1 tyX1_ok nmX1 hown hK hP (ld_D hinj hA1 X σ) hS 2 (ld_at2 X ad σ) rfl 0 (by decide) (va_Nw.use rfl (hN _ hw)) (fun _ h9 => h9) rfl (by decide +kernel) rfl rfl (Nat.le_of_ble_eq_true rfl) hd (fun H locs hP hD hS => ?_)
  refine k H locs ls ?_ hS hl
  exact (ld_set X ad σ (us σ 120 (fun _ => v)) (by decide) (by rfl) (fun j h1 h2 => ld_ct_I X ad σ _ (by decide) (Or.inr (Or.inr (Or.inl ⟨by decide, by decide, rfl⟩))) h1 h2)) ▸ hP
theorem ld_g_trial_crate (O : ld_Ok l K ad cc nL own R) {v : Int32} {ix : Nat} (hw : Cond.fieldLink own ix "LemonDeals$Street" "crate" "I" ∈ wsL_law) (hv : σ 121 0 = v) (hd : decode cc pc = .ok (.getfield ix, 3)) (k : K σ lv (.int v :: st) (pc + 3)) : K σ lv (.ref (ad 2) :: st) pc := by
  obtain ⟨X, p, e, s, m, args, below, meth, c, cells, slots, A, Q, hx, hb, hml, hown, hts, hinj, hK, hN, hA1, hA2, hR, rfl⟩ := O
  intro H locs ls hP hS hl
  subst hv; exact va_get (D := X.1) (ci := 1) (C := RX1) (T := TX1) (N := 11) hx hb hts inlX1 hown hK hP 2 (ld_at2 X ad σ) rfl 1 (by decide) (hts _ hw) (fun _ h9 => h9) rfl hd (k H locs ls hP hS hl)
theorem ld_g_trial_crateN (O : ld_Ok l K ad cc nL own R) {v : Int32} {ix : Nat} (hw : Cond.fieldLinkNest own ix "LemonDeals$Street" "crate" "I" "LemonDeals" ∈ ld_nws) (hv : σ 121 0 = v) (hd : decode cc pc = .ok (.getfield ix, 3)) (k : K σ lv (.int v :: st) (pc + 3)) : K σ lv (.ref (ad 2) :: st) pc := by
  obtain ⟨X, p, e, s, m, args, below, meth, c, cells, slots, A, Q, hx, hb, hml, hown, hts, hinj, hK, hN, hA1, hA2, hR, rfl⟩ := O
  intro H locs ls hP hS hl
  subst hv; exact va_getN (D := X.1) (ci := 1) (C := RX1) (T := TX1) (N := 11) hx hb hts inlX1 hown hK hP 2 (ld_at2 X ad σ) rfl 1 (by decide) (va_Nw.use rfl (hN _ hw)) (fun _ h9 => h9) rfl hd (k H locs ls hP hS hl)
theorem ld_p_trial_crate (O : ld_Ok l K ad cc nL own R) {ix : Nat} {v : Int32} (hw : Cond.fieldLink own ix "LemonDeals$Street" "crate" "I" ∈ wsL_law) (hd : decode cc pc = .ok (.putfield ix, 3)) (k : K (us σ 121 (fun _ => v)) lv st (pc + 3)) : K σ lv (.int v :: .ref (ad 2) :: st) pc := by
  obtain ⟨X, p, e, s, m, args, below, meth, c, cells, slots, A, Q, hx, hb, hml, hown, hts, hinj, hK, hN, hA1, hA2, hR, rfl⟩ := O
  intro H locs ls hP hS hl
  refine va_put (D := X.1) (ci := 1) (v := .int v) (ty := .int) (C := RX1) (T := TX1) (N := 11) hx hb hts inlX1 tyX1 tyX1_ok nmX1 hown hK hP (ld_D hinj hA1 X σ) hS 2 (ld_at2 X ad σ) rfl 1 (by decide) (hts _ hw) (fun _ h9 => h9) rfl (by decide +kernel) rfl rfl (Nat.le_of_ble_eq_true rfl) hd (fun H locs hP hD hS => ?_)
  refine k H locs ls ?_ hS hl
  exact (ld_set X ad σ (us σ 121 (fun _ => v)) (by decide) (by rfl) (fun j h1 h2 => ld_ct_I X ad σ _ (by decide) (Or.inr (Or.inr (Or.inl ⟨by decide, by decide, rfl⟩))) h1 h2)) ▸ hP
theorem ld_p_trial_crateN (O : ld_Ok l K ad cc nL own R) {ix : Nat} {v : Int32} (hw : Cond.fieldLinkNest own ix "LemonDeals$Street" "crate" "I" "LemonDeals" ∈ ld_nws) (hd : decode cc pc = .ok (.putfield ix, 3)) (k : K (us σ 121 (fun _ => v)) lv st (pc + 3)) : K σ lv (.int v :: .ref (ad 2) :: st) pc := by
  obtain ⟨X, p, e, s, m, args, below, meth, c, cells, slots, A, Q, hx, hb, hml, hown, hts, hinj, hK, hN, hA1, hA2, hR, rfl⟩ := O
  intro H locs ls hP hS hl
  refine va_putN (D := X.1) (ci := 1) (v := .int v) (ty := .int) (C := RX1) (T := TX1) (N := 11) hx hb hts inlX1 tyX1 tyX1_ok nmX1 hown hK hP (ld_D hinj hA1 X σ) hS 2 (ld_at2 X ad σ) rfl 1 (by decide) (va_Nw.use rfl (hN _ hw)) (fun _ h9 => h9) rfl (by decide +kernel) rfl rfl (Nat.le_of_ble_eq_true rfl) hd (fun H locs hP hD hS => ?_)
  refine k H locs ls ?_ hS hl
  exact (ld_set X ad σ (us σ 121 (fun _ => v)) (by decide) (by rfl) (fun j h1 h2 => ld_ct_I X ad σ _ (by decide) (Or.inr (Or.inr (Or.inl ⟨by decide, by decide, rfl⟩))) h1 h2)) ▸ hP
theorem ld_g_trial_week (O : ld_Ok l K ad cc nL own R) {v : Int32} {ix : Nat} (hw : Cond.fieldLink own ix "LemonDeals$Street" "week" "I" ∈ wsL_law) (hv : σ 122 0 = v) (hd : decode cc pc = .ok (.getfield ix, 3)) (k : K σ lv (.int v :: st) (pc + 3)) : K σ lv (.ref (ad 2) :: st) pc := by
  obtain ⟨X, p, e, s, m, args, below, meth, c, cells, slots, A, Q, hx, hb, hml, hown, hts, hinj, hK, hN, hA1, hA2, hR, rfl⟩ := O
  intro H locs ls hP hS hl
  subst hv; exact va_get (D := X.1) (ci := 1) (C := RX1) (T := TX1) (N := 11) hx hb hts inlX1 hown hK hP 2 (ld_at2 X ad σ) rfl 2 (by decide) (hts _ hw) (fun _ h9 => h9) rfl hd (k H locs ls hP hS hl)
theorem ld_g_trial_weekN (O : ld_Ok l K ad cc nL own R) {v : Int32} {ix : Nat} (hw : Cond.fieldLinkNest own ix "LemonDeals$Street" "week" "I" "LemonDeals" ∈ ld_nws) (hv : σ 122 0 = v) (hd : decode cc pc = .ok (.getfield ix, 3)) (k : K σ lv (.int v :: st) (pc + 3)) : K σ lv (.ref (ad 2) :: st) pc := by
  obtain ⟨X, p, e, s, m, args, below, meth, c, cells, slots, A, Q, hx, hb, hml, hown, hts, hinj, hK, hN, hA1, hA2, hR, rfl⟩ := O
  intro H locs ls hP hS hl
  subst hv; exact va_getN (D := X.1) (ci := 1) (C := RX1) (T := TX1) (N := 11) hx hb hts inlX1 hown hK hP 2 (ld_at2 X ad σ) rfl 2 (by decide) (va_Nw.use rfl (hN _ hw)) (fun _ h9 => h9) rfl hd (k H locs ls hP hS hl)
theorem ld_p_trial_week (O : ld_Ok l K ad cc nL own R) {ix : Nat} {v : Int32} (hw : Cond.fieldLink own ix "LemonDeals$Street" "week" "I" ∈ wsL_law) (hd : decode cc pc = .ok (.putfield ix, 3)) (k : K (us σ 122 (fun _ => v)) lv st (pc + 3)) : K σ lv (.int v :: .ref (ad 2) :: st) pc := by
  obtain ⟨X, p, e, s, m, args, below, meth, c, cells, slots, A, Q, hx, hb, hml, hown, hts, hinj, hK, hN, hA1, hA2, hR, rfl⟩ := O
  intro H locs ls hP hS hl
  refine va_put (D := X.1) (ci := 1) (v := .int v) (ty := .int) (C := RX1) (T := TX1) (N := 11) hx hb hts inlX1 tyX1 tyX1_ok nmX1 hown hK hP (ld_D hinj hA1 X σ) hS 2 (ld_at2 X ad σ) rfl 2 (by decide) (hts _ hw) (fun _ h9 => h9) rfl (by decide +kernel) rfl rfl (Nat.le_of_ble_eq_true rfl) hd (fun H locs hP hD hS => ?_)
  refine k H locs ls ?_ hS hl
  exact (ld_set X ad σ (us σ 122 (fun _ => v)) (by decide) (by rfl) (fun j h1 h2 => ld_ct_I X ad σ _ (by decide) (Or.inr (Or.inr (Or.inl ⟨by decide, by decide, rfl⟩))) h1 h2)) ▸ hP
theorem ld_p_trial_weekN (O : ld_Ok l K ad cc nL own R) {ix : Nat} {v : Int32} (hw : Cond.fieldLinkNest own ix "LemonDeals$Street" "week" "I" "LemonDeals" ∈ ld_nws) (hd : decode cc pc = .ok (.putfield ix, 3)) (k : K (us σ 122 (fun _ => v)) lv st (pc + 3)) : K σ lv (.int v :: .ref (ad 2) :: st) pc := by
  obtain ⟨X, p, e, s, m, args, below, meth, c, cells, slots, A, Q, hx, hb, hml, hown, hts, hinj, hK, hN, hA1, hA2, hR, rfl⟩ := O
  intro H locs ls hP hS hl
  refine va_putN (D := X.1) (ci := 1) (v := .int v) (ty := .int) (C := RX1) (T := TX1) (N := 11) hx hb hts inlX1 tyX1 tyX1_ok nmX1 hown hK hP (ld_D hinj hA1 X σ) hS 2 (ld_at2 X ad σ) rfl 2 (by decide) (va_Nw.use rfl (hN _ hw)) (fun _ h9 => h9) rfl (by decide +kernel) rfl rfl (Nat.le_of_ble_eq_true rfl) hd (fun H locs hP hD hS => ?_)
  refine k H locs ls ?_ hS hl
  exact (ld_set X ad σ (us σ 122 (fun _ => v)) (by decide) (by rfl) (fun j h1 h2 => ld_ct_I X ad σ _ (by decide) (Or.inr (Or.inr (Or.inl ⟨by decide, by decide, rfl⟩))) h1 h2)) ▸ hP
theorem ld_g_trial_leanWeeks (O : ld_Ok l K ad cc nL own R) {v : Int32} {ix : Nat} (hw : Cond.fieldLink own ix "LemonDeals$Street" "leanWeeks" "I" ∈ wsL_law) (hv : σ 123 0 = v) (hd : decode cc pc = .ok (.getfield ix, 3)) (k : K σ lv (.int v :: st) (pc + 3)) : K σ lv (.ref (ad 2) :: st) pc := by
  obtain ⟨X, p, e, s, m, args, below, meth, c, cells, slots, A, Q, hx, hb, hml, hown, hts, hinj, hK, hN, hA1, hA2, hR, rfl⟩ := O
  intro H locs ls hP hS hl
  subst hv; exact va_get (D := X.1) (ci := 1) (C := RX1) (T := TX1) (N := 11) hx hb hts inlX1 hown hK hP 2 (ld_at2 X ad σ) rfl 3 (by decide) (hts _ hw) (fun _ h9 => h9) rfl hd (k H locs ls hP hS hl)
theorem ld_g_trial_leanWeeksN (O : ld_Ok l K ad cc nL own R) {v : Int32} {ix : Nat} (hw : Cond.fieldLinkNest own ix "LemonDeals$Street" "leanWeeks" "I" "LemonDeals" ∈ ld_nws) (hv : σ 123 0 = v) (hd : decode cc pc = .ok (.getfield ix, 3)) (k : K σ lv (.int v :: st) (pc + 3)) : K σ lv (.ref (ad 2) :: st) pc := by
  obtain ⟨X, p, e, s, m, args, below, meth, c, cells, slots, A, Q, hx, hb, hml, hown, hts, hinj, hK, hN, hA1, hA2, hR, rfl⟩ := O
  intro H locs ls hP hS hl
  subst hv; exact va_getN (D := X.1) (ci := 1) (C := RX1) (T := TX1) (N := 11) hx hb hts inlX1 hown hK hP 2 (ld_at2 X ad σ) rfl 3 (by decide) (va_Nw.use rfl (hN _ hw)) (fun _ h9 => h9) rfl hd (k H locs ls hP hS hl)
theorem ld_p_trial_leanWeeks (O : ld_Ok l K ad cc nL own R) {ix : Nat} {v : Int32} (hw : Cond.fieldLink own ix "LemonDeals$Street" "leanWeeks" "I" ∈ wsL_law) (hd : decode cc pc = .ok (.putfield ix, 3)) (k : K (us σ 123 (fun _ => v)) lv st (pc + 3)) : K σ lv (.int v :: .ref (ad 2) :: st) pc := by
  obtain ⟨X, p, e, s, m, args, below, meth, c, cells, slots, A, Q, hx, hb, hml, hown, hts, hinj, hK, hN, hA1, hA2, hR, rfl⟩ := O
  intro H locs ls hP hS hl
  refine va_put (D := X.1) (ci := 1) (v := .int v) (ty := .int) (C := RX1) (T := TX1) (N := 11) hx hb hts inlX1 tyX1 tyX1_ok nmX1 hown hK hP (ld_D hinj hA1 X σ) hS 2 (ld_at2 X ad σ) rfl 3 (by decide) (hts _ hw) (fun _ h9 => h9) rfl (by decide +kernel) rfl rfl (Nat.le_of_ble_eq_true rfl) hd (fun H locs hP hD hS => ?_)
  refine k H locs ls ?_ hS hl
  exact (ld_set X ad σ (us σ 123 (fun _ => v)) (by decide) (by rfl) (fun j h1 h2 => ld_ct_I X ad σ _ (by decide) (Or.inr (Or.inr (Or.inl ⟨by decide, by decide, rfl⟩))) h1 h2)) ▸ hP
theorem ld_p_trial_leanWeeksN (O : ld_Ok l K ad cc nL own R) {ix : Nat} {v : Int32} (hw : Cond.fieldLinkNest own ix "LemonDeals$Street" "leanWeeks" "I" "LemonDeals" ∈ ld_nws) (hd : decode cc pc = .ok (.putfield ix, 3)) (k : K (us σ 123 (fun _ => v)) lv st (pc + 3)) : K σ lv (.int v :: .ref (ad 2) :: st) pc := by
  obtain ⟨X, p, e, s, m, args, below, meth, c, cells, slots, A, Q, hx, hb, hml, hown, hts, hinj, hK, hN, hA1, hA2, hR, rfl⟩ := O
  intro H locs ls hP hS hl
  refine va_putN (D := X.1) (ci := 1) (v := .int v) (ty := .int) (C := RX1) (T := TX1) (N := 11) hx hb hts inlX1 tyX1 tyX1_ok nmX1 hown hK hP (ld_D hinj hA1 X σ) hS 2 (ld_at2 X ad σ) rfl 3 (by decide) (va_Nw.use rfl (hN _ hw)) (fun _ h9 => h9) rfl (by decide +kernel) rfl rfl (Nat.le_of_ble_eq_true rfl) hd (fun H locs hP hD hS => ?_)
  refine k H locs ls ?_ hS hl
  exact (ld_set X ad σ (us σ 123 (fun _ => v)) (by decide) (by rfl) (fun j h1 h2 => ld_ct_I X ad σ _ (by decide) (Or.inr (Or.inr (Or.inl ⟨by decide, by decide, rfl⟩))) h1 h2)) ▸ hP
theorem ld_g_M_fault (O : ld_Ok l K ad cc nL own R) {v : Int32} {ix : Nat} (hw : Cond.fieldLink own ix "LemonDealsModel" "fault" "I" ∈ wsL_law) (hv : σ 140 0 = v) (hd : decode cc pc = .ok (.getfield ix, 3)) (k : K σ lv (.int v :: st) (pc + 3)) : K σ lv (.ref (ad 8) :: st) pc := by
  obtain ⟨X, p, e, s, m, args, below, meth, c, cells, slots, A, Q, hx, hb, hml, hown, hts, hinj, hK, hN, hA1, hA2, hR, rfl⟩ := O
  intro H locs ls hP hS hl
  subst hv; exact va_get (D := X.1) (ci := 3) (C := RX3) (T := TX3) (N := 30) hx hb hts inlX3 hown hK hP 8 (ld_at8 X ad σ) rfl 0 (by decide) (hts _ hw) (fun _ h9 => h9) rfl hd (k H locs ls hP hS hl)
theorem ld_p_M_fault (O : ld_Ok l K ad cc nL own R) {ix : Nat} {v : Int32} (hw : Cond.fieldLink own ix "LemonDealsModel" "fault" "I" ∈ wsL_law) (hd : decode cc pc = .ok (.putfield ix, 3)) (k : K (us σ 140 (fun _ => v)) lv st (pc + 3)) : K σ lv (.int v :: .ref (ad 8) :: st) pc := by
  obtain ⟨X, p, e, s, m, args, below, meth, c, cells, slots, A, Q, hx, hb, hml, hown, hts, hinj, hK, hN, hA1, hA2, hR, rfl⟩ := O
  intro H locs ls hP hS hl
  refine va_put (D := X.1) (ci := 3) (v := .int v) (ty := .int) (C := RX3) (T := TX3) (N := 30) hx hb hts inlX3 tyX3 tyX3_ok nmX3 hown hK hP (ld_D hinj hA1 X σ) hS 8 (ld_at8 X ad σ) rfl 0 (by decide) (hts _ hw) (fun _ h9 => h9) rfl (by decide +kernel) rfl rfl (Nat.le_of_ble_eq_true rfl) hd (fun H locs hP hD hS => ?_)
  refine k H locs ls ?_ hS hl
  exact (ld_set X ad σ (us σ 140 (fun _ => v)) (by decide) (by rfl) (fun j h1 h2 => ld_ct_I X ad σ _ (by decide) (Or.inr (Or.inr (Or.inr ⟨by decide, rfl⟩))) h1 h2)) ▸ hP
theorem ld_g_M_houses (O : ld_Ok l K ad cc nL own R) {v : Int32} {ix : Nat} (hw : Cond.fieldLink own ix "LemonDealsModel" "houses" "I" ∈ wsL_law) (hv : σ 141 0 = v) (hd : decode cc pc = .ok (.getfield ix, 3)) (k : K σ lv (.int v :: st) (pc + 3)) : K σ lv (.ref (ad 8) :: st) pc := by
  obtain ⟨X, p, e, s, m, args, below, meth, c, cells, slots, A, Q, hx, hb, hml, hown, hts, hinj, hK, hN, hA1, hA2, hR, rfl⟩ := O
  intro H locs ls hP hS hl
  subst hv; exact va_get (D := X.1) (ci := 3) (C := RX3) (T := TX3) (N := 30) hx hb hts inlX3 hown hK hP 8 (ld_at8 X ad σ) rfl 1 (by decide) (hts _ hw) (fun _ h9 => h9) rfl hd (k H locs ls hP hS hl)
theorem ld_p_M_houses (O : ld_Ok l K ad cc nL own R) {ix : Nat} {v : Int32} (hw : Cond.fieldLink own ix "LemonDealsModel" "houses" "I" ∈ wsL_law) (hd : decode cc pc = .ok (.putfield ix, 3)) (k : K (us σ 141 (fun _ => v)) lv st (pc + 3)) : K σ lv (.int v :: .ref (ad 8) :: st) pc := by
  obtain ⟨X, p, e, s, m, args, below, meth, c, cells, slots, A, Q, hx, hb, hml, hown, hts, hinj, hK, hN, hA1, hA2, hR, rfl⟩ := O
  intro H locs ls hP hS hl
  refine va_put (D := X.1) (ci := 3) (v := .int v) (ty := .int) (C := RX3) (T := TX3) (N := 30) hx hb hts inlX3 tyX3 tyX3_ok nmX3 hown hK hP (ld_D hinj hA1 X σ) hS 8 (ld_at8 X ad σ) rfl 1 (by decide) (hts _ hw) (fun _ h9 => h9) rfl (by decide +kernel) rfl rfl (Nat.le_of_ble_eq_true rfl) hd (fun H locs hP hD hS => ?_)
  refine k H locs ls ?_ hS hl
  exact (ld_set X ad σ (us σ 141 (fun _ => v)) (by decide) (by rfl) (fun j h1 h2 => ld_ct_I X ad σ _ (by decide) (Or.inr (Or.inr (Or.inr ⟨by decide, rfl⟩))) h1 h2)) ▸ hP
theorem ld_g_M_crateNow (O : ld_Ok l K ad cc nL own R) {v : Int32} {ix : Nat} (hw : Cond.fieldLink own ix "LemonDealsModel" "crateNow" "I" ∈ wsL_law) (hv : σ 142 0 = v) (hd : decode cc pc = .ok (.getfield ix, 3)) (k : K σ lv (.int v :: st) (pc + 3)) : K σ lv (.ref (ad 8) :: st) pc := by
  obtain ⟨X, p, e, s, m, args, below, meth, c, cells, slots, A, Q, hx, hb, hml, hown, hts, hinj, hK, hN, hA1, hA2, hR, rfl⟩ := O
  intro H locs ls hP hS hl
  subst hv; exact va_get (D := X.1) (ci := 3) (C := RX3) (T := TX3) (N := 30) hx hb hts inlX3 hown hK hP 8 (ld_at8 X ad σ) rfl 2 (by decide) (hts _ hw) (fun _ h9 => h9) rfl hd (k H locs ls hP hS hl)
theorem ld_p_M_crateNow (O : ld_Ok l K ad cc nL own R) {ix : Nat} {v : Int32} (hw : Cond.fieldLink own ix "LemonDealsModel" "crateNow" "I" ∈ wsL_law) (hd : decode cc pc = .ok (.putfield ix, 3)) (k : K (us σ 142 (fun _ => v)) lv st (pc + 3)) : K σ lv (.int v :: .ref (ad 8) :: st) pc := by
  obtain ⟨X, p, e, s, m, args, below, meth, c, cells, slots, A, Q, hx, hb, hml, hown, hts, hinj, hK, hN, hA1, hA2, hR, rfl⟩ := O
  intro H locs ls hP hS hl
  refine va_put (D := X.1) (ci := 3) (v := .int v) (ty := .int) (C := RX3) (T := TX3) (N := 30) hx hb hts inlX3 tyX3 tyX3_ok nmX3 hown hK hP (ld_D hinj hA1 X σ) hS 8 (ld_at8 X ad σ) rfl 2 (by decide) (hts _ hw) (fun _ h9 => h9) rfl (by decide +kernel) rfl rfl (Nat.le_of_ble_eq_true rfl) hd (fun H locs hP hD hS => ?_)
  refine k H locs ls ?_ hS hl
  exact (ld_set X ad σ (us σ 142 (fun _ => v)) (by decide) (by rfl) (fun j h1 h2 => ld_ct_I X ad σ _ (by decide) (Or.inr (Or.inr (Or.inr ⟨by decide, rfl⟩))) h1 h2)) ▸ hP
theorem ld_g_M_weekNow (O : ld_Ok l K ad cc nL own R) {v : Int32} {ix : Nat} (hw : Cond.fieldLink own ix "LemonDealsModel" "weekNow" "I" ∈ wsL_law) (hv : σ 143 0 = v) (hd : decode cc pc = .ok (.getfield ix, 3)) (k : K σ lv (.int v :: st) (pc + 3)) : K σ lv (.ref (ad 8) :: st) pc := by
  obtain ⟨X, p, e, s, m, args, below, meth, c, cells, slots, A, Q, hx, hb, hml, hown, hts, hinj, hK, hN, hA1, hA2, hR, rfl⟩ := O
  intro H locs ls hP hS hl
  subst hv; exact va_get (D := X.1) (ci := 3) (C := RX3) (T := TX3) (N := 30) hx hb hts inlX3 hown hK hP 8 (ld_at8 X ad σ) rfl 3 (by decide) (hts _ hw) (fun _ h9 => h9) rfl hd (k H locs ls hP hS hl)
theorem ld_p_M_weekNow (O : ld_Ok l K ad cc nL own R) {ix : Nat} {v : Int32} (hw : Cond.fieldLink own ix "LemonDealsModel" "weekNow" "I" ∈ wsL_law) (hd : decode cc pc = .ok (.putfield ix, 3)) (k : K (us σ 143 (fun _ => v)) lv st (pc + 3)) : K σ lv (.int v :: .ref (ad 8) :: st) pc := by
  obtain ⟨X, p, e, s, m, args, below, meth, c, cells, slots, A, Q, hx, hb, hml, hown, hts, hinj, hK, hN, hA1, hA2, hR, rfl⟩ := O
  intro H locs ls hP hS hl
  refine va_put (D := X.1) (ci := 3) (v := .int v) (ty := .int) (C := RX3) (T := TX3) (N := 30) hx hb hts inlX3 tyX3 tyX3_ok nmX3 hown hK hP (ld_D hinj hA1 X σ) hS 8 (ld_at8 X ad σ) rfl 3 (by decide) (hts _ hw) (fun _ h9 => h9) rfl (by decide +kernel) rfl rfl (Nat.le_of_ble_eq_true rfl) hd (fun H locs hP hD hS => ?_)
  refine k H locs ls ?_ hS hl
  exact (ld_set X ad σ (us σ 143 (fun _ => v)) (by decide) (by rfl) (fun j h1 h2 => ld_ct_I X ad σ _ (by decide) (Or.inr (Or.inr (Or.inr ⟨by decide, rfl⟩))) h1 h2)) ▸ hP
theorem ld_g_M_readAt (O : ld_Ok l K ad cc nL own R) {v : Int32} {ix : Nat} (hw : Cond.fieldLink own ix "LemonDealsModel" "readAt" "I" ∈ wsL_law) (hv : σ 144 0 = v) (hd : decode cc pc = .ok (.getfield ix, 3)) (k : K σ lv (.int v :: st) (pc + 3)) : K σ lv (.ref (ad 8) :: st) pc := by
  obtain ⟨X, p, e, s, m, args, below, meth, c, cells, slots, A, Q, hx, hb, hml, hown, hts, hinj, hK, hN, hA1, hA2, hR, rfl⟩ := O
  intro H locs ls hP hS hl
  subst hv; exact va_get (D := X.1) (ci := 3) (C := RX3) (T := TX3) (N := 30) hx hb hts inlX3 hown hK hP 8 (ld_at8 X ad σ) rfl 8 (by decide) (hts _ hw) (fun _ h9 => h9) rfl hd (k H locs ls hP hS hl)
theorem ld_p_M_readAt (O : ld_Ok l K ad cc nL own R) {ix : Nat} {v : Int32} (hw : Cond.fieldLink own ix "LemonDealsModel" "readAt" "I" ∈ wsL_law) (hd : decode cc pc = .ok (.putfield ix, 3)) (k : K (us σ 144 (fun _ => v)) lv st (pc + 3)) : K σ lv (.int v :: .ref (ad 8) :: st) pc := by
  obtain ⟨X, p, e, s, m, args, below, meth, c, cells, slots, A, Q, hx, hb, hml, hown, hts, hinj, hK, hN, hA1, hA2, hR, rfl⟩ := O
  intro H locs ls hP hS hl
  refine va_put (D := X.1) (ci := 3) (v := .int v) (ty := .int) (C := RX3) (T := TX3) (N := 30) hx hb hts inlX3 tyX3 tyX3_ok nmX3 hown hK hP (ld_D hinj hA1 X σ) hS 8 (ld_at8 X ad σ) rfl 8 (by decide) (hts _ hw) (fun _ h9 => h9) rfl (by decide +kernel) rfl rfl (Nat.le_of_ble_eq_true rfl) hd (fun H locs hP hD hS => ?_)
  refine k H locs ls ?_ hS hl
  exact (ld_set X ad σ (us σ 144 (fun _ => v)) (by decide) (by rfl) (fun j h1 h2 => ld_ct_I X ad σ _ (by decide) (Or.inr (Or.inr (Or.inr ⟨by decide, rfl⟩))) h1 h2)) ▸ hP
theorem ld_g_M_readHouses (O : ld_Ok l K ad cc nL own R) {v : Int32} {ix : Nat} (hw : Cond.fieldLink own ix "LemonDealsModel" "readHouses" "I" ∈ wsL_law) (hv : σ 145 0 = v) (hd : decode cc pc = .ok (.getfield ix, 3)) (k : K σ lv (.int v :: st) (pc + 3)) : K σ lv (.ref (ad 8) :: st) pc := by
  obtain ⟨X, p, e, s, m, args, below, meth, c, cells, slots, A, Q, hx, hb, hml, hown, hts, hinj, hK, hN, hA1, hA2, hR, rfl⟩ := O
  intro H locs ls hP hS hl
  subst hv; exact va_get (D := X.1) (ci := 3) (C := RX3) (T := TX3) (N := 30) hx hb hts inlX3 hown hK hP 8 (ld_at8 X ad σ) rfl 9 (by decide) (hts _ hw) (fun _ h9 => h9) rfl hd (k H locs ls hP hS hl)
theorem ld_p_M_readHouses (O : ld_Ok l K ad cc nL own R) {ix : Nat} {v : Int32} (hw : Cond.fieldLink own ix "LemonDealsModel" "readHouses" "I" ∈ wsL_law) (hd : decode cc pc = .ok (.putfield ix, 3)) (k : K (us σ 145 (fun _ => v)) lv st (pc + 3)) : K σ lv (.int v :: .ref (ad 8) :: st) pc := by
  obtain ⟨X, p, e, s, m, args, below, meth, c, cells, slots, A, Q, hx, hb, hml, hown, hts, hinj, hK, hN, hA1, hA2, hR, rfl⟩ := O
  intro H locs ls hP hS hl
  refine va_put (D := X.1) (ci := 3) (v := .int v) (ty := .int) (C := RX3) (T := TX3) (N := 30) hx hb hts inlX3 tyX3 tyX3_ok nmX3 hown hK hP (ld_D hinj hA1 X σ) hS 8 (ld_at8 X ad σ) rfl 9 (by decide) (hts _ hw) (fun _ h9 => h9) rfl (by decide +kernel) rfl rfl (Nat.le_of_ble_eq_true rfl) hd (fun H locs hP hD hS => ?_)
  refine k H locs ls ?_ hS hl
  exact (ld_set X ad σ (us σ 145 (fun _ => v)) (by decide) (by rfl) (fun j h1 h2 => ld_ct_I X ad σ _ (by decide) (Or.inr (Or.inr (Or.inr ⟨by decide, rfl⟩))) h1 h2)) ▸ hP
theorem ld_g_M_readCrate (O : ld_Ok l K ad cc nL own R) {v : Int32} {ix : Nat} (hw : Cond.fieldLink own ix "LemonDealsModel" "readCrate" "I" ∈ wsL_law) (hv : σ 146 0 = v) (hd : decode cc pc = .ok (.getfield ix, 3)) (k : K σ lv (.int v :: st) (pc + 3)) : K σ lv (.ref (ad 8) :: st) pc := by
  obtain ⟨X, p, e, s, m, args, below, meth, c, cells, slots, A, Q, hx, hb, hml, hown, hts, hinj, hK, hN, hA1, hA2, hR, rfl⟩ := O
  intro H locs ls hP hS hl
  subst hv; exact va_get (D := X.1) (ci := 3) (C := RX3) (T := TX3) (N := 30) hx hb hts inlX3 hown hK hP 8 (ld_at8 X ad σ) rfl 10 (by decide) (hts _ hw) (fun _ h9 => h9) rfl hd (k H locs ls hP hS hl)
theorem ld_p_M_readCrate (O : ld_Ok l K ad cc nL own R) {ix : Nat} {v : Int32} (hw : Cond.fieldLink own ix "LemonDealsModel" "readCrate" "I" ∈ wsL_law) (hd : decode cc pc = .ok (.putfield ix, 3)) (k : K (us σ 146 (fun _ => v)) lv st (pc + 3)) : K σ lv (.int v :: .ref (ad 8) :: st) pc := by
  obtain ⟨X, p, e, s, m, args, below, meth, c, cells, slots, A, Q, hx, hb, hml, hown, hts, hinj, hK, hN, hA1, hA2, hR, rfl⟩ := O
  intro H locs ls hP hS hl
  refine va_put (D := X.1) (ci := 3) (v := .int v) (ty := .int) (C := RX3) (T := TX3) (N := 30) hx hb hts inlX3 tyX3 tyX3_ok nmX3 hown hK hP (ld_D hinj hA1 X σ) hS 8 (ld_at8 X ad σ) rfl 10 (by decide) (hts _ hw) (fun _ h9 => h9) rfl (by decide +kernel) rfl rfl (Nat.le_of_ble_eq_true rfl) hd (fun H locs hP hD hS => ?_)
  refine k H locs ls ?_ hS hl
  exact (ld_set X ad σ (us σ 146 (fun _ => v)) (by decide) (by rfl) (fun j h1 h2 => ld_ct_I X ad σ _ (by decide) (Or.inr (Or.inr (Or.inr ⟨by decide, rfl⟩))) h1 h2)) ▸ hP
theorem ld_g_M_crateKept (O : ld_Ok l K ad cc nL own R) {v : Int32} {ix : Nat} (hw : Cond.fieldLink own ix "LemonDealsModel" "crateKept" "I" ∈ wsL_law) (hv : σ 147 0 = v) (hd : decode cc pc = .ok (.getfield ix, 3)) (k : K σ lv (.int v :: st) (pc + 3)) : K σ lv (.ref (ad 8) :: st) pc := by
  obtain ⟨X, p, e, s, m, args, below, meth, c, cells, slots, A, Q, hx, hb, hml, hown, hts, hinj, hK, hN, hA1, hA2, hR, rfl⟩ := O
  intro H locs ls hP hS hl
  subst hv; exact va_get (D := X.1) (ci := 3) (C := RX3) (T := TX3) (N := 30) hx hb hts inlX3 hown hK hP 8 (ld_at8 X ad σ) rfl 15 (by decide) (hts _ hw) (fun _ h9 => h9) rfl hd (k H locs ls hP hS hl)
theorem ld_p_M_crateKept (O : ld_Ok l K ad cc nL own R) {ix : Nat} {v : Int32} (hw : Cond.fieldLink own ix "LemonDealsModel" "crateKept" "I" ∈ wsL_law) (hd : decode cc pc = .ok (.putfield ix, 3)) (k : K (us σ 147 (fun _ => v)) lv st (pc + 3)) : K σ lv (.int v :: .ref (ad 8) :: st) pc := by
  obtain ⟨X, p, e, s, m, args, below, meth, c, cells, slots, A, Q, hx, hb, hml, hown, hts, hinj, hK, hN, hA1, hA2, hR, rfl⟩ := O
  intro H locs ls hP hS hl
  refine va_put (D := X.1) (ci := 3) (v := .int v) (ty := .int) (C := RX3) (T := TX3) (N := 30) hx hb hts inlX3 tyX3 tyX3_ok nmX3 hown hK hP (ld_D hinj hA1 X σ) hS 8 (ld_at8 X ad σ) rfl 15 (by decide) (hts _ hw) (fun _ h9 => h9) rfl (by decide +kernel) rfl rfl (Nat.le_of_ble_eq_true rfl) hd (fun H locs hP hD hS => ?_)
  refine k H locs ls ?_ hS hl
  exact (ld_set X ad σ (us σ 147 (fun _ => v)) (by decide) (by rfl) (fun j h1 h2 => ld_ct_I X ad σ _ (by decide) (Or.inr (Or.inr (Or.inr ⟨by decide, rfl⟩))) h1 h2)) ▸ hP
theorem ld_g_M_weekKept (O : ld_Ok l K ad cc nL own R) {v : Int32} {ix : Nat} (hw : Cond.fieldLink own ix "LemonDealsModel" "weekKept" "I" ∈ wsL_law) (hv : σ 148 0 = v) (hd : decode cc pc = .ok (.getfield ix, 3)) (k : K σ lv (.int v :: st) (pc + 3)) : K σ lv (.ref (ad 8) :: st) pc := by
  obtain ⟨X, p, e, s, m, args, below, meth, c, cells, slots, A, Q, hx, hb, hml, hown, hts, hinj, hK, hN, hA1, hA2, hR, rfl⟩ := O
  intro H locs ls hP hS hl
  subst hv; exact va_get (D := X.1) (ci := 3) (C := RX3) (T := TX3) (N := 30) hx hb hts inlX3 hown hK hP 8 (ld_at8 X ad σ) rfl 16 (by decide) (hts _ hw) (fun _ h9 => h9) rfl hd (k H locs ls hP hS hl)
theorem ld_p_M_weekKept (O : ld_Ok l K ad cc nL own R) {ix : Nat} {v : Int32} (hw : Cond.fieldLink own ix "LemonDealsModel" "weekKept" "I" ∈ wsL_law) (hd : decode cc pc = .ok (.putfield ix, 3)) (k : K (us σ 148 (fun _ => v)) lv st (pc + 3)) : K σ lv (.int v :: .ref (ad 8) :: st) pc := by
  obtain ⟨X, p, e, s, m, args, below, meth, c, cells, slots, A, Q, hx, hb, hml, hown, hts, hinj, hK, hN, hA1, hA2, hR, rfl⟩ := O
  intro H locs ls hP hS hl
  refine va_put (D := X.1) (ci := 3) (v := .int v) (ty := .int) (C := RX3) (T := TX3) (N := 30) hx hb hts inlX3 tyX3 tyX3_ok nmX3 hown hK hP (ld_D hinj hA1 X σ) hS 8 (ld_at8 X ad σ) rfl 16 (by decide) (hts _ hw) (fun _ h9 => h9) rfl (by decide +kernel) rfl rfl (Nat.le_of_ble_eq_true rfl) hd (fun H locs hP hD hS => ?_)
  refine k H locs ls ?_ hS hl
  exact (ld_set X ad σ (us σ 148 (fun _ => v)) (by decide) (by rfl) (fun j h1 h2 => ld_ct_I X ad σ _ (by decide) (Or.inr (Or.inr (Or.inr ⟨by decide, rfl⟩))) h1 h2)) ▸ hP
theorem ld_g_M_weeksWithout (O : ld_Ok l K ad cc nL own R) {v : Int32} {ix : Nat} (hw : Cond.fieldLink own ix "LemonDealsModel" "weeksWithout" "I" ∈ wsL_law) (hv : σ 149 0 = v) (hd : decode cc pc = .ok (.getfield ix, 3)) (k : K σ lv (.int v :: st) (pc + 3)) : K σ lv (.ref (ad 8) :: st) pc := by
  obtain ⟨X, p, e, s, m, args, below, meth, c, cells, slots, A, Q, hx, hb, hml, hown, hts, hinj, hK, hN, hA1, hA2, hR, rfl⟩ := O
  intro H locs ls hP hS hl
  subst hv; exact va_get (D := X.1) (ci := 3) (C := RX3) (T := TX3) (N := 30) hx hb hts inlX3 hown hK hP 8 (ld_at8 X ad σ) rfl 20 (by decide) (hts _ hw) (fun _ h9 => h9) rfl hd (k H locs ls hP hS hl)
theorem ld_p_M_weeksWithout (O : ld_Ok l K ad cc nL own R) {ix : Nat} {v : Int32} (hw : Cond.fieldLink own ix "LemonDealsModel" "weeksWithout" "I" ∈ wsL_law) (hd : decode cc pc = .ok (.putfield ix, 3)) (k : K (us σ 149 (fun _ => v)) lv st (pc + 3)) : K σ lv (.int v :: .ref (ad 8) :: st) pc := by
  obtain ⟨X, p, e, s, m, args, below, meth, c, cells, slots, A, Q, hx, hb, hml, hown, hts, hinj, hK, hN, hA1, hA2, hR, rfl⟩ := O
  intro H locs ls hP hS hl
  refine va_put (D := X.1) (ci := 3) (v := .int v) (ty := .int) (C := RX3) (T := TX3) (N := 30) hx hb hts inlX3 tyX3 tyX3_ok nmX3 hown hK hP (ld_D hinj hA1 X σ) hS 8 (ld_at8 X ad σ) rfl 20 (by decide) (hts _ hw) (fun _ h9 => h9) rfl (by decide +kernel) rfl rfl (Nat.le_of_ble_eq_true rfl) hd (fun H locs hP hD hS => ?_)
  refine k H locs ls ?_ hS hl
  exact (ld_set X ad σ (us σ 149 (fun _ => v)) (by decide) (by rfl) (fun j h1 h2 => ld_ct_I X ad σ _ (by decide) (Or.inr (Or.inr (Or.inr ⟨by decide, rfl⟩))) h1 h2)) ▸ hP
theorem ld_g_M_readings (O : ld_Ok l K ad cc nL own R) {v : Int32} {ix : Nat} (hw : Cond.fieldLink own ix "LemonDealsModel" "readings" "I" ∈ wsL_law) (hv : σ 150 0 = v) (hd : decode cc pc = .ok (.getfield ix, 3)) (k : K σ lv (.int v :: st) (pc + 3)) : K σ lv (.ref (ad 8) :: st) pc := by
  obtain ⟨X, p, e, s, m, args, below, meth, c, cells, slots, A, Q, hx, hb, hml, hown, hts, hinj, hK, hN, hA1, hA2, hR, rfl⟩ := O
  intro H locs ls hP hS hl
  subst hv; exact va_get (D := X.1) (ci := 3) (C := RX3) (T := TX3) (N := 30) hx hb hts inlX3 hown hK hP 8 (ld_at8 X ad σ) rfl 22 (by decide) (hts _ hw) (fun _ h9 => h9) rfl hd (k H locs ls hP hS hl)
theorem ld_p_M_readings (O : ld_Ok l K ad cc nL own R) {ix : Nat} {v : Int32} (hw : Cond.fieldLink own ix "LemonDealsModel" "readings" "I" ∈ wsL_law) (hd : decode cc pc = .ok (.putfield ix, 3)) (k : K (us σ 150 (fun _ => v)) lv st (pc + 3)) : K σ lv (.int v :: .ref (ad 8) :: st) pc := by
  obtain ⟨X, p, e, s, m, args, below, meth, c, cells, slots, A, Q, hx, hb, hml, hown, hts, hinj, hK, hN, hA1, hA2, hR, rfl⟩ := O
  intro H locs ls hP hS hl
  refine va_put (D := X.1) (ci := 3) (v := .int v) (ty := .int) (C := RX3) (T := TX3) (N := 30) hx hb hts inlX3 tyX3 tyX3_ok nmX3 hown hK hP (ld_D hinj hA1 X σ) hS 8 (ld_at8 X ad σ) rfl 22 (by decide) (hts _ hw) (fun _ h9 => h9) rfl (by decide +kernel) rfl rfl (Nat.le_of_ble_eq_true rfl) hd (fun H locs hP hD hS => ?_)
  refine k H locs ls ?_ hS hl
  exact (ld_set X ad σ (us σ 150 (fun _ => v)) (by decide) (by rfl) (fun j h1 h2 => ld_ct_I X ad σ _ (by decide) (Or.inr (Or.inr (Or.inr ⟨by decide, rfl⟩))) h1 h2)) ▸ hP
theorem ld_g_M_traceNow (O : ld_Ok l K ad cc nL own R) {v : Int32} {ix : Nat} (hw : Cond.fieldLink own ix "LemonDealsModel" "traceNow" "I" ∈ wsL_law) (hv : σ 151 0 = v) (hd : decode cc pc = .ok (.getfield ix, 3)) (k : K σ lv (.int v :: st) (pc + 3)) : K σ lv (.ref (ad 8) :: st) pc := by
  obtain ⟨X, p, e, s, m, args, below, meth, c, cells, slots, A, Q, hx, hb, hml, hown, hts, hinj, hK, hN, hA1, hA2, hR, rfl⟩ := O
  intro H locs ls hP hS hl
  subst hv; exact va_get (D := X.1) (ci := 3) (C := RX3) (T := TX3) (N := 30) hx hb hts inlX3 hown hK hP 8 (ld_at8 X ad σ) rfl 29 (by decide) (hts _ hw) (fun _ h9 => h9) rfl hd (k H locs ls hP hS hl)
theorem ld_p_M_traceNow (O : ld_Ok l K ad cc nL own R) {ix : Nat} {v : Int32} (hw : Cond.fieldLink own ix "LemonDealsModel" "traceNow" "I" ∈ wsL_law) (hd : decode cc pc = .ok (.putfield ix, 3)) (k : K (us σ 151 (fun _ => v)) lv st (pc + 3)) : K σ lv (.int v :: .ref (ad 8) :: st) pc := by
  obtain ⟨X, p, e, s, m, args, below, meth, c, cells, slots, A, Q, hx, hb, hml, hown, hts, hinj, hK, hN, hA1, hA2, hR, rfl⟩ := O
  intro H locs ls hP hS hl
  refine va_put (D := X.1) (ci := 3) (v := .int v) (ty := .int) (C := RX3) (T := TX3) (N := 30) hx hb hts inlX3 tyX3 tyX3_ok nmX3 hown hK hP (ld_D hinj hA1 X σ) hS 8 (ld_at8 X ad σ) rfl 29 (by decide) (hts _ hw) (fun _ h9 => h9) rfl (by decide +kernel) rfl rfl (Nat.le_of_ble_eq_true rfl) hd (fun H locs hP hD hS => ?_)
  refine k H locs ls ?_ hS hl
  exact (ld_set X ad σ (us σ 151 (fun _ => v)) (by decide) (by rfl) (fun j h1 h2 => ld_ct_I X ad σ _ (by decide) (Or.inr (Or.inr (Or.inr ⟨by decide, rfl⟩))) h1 h2)) ▸ hP
theorem ld_g_LD_now (O : ld_Ok l K ad cc nL own R) {ix : Nat} (hw : Cond.fieldLink own ix "LemonDeals" "now" "LLemonDeals$Street;" ∈ wsL_law) (hd : decode cc pc = .ok (.getfield ix, 3)) (k : K σ lv (.ref (ad 1) :: st) (pc + 3)) : K σ lv (.ref (ad 0) :: st) pc := by
  obtain ⟨X, p, e, s, m, args, below, meth, c, cells, slots, A, Q, hx, hb, hml, hown, hts, hinj, hK, hN, hA1, hA2, hR, rfl⟩ := O
  intro H locs ls hP hS hl
  exact va_get (D := X.1) (ci := 2) (C := RX2) (T := TX2) (N := 8) hx hb hts inlX2 hown hK hP 0 (ld_at0 X ad σ) rfl 0 (by decide) (hts _ hw) (fun _ h9 => h9) rfl hd (k H locs ls hP hS hl)
theorem ld_g_LD_trial (O : ld_Ok l K ad cc nL own R) {ix : Nat} (hw : Cond.fieldLink own ix "LemonDeals" "trial" "LLemonDeals$Street;" ∈ wsL_law) (hd : decode cc pc = .ok (.getfield ix, 3)) (k : K σ lv (.ref (ad 2) :: st) (pc + 3)) : K σ lv (.ref (ad 0) :: st) pc := by
  obtain ⟨X, p, e, s, m, args, below, meth, c, cells, slots, A, Q, hx, hb, hml, hown, hts, hinj, hK, hN, hA1, hA2, hR, rfl⟩ := O
  intro H locs ls hP hS hl
  exact va_get (D := X.1) (ci := 2) (C := RX2) (T := TX2) (N := 8) hx hb hts inlX2 hown hK hP 0 (ld_at0 X ad σ) rfl 1 (by decide) (hts _ hw) (fun _ h9 => h9) rfl hd (k H locs ls hP hS hl)
theorem ld_g_LD_sheets (O : ld_Ok l K ad cc nL own R) {ix : Nat} (hw : Cond.fieldLink own ix "LemonDeals" "sheets" "[LLemonDeals$Sheet;" ∈ wsL_law) (hd : decode cc pc = .ok (.getfield ix, 3)) (k : K σ lv (.ref (ad 3) :: st) (pc + 3)) : K σ lv (.ref (ad 0) :: st) pc := by
  obtain ⟨X, p, e, s, m, args, below, meth, c, cells, slots, A, Q, hx, hb, hml, hown, hts, hinj, hK, hN, hA1, hA2, hR, rfl⟩ := O
  intro H locs ls hP hS hl
  exact va_get (D := X.1) (ci := 2) (C := RX2) (T := TX2) (N := 8) hx hb hts inlX2 hown hK hP 0 (ld_at0 X ad σ) rfl 2 (by decide) (hts _ hw) (fun _ h9 => h9) rfl hd (k H locs ls hP hS hl)
theorem ld_g_LD_readHouse (O : ld_Ok l K ad cc nL own R) {ix : Nat} (hw : Cond.fieldLink own ix "LemonDeals" "readHouse" "[I" ∈ wsL_law) (hd : decode cc pc = .ok (.getfield ix, 3)) (k : K σ lv (.ref (ad (9 + 14)) :: st) (pc + 3)) : K σ lv (.ref (ad 0) :: st) pc := by
  obtain ⟨X, p, e, s, m, args, below, meth, c, cells, slots, A, Q, hx, hb, hml, hown, hts, hinj, hK, hN, hA1, hA2, hR, rfl⟩ := O
  intro H locs ls hP hS hl
  exact va_get (D := X.1) (ci := 2) (C := RX2) (T := TX2) (N := 8) hx hb hts inlX2 hown hK hP 0 (ld_at0 X ad σ) rfl 3 (by decide) (hts _ hw) (fun _ h9 => h9) rfl hd (k H locs ls hP hS hl)
theorem ld_g_LD_readDealt (O : ld_Ok l K ad cc nL own R) {ix : Nat} (hw : Cond.fieldLink own ix "LemonDeals" "readDealt" "[I" ∈ wsL_law) (hd : decode cc pc = .ok (.getfield ix, 3)) (k : K σ lv (.ref (ad (9 + 15)) :: st) (pc + 3)) : K σ lv (.ref (ad 0) :: st) pc := by
  obtain ⟨X, p, e, s, m, args, below, meth, c, cells, slots, A, Q, hx, hb, hml, hown, hts, hinj, hK, hN, hA1, hA2, hR, rfl⟩ := O
  intro H locs ls hP hS hl
  exact va_get (D := X.1) (ci := 2) (C := RX2) (T := TX2) (N := 8) hx hb hts inlX2 hown hK hP 0 (ld_at0 X ad σ) rfl 4 (by decide) (hts _ hw) (fun _ h9 => h9) rfl hd (k H locs ls hP hS hl)
theorem ld_g_now_kind (O : ld_Ok l K ad cc nL own R) {ix : Nat} (hw : Cond.fieldLink own ix "LemonDeals$Street" "kind" "[I" ∈ wsL_law) (hd : decode cc pc = .ok (.getfield ix, 3)) (k : K σ lv (.ref (ad (9 + 0)) :: st) (pc + 3)) : K σ lv (.ref (ad 1) :: st) pc := by
  obtain ⟨X, p, e, s, m, args, below, meth, c, cells, slots, A, Q, hx, hb, hml, hown, hts, hinj, hK, hN, hA1, hA2, hR, rfl⟩ := O
  intro H locs ls hP hS hl
  exact va_get (D := X.1) (ci := 1) (C := RX1) (T := TX1) (N := 11) hx hb hts inlX1 hown hK hP 1 (ld_at1 X ad σ) rfl 4 (by decide) (hts _ hw) (fun _ h9 => h9) rfl hd (k H locs ls hP hS hl)
theorem ld_g_now_kindN (O : ld_Ok l K ad cc nL own R) {ix : Nat} (hw : Cond.fieldLinkNest own ix "LemonDeals$Street" "kind" "[I" "LemonDeals" ∈ ld_nws) (hd : decode cc pc = .ok (.getfield ix, 3)) (k : K σ lv (.ref (ad (9 + 0)) :: st) (pc + 3)) : K σ lv (.ref (ad 1) :: st) pc := by
  obtain ⟨X, p, e, s, m, args, below, meth, c, cells, slots, A, Q, hx, hb, hml, hown, hts, hinj, hK, hN, hA1, hA2, hR, rfl⟩ := O
  intro H locs ls hP hS hl
  exact va_getN (D := X.1) (ci := 1) (C := RX1) (T := TX1) (N := 11) hx hb hts inlX1 hown hK hP 1 (ld_at1 X ad σ) rfl 4 (by decide) (va_Nw.use rfl (hN _ hw)) (fun _ h9 => h9) rfl hd (k H locs ls hP hS hl)
theorem ld_g_now_temper (O : ld_Ok l K ad cc nL own R) {ix : Nat} (hw : Cond.fieldLink own ix "LemonDeals$Street" "temper" "[I" ∈ wsL_law) (hd : decode cc pc = .ok (.getfield ix, 3)) (k : K σ lv (.ref (ad (9 + 1)) :: st) (pc + 3)) : K σ lv (.ref (ad 1) :: st) pc := by
  obtain ⟨X, p, e, s, m, args, below, meth, c, cells, slots, A, Q, hx, hb, hml, hown, hts, hinj, hK, hN, hA1, hA2, hR, rfl⟩ := O
  intro H locs ls hP hS hl
  exact va_get (D := X.1) (ci := 1) (C := RX1) (T := TX1) (N := 11) hx hb hts inlX1 hown hK hP 1 (ld_at1 X ad σ) rfl 5 (by decide) (hts _ hw) (fun _ h9 => h9) rfl hd (k H locs ls hP hS hl)
theorem ld_g_now_temperN (O : ld_Ok l K ad cc nL own R) {ix : Nat} (hw : Cond.fieldLinkNest own ix "LemonDeals$Street" "temper" "[I" "LemonDeals" ∈ ld_nws) (hd : decode cc pc = .ok (.getfield ix, 3)) (k : K σ lv (.ref (ad (9 + 1)) :: st) (pc + 3)) : K σ lv (.ref (ad 1) :: st) pc := by
  obtain ⟨X, p, e, s, m, args, below, meth, c, cells, slots, A, Q, hx, hb, hml, hown, hts, hinj, hK, hN, hA1, hA2, hR, rfl⟩ := O
  intro H locs ls hP hS hl
  exact va_getN (D := X.1) (ci := 1) (C := RX1) (T := TX1) (N := 11) hx hb hts inlX1 hown hK hP 1 (ld_at1 X ad σ) rfl 5 (by decide) (va_Nw.use rfl (hN _ hw)) (fun _ h9 => h9) rfl hd (k H locs ls hP hS hl)
theorem ld_g_now_stock (O : ld_Ok l K ad cc nL own R) {ix : Nat} (hw : Cond.fieldLink own ix "LemonDeals$Street" "stock" "[I" ∈ wsL_law) (hd : decode cc pc = .ok (.getfield ix, 3)) (k : K σ lv (.ref (ad (9 + 2)) :: st) (pc + 3)) : K σ lv (.ref (ad 1) :: st) pc := by
  obtain ⟨X, p, e, s, m, args, below, meth, c, cells, slots, A, Q, hx, hb, hml, hown, hts, hinj, hK, hN, hA1, hA2, hR, rfl⟩ := O
  intro H locs ls hP hS hl
  exact va_get (D := X.1) (ci := 1) (C := RX1) (T := TX1) (N := 11) hx hb hts inlX1 hown hK hP 1 (ld_at1 X ad σ) rfl 6 (by decide) (hts _ hw) (fun _ h9 => h9) rfl hd (k H locs ls hP hS hl)
theorem ld_g_now_stockN (O : ld_Ok l K ad cc nL own R) {ix : Nat} (hw : Cond.fieldLinkNest own ix "LemonDeals$Street" "stock" "[I" "LemonDeals" ∈ ld_nws) (hd : decode cc pc = .ok (.getfield ix, 3)) (k : K σ lv (.ref (ad (9 + 2)) :: st) (pc + 3)) : K σ lv (.ref (ad 1) :: st) pc := by
  obtain ⟨X, p, e, s, m, args, below, meth, c, cells, slots, A, Q, hx, hb, hml, hown, hts, hinj, hK, hN, hA1, hA2, hR, rfl⟩ := O
  intro H locs ls hP hS hl
  exact va_getN (D := X.1) (ci := 1) (C := RX1) (T := TX1) (N := 11) hx hb hts inlX1 hown hK hP 1 (ld_at1 X ad σ) rfl 6 (by decide) (va_Nw.use rfl (hN _ hw)) (fun _ h9 => h9) rfl hd (k H locs ls hP hS hl)
theorem ld_g_now_pips (O : ld_Ok l K ad cc nL own R) {ix : Nat} (hw : Cond.fieldLink own ix "LemonDeals$Street" "pips" "[I" ∈ wsL_law) (hd : decode cc pc = .ok (.getfield ix, 3)) (k : K σ lv (.ref (ad (9 + 3)) :: st) (pc + 3)) : K σ lv (.ref (ad 1) :: st) pc := by
  obtain ⟨X, p, e, s, m, args, below, meth, c, cells, slots, A, Q, hx, hb, hml, hown, hts, hinj, hK, hN, hA1, hA2, hR, rfl⟩ := O
  intro H locs ls hP hS hl
  exact va_get (D := X.1) (ci := 1) (C := RX1) (T := TX1) (N := 11) hx hb hts inlX1 hown hK hP 1 (ld_at1 X ad σ) rfl 7 (by decide) (hts _ hw) (fun _ h9 => h9) rfl hd (k H locs ls hP hS hl)
theorem ld_g_now_pipsN (O : ld_Ok l K ad cc nL own R) {ix : Nat} (hw : Cond.fieldLinkNest own ix "LemonDeals$Street" "pips" "[I" "LemonDeals" ∈ ld_nws) (hd : decode cc pc = .ok (.getfield ix, 3)) (k : K σ lv (.ref (ad (9 + 3)) :: st) (pc + 3)) : K σ lv (.ref (ad 1) :: st) pc := by
  obtain ⟨X, p, e, s, m, args, below, meth, c, cells, slots, A, Q, hx, hb, hml, hown, hts, hinj, hK, hN, hA1, hA2, hR, rfl⟩ := O
  intro H locs ls hP hS hl
  exact va_getN (D := X.1) (ci := 1) (C := RX1) (T := TX1) (N := 11) hx hb hts inlX1 hown hK hP 1 (ld_at1 X ad σ) rfl 7 (by decide) (va_Nw.use rfl (hN _ hw)) (fun _ h9 => h9) rfl hd (k H locs ls hP hS hl)
theorem ld_g_now_sour (O : ld_Ok l K ad cc nL own R) {ix : Nat} (hw : Cond.fieldLink own ix "LemonDeals$Street" "sour" "[I" ∈ wsL_law) (hd : decode cc pc = .ok (.getfield ix, 3)) (k : K σ lv (.ref (ad (9 + 4)) :: st) (pc + 3)) : K σ lv (.ref (ad 1) :: st) pc := by
  obtain ⟨X, p, e, s, m, args, below, meth, c, cells, slots, A, Q, hx, hb, hml, hown, hts, hinj, hK, hN, hA1, hA2, hR, rfl⟩ := O
  intro H locs ls hP hS hl
  exact va_get (D := X.1) (ci := 1) (C := RX1) (T := TX1) (N := 11) hx hb hts inlX1 hown hK hP 1 (ld_at1 X ad σ) rfl 8 (by decide) (hts _ hw) (fun _ h9 => h9) rfl hd (k H locs ls hP hS hl)
theorem ld_g_now_sourN (O : ld_Ok l K ad cc nL own R) {ix : Nat} (hw : Cond.fieldLinkNest own ix "LemonDeals$Street" "sour" "[I" "LemonDeals" ∈ ld_nws) (hd : decode cc pc = .ok (.getfield ix, 3)) (k : K σ lv (.ref (ad (9 + 4)) :: st) (pc + 3)) : K σ lv (.ref (ad 1) :: st) pc := by
  obtain ⟨X, p, e, s, m, args, below, meth, c, cells, slots, A, Q, hx, hb, hml, hown, hts, hinj, hK, hN, hA1, hA2, hR, rfl⟩ := O
  intro H locs ls hP hS hl
  exact va_getN (D := X.1) (ci := 1) (C := RX1) (T := TX1) (N := 11) hx hb hts inlX1 hown hK hP 1 (ld_at1 X ad σ) rfl 8 (by decide) (va_Nw.use rfl (hN _ hw)) (fun _ h9 => h9) rfl hd (k H locs ls hP hS hl)
theorem ld_g_now_dealt (O : ld_Ok l K ad cc nL own R) {ix : Nat} (hw : Cond.fieldLink own ix "LemonDeals$Street" "dealt" "[I" ∈ wsL_law) (hd : decode cc pc = .ok (.getfield ix, 3)) (k : K σ lv (.ref (ad (9 + 5)) :: st) (pc + 3)) : K σ lv (.ref (ad 1) :: st) pc := by
  obtain ⟨X, p, e, s, m, args, below, meth, c, cells, slots, A, Q, hx, hb, hml, hown, hts, hinj, hK, hN, hA1, hA2, hR, rfl⟩ := O
  intro H locs ls hP hS hl
  exact va_get (D := X.1) (ci := 1) (C := RX1) (T := TX1) (N := 11) hx hb hts inlX1 hown hK hP 1 (ld_at1 X ad σ) rfl 9 (by decide) (hts _ hw) (fun _ h9 => h9) rfl hd (k H locs ls hP hS hl)
theorem ld_g_now_dealtN (O : ld_Ok l K ad cc nL own R) {ix : Nat} (hw : Cond.fieldLinkNest own ix "LemonDeals$Street" "dealt" "[I" "LemonDeals" ∈ ld_nws) (hd : decode cc pc = .ok (.getfield ix, 3)) (k : K σ lv (.ref (ad (9 + 5)) :: st) (pc + 3)) : K σ lv (.ref (ad 1) :: st) pc := by
  obtain ⟨X, p, e, s, m, args, below, meth, c, cells, slots, A, Q, hx, hb, hml, hown, hts, hinj, hK, hN, hA1, hA2, hR, rfl⟩ := O
  intro H locs ls hP hS hl
  exact va_getN (D := X.1) (ci := 1) (C := RX1) (T := TX1) (N := 11) hx hb hts inlX1 hown hK hP 1 (ld_at1 X ad σ) rfl 9 (by decide) (va_Nw.use rfl (hN _ hw)) (fun _ h9 => h9) rfl hd (k H locs ls hP hS hl)
theorem ld_g_now_remainder (O : ld_Ok l K ad cc nL own R) {ix : Nat} (hw : Cond.fieldLink own ix "LemonDeals$Street" "remainder" "[I" ∈ wsL_law) (hd : decode cc pc = .ok (.getfield ix, 3)) (k : K σ lv (.ref (ad (9 + 6)) :: st) (pc + 3)) : K σ lv (.ref (ad 1) :: st) pc := by
  obtain ⟨X, p, e, s, m, args, below, meth, c, cells, slots, A, Q, hx, hb, hml, hown, hts, hinj, hK, hN, hA1, hA2, hR, rfl⟩ := O
  intro H locs ls hP hS hl
  exact va_get (D := X.1) (ci := 1) (C := RX1) (T := TX1) (N := 11) hx hb hts inlX1 hown hK hP 1 (ld_at1 X ad σ) rfl 10 (by decide) (hts _ hw) (fun _ h9 => h9) rfl hd (k H locs ls hP hS hl)
theorem ld_g_now_remainderN (O : ld_Ok l K ad cc nL own R) {ix : Nat} (hw : Cond.fieldLinkNest own ix "LemonDeals$Street" "remainder" "[I" "LemonDeals" ∈ ld_nws) (hd : decode cc pc = .ok (.getfield ix, 3)) (k : K σ lv (.ref (ad (9 + 6)) :: st) (pc + 3)) : K σ lv (.ref (ad 1) :: st) pc := by
  obtain ⟨X, p, e, s, m, args, below, meth, c, cells, slots, A, Q, hx, hb, hml, hown, hts, hinj, hK, hN, hA1, hA2, hR, rfl⟩ := O
  intro H locs ls hP hS hl
  exact va_getN (D := X.1) (ci := 1) (C := RX1) (T := TX1) (N := 11) hx hb hts inlX1 hown hK hP 1 (ld_at1 X ad σ) rfl 10 (by decide) (va_Nw.use rfl (hN _ hw)) (fun _ h9 => h9) rfl hd (k H locs ls hP hS hl)
theorem ld_g_trial_kind (O : ld_Ok l K ad cc nL own R) {ix : Nat} (hw : Cond.fieldLink own ix "LemonDeals$Street" "kind" "[I" ∈ wsL_law) (hd : decode cc pc = .ok (.getfield ix, 3)) (k : K σ lv (.ref (ad (9 + 7)) :: st) (pc + 3)) : K σ lv (.ref (ad 2) :: st) pc := by
  obtain ⟨X, p, e, s, m, args, below, meth, c, cells, slots, A, Q, hx, hb, hml, hown, hts, hinj, hK, hN, hA1, hA2, hR, rfl⟩ := O
  intro H locs ls hP hS hl
  exact va_get (D := X.1) (ci := 1) (C := RX1) (T := TX1) (N := 11) hx hb hts inlX1 hown hK hP 2 (ld_at2 X ad σ) rfl 4 (by decide) (hts _ hw) (fun _ h9 => h9) rfl hd (k H locs ls hP hS hl)
theorem ld_g_trial_kindN (O : ld_Ok l K ad cc nL own R) {ix : Nat} (hw : Cond.fieldLinkNest own ix "LemonDeals$Street" "kind" "[I" "LemonDeals" ∈ ld_nws) (hd : decode cc pc = .ok (.getfield ix, 3)) (k : K σ lv (.ref (ad (9 + 7)) :: st) (pc + 3)) : K σ lv (.ref (ad 2) :: st) pc := by
  obtain ⟨X, p, e, s, m, args, below, meth, c, cells, slots, A, Q, hx, hb, hml, hown, hts, hinj, hK, hN, hA1, hA2, hR, rfl⟩ := O
  intro H locs ls hP hS hl
  exact va_getN (D := X.1) (ci := 1) (C := RX1) (T := TX1) (N := 11) hx hb hts inlX1 hown hK hP 2 (ld_at2 X ad σ) rfl 4 (by decide) (va_Nw.use rfl (hN _ hw)) (fun _ h9 => h9) rfl hd (k H locs ls hP hS hl)
theorem ld_g_trial_temper (O : ld_Ok l K ad cc nL own R) {ix : Nat} (hw : Cond.fieldLink own ix "LemonDeals$Street" "temper" "[I" ∈ wsL_law) (hd : decode cc pc = .ok (.getfield ix, 3)) (k : K σ lv (.ref (ad (9 + 8)) :: st) (pc + 3)) : K σ lv (.ref (ad 2) :: st) pc := by
  obtain ⟨X, p, e, s, m, args, below, meth, c, cells, slots, A, Q, hx, hb, hml, hown, hts, hinj, hK, hN, hA1, hA2, hR, rfl⟩ := O
  intro H locs ls hP hS hl
  exact va_get (D := X.1) (ci := 1) (C := RX1) (T := TX1) (N := 11) hx hb hts inlX1 hown hK hP 2 (ld_at2 X ad σ) rfl 5 (by decide) (hts _ hw) (fun _ h9 => h9) rfl hd (k H locs ls hP hS hl)
theorem ld_g_trial_temperN (O : ld_Ok l K ad cc nL own R) {ix : Nat} (hw : Cond.fieldLinkNest own ix "LemonDeals$Street" "temper" "[I" "LemonDeals" ∈ ld_nws) (hd : decode cc pc = .ok (.getfield ix, 3)) (k : K σ lv (.ref (ad (9 + 8)) :: st) (pc + 3)) : K σ lv (.ref (ad 2) :: st) pc := by
  obtain ⟨X, p, e, s, m, args, below, meth, c, cells, slots, A, Q, hx, hb, hml, hown, hts, hinj, hK, hN, hA1, hA2, hR, rfl⟩ := O
  intro H locs ls hP hS hl
  exact va_getN (D := X.1) (ci := 1) (C := RX1) (T := TX1) (N := 11) hx hb hts inlX1 hown hK hP 2 (ld_at2 X ad σ) rfl 5 (by decide) (va_Nw.use rfl (hN _ hw)) (fun _ h9 => h9) rfl hd (k H locs ls hP hS hl)
theorem ld_g_trial_stock (O : ld_Ok l K ad cc nL own R) {ix : Nat} (hw : Cond.fieldLink own ix "LemonDeals$Street" "stock" "[I" ∈ wsL_law) (hd : decode cc pc = .ok (.getfield ix, 3)) (k : K σ lv (.ref (ad (9 + 9)) :: st) (pc + 3)) : K σ lv (.ref (ad 2) :: st) pc := by
  obtain ⟨X, p, e, s, m, args, below, meth, c, cells, slots, A, Q, hx, hb, hml, hown, hts, hinj, hK, hN, hA1, hA2, hR, rfl⟩ := O
  intro H locs ls hP hS hl
  exact va_get (D := X.1) (ci := 1) (C := RX1) (T := TX1) (N := 11) hx hb hts inlX1 hown hK hP 2 (ld_at2 X ad σ) rfl 6 (by decide) (hts _ hw) (fun _ h9 => h9) rfl hd (k H locs ls hP hS hl)
theorem ld_g_trial_stockN (O : ld_Ok l K ad cc nL own R) {ix : Nat} (hw : Cond.fieldLinkNest own ix "LemonDeals$Street" "stock" "[I" "LemonDeals" ∈ ld_nws) (hd : decode cc pc = .ok (.getfield ix, 3)) (k : K σ lv (.ref (ad (9 + 9)) :: st) (pc + 3)) : K σ lv (.ref (ad 2) :: st) pc := by
  obtain ⟨X, p, e, s, m, args, below, meth, c, cells, slots, A, Q, hx, hb, hml, hown, hts, hinj, hK, hN, hA1, hA2, hR, rfl⟩ := O
  intro H locs ls hP hS hl
  exact va_getN (D := X.1) (ci := 1) (C := RX1) (T := TX1) (N := 11) hx hb hts inlX1 hown hK hP 2 (ld_at2 X ad σ) rfl 6 (by decide) (va_Nw.use rfl (hN _ hw)) (fun _ h9 => h9) rfl hd (k H locs ls hP hS hl)
theorem ld_g_trial_pips (O : ld_Ok l K ad cc nL own R) {ix : Nat} (hw : Cond.fieldLink own ix "LemonDeals$Street" "pips" "[I" ∈ wsL_law) (hd : decode cc pc = .ok (.getfield ix, 3)) (k : K σ lv (.ref (ad (9 + 10)) :: st) (pc + 3)) : K σ lv (.ref (ad 2) :: st) pc := by
  obtain ⟨X, p, e, s, m, args, below, meth, c, cells, slots, A, Q, hx, hb, hml, hown, hts, hinj, hK, hN, hA1, hA2, hR, rfl⟩ := O
  intro H locs ls hP hS hl
  exact va_get (D := X.1) (ci := 1) (C := RX1) (T := TX1) (N := 11) hx hb hts inlX1 hown hK hP 2 (ld_at2 X ad σ) rfl 7 (by decide) (hts _ hw) (fun _ h9 => h9) rfl hd (k H locs ls hP hS hl)
theorem ld_g_trial_pipsN (O : ld_Ok l K ad cc nL own R) {ix : Nat} (hw : Cond.fieldLinkNest own ix "LemonDeals$Street" "pips" "[I" "LemonDeals" ∈ ld_nws) (hd : decode cc pc = .ok (.getfield ix, 3)) (k : K σ lv (.ref (ad (9 + 10)) :: st) (pc + 3)) : K σ lv (.ref (ad 2) :: st) pc := by
  obtain ⟨X, p, e, s, m, args, below, meth, c, cells, slots, A, Q, hx, hb, hml, hown, hts, hinj, hK, hN, hA1, hA2, hR, rfl⟩ := O
  intro H locs ls hP hS hl
  exact va_getN (D := X.1) (ci := 1) (C := RX1) (T := TX1) (N := 11) hx hb hts inlX1 hown hK hP 2 (ld_at2 X ad σ) rfl 7 (by decide) (va_Nw.use rfl (hN _ hw)) (fun _ h9 => h9) rfl hd (k H locs ls hP hS hl)
theorem ld_g_trial_sour (O : ld_Ok l K ad cc nL own R) {ix : Nat} (hw : Cond.fieldLink own ix "LemonDeals$Street" "sour" "[I" ∈ wsL_law) (hd : decode cc pc = .ok (.getfield ix, 3)) (k : K σ lv (.ref (ad (9 + 11)) :: st) (pc + 3)) : K σ lv (.ref (ad 2) :: st) pc := by
  obtain ⟨X, p, e, s, m, args, below, meth, c, cells, slots, A, Q, hx, hb, hml, hown, hts, hinj, hK, hN, hA1, hA2, hR, rfl⟩ := O
  intro H locs ls hP hS hl
  exact va_get (D := X.1) (ci := 1) (C := RX1) (T := TX1) (N := 11) hx hb hts inlX1 hown hK hP 2 (ld_at2 X ad σ) rfl 8 (by decide) (hts _ hw) (fun _ h9 => h9) rfl hd (k H locs ls hP hS hl)
theorem ld_g_trial_sourN (O : ld_Ok l K ad cc nL own R) {ix : Nat} (hw : Cond.fieldLinkNest own ix "LemonDeals$Street" "sour" "[I" "LemonDeals" ∈ ld_nws) (hd : decode cc pc = .ok (.getfield ix, 3)) (k : K σ lv (.ref (ad (9 + 11)) :: st) (pc + 3)) : K σ lv (.ref (ad 2) :: st) pc := by
  obtain ⟨X, p, e, s, m, args, below, meth, c, cells, slots, A, Q, hx, hb, hml, hown, hts, hinj, hK, hN, hA1, hA2, hR, rfl⟩ := O
  intro H locs ls hP hS hl
  exact va_getN (D := X.1) (ci := 1) (C := RX1) (T := TX1) (N := 11) hx hb hts inlX1 hown hK hP 2 (ld_at2 X ad σ) rfl 8 (by decide) (va_Nw.use rfl (hN _ hw)) (fun _ h9 => h9) rfl hd (k H locs ls hP hS hl)
theorem ld_g_trial_dealt (O : ld_Ok l K ad cc nL own R) {ix : Nat} (hw : Cond.fieldLink own ix "LemonDeals$Street" "dealt" "[I" ∈ wsL_law) (hd : decode cc pc = .ok (.getfield ix, 3)) (k : K σ lv (.ref (ad (9 + 12)) :: st) (pc + 3)) : K σ lv (.ref (ad 2) :: st) pc := by
  obtain ⟨X, p, e, s, m, args, below, meth, c, cells, slots, A, Q, hx, hb, hml, hown, hts, hinj, hK, hN, hA1, hA2, hR, rfl⟩ := O
  intro H locs ls hP hS hl
  exact va_get (D := X.1) (ci := 1) (C := RX1) (T := TX1) (N := 11) hx hb hts inlX1 hown hK hP 2 (ld_at2 X ad σ) rfl 9 (by decide) (hts _ hw) (fun _ h9 => h9) rfl hd (k H locs ls hP hS hl)
theorem ld_g_trial_dealtN (O : ld_Ok l K ad cc nL own R) {ix : Nat} (hw : Cond.fieldLinkNest own ix "LemonDeals$Street" "dealt" "[I" "LemonDeals" ∈ ld_nws) (hd : decode cc pc = .ok (.getfield ix, 3)) (k : K σ lv (.ref (ad (9 + 12)) :: st) (pc + 3)) : K σ lv (.ref (ad 2) :: st) pc := by
  obtain ⟨X, p, e, s, m, args, below, meth, c, cells, slots, A, Q, hx, hb, hml, hown, hts, hinj, hK, hN, hA1, hA2, hR, rfl⟩ := O
  intro H locs ls hP hS hl
  exact va_getN (D := X.1) (ci := 1) (C := RX1) (T := TX1) (N := 11) hx hb hts inlX1 hown hK hP 2 (ld_at2 X ad σ) rfl 9 (by decide) (va_Nw.use rfl (hN _ hw)) (fun _ h9 => h9) rfl hd (k H locs ls hP hS hl)
theorem ld_g_trial_remainder (O : ld_Ok l K ad cc nL own R) {ix : Nat} (hw : Cond.fieldLink own ix "LemonDeals$Street" "remainder" "[I" ∈ wsL_law) (hd : decode cc pc = .ok (.getfield ix, 3)) (k : K σ lv (.ref (ad (9 + 13)) :: st) (pc + 3)) : K σ lv (.ref (ad 2) :: st) pc := by
  obtain ⟨X, p, e, s, m, args, below, meth, c, cells, slots, A, Q, hx, hb, hml, hown, hts, hinj, hK, hN, hA1, hA2, hR, rfl⟩ := O
  intro H locs ls hP hS hl
  exact va_get (D := X.1) (ci := 1) (C := RX1) (T := TX1) (N := 11) hx hb hts inlX1 hown hK hP 2 (ld_at2 X ad σ) rfl 10 (by decide) (hts _ hw) (fun _ h9 => h9) rfl hd (k H locs ls hP hS hl)
theorem ld_g_trial_remainderN (O : ld_Ok l K ad cc nL own R) {ix : Nat} (hw : Cond.fieldLinkNest own ix "LemonDeals$Street" "remainder" "[I" "LemonDeals" ∈ ld_nws) (hd : decode cc pc = .ok (.getfield ix, 3)) (k : K σ lv (.ref (ad (9 + 13)) :: st) (pc + 3)) : K σ lv (.ref (ad 2) :: st) pc := by
  obtain ⟨X, p, e, s, m, args, below, meth, c, cells, slots, A, Q, hx, hb, hml, hown, hts, hinj, hK, hN, hA1, hA2, hR, rfl⟩ := O
  intro H locs ls hP hS hl
  exact va_getN (D := X.1) (ci := 1) (C := RX1) (T := TX1) (N := 11) hx hb hts inlX1 hown hK hP 2 (ld_at2 X ad σ) rfl 10 (by decide) (va_Nw.use rfl (hN _ hw)) (fun _ h9 => h9) rfl hd (k H locs ls hP hS hl)
theorem ld_g_M_kindOf (O : ld_Ok l K ad cc nL own R) {ix : Nat} (hw : Cond.fieldLink own ix "LemonDealsModel" "kindOf" "[I" ∈ wsL_law) (hd : decode cc pc = .ok (.getfield ix, 3)) (k : K σ lv (.ref (ad (9 + 20)) :: st) (pc + 3)) : K σ lv (.ref (ad 8) :: st) pc := by
  obtain ⟨X, p, e, s, m, args, below, meth, c, cells, slots, A, Q, hx, hb, hml, hown, hts, hinj, hK, hN, hA1, hA2, hR, rfl⟩ := O
  intro H locs ls hP hS hl
  exact va_get (D := X.1) (ci := 3) (C := RX3) (T := TX3) (N := 30) hx hb hts inlX3 hown hK hP 8 (ld_at8 X ad σ) rfl 4 (by decide) (hts _ hw) (fun _ h9 => h9) rfl hd (k H locs ls hP hS hl)
theorem ld_g_M_temperOf (O : ld_Ok l K ad cc nL own R) {ix : Nat} (hw : Cond.fieldLink own ix "LemonDealsModel" "temperOf" "[I" ∈ wsL_law) (hd : decode cc pc = .ok (.getfield ix, 3)) (k : K σ lv (.ref (ad (9 + 21)) :: st) (pc + 3)) : K σ lv (.ref (ad 8) :: st) pc := by
  obtain ⟨X, p, e, s, m, args, below, meth, c, cells, slots, A, Q, hx, hb, hml, hown, hts, hinj, hK, hN, hA1, hA2, hR, rfl⟩ := O
  intro H locs ls hP hS hl
  exact va_get (D := X.1) (ci := 3) (C := RX3) (T := TX3) (N := 30) hx hb hts inlX3 hown hK hP 8 (ld_at8 X ad σ) rfl 5 (by decide) (hts _ hw) (fun _ h9 => h9) rfl hd (k H locs ls hP hS hl)
theorem ld_g_M_stockOf (O : ld_Ok l K ad cc nL own R) {ix : Nat} (hw : Cond.fieldLink own ix "LemonDealsModel" "stockOf" "[I" ∈ wsL_law) (hd : decode cc pc = .ok (.getfield ix, 3)) (k : K σ lv (.ref (ad (9 + 22)) :: st) (pc + 3)) : K σ lv (.ref (ad 8) :: st) pc := by
  obtain ⟨X, p, e, s, m, args, below, meth, c, cells, slots, A, Q, hx, hb, hml, hown, hts, hinj, hK, hN, hA1, hA2, hR, rfl⟩ := O
  intro H locs ls hP hS hl
  exact va_get (D := X.1) (ci := 3) (C := RX3) (T := TX3) (N := 30) hx hb hts inlX3 hown hK hP 8 (ld_at8 X ad σ) rfl 6 (by decide) (hts _ hw) (fun _ h9 => h9) rfl hd (k H locs ls hP hS hl)
theorem ld_g_M_pipsOf (O : ld_Ok l K ad cc nL own R) {ix : Nat} (hw : Cond.fieldLink own ix "LemonDealsModel" "pipsOf" "[I" ∈ wsL_law) (hd : decode cc pc = .ok (.getfield ix, 3)) (k : K σ lv (.ref (ad (9 + 23)) :: st) (pc + 3)) : K σ lv (.ref (ad 8) :: st) pc := by
  obtain ⟨X, p, e, s, m, args, below, meth, c, cells, slots, A, Q, hx, hb, hml, hown, hts, hinj, hK, hN, hA1, hA2, hR, rfl⟩ := O
  intro H locs ls hP hS hl
  exact va_get (D := X.1) (ci := 3) (C := RX3) (T := TX3) (N := 30) hx hb hts inlX3 hown hK hP 8 (ld_at8 X ad σ) rfl 7 (by decide) (hts _ hw) (fun _ h9 => h9) rfl hd (k H locs ls hP hS hl)
theorem ld_g_M_readKind (O : ld_Ok l K ad cc nL own R) {ix : Nat} (hw : Cond.fieldLink own ix "LemonDealsModel" "readKind" "[I" ∈ wsL_law) (hd : decode cc pc = .ok (.getfield ix, 3)) (k : K σ lv (.ref (ad (9 + 24)) :: st) (pc + 3)) : K σ lv (.ref (ad 8) :: st) pc := by
  obtain ⟨X, p, e, s, m, args, below, meth, c, cells, slots, A, Q, hx, hb, hml, hown, hts, hinj, hK, hN, hA1, hA2, hR, rfl⟩ := O
  intro H locs ls hP hS hl
  exact va_get (D := X.1) (ci := 3) (C := RX3) (T := TX3) (N := 30) hx hb hts inlX3 hown hK hP 8 (ld_at8 X ad σ) rfl 11 (by decide) (hts _ hw) (fun _ h9 => h9) rfl hd (k H locs ls hP hS hl)
theorem ld_g_M_readTemper (O : ld_Ok l K ad cc nL own R) {ix : Nat} (hw : Cond.fieldLink own ix "LemonDealsModel" "readTemper" "[I" ∈ wsL_law) (hd : decode cc pc = .ok (.getfield ix, 3)) (k : K σ lv (.ref (ad (9 + 25)) :: st) (pc + 3)) : K σ lv (.ref (ad 8) :: st) pc := by
  obtain ⟨X, p, e, s, m, args, below, meth, c, cells, slots, A, Q, hx, hb, hml, hown, hts, hinj, hK, hN, hA1, hA2, hR, rfl⟩ := O
  intro H locs ls hP hS hl
  exact va_get (D := X.1) (ci := 3) (C := RX3) (T := TX3) (N := 30) hx hb hts inlX3 hown hK hP 8 (ld_at8 X ad σ) rfl 12 (by decide) (hts _ hw) (fun _ h9 => h9) rfl hd (k H locs ls hP hS hl)
theorem ld_g_M_readStock (O : ld_Ok l K ad cc nL own R) {ix : Nat} (hw : Cond.fieldLink own ix "LemonDealsModel" "readStock" "[I" ∈ wsL_law) (hd : decode cc pc = .ok (.getfield ix, 3)) (k : K σ lv (.ref (ad (9 + 26)) :: st) (pc + 3)) : K σ lv (.ref (ad 8) :: st) pc := by
  obtain ⟨X, p, e, s, m, args, below, meth, c, cells, slots, A, Q, hx, hb, hml, hown, hts, hinj, hK, hN, hA1, hA2, hR, rfl⟩ := O
  intro H locs ls hP hS hl
  exact va_get (D := X.1) (ci := 3) (C := RX3) (T := TX3) (N := 30) hx hb hts inlX3 hown hK hP 8 (ld_at8 X ad σ) rfl 13 (by decide) (hts _ hw) (fun _ h9 => h9) rfl hd (k H locs ls hP hS hl)
theorem ld_g_M_dealtNow (O : ld_Ok l K ad cc nL own R) {ix : Nat} (hw : Cond.fieldLink own ix "LemonDealsModel" "dealtNow" "[I" ∈ wsL_law) (hd : decode cc pc = .ok (.getfield ix, 3)) (k : K σ lv (.ref (ad (9 + 27)) :: st) (pc + 3)) : K σ lv (.ref (ad 8) :: st) pc := by
  obtain ⟨X, p, e, s, m, args, below, meth, c, cells, slots, A, Q, hx, hb, hml, hown, hts, hinj, hK, hN, hA1, hA2, hR, rfl⟩ := O
  intro H locs ls hP hS hl
  exact va_get (D := X.1) (ci := 3) (C := RX3) (T := TX3) (N := 30) hx hb hts inlX3 hown hK hP 8 (ld_at8 X ad σ) rfl 14 (by decide) (hts _ hw) (fun _ h9 => h9) rfl hd (k H locs ls hP hS hl)
theorem ld_g_M_temperKept (O : ld_Ok l K ad cc nL own R) {ix : Nat} (hw : Cond.fieldLink own ix "LemonDealsModel" "temperKept" "[I" ∈ wsL_law) (hd : decode cc pc = .ok (.getfield ix, 3)) (k : K σ lv (.ref (ad (9 + 28)) :: st) (pc + 3)) : K σ lv (.ref (ad 8) :: st) pc := by
  obtain ⟨X, p, e, s, m, args, below, meth, c, cells, slots, A, Q, hx, hb, hml, hown, hts, hinj, hK, hN, hA1, hA2, hR, rfl⟩ := O
  intro H locs ls hP hS hl
  exact va_get (D := X.1) (ci := 3) (C := RX3) (T := TX3) (N := 30) hx hb hts inlX3 hown hK hP 8 (ld_at8 X ad σ) rfl 17 (by decide) (hts _ hw) (fun _ h9 => h9) rfl hd (k H locs ls hP hS hl)
theorem ld_g_M_stockKept (O : ld_Ok l K ad cc nL own R) {ix : Nat} (hw : Cond.fieldLink own ix "LemonDealsModel" "stockKept" "[I" ∈ wsL_law) (hd : decode cc pc = .ok (.getfield ix, 3)) (k : K σ lv (.ref (ad (9 + 29)) :: st) (pc + 3)) : K σ lv (.ref (ad 8) :: st) pc := by
  obtain ⟨X, p, e, s, m, args, below, meth, c, cells, slots, A, Q, hx, hb, hml, hown, hts, hinj, hK, hN, hA1, hA2, hR, rfl⟩ := O
  intro H locs ls hP hS hl
  exact va_get (D := X.1) (ci := 3) (C := RX3) (T := TX3) (N := 30) hx hb hts inlX3 hown hK hP 8 (ld_at8 X ad σ) rfl 18 (by decide) (hts _ hw) (fun _ h9 => h9) rfl hd (k H locs ls hP hS hl)
theorem ld_g_M_pipsKept (O : ld_Ok l K ad cc nL own R) {ix : Nat} (hw : Cond.fieldLink own ix "LemonDealsModel" "pipsKept" "[I" ∈ wsL_law) (hd : decode cc pc = .ok (.getfield ix, 3)) (k : K σ lv (.ref (ad (9 + 30)) :: st) (pc + 3)) : K σ lv (.ref (ad 8) :: st) pc := by
  obtain ⟨X, p, e, s, m, args, below, meth, c, cells, slots, A, Q, hx, hb, hml, hown, hts, hinj, hK, hN, hA1, hA2, hR, rfl⟩ := O
  intro H locs ls hP hS hl
  exact va_get (D := X.1) (ci := 3) (C := RX3) (T := TX3) (N := 30) hx hb hts inlX3 hown hK hP 8 (ld_at8 X ad σ) rfl 19 (by decide) (hts _ hw) (fun _ h9 => h9) rfl hd (k H locs ls hP hS hl)
theorem ld_g_M_gotSoFar (O : ld_Ok l K ad cc nL own R) {ix : Nat} (hw : Cond.fieldLink own ix "LemonDealsModel" "gotSoFar" "[I" ∈ wsL_law) (hd : decode cc pc = .ok (.getfield ix, 3)) (k : K σ lv (.ref (ad (9 + 31)) :: st) (pc + 3)) : K σ lv (.ref (ad 8) :: st) pc := by
  obtain ⟨X, p, e, s, m, args, below, meth, c, cells, slots, A, Q, hx, hb, hml, hown, hts, hinj, hK, hN, hA1, hA2, hR, rfl⟩ := O
  intro H locs ls hP hS hl
  exact va_get (D := X.1) (ci := 3) (C := RX3) (T := TX3) (N := 30) hx hb hts inlX3 hown hK hP 8 (ld_at8 X ad σ) rfl 21 (by decide) (hts _ hw) (fun _ h9 => h9) rfl hd (k H locs ls hP hS hl)
theorem ld_g_M_readingOf (O : ld_Ok l K ad cc nL own R) {ix : Nat} (hw : Cond.fieldLink own ix "LemonDealsModel" "readingOf" "[I" ∈ wsL_law) (hd : decode cc pc = .ok (.getfield ix, 3)) (k : K σ lv (.ref (ad (9 + 32)) :: st) (pc + 3)) : K σ lv (.ref (ad 8) :: st) pc := by
  obtain ⟨X, p, e, s, m, args, below, meth, c, cells, slots, A, Q, hx, hb, hml, hown, hts, hinj, hK, hN, hA1, hA2, hR, rfl⟩ := O
  intro H locs ls hP hS hl
  exact va_get (D := X.1) (ci := 3) (C := RX3) (T := TX3) (N := 30) hx hb hts inlX3 hown hK hP 8 (ld_at8 X ad σ) rfl 23 (by decide) (hts _ hw) (fun _ h9 => h9) rfl hd (k H locs ls hP hS hl)
theorem ld_g_M_readingWas (O : ld_Ok l K ad cc nL own R) {ix : Nat} (hw : Cond.fieldLink own ix "LemonDealsModel" "readingWas" "[I" ∈ wsL_law) (hd : decode cc pc = .ok (.getfield ix, 3)) (k : K σ lv (.ref (ad (9 + 33)) :: st) (pc + 3)) : K σ lv (.ref (ad 8) :: st) pc := by
  obtain ⟨X, p, e, s, m, args, below, meth, c, cells, slots, A, Q, hx, hb, hml, hown, hts, hinj, hK, hN, hA1, hA2, hR, rfl⟩ := O
  intro H locs ls hP hS hl
  exact va_get (D := X.1) (ci := 3) (C := RX3) (T := TX3) (N := 30) hx hb hts inlX3 hown hK hP 8 (ld_at8 X ad σ) rfl 24 (by decide) (hts _ hw) (fun _ h9 => h9) rfl hd (k H locs ls hP hS hl)
theorem ld_g_M_sheetSize (O : ld_Ok l K ad cc nL own R) {ix : Nat} (hw : Cond.fieldLink own ix "LemonDealsModel" "sheetSize" "[I" ∈ wsL_law) (hd : decode cc pc = .ok (.getfield ix, 3)) (k : K σ lv (.ref (ad (9 + 34)) :: st) (pc + 3)) : K σ lv (.ref (ad 8) :: st) pc := by
  obtain ⟨X, p, e, s, m, args, below, meth, c, cells, slots, A, Q, hx, hb, hml, hown, hts, hinj, hK, hN, hA1, hA2, hR, rfl⟩ := O
  intro H locs ls hP hS hl
  exact va_get (D := X.1) (ci := 3) (C := RX3) (T := TX3) (N := 30) hx hb hts inlX3 hown hK hP 8 (ld_at8 X ad σ) rfl 25 (by decide) (hts _ hw) (fun _ h9 => h9) rfl hd (k H locs ls hP hS hl)
theorem ld_g_M_sheetLane (O : ld_Ok l K ad cc nL own R) {ix : Nat} (hw : Cond.fieldLink own ix "LemonDealsModel" "sheetLane" "[I" ∈ wsL_law) (hd : decode cc pc = .ok (.getfield ix, 3)) (k : K σ lv (.ref (ad (9 + 35)) :: st) (pc + 3)) : K σ lv (.ref (ad 8) :: st) pc := by
  obtain ⟨X, p, e, s, m, args, below, meth, c, cells, slots, A, Q, hx, hb, hml, hown, hts, hinj, hK, hN, hA1, hA2, hR, rfl⟩ := O
  intro H locs ls hP hS hl
  exact va_get (D := X.1) (ci := 3) (C := RX3) (T := TX3) (N := 30) hx hb hts inlX3 hown hK hP 8 (ld_at8 X ad σ) rfl 26 (by decide) (hts _ hw) (fun _ h9 => h9) rfl hd (k H locs ls hP hS hl)
theorem ld_g_M_sheet (O : ld_Ok l K ad cc nL own R) {ix : Nat} (hw : Cond.fieldLink own ix "LemonDealsModel" "sheet" "[I" ∈ wsL_law) (hd : decode cc pc = .ok (.getfield ix, 3)) (k : K σ lv (.ref (ad (9 + 36)) :: st) (pc + 3)) : K σ lv (.ref (ad 8) :: st) pc := by
  obtain ⟨X, p, e, s, m, args, below, meth, c, cells, slots, A, Q, hx, hb, hml, hown, hts, hinj, hK, hN, hA1, hA2, hR, rfl⟩ := O
  intro H locs ls hP hS hl
  exact va_get (D := X.1) (ci := 3) (C := RX3) (T := TX3) (N := 30) hx hb hts inlX3 hown hK hP 8 (ld_at8 X ad σ) rfl 27 (by decide) (hts _ hw) (fun _ h9 => h9) rfl hd (k H locs ls hP hS hl)
theorem ld_g_M_hands (O : ld_Ok l K ad cc nL own R) {ix : Nat} (hw : Cond.fieldLink own ix "LemonDealsModel" "hands" "[I" ∈ wsL_law) (hd : decode cc pc = .ok (.getfield ix, 3)) (k : K σ lv (.ref (ad (9 + 37)) :: st) (pc + 3)) : K σ lv (.ref (ad 8) :: st) pc := by
  obtain ⟨X, p, e, s, m, args, below, meth, c, cells, slots, A, Q, hx, hb, hml, hown, hts, hinj, hK, hN, hA1, hA2, hR, rfl⟩ := O
  intro H locs ls hP hS hl
  exact va_get (D := X.1) (ci := 3) (C := RX3) (T := TX3) (N := 30) hx hb hts inlX3 hown hK hP 8 (ld_at8 X ad σ) rfl 28 (by decide) (hts _ hw) (fun _ h9 => h9) rfl hd (k H locs ls hP hS hl)
theorem ld_g_S_cells (O : ld_Ok l K ad cc nL own R) {a : Nat} (ha : a < 4) {ix : Nat} (hw : Cond.fieldLink own ix "LemonDeals$Sheet" "cells" "[I" ∈ wsL_law) (hd : decode cc pc = .ok (.getfield ix, 3)) (k : K σ lv (.ref (ad (9 + (16 + a))) :: st) (pc + 3)) : K σ lv (.ref (ad (4 + a)) :: st) pc := by
  obtain ⟨X, p, e, s, m, args, below, meth, c, cells, slots, A, Q, hx, hb, hml, hown, hts, hinj, hK, hN, hA1, hA2, hR, rfl⟩ := O
  intro H locs ls hP hS hl
  exact va_get (D := X.1) (ci := 0) (C := RX0) (T := TX0) (N := 3) hx hb hts inlX0 hown hK hP (4 + a) (ld_atS X ad σ ha) rfl 0 (by decide) (hts _ hw) (fun _ h9 => h9) rfl hd (k H locs ls hP hS hl)
theorem ld_g_S_cellsN (O : ld_Ok l K ad cc nL own R) {a : Nat} (ha : a < 4) {ix : Nat} (hw : Cond.fieldLinkNest own ix "LemonDeals$Sheet" "cells" "[I" "LemonDeals" ∈ ld_nws) (hd : decode cc pc = .ok (.getfield ix, 3)) (k : K σ lv (.ref (ad (9 + (16 + a))) :: st) (pc + 3)) : K σ lv (.ref (ad (4 + a)) :: st) pc := by
  obtain ⟨X, p, e, s, m, args, below, meth, c, cells, slots, A, Q, hx, hb, hml, hown, hts, hinj, hK, hN, hA1, hA2, hR, rfl⟩ := O
  intro H locs ls hP hS hl
  exact va_getN (D := X.1) (ci := 0) (C := RX0) (T := TX0) (N := 3) hx hb hts inlX0 hown hK hP (4 + a) (ld_atS X ad σ ha) rfl 0 (by decide) (va_Nw.use rfl (hN _ hw)) (fun _ h9 => h9) rfl hd (k H locs ls hP hS hl)
theorem ld_g_S_lane (O : ld_Ok l K ad cc nL own R) {a : Nat} {v : Int32} (ha : a < 4) {ix : Nat} (hw : Cond.fieldLink own ix "LemonDeals$Sheet" "lane" "I" ∈ wsL_law) (hv : σ 130 a = v) (hd : decode cc pc = .ok (.getfield ix, 3)) (k : K σ lv (.int v :: st) (pc + 3)) : K σ lv (.ref (ad (4 + a)) :: st) pc := by
  obtain ⟨X, p, e, s, m, args, below, meth, c, cells, slots, A, Q, hx, hb, hml, hown, hts, hinj, hK, hN, hA1, hA2, hR, rfl⟩ := O
  intro H locs ls hP hS hl
  subst hv; exact va_get (D := X.1) (ci := 0) (C := RX0) (T := TX0) (N := 3) hx hb hts inlX0 hown hK hP (4 + a) (ld_atS X ad σ ha) rfl 1 (by decide) (hts _ hw) (fun _ h9 => h9) rfl hd (k H locs ls hP hS hl)
theorem ld_g_S_laneN (O : ld_Ok l K ad cc nL own R) {a : Nat} {v : Int32} (ha : a < 4) {ix : Nat} (hw : Cond.fieldLinkNest own ix "LemonDeals$Sheet" "lane" "I" "LemonDeals" ∈ ld_nws) (hv : σ 130 a = v) (hd : decode cc pc = .ok (.getfield ix, 3)) (k : K σ lv (.int v :: st) (pc + 3)) : K σ lv (.ref (ad (4 + a)) :: st) pc := by
  obtain ⟨X, p, e, s, m, args, below, meth, c, cells, slots, A, Q, hx, hb, hml, hown, hts, hinj, hK, hN, hA1, hA2, hR, rfl⟩ := O
  intro H locs ls hP hS hl
  subst hv; exact va_getN (D := X.1) (ci := 0) (C := RX0) (T := TX0) (N := 3) hx hb hts inlX0 hown hK hP (4 + a) (ld_atS X ad σ ha) rfl 1 (by decide) (va_Nw.use rfl (hN _ hw)) (fun _ h9 => h9) rfl hd (k H locs ls hP hS hl)
theorem ld_g_S_length (O : ld_Ok l K ad cc nL own R) {a : Nat} {v : Int32} (ha : a < 4) {ix : Nat} (hw : Cond.fieldLink own ix "LemonDeals$Sheet" "length" "I" ∈ wsL_law) (hv : σ 131 a = v) (hd : decode cc pc = .ok (.getfield ix, 3)) (k : K σ lv (.int v :: st) (pc + 3)) : K σ lv (.ref (ad (4 + a)) :: st) pc := by
  obtain ⟨X, p, e, s, m, args, below, meth, c, cells, slots, A, Q, hx, hb, hml, hown, hts, hinj, hK, hN, hA1, hA2, hR, rfl⟩ := O
  intro H locs ls hP hS hl
  subst hv; exact va_get (D := X.1) (ci := 0) (C := RX0) (T := TX0) (N := 3) hx hb hts inlX0 hown hK hP (4 + a) (ld_atS X ad σ ha) rfl 2 (by decide) (hts _ hw) (fun _ h9 => h9) rfl hd (k H locs ls hP hS hl)
theorem ld_g_S_lengthN (O : ld_Ok l K ad cc nL own R) {a : Nat} {v : Int32} (ha : a < 4) {ix : Nat} (hw : Cond.fieldLinkNest own ix "LemonDeals$Sheet" "length" "I" "LemonDeals" ∈ ld_nws) (hv : σ 131 a = v) (hd : decode cc pc = .ok (.getfield ix, 3)) (k : K σ lv (.int v :: st) (pc + 3)) : K σ lv (.ref (ad (4 + a)) :: st) pc := by
  obtain ⟨X, p, e, s, m, args, below, meth, c, cells, slots, A, Q, hx, hb, hml, hown, hts, hinj, hK, hN, hA1, hA2, hR, rfl⟩ := O
  intro H locs ls hP hS hl
  subst hv; exact va_getN (D := X.1) (ci := 0) (C := RX0) (T := TX0) (N := 3) hx hb hts inlX0 hown hK hP (4 + a) (ld_atS X ad σ ha) rfl 2 (by decide) (va_Nw.use rfl (hN _ hw)) (fun _ h9 => h9) rfl hd (k H locs ls hP hS hl)
theorem ld_ct_Sv130 (X : ld_X) (ad : Nat → Nat) (σ : ld_St) {k : Nat} (v : Int32) (hk : k < 4) : ld_ct X ad (us σ 130 (upd (σ 130) k v)) (4 + k) = .inr (0, [.ref (ad (9 + (16 + k))), .int v, .int (σ 131 k)]) := by
  have h := (ld_at X ad (us σ 130 (upd (σ 130) k v)) (show 4 + k < 47 by omega)).symm.trans (ld_atS X ad (us σ 130 (upd (σ 130) k v)) hk)
  have h2 := congrArg Prod.snd (Option.some.inj h)
  rw [us_eq, us_ne σ _ (show 131 ≠ 130 by decide), pk_us] at h2
  exact h2
theorem ld_p_S_lane (O : ld_Ok l K ad cc nL own R) {a : Nat} (ha : a < 4) {ix : Nat} {v : Int32} (hw : Cond.fieldLink own ix "LemonDeals$Sheet" "lane" "I" ∈ wsL_law) (hd : decode cc pc = .ok (.putfield ix, 3)) (k : K (us σ 130 (upd (σ 130) a v)) lv st (pc + 3)) : K σ lv (.int v :: .ref (ad (4 + a)) :: st) pc := by
  obtain ⟨X, p, e, s, m, args, below, meth, c, cells, slots, A, Q, hx, hb, hml, hown, hts, hinj, hK, hN, hA1, hA2, hR, rfl⟩ := O
  intro H locs ls hP hS hl
  refine va_put (D := X.1) (ci := 0) (v := .int v) (ty := .int) (C := RX0) (T := TX0) (N := 3) hx hb hts inlX0 tyX0 tyX0_ok nmX0 hown hK hP (ld_D hinj hA1 X σ) hS (4 + a) (ld_atS X ad σ ha) rfl 1 (by decide) (hts _ hw) (fun _ h9 => h9) rfl (by decide +kernel) rfl rfl (Nat.le_of_ble_eq_true rfl) hd (fun H locs hP hD hS => ?_)
  refine k H locs ls ?_ hS hl
  exact (ld_set X ad σ (us σ 130 (upd (σ 130) a v)) (show 4 + a < 47 by omega) (ld_ct_Sv130 X ad σ v ha) (fun j h1 h2 => ld_ct_S X ad σ v (by decide) h1 h2)) ▸ hP
theorem ld_p_S_laneN (O : ld_Ok l K ad cc nL own R) {a : Nat} (ha : a < 4) {ix : Nat} {v : Int32} (hw : Cond.fieldLinkNest own ix "LemonDeals$Sheet" "lane" "I" "LemonDeals" ∈ ld_nws) (hd : decode cc pc = .ok (.putfield ix, 3)) (k : K (us σ 130 (upd (σ 130) a v)) lv st (pc + 3)) : K σ lv (.int v :: .ref (ad (4 + a)) :: st) pc := by
  obtain ⟨X, p, e, s, m, args, below, meth, c, cells, slots, A, Q, hx, hb, hml, hown, hts, hinj, hK, hN, hA1, hA2, hR, rfl⟩ := O
  intro H locs ls hP hS hl
  refine va_putN (D := X.1) (ci := 0) (v := .int v) (ty := .int) (C := RX0) (T := TX0) (N := 3) hx hb hts inlX0 tyX0 tyX0_ok nmX0 hown hK hP (ld_D hinj hA1 X σ) hS (4 + a) (ld_atS X ad σ ha) rfl 1 (by decide) (va_Nw.use rfl (hN _ hw)) (fun _ h9 => h9) rfl (by decide +kernel) rfl rfl (Nat.le_of_ble_eq_true rfl) hd (fun H locs hP hD hS => ?_)
  refine k H locs ls ?_ hS hl
  exact (ld_set X ad σ (us σ 130 (upd (σ 130) a v)) (show 4 + a < 47 by omega) (ld_ct_Sv130 X ad σ v ha) (fun j h1 h2 => ld_ct_S X ad σ v (by decide) h1 h2)) ▸ hP
theorem ld_ct_Sv131 (X : ld_X) (ad : Nat → Nat) (σ : ld_St) {k : Nat} (v : Int32) (hk : k < 4) : ld_ct X ad (us σ 131 (upd (σ 131) k v)) (4 + k) = .inr (0, [.ref (ad (9 + (16 + k))), .int (σ 130 k), .int v]) := by
  have h := (ld_at X ad (us σ 131 (upd (σ 131) k v)) (show 4 + k < 47 by omega)).symm.trans (ld_atS X ad (us σ 131 (upd (σ 131) k v)) hk)
  have h2 := congrArg Prod.snd (Option.some.inj h)
  rw [us_eq, us_ne σ _ (show 130 ≠ 131 by decide), pk_us] at h2
  exact h2
theorem ld_p_S_length (O : ld_Ok l K ad cc nL own R) {a : Nat} (ha : a < 4) {ix : Nat} {v : Int32} (hw : Cond.fieldLink own ix "LemonDeals$Sheet" "length" "I" ∈ wsL_law) (hd : decode cc pc = .ok (.putfield ix, 3)) (k : K (us σ 131 (upd (σ 131) a v)) lv st (pc + 3)) : K σ lv (.int v :: .ref (ad (4 + a)) :: st) pc := by
  obtain ⟨X, p, e, s, m, args, below, meth, c, cells, slots, A, Q, hx, hb, hml, hown, hts, hinj, hK, hN, hA1, hA2, hR, rfl⟩ := O
  intro H locs ls hP hS hl
  refine va_put (D := X.1) (ci := 0) (v := .int v) (ty := .int) (C := RX0) (T := TX0) (N := 3) hx hb hts inlX0 tyX0 tyX0_ok nmX0 hown hK hP (ld_D hinj hA1 X σ) hS (4 + a) (ld_atS X ad σ ha) rfl 2 (by decide) (hts _ hw) (fun _ h9 => h9) rfl (by decide +kernel) rfl rfl (Nat.le_of_ble_eq_true rfl) hd (fun H locs hP hD hS => ?_)
  refine k H locs ls ?_ hS hl
  exact (ld_set X ad σ (us σ 131 (upd (σ 131) a v)) (show 4 + a < 47 by omega) (ld_ct_Sv131 X ad σ v ha) (fun j h1 h2 => ld_ct_S X ad σ v (by decide) h1 h2)) ▸ hP
theorem ld_p_S_lengthN (O : ld_Ok l K ad cc nL own R) {a : Nat} (ha : a < 4) {ix : Nat} {v : Int32} (hw : Cond.fieldLinkNest own ix "LemonDeals$Sheet" "length" "I" "LemonDeals" ∈ ld_nws) (hd : decode cc pc = .ok (.putfield ix, 3)) (k : K (us σ 131 (upd (σ 131) a v)) lv st (pc + 3)) : K σ lv (.int v :: .ref (ad (4 + a)) :: st) pc := by
  obtain ⟨X, p, e, s, m, args, below, meth, c, cells, slots, A, Q, hx, hb, hml, hown, hts, hinj, hK, hN, hA1, hA2, hR, rfl⟩ := O
  intro H locs ls hP hS hl
  refine va_putN (D := X.1) (ci := 0) (v := .int v) (ty := .int) (C := RX0) (T := TX0) (N := 3) hx hb hts inlX0 tyX0 tyX0_ok nmX0 hown hK hP (ld_D hinj hA1 X σ) hS (4 + a) (ld_atS X ad σ ha) rfl 2 (by decide) (va_Nw.use rfl (hN _ hw)) (fun _ h9 => h9) rfl (by decide +kernel) rfl rfl (Nat.le_of_ble_eq_true rfl) hd (fun H locs hP hD hS => ?_)
  refine k H locs ls ?_ hS hl
  exact (ld_set X ad σ (us σ 131 (upd (σ 131) a v)) (show 4 + a < 47 by omega) (ld_ct_Sv131 X ad σ v ha) (fun j h1 h2 => ld_ct_S X ad σ v (by decide) h1 h2)) ▸ hP
theorem ld_iald (O : ld_Ok l K ad cc nL own R) (a j : Nat) {i v : Int32} (hi : i = nI j) (ha : a < 38) (hj : j < ld_len a) (hv : σ a j = v) (hd : decode cc pc = .ok (.iaload, 1)) (k : K σ lv (.int v :: st) (pc + 1)) : K σ lv (.int i :: .ref (ad (9 + a)) :: st) pc := by
  obtain ⟨X, p, e, s, m, args, below, meth, c, cells, slots, A, Q, hx, hb, hml, hown, hts, hinj, hK, hN, hA1, hA2, hR, rfl⟩ := O
  intro H locs ls hP hS hl
  subst hi; subst hv
  have hb2 : ld_len a < 2 ^ 31 := by unfold ld_len; repeat' split
                                     all_goals decide
  refine va_iald (D := X.1) (cl := ld_cl) (tys := ld_tys X) hx hb hK hP (9 + a) 0 (ld_atA X ad σ ha) rfl (vp_in_nI hj hb2) hd ?_
  rw [nI_clamp (Nat.lt_trans hj hb2)]
  exact k H locs ls hP hS hl
theorem ld_iast (O : ld_Ok l K ad cc nL own R) (a j : Nat) {i v : Int32} (hi : i = nI j) (ha : a < 38) (hj : j < ld_len a) (hd : decode cc pc = .ok (.iastore, 1)) (k : K (us σ a (upd (σ a) j v)) lv st (pc + 1)) : K σ lv (.int v :: .int i :: .ref (ad (9 + a)) :: st) pc := by
  obtain ⟨X, p, e, s, m, args, below, meth, c, cells, slots, A, Q, hx, hb, hml, hown, hts, hinj, hK, hN, hA1, hA2, hR, rfl⟩ := O
  intro H locs ls hP hS hl
  subst hi
  have hb2 : ld_len a < 2 ^ 31 := by unfold ld_len; repeat' split
                                     all_goals decide
  refine va_iast (D := X.1) (cl := ld_cl) (tys := ld_tys X) hx hb hK hP (ld_D hinj hA1 X σ) hS (9 + a) 0 (ld_atA X ad σ ha) rfl (vp_in_nI hj hb2) hd (fun H locs hP hD hS => ?_)
  rw [nI_clamp (Nat.lt_trans hj hb2)] at hP
  exact k H locs ls (ld_setA X ad σ ha _ ▸ hP) hS hl
theorem ld_aald (O : ld_Ok l K ad cc nL own R) (j : Nat) {i : Int32} (hi : i = nI j) (hj : j < 4) (hd : decode cc pc = .ok (.aaload, 1)) (k : K σ lv (.ref (ad (4 + j)) :: st) (pc + 1)) : K σ lv (.int i :: .ref (ad 3) :: st) pc := by
  obtain ⟨X, p, e, s, m, args, below, meth, c, cells, slots, A, Q, hx, hb, hml, hown, hts, hinj, hK, hN, hA1, hA2, hR, rfl⟩ := O
  intro H locs ls hP hS hl
  subst hi
  refine va_aldq (D := X.1) (cl := ld_cl) (tys := ld_tys X) hx hb hK hP 3 1 (ld_at3 X ad σ) rfl (vp_in_nI hj (by decide)) hd ?_
  rw [nI_clamp (Nat.lt_trans hj (by decide))]
  exact k H locs ls hP hS hl
theorem ld_mmax (O : ld_Ok l K ad cc nL own R) {ix : Nat} {x y : Int32} (hw : Cond.methodLink own ix Lib.Math.max.name ∈ wsL_law) (h1 : 1 ≤ R.frames) (h2 : (st.map fun v => v.category).sum + 13 ≤ R.locals) (hd : decode cc pc = .ok (.invokestatic ix, 3)) (k : K σ lv (.int (if x < y then y else x) :: st) (pc + 3)) : K σ lv (.int y :: .int x :: st) pc := by
  obtain ⟨X, p, e, s, m, args, below, meth, c, cells, slots, A, Q, hx, hb, hml, hown, hts, hinj, hK, hN, hA1, hA2, hR, rfl⟩ := O
  intro H locs ls hP hS hl
  exact va_mmax hx hb (hml.trans hl.1.symm) hown (hts _ hw) (hts _ ld_wS_max) (hts _ ld_wI_math) (hts _ ld_wC_max) h1 h2 hR.1 hR.2 hd (k H locs ls hP hS hl)
theorem ld_mmin (O : ld_Ok l K ad cc nL own R) {ix : Nat} {x y : Int32} (hw : Cond.methodLink own ix Lib.Math.min.name ∈ wsL_law) (h1 : 1 ≤ R.frames) (h2 : (st.map fun v => v.category).sum + 13 ≤ R.locals) (hd : decode cc pc = .ok (.invokestatic ix, 3)) (k : K σ lv (.int (if y < x then y else x) :: st) (pc + 3)) : K σ lv (.int y :: .int x :: st) pc := by
  obtain ⟨X, p, e, s, m, args, below, meth, c, cells, slots, A, Q, hx, hb, hml, hown, hts, hinj, hK, hN, hA1, hA2, hR, rfl⟩ := O
  intro H locs ls hP hS hl
  exact va_mmin hx hb (hml.trans hl.1.symm) hown (hts _ hw) (hts _ ld_wS_min) (hts _ ld_wI_math) (hts _ ld_wC_min) h1 h2 hR.1 hR.2 hd (k H locs ls hP hS hl)
theorem ld_mabs (O : ld_Ok l K ad cc nL own R) {ix : Nat} {x : Int32} (hw : Cond.methodLink own ix Lib.Math.abs.name ∈ wsL_law) (h1 : 1 ≤ R.frames) (h2 : (st.map fun v => v.category).sum + 13 ≤ R.locals) (hd : decode cc pc = .ok (.invokestatic ix, 3)) (k : K σ lv (.int (if 0 ≤ x then x else 0 - x) :: st) (pc + 3)) : K σ lv (.int x :: st) pc := by
  obtain ⟨X, p, e, s, m, args, below, meth, c, cells, slots, A, Q, hx, hb, hml, hown, hts, hinj, hK, hN, hA1, hA2, hR, rfl⟩ := O
  intro H locs ls hP hS hl
  exact va_mabs hx hb (hml.trans hl.1.symm) hown (hts _ hw) (hts _ ld_wS_abs) (hts _ ld_wI_math) (hts _ ld_wC_abs) h1 h2 hR.1 hR.2 hd (k H locs ls hP hS hl)
/-- what a method's words say: it may be called -/
def ld_MW (inst : Bool) (y : MethodName) (b : ByteArray) (n : Nat) (ret : Option FieldType) (na : Nat) : Prop :=
  (if inst = true then Cond.instanceMethod y ∈ wsL_law ∧ Cond.selects y.cls y y ∈ wsL_law else Cond.static y ∈ wsL_law) ∧ Cond.initialized y.cls ∈ wsL_law ∧ Cond.code y b n ret ∈ wsL_law ∧ (y.cls ≠ "java/lang/invoke/MethodHandle" ∧ y.cls ≠ "java/lang/invoke/VarHandle") ∧ (parseMethodDescriptor y.desc).map (fun d => d.parameters.length) = some na
def ld_recv (C : String) (q : Nat) : Prop := ∀ (X : ld_X) (ad : Nat → Nat) (σ : ld_St), ∃ (ci : Nat) (T : u_T) (N : Nat) (fs : List Value), ld_cl[ci]? = some (C, T, N) ∧ (ld_G X ad σ)[q]? = some (ad q, .inr (ci, fs))
theorem ld_recv0 : ld_recv RX2 0 := fun X ad σ => ⟨2, TX2, 8, _, rfl, ld_at0 X ad σ⟩
theorem ld_recv1 : ld_recv RX1 1 := fun X ad σ => ⟨1, TX1, 11, _, rfl, ld_at1 X ad σ⟩
theorem ld_recv2 : ld_recv RX1 2 := fun X ad σ => ⟨1, TX1, 11, _, rfl, ld_at2 X ad σ⟩
theorem ld_recv8 : ld_recv RX3 8 := fun X ad σ => ⟨3, TX3, 30, _, rfl, ld_at8 X ad σ⟩
theorem ld_recvS {k : Nat} (hk : k < 4) : ld_recv RX0 (4 + k) := fun X ad σ => ⟨0, TX0, 3, _, rfl, ld_atS X ad σ hk⟩
theorem ld_goodC {y : MethodName} {b : ByteArray} {n : Nat} {ret : Option FieldType} (h : Cond.code y b n ret ∈ wsL_law) : GoodIn wsL_law (ld_ws y b n ret) := fun w hw => (List.mem_cons.mp hw).elim (fun q => by subst q; exact ld_good _ h) (fun q => ld_good _ q)
section CAL
variable {y : MethodName} {b : ByteArray} {n na ix : Nat} {ret : Option FieldType} {rm : Nat × Nat} {P : Option Value → ld_St → Prop} {args As : List Value} {q : Nat}
theorem ld_blind (X : ld_X) (ad : Nat → Nat) (σ : ld_St) (sz : Nat) (as : List Value) : FrameBlind (ld_Pc X ad σ sz as) := fun a U g mk h => by
  obtain ⟨h1, h2, h3, h4, h5⟩ := h
  exact ⟨h1, h2, h3, va_K.moved (u := U) (U := U.calling g mk a) (Vm.Alike.refl U.vm) h4, ld_NW.same (s := U) (U := U.calling g mk a) rfl h5⟩
theorem ld_after {X : ld_X} {p : Program} {l : Launch} {e : Env} {R : Room} {s : State} {m : MethodId} {args : Array Value} {below : List Frame} {meth : Method} {c : Code} {H : Heap} {locs : List Loc} {cells slots : Nat} {Q : State → Prop} {ad : Nat → Nat} {A : Nat → Prop} {g : JFrame} {st : List Value} {a : Array Value} {P : Option Value → ld_St → Prop} (hA1 : ∀ i, i < 47 → A (ad i)) (hA2 : ∀ q, s.heap.size ≤ q → A q) (hS : va_S A s.heap H locs)
    (hr : va_Run p l e R s m args below meth c H locs cells slots 0 0 g st (ld_Qc X ad H.size P a) (ld_A ad H.size))
    (k : ∀ (v : Option Value) (σ2 : ld_St) (H1 : Heap) (locs1 : List Loc), P v σ2 → va_P X.1 ld_cl (ld_G X ad σ2) H1 → va_S A s.heap H1 locs1 → W p l e R s m args below meth c H1 locs1 cells slots Q { g with pc := g.pc + 3, stack := v.toList ++ st }) : W p l e R s m args below meth c H locs cells slots Q g := by
  have hAA : ∀ q, q < H.size → ld_A ad H.size q → A q := fun q h1 h2 => by
    rcases h2 with ⟨i, hi, rfl⟩ | h2
    · exact hA1 i hi
    · omega
  have hAf : ∀ q, ld_A ad H.size q → A q := fun q h2 => by
    rcases h2 with ⟨i, hi, rfl⟩ | h2
    · exact hA1 i hi
    · exact hA2 q (Nat.le_trans hS.1 h2)
  intro T hT X1
  obtain ⟨v, st₀, t, T2, L, h0, X2, hL, e1, e2, ⟨⟨v2, σ2, hv, hp, hP2⟩, hz, hk⟩, stp⟩ := hr T hT X1
  cases hv
  rw [h0] at hz hk
  obtain ⟨t2, a1, b1⟩ := k v σ2 T2.heap (locs ++ L) hp (by rw [e1]; exact hP2)
    ⟨Nat.le_trans hS.1 (by rw [e1]; exact hz), fun q h1 h2 => by rw [e1, hk q (Nat.lt_of_lt_of_le h1 hS.1) (fun z => h2 (hAA q (Nat.lt_of_lt_of_le h1 hS.1) z))]; exact hS.2.1 q h1 h2, fun q hq => by
      rcases List.mem_append.mp hq with h | h
      · exact hS.2.2 q h
      · exact hAf _ (hL q h)⟩ T2 rfl X2
  exact ⟨t2, stp t2 a1, b1⟩
theorem ld_preS {X : ld_X} {s : State} {H : Heap} {ad : Nat → Nat} {σ : ld_St} (hP : va_P X.1 ld_cl (ld_G X ad σ) H) (hK : va_K X.1 ld_cl (ld_tys X) s) (hN : ld_NW s) (as : List Value) : PreS s H (ld_Pc X ad σ H.size as) as :=
  ⟨ld_blind X ad σ H.size as, fun U hU hW => ⟨rfl, by rw [hU], by rw [hU]; exact hP, va_K.moved hW.alike hK, hN.warm hW⟩⟩
theorem ld_preV {X : ld_X} {s : State} {H : Heap} {ad : Nat → Nat} {σ : ld_St} {C : String} {q : Nat} (hP : va_P X.1 ld_cl (ld_G X ad σ) H) (hK : va_K X.1 ld_cl (ld_tys X) s) (hN : ld_NW s) (hq : ld_recv C q) (as : List Value) : PreV s H C (ad q) (ld_Pc X ad σ H.size (.ref (ad q) :: as)) as := by
  obtain ⟨ci, T, N, fs, h1, h2⟩ := hq X ad σ
  exact ⟨ld_blind X ad σ H.size _, va_recv hK hP h1 h2, fun U hU hW => ⟨rfl, by rw [hU], by rw [hU]; exact hP, va_K.moved hW.alike hK, hN.warm hW⟩⟩
theorem ld_callV (O : ld_Ok l K ad cc nL own R) (hq : ld_recv y.cls q) (hM : ld_Ctr l y b n ret rm (.ref (ad q) :: As) ad σ P) (hy : ld_MW true y b n ret na) (hw : Cond.methodLink own ix y ∈ wsL_law) (hn : As.length = na) (hroom : rm.1 + 1 ≤ R.frames ∧ 8 + (n + 11) + rm.2 ≤ R.locals) (hst : (st.map fun v => v.category).sum ≤ 8) (hd : decode cc pc = .ok (.invokevirtual ix, 3)) (k : ∀ v σ2, P v σ2 → K σ2 lv (v.toList ++ st) (pc + 3)) : K σ lv (As.reverse ++ .ref (ad q) :: st) pc := by
  obtain ⟨X, p, e, s, m, args, below, meth, c, cells, slots, A, Q, hx, hb, hml, hown, hts, hinj, hK, hN, hA1, hA2, hR, rfl⟩ := O
  intro H locs ls hP hS hl
  obtain ⟨hy1, hy2, hy3, hy4, hy5⟩ := hy
  rw [if_pos rfl] at hy1
  have hCB := callB_of (R := R) (own := own) (index := ix) (rm := ld_rm rm) (mc := 0) (ms := 0) na hts (ld_goodC hy3) rfl rfl rfl (hts _ hy2) (hts _ hw) ⟨hy4.1, hy4.2, hy5⟩ hroom
  have hr : va_Run p l e R s m args below meth c H locs cells slots 0 0 (F0 m pc ls (As.reverse ++ .ref (ad q) :: st)) st (ld_Qc X ad H.size P (Value.ref (ad q) :: As).toArray) (ld_A ad H.size) := va_runV (g := F0 m pc ls (As.reverse ++ .ref (ad q) :: st)) (rest := st) ⟨hx, hb, hml, hown, hts⟩ (hM X H.size hinj) ⟨hCB, hts _ hy1.1, hts _ hy1.2⟩ (ld_preV hP hK hN hq As) rfl hn hl.1 rfl (lv_room hst) hd hR
  exact ld_after hA1 hA2 hS hr (fun v σ2 H1 locs1 hp hP1 hS1 => k v σ2 hp H1 locs1 ls hP1 hS1 hl)
theorem ld_callVN {host : String} (O : ld_Ok l K ad cc nL own R) (hq : ld_recv y.cls q) (hM : ld_Ctr l y b n ret rm (.ref (ad q) :: As) ad σ P) (hy : ld_MW true y b n ret na) (hw : Cond.methodLinkNest own ix y host ∈ ld_nws) (hn : As.length = na) (hroom : rm.1 + 1 ≤ R.frames ∧ 8 + (n + 11) + rm.2 ≤ R.locals) (hst : (st.map fun v => v.category).sum ≤ 8) (hd : decode cc pc = .ok (.invokevirtual ix, 3)) (k : ∀ v σ2, P v σ2 → K σ2 lv (v.toList ++ st) (pc + 3)) : K σ lv (As.reverse ++ .ref (ad q) :: st) pc := by
  obtain ⟨X, p, e, s, m, args, below, meth, c, cells, slots, A, Q, hx, hb, hml, hown, hts, hinj, hK, hN, hA1, hA2, hR, rfl⟩ := O
  intro H locs ls hP hS hl
  obtain ⟨hy1, hy2, hy3, hy4, hy5⟩ := hy
  rw [if_pos rfl] at hy1
  have hCN := va_cnB (R := R) (own := own) (index := ix) (host := host) (rm := ld_rm rm) (mc := 0) (ms := 0) na hts (ld_goodC hy3) rfl rfl rfl (hN _ hw) (hts _ hy2) ⟨hy4.1, hy4.2, hy5⟩ hroom
  have hr : va_Run p l e R s m args below meth c H locs cells slots 0 0 (F0 m pc ls (As.reverse ++ .ref (ad q) :: st)) st (ld_Qc X ad H.size P (Value.ref (ad q) :: As).toArray) (ld_A ad H.size) := va_runVN (g := F0 m pc ls (As.reverse ++ .ref (ad q) :: st)) (rest := st) ⟨hx, hb, hml, hown, hts⟩ (hM X H.size hinj) ⟨hCN, hts _ hy1.1, hts _ hy1.2⟩ (ld_preV hP hK hN hq As) rfl hn hl.1 rfl (lv_room hst) hd hR
  exact ld_after hA1 hA2 hS hr (fun v σ2 H1 locs1 hp hP1 hS1 => k v σ2 hp H1 locs1 ls hP1 hS1 hl)
theorem ld_callS (O : ld_Ok l K ad cc nL own R) (hM : ld_Ctr l y b n ret rm As ad σ P) (hy : ld_MW false y b n ret na) (hw : Cond.methodLink own ix y ∈ wsL_law) (hn : As.length = na) (hroom : rm.1 + 1 ≤ R.frames ∧ 8 + (n + 11) + rm.2 ≤ R.locals) (hst : (st.map fun v => v.category).sum ≤ 8) (hd : decode cc pc = .ok (.invokestatic ix, 3)) (k : ∀ v σ2, P v σ2 → K σ2 lv (v.toList ++ st) (pc + 3)) : K σ lv (As.reverse ++ st) pc := by
  obtain ⟨X, p, e, s, m, args, below, meth, c, cells, slots, A, Q, hx, hb, hml, hown, hts, hinj, hK, hN, hA1, hA2, hR, rfl⟩ := O
  intro H locs ls hP hS hl
  obtain ⟨hy1, hy2, hy3, hy4, hy5⟩ := hy
  rw [if_neg (by decide)] at hy1
  have hCB := callB_of (R := R) (own := own) (index := ix) (rm := ld_rm rm) (mc := 0) (ms := 0) na hts (ld_goodC hy3) rfl rfl rfl (hts _ hy2) (hts _ hw) ⟨hy4.1, hy4.2, hy5⟩ hroom
  have hr : va_Run p l e R s m args below meth c H locs cells slots 0 0 (F0 m pc ls (As.reverse ++ st)) st (ld_Qc X ad H.size P As.toArray) (ld_A ad H.size) := va_runS (g := F0 m pc ls (As.reverse ++ st)) (rest := st) ⟨hx, hb, hml, hown, hts⟩ (hM X H.size hinj) ⟨hCB, hts _ hy1⟩ (ld_preS hP hK hN As) rfl hn hl.1 rfl (lv_room hst) hd hR
  exact ld_after hA1 hA2 hS hr (fun v σ2 H1 locs1 hp hP1 hS1 => k v σ2 hp H1 locs1 ls hP1 hS1 hl)
theorem ld_callSN {host : String} (O : ld_Ok l K ad cc nL own R) (hM : ld_Ctr l y b n ret rm As ad σ P) (hy : ld_MW false y b n ret na) (hw : Cond.methodLinkNest own ix y host ∈ ld_nws) (hn : As.length = na) (hroom : rm.1 + 1 ≤ R.frames ∧ 8 + (n + 11) + rm.2 ≤ R.locals) (hst : (st.map fun v => v.category).sum ≤ 8) (hd : decode cc pc = .ok (.invokestatic ix, 3)) (k : ∀ v σ2, P v σ2 → K σ2 lv (v.toList ++ st) (pc + 3)) : K σ lv (As.reverse ++ st) pc := by
  obtain ⟨X, p, e, s, m, args, below, meth, c, cells, slots, A, Q, hx, hb, hml, hown, hts, hinj, hK, hN, hA1, hA2, hR, rfl⟩ := O
  intro H locs ls hP hS hl
  obtain ⟨hy1, hy2, hy3, hy4, hy5⟩ := hy
  rw [if_neg (by decide)] at hy1
  have hCN := va_cnB (R := R) (own := own) (index := ix) (host := host) (rm := ld_rm rm) (mc := 0) (ms := 0) na hts (ld_goodC hy3) rfl rfl rfl (hN _ hw) (hts _ hy2) ⟨hy4.1, hy4.2, hy5⟩ hroom
  have hr : va_Run p l e R s m args below meth c H locs cells slots 0 0 (F0 m pc ls (As.reverse ++ st)) st (ld_Qc X ad H.size P As.toArray) (ld_A ad H.size) := va_runSN (g := F0 m pc ls (As.reverse ++ st)) (rest := st) ⟨hx, hb, hml, hown, hts⟩ (hM X H.size hinj) ⟨hCN, hts _ hy1, trivial⟩ (ld_preS hP hK hN As) rfl hn hl.1 rfl (lv_room hst) hd hR
  exact ld_after hA1 hA2 hS hr (fun v σ2 H1 locs1 hp hP1 hS1 => k v σ2 hp H1 locs1 ls hP1 hS1 hl)
theorem ld_callVi {p : Int32 → ld_St → Prop} {stk : List Value} (O : ld_Ok l K ad cc nL own R) (hq : ld_recv y.cls q) (hM : ld_Ctr l y b n ret rm (.ref (ad q) :: As) ad σ (ld_I p)) (hy : ld_MW true y b n ret na) (hw : Cond.methodLink own ix y ∈ wsL_law) (hn : As.length = na) (hstk : stk = As.reverse ++ .ref (ad q) :: st) (hroom : rm.1 + 1 ≤ R.frames ∧ 8 + (n + 11) + rm.2 ≤ R.locals) (hst : (st.map fun v => v.category).sum ≤ 8) (hd : decode cc pc = .ok (.invokevirtual ix, 3)) (k : ∀ r σ2, p r σ2 → K σ2 lv (.int r :: st) (pc + 3)) : K σ lv stk pc := by
  subst hstk
  exact ld_callV O hq hM hy hw hn hroom hst hd (fun v σ2 h => by obtain ⟨r, rfl, h⟩ := h; exact k r σ2 h)
theorem ld_callVl {p : Int64 → ld_St → Prop} {stk : List Value} (O : ld_Ok l K ad cc nL own R) (hq : ld_recv y.cls q) (hM : ld_Ctr l y b n ret rm (.ref (ad q) :: As) ad σ (ld_L p)) (hy : ld_MW true y b n ret na) (hw : Cond.methodLink own ix y ∈ wsL_law) (hn : As.length = na) (hstk : stk = As.reverse ++ .ref (ad q) :: st) (hroom : rm.1 + 1 ≤ R.frames ∧ 8 + (n + 11) + rm.2 ≤ R.locals) (hst : (st.map fun v => v.category).sum ≤ 8) (hd : decode cc pc = .ok (.invokevirtual ix, 3)) (k : ∀ r σ2, p r σ2 → K σ2 lv (.long r :: st) (pc + 3)) : K σ lv stk pc := by
  subst hstk
  exact ld_callV O hq hM hy hw hn hroom hst hd (fun v σ2 h => by obtain ⟨r, rfl, h⟩ := h; exact k r σ2 h)
theorem ld_callVv {p : ld_St → Prop} {stk : List Value} (O : ld_Ok l K ad cc nL own R) (hq : ld_recv y.cls q) (hM : ld_Ctr l y b n ret rm (.ref (ad q) :: As) ad σ (ld_V p)) (hy : ld_MW true y b n ret na) (hw : Cond.methodLink own ix y ∈ wsL_law) (hn : As.length = na) (hstk : stk = As.reverse ++ .ref (ad q) :: st) (hroom : rm.1 + 1 ≤ R.frames ∧ 8 + (n + 11) + rm.2 ≤ R.locals) (hst : (st.map fun v => v.category).sum ≤ 8) (hd : decode cc pc = .ok (.invokevirtual ix, 3)) (k : ∀ σ2, p σ2 → K σ2 lv st (pc + 3)) : K σ lv stk pc := by
  subst hstk
  exact ld_callV O hq hM hy hw hn hroom hst hd (fun v σ2 h => by obtain ⟨rfl, h⟩ := h; exact k σ2 h)
theorem ld_callVNi {host : String} {p : Int32 → ld_St → Prop} {stk : List Value} (O : ld_Ok l K ad cc nL own R) (hq : ld_recv y.cls q) (hM : ld_Ctr l y b n ret rm (.ref (ad q) :: As) ad σ (ld_I p)) (hy : ld_MW true y b n ret na) (hw : Cond.methodLinkNest own ix y host ∈ ld_nws) (hn : As.length = na) (hstk : stk = As.reverse ++ .ref (ad q) :: st) (hroom : rm.1 + 1 ≤ R.frames ∧ 8 + (n + 11) + rm.2 ≤ R.locals) (hst : (st.map fun v => v.category).sum ≤ 8) (hd : decode cc pc = .ok (.invokevirtual ix, 3)) (k : ∀ r σ2, p r σ2 → K σ2 lv (.int r :: st) (pc + 3)) : K σ lv stk pc := by
  subst hstk
  exact ld_callVN O hq hM hy hw hn hroom hst hd (fun v σ2 h => by obtain ⟨r, rfl, h⟩ := h; exact k r σ2 h)
theorem ld_callVNl {host : String} {p : Int64 → ld_St → Prop} {stk : List Value} (O : ld_Ok l K ad cc nL own R) (hq : ld_recv y.cls q) (hM : ld_Ctr l y b n ret rm (.ref (ad q) :: As) ad σ (ld_L p)) (hy : ld_MW true y b n ret na) (hw : Cond.methodLinkNest own ix y host ∈ ld_nws) (hn : As.length = na) (hstk : stk = As.reverse ++ .ref (ad q) :: st) (hroom : rm.1 + 1 ≤ R.frames ∧ 8 + (n + 11) + rm.2 ≤ R.locals) (hst : (st.map fun v => v.category).sum ≤ 8) (hd : decode cc pc = .ok (.invokevirtual ix, 3)) (k : ∀ r σ2, p r σ2 → K σ2 lv (.long r :: st) (pc + 3)) : K σ lv stk pc := by
  subst hstk
  exact ld_callVN O hq hM hy hw hn hroom hst hd (fun v σ2 h => by obtain ⟨r, rfl, h⟩ := h; exact k r σ2 h)
theorem ld_callVNv {host : String} {p : ld_St → Prop} {stk : List Value} (O : ld_Ok l K ad cc nL own R) (hq : ld_recv y.cls q) (hM : ld_Ctr l y b n ret rm (.ref (ad q) :: As) ad σ (ld_V p)) (hy : ld_MW true y b n ret na) (hw : Cond.methodLinkNest own ix y host ∈ ld_nws) (hn : As.length = na) (hstk : stk = As.reverse ++ .ref (ad q) :: st) (hroom : rm.1 + 1 ≤ R.frames ∧ 8 + (n + 11) + rm.2 ≤ R.locals) (hst : (st.map fun v => v.category).sum ≤ 8) (hd : decode cc pc = .ok (.invokevirtual ix, 3)) (k : ∀ σ2, p σ2 → K σ2 lv st (pc + 3)) : K σ lv stk pc := by
  subst hstk
  exact ld_callVN O hq hM hy hw hn hroom hst hd (fun v σ2 h => by obtain ⟨rfl, h⟩ := h; exact k σ2 h)
theorem ld_callSi {p : Int32 → ld_St → Prop} {stk : List Value} (O : ld_Ok l K ad cc nL own R) (hM : ld_Ctr l y b n ret rm (As) ad σ (ld_I p)) (hy : ld_MW false y b n ret na) (hw : Cond.methodLink own ix y ∈ wsL_law) (hn : As.length = na) (hstk : stk = As.reverse ++ st) (hroom : rm.1 + 1 ≤ R.frames ∧ 8 + (n + 11) + rm.2 ≤ R.locals) (hst : (st.map fun v => v.category).sum ≤ 8) (hd : decode cc pc = .ok (.invokestatic ix, 3)) (k : ∀ r σ2, p r σ2 → K σ2 lv (.int r :: st) (pc + 3)) : K σ lv stk pc := by
  subst hstk
  exact ld_callS O hM hy hw hn hroom hst hd (fun v σ2 h => by obtain ⟨r, rfl, h⟩ := h; exact k r σ2 h)
theorem ld_callSl {p : Int64 → ld_St → Prop} {stk : List Value} (O : ld_Ok l K ad cc nL own R) (hM : ld_Ctr l y b n ret rm (As) ad σ (ld_L p)) (hy : ld_MW false y b n ret na) (hw : Cond.methodLink own ix y ∈ wsL_law) (hn : As.length = na) (hstk : stk = As.reverse ++ st) (hroom : rm.1 + 1 ≤ R.frames ∧ 8 + (n + 11) + rm.2 ≤ R.locals) (hst : (st.map fun v => v.category).sum ≤ 8) (hd : decode cc pc = .ok (.invokestatic ix, 3)) (k : ∀ r σ2, p r σ2 → K σ2 lv (.long r :: st) (pc + 3)) : K σ lv stk pc := by
  subst hstk
  exact ld_callS O hM hy hw hn hroom hst hd (fun v σ2 h => by obtain ⟨r, rfl, h⟩ := h; exact k r σ2 h)
theorem ld_callSv {p : ld_St → Prop} {stk : List Value} (O : ld_Ok l K ad cc nL own R) (hM : ld_Ctr l y b n ret rm (As) ad σ (ld_V p)) (hy : ld_MW false y b n ret na) (hw : Cond.methodLink own ix y ∈ wsL_law) (hn : As.length = na) (hstk : stk = As.reverse ++ st) (hroom : rm.1 + 1 ≤ R.frames ∧ 8 + (n + 11) + rm.2 ≤ R.locals) (hst : (st.map fun v => v.category).sum ≤ 8) (hd : decode cc pc = .ok (.invokestatic ix, 3)) (k : ∀ σ2, p σ2 → K σ2 lv st (pc + 3)) : K σ lv stk pc := by
  subst hstk
  exact ld_callS O hM hy hw hn hroom hst hd (fun v σ2 h => by obtain ⟨rfl, h⟩ := h; exact k σ2 h)
theorem ld_callSNi {host : String} {p : Int32 → ld_St → Prop} {stk : List Value} (O : ld_Ok l K ad cc nL own R) (hM : ld_Ctr l y b n ret rm (As) ad σ (ld_I p)) (hy : ld_MW false y b n ret na) (hw : Cond.methodLinkNest own ix y host ∈ ld_nws) (hn : As.length = na) (hstk : stk = As.reverse ++ st) (hroom : rm.1 + 1 ≤ R.frames ∧ 8 + (n + 11) + rm.2 ≤ R.locals) (hst : (st.map fun v => v.category).sum ≤ 8) (hd : decode cc pc = .ok (.invokestatic ix, 3)) (k : ∀ r σ2, p r σ2 → K σ2 lv (.int r :: st) (pc + 3)) : K σ lv stk pc := by
  subst hstk
  exact ld_callSN O hM hy hw hn hroom hst hd (fun v σ2 h => by obtain ⟨r, rfl, h⟩ := h; exact k r σ2 h)
theorem ld_callSNl {host : String} {p : Int64 → ld_St → Prop} {stk : List Value} (O : ld_Ok l K ad cc nL own R) (hM : ld_Ctr l y b n ret rm (As) ad σ (ld_L p)) (hy : ld_MW false y b n ret na) (hw : Cond.methodLinkNest own ix y host ∈ ld_nws) (hn : As.length = na) (hstk : stk = As.reverse ++ st) (hroom : rm.1 + 1 ≤ R.frames ∧ 8 + (n + 11) + rm.2 ≤ R.locals) (hst : (st.map fun v => v.category).sum ≤ 8) (hd : decode cc pc = .ok (.invokestatic ix, 3)) (k : ∀ r σ2, p r σ2 → K σ2 lv (.long r :: st) (pc + 3)) : K σ lv stk pc := by
  subst hstk
  exact ld_callSN O hM hy hw hn hroom hst hd (fun v σ2 h => by obtain ⟨r, rfl, h⟩ := h; exact k r σ2 h)
theorem ld_callSNv {host : String} {p : ld_St → Prop} {stk : List Value} (O : ld_Ok l K ad cc nL own R) (hM : ld_Ctr l y b n ret rm (As) ad σ (ld_V p)) (hy : ld_MW false y b n ret na) (hw : Cond.methodLinkNest own ix y host ∈ ld_nws) (hn : As.length = na) (hstk : stk = As.reverse ++ st) (hroom : rm.1 + 1 ≤ R.frames ∧ 8 + (n + 11) + rm.2 ≤ R.locals) (hst : (st.map fun v => v.category).sum ≤ 8) (hd : decode cc pc = .ok (.invokestatic ix, 3)) (k : ∀ σ2, p σ2 → K σ2 lv st (pc + 3)) : K σ lv stk pc := by
  subst hstk
  exact ld_callSN O hM hy hw hn hroom hst hd (fun v σ2 h => by obtain ⟨rfl, h⟩ := h; exact k σ2 h)
end CAL
theorem ld_iret {P : Option Value → ld_St → Prop} {ret : Option FieldType} (E : ld_Re K cc ret P) {v : Int32} (hr : ∃ ty, ret = some ty ∧ narrow ty (.int v) = .int v) (hd : decode cc pc = .ok (.ireturn, 1)) (hp : P (some (.int v)) σ) : K σ lv [.int v] pc := E.1 σ lv v pc hd hr hp
theorem ld_ireti {q : Int32 → ld_St → Prop} (E : ld_Re K cc (some .int) (ld_I q)) {v : Int32} (hd : decode cc pc = .ok (.ireturn, 1)) (hp : q v σ) : K σ lv [.int v] pc := E.1 σ lv v pc hd ⟨_, rfl, rfl⟩ ⟨v, rfl, hp⟩
theorem ld_iretz {q : Int32 → ld_St → Prop} (E : ld_Re K cc (some .boolean) (ld_I q)) {v : Int32} (hv : v = 0 ∨ v = 1) (hd : decode cc pc = .ok (.ireturn, 1)) (hp : q v σ) : K σ lv [.int v] pc := E.1 σ lv v pc hd ⟨_, rfl, by rcases hv with rfl | rfl <;> rfl⟩ ⟨v, rfl, hp⟩
theorem ld_lret {q : Int64 → ld_St → Prop} (E : ld_Re K cc (some .long) (ld_L q)) {v : Int64} (hd : decode cc pc = .ok (.lreturn, 1)) (hp : q v σ) : K σ lv [.long v] pc := E.2.1 σ lv v pc hd rfl ⟨v, rfl, hp⟩
theorem ld_vret {q : ld_St → Prop} (E : ld_Re K cc none (ld_V q)) (hd : decode cc pc = .ok (.return_, 1)) (hp : q σ) : K σ lv [] pc := E.2.2 σ lv pc hd rfl ⟨rfl, hp⟩
end RUL
