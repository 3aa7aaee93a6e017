def ld_Scr (K : ld_St → List (Nat × Value) → List Value → Nat → Prop) (cc : ByteArray) (b L : Nat) (xs : Nat → Int32) : Prop :=
  (∀ (σ : ld_St) (lv : List (Nat × Value)) (st : List Value) (pc j : Nat), j < L → decode cc pc = .ok (.iaload, 1) → K σ lv (.int (xs j) :: st) (pc + 1) → K σ lv (.int (nI j) :: .ref b :: st) pc) ∧
  (∀ (σ : ld_St) (lv : List (Nat × Value)) (st : List Value) (pc : Nat), decode cc pc = .ok (.arraylength, 1) → K σ lv (.int (nI L) :: st) (pc + 1) → K σ lv (.ref b :: st) pc)
theorem ld_scr {X : ld_X} {p : Program} {l : Launch} {e : Env} {R : Room} {s : State} {m : MethodId} {args : Array Value} {below : List Frame} {meth : Method} {c : Code} {cells slots : Nat} {A : Nat → Prop} {ad : Nat → Nat} {nL : Nat} {Q : State → Prop} {cc : ByteArray} {b L : Nat} {xs : Nat → Int32} (hx : p.tables.exec = Jvm.exec) (hb : c.code = cc) (hL : L < 2 ^ 31) (hX : va_X b L xs s s.heap) (hbl : b < s.heap.size) (hbA : ¬ A b) : ld_Scr (ld_Ob X p l e R s m args below meth c cells slots A ad nL Q) cc b L xs := by
  constructor
  · intro σ lv st pc j hj hd k H locs ls hP hS hl
    refine va_sld hx hb hX hbl hbA hS (vp_in_nI hj hL) hd ?_
    rw [nI_clamp (Nat.lt_trans hj hL)]
    exact k H locs ls hP hS hl
  · intro σ lv st pc hd k H locs ls hP hS hl
    exact va_slen hx hb hX hbl hbA hS hd (k H locs ls hP hS hl)
