section Rows
variable {l : Launch} {R : Room} {cc : ByteArray} {own : String} {ret : Option FieldType} {mc ms : Nat} {tb : List ExceptionTableEntry} {post : Option Value → St → Prop} {exc : String → St → Prop} {Ξ : CT}
variable {n : Nat} {ρ : Nat → Nat} {J : Nat → Int64} {M : Mem} {a b pc : Nat} {ls ls2 : List (Nat × Value)} {st : List Value}
theorem e_iconst {k : Int} {v : Int32} (C : Cx l R cc own ret mc ms tb post exc Ξ) (d : decode cc pc = .ok (.iconst k, 1)) (hv : Int32.ofInt k = v) (kk : E Ξ n ρ J M a b (pc + 1) ls (.int v :: st)) : E Ξ n ρ J M a b pc ls st := by
  obtain ⟨p, e, s, m, args, below, meth, c, D, cA, A, nL, rfl, hx, hb, hml, hown, hts, hK, hG, hr, hlk, htb, hA, hst⟩ := C
  intro H locs lsA hP hD hS hl
  exact lv_iconst hx hb d hv (kk H locs lsA hP hD hS hl)
theorem e_bipush {k : Int} {v : Int32} (C : Cx l R cc own ret mc ms tb post exc Ξ) (d : decode cc pc = .ok (.bipush k, 2)) (hv : (Int8.ofInt k).toInt32 = v) (kk : E Ξ n ρ J M a b (pc + 2) ls (.int v :: st)) : E Ξ n ρ J M a b pc ls st := by
  obtain ⟨p, e, s, m, args, below, meth, c, D, cA, A, nL, rfl, hx, hb, hml, hown, hts, hK, hG, hr, hlk, htb, hA, hst⟩ := C
  intro H locs lsA hP hD hS hl
  exact lv_bipush hx hb d hv (kk H locs lsA hP hD hS hl)
theorem e_sipush {k : Int} {v : Int32} (C : Cx l R cc own ret mc ms tb post exc Ξ) (d : decode cc pc = .ok (.sipush k, 3)) (hv : (Int16.ofInt k).toInt32 = v) (kk : E Ξ n ρ J M a b (pc + 3) ls (.int v :: st)) : E Ξ n ρ J M a b pc ls st := by
  obtain ⟨p, e, s, m, args, below, meth, c, D, cA, A, nL, rfl, hx, hb, hml, hown, hts, hK, hG, hr, hlk, htb, hA, hst⟩ := C
  intro H locs lsA hP hD hS hl
  exact lv_sipush hx hb d hv (kk H locs lsA hP hD hS hl)
theorem e_lconst {k : Fin 2} {v : Int64} (C : Cx l R cc own ret mc ms tb post exc Ξ) (d : decode cc pc = .ok (.lconst k, 1)) (hv : Int64.ofNat (k : Nat) = v) (kk : E Ξ n ρ J M a b (pc + 1) ls (.long v :: st)) : E Ξ n ρ J M a b pc ls st := by
  obtain ⟨p, e, s, m, args, below, meth, c, D, cA, A, nL, rfl, hx, hb, hml, hown, hts, hK, hG, hr, hlk, htb, hA, hst⟩ := C
  intro H locs lsA hP hD hS hl
  exact lv_lconst hx hb d hv (kk H locs lsA hP hD hS hl)
theorem e_iload_n {k : Fin 4} {i j : Nat} {x : Int32} (C : Cx l R cc own ret mc ms tb post exc Ξ) (d : decode cc pc = .ok (.iload_n k, 1)) (hi : (k : Nat) = i) (h : ls[j]? = some (i, .int x)) (kk : E Ξ n ρ J M a b (pc + 1) ls (.int x :: st)) : E Ξ n ρ J M a b pc ls st := by
  obtain ⟨p, e, s, m, args, below, meth, c, D, cA, A, nL, rfl, hx, hb, hml, hown, hts, hK, hG, hr, hlk, htb, hA, hst⟩ := C
  intro H locs lsA hP hD hS hl
  exact lv_iload_n hx hb d hi (lv_at hl j h) (kk H locs lsA hP hD hS hl)
theorem e_iload {i j : Nat} {x : Int32} (C : Cx l R cc own ret mc ms tb post exc Ξ) (d : decode cc pc = .ok (.iload i, 2)) (h : ls[j]? = some (i, .int x)) (kk : E Ξ n ρ J M a b (pc + 2) ls (.int x :: st)) : E Ξ n ρ J M a b pc ls st := by
  obtain ⟨p, e, s, m, args, below, meth, c, D, cA, A, nL, rfl, hx, hb, hml, hown, hts, hK, hG, hr, hlk, htb, hA, hst⟩ := C
  intro H locs lsA hP hD hS hl
  exact lv_iload hx hb d (lv_at hl j h) (kk H locs lsA hP hD hS hl)
theorem e_lload_n {k : Fin 4} {i j : Nat} {x : Int64} (C : Cx l R cc own ret mc ms tb post exc Ξ) (d : decode cc pc = .ok (.lload_n k, 1)) (hi : (k : Nat) = i) (h : ls[j]? = some (i, .long x)) (kk : E Ξ n ρ J M a b (pc + 1) ls (.long x :: st)) : E Ξ n ρ J M a b pc ls st := by
  obtain ⟨p, e, s, m, args, below, meth, c, D, cA, A, nL, rfl, hx, hb, hml, hown, hts, hK, hG, hr, hlk, htb, hA, hst⟩ := C
  intro H locs lsA hP hD hS hl
  exact lv_lload_n hx hb d hi (lv_at hl j h) (kk H locs lsA hP hD hS hl)
theorem e_lload {i j : Nat} {x : Int64} (C : Cx l R cc own ret mc ms tb post exc Ξ) (d : decode cc pc = .ok (.lload i, 2)) (h : ls[j]? = some (i, .long x)) (kk : E Ξ n ρ J M a b (pc + 2) ls (.long x :: st)) : E Ξ n ρ J M a b pc ls st := by
  obtain ⟨p, e, s, m, args, below, meth, c, D, cA, A, nL, rfl, hx, hb, hml, hown, hts, hK, hG, hr, hlk, htb, hA, hst⟩ := C
  intro H locs lsA hP hD hS hl
  exact lv_lload hx hb d (lv_at hl j h) (kk H locs lsA hP hD hS hl)
theorem e_aload_n {k : Fin 4} {i j : Nat} {x : Nat} (C : Cx l R cc own ret mc ms tb post exc Ξ) (d : decode cc pc = .ok (.aload_n k, 1)) (hi : (k : Nat) = i) (h : ls[j]? = some (i, .ref x)) (kk : E Ξ n ρ J M a b (pc + 1) ls (.ref x :: st)) : E Ξ n ρ J M a b pc ls st := by
  obtain ⟨p, e, s, m, args, below, meth, c, D, cA, A, nL, rfl, hx, hb, hml, hown, hts, hK, hG, hr, hlk, htb, hA, hst⟩ := C
  intro H locs lsA hP hD hS hl
  exact lv_aload_n hx hb d hi (lv_at hl j h) (kk H locs lsA hP hD hS hl)
theorem e_aload {i j : Nat} {x : Nat} (C : Cx l R cc own ret mc ms tb post exc Ξ) (d : decode cc pc = .ok (.aload i, 2)) (h : ls[j]? = some (i, .ref x)) (kk : E Ξ n ρ J M a b (pc + 2) ls (.ref x :: st)) : E Ξ n ρ J M a b pc ls st := by
  obtain ⟨p, e, s, m, args, below, meth, c, D, cA, A, nL, rfl, hx, hb, hml, hown, hts, hK, hG, hr, hlk, htb, hA, hst⟩ := C
  intro H locs lsA hP hD hS hl
  exact lv_aload hx hb d (lv_at hl j h) (kk H locs lsA hP hD hS hl)
theorem e_istore_n {k : Fin 4} {i nL0 : Nat} {x : Int32} (C : Cx l R cc own ret mc ms tb post exc Ξ) (hnL : Ξ.2.2.2.2.2.2 = nL0) (d : decode cc pc = .ok (.istore_n k, 1)) (hi : (k : Nat) = i) (hn : i < nL0) (hf : (i, Value.int x) :: ls.filter (fun q => !(q.1 == i) && !(q.1 + 1 == i && q.2.category == 2)) = ls2) (kk : E Ξ n ρ J M a b (pc + 1) ls2 st) : E Ξ n ρ J M a b pc ls (.int x :: st) := by
  obtain ⟨p, e, s, m, args, below, meth, c, D, cA, A, nL, rfl, hx, hb, hml, hown, hts, hK, hG, hr, hlk, htb, hA, hst⟩ := C
  intro H locs lsA hP hD hS hl
  subst hnL
  exact lv_istore_n hx hb d hi hl hn hf (fun ls2 hl => kk H locs ls2 hP hD hS hl)
theorem e_istore {i nL0 : Nat} {x : Int32} (C : Cx l R cc own ret mc ms tb post exc Ξ) (hnL : Ξ.2.2.2.2.2.2 = nL0) (d : decode cc pc = .ok (.istore i, 2)) (hn : i < nL0) (hf : (i, Value.int x) :: ls.filter (fun q => !(q.1 == i) && !(q.1 + 1 == i && q.2.category == 2)) = ls2) (kk : E Ξ n ρ J M a b (pc + 2) ls2 st) : E Ξ n ρ J M a b pc ls (.int x :: st) := by
  obtain ⟨p, e, s, m, args, below, meth, c, D, cA, A, nL, rfl, hx, hb, hml, hown, hts, hK, hG, hr, hlk, htb, hA, hst⟩ := C
  intro H locs lsA hP hD hS hl
  subst hnL
  exact lv_istore hx hb d hl hn hf (fun ls2 hl => kk H locs ls2 hP hD hS hl)
theorem e_astore_n {k : Fin 4} {i nL0 : Nat} {x : Nat} (C : Cx l R cc own ret mc ms tb post exc Ξ) (hnL : Ξ.2.2.2.2.2.2 = nL0) (d : decode cc pc = .ok (.astore_n k, 1)) (hi : (k : Nat) = i) (hn : i < nL0) (hf : (i, Value.ref x) :: ls.filter (fun q => !(q.1 == i) && !(q.1 + 1 == i && q.2.category == 2)) = ls2) (kk : E Ξ n ρ J M a b (pc + 1) ls2 st) : E Ξ n ρ J M a b pc ls (.ref x :: st) := by
  obtain ⟨p, e, s, m, args, below, meth, c, D, cA, A, nL, rfl, hx, hb, hml, hown, hts, hK, hG, hr, hlk, htb, hA, hst⟩ := C
  intro H locs lsA hP hD hS hl
  subst hnL
  exact lv_astore_n hx hb d hi hl hn hf (fun ls2 hl => kk H locs ls2 hP hD hS hl)
theorem e_astore {i nL0 : Nat} {x : Nat} (C : Cx l R cc own ret mc ms tb post exc Ξ) (hnL : Ξ.2.2.2.2.2.2 = nL0) (d : decode cc pc = .ok (.astore i, 2)) (hn : i < nL0) (hf : (i, Value.ref x) :: ls.filter (fun q => !(q.1 == i) && !(q.1 + 1 == i && q.2.category == 2)) = ls2) (kk : E Ξ n ρ J M a b (pc + 2) ls2 st) : E Ξ n ρ J M a b pc ls (.ref x :: st) := by
  obtain ⟨p, e, s, m, args, below, meth, c, D, cA, A, nL, rfl, hx, hb, hml, hown, hts, hK, hG, hr, hlk, htb, hA, hst⟩ := C
  intro H locs lsA hP hD hS hl
  subst hnL
  exact lv_astore hx hb d hl hn hf (fun ls2 hl => kk H locs ls2 hP hD hS hl)
theorem e_lstore_n {k : Fin 4} {i nL0 : Nat} {x : Int64} (C : Cx l R cc own ret mc ms tb post exc Ξ) (hnL : Ξ.2.2.2.2.2.2 = nL0) (d : decode cc pc = .ok (.lstore_n k, 1)) (hi : (k : Nat) = i) (hn : i + 1 < nL0) (hf : (i, Value.long x) :: ls.filter (fun q => !(q.1 == i) && (!(q.1 == i + 1) && !(q.1 + 1 == i && q.2.category == 2))) = ls2) (kk : E Ξ n ρ J M a b (pc + 1) ls2 st) : E Ξ n ρ J M a b pc ls (.long x :: st) := by
  obtain ⟨p, e, s, m, args, below, meth, c, D, cA, A, nL, rfl, hx, hb, hml, hown, hts, hK, hG, hr, hlk, htb, hA, hst⟩ := C
  intro H locs lsA hP hD hS hl
  subst hnL
  exact lv_lstore_n hx hb d hi hl hn hf (fun ls2 hl => kk H locs ls2 hP hD hS hl)
theorem e_lstore {i nL0 : Nat} {x : Int64} (C : Cx l R cc own ret mc ms tb post exc Ξ) (hnL : Ξ.2.2.2.2.2.2 = nL0) (d : decode cc pc = .ok (.lstore i, 2)) (hn : i + 1 < nL0) (hf : (i, Value.long x) :: ls.filter (fun q => !(q.1 == i) && (!(q.1 == i + 1) && !(q.1 + 1 == i && q.2.category == 2))) = ls2) (kk : E Ξ n ρ J M a b (pc + 2) ls2 st) : E Ξ n ρ J M a b pc ls (.long x :: st) := by
  obtain ⟨p, e, s, m, args, below, meth, c, D, cA, A, nL, rfl, hx, hb, hml, hown, hts, hK, hG, hr, hlk, htb, hA, hst⟩ := C
  intro H locs lsA hP hD hS hl
  subst hnL
  exact lv_lstore hx hb d hl hn hf (fun ls2 hl => kk H locs ls2 hP hD hS hl)
theorem e_iinc {i j nL0 : Nat} {k : Int} {x v : Int32} (C : Cx l R cc own ret mc ms tb post exc Ξ) (hnL : Ξ.2.2.2.2.2.2 = nL0) (d : decode cc pc = .ok (.iinc i k, 3)) (h : ls[j]? = some (i, .int x)) (hv : x + Int32.ofInt k = v) (hn : i < nL0) (hf : (i, Value.int v) :: ls.filter (fun q => !(q.1 == i) && !(q.1 + 1 == i && q.2.category == 2)) = ls2) (kk : E Ξ n ρ J M a b (pc + 3) ls2 st) : E Ξ n ρ J M a b pc ls st := by
  obtain ⟨p, e, s, m, args, below, meth, c, D, cA, A, nL, rfl, hx, hb, hml, hown, hts, hK, hG, hr, hlk, htb, hA, hst⟩ := C
  intro H locs lsA hP hD hS hl
  subst hnL
  exact lv_iinc hx hb d hl h hv hn hf (fun ls2 hl => kk H locs ls2 hP hD hS hl)
theorem e_iadd {x y : Int32} (C : Cx l R cc own ret mc ms tb post exc Ξ) (d : decode cc pc = .ok (.iadd, 1)) (kk : E Ξ n ρ J M a b (pc + 1) ls (.int (x + y) :: st)) : E Ξ n ρ J M a b pc ls (.int y :: .int x :: st) := by
  obtain ⟨p, e, s, m, args, below, meth, c, D, cA, A, nL, rfl, hx, hb, hml, hown, hts, hK, hG, hr, hlk, htb, hA, hst⟩ := C
  intro H locs lsA hP hD hS hl
  exact lv_iadd hx hb d (kk H locs lsA hP hD hS hl)
theorem e_isub {x y : Int32} (C : Cx l R cc own ret mc ms tb post exc Ξ) (d : decode cc pc = .ok (.isub, 1)) (kk : E Ξ n ρ J M a b (pc + 1) ls (.int (x - y) :: st)) : E Ξ n ρ J M a b pc ls (.int y :: .int x :: st) := by
  obtain ⟨p, e, s, m, args, below, meth, c, D, cA, A, nL, rfl, hx, hb, hml, hown, hts, hK, hG, hr, hlk, htb, hA, hst⟩ := C
  intro H locs lsA hP hD hS hl
  exact lv_isub hx hb d (kk H locs lsA hP hD hS hl)
theorem e_imul {x y : Int32} (C : Cx l R cc own ret mc ms tb post exc Ξ) (d : decode cc pc = .ok (.imul, 1)) (kk : E Ξ n ρ J M a b (pc + 1) ls (.int (x * y) :: st)) : E Ξ n ρ J M a b pc ls (.int y :: .int x :: st) := by
  obtain ⟨p, e, s, m, args, below, meth, c, D, cA, A, nL, rfl, hx, hb, hml, hown, hts, hK, hG, hr, hlk, htb, hA, hst⟩ := C
  intro H locs lsA hP hD hS hl
  exact lv_imul hx hb d (kk H locs lsA hP hD hS hl)
theorem e_iand {x y : Int32} (C : Cx l R cc own ret mc ms tb post exc Ξ) (d : decode cc pc = .ok (.iand, 1)) (kk : E Ξ n ρ J M a b (pc + 1) ls (.int (x &&& y) :: st)) : E Ξ n ρ J M a b pc ls (.int y :: .int x :: st) := by
  obtain ⟨p, e, s, m, args, below, meth, c, D, cA, A, nL, rfl, hx, hb, hml, hown, hts, hK, hG, hr, hlk, htb, hA, hst⟩ := C
  intro H locs lsA hP hD hS hl
  exact lv_iand hx hb d (kk H locs lsA hP hD hS hl)
theorem e_ior {x y : Int32} (C : Cx l R cc own ret mc ms tb post exc Ξ) (d : decode cc pc = .ok (.ior, 1)) (kk : E Ξ n ρ J M a b (pc + 1) ls (.int (x ||| y) :: st)) : E Ξ n ρ J M a b pc ls (.int y :: .int x :: st) := by
  obtain ⟨p, e, s, m, args, below, meth, c, D, cA, A, nL, rfl, hx, hb, hml, hown, hts, hK, hG, hr, hlk, htb, hA, hst⟩ := C
  intro H locs lsA hP hD hS hl
  exact lv_ior hx hb d (kk H locs lsA hP hD hS hl)
theorem e_ishl {x y : Int32} (C : Cx l R cc own ret mc ms tb post exc Ξ) (d : decode cc pc = .ok (.ishl, 1)) (kk : E Ξ n ρ J M a b (pc + 1) ls (.int (x <<< (y &&& 31)) :: st)) : E Ξ n ρ J M a b pc ls (.int y :: .int x :: st) := by
  obtain ⟨p, e, s, m, args, below, meth, c, D, cA, A, nL, rfl, hx, hb, hml, hown, hts, hK, hG, hr, hlk, htb, hA, hst⟩ := C
  intro H locs lsA hP hD hS hl
  exact lv_ishl hx hb d (kk H locs lsA hP hD hS hl)
theorem e_ishr {x y : Int32} (C : Cx l R cc own ret mc ms tb post exc Ξ) (d : decode cc pc = .ok (.ishr, 1)) (kk : E Ξ n ρ J M a b (pc + 1) ls (.int (x >>> (y &&& 31)) :: st)) : E Ξ n ρ J M a b pc ls (.int y :: .int x :: st) := by
  obtain ⟨p, e, s, m, args, below, meth, c, D, cA, A, nL, rfl, hx, hb, hml, hown, hts, hK, hG, hr, hlk, htb, hA, hst⟩ := C
  intro H locs lsA hP hD hS hl
  exact lv_ishr hx hb d (kk H locs lsA hP hD hS hl)
theorem e_idiv {x y : Int32} (C : Cx l R cc own ret mc ms tb post exc Ξ) (d : decode cc pc = .ok (.idiv, 1)) (hne : ¬ y = 0) (kk : E Ξ n ρ J M a b (pc + 1) ls (.int (x / y) :: st)) : E Ξ n ρ J M a b pc ls (.int y :: .int x :: st) := by
  obtain ⟨p, e, s, m, args, below, meth, c, D, cA, A, nL, rfl, hx, hb, hml, hown, hts, hK, hG, hr, hlk, htb, hA, hst⟩ := C
  intro H locs lsA hP hD hS hl
  exact lv_idiv hx hb d hne (kk H locs lsA hP hD hS hl)
theorem e_irem {x y : Int32} (C : Cx l R cc own ret mc ms tb post exc Ξ) (d : decode cc pc = .ok (.irem, 1)) (hne : ¬ y = 0) (kk : E Ξ n ρ J M a b (pc + 1) ls (.int (x - x / y * y) :: st)) : E Ξ n ρ J M a b pc ls (.int y :: .int x :: st) := by
  obtain ⟨p, e, s, m, args, below, meth, c, D, cA, A, nL, rfl, hx, hb, hml, hown, hts, hK, hG, hr, hlk, htb, hA, hst⟩ := C
  intro H locs lsA hP hD hS hl
  exact lv_irem hx hb d hne (kk H locs lsA hP hD hS hl)
theorem e_ladd {x y : Int64} (C : Cx l R cc own ret mc ms tb post exc Ξ) (d : decode cc pc = .ok (.ladd, 1)) (kk : E Ξ n ρ J M a b (pc + 1) ls (.long (x + y) :: st)) : E Ξ n ρ J M a b pc ls (.long y :: .long x :: st) := by
  obtain ⟨p, e, s, m, args, below, meth, c, D, cA, A, nL, rfl, hx, hb, hml, hown, hts, hK, hG, hr, hlk, htb, hA, hst⟩ := C
  intro H locs lsA hP hD hS hl
  exact lv_ladd hx hb d (kk H locs lsA hP hD hS hl)
theorem e_lmul {x y : Int64} (C : Cx l R cc own ret mc ms tb post exc Ξ) (d : decode cc pc = .ok (.lmul, 1)) (kk : E Ξ n ρ J M a b (pc + 1) ls (.long (x * y) :: st)) : E Ξ n ρ J M a b pc ls (.long y :: .long x :: st) := by
  obtain ⟨p, e, s, m, args, below, meth, c, D, cA, A, nL, rfl, hx, hb, hml, hown, hts, hK, hG, hr, hlk, htb, hA, hst⟩ := C
  intro H locs lsA hP hD hS hl
  exact lv_lmul hx hb d (kk H locs lsA hP hD hS hl)
theorem e_ldiv {x y : Int64} (C : Cx l R cc own ret mc ms tb post exc Ξ) (d : decode cc pc = .ok (.ldiv, 1)) (hne : ¬ y = 0) (kk : E Ξ n ρ J M a b (pc + 1) ls (.long (x / y) :: st)) : E Ξ n ρ J M a b pc ls (.long y :: .long x :: st) := by
  obtain ⟨p, e, s, m, args, below, meth, c, D, cA, A, nL, rfl, hx, hb, hml, hown, hts, hK, hG, hr, hlk, htb, hA, hst⟩ := C
  intro H locs lsA hP hD hS hl
  exact lv_ldiv hx hb d hne (kk H locs lsA hP hD hS hl)
theorem e_lcmp {x y : Int64} (C : Cx l R cc own ret mc ms tb post exc Ξ) (d : decode cc pc = .ok (.lcmp, 1)) (kk : E Ξ n ρ J M a b (pc + 1) ls (.int (lg_cmp x y) :: st)) : E Ξ n ρ J M a b pc ls (.long y :: .long x :: st) := by
  obtain ⟨p, e, s, m, args, below, meth, c, D, cA, A, nL, rfl, hx, hb, hml, hown, hts, hK, hG, hr, hlk, htb, hA, hst⟩ := C
  intro H locs lsA hP hD hS hl
  exact W.lcmp hx hb d (kk H locs lsA hP hD hS hl)
theorem e_i2l {x : Int32} (C : Cx l R cc own ret mc ms tb post exc Ξ) (d : decode cc pc = .ok (.i2l, 1)) (kk : E Ξ n ρ J M a b (pc + 1) ls (.long x.toInt64 :: st)) : E Ξ n ρ J M a b pc ls (.int x :: st) := by
  obtain ⟨p, e, s, m, args, below, meth, c, D, cA, A, nL, rfl, hx, hb, hml, hown, hts, hK, hG, hr, hlk, htb, hA, hst⟩ := C
  intro H locs lsA hP hD hS hl
  exact lv_i2l hx hb d rfl (kk H locs lsA hP hD hS hl)
theorem e_l2i {x : Int64} (C : Cx l R cc own ret mc ms tb post exc Ξ) (d : decode cc pc = .ok (.l2i, 1)) (kk : E Ξ n ρ J M a b (pc + 1) ls (.int x.toInt32 :: st)) : E Ξ n ρ J M a b pc ls (.long x :: st) := by
  obtain ⟨p, e, s, m, args, below, meth, c, D, cA, A, nL, rfl, hx, hb, hml, hown, hts, hK, hG, hr, hlk, htb, hA, hst⟩ := C
  intro H locs lsA hP hD hS hl
  exact lv_l2i hx hb d rfl (kk H locs lsA hP hD hS hl)
theorem e_dup {v : Value} (C : Cx l R cc own ret mc ms tb post exc Ξ) (d : decode cc pc = .ok (.dup, 1)) (hv : v.category = 1) (kk : E Ξ n ρ J M a b (pc + 1) ls (v :: v :: st)) : E Ξ n ρ J M a b pc ls (v :: st) := by
  obtain ⟨p, e, s, m, args, below, meth, c, D, cA, A, nL, rfl, hx, hb, hml, hown, hts, hK, hG, hr, hlk, htb, hA, hst⟩ := C
  intro H locs lsA hP hD hS hl
  exact lv_dup hx hb d hv (kk H locs lsA hP hD hS hl)
theorem e_pop {v : Value} (C : Cx l R cc own ret mc ms tb post exc Ξ) (d : decode cc pc = .ok (.pop, 1)) (hv : v.category = 1) (kk : E Ξ n ρ J M a b (pc + 1) ls st) : E Ξ n ρ J M a b pc ls (v :: st) := by
  obtain ⟨p, e, s, m, args, below, meth, c, D, cA, A, nL, rfl, hx, hb, hml, hown, hts, hK, hG, hr, hlk, htb, hA, hst⟩ := C
  intro H locs lsA hP hD hS hl
  exact lv_pop hx hb d hv (kk H locs lsA hP hD hS hl)
theorem e_dup2 {v w : Value} (C : Cx l R cc own ret mc ms tb post exc Ξ) (d : decode cc pc = .ok (.dup2, 1)) (hv : v.category = 1) (hw : w.category = 1) (kk : E Ξ n ρ J M a b (pc + 1) ls (v :: w :: v :: w :: st)) : E Ξ n ρ J M a b pc ls (v :: w :: st) := by
  obtain ⟨p, e, s, m, args, below, meth, c, D, cA, A, nL, rfl, hx, hb, hml, hown, hts, hK, hG, hr, hlk, htb, hA, hst⟩ := C
  intro H locs lsA hP hD hS hl
  exact lv_dup2_11 hx hb d hv hw (kk H locs lsA hP hD hS hl)
theorem e_if_eq {x : Int32} {off : Int} {tgt : Nat} (C : Cx l R cc own ret mc ms tb post exc Ξ) (d : decode cc pc = .ok (.ifCond .eq off, 3)) (ht : (pc : Int) + off = (tgt : Int)) (kt : (x = 0) → E Ξ n ρ J M a b tgt ls st) (kf : ¬ (x = 0) → E Ξ n ρ J M a b (pc + 3) ls st) : E Ξ n ρ J M a b pc ls (.int x :: st) := by
  obtain ⟨p, e, s, m, args, below, meth, c, D, cA, A, nL, rfl, hx, hb, hml, hown, hts, hK, hG, hr, hlk, htb, hA, hst⟩ := C
  intro H locs lsA hP hD hS hl
  exact lv_if_eq hx hb d ht (fun q => kt q H locs lsA hP hD hS hl) (fun q => kf q H locs lsA hP hD hS hl)
theorem e_icmp_eq {x y : Int32} {off : Int} {tgt : Nat} (C : Cx l R cc own ret mc ms tb post exc Ξ) (d : decode cc pc = .ok (.if_icmp .eq off, 3)) (ht : (pc : Int) + off = (tgt : Int)) (kt : (x = y) → E Ξ n ρ J M a b tgt ls st) (kf : ¬ (x = y) → E Ξ n ρ J M a b (pc + 3) ls st) : E Ξ n ρ J M a b pc ls (.int y :: .int x :: st) := by
  obtain ⟨p, e, s, m, args, below, meth, c, D, cA, A, nL, rfl, hx, hb, hml, hown, hts, hK, hG, hr, hlk, htb, hA, hst⟩ := C
  intro H locs lsA hP hD hS hl
  exact lv_icmp_eq hx hb d ht (fun q => kt q H locs lsA hP hD hS hl) (fun q => kf q H locs lsA hP hD hS hl)
theorem e_if_ne {x : Int32} {off : Int} {tgt : Nat} (C : Cx l R cc own ret mc ms tb post exc Ξ) (d : decode cc pc = .ok (.ifCond .ne off, 3)) (ht : (pc : Int) + off = (tgt : Int)) (kt : (¬ x = 0) → E Ξ n ρ J M a b tgt ls st) (kf : (x = 0) → E Ξ n ρ J M a b (pc + 3) ls st) : E Ξ n ρ J M a b pc ls (.int x :: st) := by
  obtain ⟨p, e, s, m, args, below, meth, c, D, cA, A, nL, rfl, hx, hb, hml, hown, hts, hK, hG, hr, hlk, htb, hA, hst⟩ := C
  intro H locs lsA hP hD hS hl
  exact lv_if_ne hx hb d ht (fun q => kt q H locs lsA hP hD hS hl) (fun q => kf q H locs lsA hP hD hS hl)
theorem e_icmp_ne {x y : Int32} {off : Int} {tgt : Nat} (C : Cx l R cc own ret mc ms tb post exc Ξ) (d : decode cc pc = .ok (.if_icmp .ne off, 3)) (ht : (pc : Int) + off = (tgt : Int)) (kt : (¬ x = y) → E Ξ n ρ J M a b tgt ls st) (kf : (x = y) → E Ξ n ρ J M a b (pc + 3) ls st) : E Ξ n ρ J M a b pc ls (.int y :: .int x :: st) := by
  obtain ⟨p, e, s, m, args, below, meth, c, D, cA, A, nL, rfl, hx, hb, hml, hown, hts, hK, hG, hr, hlk, htb, hA, hst⟩ := C
  intro H locs lsA hP hD hS hl
  exact lv_icmp_ne hx hb d ht (fun q => kt q H locs lsA hP hD hS hl) (fun q => kf q H locs lsA hP hD hS hl)
theorem e_if_lt {x : Int32} {off : Int} {tgt : Nat} (C : Cx l R cc own ret mc ms tb post exc Ξ) (d : decode cc pc = .ok (.ifCond .lt off, 3)) (ht : (pc : Int) + off = (tgt : Int)) (kt : (x < 0) → E Ξ n ρ J M a b tgt ls st) (kf : ¬ (x < 0) → E Ξ n ρ J M a b (pc + 3) ls st) : E Ξ n ρ J M a b pc ls (.int x :: st) := by
  obtain ⟨p, e, s, m, args, below, meth, c, D, cA, A, nL, rfl, hx, hb, hml, hown, hts, hK, hG, hr, hlk, htb, hA, hst⟩ := C
  intro H locs lsA hP hD hS hl
  exact lv_if_lt hx hb d ht (fun q => kt q H locs lsA hP hD hS hl) (fun q => kf q H locs lsA hP hD hS hl)
theorem e_icmp_lt {x y : Int32} {off : Int} {tgt : Nat} (C : Cx l R cc own ret mc ms tb post exc Ξ) (d : decode cc pc = .ok (.if_icmp .lt off, 3)) (ht : (pc : Int) + off = (tgt : Int)) (kt : (x < y) → E Ξ n ρ J M a b tgt ls st) (kf : ¬ (x < y) → E Ξ n ρ J M a b (pc + 3) ls st) : E Ξ n ρ J M a b pc ls (.int y :: .int x :: st) := by
  obtain ⟨p, e, s, m, args, below, meth, c, D, cA, A, nL, rfl, hx, hb, hml, hown, hts, hK, hG, hr, hlk, htb, hA, hst⟩ := C
  intro H locs lsA hP hD hS hl
  exact lv_icmp_lt hx hb d ht (fun q => kt q H locs lsA hP hD hS hl) (fun q => kf q H locs lsA hP hD hS hl)
theorem e_if_ge {x : Int32} {off : Int} {tgt : Nat} (C : Cx l R cc own ret mc ms tb post exc Ξ) (d : decode cc pc = .ok (.ifCond .ge off, 3)) (ht : (pc : Int) + off = (tgt : Int)) (kt : (0 ≤ x) → E Ξ n ρ J M a b tgt ls st) (kf : ¬ (0 ≤ x) → E Ξ n ρ J M a b (pc + 3) ls st) : E Ξ n ρ J M a b pc ls (.int x :: st) := by
  obtain ⟨p, e, s, m, args, below, meth, c, D, cA, A, nL, rfl, hx, hb, hml, hown, hts, hK, hG, hr, hlk, htb, hA, hst⟩ := C
  intro H locs lsA hP hD hS hl
  exact lv_if_ge hx hb d ht (fun q => kt q H locs lsA hP hD hS hl) (fun q => kf q H locs lsA hP hD hS hl)
theorem e_icmp_ge {x y : Int32} {off : Int} {tgt : Nat} (C : Cx l R cc own ret mc ms tb post exc Ξ) (d : decode cc pc = .ok (.if_icmp .ge off, 3)) (ht : (pc : Int) + off = (tgt : Int)) (kt : (y ≤ x) → E Ξ n ρ J M a b tgt ls st) (kf : ¬ (y ≤ x) → E Ξ n ρ J M a b (pc + 3) ls st) : E Ξ n ρ J M a b pc ls (.int y :: .int x :: st) := by
  obtain ⟨p, e, s, m, args, below, meth, c, D, cA, A, nL, rfl, hx, hb, hml, hown, hts, hK, hG, hr, hlk, htb, hA, hst⟩ := C
  intro H locs lsA hP hD hS hl
  exact lv_icmp_ge hx hb d ht (fun q => kt q H locs lsA hP hD hS hl) (fun q => kf q H locs lsA hP hD hS hl)
theorem e_if_gt {x : Int32} {off : Int} {tgt : Nat} (C : Cx l R cc own ret mc ms tb post exc Ξ) (d : decode cc pc = .ok (.ifCond .gt off, 3)) (ht : (pc : Int) + off = (tgt : Int)) (kt : (0 < x) → E Ξ n ρ J M a b tgt ls st) (kf : ¬ (0 < x) → E Ξ n ρ J M a b (pc + 3) ls st) : E Ξ n ρ J M a b pc ls (.int x :: st) := by
  obtain ⟨p, e, s, m, args, below, meth, c, D, cA, A, nL, rfl, hx, hb, hml, hown, hts, hK, hG, hr, hlk, htb, hA, hst⟩ := C
  intro H locs lsA hP hD hS hl
  exact lv_if_gt hx hb d ht (fun q => kt q H locs lsA hP hD hS hl) (fun q => kf q H locs lsA hP hD hS hl)
theorem e_icmp_gt {x y : Int32} {off : Int} {tgt : Nat} (C : Cx l R cc own ret mc ms tb post exc Ξ) (d : decode cc pc = .ok (.if_icmp .gt off, 3)) (ht : (pc : Int) + off = (tgt : Int)) (kt : (y < x) → E Ξ n ρ J M a b tgt ls st) (kf : ¬ (y < x) → E Ξ n ρ J M a b (pc + 3) ls st) : E Ξ n ρ J M a b pc ls (.int y :: .int x :: st) := by
  obtain ⟨p, e, s, m, args, below, meth, c, D, cA, A, nL, rfl, hx, hb, hml, hown, hts, hK, hG, hr, hlk, htb, hA, hst⟩ := C
  intro H locs lsA hP hD hS hl
  exact lv_icmp_gt hx hb d ht (fun q => kt q H locs lsA hP hD hS hl) (fun q => kf q H locs lsA hP hD hS hl)
theorem e_if_le {x : Int32} {off : Int} {tgt : Nat} (C : Cx l R cc own ret mc ms tb post exc Ξ) (d : decode cc pc = .ok (.ifCond .le off, 3)) (ht : (pc : Int) + off = (tgt : Int)) (kt : (x ≤ 0) → E Ξ n ρ J M a b tgt ls st) (kf : ¬ (x ≤ 0) → E Ξ n ρ J M a b (pc + 3) ls st) : E Ξ n ρ J M a b pc ls (.int x :: st) := by
  obtain ⟨p, e, s, m, args, below, meth, c, D, cA, A, nL, rfl, hx, hb, hml, hown, hts, hK, hG, hr, hlk, htb, hA, hst⟩ := C
  intro H locs lsA hP hD hS hl
  exact lv_if_le hx hb d ht (fun q => kt q H locs lsA hP hD hS hl) (fun q => kf q H locs lsA hP hD hS hl)
theorem e_icmp_le {x y : Int32} {off : Int} {tgt : Nat} (C : Cx l R cc own ret mc ms tb post exc Ξ) (d : decode cc pc = .ok (.if_icmp .le off, 3)) (ht : (pc : Int) + off = (tgt : Int)) (kt : (x ≤ y) → E Ξ n ρ J M a b tgt ls st) (kf : ¬ (x ≤ y) → E Ξ n ρ J M a b (pc + 3) ls st) : E Ξ n ρ J M a b pc ls (.int y :: .int x :: st) := by
  obtain ⟨p, e, s, m, args, below, meth, c, D, cA, A, nL, rfl, hx, hb, hml, hown, hts, hK, hG, hr, hlk, htb, hA, hst⟩ := C
  intro H locs lsA hP hD hS hl
  exact lv_icmp_le hx hb d ht (fun q => kt q H locs lsA hP hD hS hl) (fun q => kf q H locs lsA hP hD hS hl)
theorem e_goto {off : Int} {tgt : Nat} (C : Cx l R cc own ret mc ms tb post exc Ξ) (d : decode cc pc = .ok (.goto off, 3)) (ht : (pc : Int) + off = (tgt : Int)) (kk : E Ξ n ρ J M a b tgt ls st) : E Ξ n ρ J M a b pc ls st := by
  obtain ⟨p, e, s, m, args, below, meth, c, D, cA, A, nL, rfl, hx, hb, hml, hown, hts, hK, hG, hr, hlk, htb, hA, hst⟩ := C
  intro H locs lsA hP hD hS hl
  exact lv_goto hx hb d ht (kk H locs lsA hP hD hS hl)
theorem e_ldc {i : Nat} {v : Int32} (C : Cx l R cc own ret mc ms tb post exc Ξ) (d : decode cc pc = .ok (.ldc i, 2)) (hw : Cond.constant own i v ∈ GW) (kk : E Ξ n ρ J M a b (pc + 2) ls (.int v :: st)) : E Ξ n ρ J M a b pc ls st := by
  obtain ⟨p, e, s, m, args, below, meth, c, D, cA, A, nL, rfl, hx, hb, hml, hown, hts, hK, hG, hr, hlk, htb, hA, hst⟩ := C
  intro H locs lsA hP hD hS hl
  exact lv_ldc hx hb hown (hts _ hw) d (kk H locs lsA hP hD hS hl)
theorem e_ldc2 {i : Nat} {v : Int64} (C : Cx l R cc own ret mc ms tb post exc Ξ) (d : decode cc pc = .ok (.ldc2_w i, 3)) (hw : Cond.constantLong own i v ∈ GW) (kk : E Ξ n ρ J M a b (pc + 3) ls (.long v :: st)) : E Ξ n ρ J M a b pc ls st := by
  obtain ⟨p, e, s, m, args, below, meth, c, D, cA, A, nL, rfl, hx, hb, hml, hown, hts, hK, hG, hr, hlk, htb, hA, hst⟩ := C
  intro H locs lsA hP hD hS hl
  exact lv_ldc2 hx hb hown (hts _ hw) d (kk H locs lsA hP hD hS hl)
theorem e_get {C0 : String} {T : u_T} {N ci k i idx : Nat} {ref : String} {v : Value} {fs : List Value} (C : Cx l R cc own ret mc ms tb post exc Ξ) (hi : Ok n i) (hcell : ∀ cA, cellOf cA n ρ J i (M i) = .inr (ci, fs)) (hc : vwCl[ci]? = some (C0, T, N)) (hin : ∀ w ∈ u_ws C0 T N, w ∈ GW) (hk : k < N) (hsame : ref = (T k).1) (hv : fs[k]? = some v) (hw : Cond.fieldLink own idx ref (T k).2.1 (T k).2.2.1 ∈ GW) (d : decode cc pc = .ok (.getfield idx, 3)) (kk : E Ξ n ρ J M a b (pc + 3) ls (v :: st)) : E Ξ n ρ J M a b pc ls (.ref (ρ i) :: st) := by
  obtain ⟨p, e, s, m, args, below, meth, c, D, cA, A, nL, rfl, hx, hb, hml, hown, hts, hK, hG, hr, hlk, htb, hA, hst⟩ := C
  intro H locs lsA hP hD hS hl
  exact va_get (D := D) (ci := ci) (v := v) (C := C0) (T := T) (N := N) hx hb hts hin hown hK hP (pos i) ((ws_at hi).trans (congrArg (fun z => some (ρ i, z)) (hcell cA))) hc k hk (hts _ hw) (fun z h9 => hsame ▸ h9) hv d (kk H locs lsA hP hD hS hl)
theorem e_put {C0 : String} {T : u_T} {N ci k i idx : Nat} {ref : String} {x : Int32} {fs : List Value} {ty0 : Nat → FieldType} {ty : FieldType} (C : Cx l R cc own ret mc ms tb post exc Ξ) (hi : Ok n i) (hcell : ∀ cA, cellOf cA n ρ J i (M i) = .inr (ci, fs)) (hc : vwCl[ci]? = some (C0, T, N)) (hin : ∀ w ∈ u_ws C0 T N, w ∈ GW) (hty : ∀ k, k < N → parseFieldDescriptor (T k).2.2.1 = some (ty0 k)) (hnm : ∀ a, a < N → ∀ b, b < N → a ≠ b → (T a).2.1 ≠ (T b).2.1) (hk : k < N) (hsame : ref = (T k).1) (hfin : (T k).2.2.2 = false) (hd : parseFieldDescriptor (T k).2.2.1 = some ty) (hn : narrow ty (.int x) = .int x) (hfit : fits ty (.int x) = true) (hlen : k < fs.length) (hset : ∀ cA, (Sum.inr (ci, fs.set k (.int x)) : va_E) = cellOf cA n ρ J i (upd (M i) k x)) (hw : Cond.fieldLink own idx ref (T k).2.1 (T k).2.2.1 ∈ GW) (d : decode cc pc = .ok (.putfield idx, 3)) (kk : E Ξ n ρ J (up M i k x) a b (pc + 3) ls st) : E Ξ n ρ J M a b pc ls (.int x :: .ref (ρ i) :: st) := by
  obtain ⟨p, e, s, m, args, below, meth, c, D, cA, A, nL, rfl, hx, hb, hml, hown, hts, hK, hG, hr, hlk, htb, hA, hst⟩ := C
  intro H locs lsA hP hD hS hl
  have he : (ws cA n ρ J M)[pos i]? = some (ρ i, .inr (ci, fs)) := (ws_at hi).trans (congrArg (fun z => some (ρ i, z)) (hcell cA))
  have e1 : (ws cA n ρ J M).set (pos i) (ρ i, .inr (ci, fs.set k (.int x))) = ws cA n ρ J (up M i k x) := by rw [hset cA, ws_set hi]; rfl
  refine va_put (D := D) (ci := ci) (v := .int x) (ty := ty) (C := C0) (T := T) (N := N) hx hb hts hin ty0 hty hnm hown hK hP hD hS (pos i) he hc k hk (hts _ hw) (fun z h9 => hsame ▸ h9) hfin hd hn hfit hlen d (fun H1 locs1 hP hD hS => ?_)
  rw [e1] at hP hD
  exact kk H1 locs1 lsA hP hD hS hl
theorem e_iald {i N : Nat} {x : Int32} (C : Cx l R cc own ret mc ms tb post exc Ξ) (hi : Ok n i) (hcell : ∀ cA : Nat → ClassId, cellOf cA n ρ J i (M i) = .inl (cA 0, N, .inl (M i))) (hin : vp_in x N) (d : decode cc pc = .ok (.iaload, 1)) (kk : E Ξ n ρ J M a b (pc + 1) ls (.int (M i x.toNatClampNeg) :: st)) : E Ξ n ρ J M a b pc ls (.int x :: .ref (ρ i) :: st) := by
  obtain ⟨p, e, s, m, args, below, meth, c, D, cA, A, nL, rfl, hx, hb, hml, hown, hts, hK, hG, hr, hlk, htb, hA, hst⟩ := C
  intro H locs lsA hP hD hS hl
  exact va_iald hx hb hK hP (pos i) 0 ((ws_at hi).trans (congrArg (fun z => some (ρ i, z)) (hcell cA))) rfl hin d (kk H locs lsA hP hD hS hl)
theorem e_zald {i N : Nat} {x : Int32} (C : Cx l R cc own ret mc ms tb post exc Ξ) (hi : Ok n i) (hcell : ∀ cA : Nat → ClassId, cellOf cA n ρ J i (M i) = .inl (cA 1, N, .inl (M i))) (hin : vp_in x N) (d : decode cc pc = .ok (.baload, 1)) (kk : E Ξ n ρ J M a b (pc + 1) ls (.int (M i x.toNatClampNeg) :: st)) : E Ξ n ρ J M a b pc ls (.int x :: .ref (ρ i) :: st) := by
  obtain ⟨p, e, s, m, args, below, meth, c, D, cA, A, nL, rfl, hx, hb, hml, hown, hts, hK, hG, hr, hlk, htb, hA, hst⟩ := C
  intro H locs lsA hP hD hS hl
  exact va_zald hx hb hK hP (pos i) 1 ((ws_at hi).trans (congrArg (fun z => some (ρ i, z)) (hcell cA))) rfl hin d (kk H locs lsA hP hD hS hl)
theorem e_iast {i N : Nat} {x v : Int32} (C : Cx l R cc own ret mc ms tb post exc Ξ) (hi : Ok n i) (hcell : ∀ (cA : Nat → ClassId) (f : Nat → Int32), cellOf cA n ρ J i f = .inl (cA 0, N, .inl f)) (hin : vp_in x N) (d : decode cc pc = .ok (.iastore, 1)) (kk : E Ξ n ρ J (up M i x.toNatClampNeg v) a b (pc + 1) ls st) : E Ξ n ρ J M a b pc ls (.int v :: .int x :: .ref (ρ i) :: st) := by
  obtain ⟨p, e, s, m, args, below, meth, c, D, cA, A, nL, rfl, hx, hb, hml, hown, hts, hK, hG, hr, hlk, htb, hA, hst⟩ := C
  intro H locs lsA hP hD hS hl
  have e1 : (ws cA n ρ J M).set (pos i) (ρ i, .inl (cA 0, N, .inl (upd (M i) x.toNatClampNeg v))) = ws cA n ρ J (up M i x.toNatClampNeg v) := by rw [← hcell cA, ws_set hi]; rfl
  refine va_iast hx hb hK hP hD hS (pos i) 0 ((ws_at hi).trans (congrArg (fun z => some (ρ i, z)) (hcell cA (M i)))) rfl hin d (fun H1 locs1 hP hD hS => ?_)
  rw [e1] at hP hD
  exact kk H1 locs1 lsA hP hD hS hl
theorem e_zast {i N : Nat} {x v : Int32} (C : Cx l R cc own ret mc ms tb post exc Ξ) (hi : Ok n i) (hcell : ∀ (cA : Nat → ClassId) (f : Nat → Int32), cellOf cA n ρ J i f = .inl (cA 1, N, .inl f)) (hin : vp_in x N) (hv : vp_nar .boolean v = v) (d : decode cc pc = .ok (.bastore, 1)) (kk : E Ξ n ρ J (up M i x.toNatClampNeg v) a b (pc + 1) ls st) : E Ξ n ρ J M a b pc ls (.int v :: .int x :: .ref (ρ i) :: st) := by
  obtain ⟨p, e, s, m, args, below, meth, c, D, cA, A, nL, rfl, hx, hb, hml, hown, hts, hK, hG, hr, hlk, htb, hA, hst⟩ := C
  intro H locs lsA hP hD hS hl
  have e1 : (ws cA n ρ J M).set (pos i) (ρ i, .inl (cA 1, N, .inl (upd (M i) x.toNatClampNeg v))) = ws cA n ρ J (up M i x.toNatClampNeg v) := by rw [← hcell cA, ws_set hi]; rfl
  refine va_zast hx hb hK hP hD hS (pos i) 1 ((ws_at hi).trans (congrArg (fun z => some (ρ i, z)) (hcell cA (M i)))) rfl hin d (fun H1 locs1 hP hD hS => ?_)
  rw [hv, e1] at hP hD
  exact kk H1 locs1 lsA hP hD hS hl
theorem e_ilen {i N : Nat} {v : Int32} (C : Cx l R cc own ret mc ms tb post exc Ξ) (hi : Ok n i) (hcell : ∀ cA : Nat → ClassId, cellOf cA n ρ J i (M i) = .inl (cA 0, N, .inl (M i))) (hv : Int32.ofNat N = v) (d : decode cc pc = .ok (.arraylength, 1)) (kk : E Ξ n ρ J M a b (pc + 1) ls (.int v :: st)) : E Ξ n ρ J M a b pc ls (.ref (ρ i) :: st) := by
  obtain ⟨p, e, s, m, args, below, meth, c, D, cA, A, nL, rfl, hx, hb, hml, hown, hts, hK, hG, hr, hlk, htb, hA, hst⟩ := C
  intro H locs lsA hP hD hS hl
  exact va_alen hx hb hK hP (pos i) 0 ((ws_at hi).trans (congrArg (fun z => some (ρ i, z)) (hcell cA))) rfl hv d (kk H locs lsA hP hD hS hl)
theorem e_zlen {i N : Nat} {v : Int32} (C : Cx l R cc own ret mc ms tb post exc Ξ) (hi : Ok n i) (hcell : ∀ cA : Nat → ClassId, cellOf cA n ρ J i (M i) = .inl (cA 1, N, .inl (M i))) (hv : Int32.ofNat N = v) (d : decode cc pc = .ok (.arraylength, 1)) (kk : E Ξ n ρ J M a b (pc + 1) ls (.int v :: st)) : E Ξ n ρ J M a b pc ls (.ref (ρ i) :: st) := by
  obtain ⟨p, e, s, m, args, below, meth, c, D, cA, A, nL, rfl, hx, hb, hml, hown, hts, hK, hG, hr, hlk, htb, hA, hst⟩ := C
  intro H locs lsA hP hD hS hl
  exact va_alen hx hb hK hP (pos i) 1 ((ws_at hi).trans (congrArg (fun z => some (ρ i, z)) (hcell cA))) rfl hv d (kk H locs lsA hP hD hS hl)
/-- a miner out of the list's row -/
theorem e_aald {k : Nat} {x : Int32} (C : Cx l R cc own ret mc ms tb post exc Ξ) (hk : k < n) (hn : n ≤ 10) (hx0 : x = nI k) (d : decode cc pc = .ok (.aaload, 1)) (kk : E Ξ n ρ J M a b (pc + 1) ls (.ref (ρ (mO k)) :: st)) : E Ξ n ρ J M a b pc ls (.int x :: .ref (ρ 27) :: st) := by
  obtain ⟨p, e, s, m, args, below, meth, c, D, cA, A, nL, rfl, hx, hb, hml, hown, hts, hK, hG, hr, hlk, htb, hA, hst⟩ := C
  intro H locs lsA hP hD hS hl
  subst hx0
  refine va_aldq hx hb hK hP (pos 27) 3 (C := "java/lang/Object") (ws_at (cnt_ea hk)) rfl (vp_in_nI (N := 10) (by omega) (by omega)) d ?_
  rw [nI_clamp (by omega), minersAt, if_pos hk]
  exact kk H locs lsA hP hD hS hl
theorem e_castM {k idx : Nat} (C : Cx l R cc own ret mc ms tb post exc Ξ) (hk : k < n) (hw : Cond.classLink own idx RX0 ∈ GW) (d : decode cc pc = .ok (.checkcast idx, 3)) (kk : E Ξ n ρ J M a b (pc + 3) ls (.ref (ρ (mO k)) :: st)) : E Ξ n ρ J M a b pc ls (.ref (ρ (mO k)) :: st) := by
  obtain ⟨p, e, s, m, args, below, meth, c, D, cA, A, nL, rfl, hx, hb, hml, hown, hts, hK, hG, hr, hlk, htb, hA, hst⟩ := C
  intro H locs lsA hP hD hS hl
  have he : (ws cA n ρ J M)[pos (mO k)]? = some (ρ (mO k), .inr (1, fs0 ρ k (M (mO k)))) := (ws_at (cnt_O hk)).trans (congrArg (fun z => some (ρ (mO k), z)) (cell_O cA n ρ J k _))
  exact va_castS hx hb (nm := RX0) hown (hts _ hw) (hK.1 1 _ rfl).2 (va_recv hK hP (ci := 1) (q0 := pos (mO k)) rfl he) d (kk H locs lsA hP hD hS hl)
theorem e_min {idx c0nL : Nat} {x y : Int32} (C : Cx l R cc own ret mc ms tb post exc Ξ) (hnL : Ξ.2.2.2.2.2.2 = c0nL) (hw : Cond.methodLink own idx Lib.Math.min.name ∈ GW) (hw2 : Cond.static Lib.Math.min.name ∈ GW) (hw3 : Cond.initialized "java/lang/Math" ∈ GW) (hw4 : Cond.code Lib.Math.min.name Lib.Math.min.code 2 (some .int) ∈ GW) (hf : 1 ≤ R.frames) (hlo : (st.map fun v => v.category).sum + 13 ≤ R.locals) (hca : a ≤ R.cells) (hcb : b ≤ R.slots) (d : decode cc pc = .ok (.invokestatic idx, 3)) (kk : E Ξ n ρ J M a b (pc + 3) ls (.int (if y < x then y else x) :: st)) : E Ξ n ρ J M a b pc ls (.int y :: .int x :: st) := by
  obtain ⟨p, e, s, m, args, below, meth, c, D, cA, A, nL, rfl, hx, hb, hml, hown, hts, hK, hG, hr, hlk, htb, hA, hst⟩ := C
  intro H locs lsA hP hD hS hl
  exact va_mmin hx hb (hml.trans hl.1.symm) hown (hts _ hw) (hts _ hw2) (hts _ hw3) (hts _ hw4) hf hlo hca hcb d (kk H locs lsA hP hD hS hl)
variable {x : Int32}
theorem e_iret (C : Cx l R cc own ret mc ms tb post exc Ξ) (hret : ret = some .int) (hca : a ≤ mc) (hcb : b ≤ ms) (d : decode cc pc = .ok (.ireturn, 1)) (hp : post (some (.int x)) (n, ρ, J, M)) : E Ξ n ρ J M a b pc ls [.int x] := by
  obtain ⟨p, e, s, m, args, below, meth, c, D, cA, A, nL, rfl, hx, hb, hml, hown, hts, hK, hG, hr, hlk, htb, hA, hst⟩ := C
  intro H locs lsA hP hD hS hl
  refine W.widen (k := mc) (n := ms) hca hcb (vx_ret ?_)
  exact W.iret hx hb (hr.trans hret) (fun t ht hW => ⟨⟨_, (n, ρ, J, M), rfl, hp, by rw [ht]; exact hP, hD⟩, hS.F ht⟩) hS.2.2 d hlk
theorem e_zret (C : Cx l R cc own ret mc ms tb post exc Ξ) (hret : ret = some .boolean) (hn : narrow .boolean (.int x) = .int x) (hca : a ≤ mc) (hcb : b ≤ ms) (d : decode cc pc = .ok (.ireturn, 1)) (hp : post (some (.int x)) (n, ρ, J, M)) : E Ξ n ρ J M a b pc ls [.int x] := by
  obtain ⟨p, e, s, m, args, below, meth, c, D, cA, A, nL, rfl, hx, hb, hml, hown, hts, hK, hG, hr, hlk, htb, hA, hst⟩ := C
  intro H locs lsA hP hD hS hl
  refine W.widen (k := mc) (n := ms) hca hcb (vx_ret ?_)
  exact W.zret hx hb (hr.trans hret) hn (fun t ht hW => ⟨⟨_, (n, ρ, J, M), rfl, hp, by rw [ht]; exact hP, hD⟩, hS.F ht⟩) hS.2.2 d hlk
theorem e_vret (C : Cx l R cc own ret mc ms tb post exc Ξ) (hret : ret = none) (hca : a ≤ mc) (hcb : b ≤ ms) (d : decode cc pc = .ok (.return_, 1)) (hp : post none (n, ρ, J, M)) : E Ξ n ρ J M a b pc ls [] := by
  obtain ⟨p, e, s, m, args, below, meth, c, D, cA, A, nL, rfl, hx, hb, hml, hown, hts, hK, hG, hr, hlk, htb, hA, hst⟩ := C
  intro H locs lsA hP hD hS hl
  refine W.widen (k := mc) (n := ms) hca hcb (vx_ret ?_)
  exact W.vret hx hb (hr.trans hret) (fun t ht hW => ⟨⟨_, (n, ρ, J, M), rfl, hp, by rw [ht]; exact hP, hD⟩, hS.F ht⟩) hS.2.2 d hlk
variable {q : Nat} {cn : String}
theorem e_aret (C : Cx l R cc own ret mc ms tb post exc Ξ) (hret : ret = some (.object cn)) (hca : a ≤ mc) (hcb : b ≤ ms) (d : decode cc pc = .ok (.areturn, 1)) (hp : post (some (.ref q)) (n, ρ, J, M)) : E Ξ n ρ J M a b pc ls [.ref q] := by
  obtain ⟨p, e, s, m, args, below, meth, c, D, cA, A, nL, rfl, hx, hb, hml, hown, hts, hK, hG, hr, hlk, htb, hA, hst⟩ := C
  intro H locs lsA hP hD hS hl
  refine W.widen (k := mc) (n := ms) hca hcb (vx_ret ?_)
  exact W.aret hx hb (hr.trans hret) (Or.inl ⟨_, rfl⟩) (Or.inr ⟨_, rfl⟩) (fun t ht hW => ⟨⟨_, (n, ρ, J, M), rfl, hp, by rw [ht]; exact hP, hD⟩, hS.F ht⟩) hS.2.2 d hlk
end Rows
