/-! Worlds of any shape: the judgement G, its context CB, its contracts CG. -/
abbrev Wd : Type := (Nat → ClassId) → va_W
abbrev EXT : Type := (Nat → Prop) → State → Heap → Prop
abbrev wsd (n : Nat) (ρ : Nat → Nat) (J : Nat → Int64) (M : Mem) : Wd := fun cA => ws cA n ρ J M
/-- what is carried through calls -/
def Carr (EX : EXT) : Prop := ∀ (A A' : Nat → Prop) (s U : State) (H0 H : Heap), s.WarmedH U.vm → EX A s H0 → (∀ a : Nat, a < H0.size → ¬ A a → H[a]? = H0[a]?) → (∀ q, A' q → A q) → EX A' U H
theorem carrGP : Carr GP := fun _ _ _ _ _ _ hW h hq hA => GP.warm hW h hq hA
def G (Ξ : CT) (w : Wd) (a b pc : Nat) (ls : List (Nat × Value)) (st : List Value) : Prop :=
  ∀ (H : Heap) (locs : List Loc) (lsA : Array Slot), va_P Ξ.2.2.1 vwCl (w Ξ.2.2.2.1) H → va_D Ξ.2.2.2.2.1 (w Ξ.2.2.2.1) → va_S Ξ.2.2.2.2.1 Ξ.2.2.2.2.2.1 H locs → lv_has lsA Ξ.2.2.2.2.2.2 ls → Ξ.1 H locs a b (F0 Ξ.2.1 pc lsA st)
/-- what stands throughout a walk, whatever its end -/
def CB (EX : EXT) (l : Launch) (R : Room) (cc : ByteArray) (own mn : String) (tb : List ExceptionTableEntry) (Ξ : CT) : Prop :=
  ∃ (p : Program) (e : Env) (s : State) (m : MethodId) (args : Array Value) (below : List Frame) (meth : Method) (c : Code) (D : va_G) (cA : Nat → ClassId) (A : Nat → Prop) (nL : Nat) (Z : State → Prop),
    Ξ = (fun H locs a b g => W p l e R s m args below meth c H locs a b Z g, m, D, cA, A, s.heap, nL) ∧
    p.tables.exec = Jvm.exec ∧ c.code = cc ∧ c.maxLocals = nL ∧ s.vm.findClass own = some m.cls ∧ meth.name = mn ∧ (∀ w ∈ GW, w.before args s = true) ∧ KK D cA s ∧ (∀ (A : Nat → Prop) (s : State) (H : Heap), EX A s H → GP A s H) ∧ EX A s s.heap ∧ c.exceptionTable.toList = tb ∧ (∀ q, s.heap.size ≤ q → A q) ∧ l.stackTraces = false
def Bg (D : va_G) (cA : Nat → ClassId) (A : Nat → Prop) (w : Wd) (t : State) : Prop := va_P D vwCl (w cA) t.heap ∧ va_D A (w cA)
def Qg (D : va_G) (cA : Nat → ClassId) (A : Nat → Prop) (post : Option Value → Wd → Prop) : Array Value → State → Outcome → State → Prop := fun _ st o t => (∃ (v : Option Value) (w : Wd), o = .returned v ∧ post v w ∧ Bg D cA A w t) ∧ va_F A st t
def Xg (D : va_G) (cA : Nat → ClassId) (A : Nat → Prop) (exc : String → Wd → Prop) : String → State → State → Prop := fun Ex st t => (∃ w : Wd, exc Ex w ∧ Bg D cA A w t) ∧ va_F A st t
/-- .. with the end of a method -/
def CQ (EX : EXT) (l : Launch) (R : Room) (cc : ByteArray) (own mn : String) (ret : Option FieldType) (mc ms : Nat) (tb : List ExceptionTableEntry) (post : Option Value → Wd → Prop) (exc : String → Wd → Prop) (Ξ : CT) : Prop :=
  ∃ (p : Program) (e : Env) (s : State) (m : MethodId) (args : Array Value) (below : List Frame) (meth : Method) (c : Code) (D : va_G) (cA : Nat → ClassId) (A : Nat → Prop) (nL : Nat),
    Ξ = (fun H locs a b g => W p l e R s m args below meth c H locs a b (vx_MQ below (Qg D cA A post) (Xg D cA A exc) args s mc ms A) g, m, D, cA, A, s.heap, nL) ∧
    p.tables.exec = Jvm.exec ∧ c.code = cc ∧ c.maxLocals = nL ∧ s.vm.findClass own = some m.cls ∧ meth.name = mn ∧ (∀ w ∈ GW, w.before args s = true) ∧ KK D cA s ∧ (∀ (A : Nat → Prop) (s : State) (H : Heap), EX A s H → GP A s H) ∧ EX A s s.heap ∧ meth.sig.returnType = ret ∧ meth.locks = false ∧ c.exceptionTable.toList = tb ∧ (∀ q, s.heap.size ≤ q → A q) ∧ l.stackTraces = false
theorem CQ.b {EX : EXT} {l : Launch} {R : Room} {cc : ByteArray} {own mn : String} {ret : Option FieldType} {mc ms : Nat} {tb : List ExceptionTableEntry} {post : Option Value → Wd → Prop} {exc : String → Wd → Prop} {Ξ : CT} (C : CQ EX l R cc own mn ret mc ms tb post exc Ξ) : CB EX l R cc own mn tb Ξ := by
  obtain ⟨p, e, s, m, args, below, meth, c, D, cA, A, nL, rfl, hx, hb, hml, hown, hmn, hts, hK, hG, hE, hr, hlk, htb, hA, hst⟩ := C
  exact ⟨p, e, s, m, args, below, meth, c, D, cA, A, nL, _, rfl, hx, hb, hml, hown, hmn, hts, hK, hG, hE, htb, hA, hst⟩
/-- a contract over worlds -/
def CG (EX : EXT) (l : Launch) (y : MethodName) (WL : List Cond) (h mc ms : Nat) (w : Wd) (As : List Value) (post : Option Value → Wd → Prop) (exc : String → Wd → Prop) : Prop :=
  ∀ (D : va_G) (cA : Nat → ClassId) (sz : Nat), ∃ (Q : Array Value → State → Outcome → State → Prop) (X : String → State → State → Prop),
    vx_Met l y WL (rmm h mc ms) (va_Pc As (fun U => U.heap.size = sz ∧ va_P D vwCl (w cA) U.heap ∧ va_D (fun _ => True) (w cA) ∧ KK D cA U ∧ EX (va_A (w cA) sz) U U.heap)) Q X mc ms (va_A (w cA) sz) ∧
    (∀ (aa : Array Value) (st : State) (v : Option Value) (t : State), Q aa st (.returned v) t → (∃ w' : Wd, post v w' ∧ Bg D cA (va_A (w cA) sz) w' t) ∧ va_F (va_A (w cA) sz) st t) ∧
    (∀ (Ex : String) (st t : State), X Ex st t → (∃ w' : Wd, exc Ex w' ∧ Bg D cA (va_A (w cA) sz) w' t) ∧ va_F (va_A (w cA) sz) st t)
theorem Ct.g {l : Launch} {y : MethodName} {W : List Cond} {h mc ms n : Nat} {ρ : Nat → Nat} {J : Nat → Int64} {M : Mem} {As : List Value} {post : Option Value → St → Prop} {exc : String → St → Prop} (hc : Ct l y W h mc ms n ρ J M As post exc) :
    CG GP l y W h mc ms (wsd n ρ J M) As (fun v w => ∃ u : St, post v u ∧ w = wsd u.1 u.2.1 u.2.2.1 u.2.2.2) (fun Ex w => ∃ u : St, exc Ex u ∧ w = wsd u.1 u.2.1 u.2.2.1 u.2.2.2) := by
  intro D cA sz
  refine ⟨_, _, hc D cA sz, ?_, ?_⟩
  · rintro aa st v t ⟨⟨v2, u, hv, hp, hB⟩, hF⟩
    cases hv
    exact ⟨⟨_, ⟨u, hp, rfl⟩, hB⟩, hF⟩
  · rintro Ex st t ⟨⟨u, hp, hB⟩, hF⟩
    exact ⟨⟨_, ⟨u, hp, rfl⟩, hB⟩, hF⟩
theorem CtO.g {l : Launch} {y : MethodName} {cy : ByteArray} {maxL : Nat} {ry : Option FieldType} {h mc ms n : Nat} {ρ : Nat → Nat} {J : Nat → Int64} {M : Mem} {As : List Value} {o : Out} (hc : CtO l y cy maxL ry h mc ms n ρ J M As o) :
    CG GP l y (Cond.code y cy maxL ry :: GW) h mc ms (wsd n ρ J M) As (fun v w => o.1 = .inr v ∧ w = wsd n ρ J o.2) (fun Ex w => o.1 = .inl Ex ∧ w = wsd n ρ J o.2) := by
  intro D cA sz
  obtain ⟨Q, X, h1, h2, h3⟩ := Ct.g hc D cA sz
  refine ⟨Q, X, h1, fun aa st v t q => ?_, fun Ex st t q => ?_⟩
  · obtain ⟨⟨w', ⟨u, ⟨hu, ho⟩, hw⟩, hB⟩, hF⟩ := h2 aa st v t q
    subst hu
    exact ⟨⟨w', ⟨ho, hw⟩, hB⟩, hF⟩
  · obtain ⟨⟨w', ⟨u, ⟨hu, ho⟩, hw⟩, hB⟩, hF⟩ := h3 Ex st t q
    subst hu
    exact ⟨⟨w', ⟨ho, hw⟩, hB⟩, hF⟩
/-- a contract out of a walk -/
theorem CG.of {EX : EXT} {l : Launch} {y : MethodName} {h mc ms : Nat} {w : Wd} {As : List Value} {post : Option Value → Wd → Prop} {exc : String → Wd → Prop} {cc : ByteArray} {maxL : Nat} {ret : Option FieldType}
    (hEX : ∀ (A : Nat → Prop) (s : State) (H : Heap), EX A s H → GP A s H) (hl : l.stackTraces = false) (hy : plainName y.cls = true) (hlen : (lg_sl As).length ≤ maxL)
    (body : ∀ Ξ : CT, Ξ.2.2.2.2.2.2 = maxL → CQ EX l (rmm h mc ms) cc y.cls y.name ret mc ms [] post exc Ξ → G Ξ w 0 0 0 (lv_args 0 As) []) : CG EX l y (Cond.code y cc maxL ret :: GW) h mc ms w As post exc := by
  intro D cA sz
  refine ⟨Qg D cA (va_A (w cA) sz) post, Xg D cA (va_A (w cA) sz) exc, ?_, ?_, fun Ex st t q => q⟩
  rotate_left
  · rintro aa st v t ⟨⟨v2, u, hv, hp, hB⟩, hF⟩
    cases hv
    exact ⟨⟨_, hp, hB⟩, hF⟩
  refine vx_ofW (cc := cc) (maxL := maxL) (ret := ret) hy rfl ?_
  intro p e s m args below meth c s₁ B hml htb hv
  obtain ⟨rfl, hsz, hP, hD0, hK, hE⟩ := hv
  have hts := atoms_spec (ws := Cond.code y cc maxL ret :: GW) B.pre
  have hown : s.vm.findClass y.cls = some m.cls := findClass_of_methodNamed B.named
  subst hsz
  have htb' : c.exceptionTable.toList = [] := by
    cases hq : c.exceptionTable.toList with
    | nil => rfl
    | cons x t => exact absurd (htb x (by rw [hq]; exact List.mem_cons_self)) id
  have hC : CQ EX l (rmm h mc ms) cc y.cls y.name ret mc ms [] post exc (fun H locs a b g => W p l e (rmm h mc ms) s m As.toArray below meth c H locs a b (vx_MQ below (Qg D cA (va_A (w cA) s.heap.size) post) (Xg D cA (va_A (w cA) s.heap.size) exc) As.toArray s mc ms (va_A (w cA) s.heap.size)) g, m, D, cA, va_A (w cA) s.heap.size, s.heap, maxL) :=
    ⟨p, e, s, m, As.toArray, below, meth, c, D, cA, va_A (w cA) s.heap.size, maxL, rfl, B.exec, B.bytes, hml, hown, (name_of_methodNamed B.named B.method).1, (fun w hwG => hts w (List.mem_cons_of_mem _ hwG)), hK, hEX, hE, B.returns, B.notSynchronized, htb', (fun q hq => Or.inr hq), hl⟩
  have hE := body _ rfl hC
  have hl0 := lv_entry As (n := maxL) hlen
  rw [lg_entry_eq]
  exact hE s.heap [] _ hP hD0.self va_S.rf hl0
/-- .. with handlers -/
theorem CG.ofH {EX : EXT} {l : Launch} {y : MethodName} {h mc ms : Nat} {w : Wd} {As : List Value} {post : Option Value → Wd → Prop} {exc : String → Wd → Prop} {cc : ByteArray} {maxL : Nat} {ret : Option FieldType} {hh : List (Nat × Nat × Nat × Nat)}
    (hEX : ∀ (A : Nat → Prop) (s : State) (H : Heap), EX A s H → GP A s H) (hl : l.stackTraces = false) (hy : plainName y.cls = true) (hlen : (lg_sl As).length ≤ maxL)
    (body : ∀ Ξ : CT, Ξ.2.2.2.2.2.2 = maxL → CQ EX l (rmm h mc ms) cc y.cls y.name ret mc ms (tableOf hh) post exc Ξ → G Ξ w 0 0 0 (lv_args 0 As) []) : CG EX l y (Cond.codeWith y cc maxL ret hh :: GW) h mc ms w As post exc := by
  intro D cA sz
  refine ⟨Qg D cA (va_A (w cA) sz) post, Xg D cA (va_A (w cA) sz) exc, ?_, ?_, fun Ex st t q => q⟩
  rotate_left
  · rintro aa st v t ⟨⟨v2, u, hv, hp, hB⟩, hF⟩
    cases hv
    exact ⟨⟨_, hp, hB⟩, hF⟩
  refine vx_ofWH (cc := cc) (maxL := maxL) (ret := ret) (hh := hh) hy rfl ?_
  intro p e s m args below meth c s₁ B hml hv
  obtain ⟨rfl, hsz, hP, hD0, hK, hE⟩ := hv
  have hts := atoms_spec (ws := Cond.codeWith y cc maxL ret hh :: GW) B.pre
  have hown : s.vm.findClass y.cls = some m.cls := findClass_of_methodNamed B.named
  subst hsz
  have htb' : c.exceptionTable.toList = tableOf hh := vx_table (x := y) B (hts _ List.mem_cons_self)
  have hC : CQ EX l (rmm h mc ms) cc y.cls y.name ret mc ms (tableOf hh) post exc (fun H locs a b g => W p l e (rmm h mc ms) s m As.toArray below meth c H locs a b (vx_MQ below (Qg D cA (va_A (w cA) s.heap.size) post) (Xg D cA (va_A (w cA) s.heap.size) exc) As.toArray s mc ms (va_A (w cA) s.heap.size)) g, m, D, cA, va_A (w cA) s.heap.size, s.heap, maxL) :=
    ⟨p, e, s, m, As.toArray, below, meth, c, D, cA, va_A (w cA) s.heap.size, maxL, rfl, B.exec, B.bytes, hml, hown, (name_of_methodNamed B.named B.method).1, (fun w hwG => hts w (List.mem_cons_of_mem _ hwG)), hK, hEX, hE, B.returns, B.notSynchronized, htb', (fun q hq => Or.inr hq), hl⟩
  have hE := body _ rfl hC
  have hl0 := lv_entry As (n := maxL) hlen
  rw [lg_entry_eq]
  exact hE s.heap [] _ hP hD0.self va_S.rf hl0
section GRows
variable {EX : EXT} {l : Launch} {R : Room} {cc : ByteArray} {own mn : String} {ret : Option FieldType} {mc ms : Nat} {tb : List ExceptionTableEntry} {post : Option Value → Wd → Prop} {exc : String → Wd → Prop} {Ξ : CT}
variable {w : Wd} {a b pc : Nat} {ls ls2 : List (Nat × Value)} {st : List Value}
theorem g_topi {x : Int32} (h : ∀ y : Int32, y = x → G Ξ w a b pc ls (.int y :: st)) : G Ξ w a b pc ls (.int x :: st) := h x rfl
theorem g_topl {z : Int64} (h : ∀ y : Int64, y = z → G Ξ w a b pc ls (.long y :: st)) : G Ξ w a b pc ls (.long z :: st) := h z rfl
theorem g_w {w' : Wd} (h : w = w') (k : G Ξ w' a b pc ls st) : G Ξ w a b pc ls st := h ▸ k
theorem g_cnt {a' b' : Nat} (h1 : a = a') (h2 : b = b') (k : G Ξ w a' b' pc ls st) : G Ξ w a b pc ls st := by subst h1; subst h2; exact k
theorem g_iconst {k : Int} {v : Int32} (C : CB EX l R cc own mn tb Ξ) (d : decode cc pc = .ok (.iconst k, 1)) (hv : Int32.ofInt k = v) (kk : G Ξ w a b (pc + 1) ls (.int v :: st)) : G Ξ w a b pc ls st := by
  obtain ⟨p, e, s, m, args, below, meth, c, D, cA, A, nL, Z, rfl, hx, hb, hml, hown, hmn, hts, hK, hG, hE, htb, hA, hst⟩ := C
  intro H locs lsA hP hD hS hl
  exact lv_iconst hx hb d hv (kk H locs lsA hP hD hS hl)
theorem g_bipush {k : Int} {v : Int32} (C : CB EX l R cc own mn tb Ξ) (d : decode cc pc = .ok (.bipush k, 2)) (hv : (Int8.ofInt k).toInt32 = v) (kk : G Ξ w a b (pc + 2) ls (.int v :: st)) : G Ξ w a b pc ls st := by
  obtain ⟨p, e, s, m, args, below, meth, c, D, cA, A, nL, Z, rfl, hx, hb, hml, hown, hmn, hts, hK, hG, hE, htb, hA, hst⟩ := C
  intro H locs lsA hP hD hS hl
  exact lv_bipush hx hb d hv (kk H locs lsA hP hD hS hl)
theorem g_sipush {k : Int} {v : Int32} (C : CB EX l R cc own mn tb Ξ) (d : decode cc pc = .ok (.sipush k, 3)) (hv : (Int16.ofInt k).toInt32 = v) (kk : G Ξ w a b (pc + 3) ls (.int v :: st)) : G Ξ w a b pc ls st := by
  obtain ⟨p, e, s, m, args, below, meth, c, D, cA, A, nL, Z, rfl, hx, hb, hml, hown, hmn, hts, hK, hG, hE, htb, hA, hst⟩ := C
  intro H locs lsA hP hD hS hl
  exact lv_sipush hx hb d hv (kk H locs lsA hP hD hS hl)
theorem g_lconst {k : Fin 2} {v : Int64} (C : CB EX l R cc own mn tb Ξ) (d : decode cc pc = .ok (.lconst k, 1)) (hv : Int64.ofNat (k : Nat) = v) (kk : G Ξ w a b (pc + 1) ls (.long v :: st)) : G Ξ w a b pc ls st := by
  obtain ⟨p, e, s, m, args, below, meth, c, D, cA, A, nL, Z, rfl, hx, hb, hml, hown, hmn, hts, hK, hG, hE, htb, hA, hst⟩ := C
  intro H locs lsA hP hD hS hl
  exact lv_lconst hx hb d hv (kk H locs lsA hP hD hS hl)
theorem g_iload_n {k : Fin 4} {i j : Nat} {x : Int32} (C : CB EX l R cc own mn tb Ξ) (d : decode cc pc = .ok (.iload_n k, 1)) (hi : (k : Nat) = i) (h : ls[j]? = some (i, .int x)) (kk : G Ξ w a b (pc + 1) ls (.int x :: st)) : G Ξ w a b pc ls st := by
  obtain ⟨p, e, s, m, args, below, meth, c, D, cA, A, nL, Z, rfl, hx, hb, hml, hown, hmn, hts, hK, hG, hE, htb, hA, hst⟩ := C
  intro H locs lsA hP hD hS hl
  exact lv_iload_n hx hb d hi (lv_at hl j h) (kk H locs lsA hP hD hS hl)
theorem g_iload {i j : Nat} {x : Int32} (C : CB EX l R cc own mn tb Ξ) (d : decode cc pc = .ok (.iload i, 2)) (h : ls[j]? = some (i, .int x)) (kk : G Ξ w a b (pc + 2) ls (.int x :: st)) : G Ξ w a b pc ls st := by
  obtain ⟨p, e, s, m, args, below, meth, c, D, cA, A, nL, Z, rfl, hx, hb, hml, hown, hmn, hts, hK, hG, hE, htb, hA, hst⟩ := C
  intro H locs lsA hP hD hS hl
  exact lv_iload hx hb d (lv_at hl j h) (kk H locs lsA hP hD hS hl)
theorem g_lload_n {k : Fin 4} {i j : Nat} {x : Int64} (C : CB EX l R cc own mn tb Ξ) (d : decode cc pc = .ok (.lload_n k, 1)) (hi : (k : Nat) = i) (h : ls[j]? = some (i, .long x)) (kk : G Ξ w a b (pc + 1) ls (.long x :: st)) : G Ξ w a b pc ls st := by
  obtain ⟨p, e, s, m, args, below, meth, c, D, cA, A, nL, Z, rfl, hx, hb, hml, hown, hmn, hts, hK, hG, hE, htb, hA, hst⟩ := C
  intro H locs lsA hP hD hS hl
  exact lv_lload_n hx hb d hi (lv_at hl j h) (kk H locs lsA hP hD hS hl)
theorem g_lload {i j : Nat} {x : Int64} (C : CB EX l R cc own mn tb Ξ) (d : decode cc pc = .ok (.lload i, 2)) (h : ls[j]? = some (i, .long x)) (kk : G Ξ w a b (pc + 2) ls (.long x :: st)) : G Ξ w a b pc ls st := by
  obtain ⟨p, e, s, m, args, below, meth, c, D, cA, A, nL, Z, rfl, hx, hb, hml, hown, hmn, hts, hK, hG, hE, htb, hA, hst⟩ := C
  intro H locs lsA hP hD hS hl
  exact lv_lload hx hb d (lv_at hl j h) (kk H locs lsA hP hD hS hl)
theorem g_aload_n {k : Fin 4} {i j : Nat} {x : Nat} (C : CB EX l R cc own mn tb Ξ) (d : decode cc pc = .ok (.aload_n k, 1)) (hi : (k : Nat) = i) (h : ls[j]? = some (i, .ref x)) (kk : G Ξ w a b (pc + 1) ls (.ref x :: st)) : G Ξ w a b pc ls st := by
  obtain ⟨p, e, s, m, args, below, meth, c, D, cA, A, nL, Z, rfl, hx, hb, hml, hown, hmn, hts, hK, hG, hE, htb, hA, hst⟩ := C
  intro H locs lsA hP hD hS hl
  exact lv_aload_n hx hb d hi (lv_at hl j h) (kk H locs lsA hP hD hS hl)
theorem g_aload {i j : Nat} {x : Nat} (C : CB EX l R cc own mn tb Ξ) (d : decode cc pc = .ok (.aload i, 2)) (h : ls[j]? = some (i, .ref x)) (kk : G Ξ w a b (pc + 2) ls (.ref x :: st)) : G Ξ w a b pc ls st := by
  obtain ⟨p, e, s, m, args, below, meth, c, D, cA, A, nL, Z, rfl, hx, hb, hml, hown, hmn, hts, hK, hG, hE, htb, hA, hst⟩ := C
  intro H locs lsA hP hD hS hl
  exact lv_aload hx hb d (lv_at hl j h) (kk H locs lsA hP hD hS hl)
theorem g_istore_n {k : Fin 4} {i nL0 : Nat} {x : Int32} (C : CB EX l R cc own mn tb Ξ) (hnL : Ξ.2.2.2.2.2.2 = nL0) (d : decode cc pc = .ok (.istore_n k, 1)) (hi : (k : Nat) = i) (hn : i < nL0) (hf : (i, Value.int x) :: ls.filter (fun q => !(q.1 == i) && !(q.1 + 1 == i && q.2.category == 2)) = ls2) (kk : G Ξ w a b (pc + 1) ls2 st) : G Ξ w a b pc ls (.int x :: st) := by
  obtain ⟨p, e, s, m, args, below, meth, c, D, cA, A, nL, Z, rfl, hx, hb, hml, hown, hmn, hts, hK, hG, hE, htb, hA, hst⟩ := C
  intro H locs lsA hP hD hS hl
  subst hnL
  exact lv_istore_n hx hb d hi hl hn hf (fun ls2 hl => kk H locs ls2 hP hD hS hl)
theorem g_istore {i nL0 : Nat} {x : Int32} (C : CB EX l R cc own mn tb Ξ) (hnL : Ξ.2.2.2.2.2.2 = nL0) (d : decode cc pc = .ok (.istore i, 2)) (hn : i < nL0) (hf : (i, Value.int x) :: ls.filter (fun q => !(q.1 == i) && !(q.1 + 1 == i && q.2.category == 2)) = ls2) (kk : G Ξ w a b (pc + 2) ls2 st) : G Ξ w a b pc ls (.int x :: st) := by
  obtain ⟨p, e, s, m, args, below, meth, c, D, cA, A, nL, Z, rfl, hx, hb, hml, hown, hmn, hts, hK, hG, hE, htb, hA, hst⟩ := C
  intro H locs lsA hP hD hS hl
  subst hnL
  exact lv_istore hx hb d hl hn hf (fun ls2 hl => kk H locs ls2 hP hD hS hl)
theorem g_astore_n {k : Fin 4} {i nL0 : Nat} {x : Nat} (C : CB EX l R cc own mn tb Ξ) (hnL : Ξ.2.2.2.2.2.2 = nL0) (d : decode cc pc = .ok (.astore_n k, 1)) (hi : (k : Nat) = i) (hn : i < nL0) (hf : (i, Value.ref x) :: ls.filter (fun q => !(q.1 == i) && !(q.1 + 1 == i && q.2.category == 2)) = ls2) (kk : G Ξ w a b (pc + 1) ls2 st) : G Ξ w a b pc ls (.ref x :: st) := by
  obtain ⟨p, e, s, m, args, below, meth, c, D, cA, A, nL, Z, rfl, hx, hb, hml, hown, hmn, hts, hK, hG, hE, htb, hA, hst⟩ := C
  intro H locs lsA hP hD hS hl
  subst hnL
  exact lv_astore_n hx hb d hi hl hn hf (fun ls2 hl => kk H locs ls2 hP hD hS hl)
theorem g_astore {i nL0 : Nat} {x : Nat} (C : CB EX l R cc own mn tb Ξ) (hnL : Ξ.2.2.2.2.2.2 = nL0) (d : decode cc pc = .ok (.astore i, 2)) (hn : i < nL0) (hf : (i, Value.ref x) :: ls.filter (fun q => !(q.1 == i) && !(q.1 + 1 == i && q.2.category == 2)) = ls2) (kk : G Ξ w a b (pc + 2) ls2 st) : G Ξ w a b pc ls (.ref x :: st) := by
  obtain ⟨p, e, s, m, args, below, meth, c, D, cA, A, nL, Z, rfl, hx, hb, hml, hown, hmn, hts, hK, hG, hE, htb, hA, hst⟩ := C
  intro H locs lsA hP hD hS hl
  subst hnL
  exact lv_astore hx hb d hl hn hf (fun ls2 hl => kk H locs ls2 hP hD hS hl)
theorem g_lstore_n {k : Fin 4} {i nL0 : Nat} {x : Int64} (C : CB EX l R cc own mn tb Ξ) (hnL : Ξ.2.2.2.2.2.2 = nL0) (d : decode cc pc = .ok (.lstore_n k, 1)) (hi : (k : Nat) = i) (hn : i + 1 < nL0) (hf : (i, Value.long x) :: ls.filter (fun q => !(q.1 == i) && (!(q.1 == i + 1) && !(q.1 + 1 == i && q.2.category == 2))) = ls2) (kk : G Ξ w a b (pc + 1) ls2 st) : G Ξ w a b pc ls (.long x :: st) := by
  obtain ⟨p, e, s, m, args, below, meth, c, D, cA, A, nL, Z, rfl, hx, hb, hml, hown, hmn, hts, hK, hG, hE, htb, hA, hst⟩ := C
  intro H locs lsA hP hD hS hl
  subst hnL
  exact lv_lstore_n hx hb d hi hl hn hf (fun ls2 hl => kk H locs ls2 hP hD hS hl)
theorem g_lstore {i nL0 : Nat} {x : Int64} (C : CB EX l R cc own mn tb Ξ) (hnL : Ξ.2.2.2.2.2.2 = nL0) (d : decode cc pc = .ok (.lstore i, 2)) (hn : i + 1 < nL0) (hf : (i, Value.long x) :: ls.filter (fun q => !(q.1 == i) && (!(q.1 == i + 1) && !(q.1 + 1 == i && q.2.category == 2))) = ls2) (kk : G Ξ w a b (pc + 2) ls2 st) : G Ξ w a b pc ls (.long x :: st) := by
  obtain ⟨p, e, s, m, args, below, meth, c, D, cA, A, nL, Z, rfl, hx, hb, hml, hown, hmn, hts, hK, hG, hE, htb, hA, hst⟩ := C
  intro H locs lsA hP hD hS hl
  subst hnL
  exact lv_lstore hx hb d hl hn hf (fun ls2 hl => kk H locs ls2 hP hD hS hl)
theorem g_iinc {i j nL0 : Nat} {k : Int} {x v : Int32} (C : CB EX l R cc own mn tb Ξ) (hnL : Ξ.2.2.2.2.2.2 = nL0) (d : decode cc pc = .ok (.iinc i k, 3)) (h : ls[j]? = some (i, .int x)) (hv : x + Int32.ofInt k = v) (hn : i < nL0) (hf : (i, Value.int v) :: ls.filter (fun q => !(q.1 == i) && !(q.1 + 1 == i && q.2.category == 2)) = ls2) (kk : G Ξ w a b (pc + 3) ls2 st) : G Ξ w a b pc ls st := by
  obtain ⟨p, e, s, m, args, below, meth, c, D, cA, A, nL, Z, rfl, hx, hb, hml, hown, hmn, hts, hK, hG, hE, htb, hA, hst⟩ := C
  intro H locs lsA hP hD hS hl
  subst hnL
  exact lv_iinc hx hb d hl h hv hn hf (fun ls2 hl => kk H locs ls2 hP hD hS hl)
theorem g_iadd {x y : Int32} (C : CB EX l R cc own mn tb Ξ) (d : decode cc pc = .ok (.iadd, 1)) (kk : G Ξ w a b (pc + 1) ls (.int (x + y) :: st)) : G Ξ w a b pc ls (.int y :: .int x :: st) := by
  obtain ⟨p, e, s, m, args, below, meth, c, D, cA, A, nL, Z, rfl, hx, hb, hml, hown, hmn, hts, hK, hG, hE, htb, hA, hst⟩ := C
  intro H locs lsA hP hD hS hl
  exact lv_iadd hx hb d (kk H locs lsA hP hD hS hl)
theorem g_isub {x y : Int32} (C : CB EX l R cc own mn tb Ξ) (d : decode cc pc = .ok (.isub, 1)) (kk : G Ξ w a b (pc + 1) ls (.int (x - y) :: st)) : G Ξ w a b pc ls (.int y :: .int x :: st) := by
  obtain ⟨p, e, s, m, args, below, meth, c, D, cA, A, nL, Z, rfl, hx, hb, hml, hown, hmn, hts, hK, hG, hE, htb, hA, hst⟩ := C
  intro H locs lsA hP hD hS hl
  exact lv_isub hx hb d (kk H locs lsA hP hD hS hl)
theorem g_imul {x y : Int32} (C : CB EX l R cc own mn tb Ξ) (d : decode cc pc = .ok (.imul, 1)) (kk : G Ξ w a b (pc + 1) ls (.int (x * y) :: st)) : G Ξ w a b pc ls (.int y :: .int x :: st) := by
  obtain ⟨p, e, s, m, args, below, meth, c, D, cA, A, nL, Z, rfl, hx, hb, hml, hown, hmn, hts, hK, hG, hE, htb, hA, hst⟩ := C
  intro H locs lsA hP hD hS hl
  exact lv_imul hx hb d (kk H locs lsA hP hD hS hl)
theorem g_iand {x y : Int32} (C : CB EX l R cc own mn tb Ξ) (d : decode cc pc = .ok (.iand, 1)) (kk : G Ξ w a b (pc + 1) ls (.int (x &&& y) :: st)) : G Ξ w a b pc ls (.int y :: .int x :: st) := by
  obtain ⟨p, e, s, m, args, below, meth, c, D, cA, A, nL, Z, rfl, hx, hb, hml, hown, hmn, hts, hK, hG, hE, htb, hA, hst⟩ := C
  intro H locs lsA hP hD hS hl
  exact lv_iand hx hb d (kk H locs lsA hP hD hS hl)
theorem g_ior {x y : Int32} (C : CB EX l R cc own mn tb Ξ) (d : decode cc pc = .ok (.ior, 1)) (kk : G Ξ w a b (pc + 1) ls (.int (x ||| y) :: st)) : G Ξ w a b pc ls (.int y :: .int x :: st) := by
  obtain ⟨p, e, s, m, args, below, meth, c, D, cA, A, nL, Z, rfl, hx, hb, hml, hown, hmn, hts, hK, hG, hE, htb, hA, hst⟩ := C
  intro H locs lsA hP hD hS hl
  exact lv_ior hx hb d (kk H locs lsA hP hD hS hl)
theorem g_ishl {x y : Int32} (C : CB EX l R cc own mn tb Ξ) (d : decode cc pc = .ok (.ishl, 1)) (kk : G Ξ w a b (pc + 1) ls (.int (x <<< (y &&& 31)) :: st)) : G Ξ w a b pc ls (.int y :: .int x :: st) := by
  obtain ⟨p, e, s, m, args, below, meth, c, D, cA, A, nL, Z, rfl, hx, hb, hml, hown, hmn, hts, hK, hG, hE, htb, hA, hst⟩ := C
  intro H locs lsA hP hD hS hl
  exact lv_ishl hx hb d (kk H locs lsA hP hD hS hl)
theorem g_ishr {x y : Int32} (C : CB EX l R cc own mn tb Ξ) (d : decode cc pc = .ok (.ishr, 1)) (kk : G Ξ w a b (pc + 1) ls (.int (x >>> (y &&& 31)) :: st)) : G Ξ w a b pc ls (.int y :: .int x :: st) := by
  obtain ⟨p, e, s, m, args, below, meth, c, D, cA, A, nL, Z, rfl, hx, hb, hml, hown, hmn, hts, hK, hG, hE, htb, hA, hst⟩ := C
  intro H locs lsA hP hD hS hl
  exact lv_ishr hx hb d (kk H locs lsA hP hD hS hl)
theorem g_idiv {x y : Int32} (C : CB EX l R cc own mn tb Ξ) (d : decode cc pc = .ok (.idiv, 1)) (hne : ¬ y = 0) (kk : G Ξ w a b (pc + 1) ls (.int (x / y) :: st)) : G Ξ w a b pc ls (.int y :: .int x :: st) := by
  obtain ⟨p, e, s, m, args, below, meth, c, D, cA, A, nL, Z, rfl, hx, hb, hml, hown, hmn, hts, hK, hG, hE, htb, hA, hst⟩ := C
  intro H locs lsA hP hD hS hl
  exact lv_idiv hx hb d hne (kk H locs lsA hP hD hS hl)
theorem g_irem {x y : Int32} (C : CB EX l R cc own mn tb Ξ) (d : decode cc pc = .ok (.irem, 1)) (hne : ¬ y = 0) (kk : G Ξ w a b (pc + 1) ls (.int (x - x / y * y) :: st)) : G Ξ w a b pc ls (.int y :: .int x :: st) := by
  obtain ⟨p, e, s, m, args, below, meth, c, D, cA, A, nL, Z, rfl, hx, hb, hml, hown, hmn, hts, hK, hG, hE, htb, hA, hst⟩ := C
  intro H locs lsA hP hD hS hl
  exact lv_irem hx hb d hne (kk H locs lsA hP hD hS hl)
theorem g_ladd {x y : Int64} (C : CB EX l R cc own mn tb Ξ) (d : decode cc pc = .ok (.ladd, 1)) (kk : G Ξ w a b (pc + 1) ls (.long (x + y) :: st)) : G Ξ w a b pc ls (.long y :: .long x :: st) := by
  obtain ⟨p, e, s, m, args, below, meth, c, D, cA, A, nL, Z, rfl, hx, hb, hml, hown, hmn, hts, hK, hG, hE, htb, hA, hst⟩ := C
  intro H locs lsA hP hD hS hl
  exact lv_ladd hx hb d (kk H locs lsA hP hD hS hl)
theorem g_lmul {x y : Int64} (C : CB EX l R cc own mn tb Ξ) (d : decode cc pc = .ok (.lmul, 1)) (kk : G Ξ w a b (pc + 1) ls (.long (x * y) :: st)) : G Ξ w a b pc ls (.long y :: .long x :: st) := by
  obtain ⟨p, e, s, m, args, below, meth, c, D, cA, A, nL, Z, rfl, hx, hb, hml, hown, hmn, hts, hK, hG, hE, htb, hA, hst⟩ := C
  intro H locs lsA hP hD hS hl
  exact lv_lmul hx hb d (kk H locs lsA hP hD hS hl)
theorem g_ldiv {x y : Int64} (C : CB EX l R cc own mn tb Ξ) (d : decode cc pc = .ok (.ldiv, 1)) (hne : ¬ y = 0) (kk : G Ξ w a b (pc + 1) ls (.long (x / y) :: st)) : G Ξ w a b pc ls (.long y :: .long x :: st) := by
  obtain ⟨p, e, s, m, args, below, meth, c, D, cA, A, nL, Z, rfl, hx, hb, hml, hown, hmn, hts, hK, hG, hE, htb, hA, hst⟩ := C
  intro H locs lsA hP hD hS hl
  exact lv_ldiv hx hb d hne (kk H locs lsA hP hD hS hl)
theorem g_lcmp {x y : Int64} (C : CB EX l R cc own mn tb Ξ) (d : decode cc pc = .ok (.lcmp, 1)) (kk : G Ξ w a b (pc + 1) ls (.int (lg_cmp x y) :: st)) : G Ξ w a b pc ls (.long y :: .long x :: st) := by
  obtain ⟨p, e, s, m, args, below, meth, c, D, cA, A, nL, Z, rfl, hx, hb, hml, hown, hmn, hts, hK, hG, hE, htb, hA, hst⟩ := C
  intro H locs lsA hP hD hS hl
  exact W.lcmp hx hb d (kk H locs lsA hP hD hS hl)
theorem g_i2l {x : Int32} (C : CB EX l R cc own mn tb Ξ) (d : decode cc pc = .ok (.i2l, 1)) (kk : G Ξ w a b (pc + 1) ls (.long x.toInt64 :: st)) : G Ξ w a b pc ls (.int x :: st) := by
  obtain ⟨p, e, s, m, args, below, meth, c, D, cA, A, nL, Z, rfl, hx, hb, hml, hown, hmn, hts, hK, hG, hE, htb, hA, hst⟩ := C
  intro H locs lsA hP hD hS hl
  exact lv_i2l hx hb d rfl (kk H locs lsA hP hD hS hl)
theorem g_l2i {x : Int64} (C : CB EX l R cc own mn tb Ξ) (d : decode cc pc = .ok (.l2i, 1)) (kk : G Ξ w a b (pc + 1) ls (.int x.toInt32 :: st)) : G Ξ w a b pc ls (.long x :: st) := by
  obtain ⟨p, e, s, m, args, below, meth, c, D, cA, A, nL, Z, rfl, hx, hb, hml, hown, hmn, hts, hK, hG, hE, htb, hA, hst⟩ := C
  intro H locs lsA hP hD hS hl
  exact lv_l2i hx hb d rfl (kk H locs lsA hP hD hS hl)
theorem g_dup {v : Value} (C : CB EX l R cc own mn tb Ξ) (d : decode cc pc = .ok (.dup, 1)) (hv : v.category = 1) (kk : G Ξ w a b (pc + 1) ls (v :: v :: st)) : G Ξ w a b pc ls (v :: st) := by
  obtain ⟨p, e, s, m, args, below, meth, c, D, cA, A, nL, Z, rfl, hx, hb, hml, hown, hmn, hts, hK, hG, hE, htb, hA, hst⟩ := C
  intro H locs lsA hP hD hS hl
  exact lv_dup hx hb d hv (kk H locs lsA hP hD hS hl)
theorem g_pop {v : Value} (C : CB EX l R cc own mn tb Ξ) (d : decode cc pc = .ok (.pop, 1)) (hv : v.category = 1) (kk : G Ξ w a b (pc + 1) ls st) : G Ξ w a b pc ls (v :: st) := by
  obtain ⟨p, e, s, m, args, below, meth, c, D, cA, A, nL, Z, rfl, hx, hb, hml, hown, hmn, hts, hK, hG, hE, htb, hA, hst⟩ := C
  intro H locs lsA hP hD hS hl
  exact lv_pop hx hb d hv (kk H locs lsA hP hD hS hl)
theorem g_dup2 {v v2 : Value} (C : CB EX l R cc own mn tb Ξ) (d : decode cc pc = .ok (.dup2, 1)) (hv : v.category = 1) (hw : v2.category = 1) (kk : G Ξ w a b (pc + 1) ls (v :: v2 :: v :: v2 :: st)) : G Ξ w a b pc ls (v :: v2 :: st) := by
  obtain ⟨p, e, s, m, args, below, meth, c, D, cA, A, nL, Z, rfl, hx, hb, hml, hown, hmn, hts, hK, hG, hE, htb, hA, hst⟩ := C
  intro H locs lsA hP hD hS hl
  exact lv_dup2_11 hx hb d hv hw (kk H locs lsA hP hD hS hl)
theorem g_if_eq {x : Int32} {off : Int} {tgt : Nat} (C : CB EX l R cc own mn tb Ξ) (d : decode cc pc = .ok (.ifCond .eq off, 3)) (ht : (pc : Int) + off = (tgt : Int)) (kt : (x = 0) → G Ξ w a b tgt ls st) (kf : ¬ (x = 0) → G Ξ w a b (pc + 3) ls st) : G Ξ w a b pc ls (.int x :: st) := by
  obtain ⟨p, e, s, m, args, below, meth, c, D, cA, A, nL, Z, rfl, hx, hb, hml, hown, hmn, hts, hK, hG, hE, htb, hA, hst⟩ := C
  intro H locs lsA hP hD hS hl
  exact lv_if_eq hx hb d ht (fun q => kt q H locs lsA hP hD hS hl) (fun q => kf q H locs lsA hP hD hS hl)
theorem g_icmp_eq {x y : Int32} {off : Int} {tgt : Nat} (C : CB EX l R cc own mn tb Ξ) (d : decode cc pc = .ok (.if_icmp .eq off, 3)) (ht : (pc : Int) + off = (tgt : Int)) (kt : (x = y) → G Ξ w a b tgt ls st) (kf : ¬ (x = y) → G Ξ w a b (pc + 3) ls st) : G Ξ w a b pc ls (.int y :: .int x :: st) := by
  obtain ⟨p, e, s, m, args, below, meth, c, D, cA, A, nL, Z, rfl, hx, hb, hml, hown, hmn, hts, hK, hG, hE, htb, hA, hst⟩ := C
  intro H locs lsA hP hD hS hl
  exact lv_icmp_eq hx hb d ht (fun q => kt q H locs lsA hP hD hS hl) (fun q => kf q H locs lsA hP hD hS hl)
theorem g_if_ne {x : Int32} {off : Int} {tgt : Nat} (C : CB EX l R cc own mn tb Ξ) (d : decode cc pc = .ok (.ifCond .ne off, 3)) (ht : (pc : Int) + off = (tgt : Int)) (kt : (¬ x = 0) → G Ξ w a b tgt ls st) (kf : (x = 0) → G Ξ w a b (pc + 3) ls st) : G Ξ w a b pc ls (.int x :: st) := by
  obtain ⟨p, e, s, m, args, below, meth, c, D, cA, A, nL, Z, rfl, hx, hb, hml, hown, hmn, hts, hK, hG, hE, htb, hA, hst⟩ := C
  intro H locs lsA hP hD hS hl
  exact lv_if_ne hx hb d ht (fun q => kt q H locs lsA hP hD hS hl) (fun q => kf q H locs lsA hP hD hS hl)
theorem g_icmp_ne {x y : Int32} {off : Int} {tgt : Nat} (C : CB EX l R cc own mn tb Ξ) (d : decode cc pc = .ok (.if_icmp .ne off, 3)) (ht : (pc : Int) + off = (tgt : Int)) (kt : (¬ x = y) → G Ξ w a b tgt ls st) (kf : (x = y) → G Ξ w a b (pc + 3) ls st) : G Ξ w a b pc ls (.int y :: .int x :: st) := by
  obtain ⟨p, e, s, m, args, below, meth, c, D, cA, A, nL, Z, rfl, hx, hb, hml, hown, hmn, hts, hK, hG, hE, htb, hA, hst⟩ := C
  intro H locs lsA hP hD hS hl
  exact lv_icmp_ne hx hb d ht (fun q => kt q H locs lsA hP hD hS hl) (fun q => kf q H locs lsA hP hD hS hl)
theorem g_if_lt {x : Int32} {off : Int} {tgt : Nat} (C : CB EX l R cc own mn tb Ξ) (d : decode cc pc = .ok (.ifCond .lt off, 3)) (ht : (pc : Int) + off = (tgt : Int)) (kt : (x < 0) → G Ξ w a b tgt ls st) (kf : ¬ (x < 0) → G Ξ w a b (pc + 3) ls st) : G Ξ w a b pc ls (.int x :: st) := by
  obtain ⟨p, e, s, m, args, below, meth, c, D, cA, A, nL, Z, rfl, hx, hb, hml, hown, hmn, hts, hK, hG, hE, htb, hA, hst⟩ := C
  intro H locs lsA hP hD hS hl
  exact lv_if_lt hx hb d ht (fun q => kt q H locs lsA hP hD hS hl) (fun q => kf q H locs lsA hP hD hS hl)
theorem g_icmp_lt {x y : Int32} {off : Int} {tgt : Nat} (C : CB EX l R cc own mn tb Ξ) (d : decode cc pc = .ok (.if_icmp .lt off, 3)) (ht : (pc : Int) + off = (tgt : Int)) (kt : (x < y) → G Ξ w a b tgt ls st) (kf : ¬ (x < y) → G Ξ w a b (pc + 3) ls st) : G Ξ w a b pc ls (.int y :: .int x :: st) := by
  obtain ⟨p, e, s, m, args, below, meth, c, D, cA, A, nL, Z, rfl, hx, hb, hml, hown, hmn, hts, hK, hG, hE, htb, hA, hst⟩ := C
  intro H locs lsA hP hD hS hl
  exact lv_icmp_lt hx hb d ht (fun q => kt q H locs lsA hP hD hS hl) (fun q => kf q H locs lsA hP hD hS hl)
theorem g_if_ge {x : Int32} {off : Int} {tgt : Nat} (C : CB EX l R cc own mn tb Ξ) (d : decode cc pc = .ok (.ifCond .ge off, 3)) (ht : (pc : Int) + off = (tgt : Int)) (kt : (0 ≤ x) → G Ξ w a b tgt ls st) (kf : ¬ (0 ≤ x) → G Ξ w a b (pc + 3) ls st) : G Ξ w a b pc ls (.int x :: st) := by
  obtain ⟨p, e, s, m, args, below, meth, c, D, cA, A, nL, Z, rfl, hx, hb, hml, hown, hmn, hts, hK, hG, hE, htb, hA, hst⟩ := C
  intro H locs lsA hP hD hS hl
  exact lv_if_ge hx hb d ht (fun q => kt q H locs lsA hP hD hS hl) (fun q => kf q H locs lsA hP hD hS hl)
theorem g_icmp_ge {x y : Int32} {off : Int} {tgt : Nat} (C : CB EX l R cc own mn tb Ξ) (d : decode cc pc = .ok (.if_icmp .ge off, 3)) (ht : (pc : Int) + off = (tgt : Int)) (kt : (y ≤ x) → G Ξ w a b tgt ls st) (kf : ¬ (y ≤ x) → G Ξ w a b (pc + 3) ls st) : G Ξ w a b pc ls (.int y :: .int x :: st) := by
  obtain ⟨p, e, s, m, args, below, meth, c, D, cA, A, nL, Z, rfl, hx, hb, hml, hown, hmn, hts, hK, hG, hE, htb, hA, hst⟩ := C
  intro H locs lsA hP hD hS hl
  exact lv_icmp_ge hx hb d ht (fun q => kt q H locs lsA hP hD hS hl) (fun q => kf q H locs lsA hP hD hS hl)
theorem g_if_gt {x : Int32} {off : Int} {tgt : Nat} (C : CB EX l R cc own mn tb Ξ) (d : decode cc pc = .ok (.ifCond .gt off, 3)) (ht : (pc : Int) + off = (tgt : Int)) (kt : (0 < x) → G Ξ w a b tgt ls st) (kf : ¬ (0 < x) → G Ξ w a b (pc + 3) ls st) : G Ξ w a b pc ls (.int x :: st) := by
  obtain ⟨p, e, s, m, args, below, meth, c, D, cA, A, nL, Z, rfl, hx, hb, hml, hown, hmn, hts, hK, hG, hE, htb, hA, hst⟩ := C
  intro H locs lsA hP hD hS hl
  exact lv_if_gt hx hb d ht (fun q => kt q H locs lsA hP hD hS hl) (fun q => kf q H locs lsA hP hD hS hl)
theorem g_icmp_gt {x y : Int32} {off : Int} {tgt : Nat} (C : CB EX l R cc own mn tb Ξ) (d : decode cc pc = .ok (.if_icmp .gt off, 3)) (ht : (pc : Int) + off = (tgt : Int)) (kt : (y < x) → G Ξ w a b tgt ls st) (kf : ¬ (y < x) → G Ξ w a b (pc + 3) ls st) : G Ξ w a b pc ls (.int y :: .int x :: st) := by
  obtain ⟨p, e, s, m, args, below, meth, c, D, cA, A, nL, Z, rfl, hx, hb, hml, hown, hmn, hts, hK, hG, hE, htb, hA, hst⟩ := C
  intro H locs lsA hP hD hS hl
  exact lv_icmp_gt hx hb d ht (fun q => kt q H locs lsA hP hD hS hl) (fun q => kf q H locs lsA hP hD hS hl)
theorem g_if_le {x : Int32} {off : Int} {tgt : Nat} (C : CB EX l R cc own mn tb Ξ) (d : decode cc pc = .ok (.ifCond .le off, 3)) (ht : (pc : Int) + off = (tgt : Int)) (kt : (x ≤ 0) → G Ξ w a b tgt ls st) (kf : ¬ (x ≤ 0) → G Ξ w a b (pc + 3) ls st) : G Ξ w a b pc ls (.int x :: st) := by
  obtain ⟨p, e, s, m, args, below, meth, c, D, cA, A, nL, Z, rfl, hx, hb, hml, hown, hmn, hts, hK, hG, hE, htb, hA, hst⟩ := C
  intro H locs lsA hP hD hS hl
  exact lv_if_le hx hb d ht (fun q => kt q H locs lsA hP hD hS hl) (fun q => kf q H locs lsA hP hD hS hl)
theorem g_icmp_le {x y : Int32} {off : Int} {tgt : Nat} (C : CB EX l R cc own mn tb Ξ) (d : decode cc pc = .ok (.if_icmp .le off, 3)) (ht : (pc : Int) + off = (tgt : Int)) (kt : (x ≤ y) → G Ξ w a b tgt ls st) (kf : ¬ (x ≤ y) → G Ξ w a b (pc + 3) ls st) : G Ξ w a b pc ls (.int y :: .int x :: st) := by
  obtain ⟨p, e, s, m, args, below, meth, c, D, cA, A, nL, Z, rfl, hx, hb, hml, hown, hmn, hts, hK, hG, hE, htb, hA, hst⟩ := C
  intro H locs lsA hP hD hS hl
  exact lv_icmp_le hx hb d ht (fun q => kt q H locs lsA hP hD hS hl) (fun q => kf q H locs lsA hP hD hS hl)
theorem g_goto {off : Int} {tgt : Nat} (C : CB EX l R cc own mn tb Ξ) (d : decode cc pc = .ok (.goto off, 3)) (ht : (pc : Int) + off = (tgt : Int)) (kk : G Ξ w a b tgt ls st) : G Ξ w a b pc ls st := by
  obtain ⟨p, e, s, m, args, below, meth, c, D, cA, A, nL, Z, rfl, hx, hb, hml, hown, hmn, hts, hK, hG, hE, htb, hA, hst⟩ := C
  intro H locs lsA hP hD hS hl
  exact lv_goto hx hb d ht (kk H locs lsA hP hD hS hl)
theorem g_ldc {i : Nat} {v : Int32} (C : CB EX l R cc own mn tb Ξ) (d : decode cc pc = .ok (.ldc i, 2)) (hw : Cond.constant own i v ∈ GW) (kk : G Ξ w a b (pc + 2) ls (.int v :: st)) : G Ξ w a b pc ls st := by
  obtain ⟨p, e, s, m, args, below, meth, c, D, cA, A, nL, Z, rfl, hx, hb, hml, hown, hmn, hts, hK, hG, hE, htb, hA, hst⟩ := C
  intro H locs lsA hP hD hS hl
  exact lv_ldc hx hb hown (hts _ hw) d (kk H locs lsA hP hD hS hl)
theorem g_ldc2 {i : Nat} {v : Int64} (C : CB EX l R cc own mn tb Ξ) (d : decode cc pc = .ok (.ldc2_w i, 3)) (hw : Cond.constantLong own i v ∈ GW) (kk : G Ξ w a b (pc + 3) ls (.long v :: st)) : G Ξ w a b pc ls st := by
  obtain ⟨p, e, s, m, args, below, meth, c, D, cA, A, nL, Z, rfl, hx, hb, hml, hown, hmn, hts, hK, hG, hE, htb, hA, hst⟩ := C
  intro H locs lsA hP hD hS hl
  exact lv_ldc2 hx hb hown (hts _ hw) d (kk H locs lsA hP hD hS hl)
theorem g_dupx1 {va vb : Value} (C : CB EX l R cc own mn tb Ξ) (d : decode cc pc = .ok (.dup_x1, 1)) (hva : va.category = 1) (hvb : vb.category = 1) (kk : G Ξ w a b (pc + 1) ls (va :: vb :: va :: st)) : G Ξ w a b pc ls (va :: vb :: st) := by
  obtain ⟨p, e, s, m, args, below, meth, c, D, cA, A, nL, Z, rfl, hx, hb, hml, hown, hmn, hts, hK, hG, hE, htb, hA, hst⟩ := C
  intro H locs lsA hP hD hS hl
  exact lv_dup_x1 hx hb d hva hvb (kk H locs lsA hP hD hS hl)
theorem g_get {C0 : String} {T : u_T} {N ci idx q : Nat} {ref : String} {v : Value} {fs : List Value} (i k : Nat) (C : CB EX l R cc own mn tb Ξ) (he : ∀ cA, (w cA)[i]? = some (q, .inr (ci, fs))) (hc : vwCl[ci]? = some (C0, T, N)) (hin : ∀ w ∈ u_ws C0 T N, w ∈ GW) (hk : k < N) (hsame : ref = (T k).1) (hv : fs[k]? = some v) (hw : Cond.fieldLink own idx ref (T k).2.1 (T k).2.2.1 ∈ GW) (d : decode cc pc = .ok (.getfield idx, 3)) (kk : G Ξ w a b (pc + 3) ls (v :: st)) : G Ξ w a b pc ls (.ref q :: st) := by
  obtain ⟨p, e, s, m, args, below, meth, c, D, cA, A, nL, Z, rfl, hx, hb, hml, hown, hmn, hts, hK, hG, hE, htb, hA, hst⟩ := C
  intro H locs lsA hP hD hS hl
  exact va_get (D := D) (ci := ci) (v := v) (C := C0) (T := T) (N := N) hx hb hts hin hown hK hP i (he cA) hc k hk (hts _ hw) (fun z h9 => hsame ▸ h9) hv d (kk H locs lsA hP hD hS hl)
theorem g_put {C0 : String} {T : u_T} {N ci idx q : Nat} {ref : String} {v : Value} {fs : List Value} {ty0 : Nat → FieldType} {ty : FieldType} (i k : Nat) (C : CB EX l R cc own mn tb Ξ) (he : ∀ cA, (w cA)[i]? = some (q, .inr (ci, fs))) (hc : vwCl[ci]? = some (C0, T, N)) (hin : ∀ w ∈ u_ws C0 T N, w ∈ GW) (hty : ∀ k, k < N → parseFieldDescriptor (T k).2.2.1 = some (ty0 k)) (hnm : ∀ a, a < N → ∀ b, b < N → a ≠ b → (T a).2.1 ≠ (T b).2.1) (hk : k < N) (hsame : ref = (T k).1) (hfin : (T k).2.2.2 = false) (hd : parseFieldDescriptor (T k).2.2.1 = some ty) (hn : narrow ty v = v) (hfit : fits ty v = true) (hlen : k < fs.length) (hw : Cond.fieldLink own idx ref (T k).2.1 (T k).2.2.1 ∈ GW) (d : decode cc pc = .ok (.putfield idx, 3)) (kk : G Ξ (fun cA => (w cA).set i (q, .inr (ci, fs.set k v))) a b (pc + 3) ls st) : G Ξ w a b pc ls (v :: .ref q :: st) := by
  obtain ⟨p, e, s, m, args, below, meth, c, D, cA, A, nL, Z, rfl, hx, hb, hml, hown, hmn, hts, hK, hG, hE, htb, hA, hst⟩ := C
  intro H locs lsA hP hD hS hl
  exact va_put (D := D) (ci := ci) (v := v) (ty := ty) (C := C0) (T := T) (N := N) hx hb hts hin ty0 hty hnm hown hK hP hD hS i (he cA) hc k hk (hts _ hw) (fun z h9 => hsame ▸ h9) hfin hd hn hfit hlen d (fun H1 locs1 hP hD hS => kk H1 locs1 lsA hP hD hS hl)
theorem g_putF {C0 : String} {T : u_T} {N ci idx q : Nat} {ref : String} {v : Value} {fs : List Value} {ty0 : Nat → FieldType} {ty : FieldType} (i k : Nat) (C : CB EX l R cc own mn tb Ξ) (hin2 : mn = "<init>") (hdecl : (T k).1 = own) (he : ∀ cA, (w cA)[i]? = some (q, .inr (ci, fs))) (hc : vwCl[ci]? = some (C0, T, N)) (hin : ∀ w ∈ u_ws C0 T N, w ∈ GW) (hty : ∀ k, k < N → parseFieldDescriptor (T k).2.2.1 = some (ty0 k)) (hnm : ∀ a, a < N → ∀ b, b < N → a ≠ b → (T a).2.1 ≠ (T b).2.1) (hk : k < N) (hsame : ref = (T k).1) (hfin : (T k).2.2.2 = true) (hd : parseFieldDescriptor (T k).2.2.1 = some ty) (hn : narrow ty v = v) (hfit : fits ty v = true) (hlen : k < fs.length) (hw : Cond.fieldLink own idx ref (T k).2.1 (T k).2.2.1 ∈ GW) (d : decode cc pc = .ok (.putfield idx, 3)) (kk : G Ξ (fun cA => (w cA).set i (q, .inr (ci, fs.set k v))) a b (pc + 3) ls st) : G Ξ w a b pc ls (v :: .ref q :: st) := by
  obtain ⟨p, e, s, m, args, below, meth, c, D, cA, A, nL, Z, rfl, hx, hb, hml, hown, hmn, hts, hK, hG, hE, htb, hA, hst⟩ := C
  intro H locs lsA hP hD hS hl
  exact va_putF (D := D) (ci := ci) (v := v) (ty := ty) (C := C0) (T := T) (N := N) hx hb hts hin ty0 hty hnm hown hK hP hD hS i (he cA) hc k hk (hts _ hw) (fun z h9 => hsame ▸ h9) hfin (hmn.trans hin2) hdecl hd hn hfit hlen d (fun H1 locs1 hP hD hS => kk H1 locs1 lsA hP hD hS hl)
theorem g_new {C0 : String} {T : u_T} {N ci idx : Nat} {fs : List Value} {ty : Nat → FieldType} (C : CB EX l R cc own mn tb Ξ) (hin : ∀ w ∈ u_ws C0 T N, w ∈ GW) (hty : ∀ k, k < N → parseFieldDescriptor (T k).2.2.1 = some (ty k)) (hcl : Cond.classLink own idx C0 ∈ GW) (hinst : Cond.instantiable C0 N ∈ GW) (hini : Cond.initialized C0 ∈ GW) (hc : vwCl[ci]? = some (C0, T, N)) (hfs : ∀ j, j < N → defaultValue (ty j) = vp_V fs j) (hcells : a + 1 ≤ R.cells) (hslots : b + N ≤ R.slots) (d : decode cc pc = .ok (.new idx, 3)) (kk : ∀ q : Nat, G Ξ (fun cA => w cA ++ [(q, .inr (ci, fs))]) (a + 1) (b + N) (pc + 3) ls (.ref q :: st)) : G Ξ w a b pc ls st := by
  obtain ⟨p, e, s, m, args, below, meth, c, D, cA, A, nL, Z, rfl, hx, hb, hml, hown, hmn, hts, hK, hG, hE, htb, hA, hst⟩ := C
  intro H locs lsA hP hD hS hl
  exact va_new (ci := ci) (fs := fs) (C := C0) (T := T) (N := N) hx hb hts hin ty hty hown (hts _ hcl) (hts _ hinst) (hts _ hini) hK hP hD hS hA hc hfs hcells hslots d (fun q H1 hP hD hS => kk q H1 locs lsA hP hD hS hl)
theorem g_newi {x : Int32} {N : Nat} (C : CB EX l R cc own mn tb Ξ) (harr : Cond.arrayClass .int ∈ GW) (hn : ¬ x < 0) (hN : x.toNatClampNeg = N) (hbytes : N * componentBytes .int ≤ 536870912) (hcells : a + 1 ≤ R.cells) (hslots : b + N ≤ R.slots) (d : decode cc pc = .ok (.newarray .int, 2)) (kk : ∀ q : Nat, G Ξ (fun cA => w cA ++ [(q, .inl (cA 0, N, .inl (fun _ => 0)))]) (a + 1) (b + N) (pc + 2) ls (.ref q :: st)) : G Ξ w a b pc ls (.int x :: st) := by
  obtain ⟨p, e, s, m, args, below, meth, c, D, cA, A, nL, Z, rfl, hx, hb, hml, hown, hmn, hts, hK, hG, hE, htb, hA, hst⟩ := C
  intro H locs lsA hP hD hS hl
  refine va_newa (atype := .int) (a0 := (N, .inl (fun _ => 0))) hx hb (hts _ harr) rfl hK hP hD hS hA (fun _ => rfl) hn hN hbytes hcells hslots d (fun q cA2 H1 hK2 hP hD hS => ?_)
  have h1 := (hK2.2 4 (cA2, .int) rfl).2
  have h2 := (hK.2 0 (cA 0, .int) rfl).2
  have h3 : cA2 = cA 0 := Option.some.inj (Eq.trans (Eq.symm h1) h2)
  subst h3
  exact kk q H1 locs lsA hP hD hS hl
theorem g_newz {x : Int32} {N : Nat} (C : CB EX l R cc own mn tb Ξ) (harr : Cond.arrayClass .boolean ∈ GW) (hn : ¬ x < 0) (hN : x.toNatClampNeg = N) (hbytes : N * componentBytes .boolean ≤ 536870912) (hcells : a + 1 ≤ R.cells) (hslots : b + N ≤ R.slots) (d : decode cc pc = .ok (.newarray .boolean, 2)) (kk : ∀ q : Nat, G Ξ (fun cA => w cA ++ [(q, .inl (cA 1, N, .inl (fun _ => 0)))]) (a + 1) (b + N) (pc + 2) ls (.ref q :: st)) : G Ξ w a b pc ls (.int x :: st) := by
  obtain ⟨p, e, s, m, args, below, meth, c, D, cA, A, nL, Z, rfl, hx, hb, hml, hown, hmn, hts, hK, hG, hE, htb, hA, hst⟩ := C
  intro H locs lsA hP hD hS hl
  refine va_newa (atype := .boolean) (a0 := (N, .inl (fun _ => 0))) hx hb (hts _ harr) rfl hK hP hD hS hA (fun _ => rfl) hn hN hbytes hcells hslots d (fun q cA2 H1 hK2 hP hD hS => ?_)
  have h1 := (hK2.2 4 (cA2, .boolean) rfl).2
  have h2 := (hK.2 1 (cA 1, .boolean) rfl).2
  have h3 : cA2 = cA 1 := Option.some.inj (Eq.trans (Eq.symm h1) h2)
  subst h3
  exact kk q H1 locs lsA hP hD hS hl
theorem g_iast {q N : Nat} {f : Nat → Int32} {x v : Int32} (i : Nat) (C : CB EX l R cc own mn tb Ξ) (he : ∀ cA, (w cA)[i]? = some (q, .inl (cA 0, N, .inl f))) (hin : vp_in x N) (d : decode cc pc = .ok (.iastore, 1)) (kk : G Ξ (fun cA => (w cA).set i (q, .inl (cA 0, N, .inl (upd f x.toNatClampNeg v)))) a b (pc + 1) ls st) : G Ξ w a b pc ls (.int v :: .int x :: .ref q :: st) := by
  obtain ⟨p, e, s, m, args, below, meth, c, D, cA, A, nL, Z, rfl, hx, hb, hml, hown, hmn, hts, hK, hG, hE, htb, hA, hst⟩ := C
  intro H locs lsA hP hD hS hl
  exact va_iast hx hb hK hP hD hS i 0 (he cA) rfl hin d (fun H1 locs1 hP hD hS => kk H1 locs1 lsA hP hD hS hl)
theorem g_alen {q N : Nat} {g : (Nat → Int32) ⊕ (Nat → Int64) ⊕ (Nat → UInt32) ⊕ (Nat → UInt64) ⊕ (Nat → Option Nat)} {v : Int32} (i t : Nat) {ty : FieldType} (C : CB EX l R cc own mn tb Ξ) (he : ∀ cA, (w cA)[i]? = some (q, .inl (cA t, N, g))) (ht : ∀ cA, (tysA cA)[t]? = some (cA t, ty)) (hv : Int32.ofNat N = v) (d : decode cc pc = .ok (.arraylength, 1)) (kk : G Ξ w a b (pc + 1) ls (.int v :: st)) : G Ξ w a b pc ls (.ref q :: st) := by
  obtain ⟨p, e, s, m, args, below, meth, c, D, cA, A, nL, Z, rfl, hx, hb, hml, hown, hmn, hts, hK, hG, hE, htb, hA, hst⟩ := C
  intro H locs lsA hP hD hS hl
  exact va_alen hx hb hK hP i t (he cA) (ht cA) hv d (kk H locs lsA hP hD hS hl)
theorem g_obj {q idx n0 : Nat} (C : CB EX l R cc own mn tb Ξ) (hn0 : Ξ.2.2.2.2.2.2 = n0) (hw : Cond.methodLink own idx objectInit ∈ GW) (h1 : Cond.instanceMethod objectInit ∈ GW) (h2 : Cond.code objectInit ⟨#[0xb1]⟩ 1 none ∈ GW) (hf : 1 ≤ R.frames) (hlo : (st.map fun v => v.category).sum + 12 ≤ R.locals) (d : decode cc pc = .ok (.invokespecial idx, 3)) (kk : G Ξ w a b (pc + 3) ls st) : G Ξ w a b pc ls (.ref q :: st) := by
  obtain ⟨p, e, s, m, args, below, meth, c, D, cA, A, nL, Z, rfl, hx, hb, hml, hown, hmn, hts, hK, hG, hE, htb, hA, hst⟩ := C
  intro H locs lsA hP hD hS hl
  exact W.objInit (g := F0 m pc lsA (.ref q :: st)) (a := q) (rest := st) hx hb hown (hts _ hw) (hts _ h1) (hts _ h2) rfl (by rw [hml]; exact hl.1) rfl d hf (by show 2 * 0 + _ + 12 ≤ _; omega) (W.eq (g2 := F0 m (pc + 3) lsA st) rfl (kk H locs lsA hP hD hS hl))
theorem g_max {idx : Nat} {x y : Int32} (C : CB EX l R cc own mn tb Ξ) (hw : Cond.methodLink own idx Lib.Math.max.name ∈ GW) (hw2 : Cond.static Lib.Math.max.name ∈ GW) (hw3 : Cond.initialized "java/lang/Math" ∈ GW) (hw4 : Cond.code Lib.Math.max.name Lib.Math.max.code 2 (some .int) ∈ GW) (hf : 1 ≤ R.frames) (hlo : (st.map fun v => v.category).sum + 13 ≤ R.locals) (hca : a ≤ R.cells) (hcb : b ≤ R.slots) (d : decode cc pc = .ok (.invokestatic idx, 3)) (kk : G Ξ w a b (pc + 3) ls (.int (if x < y then y else x) :: st)) : G Ξ w a b pc ls (.int y :: .int x :: st) := by
  obtain ⟨p, e, s, m, args, below, meth, c, D, cA, A, nL, Z, rfl, hx, hb, hml, hown, hmn, hts, hK, hG, hE, htb, hA, hst⟩ := C
  intro H locs lsA hP hD hS hl
  exact va_mmax hx hb (hml.trans hl.1.symm) hown (hts _ hw) (hts _ hw2) (hts _ hw3) (hts _ hw4) hf hlo hca hcb d (kk H locs lsA hP hD hS hl)
theorem g_acmp_eq {x y : Nat} {off : Int} {tgt : Nat} (C : CB EX l R cc own mn tb Ξ) (d : decode cc pc = .ok (.if_acmp .eq off, 3)) (ht : (pc : Int) + off = (tgt : Int)) (hxy : x = y) (kt : G Ξ w a b tgt ls st) : G Ξ w a b pc ls (.ref y :: .ref x :: st) := by
  obtain ⟨p, e, s, m, args, below, meth, c, D, cA, A, nL, Z, rfl, hx, hb, hml, hown, hmn, hts, hK, hG, hE, htb, hA, hst⟩ := C
  intro H locs lsA hP hD hS hl
  exact lv_acmp_eq (rx := some x) (ry := some y) hx hb d ht (fun _ => kt H locs lsA hP hD hS hl) (fun h => absurd (congrArg some hxy) h)
theorem g_iret {x : Int32} (C : CQ EX l R cc own mn ret mc ms tb post exc Ξ) (hret : ret = some .int) (hca : a ≤ mc) (hcb : b ≤ ms) (d : decode cc pc = .ok (.ireturn, 1)) (hp : post (some (.int x)) w) : G Ξ w a b pc ls [.int x] := by
  obtain ⟨p, e, s, m, args, below, meth, c, D, cA, A, nL, rfl, hx, hb, hml, hown, hmn, hts, hK, hG, hE, hr, hlk, htb, hA, hst⟩ := C
  intro H locs lsA hP hD hS hl
  refine W.widen (k := mc) (n := ms) hca hcb (vx_ret ?_)
  exact W.iret hx hb (hr.trans hret) (fun t ht hW => ⟨⟨_, w, rfl, hp, by rw [ht]; exact hP, hD⟩, hS.F ht⟩) hS.2.2 d hlk
theorem g_zret {x : Int32} (C : CQ EX l R cc own mn ret mc ms tb post exc Ξ) (hret : ret = some .boolean) (hn : narrow .boolean (.int x) = .int x) (hca : a ≤ mc) (hcb : b ≤ ms) (d : decode cc pc = .ok (.ireturn, 1)) (hp : post (some (.int x)) w) : G Ξ w a b pc ls [.int x] := by
  obtain ⟨p, e, s, m, args, below, meth, c, D, cA, A, nL, rfl, hx, hb, hml, hown, hmn, hts, hK, hG, hE, hr, hlk, htb, hA, hst⟩ := C
  intro H locs lsA hP hD hS hl
  refine W.widen (k := mc) (n := ms) hca hcb (vx_ret ?_)
  exact W.zret hx hb (hr.trans hret) hn (fun t ht hW => ⟨⟨_, w, rfl, hp, by rw [ht]; exact hP, hD⟩, hS.F ht⟩) hS.2.2 d hlk
theorem g_vret (C : CQ EX l R cc own mn ret mc ms tb post exc Ξ) (hret : ret = none) (hca : a ≤ mc) (hcb : b ≤ ms) (d : decode cc pc = .ok (.return_, 1)) (hp : post none w) : G Ξ w a b pc ls [] := by
  obtain ⟨p, e, s, m, args, below, meth, c, D, cA, A, nL, rfl, hx, hb, hml, hown, hmn, hts, hK, hG, hE, hr, hlk, htb, hA, hst⟩ := C
  intro H locs lsA hP hD hS hl
  refine W.widen (k := mc) (n := ms) hca hcb (vx_ret ?_)
  exact W.vret hx hb (hr.trans hret) (fun t ht hW => ⟨⟨_, w, rfl, hp, by rw [ht]; exact hP, hD⟩, hS.F ht⟩) hS.2.2 d hlk
theorem g_aret {q : Nat} {fy : FieldType} (C : CQ EX l R cc own mn ret mc ms tb post exc Ξ) (hret : ret = some fy) (hfy : (∃ cn, fy = .object cn) ∨ ∃ t, fy = .array t) (hca : a ≤ mc) (hcb : b ≤ ms) (d : decode cc pc = .ok (.areturn, 1)) (hp : post (some (.ref q)) w) : G Ξ w a b pc ls [.ref q] := by
  obtain ⟨p, e, s, m, args, below, meth, c, D, cA, A, nL, rfl, hx, hb, hml, hown, hmn, hts, hK, hG, hE, hr, hlk, htb, hA, hst⟩ := C
  intro H locs lsA hP hD hS hl
  refine W.widen (k := mc) (n := ms) hca hcb (vx_ret ?_)
  exact W.aret hx hb (hr.trans hret) hfy (Or.inr ⟨_, rfl⟩) (fun t ht hW => ⟨⟨_, w, rfl, hp, by rw [ht]; exact hP, hD⟩, hS.F ht⟩) hS.2.2 d hlk
end GRows
