/-! What a method's walk is: the judgement E over worlds, contracts Ct, and the context Cx of a walk. -/
abbrev NGw : List Cond := [.castable "java/lang/IllegalStateException" "java/lang/IllegalStateException", .castable "java/lang/IllegalArgumentException" "java/lang/IllegalArgumentException", .castable "java/lang/IndexOutOfBoundsException" "java/lang/IndexOutOfBoundsException", .declares (Bundle.initS "java/lang/RuntimeException"), .declares (Bundle.initS "java/lang/Exception"), .declares (Bundle.initS Bundle.tN)]
abbrev strs : List (Nat × String) := [(59, "there are 10 miners"), (77, "nobody is their own kin"), (101, "nobody hews now"), (110, "not a row of unlike kinds"), (115, "no payday can be held"), (140, "the miner has a house, or arrears"), (152, "the store refuses"), (173, "the miner has less coin"), (179, "the miner has less scrip"), (209, "no strike can begin"), (214, "there is no strike"), (219, "the mine is closed"), (227, "nothing is told by this number"), (240, "there is none of this number"), (243, "out of its range"), (245, "the miner is not alive")]
/-- what every start gives and no call takes away: the words of the throws, the texts, two statics of Throwable -/
def GP (A : Nat → Prop) (s : State) (H : Heap) : Prop := (∀ q ∈ NGw, va_Nw q s) ∧ (∀ q ∈ strs, ∃ a, vk_R RX2 q.1 q.2 a s) ∧ vx_Zq Bundle.tN "UNASSIGNED_STACK" Bundle.steD A s H ∧ vx_Zq Bundle.tN "SUPPRESSED_SENTINEL" Bundle.listD A s H
theorem ngw_warm {s U : State} (hW : s.WarmedH U.vm) (h : ∀ q ∈ NGw, va_Nw q s) : ∀ q ∈ NGw, va_Nw q U := by
  intro q hq
  have h0 := h q hq
  simp only [NGw, List.mem_cons, List.not_mem_nil, or_false] at hq
  rcases hq with rfl | rfl | rfl | rfl | rfl | rfl
  · exact va_Nw.warmC hW h0
  · exact va_Nw.warmC hW h0
  · exact va_Nw.warmC hW h0
  · exact va_Nw.warmD hW h0
  · exact va_Nw.warmD hW h0
  · exact va_Nw.warmD hW h0
theorem GP.warm {A A' : Nat → Prop} {s U : State} {H0 H : Heap} (hW : s.WarmedH U.vm) (h : GP A s H0) (hq : ∀ a : Nat, a < H0.size → ¬ A a → H[a]? = H0[a]?) (hA : ∀ q, A' q → A q) : GP A' U H := by
  obtain ⟨h1, h2, h3, h4⟩ := h
  refine ⟨ngw_warm hW h1, fun q hq => ?_, ?_, ?_⟩
  · obtain ⟨a, ha⟩ := h2 q hq
    exact ⟨a, vk_R.warm hW ha⟩
  · exact vx_Zq.moved hW.alike ((h3.kept hq).narrow hA)
  · exact vx_Zq.moved hW.alike ((h4.kept hq).narrow hA)
theorem GP.blind {A : Nat → Prop} {U : State} {g : JFrame} {mk : MethodId} {a : Array Value} {H : Heap} (h : GP A U H) : GP A (U.calling g mk a) H := GP.warm (State.WarmedH.refl U) h (fun _ _ _ => rfl) (fun _ q => q)
abbrev CT : Type := (Heap → List Loc → Nat → Nat → JFrame → Prop) × MethodId × va_G × (Nat → ClassId) × (Nat → Prop) × Heap × Nat
/-- the walk stands at pc with these locals, this stack and this world -/
def E (Ξ : CT) (n : Nat) (ρ : Nat → Nat) (J : Nat → Int64) (M : Mem) (a b pc : Nat) (ls : List (Nat × Value)) (st : List Value) : Prop :=
  ∀ (H : Heap) (locs : List Loc) (lsA : Array Slot), va_P Ξ.2.2.1 vwCl (ws Ξ.2.2.2.1 n ρ J M) H → va_D Ξ.2.2.2.2.1 (ws Ξ.2.2.2.1 n ρ J M) → va_S Ξ.2.2.2.2.1 Ξ.2.2.2.2.2.1 H locs → lv_has lsA Ξ.2.2.2.2.2.2 ls → Ξ.1 H locs a b (F0 Ξ.2.1 pc lsA st)
/-- the world of a state, at a machine's state -/
def Bw (D : va_G) (cA : Nat → ClassId) (A : Nat → Prop) (u : St) (t : State) : Prop := va_P D vwCl (ws cA u.1 u.2.1 u.2.2.1 u.2.2.2) t.heap ∧ va_D A (ws cA u.1 u.2.1 u.2.2.1 u.2.2.2)
def Qx (D : va_G) (cA : Nat → ClassId) (A : Nat → Prop) (post : Option Value → St → Prop) : Array Value → State → Outcome → State → Prop := fun _ st o t => (∃ (v : Option Value) (u : St), o = .returned v ∧ post v u ∧ Bw D cA A u t) ∧ va_F A st t
def Xx (D : va_G) (cA : Nat → ClassId) (A : Nat → Prop) (exc : String → St → Prop) : String → State → State → Prop := fun Ex st t => (∃ u : St, exc Ex u ∧ Bw D cA A u t) ∧ va_F A st t
abbrev rmm (h mc ms : Nat) : Room := { frames := h, cells := mc, slots := ms, locals := 30 * h + 60 }
def Ao (cA : Nat → ClassId) (n : Nat) (ρ : Nat → Nat) (J : Nat → Int64) (M : Mem) (sz : Nat) : Nat → Prop := va_A (ws cA n ρ J M) sz
/-- a contract: from this world and these arguments the method returns as post says, or throws as exc says -/
def Ct (l : Launch) (y : MethodName) (W : List Cond) (h mc ms : Nat) (n : Nat) (ρ : Nat → Nat) (J : Nat → Int64) (M : Mem) (As : List Value) (post : Option Value → St → Prop) (exc : String → St → Prop) : Prop :=
  ∀ (D : va_G) (cA : Nat → ClassId) (sz : Nat), vx_Met l y W (rmm h mc ms) (va_Pc As (fun U => U.heap.size = sz ∧ va_P D vwCl (ws cA n ρ J M) U.heap ∧ va_D (fun _ => True) (ws cA n ρ J M) ∧ KK D cA U ∧ GP (Ao cA n ρ J M sz) U U.heap)) (Qx D cA (Ao cA n ρ J M sz) post) (Xx D cA (Ao cA n ρ J M sz) exc) mc ms (Ao cA n ρ J M sz)
/-- what stands throughout a walk -/
def Cx (l : Launch) (R : Room) (cc : ByteArray) (own : String) (ret : Option FieldType) (mc ms : Nat) (tb : List ExceptionTableEntry) (post : Option Value → St → Prop) (exc : String → St → Prop) (Ξ : CT) : Prop :=
  ∃ (p : Program) (e : Env) (s : State) (m : MethodId) (args : Array Value) (below : List Frame) (meth : Method) (c : Code) (D : va_G) (cA : Nat → ClassId) (A : Nat → Prop) (nL : Nat),
    Ξ = (fun H locs a b g => W p l e R s m args below meth c H locs a b (vx_MQ below (Qx D cA A post) (Xx D cA A exc) args s mc ms A) g, m, D, cA, A, s.heap, nL) ∧
    p.tables.exec = Jvm.exec ∧ c.code = cc ∧ c.maxLocals = nL ∧ s.vm.findClass own = some m.cls ∧ (∀ w ∈ GW, w.before args s = true) ∧ KK D cA s ∧ GP A s s.heap ∧ meth.sig.returnType = ret ∧ meth.locks = false ∧ c.exceptionTable.toList = tb ∧ (∀ q, s.heap.size ≤ q → A q) ∧ l.stackTraces = false
theorem KK.blind {D : va_G} {cA : Nat → ClassId} {U : State} {g : JFrame} {mk : MethodId} {a : Array Value} (h : KK D cA U) : KK D cA (U.calling g mk a) := va_K.moved (u := U) (U := U.calling g mk a) (Vm.Alike.refl U.vm) h
/-- a contract out of a walk, of a method without handlers -/
theorem Ct.of {l : Launch} {y : MethodName} {W' : List Cond} {h mc ms n : Nat} {ρ : Nat → Nat} {J : Nat → Int64} {M : Mem} {As : List Value} {post : Option Value → St → Prop} {exc : String → St → Prop} {cc : ByteArray} {maxL : Nat} {ret : Option FieldType}
    (hl : l.stackTraces = false) (hy : plainName y.cls = true) (hw : W' = Cond.code y cc maxL ret :: GW) (hlen : (lg_sl As).length ≤ maxL)
    (body : ∀ Ξ : CT, Ξ.2.2.2.2.2.2 = maxL → Cx l (rmm h mc ms) cc y.cls ret mc ms [] post exc Ξ → E Ξ n ρ J M 0 0 0 (lv_args 0 As) []) : Ct l y W' h mc ms n ρ J M As post exc := by
  intro D cA sz
  refine vx_ofW (cc := cc) (maxL := maxL) (ret := ret) hy hw ?_
  intro p e s m args below meth c s₁ B hml htb hv
  obtain ⟨rfl, hsz, hP, hD0, hK, hG⟩ := hv
  have hts := atoms_spec (ws := W') B.pre
  have hown : s.vm.findClass y.cls = some m.cls := findClass_of_methodNamed B.named
  subst hsz
  have htb' : c.exceptionTable.toList = [] := by
    cases hq : c.exceptionTable.toList with
    | nil => rfl
    | cons x t => exact absurd (htb x (by rw [hq]; exact List.mem_cons_self)) id
  have hC : Cx l (rmm h mc ms) cc y.cls ret mc ms [] post exc (fun H locs a b g => W p l e (rmm h mc ms) s m As.toArray below meth c H locs a b (vx_MQ below (Qx D cA (Ao cA n ρ J M s.heap.size) post) (Xx D cA (Ao cA n ρ J M s.heap.size) exc) As.toArray s mc ms (Ao cA n ρ J M s.heap.size)) g, m, D, cA, Ao cA n ρ J M s.heap.size, s.heap, maxL) :=
    ⟨p, e, s, m, As.toArray, below, meth, c, D, cA, Ao cA n ρ J M s.heap.size, maxL, rfl, B.exec, B.bytes, hml, hown, (fun w hwG => hts w (by rw [hw]; exact List.mem_cons_of_mem _ hwG)), hK, hG, B.returns, B.notSynchronized, htb', (fun q hq => Or.inr hq), hl⟩
  have hE := body _ rfl hC
  have hl0 := lv_entry As (n := maxL) hlen
  rw [lg_entry_eq]
  exact hE s.heap [] _ hP hD0.self va_S.rf hl0
