section
-- ===== PART A: goes FIRST, ahead of the names: the tables' words, and 'selects' of the private methods out of them =====
/-- a private method of a class that the tables say can be made, by its rows of tables_1 -/
def lw_okq (q : MethodName × Nat) : Prop := (q.1.cls ≠ "java/lang/invoke/MethodHandle" ∧ q.1.cls ≠ "java/lang/invoke/VarHandle") ∧ Cond.instantiable q.1.cls q.2 ∈ tables_1 ∧ Cond.privateMethod q.1 ∈ tables_1 ∧ Cond.instanceMethod q.1 ∈ tables_1
theorem lw_p0 : lw_okq (⟨"java/lang/Throwable", "fillInStackTrace", "(I)Ljava/lang/Throwable;"⟩, 6) := ⟨⟨by decide +kernel, by decide +kernel⟩, List.mem_of_getElem? (i := 189) (by decide +kernel), List.mem_of_getElem? (i := 187) (by decide +kernel), List.mem_of_getElem? (i := 188) (by decide +kernel)⟩
theorem lw_p1 : lw_okq (⟨"java/util/ArrayList", "add", "(Ljava/lang/Object;[Ljava/lang/Object;I)V"⟩, 3) := ⟨⟨by decide +kernel, by decide +kernel⟩, List.mem_of_getElem? (i := 37) (by decide +kernel), List.mem_of_getElem? (i := 283) (by decide +kernel), List.mem_of_getElem? (i := 284) (by decide +kernel)⟩
theorem lw_p2 : lw_okq (⟨"java/util/ArrayList", "grow", "()[Ljava/lang/Object;"⟩, 3) := ⟨⟨by decide +kernel, by decide +kernel⟩, List.mem_of_getElem? (i := 37) (by decide +kernel), List.mem_of_getElem? (i := 287) (by decide +kernel), List.mem_of_getElem? (i := 288) (by decide +kernel)⟩
theorem lw_p3 : lw_okq (⟨"java/util/ArrayList", "grow", "(I)[Ljava/lang/Object;"⟩, 3) := ⟨⟨by decide +kernel, by decide +kernel⟩, List.mem_of_getElem? (i := 37) (by decide +kernel), List.mem_of_getElem? (i := 291) (by decide +kernel), List.mem_of_getElem? (i := 292) (by decide +kernel)⟩
theorem lw_p4 : lw_okq (⟨"ScripHollow", "minerAt", "(I)LScripHollow$Miner;"⟩, 18) := ⟨⟨by decide +kernel, by decide +kernel⟩, List.mem_of_getElem? (i := 29) (by decide +kernel), List.mem_of_getElem? (i := 346) (by decide +kernel), List.mem_of_getElem? (i := 347) (by decide +kernel)⟩
theorem lw_p5 : lw_okq (⟨"ScripHollow", "settle", "(LScripHollow$Miner;)V"⟩, 18) := ⟨⟨by decide +kernel, by decide +kernel⟩, List.mem_of_getElem? (i := 29) (by decide +kernel), List.mem_of_getElem? (i := 421) (by decide +kernel), List.mem_of_getElem? (i := 422) (by decide +kernel)⟩
theorem lw_p6 : lw_okq (⟨"ScripHollow", "due", "(LScripHollow$Miner;I)I"⟩, 18) := ⟨⟨by decide +kernel, by decide +kernel⟩, List.mem_of_getElem? (i := 29) (by decide +kernel), List.mem_of_getElem? (i := 425) (by decide +kernel), List.mem_of_getElem? (i := 426) (by decide +kernel)⟩
theorem lw_p7 : lw_okq (⟨"ScripHollow", "isPassedBy", "(I)Z"⟩, 18) := ⟨⟨by decide +kernel, by decide +kernel⟩, List.mem_of_getElem? (i := 29) (by decide +kernel), List.mem_of_getElem? (i := 433) (by decide +kernel), List.mem_of_getElem? (i := 434) (by decide +kernel)⟩
theorem lw_p8 : lw_okq (⟨"ScripHollow", "breach", "(LScripHollow$Miner;II)V"⟩, 18) := ⟨⟨by decide +kernel, by decide +kernel⟩, List.mem_of_getElem? (i := 29) (by decide +kernel), List.mem_of_getElem? (i := 442) (by decide +kernel), List.mem_of_getElem? (i := 443) (by decide +kernel)⟩
theorem lw_p9 : lw_okq (⟨"ScripHollow", "hand", "(LScripHollow$Miner;I)V"⟩, 18) := ⟨⟨by decide +kernel, by decide +kernel⟩, List.mem_of_getElem? (i := 29) (by decide +kernel), List.mem_of_getElem? (i := 446) (by decide +kernel), List.mem_of_getElem? (i := 447) (by decide +kernel)⟩
theorem lw_p10 : lw_okq (⟨"ScripHollow", "expire", "(I)V"⟩, 18) := ⟨⟨by decide +kernel, by decide +kernel⟩, List.mem_of_getElem? (i := 29) (by decide +kernel), List.mem_of_getElem? (i := 454) (by decide +kernel), List.mem_of_getElem? (i := 455) (by decide +kernel)⟩
theorem lw_p11 : lw_okq (⟨"ScripHollow", "storePrice", "(LScripHollow$Miner;I)I"⟩, 18) := ⟨⟨by decide +kernel, by decide +kernel⟩, List.mem_of_getElem? (i := 29) (by decide +kernel), List.mem_of_getElem? (i := 487) (by decide +kernel), List.mem_of_getElem? (i := 488) (by decide +kernel)⟩
theorem lw_p12 : lw_okq (⟨"ScripHollow", "refusal", "(LScripHollow$Miner;I)I"⟩, 18) := ⟨⟨by decide +kernel, by decide +kernel⟩, List.mem_of_getElem? (i := 29) (by decide +kernel), List.mem_of_getElem? (i := 491) (by decide +kernel), List.mem_of_getElem? (i := 492) (by decide +kernel)⟩
theorem lw_p13 : lw_okq (⟨"ScripHollow", "canStrike", "()Z"⟩, 18) := ⟨⟨by decide +kernel, by decide +kernel⟩, List.mem_of_getElem? (i := 29) (by decide +kernel), List.mem_of_getElem? (i := 592) (by decide +kernel), List.mem_of_getElem? (i := 593) (by decide +kernel)⟩
theorem lw_p14 : lw_okq (⟨"ScripHollow", "poorestBut", "(I)I"⟩, 18) := ⟨⟨by decide +kernel, by decide +kernel⟩, List.mem_of_getElem? (i := 29) (by decide +kernel), List.mem_of_getElem? (i := 602) (by decide +kernel), List.mem_of_getElem? (i := 603) (by decide +kernel)⟩
theorem lw_p15 : lw_okq (⟨"ScripHollow", "heirOf", "(LScripHollow$Miner;)I"⟩, 18) := ⟨⟨by decide +kernel, by decide +kernel⟩, List.mem_of_getElem? (i := 29) (by decide +kernel), List.mem_of_getElem? (i := 629) (by decide +kernel), List.mem_of_getElem? (i := 630) (by decide +kernel)⟩
def lw_privs_1 : List (MethodName × Nat) := [(⟨"java/lang/Throwable", "fillInStackTrace", "(I)Ljava/lang/Throwable;"⟩, 6), (⟨"java/util/ArrayList", "add", "(Ljava/lang/Object;[Ljava/lang/Object;I)V"⟩, 3), (⟨"java/util/ArrayList", "grow", "()[Ljava/lang/Object;"⟩, 3), (⟨"java/util/ArrayList", "grow", "(I)[Ljava/lang/Object;"⟩, 3), (⟨"ScripHollow", "minerAt", "(I)LScripHollow$Miner;"⟩, 18), (⟨"ScripHollow", "settle", "(LScripHollow$Miner;)V"⟩, 18), (⟨"ScripHollow", "due", "(LScripHollow$Miner;I)I"⟩, 18), (⟨"ScripHollow", "isPassedBy", "(I)Z"⟩, 18), (⟨"ScripHollow", "breach", "(LScripHollow$Miner;II)V"⟩, 18), (⟨"ScripHollow", "hand", "(LScripHollow$Miner;I)V"⟩, 18), (⟨"ScripHollow", "expire", "(I)V"⟩, 18), (⟨"ScripHollow", "storePrice", "(LScripHollow$Miner;I)I"⟩, 18), (⟨"ScripHollow", "refusal", "(LScripHollow$Miner;I)I"⟩, 18), (⟨"ScripHollow", "canStrike", "()Z"⟩, 18), (⟨"ScripHollow", "poorestBut", "(I)I"⟩, 18), (⟨"ScripHollow", "heirOf", "(LScripHollow$Miner;)I"⟩, 18)]
theorem lw_r1 : ∀ q ∈ lw_privs_1, lw_okq q := List.forall_mem_cons.mpr ⟨lw_p0, List.forall_mem_cons.mpr ⟨lw_p1, List.forall_mem_cons.mpr ⟨lw_p2, List.forall_mem_cons.mpr ⟨lw_p3, List.forall_mem_cons.mpr ⟨lw_p4, List.forall_mem_cons.mpr ⟨lw_p5, List.forall_mem_cons.mpr ⟨lw_p6, List.forall_mem_cons.mpr ⟨lw_p7, List.forall_mem_cons.mpr ⟨lw_p8, List.forall_mem_cons.mpr ⟨lw_p9, List.forall_mem_cons.mpr ⟨lw_p10, List.forall_mem_cons.mpr ⟨lw_p11, List.forall_mem_cons.mpr ⟨lw_p12, List.forall_mem_cons.mpr ⟨lw_p13, List.forall_mem_cons.mpr ⟨lw_p14, List.forall_mem_cons.mpr ⟨lw_p15, fun _ h => absurd h List.not_mem_nil⟩⟩⟩⟩⟩⟩⟩⟩⟩⟩⟩⟩⟩⟩⟩⟩
theorem lw_p16 : lw_okq (⟨"ScripHollow", "redeem", "(II)I"⟩, 18) := ⟨⟨by decide +kernel, by decide +kernel⟩, List.mem_of_getElem? (i := 29) (by decide +kernel), List.mem_of_getElem? (i := 652) (by decide +kernel), List.mem_of_getElem? (i := 653) (by decide +kernel)⟩
def lw_privs_2 : List (MethodName × Nat) := [(⟨"ScripHollow", "redeem", "(II)I"⟩, 18)]
theorem lw_r2 : ∀ q ∈ lw_privs_2, lw_okq q := List.forall_mem_cons.mpr ⟨lw_p16, fun _ h => absurd h List.not_mem_nil⟩
def lw_privs : List (MethodName × Nat) := lw_privs_1 ++ (lw_privs_2)
def lw_tbl : List Cond := k2_sels lw_privs ++ tables_1
theorem lw_privs_ok : ∀ q ∈ lw_privs, lw_okq q := by
  show ∀ q ∈ lw_privs_1 ++ (lw_privs_2), lw_okq q
  exact List.forall_mem_append.mpr ⟨lw_r1, lw_r2⟩
/-! ===== BEGIN words of one list among another's, by their places ===== -/
theorem goodIn_r {big : List Cond} (ws : List Cond) (ps : List Nat) (hp : ws = ps.filterMap (fun i => big[i]?)) (h : ws.all goodWord = true) : GoodIn big ws := by
  intro w hw
  have h1 := List.all_eq_true.mp h w hw
  rw [hp] at hw
  obtain ⟨i, -, hi⟩ := List.mem_filterMap.mp hw
  have hm : w ∈ big := by first | exact List.mem_of_getElem? hi | exact List.getElem?_mem hi
  exact ⟨hm, good_of_word h1⟩
theorem goodIn_app {big a b : List Cond} (ha : GoodIn big a) (hb : GoodIn big b) : GoodIn big (a ++ b) := fun w h => (List.mem_append.mp h).elim (ha w) (hb w)
theorem goodIn_ca {big a b : List Cond} {c : Cond} (ha : GoodIn big (c :: a)) (hb : GoodIn big b) : GoodIn big (c :: (a ++ b)) := fun w h => (List.mem_cons.mp h).elim (fun e => ha w (List.mem_cons.mpr (Or.inl e))) (fun h => (List.mem_append.mp h).elim (fun h => ha w (List.mem_cons.mpr (Or.inr h))) (hb w))
theorem goodIn_sub {big ws : List Cond} (hm : ∀ w ∈ ws, w ∈ big) (h : ws.all goodWord = true) : GoodIn big ws := fun w hw => ⟨hm w hw, good_of_word (List.all_eq_true.mp h w hw)⟩
/-! ===== END ===== -/

/-! ===== BEGIN exceptions that leave a method, and their catching by the caller (launches without stack traces) ===== -/
section VXA
/-! The laws vx_back, vx_callV, vx_callS, vx_callSW, vx_throw0, vx_throwS follow proofs of the library, with one case more: JvmDerived/Free/Laws.lean (Back.of_free), Shelf42/LK1.lean (callV, callS), Shelf/KitTraced.lean (throwNew0V, throwNewS). -/
/-- where a method has thrown q: the class by its name, the cell, what was written, the world -/
def vx_T (XC : String → State → State → Prop) (st : State) (q : Addr) (t : State) (mc ms : Nat) (free : Addr → Prop) : Prop :=
  ∃ (E : String) (ce : Cell) (L : List Loc), XC E st t ∧ t.heap[q]? = some ce ∧ ce.vm = .none ∧ st.vm.findClass E = some ce.cls ∧ st.WarmedH t.vm ∧ st.sameButNew ({ t with vm := st.vm } : State) L mc ms ∧ ∀ z ∈ L, free z.base
def vx_Q (Qc : Array Value → State → Outcome → State → Prop) (XC : String → State → State → Prop) (mc ms : Nat) (free : Addr → Prop) : Array Value → State → Outcome → State → Prop := fun a st o t =>
  (Qc a st o t ∧ ∃ L, FrameEnd st o t L mc ms ∧ ∀ q ∈ L, free q.base) ∨ ∃ q, o = .threw q ∧ vx_T XC st q t mc ms free
/-- a callee that returns or throws -/
def vx_Met (l : Launch) (y : MethodName) (ws : List Cond) (rm : Room) (Pc : Array Value → State → Prop) (Qc : Array Value → State → Outcome → State → Prop) (XC : String → State → State → Prop) (mc ms : Nat) (free : Addr → Prop) : Prop :=
  MetFree l y (headSpec ws rm) Pc (fun _ _ _ _ _ => True) (vx_Q Qc XC mc ms free)
def vx_Post (XC : String → State → State → Prop) (mc ms : Nat) (free : Addr → Prop) : Pt → Array Value → Addr → Pt → Prop := fun A a q B =>
  ∃ (g : JFrame) (mk : MethodId) (t : State) (L : List Loc) (E : String) (ce : Cell), B.U.heap = t.heap ∧ B.U.vm = t.vm ∧ XC E (A.U.calling g mk a) t ∧ t.heap[q]? = some ce ∧ ce.vm = .none ∧ A.U.vm.findClass E = some ce.cls ∧ B.locs = A.locs ++ L ∧ (∀ z ∈ L, free z.base) ∧ B.cells = A.cells + mc ∧ B.slots = A.slots + ms
def vx_Back (l : Launch) (R : Room) (p : Program) (e : Env) (below : List Frame) (s : State) (sargs : Array Value) (y : MethodName) (len W9 : Nat)
    (Pre : Pt → Array Value → Prop) (Post : Pt → Array Value → Option Value → Pt → Prop) (PostX : Pt → Array Value → Addr → Pt → Prop) : Prop :=
  ∀ (m : MethodId) (meth : Method) (c : Code) (A : Pt) (g : JFrame) (ig : Instr) (mk : MethodId) (a : Array Value),
    Stand p l e R s m sargs below meth c A.U A.locs A.cells A.slots → g.method = m → g.locals.size = c.maxLocals → decode c.code g.pc = .ok (ig, len) →
    2 * g.monitorRoom + (g.stack.map fun v => v.category).sum ≤ W9 → A.U.methodNamed? y = some mk → Pre A a →
    (∃ (v : Option Value) (B : Pt), Stand p l e R s m sargs below meth c B.U B.locs B.cells B.slots ∧ Post A a v B ∧
      Steps p.tables e below (doInvoke e (A.U.setTop g) [] mk a).1 (B.U.setTop { g with pc := g.pc + len, stack := v.toList ++ g.stack })) ∨
    (∃ (q : Addr) (B : Pt), Stand p l e R s m sargs below meth c B.U B.locs B.cells B.slots ∧ PostX A a q B ∧
      Steps p.tables e below (doInvoke e (A.U.setTop g) [] mk a).1 ((B.U.setTop g).pushFrame (.throwing q)))
section Payer
variable {l : Launch} {R : Room} {p : Program} {e : Env} {below : List Frame} {s : State} {sargs : Array Value} {y : MethodName} {len W9 : Nat}
theorem vx_back {ws : List Cond} {rm : Room} {Pc : Array Value → State → Prop} {Qc : Array Value → State → Outcome → State → Prop} {XC : String → State → State → Prop} {mc ms : Nat} {free : Addr → Prop} {bytes : ByteArray} {maxL : Nat} {ret : Option FieldType}
    (hM : vx_Met l y ws rm Pc Qc XC mc ms free) (hblind : FrameBlind Pc) (hrc : rm.cells = mc) (hrs : rm.slots = ms)
    (hframes : rm.frames + 1 ≤ R.frames) (hlocals : W9 + (maxL + 11) + rm.locals ≤ R.locals)
    (hws : ∀ w ∈ ws, ∀ a' U, s.WarmedH U.vm → w.before a' U = true) (hcode : Cond.code y bytes maxL ret ∈ ws) (hinit : ∀ a' U, s.WarmedH U.vm → (Cond.initialized y.cls).before a' U = true) :
    vx_Back l R p e below s sargs y len W9 (PreOf R mc ms Pc) (PostOf Qc mc ms free) (vx_Post XC mc ms free) := by
  intro m meth c A g ig mk a X hg hsize hdg hW hn hp
  have h1 : (headSpec ws rm).pre.before a A.U = true := atoms_intro fun w hw => hws w hw _ _ X.warmed
  have h2 : (Cond.code y bytes maxL ret).before a A.U = true := hws _ hcode _ _ X.warmed
  have h3 : (Cond.initialized y.cls).before a A.U = true := hinit _ _ X.warmed
  have h4 : A.cells + (headSpec ws rm).room.cells ≤ R.cells := by rw [show (headSpec ws rm).room.cells = mc from hrc]; exact hp.1
  have h5 : A.slots + (headSpec ws rm).room.slots ≤ R.slots := by rw [show (headSpec ws rm).room.slots = ms from hrs]; exact hp.2.1
  have hPc : Pc a (A.U.calling g mk a) := hblind _ _ _ _ hp.2.2
  obtain ⟨U, Ls, c0, s0⟩ := A
  dsimp only [Pt.U, Pt.locs, Pt.cells, Pt.slots] at h1 h2 h3 h4 h5 X hn hPc ⊢
  obtain ⟨methY, cY, hmY, hcY, -, hlY, -, -, -, -⟩ := Cond.code_spec hn h2
  obtain ⟨kY, hkY, -⟩ := className_of_methodNamed hn
  have hinitY : kY.init = .initialized := Cond.initialized_spec (findClass_of_methodNamed hn) hkY h3
  have h : At U g.method c below := by rw [hg]; exact X.here
  have hlocals9 : W9 + (maxL + 11) + (headSpec ws rm).room.locals ≤ R.locals := hlocals
  have happ : (headSpec ws rm).appliesLoose y e.platform (U.calling g mk a) = true :=
    Spec.appliesLoose_calling (g := g) h hdg hn hkY hinitY
      (X.room_calling (g := g) (R' := (headSpec ws rm).room) hsize hmY hcY hframes (by rw [hlY]; omega) h4 h5) h1
  obtain ⟨mid, hmid⟩ := h.above
  have hfr : (U.setTop g).frames = (.java g :: mid) ++ below := by rw [State.frames_setTop' g h.top, hmid]; rfl
  obtain ⟨o, s₂, hsteps, -, hend, hq⟩ := Steps.callFree hM p X.admits X.cas X.clock (acts := []) hfr happ hPc trivial
  have hq' : vx_Q Qc XC mc ms free a (U.calling g mk a) o s₂ := hq
  rw [State.frames_setTop' g h.top] at hend
  obtain ⟨g₀, hg0⟩ := Option.isSome_iff_exists.mp h.top
  obtain ⟨r, hr⟩ := State.topJava?_eq_some.mp hg0
  have hr' : (({ U with heap := s₂.heap, slotsUsed := s₂.slotsUsed } : State).setVm s₂.vm).frames = .java g₀ :: r := hr
  rcases hq' with ⟨hqc, L, hfe, hL⟩ | ⟨q, rfl, E, ce, L, hx, hce, hcv, hcl, hW₂, hsm, hL⟩
  · obtain ⟨⟨v, rfl⟩, hW₂, e2, q2, q3, q4, q5, q6⟩ := id hfe
    have e3 : s₂ = ({ (U.calling g mk a).setFrames s₂.frames with heap := s₂.heap, slotsUsed := s₂.slotsUsed } : State).setVm s₂.vm := by
      have : s₂ = ({ s₂ with vm := (U.calling g mk a).vm } : State).setVm s₂.vm := rfl
      rw [e2] at this
      exact this
    obtain ⟨c₂, i₂, len₂, hc₂, hd₂, hf₂⟩ := hend
    have hW' : U.WarmedH s₂.vm := hW₂
    have hcc : c₂ = c := by
      have h1 : s₂.code? g.method = U.code? g.method := by
        rw [State.code?_eq, State.code?_eq, hW'.alike.method?]
      exact Option.some.inj (hc₂.symm.trans (h1.trans h.code))
    subst hcc
    have hlen : len₂ = len := by rw [hdg] at hd₂; cases hd₂; rfl
    subst hlen
    have hs₂ : s₂ = (({ U with heap := s₂.heap, slotsUsed := s₂.slotsUsed } : State).setVm s₂.vm).setTop { g with pc := g.pc + len₂, stack := v.toList ++ g.stack } := by
      refine e3.trans ?_
      rw [hf₂, State.calling_eq h.top, State.setFrames_setFrames, State.setTop_of_frames _ hr', hr]
      rfl
    have hsame : U.sameButNew ({ U with heap := s₂.heap, slotsUsed := s₂.slotsUsed } : State) L mc ms := by
      refine ⟨?_, q2, q3, q4, q5, q6⟩
      obtain ⟨t, ht, -⟩ := State.frames_cons hr
      show ({ U with heap := s₂.heap, slotsUsed := s₂.slotsUsed } : State) = { U.setFrames U.frames with heap := s₂.heap, slotsUsed := s₂.slotsUsed }
      rw [State.setFrames_self ht]
    subst hg
    refine Or.inl ⟨v, ⟨(({ U with heap := s₂.heap, slotsUsed := s₂.slotsUsed } : State).setVm s₂.vm), Ls ++ L, c0 + mc, s0 + ms⟩,
      ⟨X.admits, X.cas, X.clock, X.frames, X.room, X.hears, X.method, X.code, (X.here.setHeapUsed s₂.heap s₂.slotsUsed).setVm hW'.alike, X.tail, State.WarmedH.trans X.warmed hW', X.limits, X.bytes, X.same.trans (hsame.setVm s.vm)⟩,
      ⟨g, mk, s₂, L, rfl, rfl, hqc, rfl, hL, rfl, rfl⟩, ?_⟩
    show Steps p.tables e below _ ((({ U with heap := s₂.heap, slotsUsed := s₂.slotsUsed } : State).setVm s₂.vm).setTop { g with pc := g.pc + len₂, stack := v.toList ++ g.stack })
    rw [← hs₂]
    exact hsteps
  · obtain ⟨e2, q2, q3, q4, q5, q6⟩ := id hsm
    have e3 : s₂ = ({ (U.calling g mk a).setFrames s₂.frames with heap := s₂.heap, slotsUsed := s₂.slotsUsed } : State).setVm s₂.vm := by
      have : s₂ = ({ s₂ with vm := (U.calling g mk a).vm } : State).setVm s₂.vm := rfl
      rw [e2] at this
      exact this
    have hf₂ : s₂.frames = .throwing q :: .java g :: U.frames.tail := hend
    have hW' : U.WarmedH s₂.vm := hW₂
    have hs₂ : s₂ = ((({ U with heap := s₂.heap, slotsUsed := s₂.slotsUsed } : State).setVm s₂.vm).setTop g).pushFrame (.throwing q) := by
      refine e3.trans ?_
      rw [hf₂, State.calling_eq h.top, State.setFrames_setFrames, State.pushFrame, State.frames_setTop _ hr', State.setTop_of_frames _ hr', State.setFrames_setFrames, hr]
      rfl
    have hsame : U.sameButNew ({ U with heap := s₂.heap, slotsUsed := s₂.slotsUsed } : State) L mc ms := by
      refine ⟨?_, q2, q3, q4, q5, q6⟩
      obtain ⟨t, ht, -⟩ := State.frames_cons hr
      show ({ U with heap := s₂.heap, slotsUsed := s₂.slotsUsed } : State) = { U.setFrames U.frames with heap := s₂.heap, slotsUsed := s₂.slotsUsed }
      rw [State.setFrames_self ht]
    subst hg
    refine Or.inr ⟨q, ⟨(({ U with heap := s₂.heap, slotsUsed := s₂.slotsUsed } : State).setVm s₂.vm), Ls ++ L, c0 + mc, s0 + ms⟩,
      ⟨X.admits, X.cas, X.clock, X.frames, X.room, X.hears, X.method, X.code, (X.here.setHeapUsed s₂.heap s₂.slotsUsed).setVm hW'.alike, X.tail, State.WarmedH.trans X.warmed hW', X.limits, X.bytes, X.same.trans (hsame.setVm s.vm)⟩,
      ⟨g, mk, s₂, L, E, ce, rfl, rfl, hx, hce, hcv, hcl, rfl, hL, rfl, rfl⟩, ?_⟩
    show Steps p.tables e below _ (((({ U with heap := s₂.heap, slotsUsed := s₂.slotsUsed } : State).setVm s₂.vm).setTop g).pushFrame (.throwing q))
    rw [← hs₂]
    exact hsteps
end Payer
section Calls
variable {p : Program} {l : Launch} {e : Env} {R : Room} {s : State} {m : MethodId} {args : Array Value} {below : List Frame} {meth : Method} {c : Code} {T : State} {locs : List Loc} {cells slots : Nat}
theorem vx_callV (X : Stand p l e R s m args below meth c T locs cells slots) (hexec : p.tables.exec = Jvm.exec) {own C : String} {index : Nat} {y : MethodName} {bytes : ByteArray} {maxL : Nat} {ret : Option FieldType}
    (hown : s.vm.findClass own = some m.cls) (hlink : (Cond.methodLink own index y).before args s = true) (hinst : (Cond.instanceMethod y).before args s = true) (hsel : (Cond.selects C y y).before args s = true)
    (hcode : (Cond.code y bytes maxL ret).before args s = true) (hy : y.cls ≠ "java/lang/invoke/MethodHandle" ∧ y.cls ≠ "java/lang/invoke/VarHandle")
    {W9 : Nat} {Pre : Pt → Array Value → Prop} {Post : Pt → Array Value → Option Value → Pt → Prop} {PostX : Pt → Array Value → Addr → Pt → Prop} (hK : vx_Back l R p e below s args y 3 W9 Pre Post PostX)
    {b : Addr} {cellB : Cell} (hcell : T.heap[b]? = some cellB) (hobj : cellB.vm.isStatics = false) (hcls : s.vm.findClass C = some cellB.cls)
    {g : JFrame} (hg : g.method = m) (hsize : g.locals.size = c.maxLocals) {argsL rest : List Value} (hlen : ∀ sig, parseMethodDescriptor y.desc = some sig → argsL.length = sig.parameters.length)
    (hstack : g.stack = argsL.reverse ++ .ref b :: rest) (hW : 2 * g.monitorRoom + (rest.map fun v => v.category).sum ≤ W9) (hdg : decode c.code g.pc = .ok (.invokevirtual index, 3))
    (hpre : ∀ vm₁, s.WarmedH vm₁ → Pre ⟨T.setVm vm₁, locs, cells, slots⟩ (Value.ref b :: argsL).toArray) :
    (∃ (v : Option Value) (vm₁ : Vm) (B : Pt), s.WarmedH vm₁ ∧ Stand p l e R s m args below meth c B.U B.locs B.cells B.slots ∧ Post ⟨T.setVm vm₁, locs, cells, slots⟩ (Value.ref b :: argsL).toArray v B ∧
      ∀ target, Steps p.tables e below (B.U.setTop { g with pc := g.pc + 3, stack := v.toList ++ rest }) target → Steps p.tables e below (T.setTop g) target) ∨
    (∃ (q : Addr) (vm₁ : Vm) (B : Pt), s.WarmedH vm₁ ∧ Stand p l e R s m args below meth c B.U B.locs B.cells B.slots ∧ PostX ⟨T.setVm vm₁, locs, cells, slots⟩ (Value.ref b :: argsL).toArray q B ∧
      Steps p.tables e below (T.setTop g) ((B.U.setTop { g with stack := rest }).pushFrame (.throwing q))) := by
  obtain ⟨mk, methM, hnamed, hmethM, hstM, habM⟩ := Cond.instanceMethod_spec hinst
  obtain ⟨methM', cM, hmethM', -, -, -, -, -, -, hsigM⟩ := Cond.code_spec hnamed hcode
  cases hmethM.symm.trans hmethM'
  obtain ⟨c2, r2, m2, q1, q2, q3, q4, kP, hkP, hkPi⟩ := Cond.selects_spec hsel
  cases hcls.symm.trans q1
  cases (State.methodFound?_of_named hnamed hy).symm.trans q2
  cases hnamed.symm.trans q3
  have hselP : selectMethod e.platform s.vm cellB.cls mk = .method mk := by rw [Launch.admits_selectMethod X.admits]; exact q4
  obtain ⟨vm₁, X₁, hstep₁⟩ := X.invokevirtual hexec hown hlink hnamed hmethM hstM hkP hkPi hy (a := b) (cell := cellB) hcell
    (fun z h => by rw [h] at hobj; cases hobj) hselP hmethM habM hkP hkPi (g := g) hg (argsL := argsL) (rest := rest) (hlen _ hsigM) hstack hdg
  rcases hK m meth c ⟨T.setVm vm₁, locs, cells, slots⟩ { g with stack := rest } (.invokevirtual index) mk (Value.ref b :: argsL).toArray X₁ hg hsize hdg hW (X₁.named hnamed) (hpre vm₁ X₁.warmed) with ⟨v, B, X', hpost, hsteps⟩ | ⟨q, B, X', hpost, hsteps⟩
  · exact Or.inl ⟨v, vm₁, B, X₁.warmed, X', hpost, fun target h => hstep₁ _ fun acts => by rw [doInvoke_state]; exact hsteps.trans h⟩
  · exact Or.inr ⟨q, vm₁, B, X₁.warmed, X', hpost, hstep₁ _ fun acts => by rw [doInvoke_state]; exact hsteps⟩
theorem vx_callS (X : Stand p l e R s m args below meth c T locs cells slots) (hexec : p.tables.exec = Jvm.exec) {own : String} {index : Nat} {y : MethodName} {bytes : ByteArray} {maxL : Nat} {ret : Option FieldType}
    (hown : s.vm.findClass own = some m.cls) (hlink : (Cond.methodLink own index y).before args s = true) (hstat : (Cond.static y).before args s = true) (hinit : (Cond.initialized y.cls).before args s = true)
    (hcode : (Cond.code y bytes maxL ret).before args s = true) (hy : y.cls ≠ "java/lang/invoke/MethodHandle" ∧ y.cls ≠ "java/lang/invoke/VarHandle")
    {W9 : Nat} {Pre : Pt → Array Value → Prop} {Post : Pt → Array Value → Option Value → Pt → Prop} {PostX : Pt → Array Value → Addr → Pt → Prop} (hK : vx_Back l R p e below s args y 3 W9 Pre Post PostX)
    {g : JFrame} (hg : g.method = m) (hsize : g.locals.size = c.maxLocals) {argsL rest : List Value} (hlen : ∀ sig, parseMethodDescriptor y.desc = some sig → argsL.length = sig.parameters.length)
    (hstack : g.stack = argsL.reverse ++ rest) (hW : 2 * g.monitorRoom + (rest.map fun v => v.category).sum ≤ W9) (hdg : decode c.code g.pc = .ok (.invokestatic index, 3))
    (hpre : ∀ vm₁, s.WarmedH vm₁ → Pre ⟨T.setVm vm₁, locs, cells, slots⟩ argsL.toArray) :
    (∃ (v : Option Value) (vm₁ : Vm) (B : Pt), s.WarmedH vm₁ ∧ Stand p l e R s m args below meth c B.U B.locs B.cells B.slots ∧ Post ⟨T.setVm vm₁, locs, cells, slots⟩ argsL.toArray v B ∧
      ∀ target, Steps p.tables e below (B.U.setTop { g with pc := g.pc + 3, stack := v.toList ++ rest }) target → Steps p.tables e below (T.setTop g) target) ∨
    (∃ (q : Addr) (vm₁ : Vm) (B : Pt), s.WarmedH vm₁ ∧ Stand p l e R s m args below meth c B.U B.locs B.cells B.slots ∧ PostX ⟨T.setVm vm₁, locs, cells, slots⟩ argsL.toArray q B ∧
      Steps p.tables e below (T.setTop g) ((B.U.setTop { g with stack := rest }).pushFrame (.throwing q))) := by
  obtain ⟨mk, hnamed⟩ := Cond.code_named hcode
  obtain ⟨methM, cM, hmethM, -, -, -, -, -, -, hsigM⟩ := Cond.code_spec hnamed hcode
  have hstatic : methM.isStatic = true := Cond.static_spec hnamed hmethM hstat
  obtain ⟨kP, hkP, -⟩ := className_of_methodNamed hnamed
  have hinitP : kP.init = .initialized := Cond.initialized_spec (findClass_of_methodNamed hnamed) hkP hinit
  obtain ⟨vm₁, X₁, hstep₁⟩ := X.invokestatic hexec hown hlink hnamed hmethM hstatic hkP hinitP hy (g := g) hg (argsL := argsL) (rest := rest) (hlen _ hsigM) hstack hdg
  rcases hK m meth c ⟨T.setVm vm₁, locs, cells, slots⟩ { g with stack := rest } (.invokestatic index) mk argsL.toArray X₁ hg hsize hdg hW (X₁.named hnamed) (hpre vm₁ X₁.warmed) with ⟨v, B, X', hpost, hsteps⟩ | ⟨q, B, X', hpost, hsteps⟩
  · exact Or.inl ⟨v, vm₁, B, X₁.warmed, X', hpost, fun target h => hstep₁ _ fun acts => by rw [doInvoke_state]; exact hsteps.trans h⟩
  · exact Or.inr ⟨q, vm₁, B, X₁.warmed, X', hpost, hstep₁ _ fun acts => by rw [doInvoke_state]; exact hsteps⟩
end Calls
theorem vx_cls {s : State} {T : State} {vm₁ : Vm} {E : String} {k : ClassId} (hW : s.WarmedH vm₁) (h : (T.setVm vm₁).vm.findClass E = some k) : s.vm.findClass E = some k := by
  have h1 : vm₁.findClass E = some k := h
  rw [hW.alike.findClass] at h1
  exact h1
/-- the method's frame g, with q thrown over it -/
def vx_W (p : Program) (l : Launch) (e : Env) (R : Room) (s : State) (m : MethodId) (args : Array Value) (below : List Frame) (meth : Method) (c : Code) (H : Heap) (locs : List Loc) (cells slots : Nat) (Q : State → Prop) (g : JFrame) (q : Addr) : Prop :=
  ∀ T : State, T.heap = H → Stand p l e R s m args below meth c T locs cells slots → ∃ t, Steps p.tables e below ((T.setTop g).pushFrame (.throwing q)) t ∧ Q t
def vx_Run (p : Program) (l : Launch) (e : Env) (R : Room) (s : State) (m : MethodId) (args : Array Value) (below : List Frame) (meth : Method) (c : Code) (H : Heap) (locs : List Loc) (cells slots mc ms : Nat) (g : JFrame) (rest : List Value) (Qa : State → Outcome → State → Prop) (XC : String → State → State → Prop) (free : Addr → Prop) : Prop :=
  ∀ T : State, T.heap = H → Stand p l e R s m args below meth c T locs cells slots →
    (∃ (v : Option Value) (st₀ t T' : State) (L : List Loc), st₀.heap = H ∧ Stand p l e R s m args below meth c T' (locs ++ L) (cells + mc) (slots + ms) ∧ (∀ q ∈ L, free q.base) ∧ T'.heap = t.heap ∧ T'.vm = t.vm ∧ Qa st₀ (.returned v) t ∧
      Goes p e below T g T' { g with pc := g.pc + 3, stack := v.toList ++ rest }) ∨
    (∃ (q : Addr) (st₀ t T' : State) (L : List Loc) (E : String) (ce : Cell), st₀.heap = H ∧ Stand p l e R s m args below meth c T' (locs ++ L) (cells + mc) (slots + ms) ∧ (∀ z ∈ L, free z.base) ∧ T'.heap = t.heap ∧ T'.vm = t.vm ∧ XC E st₀ t ∧ t.heap[q]? = some ce ∧ ce.vm = .none ∧ s.vm.findClass E = some ce.cls ∧
      Steps p.tables e below (T.setTop g) ((T'.setTop { g with stack := rest }).pushFrame (.throwing q)))
def vx_X {S : Type} (px : S → Prop) (B : String → S → State → Prop) (A : Nat → Prop) : String → State → State → Prop := fun E st t => ∃ u : S, px u ∧ B E u t ∧ va_F A st t
section Runs
variable {p : Program} {l : Launch} {e : Env} {R : Room} {s : State} {m : MethodId} {args : Array Value} {below : List Frame} {meth : Method} {c : Code} {H : Heap} {locs : List Loc} {cells slots : Nat}
variable {y : MethodName} {bytes cc : ByteArray} {maxL nL mc ms n index : Nat} {ret : Option FieldType} {ws : List Cond} {rm : Room} {Pc : Array Value → State → Prop} {Qc : Array Value → State → Outcome → State → Prop} {XC : String → State → State → Prop} {free : Addr → Prop} {Ts : List Cond} {own C : String} {b : Addr} {As rest : List Value} {g : JFrame}
theorem vx_callBack (cb : CallB R s args own index y bytes maxL ret ws rm mc ms n) (hM : vx_Met l y ws rm Pc Qc XC mc ms free) (hbl : FrameBlind Pc) : vx_Back l R p e below s args y 3 8 (PreOf R mc ms Pc) (PostOf Qc mc ms free) (vx_Post XC mc ms free) := by
  obtain ⟨hrc, hrs, hfr, hlo, hws, hcw, -, hini, -⟩ := cb
  exact vx_back (bytes := bytes) (maxL := maxL) (ret := ret) hM hbl hrc hrs hfr hlo hws hcw (fun a' U hW => word_at hW (Or.inl (by first | rfl | simp [Cond.onTables, Cond.keeps, Cond.steady])) hini)
theorem vx_runV (S : CallFix p m c cc nL s args Ts own) (hM : vx_Met l y ws rm Pc Qc XC mc ms free) (cw : CallW R s args own C index y bytes maxL ret ws rm mc ms n) (hp : PreV s H C b Pc As)
    (hg : g.method = m) (hn : As.length = n) (hsize : g.locals.size = nL) (hstack : g.stack = As.reverse ++ .ref b :: rest) (hW : 2 * g.monitorRoom + (rest.map fun v => v.category).sum ≤ 8) (hdg : decode cc g.pc = .ok (.invokevirtual index, 3)) (hf : cells + mc ≤ R.cells ∧ slots + ms ≤ R.slots) :
    vx_Run p l e R s m args below meth c H locs cells slots mc ms g rest (Qc (Value.ref b :: As).toArray) XC free := by
  have hK : vx_Back l R p e below s args y 3 8 (PreOf R mc ms Pc) (PostOf Qc mc ms free) (vx_Post XC mc ms free) := vx_callBack cw.1 hM hp.1
  obtain ⟨⟨-, -, -, -, -, -, hcode, -, hy, hlen, hl⟩, hin, hse⟩ := cw
  obtain ⟨hx, hb, hml, ho, -⟩ := S
  obtain ⟨-, ⟨cellB, hcB, hoB, hclB⟩, hPc⟩ := hp
  intro T hT X
  rcases vx_callV X hx (C := C) (bytes := bytes) (maxL := maxL) (ret := ret) ho hl hin hse hcode hy hK (by rw [hT]; exact hcB) hoB hclB hg (hsize.trans hml.symm) (argsL := As) (rest := rest) (fun sig h => hn.trans (hlen sig h)) hstack hW (by rw [hb]; exact hdg)
    (fun vm₁ hW₁ => ⟨hf.1, hf.2, hPc (T.setVm vm₁) hT hW₁⟩) with ⟨v, vm₁, ⟨U', l2, c2, s2⟩, hW₁, X', ⟨g', mk, t, L, e1, e2, hq, h1, hL, h2, h3⟩, st⟩ | ⟨q, vm₁, ⟨U', l2, c2, s2⟩, hW₁, X', ⟨g', mk, t, L, E, ce, e1, e2, hq, hce, hcv, hcl, h1, hL, h2, h3⟩, st⟩
  · dsimp only [Pt.U, Pt.locs, Pt.cells, Pt.slots] at X' e1 e2 h1 h2 h3 st
    subst h1; subst h2; subst h3
    exact Or.inl ⟨v, (T.setVm vm₁).calling g' mk (Value.ref b :: As).toArray, t, U', L, hT, X', hL, e1, e2, hq, st⟩
  · dsimp only [Pt.U, Pt.locs, Pt.cells, Pt.slots] at X' e1 e2 h1 h2 h3 st hcl
    subst h1; subst h2; subst h3
    exact Or.inr ⟨q, (T.setVm vm₁).calling g' mk (Value.ref b :: As).toArray, t, U', L, E, ce, hT, X', hL, e1, e2, hq, hce, hcv, vx_cls hW₁ hcl, st⟩
theorem vx_runS (S : CallFix p m c cc nL s args Ts own) (hM : vx_Met l y ws rm Pc Qc XC mc ms free) (cw : CallB R s args own index y bytes maxL ret ws rm mc ms n ∧ (Cond.static y).before args s = true) (hp : PreS s H Pc As)
    (hg : g.method = m) (hn : As.length = n) (hsize : g.locals.size = nL) (hstack : g.stack = As.reverse ++ rest) (hW : 2 * g.monitorRoom + (rest.map fun v => v.category).sum ≤ 8) (hdg : decode cc g.pc = .ok (.invokestatic index, 3)) (hf : cells + mc ≤ R.cells ∧ slots + ms ≤ R.slots) :
    vx_Run p l e R s m args below meth c H locs cells slots mc ms g rest (Qc As.toArray) XC free := by
  have hK : vx_Back l R p e below s args y 3 8 (PreOf R mc ms Pc) (PostOf Qc mc ms free) (vx_Post XC mc ms free) := vx_callBack cw.1 hM hp.1
  obtain ⟨⟨-, -, -, -, -, -, hcode, hini, hy, hlen, hl⟩, hstt⟩ := cw
  obtain ⟨hx, hb, hml, ho, -⟩ := S
  intro T hT X
  rcases vx_callS X hx (bytes := bytes) (maxL := maxL) (ret := ret) ho hl hstt hini hcode hy hK hg (hsize.trans hml.symm) (argsL := As) (rest := rest) (fun sig h => hn.trans (hlen sig h)) hstack hW (by rw [hb]; exact hdg)
    (fun vm₁ hW₁ => ⟨hf.1, hf.2, hp.2 (T.setVm vm₁) hT hW₁⟩) with ⟨v, vm₁, ⟨U', l2, c2, s2⟩, hW₁, X', ⟨g', mk, t, L, e1, e2, hq, h1, hL, h2, h3⟩, st⟩ | ⟨q, vm₁, ⟨U', l2, c2, s2⟩, hW₁, X', ⟨g', mk, t, L, E, ce, e1, e2, hq, hce, hcv, hcl, h1, hL, h2, h3⟩, st⟩
  · dsimp only [Pt.U, Pt.locs, Pt.cells, Pt.slots] at X' e1 e2 h1 h2 h3 st
    subst h1; subst h2; subst h3
    exact Or.inl ⟨v, (T.setVm vm₁).calling g' mk As.toArray, t, U', L, hT, X', hL, e1, e2, hq, st⟩
  · dsimp only [Pt.U, Pt.locs, Pt.cells, Pt.slots] at X' e1 e2 h1 h2 h3 st hcl
    subst h1; subst h2; subst h3
    exact Or.inr ⟨q, (T.setVm vm₁).calling g' mk As.toArray, t, U', L, E, ce, hT, X', hL, e1, e2, hq, hce, hcv, vx_cls hW₁ hcl, st⟩
end Runs
section Rows
variable {p : Program} {l : Launch} {e : Env} {R : Room} {s : State} {m : MethodId} {args : Array Value} {below : List Frame} {meth : Method} {c : Code} {H : Heap} {locs : List Loc} {cells slots : Nat} {Q : State → Prop}
variable {mc ms : Nat} {free : Addr → Prop} {A0 A1 : Nat → Prop} {H0 : Heap} {a : Array Value} {pc : Nat} {ls : Array Slot} {st0 rest : List Value}
theorem vx_keep {st₀ t T' : State} {L : List Loc} (h0 : st₀.heap = H) (e1 : T'.heap = t.heap) (hS : va_S A0 H0 H locs) (hA : ∀ q, q < H.size → A1 q → A0 q) (hf : ∀ q, free q → A0 q) (hL : ∀ q ∈ L, free q.base) (hF : va_F A1 st₀ t) :
    H.size ≤ T'.heap.size ∧ (∀ q : Nat, q < H.size → ¬ A1 q → T'.heap[q]? = H[q]?) ∧ va_S A0 H0 T'.heap (locs ++ L) := by
  obtain ⟨hz, hk⟩ := hF
  rw [h0] at hz hk
  exact ⟨by rw [e1]; exact hz, fun q h1 h2 => by rw [e1]; exact hk q h1 h2,
    ⟨Nat.le_trans hS.1 (by rw [e1]; exact hz), fun q h1 h2 => by rw [e1, hk q (Nat.lt_of_lt_of_le h1 hS.1) (fun z => h2 (hA q (Nat.lt_of_lt_of_le h1 hS.1) z))]; exact hS.2.1 q h1 h2, fun q hq => by
      rcases List.mem_append.mp hq with h | h
      · exact hS.2.2 q h
      · exact hf _ (hL q h)⟩⟩
theorem vx_calli {S SX : Type} {post : Int32 → S → Prop} {px : SX → Prop} {B : S → State → Prop} {BX : String → SX → State → Prop} {AX : Nat → Prop} (hr : vx_Run p l e R s m args below meth c H locs cells slots mc ms (F0 m pc ls st0) rest (va_Qi post B A1 a) (vx_X px BX AX) free) (hS : va_S A0 H0 H locs) (hA : ∀ q, q < H.size → A1 q → A0 q) (hf : ∀ q, free q → A0 q) (hAX : ∀ q, q < H.size → AX q → A0 q)
    (kx : ∀ (E : String) (ce : Cell) (q9 : Addr) (u : SX) (t : State) (H1 : Heap) (locs1 : List Loc), t.heap = H1 → s.vm.Alike t.vm → px u → BX E u t → H.size ≤ H1.size → (∀ q : Nat, q < H.size → ¬ AX q → H1[q]? = H[q]?) → va_S A0 H0 H1 locs1 → H1[q9]? = some ce → ce.vm = .none → s.vm.findClass E = some ce.cls → vx_W p l e R s m args below meth c H1 locs1 (cells + mc) (slots + ms) Q (F0 m pc ls rest) q9)
    (kk : ∀ (r : Int32) (u : S) (t : State) (H1 : Heap) (locs1 : List Loc), t.heap = H1 → s.vm.Alike t.vm → post r u → B u t → H.size ≤ H1.size → (∀ q : Nat, q < H.size → ¬ A1 q → H1[q]? = H[q]?) → va_S A0 H0 H1 locs1 → W p l e R s m args below meth c H1 locs1 (cells + mc) (slots + ms) Q (F0 m (pc + 3) ls (.int r :: rest))) : W p l e R s m args below meth c H locs cells slots Q (F0 m pc ls st0) := by
  intro T hT X
  rcases hr T hT X with ⟨v, st₀, t, T', L, h0, X', hL, e1, e2, ⟨⟨r, u, hv, hp, hb⟩, hF⟩, st⟩ | ⟨q, st₀, t, T', L, E, ce, h0, X', hL, e1, e2, ⟨u, hp, hb, hF⟩, hce, hcv, hcl, st⟩
  · cases hv
    obtain ⟨k1, k2, k3⟩ := vx_keep h0 e1 hS hA hf hL hF
    obtain ⟨t2, a1, b1⟩ := kk r u t T'.heap (locs ++ L) e1.symm (by rw [← e2]; exact X'.warmed.alike) hp hb k1 k2 k3 T' rfl X'
    exact ⟨t2, st t2 a1, b1⟩
  · obtain ⟨k1, k2, k3⟩ := vx_keep h0 e1 hS hAX hf hL hF
    obtain ⟨t2, a1, b1⟩ := kx E ce q u t T'.heap (locs ++ L) e1.symm (by rw [← e2]; exact X'.warmed.alike) hp hb k1 k2 k3 (by rw [e1]; exact hce) hcv hcl T' rfl X'
    exact ⟨t2, st.trans a1, b1⟩
theorem vx_calll {S SX : Type} {post : Int64 → S → Prop} {px : SX → Prop} {B : S → State → Prop} {BX : String → SX → State → Prop} {AX : Nat → Prop} (hr : vx_Run p l e R s m args below meth c H locs cells slots mc ms (F0 m pc ls st0) rest (va_Ql post B A1 a) (vx_X px BX AX) free) (hS : va_S A0 H0 H locs) (hA : ∀ q, q < H.size → A1 q → A0 q) (hf : ∀ q, free q → A0 q) (hAX : ∀ q, q < H.size → AX q → A0 q)
    (kx : ∀ (E : String) (ce : Cell) (q9 : Addr) (u : SX) (t : State) (H1 : Heap) (locs1 : List Loc), t.heap = H1 → s.vm.Alike t.vm → px u → BX E u t → H.size ≤ H1.size → (∀ q : Nat, q < H.size → ¬ AX q → H1[q]? = H[q]?) → va_S A0 H0 H1 locs1 → H1[q9]? = some ce → ce.vm = .none → s.vm.findClass E = some ce.cls → vx_W p l e R s m args below meth c H1 locs1 (cells + mc) (slots + ms) Q (F0 m pc ls rest) q9)
    (kk : ∀ (r : Int64) (u : S) (t : State) (H1 : Heap) (locs1 : List Loc), t.heap = H1 → s.vm.Alike t.vm → post r u → B u t → H.size ≤ H1.size → (∀ q : Nat, q < H.size → ¬ A1 q → H1[q]? = H[q]?) → va_S A0 H0 H1 locs1 → W p l e R s m args below meth c H1 locs1 (cells + mc) (slots + ms) Q (F0 m (pc + 3) ls (.long r :: rest))) : W p l e R s m args below meth c H locs cells slots Q (F0 m pc ls st0) := by
  intro T hT X
  rcases hr T hT X with ⟨v, st₀, t, T', L, h0, X', hL, e1, e2, ⟨⟨r, u, hv, hp, hb⟩, hF⟩, st⟩ | ⟨q, st₀, t, T', L, E, ce, h0, X', hL, e1, e2, ⟨u, hp, hb, hF⟩, hce, hcv, hcl, st⟩
  · cases hv
    obtain ⟨k1, k2, k3⟩ := vx_keep h0 e1 hS hA hf hL hF
    obtain ⟨t2, a1, b1⟩ := kk r u t T'.heap (locs ++ L) e1.symm (by rw [← e2]; exact X'.warmed.alike) hp hb k1 k2 k3 T' rfl X'
    exact ⟨t2, st t2 a1, b1⟩
  · obtain ⟨k1, k2, k3⟩ := vx_keep h0 e1 hS hAX hf hL hF
    obtain ⟨t2, a1, b1⟩ := kx E ce q u t T'.heap (locs ++ L) e1.symm (by rw [← e2]; exact X'.warmed.alike) hp hb k1 k2 k3 (by rw [e1]; exact hce) hcv hcl T' rfl X'
    exact ⟨t2, st.trans a1, b1⟩
theorem vx_callf {S SX : Type} {post : UInt32 → S → Prop} {px : SX → Prop} {B : S → State → Prop} {BX : String → SX → State → Prop} {AX : Nat → Prop} (hr : vx_Run p l e R s m args below meth c H locs cells slots mc ms (F0 m pc ls st0) rest (va_Qf post B A1 a) (vx_X px BX AX) free) (hS : va_S A0 H0 H locs) (hA : ∀ q, q < H.size → A1 q → A0 q) (hf : ∀ q, free q → A0 q) (hAX : ∀ q, q < H.size → AX q → A0 q)
    (kx : ∀ (E : String) (ce : Cell) (q9 : Addr) (u : SX) (t : State) (H1 : Heap) (locs1 : List Loc), t.heap = H1 → s.vm.Alike t.vm → px u → BX E u t → H.size ≤ H1.size → (∀ q : Nat, q < H.size → ¬ AX q → H1[q]? = H[q]?) → va_S A0 H0 H1 locs1 → H1[q9]? = some ce → ce.vm = .none → s.vm.findClass E = some ce.cls → vx_W p l e R s m args below meth c H1 locs1 (cells + mc) (slots + ms) Q (F0 m pc ls rest) q9)
    (kk : ∀ (r : UInt32) (u : S) (t : State) (H1 : Heap) (locs1 : List Loc), t.heap = H1 → s.vm.Alike t.vm → post r u → B u t → H.size ≤ H1.size → (∀ q : Nat, q < H.size → ¬ A1 q → H1[q]? = H[q]?) → va_S A0 H0 H1 locs1 → W p l e R s m args below meth c H1 locs1 (cells + mc) (slots + ms) Q (F0 m (pc + 3) ls (.float r :: rest))) : W p l e R s m args below meth c H locs cells slots Q (F0 m pc ls st0) := by
  intro T hT X
  rcases hr T hT X with ⟨v, st₀, t, T', L, h0, X', hL, e1, e2, ⟨⟨r, u, hv, hp, hb⟩, hF⟩, st⟩ | ⟨q, st₀, t, T', L, E, ce, h0, X', hL, e1, e2, ⟨u, hp, hb, hF⟩, hce, hcv, hcl, st⟩
  · cases hv
    obtain ⟨k1, k2, k3⟩ := vx_keep h0 e1 hS hA hf hL hF
    obtain ⟨t2, a1, b1⟩ := kk r u t T'.heap (locs ++ L) e1.symm (by rw [← e2]; exact X'.warmed.alike) hp hb k1 k2 k3 T' rfl X'
    exact ⟨t2, st t2 a1, b1⟩
  · obtain ⟨k1, k2, k3⟩ := vx_keep h0 e1 hS hAX hf hL hF
    obtain ⟨t2, a1, b1⟩ := kx E ce q u t T'.heap (locs ++ L) e1.symm (by rw [← e2]; exact X'.warmed.alike) hp hb k1 k2 k3 (by rw [e1]; exact hce) hcv hcl T' rfl X'
    exact ⟨t2, st.trans a1, b1⟩
theorem vx_calld {S SX : Type} {post : UInt64 → S → Prop} {px : SX → Prop} {B : S → State → Prop} {BX : String → SX → State → Prop} {AX : Nat → Prop} (hr : vx_Run p l e R s m args below meth c H locs cells slots mc ms (F0 m pc ls st0) rest (va_Qd post B A1 a) (vx_X px BX AX) free) (hS : va_S A0 H0 H locs) (hA : ∀ q, q < H.size → A1 q → A0 q) (hf : ∀ q, free q → A0 q) (hAX : ∀ q, q < H.size → AX q → A0 q)
    (kx : ∀ (E : String) (ce : Cell) (q9 : Addr) (u : SX) (t : State) (H1 : Heap) (locs1 : List Loc), t.heap = H1 → s.vm.Alike t.vm → px u → BX E u t → H.size ≤ H1.size → (∀ q : Nat, q < H.size → ¬ AX q → H1[q]? = H[q]?) → va_S A0 H0 H1 locs1 → H1[q9]? = some ce → ce.vm = .none → s.vm.findClass E = some ce.cls → vx_W p l e R s m args below meth c H1 locs1 (cells + mc) (slots + ms) Q (F0 m pc ls rest) q9)
    (kk : ∀ (r : UInt64) (u : S) (t : State) (H1 : Heap) (locs1 : List Loc), t.heap = H1 → s.vm.Alike t.vm → post r u → B u t → H.size ≤ H1.size → (∀ q : Nat, q < H.size → ¬ A1 q → H1[q]? = H[q]?) → va_S A0 H0 H1 locs1 → W p l e R s m args below meth c H1 locs1 (cells + mc) (slots + ms) Q (F0 m (pc + 3) ls (.double r :: rest))) : W p l e R s m args below meth c H locs cells slots Q (F0 m pc ls st0) := by
  intro T hT X
  rcases hr T hT X with ⟨v, st₀, t, T', L, h0, X', hL, e1, e2, ⟨⟨r, u, hv, hp, hb⟩, hF⟩, st⟩ | ⟨q, st₀, t, T', L, E, ce, h0, X', hL, e1, e2, ⟨u, hp, hb, hF⟩, hce, hcv, hcl, st⟩
  · cases hv
    obtain ⟨k1, k2, k3⟩ := vx_keep h0 e1 hS hA hf hL hF
    obtain ⟨t2, a1, b1⟩ := kk r u t T'.heap (locs ++ L) e1.symm (by rw [← e2]; exact X'.warmed.alike) hp hb k1 k2 k3 T' rfl X'
    exact ⟨t2, st t2 a1, b1⟩
  · obtain ⟨k1, k2, k3⟩ := vx_keep h0 e1 hS hAX hf hL hF
    obtain ⟨t2, a1, b1⟩ := kx E ce q u t T'.heap (locs ++ L) e1.symm (by rw [← e2]; exact X'.warmed.alike) hp hb k1 k2 k3 (by rw [e1]; exact hce) hcv hcl T' rfl X'
    exact ⟨t2, st.trans a1, b1⟩
theorem vx_callv {S SX : Type} {post : S → Prop} {px : SX → Prop} {B : S → State → Prop} {BX : String → SX → State → Prop} {AX : Nat → Prop} (hr : vx_Run p l e R s m args below meth c H locs cells slots mc ms (F0 m pc ls st0) rest (va_Qv post B A1 a) (vx_X px BX AX) free) (hS : va_S A0 H0 H locs) (hA : ∀ q, q < H.size → A1 q → A0 q) (hf : ∀ q, free q → A0 q) (hAX : ∀ q, q < H.size → AX q → A0 q)
    (kx : ∀ (E : String) (ce : Cell) (q9 : Addr) (u : SX) (t : State) (H1 : Heap) (locs1 : List Loc), t.heap = H1 → s.vm.Alike t.vm → px u → BX E u t → H.size ≤ H1.size → (∀ q : Nat, q < H.size → ¬ AX q → H1[q]? = H[q]?) → va_S A0 H0 H1 locs1 → H1[q9]? = some ce → ce.vm = .none → s.vm.findClass E = some ce.cls → vx_W p l e R s m args below meth c H1 locs1 (cells + mc) (slots + ms) Q (F0 m pc ls rest) q9)
    (kk : ∀ (u : S) (t : State) (H1 : Heap) (locs1 : List Loc), t.heap = H1 → s.vm.Alike t.vm → post u → B u t → H.size ≤ H1.size → (∀ q : Nat, q < H.size → ¬ A1 q → H1[q]? = H[q]?) → va_S A0 H0 H1 locs1 → W p l e R s m args below meth c H1 locs1 (cells + mc) (slots + ms) Q (F0 m (pc + 3) ls (rest))) : W p l e R s m args below meth c H locs cells slots Q (F0 m pc ls st0) := by
  intro T hT X
  rcases hr T hT X with ⟨v, st₀, t, T', L, h0, X', hL, e1, e2, ⟨⟨u, hv, hp, hb⟩, hF⟩, st⟩ | ⟨q, st₀, t, T', L, E, ce, h0, X', hL, e1, e2, ⟨u, hp, hb, hF⟩, hce, hcv, hcl, st⟩
  · cases hv
    obtain ⟨k1, k2, k3⟩ := vx_keep h0 e1 hS hA hf hL hF
    obtain ⟨t2, a1, b1⟩ := kk u t T'.heap (locs ++ L) e1.symm (by rw [← e2]; exact X'.warmed.alike) hp hb k1 k2 k3 T' rfl X'
    exact ⟨t2, st t2 a1, b1⟩
  · obtain ⟨k1, k2, k3⟩ := vx_keep h0 e1 hS hAX hf hL hF
    obtain ⟨t2, a1, b1⟩ := kx E ce q u t T'.heap (locs ++ L) e1.symm (by rw [← e2]; exact X'.warmed.alike) hp hb k1 k2 k3 (by rw [e1]; exact hce) hcv hcl T' rfl X'
    exact ⟨t2, st.trans a1, b1⟩
/-- caught by the row x of this method's table; the rows ahead don't take it -/
theorem vx_catch {own name : String} {E : String} {ce : Cell} {q : Addr} (hown : s.vm.findClass own = some m.cls) (pre : List ExceptionTableEntry) (x : ExceptionTableEntry) (suf : List ExceptionTableEntry) (hsplit : c.exceptionTable.toList = pre ++ x :: suf)
    (hpass : ∀ z ∈ pre, covers z pc = false ∨ (z.catchType ≠ 0 ∧ ∃ nm : String, (Cond.classLink own z.catchType nm).before args s = true ∧ va_Nc E nm s)) (hx : covers x pc = true) (h0 : x.catchType ≠ 0)
    (hlink : (Cond.classLink own x.catchType name).before args s = true) (hcast : (Cond.castable E name).before args s = true) (hcell : H[q]? = some ce) (hv : ce.vm = .none) (hcl : s.vm.findClass E = some ce.cls)
    (kk : W p l e R s m args below meth c H locs cells slots Q (F0 m x.handlerPc ls [.ref q])) : vx_W p l e R s m args below meth c H locs cells slots Q (F0 m pc ls rest) q := by
  intro T hT X
  have hpl : e.platform.magicAccessors = ({} : Platform).magicAccessors := by rw [X.admits.platform]
  obtain ⟨c3, c4, hc3, hc4, hasg⟩ := Cond.castable_spec hcast
  cases Option.some.inj (hc3.symm.trans hcl)
  obtain ⟨c5, hc5, hcl5⟩ := Cond.classLink_spec hown hlink e.platform hpl
  cases Option.some.inj (hc4.symm.trans hc5)
  obtain ⟨vm', X', st⟩ := X.thenCaughtThrough q (g := F0 m pc ls rest) rfl (Steps.refl _) (by rw [hT]; exact hcell) (by rw [hv]; rfl) (by obtain ⟨k9, h9, -⟩ := Vm.findClass_spec hcl; exact ⟨k9, h9⟩) pre x suf hsplit
    (fun z hz => by
      rcases hpass z hz with h | ⟨hz0, nm, hl1, hn1⟩
      · exact Or.inl h
      · obtain ⟨c6, hc6, hcl6⟩ := Cond.classLink_spec hown hl1 e.platform hpl
        obtain ⟨a8, b8, h1, h2, h3⟩ := hn1
        cases Option.some.inj (h1.symm.trans hcl)
        cases Option.some.inj (h2.symm.trans hc6)
        exact Or.inr ⟨hz0, _, hcl6, h3⟩) hx (Or.inr ⟨h0, c4, hcl5, hasg⟩)
  obtain ⟨t, a1, b1⟩ := kk (T.setVm vm') hT X'
  exact ⟨t, st.trans a1, b1⟩
end Rows
section Ends
variable {p : Program} {l : Launch} {e : Env} {R : Room} {s : State} {m : MethodId} {args : Array Value} {below : List Frame} {meth : Method} {c : Code} {H : Heap} {locs : List Loc} {cells slots : Nat} {Q : State → Prop}
variable {mc ms : Nat} {free : Addr → Prop} {A0 A1 : Nat → Prop} {H0 : Heap} {a : Array Value} {ls : Array Slot} {st0 rest : List Value}
variable {Qc : Array Value → State → Outcome → State → Prop} {XC : String → State → State → Prop}
/-- what a body that may throw owes at its end -/
def vx_MQ (below : List Frame) (Qc : Array Value → State → Outcome → State → Prop) (XC : String → State → State → Prop) (a : Array Value) (s : State) (mc ms : Nat) (free : Addr → Prop) : State → Prop := fun t =>
  ∃ o, t.status = .running ∧ Ended t below o ∧ vx_Q Qc XC mc ms free a s o t
theorem vx_ret {g : JFrame} {mc ms : Nat} (k : W p l e R s m args below meth c H locs cells slots (MQ below Qc args s mc ms free) g) : W p l e R s m args below meth c H locs cells slots (vx_MQ below Qc XC args s mc ms free) g := by
  intro T hT X
  obtain ⟨t, a1, o, b1, b2, b3, b4⟩ := k T hT X
  exact ⟨t, a1, o, b1, b2, Or.inl ⟨b3, b4⟩⟩
/-- not caught here: it goes on to the caller -/
theorem vx_widen {g : JFrame} {q : Addr} {k n : Nat} (h1 : cells ≤ k) (h2 : slots ≤ n) (kk : vx_W p l e R s m args below meth c H locs k n Q g q) : vx_W p l e R s m args below meth c H locs cells slots Q g q := fun T hT X => kk T hT (stand_widen X h1 h2)
theorem vx_out {pc : Nat} {E : String} {ce : Cell} {q : Addr} {mc ms : Nat} (hout : ∀ x ∈ c.exceptionTable.toList, covers x pc = false) (hlocks : meth.locks = false) (hcell : H[q]? = some ce) (hv : ce.vm = .none) (hcl : s.vm.findClass E = some ce.cls)
    (hx : ∀ t : State, t.heap = H → s.vm.Alike t.vm → XC E s t) (hf : ∀ z ∈ locs, free z.base) (hc : cells ≤ mc) (hs : slots ≤ ms) :
    vx_W p l e R s m args below meth c H locs cells slots (vx_MQ below Qc XC args s mc ms free) (F0 m pc ls rest) q := by
  intro T hT X
  obtain ⟨st1, hrun, hend, hW, hsm⟩ := X.leaveThrown q (g := F0 m pc ls rest) rfl rfl rfl hout hlocks
  have hcell9 : (T.setFrames (.throwing q :: below)).heap[q]? = some ce := by
    show T.heap[q]? = some ce
    rw [hT]; exact hcell
  exact ⟨_, st1, .threw q, hrun, hend, Or.inr ⟨q, rfl, E, ce, locs, hx _ hT hW.alike, hcell9, hv, hcl, hW, hsm.mono hc hs, hf⟩⟩
theorem vx_frame {U : State} {k n : Nat} (h : s.sameButNew ({ U with vm := s.vm } : State) locs k n) : s.heap.size ≤ U.heap.size ∧ ∀ q : Nat, q < s.heap.size → (∀ z ∈ locs, z.base ≠ q) → U.heap[q]? = s.heap[q]? := by
  obtain ⟨-, h2, -, -, -, h6⟩ := h
  refine ⟨h2, fun q hq hz => ?_⟩
  obtain ⟨c9, e1, e2, e3, e4⟩ := h6 q _ (Array.getElem?_eq_getElem hq)
  have hs : c9.slots = (s.heap[q]).slots := Array.ext_getElem? fun i => e4 i fun hm => hz _ hm rfl
  have h9 : c9 = s.heap[q] := by
    rw [hs] at e2
    exact e2
  have e5 : U.heap[q]? = some c9 := e1
  rw [e5, h9, Array.getElem?_eq_getElem hq]
/-- the words of a throw but the four that speak of the heap -/
def vx_no (w : Cond) : Bool := decide (w ≠ .isRef (.static Bundle.tN "UNASSIGNED_STACK" Bundle.steD)) && decide (w ≠ .isRef (.static Bundle.tN "SUPPRESSED_SENTINEL" Bundle.listD)) && decide (w ≠ .laysStatic Bundle.tN "UNASSIGNED_STACK" Bundle.steD) && decide (w ≠ .laysStatic Bundle.tN "SUPPRESSED_SENTINEL" Bundle.listD)
def vx_at0 (own : String) (ic : Nat) (X : String) (names : List String) : List Cond := (Bundle.ownAtoms0 own ic X names).filter vx_no
def vx_atS (own : String) (ic : Nat) (X : String) (names : List String) : List Cond := (Bundle.ownAtoms own ic X names).filter vx_no
/-- a word that the tables alone decide, or a good one -/
def vx_ot (w : Cond) : Bool := w.onTables || goodWord w
theorem vx_ot_at {args a' : Array Value} {s U : State} {w : Cond} (hW : s.WarmedH U.vm) (hvm : s.vm = U.vm) (hg : vx_ot w = true) (h : w.before args s = true) : w.before a' U = true := by
  simp only [vx_ot, Bool.or_eq_true] at hg
  rcases hg with hg | hg
  · exact va_tabs hg hvm h
  · exact word_at hW (good_of_word hg) h
/-- a list's words: the good ones out of the method's own list, the others by premises of their own -/
theorem vx_hat {args : Array Value} {s : State} {L B : List Cond} (h1 : ∀ w ∈ L.filter goodWord, w.before args s = true) (h2 : ∀ w ∈ L.filter (fun w => !goodWord w), w ∈ B) (h3 : ∀ w ∈ B, w.before args s = true) : ∀ w ∈ L, w.before args s = true := by
  intro w hw
  by_cases g : goodWord w = true
  · exact h1 w (List.mem_filter.mpr ⟨hw, g⟩)
  · refine h3 w (h2 w (List.mem_filter.mpr ⟨hw, ?_⟩))
    show (!goodWord w) = true
    cases hgw : goodWord w
    · rfl
    · exact absurd hgw g
theorem vx_c {args : Array Value} {s : State} {w : Cond} {B : List Cond} (h : w.before args s = true) (t : ∀ w ∈ B, w.before args s = true) : ∀ w' ∈ w :: B, w'.before args s = true := fun w' h' => (List.mem_cons.mp h').elim (fun e => by rw [e]; exact h) (t w')
theorem vx_n {args : Array Value} {s : State} : ∀ w ∈ ([] : List Cond), w.before args s = true := fun _ h => nomatch h
theorem vx_own {args : Array Value} {s : State} {L : List Cond} (h1 : ∀ w ∈ L.filter vx_no, w.before args s = true)
    (hU : (Cond.isRef (.static Bundle.tN "UNASSIGNED_STACK" Bundle.steD)).before args s = true) (hN : (Cond.isRef (.static Bundle.tN "SUPPRESSED_SENTINEL" Bundle.listD)).before args s = true)
    (lU : (Cond.laysStatic Bundle.tN "UNASSIGNED_STACK" Bundle.steD).before args s = true) (lN : (Cond.laysStatic Bundle.tN "SUPPRESSED_SENTINEL" Bundle.listD).before args s = true) : ∀ w ∈ L, w.before args s = true := by
  intro w hw
  by_cases e1 : w = .isRef (.static Bundle.tN "UNASSIGNED_STACK" Bundle.steD)
  · rw [e1]; exact hU
  · by_cases e2 : w = .isRef (.static Bundle.tN "SUPPRESSED_SENTINEL" Bundle.listD)
    · rw [e2]; exact hN
    · by_cases e3 : w = .laysStatic Bundle.tN "UNASSIGNED_STACK" Bundle.steD
      · rw [e3]; exact lU
      · by_cases e4 : w = .laysStatic Bundle.tN "SUPPRESSED_SENTINEL" Bundle.listD
        · rw [e4]; exact lN
        · exact h1 w (List.mem_filter.mpr ⟨hw, by unfold vx_no; rw [decide_eq_true e1, decide_eq_true e2, decide_eq_true e3, decide_eq_true e4]; rfl⟩)
/-- where a static field lies, its class's statics cell in H -/
def vx_L (C n d : String) (A : Nat → Prop) (U : State) (H : Heap) : Prop := ∃ (c : ClassId) (k : Class) (i : Nat) (f : Field) (a : Nat) (cell : Cell), U.vm.findClass C = some c ∧ U.fieldFound? C n d = some (c, k, i, f) ∧ f.isStatic = true ∧ k.statics = some a ∧ H[a]? = some cell ∧ cell.vm.isStatics = true ∧ cell.cls = c ∧ f.slot < cell.slots.size ∧ k.staticTypes[f.slot]? = some f.type ∧ ¬ A a
theorem vx_L.moved {C n d : String} {A : Nat → Prop} {u U : State} {H : Heap} (hvm : u.vm.Alike U.vm) (h : vx_L C n d A u H) : vx_L C n d A U H := by
  obtain ⟨c, k, i, f, a, cell, h1, h2, h3, h4, h5, h6, h7, h8, h9, h10⟩ := h
  obtain ⟨k', hi', he⟩ := State.fieldFound?_setVm hvm h2
  exact ⟨c, k', i, f, a, cell, by rw [hvm.findClass]; exact h1, hi', h3, by rw [he]; exact h4, h5, h6, h7, h8, by rw [he]; exact h9, h10⟩
theorem vx_L.kept {C n d : String} {A : Nat → Prop} {U : State} {H H1 : Heap} (h : vx_L C n d A U H) (hq : ∀ a : Nat, a < H.size → ¬ A a → H1[a]? = H[a]?) : vx_L C n d A U H1 := by
  obtain ⟨c, k, i, f, a, cell, h1, h2, h3, h4, h5, h6, h7, h8, h9, h10⟩ := h
  exact ⟨c, k, i, f, a, cell, h1, h2, h3, h4, by rw [hq a (Array.getElem?_eq_some_iff.mp h5).1 h10]; exact h5, h6, h7, h8, h9, h10⟩
theorem vx_L.narrow {C n d : String} {A B : Nat → Prop} {U : State} {H : Heap} (h : vx_L C n d A U H) (hAB : ∀ q, B q → A q) : vx_L C n d B U H := by
  obtain ⟨c, k, i, f, a, cell, h1, h2, h3, h4, h5, h6, h7, h8, h9, h10⟩ := h
  exact ⟨c, k, i, f, a, cell, h1, h2, h3, h4, h5, h6, h7, h8, h9, fun z => h10 (hAB _ z)⟩
theorem vx_L.word {C n d : String} {A : Nat → Prop} {s : State} {args : Array Value} (h : vx_L C n d A s s.heap) : (Cond.laysStatic C n d).before args s = true := by
  obtain ⟨c, k, i, f, a, cell, h1, h2, h3, h4, h5, h6, h7, h8, h9, -⟩ := h
  show (Cond.laysStatic C n d).holds args s none s [] = true
  exact Cond.laysStatic_of h1 h2 h3 h4 h5 h6 h7 h8 h9
/-- .. and what it holds: null or some reference -/
def vx_Zq (C n d : String) (A : Nat → Prop) (U : State) (H : Heap) : Prop := va_Zq C n d A U H ∧ vx_L C n d A U H
theorem vx_Zq.moved {C n d : String} {A : Nat → Prop} {u U : State} {H : Heap} (hvm : u.vm.Alike U.vm) (h : vx_Zq C n d A u H) : vx_Zq C n d A U H := ⟨va_Zq.moved hvm h.1, vx_L.moved hvm h.2⟩
theorem vx_Zq.kept {C n d : String} {A : Nat → Prop} {U : State} {H H1 : Heap} (h : vx_Zq C n d A U H) (hq : ∀ a : Nat, a < H.size → ¬ A a → H1[a]? = H[a]?) : vx_Zq C n d A U H1 := ⟨va_Zq.kept h.1 hq, vx_L.kept h.2 hq⟩
theorem vx_Zq.narrow {C n d : String} {A B : Nat → Prop} {U : State} {H : Heap} (h : vx_Zq C n d A U H) (hAB : ∀ q, B q → A q) : vx_Zq C n d B U H := ⟨va_Zq.narrow h.1 hAB, vx_L.narrow h.2 hAB⟩
theorem vx_Zqof {args : Array Value} {s : State} {C n d : String} {A : Nat → Prop} (hl : (Cond.laysStatic C n d).before args s = true) (hini : (Cond.initialized C).before args s = true) (h : (Cond.isRef (.static C n d)).before args s = true) (hA : ∀ a : Nat, a < s.heap.size → ¬ A a) : vx_Zq C n d A s s.heap := by
  refine ⟨va_Zqof hl hini h hA, ?_⟩
  obtain ⟨c, k, i, f, a, cell, h1, h2, h3, h4, h5, h6, h7, h8, h9⟩ := Cond.laysStatic_spec hl
  exact ⟨c, k, i, f, a, cell, h1, h2, h3, h4, h5, h6, h7, h8, h9, hA a (Array.getElem?_eq_some_iff.mp h5).1⟩
theorem vx_isRef {C n d : String} {v : Value} {A : Nat → Prop} {s : State} {args : Array Value} (h : va_Z C n d v A s s.heap) (hv : v.isRef = true) : (Cond.isRef (.static C n d)).before args s = true := by
  obtain ⟨cf, kf, fi, f, a, cell, h1, h2, h3, h4, h5, h6, h7, -⟩ := h
  have he : (Term.static C n d).eval args s none [] s = some v := by
    simp [Term.eval, State.fieldNamed?, h1, h2, h4, h5, h6, h7]
  simp only [Cond.before, Cond.holds, Cond.value, he]
  cases v <;> simp_all [Value.isRef]
theorem vx_isRefq {C n d : String} {A : Nat → Prop} {s : State} {args : Array Value} (h : va_Zq C n d A s s.heap) : (Cond.isRef (.static C n d)).before args s = true := by
  rcases h with h | ⟨t, h⟩
  · exact vx_isRef h rfl
  · exact vx_isRef h rfl
/-- the same frame, seen from here: as if the method were called anew in this heap -/
theorem vx_rebase {T : State} (X : Stand p l e R s m args below meth c T locs cells slots) {R' : Room} (hf : R'.frames ≤ R.frames) (hl : R'.locals ≤ R.locals) (hc : cells + R'.cells ≤ R.cells) (hs : slots + R'.slots ≤ R.slots) :
    Stand p l e R' ((T.setVm s.vm).setFrames (.invoking m args :: below)) m args below meth c T [] 0 0 := by
  have htop : (T.setVm s.vm).topJava?.isSome := X.here.top
  have hF : ((T.setVm s.vm).setFrames (.invoking m args :: below)).frames = .invoking m args :: below := State.frames_setFrames _ (State.cur_lt_of_top htop)
  obtain ⟨g₀, hg0⟩ := Option.isSome_iff_exists.mp htop
  obtain ⟨r, hr⟩ := State.topJava?_eq_some.mp hg0
  have hl9 : e.platform.stackLimits (T.setVm s.vm).me = e.platform.stackLimits s.me := X.limits
  have hb9 : (T.setVm s.vm).me.stackBytes = s.me.stackBytes := X.bytes
  refine ⟨X.admits, X.cas, X.clock, hF, ?_, X.hears, X.method, X.code, X.here, X.tail, X.warmed, ?_, ?_, ?_⟩
  · have h := X.room
    have hU : ((T.setVm s.vm).setFrames (.invoking m args :: below)).localsInUse = s.localsInUse := by
      rw [State.localsInUse_invoking hF (meth := meth) (c := c) X.method X.code, State.localsInUse_invoking X.frames X.method X.code]
    simp only [State.hasRoom, Bool.and_eq_true, decide_eq_true_eq] at h ⊢
    obtain ⟨⟨⟨⟨h1, h2, h3, h4, h5, h6⟩, h7⟩, h8⟩, h9⟩ := h
    rw [X.frames, List.length_cons] at h2 h3
    have q1 := X.heapSize
    have q2 := X.used
    simp only [hF, hU, List.length_cons, State.stackLimits_setFrames, State.stackBytes_setFrames, hl9, hb9]
    refine ⟨⟨⟨⟨by omega, by omega, by omega, by omega, by omega, h6⟩, ?_⟩, ?_⟩, X.book⟩
    · show T.heap.size + R'.cells ≤ e.platform.maxCells
      omega
    · show T.slotsUsed + R'.slots ≤ e.platform.maxSlots
      omega
  · rw [State.stackLimits_setFrames]; rfl
  · rw [State.stackBytes_setFrames]; rfl
  · refine ⟨?_, Nat.le_refl _, Nat.le_refl _, ?_, ?_, fun a c9 h9 => ⟨c9, h9, rfl, rfl, fun _ _ => rfl⟩⟩
    · obtain ⟨t, ht, -⟩ := State.frames_cons hr
      show T.setVm s.vm = { ((T.setVm s.vm).setFrames (.invoking m args :: below)).setFrames (T.setVm s.vm).frames with heap := T.heap, slotsUsed := T.slotsUsed }
      rw [State.setFrames_setFrames, State.setFrames_self ht]
      rfl
    · show T.slotsUsed = T.slotsUsed + ((T.heap.toList.drop T.heap.size).map (·.slots.size)).sum
      rw [List.drop_eq_nil_of_le (Nat.le_of_eq Array.length_toList)]
      rfl
    · show ((T.heap.toList.drop T.heap.size).map (·.slots.size)).sum ≤ 0
      rw [List.drop_eq_nil_of_le (Nat.le_of_eq Array.length_toList)]
      exact Nat.le_refl _
/-- 'throw new E()': new; dup; invokespecial; athrow -/
theorem vx_throw0 {cc : ByteArray} {pc : Nat} (hexec : p.tables.exec = Jvm.exec) (hb : c.code = cc) (hl : l.stackTraces = false) {own cls : String} {names : List String} {ik ic mc ms : Nat} {A : Nat → Prop}
    (hown : s.vm.findClass own = some m.cls) (hcls : Bundle.fit cls = true) (hnames : ∀ n ∈ names, Bundle.fit n = true)
    (hk : (Cond.classLink own ik cls).before args s = true) (hini : (Cond.initialized cls).before args s = true) (hat : ∀ w ∈ vx_at0 own ic cls names, w.before args s = true)
    (hgood : ∀ w ∈ Cond.classLink own ik cls :: Cond.initialized cls :: vx_at0 own ic cls names, vx_ot w = true)
    (hU : vx_Zq Bundle.tN "UNASSIGNED_STACK" Bundle.steD A s s.heap) (hN : vx_Zq Bundle.tN "SUPPRESSED_SENTINEL" Bundle.listD A s s.heap) (hS : va_S A s.heap H locs) (hsize : ls.size = c.maxLocals)
    (d0 : decode cc pc = .ok (.new ik, 3)) (d3 : decode cc (pc + 3) = .ok (.dup, 1)) (d4 : decode cc (pc + 4) = .ok (.invokespecial ic, 3)) (d7 : decode cc (pc + 7) = .ok (.athrow, 1))
    (hout : ∀ x ∈ c.exceptionTable.toList, covers x (pc + 7) = false)
    (hRframes : names.length + 3 < R.frames) (hRlocals : (rest.map fun v => v.category).sum + (13 * (names.length + 1) + 42) ≤ R.locals) (hRcells : cells + 1 ≤ R.cells) (hRslots : slots + 6 ≤ R.slots) (hlocks : meth.locks = false)
    (hx : ∀ t : State, s.vm.Alike t.vm → H.size ≤ t.heap.size → (∀ q : Nat, q < H.size → t.heap[q]? = H[q]?) → XC cls s t)
    (hf : ∀ z ∈ locs, free z.base) (hc : cells + 1 ≤ mc) (hs : slots + 6 ≤ ms) :
    W p l e R s m args below meth c H locs cells slots (vx_MQ below Qc XC args s mc ms free) (F0 m pc ls rest) := by
  intro T hT X
  have htr : e.platform.stackTraces = false := (show e.platform.stackTraces = l.stackTraces by rw [X.admits.platform]).trans hl
  have Y := vx_rebase X (R' := { frames := R.frames, locals := R.locals, cells := 1, slots := 6 }) (Nat.le_refl _) (Nat.le_refl _) hRcells hRslots
  obtain ⟨s', hA⟩ : ∃ z, z = (T.setVm s.vm).setFrames (.invoking m args :: below) := ⟨_, rfl⟩
  rw [← hA] at Y
  have hvm : s'.vm = s.vm := by rw [hA]; rfl
  have hhp : s'.heap = H := by rw [hA]; exact hT
  have hW0 : s.WarmedH s'.vm := by rw [hvm]; exact State.WarmedH.refl s
  have hat' : ∀ w ∈ vx_at0 own ic cls names, w.before args s' = true := fun w hw => vx_ot_at hW0 hvm.symm (hgood w (List.mem_cons_of_mem _ (List.mem_cons_of_mem _ hw))) (hat w hw)
  have hk' : (Cond.classLink own ik cls).before args s' = true := vx_ot_at hW0 hvm.symm (hgood _ List.mem_cons_self) hk
  have hini' : (Cond.initialized cls).before args s' = true := vx_ot_at hW0 hvm.symm (hgood _ (List.mem_cons_of_mem _ List.mem_cons_self)) hini
  have hU' : vx_Zq Bundle.tN "UNASSIGNED_STACK" Bundle.steD A s' s'.heap := by rw [hhp]; exact vx_Zq.moved hW0.alike (hU.kept hS.2.1)
  have hN' : vx_Zq Bundle.tN "SUPPRESSED_SENTINEL" Bundle.listD A s' s'.heap := by rw [hhp]; exact vx_Zq.moved hW0.alike (hN.kept hS.2.1)
  have h : ∀ w ∈ Bundle.ownAtoms0 own ic cls names, w.before args s' = true := vx_own hat' (vx_isRefq hU'.1) (vx_isRefq hN'.1) hU'.2.word hN'.2.word
  have hown' : s'.vm.findClass own = some m.cls := by rw [hvm]; exact hown
  have hins : (Cond.instantiable cls 6).before args s' = true := h _ (by simp [Bundle.ownAtoms0])
  obtain ⟨vm₁, cX, kX, hfX, hkX, -, -, X₁, st1⟩ := Y.newCold hexec (own := own) (C := cls) (index := ik) (n := 6) hown' hk' hins hini'
    (g := F0 m pc ls rest) rfl (by rw [hb]; exact d0) (Nat.le_refl _) (Nat.le_refl _)
  generalize hT1 : (T.setVm vm₁).pushCell { cls := cX, slots := kX.instanceTypes.map defaultValue, vm := .none } = T1 at X₁ st1
  have hcat : (Value.ref T.heap.size).category = 1 := rfl
  have hcellA : T1.heap[T.heap.size]? = some (freshCell cX kX) := by rw [← hT1]; exact State.heap_pushCell_size _ _
  have d3' : decode c.code (pc + 3) = .ok (.dup, 1) := by rw [hb]; exact d3
  obtain ⟨U, hsteps, hrun, hend, hW, hsame, ce, hce, hO⟩ := X₁.ctorThrow0 hexec htr (own := own) (cls := cls) (names := names) (ic := ic) hown' hcls hnames h (fun x hx => nomatch hx) hfX hkX hcellA (by rw [hhp, hT]; exact Nat.le_refl _)
    (g := { method := m, pc := pc + 4, locals := ls, stack := .ref T.heap.size :: .ref T.heap.size :: rest, locked := none }) rfl hsize rfl rfl (rest := rest) rfl
    (by rw [hb]; exact d4) (by rw [hb]; exact d7) hout hRframes (by simp only [List.map_cons, List.sum_cons, hcat]; omega) hlocks
  obtain ⟨f1, f2⟩ := vx_frame hsame
  rw [hhp] at f1 f2
  have hWs : s.WarmedH U.vm := State.WarmedH.trans hW0 hW
  have hcl : s.vm.findClass cls = some ce.cls := by
    have h9 := hO.cls
    rw [hvm] at h9
    exact h9
  have hall : s.sameButNew ({ U with vm := s.vm } : State) locs mc ms := by
    subst hA
    obtain ⟨e1, e2⟩ := hsame
    rw [State.setFrames_setFrames] at e1
    have h2 : (T.setVm s.vm).sameButNew ({ U with vm := s.vm } : State) [] (0 + 1) (0 + 6) := ⟨e1, e2⟩
    have h3 := X.same.trans h2
    rw [List.append_nil] at h3
    exact h3.mono hc hs
  refine ⟨U, ?_, .threw T.heap.size, hrun, hend, Or.inr ⟨T.heap.size, rfl, cls, ce, locs, hx U hWs.alike f1 (fun q hq => f2 q hq (fun z hz => nomatch hz)), hce, hO.vm, hcl, hWs, hall, hf⟩⟩
  refine st1 _ ?_
  show Steps p.tables e below (T1.setTop { method := m, pc := pc + 3, locals := ls, stack := .ref T.heap.size :: rest, locked := none }) _
  jvm_step X₁.here [X₁.here.top, hexec, d3', Value.category]
  exact hsteps
/-- 'throw new E("text")': new; dup; ldc; invokespecial; athrow -/
theorem vx_throwS {cc : ByteArray} {pc : Nat} (hexec : p.tables.exec = Jvm.exec) (hb : c.code = cc) (hl : l.stackTraces = false) {own cls text : String} {names : List String} {ik is ic mc ms sa : Nat} {A : Nat → Prop}
    (hown : s.vm.findClass own = some m.cls) (hcls : Bundle.fit cls = true) (hnames : ∀ n ∈ names, Bundle.fit n = true)
    (hk : (Cond.classLink own ik cls).before args s = true) (hini : (Cond.initialized cls).before args s = true) (hstr : vk_R own is text sa s) (hat : ∀ w ∈ vx_atS own ic cls names, w.before args s = true)
    (hgood : ∀ w ∈ Cond.classLink own ik cls :: Cond.initialized cls :: vx_atS own ic cls names, vx_ot w = true)
    (hU : vx_Zq Bundle.tN "UNASSIGNED_STACK" Bundle.steD A s s.heap) (hN : vx_Zq Bundle.tN "SUPPRESSED_SENTINEL" Bundle.listD A s s.heap) (hS : va_S A s.heap H locs) (hsize : ls.size = c.maxLocals)
    (d0 : decode cc pc = .ok (.new ik, 3)) (d3 : decode cc (pc + 3) = .ok (.dup, 1)) (d4 : decode cc (pc + 4) = .ok (.ldc is, 2)) (d6 : decode cc (pc + 6) = .ok (.invokespecial ic, 3)) (d9 : decode cc (pc + 9) = .ok (.athrow, 1))
    (hout : ∀ x ∈ c.exceptionTable.toList, covers x (pc + 9) = false)
    (hRframes : names.length + 3 < R.frames) (hRlocals : (rest.map fun v => v.category).sum + (13 * (names.length + 1) + 43) ≤ R.locals) (hRcells : cells + 1 ≤ R.cells) (hRslots : slots + 6 ≤ R.slots) (hlocks : meth.locks = false)
    (hx : ∀ t : State, s.vm.Alike t.vm → H.size ≤ t.heap.size → (∀ q : Nat, q < H.size → t.heap[q]? = H[q]?) → XC cls s t)
    (hf : ∀ z ∈ locs, free z.base) (hc : cells + 1 ≤ mc) (hs : slots + 6 ≤ ms) :
    W p l e R s m args below meth c H locs cells slots (vx_MQ below Qc XC args s mc ms free) (F0 m pc ls rest) := by
  intro T hT X
  have htr : e.platform.stackTraces = false := (show e.platform.stackTraces = l.stackTraces by rw [X.admits.platform]).trans hl
  have Y := vx_rebase X (R' := { frames := R.frames, locals := R.locals, cells := 1, slots := 6 }) (Nat.le_refl _) (Nat.le_refl _) hRcells hRslots
  obtain ⟨s', hA⟩ : ∃ z, z = (T.setVm s.vm).setFrames (.invoking m args :: below) := ⟨_, rfl⟩
  rw [← hA] at Y
  have hvm : s'.vm = s.vm := by rw [hA]; rfl
  have hhp : s'.heap = H := by rw [hA]; exact hT
  have hW0 : s.WarmedH s'.vm := by rw [hvm]; exact State.WarmedH.refl s
  have hat' : ∀ w ∈ vx_atS own ic cls names, w.before args s' = true := fun w hw => vx_ot_at hW0 hvm.symm (hgood w (List.mem_cons_of_mem _ (List.mem_cons_of_mem _ hw))) (hat w hw)
  have hk' : (Cond.classLink own ik cls).before args s' = true := vx_ot_at hW0 hvm.symm (hgood _ List.mem_cons_self) hk
  have hini' : (Cond.initialized cls).before args s' = true := vx_ot_at hW0 hvm.symm (hgood _ (List.mem_cons_of_mem _ List.mem_cons_self)) hini
  have hU' : vx_Zq Bundle.tN "UNASSIGNED_STACK" Bundle.steD A s' s'.heap := by rw [hhp]; exact vx_Zq.moved hW0.alike (hU.kept hS.2.1)
  have hN' : vx_Zq Bundle.tN "SUPPRESSED_SENTINEL" Bundle.listD A s' s'.heap := by rw [hhp]; exact vx_Zq.moved hW0.alike (hN.kept hS.2.1)
  have h : ∀ w ∈ Bundle.ownAtoms own ic cls names, w.before args s' = true := vx_own hat' (vx_isRefq hU'.1) (vx_isRefq hN'.1) hU'.2.word hN'.2.word
  have hown' : s'.vm.findClass own = some m.cls := by rw [hvm]; exact hown
  have hins : (Cond.instantiable cls 6).before args s' = true := h _ (by simp [Bundle.ownAtoms])
  obtain ⟨vm₁, cX, kX, hfX, hkX, -, -, X₁, st1⟩ := Y.newCold hexec (own := own) (C := cls) (index := ik) (n := 6) hown' hk' hins hini'
    (g := F0 m pc ls rest) rfl (by rw [hb]; exact d0) (Nat.le_refl _) (Nat.le_refl _)
  generalize hT1 : (T.setVm vm₁).pushCell { cls := cX, slots := kX.instanceTypes.map defaultValue, vm := .none } = T1 at X₁ st1
  have hcat : (Value.ref T.heap.size).category = 1 := rfl
  have hcellA : T1.heap[T.heap.size]? = some (freshCell cX kX) := by rw [← hT1]; exact State.heap_pushCell_size _ _
  have d3' : decode c.code (pc + 3) = .ok (.dup, 1) := by rw [hb]; exact d3
  have d4' : decode c.code (pc + 4) = .ok (.ldc is, 2) := by rw [hb]; exact d4
  have hstr' : vk_R own is text sa s' := vk_R.warm hW0 hstr
  obtain ⟨U, hsteps, hrun, hend, hW, hsame, ce, hce, hO⟩ := X₁.ctorThrowS hexec htr (own := own) (cls := cls) (names := names) (ic := ic) hown' hcls hnames h (fun x hx => nomatch hx) hfX hkX hcellA (by rw [hhp, hT]; exact Nat.le_refl _) (msg := .ref sa) rfl
    (g := { method := m, pc := pc + 6, locals := ls, stack := .ref sa :: .ref T.heap.size :: .ref T.heap.size :: rest, locked := none }) rfl hsize rfl rfl (rest := rest) rfl
    (by rw [hb]; exact d6) (by rw [hb]; exact d9) hout hRframes (by simp only [List.map_cons, List.sum_cons, hcat]; omega) hlocks
  obtain ⟨f1, f2⟩ := vx_frame hsame
  rw [hhp] at f1 f2
  have hWs : s.WarmedH U.vm := State.WarmedH.trans hW0 hW
  have hcl : s.vm.findClass cls = some ce.cls := by
    have h9 := hO.cls
    rw [hvm] at h9
    exact h9
  have hall : s.sameButNew ({ U with vm := s.vm } : State) locs mc ms := by
    subst hA
    obtain ⟨e1, e2⟩ := hsame
    rw [State.setFrames_setFrames] at e1
    have h2 : (T.setVm s.vm).sameButNew ({ U with vm := s.vm } : State) [] (0 + 1) (0 + 6) := ⟨e1, e2⟩
    have h3 := X.same.trans h2
    rw [List.append_nil] at h3
    exact h3.mono hc hs
  refine ⟨U, ?_, .threw T.heap.size, hrun, hend, Or.inr ⟨T.heap.size, rfl, cls, ce, locs, hx U hWs.alike f1 (fun q hq => f2 q hq (fun z hz => nomatch hz)), hce, hO.vm, hcl, hWs, hall, hf⟩⟩
  refine st1 _ ?_
  show Steps p.tables e below (T1.setTop { method := m, pc := pc + 3, locals := ls, stack := .ref T.heap.size :: rest, locked := none }) _
  jvm_step X₁.here [X₁.here.top, hexec, d3', Value.category]
  exact X₁.ldcString hexec (own := own) (text := text) (index := is) (a := sa) hown' hstr'.1 hstr'.2
    (g := { method := m, pc := pc + 4, locals := ls, stack := .ref T.heap.size :: .ref T.heap.size :: rest, locked := none }) rfl d4' _ hsteps
/-- 'throw new E("text")', the text by a wide index -/
theorem vx_throwSW {cc : ByteArray} {pc : Nat} (hexec : p.tables.exec = Jvm.exec) (hb : c.code = cc) (hl : l.stackTraces = false) {own cls text : String} {names : List String} {ik is ic mc ms sa : Nat} {A : Nat → Prop}
    (hown : s.vm.findClass own = some m.cls) (hcls : Bundle.fit cls = true) (hnames : ∀ n ∈ names, Bundle.fit n = true)
    (hk : (Cond.classLink own ik cls).before args s = true) (hini : (Cond.initialized cls).before args s = true) (hstr : vk_R own is text sa s) (hat : ∀ w ∈ vx_atS own ic cls names, w.before args s = true)
    (hgood : ∀ w ∈ Cond.classLink own ik cls :: Cond.initialized cls :: vx_atS own ic cls names, vx_ot w = true)
    (hU : vx_Zq Bundle.tN "UNASSIGNED_STACK" Bundle.steD A s s.heap) (hN : vx_Zq Bundle.tN "SUPPRESSED_SENTINEL" Bundle.listD A s s.heap) (hS : va_S A s.heap H locs) (hsize : ls.size = c.maxLocals)
    (d0 : decode cc pc = .ok (.new ik, 3)) (d3 : decode cc (pc + 3) = .ok (.dup, 1)) (d4 : decode cc (pc + 4) = .ok (.ldc_w is, 3)) (d7 : decode cc (pc + 7) = .ok (.invokespecial ic, 3)) (d10 : decode cc (pc + 10) = .ok (.athrow, 1))
    (hout : ∀ x ∈ c.exceptionTable.toList, covers x (pc + 10) = false)
    (hRframes : names.length + 3 < R.frames) (hRlocals : (rest.map fun v => v.category).sum + (13 * (names.length + 1) + 43) ≤ R.locals) (hRcells : cells + 1 ≤ R.cells) (hRslots : slots + 6 ≤ R.slots) (hlocks : meth.locks = false)
    (hx : ∀ t : State, s.vm.Alike t.vm → H.size ≤ t.heap.size → (∀ q : Nat, q < H.size → t.heap[q]? = H[q]?) → XC cls s t)
    (hf : ∀ z ∈ locs, free z.base) (hc : cells + 1 ≤ mc) (hs : slots + 6 ≤ ms) :
    W p l e R s m args below meth c H locs cells slots (vx_MQ below Qc XC args s mc ms free) (F0 m pc ls rest) := by
  intro T hT X
  have htr : e.platform.stackTraces = false := (show e.platform.stackTraces = l.stackTraces by rw [X.admits.platform]).trans hl
  have Y := vx_rebase X (R' := { frames := R.frames, locals := R.locals, cells := 1, slots := 6 }) (Nat.le_refl _) (Nat.le_refl _) hRcells hRslots
  obtain ⟨s', hA⟩ : ∃ z, z = (T.setVm s.vm).setFrames (.invoking m args :: below) := ⟨_, rfl⟩
  rw [← hA] at Y
  have hvm : s'.vm = s.vm := by rw [hA]; rfl
  have hhp : s'.heap = H := by rw [hA]; exact hT
  have hW0 : s.WarmedH s'.vm := by rw [hvm]; exact State.WarmedH.refl s
  have hat' : ∀ w ∈ vx_atS own ic cls names, w.before args s' = true := fun w hw => vx_ot_at hW0 hvm.symm (hgood w (List.mem_cons_of_mem _ (List.mem_cons_of_mem _ hw))) (hat w hw)
  have hk' : (Cond.classLink own ik cls).before args s' = true := vx_ot_at hW0 hvm.symm (hgood _ List.mem_cons_self) hk
  have hini' : (Cond.initialized cls).before args s' = true := vx_ot_at hW0 hvm.symm (hgood _ (List.mem_cons_of_mem _ List.mem_cons_self)) hini
  have hU' : vx_Zq Bundle.tN "UNASSIGNED_STACK" Bundle.steD A s' s'.heap := by rw [hhp]; exact vx_Zq.moved hW0.alike (hU.kept hS.2.1)
  have hN' : vx_Zq Bundle.tN "SUPPRESSED_SENTINEL" Bundle.listD A s' s'.heap := by rw [hhp]; exact vx_Zq.moved hW0.alike (hN.kept hS.2.1)
  have h : ∀ w ∈ Bundle.ownAtoms own ic cls names, w.before args s' = true := vx_own hat' (vx_isRefq hU'.1) (vx_isRefq hN'.1) hU'.2.word hN'.2.word
  have hown' : s'.vm.findClass own = some m.cls := by rw [hvm]; exact hown
  have hins : (Cond.instantiable cls 6).before args s' = true := h _ (by simp [Bundle.ownAtoms])
  obtain ⟨vm₁, cX, kX, hfX, hkX, -, -, X₁, st1⟩ := Y.newCold hexec (own := own) (C := cls) (index := ik) (n := 6) hown' hk' hins hini'
    (g := F0 m pc ls rest) rfl (by rw [hb]; exact d0) (Nat.le_refl _) (Nat.le_refl _)
  generalize hT1 : (T.setVm vm₁).pushCell { cls := cX, slots := kX.instanceTypes.map defaultValue, vm := .none } = T1 at X₁ st1
  have hcat : (Value.ref T.heap.size).category = 1 := rfl
  have hcellA : T1.heap[T.heap.size]? = some (freshCell cX kX) := by rw [← hT1]; exact State.heap_pushCell_size _ _
  have d3' : decode c.code (pc + 3) = .ok (.dup, 1) := by rw [hb]; exact d3
  have d4' : decode c.code (pc + 4) = .ok (.ldc_w is, 3) := by rw [hb]; exact d4
  have hstr' : vk_R own is text sa s' := vk_R.warm hW0 hstr
  obtain ⟨U, hsteps, hrun, hend, hW, hsame, ce, hce, hO⟩ := X₁.ctorThrowS hexec htr (own := own) (cls := cls) (names := names) (ic := ic) hown' hcls hnames h (fun x hx => nomatch hx) hfX hkX hcellA (by rw [hhp, hT]; exact Nat.le_refl _) (msg := .ref sa) rfl
    (g := { method := m, pc := pc + 7, locals := ls, stack := .ref sa :: .ref T.heap.size :: .ref T.heap.size :: rest, locked := none }) rfl hsize rfl rfl (rest := rest) rfl
    (by rw [hb]; exact d7) (by rw [hb]; exact d10) hout hRframes (by simp only [List.map_cons, List.sum_cons, hcat]; omega) hlocks
  obtain ⟨f1, f2⟩ := vx_frame hsame
  rw [hhp] at f1 f2
  have hWs : s.WarmedH U.vm := State.WarmedH.trans hW0 hW
  have hcl : s.vm.findClass cls = some ce.cls := by
    have h9 := hO.cls
    rw [hvm] at h9
    exact h9
  have hall : s.sameButNew ({ U with vm := s.vm } : State) locs mc ms := by
    subst hA
    obtain ⟨e1, e2⟩ := hsame
    rw [State.setFrames_setFrames] at e1
    have h2 : (T.setVm s.vm).sameButNew ({ U with vm := s.vm } : State) [] (0 + 1) (0 + 6) := ⟨e1, e2⟩
    have h3 := X.same.trans h2
    rw [List.append_nil] at h3
    exact h3.mono hc hs
  refine ⟨U, ?_, .threw T.heap.size, hrun, hend, Or.inr ⟨T.heap.size, rfl, cls, ce, locs, hx U hWs.alike f1 (fun q hq => f2 q hq (fun z hz => nomatch hz)), hce, hO.vm, hcl, hWs, hall, hf⟩⟩
  refine st1 _ ?_
  show Steps p.tables e below (T1.setTop { method := m, pc := pc + 3, locals := ls, stack := .ref T.heap.size :: rest, locked := none }) _
  jvm_step X₁.here [X₁.here.top, hexec, d3', Value.category]
  exact X₁.ldcStringW hexec (own := own) (text := text) (index := is) (a := sa) hown' hstr'.1 hstr'.2
    (g := { method := m, pc := pc + 4, locals := ls, stack := .ref T.heap.size :: .ref T.heap.size :: rest, locked := none }) rfl d4' _ hsteps
end Ends
section Bodies
variable {l : Launch}
theorem vx_ofW {y : MethodName} {ws ws' : List Cond} {rm : Room} {Pc : Array Value → State → Prop} {Qc : Array Value → State → Outcome → State → Prop} {XC : String → State → State → Prop} {mc ms : Nat} {free : Addr → Prop} {cc : ByteArray} {maxL : Nat} {ret : Option FieldType}
    (hy : plainName y.cls = true) (hw : ws = Cond.code y cc maxL ret :: ws')
    (body : ∀ p e s m args below meth c s₁, BodyLoose p l y (headSpec ws rm) cc maxL ret e s m args below meth c s₁ → c.maxLocals = maxL → (∀ x ∈ c.exceptionTable.toList, False) → Pc args s →
      W p l e (headSpec ws rm).room s m args below meth c s.heap [] 0 0 (vx_MQ below Qc XC args s mc ms free) (entryFrame m args maxL)) : vx_Met l y ws rm Pc Qc XC mc ms free := by
  refine MetFree.of_bodyS (code := cc) (maxLocals := maxL) (ret := ret) hy ?_ ?_
  · intro args s m h hn
    obtain ⟨meth, c, h1, h2, h3, h4, h5, h6, -, -⟩ := Cond.code_spec hn (atoms_spec (ws := ws) h _ (by rw [hw]; exact List.mem_cons_self))
    exact ⟨meth, c, h1, h2, h3, h4, h5, h6⟩
  · intro p e s m args below meth c s₁ B hml hP _
    have hh0 : s₁.heap = s.heap := by rw [B.state]; rfl
    have ht : ∀ x ∈ c.exceptionTable.toList, False := by
      obtain ⟨meth9, c9, h1, h2, -, -, -, -, h7, -⟩ := Cond.code_spec B.named (atoms_spec (ws := ws) B.pre _ (by rw [hw]; exact List.mem_cons_self))
      cases Option.some.inj (h1.symm.trans B.method)
      cases Option.some.inj (h2.symm.trans (Stand.of_body B).code)
      intro x hx
      rw [Array.isEmpty_iff.mp h7] at hx
      cases hx
    obtain ⟨t, a1, o, b1, b2, b3⟩ := body p e s m args below meth c s₁ B hml ht hP s₁ hh0 (Stand.of_body B)
    exact ⟨t, o, a1, b1, b2, b3⟩
/-- the table of a body with handlers -/
theorem vx_table {p : Program} {x y : MethodName} {S : Spec} {cc bytes : ByteArray} {maxL maxL' : Nat} {ret ret' : Option FieldType} {e : Env} {s s₁ : State} {m : MethodId} {args : Array Value} {below : List Frame} {meth : Method} {c : Code} {hh : List (Nat × Nat × Nat × Nat)}
    (B : BodyLoose p l y S cc maxL ret e s m args below meth c s₁) (h : (Cond.codeWith y bytes maxL' ret' hh).before args s = true) : c.exceptionTable.toList = tableOf hh := by
  obtain ⟨m9, meth9, c9, hn9, h1, h2, -, -, h6, -⟩ := Cond.codeWith_spec h
  cases Option.some.inj (hn9.symm.trans B.named)
  cases Option.some.inj (h1.symm.trans B.method)
  cases Option.some.inj (h2.symm.trans (Stand.of_body B).code)
  rw [← h6, table_eq]
end Bodies
end VXA
/-! ===== END ===== -/
/-! ===== BEGIN a static call of a method with an exception table ===== -/
section VXS
variable {p : Program} {l : Launch} {e : Env} {R : Room} {s : State} {m : MethodId} {args : Array Value} {below : List Frame} {meth : Method} {c : Code} {T : State} {H : Heap} {locs : List Loc} {cells slots : Nat}
abbrev vx_CSW (R : Room) (s : State) (args : Array Value) (own : String) (index : Nat) (y : MethodName) (bytes : ByteArray) (maxL : Nat) (ret : Option FieldType) (hh : List (Nat × Nat × Nat × Nat)) (ws : List Cond) (rm : Room) (mc ms n : Nat) : Prop :=
  (rm.cells = mc ∧ rm.slots = ms ∧ rm.frames + 1 ≤ R.frames ∧ 8 + (maxL + 11) + rm.locals ≤ R.locals ∧ (∀ w ∈ ws, ∀ (a' : Array Value) (U : State), s.WarmedH U.vm → w.before a' U = true) ∧ Cond.codeWith y bytes maxL ret hh ∈ ws) ∧
  (Cond.codeWith y bytes maxL ret hh).before args s = true ∧ (Cond.initialized y.cls).before args s = true ∧ (y.cls ≠ "java/lang/invoke/MethodHandle" ∧ y.cls ≠ "java/lang/invoke/VarHandle") ∧
  (∀ sig, parseMethodDescriptor y.desc = some sig → n = sig.parameters.length) ∧ (Cond.methodLink own index y).before args s = true ∧ (Cond.static y).before args s = true
theorem vx_cwSW {own : String} {index maxL mc ms : Nat} {y : MethodName} {bytes : ByteArray} {ret : Option FieldType} {hh : List (Nat × Nat × Nat × Nat)} {Ts ws ws' : List Cond} {rm : Room} (n : Nat) (ht : ∀ w ∈ Ts, w.before args s = true) (hT : GoodIn Ts (va_wsS own index y ws)) (hw : ws = Cond.codeWith y bytes maxL ret hh :: ws') (hrc : rm.cells = mc) (hrs : rm.slots = ms)
    (hd : y.cls ≠ "java/lang/invoke/MethodHandle" ∧ y.cls ≠ "java/lang/invoke/VarHandle" ∧ (parseMethodDescriptor y.desc).map (fun d => d.parameters.length) = some n) (hR : rm.frames + 1 ≤ R.frames ∧ 8 + (maxL + 11) + rm.locals ≤ R.locals) :
    vx_CSW R s args own index y bytes maxL ret hh ws rm mc ms n := by
  have ok : ∀ w ∈ va_wsS own index y ws, w.before args s = true := fun w h => ht w (hT w h).1
  have hG : GoodIn Ts ws := fun w h => hT w (by unfold va_wsS; exact List.mem_append_right _ h)
  have hc : Cond.codeWith y bytes maxL ret hh ∈ ws := by rw [hw]; exact List.mem_cons_self
  refine ⟨⟨hrc, hrs, hR.1, hR.2, pay_in ht hG, hc⟩, ht _ (hG _ hc).1, ok _ (by simp [va_wsS]), ⟨hd.1, hd.2.1⟩, fun sig h => ?_, ok _ (by simp [va_wsS]), ok _ (by simp [va_wsS])⟩
  have h2 := hd.2.2
  rw [h] at h2
  exact (Option.some.inj h2).symm
theorem vx_callSW (X : Stand p l e R s m args below meth c T locs cells slots) (hexec : p.tables.exec = Jvm.exec) {own : String} {index : Nat} {y : MethodName} {bytes : ByteArray} {maxL : Nat} {ret : Option FieldType} {hh : List (Nat × Nat × Nat × Nat)}
    (hown : s.vm.findClass own = some m.cls) (hlink : (Cond.methodLink own index y).before args s = true) (hstat : (Cond.static y).before args s = true) (hinit : (Cond.initialized y.cls).before args s = true)
    (hcode : (Cond.codeWith y bytes maxL ret hh).before args s = true) (hy : y.cls ≠ "java/lang/invoke/MethodHandle" ∧ y.cls ≠ "java/lang/invoke/VarHandle")
    {W9 : Nat} {Pre : Pt → Array Value → Prop} {Post : Pt → Array Value → Option Value → Pt → Prop} (hK : Back l R p e below s args y 3 W9 Pre Post)
    {g : JFrame} (hg : g.method = m) (hsize : g.locals.size = c.maxLocals) {argsL rest : List Value} (hlen : ∀ sig, parseMethodDescriptor y.desc = some sig → argsL.length = sig.parameters.length)
    (hstack : g.stack = argsL.reverse ++ rest) (hW : 2 * g.monitorRoom + (rest.map fun v => v.category).sum ≤ W9) (hdg : decode c.code g.pc = .ok (.invokestatic index, 3))
    (hpre : ∀ vm₁, s.WarmedH vm₁ → Pre ⟨T.setVm vm₁, locs, cells, slots⟩ argsL.toArray) :
    ∃ (v : Option Value) (vm₁ : Vm) (B : Pt), s.WarmedH vm₁ ∧ Stand p l e R s m args below meth c B.U B.locs B.cells B.slots ∧ Post ⟨T.setVm vm₁, locs, cells, slots⟩ argsL.toArray v B ∧
      ∀ target, Steps p.tables e below (B.U.setTop { g with pc := g.pc + 3, stack := v.toList ++ rest }) target → Steps p.tables e below (T.setTop g) target := by
  obtain ⟨mk, methM, cM, hnamed, hmethM, -, -, -, -, -, -, hsigM⟩ := Cond.codeWith_spec hcode
  have hstatic : methM.isStatic = true := Cond.static_spec hnamed hmethM hstat
  obtain ⟨kP, hkP, -⟩ := className_of_methodNamed hnamed
  have hinitP : kP.init = .initialized := Cond.initialized_spec (findClass_of_methodNamed hnamed) hkP hinit
  obtain ⟨vm₁, X₁, hstep₁⟩ := X.invokestatic hexec hown hlink hnamed hmethM hstatic hkP hinitP hy (g := g) hg (argsL := argsL) (rest := rest) (hlen _ hsigM) hstack hdg
  obtain ⟨v, B, X', hpost, hsteps⟩ := hK m meth c ⟨T.setVm vm₁, locs, cells, slots⟩ { g with stack := rest } (.invokestatic index) mk argsL.toArray X₁ hg hsize hdg hW (X₁.named hnamed) (hpre vm₁ X₁.warmed)
  exact ⟨v, vm₁, B, X₁.warmed, X', hpost, fun target h => hstep₁ _ fun acts => by rw [doInvoke_state]; exact hsteps.trans h⟩
theorem vx_runSW {y : MethodName} {bytes cc : ByteArray} {maxL nL mc ms n index : Nat} {ret : Option FieldType} {hh : List (Nat × Nat × Nat × Nat)} {ws : List Cond} {rm : Room} {Pc : Array Value → State → Prop} {Qc : Array Value → State → Outcome → State → Prop} {free : Addr → Prop} {Ts : List Cond} {own : String} {As rest : List Value} {g : JFrame}
    (S : CallFix p m c cc nL s args Ts own) (hM : Met l y ws rm Pc Qc mc ms free) (cw : vx_CSW R s args own index y bytes maxL ret hh ws rm mc ms n) (hp : PreS s H Pc As)
    (hg : g.method = m) (hn : As.length = n) (hsize : g.locals.size = nL) (hstack : g.stack = As.reverse ++ rest) (hW : 2 * g.monitorRoom + (rest.map fun v => v.category).sum ≤ 8) (hdg : decode cc g.pc = .ok (.invokestatic index, 3)) (hf : cells + mc ≤ R.cells ∧ slots + ms ≤ R.slots) :
    va_Run p l e R s m args below meth c H locs cells slots mc ms g rest (Qc As.toArray) (free) := by
  obtain ⟨⟨hrc, hrs, hfr, hlo, hws, hcw⟩, hcode, hini, hy, hlen, hl, hstt⟩ := cw
  have hK : Back l R p e below s args y 3 8 (PreOf R mc ms Pc) (PostOf Qc mc ms free) := va_backW (hh := hh) (bytes := bytes) (maxL := maxL) (ret := ret) hM hp.1 hrc hrs hfr hlo hws hcw (fun a' U hW => word_at hW (Or.inl (by first | rfl | simp [Cond.onTables, Cond.keeps, Cond.steady])) hini)
  obtain ⟨hx, hb, hml, ho, -⟩ := S
  intro T hT X
  obtain ⟨v, vm₁, ⟨U', l2, c2, s2⟩, hW₁, X', ⟨g', mk, t, L, e1, e2, hq, h1, hL, h2, h3⟩, st⟩ := vx_callSW X hx (hh := hh) (bytes := bytes) (maxL := maxL) (ret := ret) ho hl hstt hini hcode hy hK hg (hsize.trans hml.symm) (argsL := As) (rest := rest) (fun sig h => hn.trans (hlen sig h)) hstack hW (by rw [hb]; exact hdg)
    (fun vm₁ hW₁ => ⟨hf.1, hf.2, hp.2 (T.setVm vm₁) hT hW₁⟩)
  dsimp only [Pt.U, Pt.locs, Pt.cells, Pt.slots] at X' e1 e2 h1 h2 h3 st
  subst h1; subst h2; subst h3
  exact ⟨v, (T.setVm vm₁).calling g' mk As.toArray, t, U', L, hT, X', hL, e1, e2, hq, st⟩
/-- not caught here, past rows that name other classes: it goes on to the caller -/
theorem vx_outP {p : Program} {l : Launch} {e : Env} {R : Room} {s : State} {m : MethodId} {args : Array Value} {below : List Frame} {meth : Method} {c : Code} {H : Heap} {locs : List Loc} {cells slots : Nat} {free : Addr → Prop} {ls : Array Slot} {rest : List Value} {Qc : Array Value → State → Outcome → State → Prop} {XC : String → State → State → Prop}
    {pc : Nat} {own E : String} {ce : Cell} {q : Addr} {mc ms : Nat} (hown : s.vm.findClass own = some m.cls) (hlocks : meth.locks = false)
    (hpass : ∀ z ∈ c.exceptionTable.toList, covers z pc = false ∨ (z.catchType ≠ 0 ∧ ∃ nm : String, (Cond.classLink own z.catchType nm).before args s = true ∧ va_Nc E nm s)) (hcell : H[q]? = some ce) (hv : ce.vm = .none) (hcl : s.vm.findClass E = some ce.cls)
    (hx : ∀ t : State, t.heap = H → s.vm.Alike t.vm → XC E s t) (hf : ∀ z ∈ locs, free z.base) (hc : cells ≤ mc) (hs : slots ≤ ms) :
    vx_W p l e R s m args below meth c H locs cells slots (vx_MQ below Qc XC args s mc ms free) (F0 m pc ls rest) q := by
  intro T hT X
  have hpl : e.platform.magicAccessors = ({} : Platform).magicAccessors := by rw [X.admits.platform]
  obtain ⟨vm', hW', X', st⟩ := X.outThrough hlocks q (g := F0 m pc ls rest) rfl rfl rfl (cell := ce) (by rw [hT]; exact hcell) (by rw [hv]; rfl)
    (by obtain ⟨k9, h9, -⟩ := Vm.findClass_spec hcl; exact ⟨k9, h9⟩) (fun z hz => by
      rcases hpass z hz with h | ⟨hz0, nm, hl1, hn1⟩
      · exact Or.inl h
      · obtain ⟨c6, hc6, hcl6⟩ := Cond.classLink_spec hown hl1 e.platform hpl
        obtain ⟨a8, b8, h1, h2, h3⟩ := hn1
        cases Option.some.inj (h1.symm.trans hcl)
        cases Option.some.inj (h2.symm.trans hc6)
        exact Or.inr ⟨hz0, _, hcl6, h3⟩)
  obtain ⟨g₀, hfr⟩ := X'.frames_eq
  have hcell9 : ((T.setVm vm').setFrames (.throwing q :: below)).heap[q]? = some ce := by
    show T.heap[q]? = some ce
    rw [hT]; exact hcell
  have hend : Ended ((T.setVm vm').setFrames (.throwing q :: below)) below (.threw q) := State.frames_setFrames _ (State.cur_lt_of_frames hfr)
  refine ⟨(T.setVm vm').setFrames (.throwing q :: below), ?_, .threw q, X'.here.running, hend, Or.inr ⟨q, rfl, E, ce, locs, hx _ hT (X'.ends _).1.alike, hcell9, hv, hcl, (X'.ends _).1, (X'.ends _).2.mono hc hs, hf⟩⟩
  rw [X.pushThrowing_eq]
  exact st
/-- a thing of a world lies in the heap -/
theorem vx_lt {D : va_G} {cl : List vw_C} {ws : va_W} {H1 : Heap} (h : va_P D cl ws H1) {k : Nat} {q : Nat × va_E} (hk : ws[k]? = some q) : q.1 < H1.size := (h k q hk).lt
end VXS
/-! ===== END ===== -/
/-! ===== BEGIN methods with a table of their own: called by a name, returning or throwing ===== -/
section VXH
/-! vx_backW, vx_callVX, vx_callSX, vx_callVW, vx_runVW, vx_runVX, vx_runSX, vx_ofWH follow the same proofs as their sisters above (Free/Laws.lean, Shelf42/LK1.lean); vx_outP calls Shelf42/NT130.lean (outThrough). -/
section
variable {l : Launch} {R : Room} {p : Program} {e : Env} {below : List Frame} {s : State} {sargs : Array Value} {y : MethodName} {len W9 : Nat}
theorem vx_backW {ws : List Cond} {rm : Room} {Pc : Array Value → State → Prop} {Qc : Array Value → State → Outcome → State → Prop} {XC : String → State → State → Prop} {mc ms : Nat} {free : Addr → Prop} {bytes : ByteArray} {maxL : Nat} {ret : Option FieldType} {hh : List (Nat × Nat × Nat × Nat)}
    (hM : vx_Met l y ws rm Pc Qc XC mc ms free) (hblind : FrameBlind Pc) (hrc : rm.cells = mc) (hrs : rm.slots = ms)
    (hframes : rm.frames + 1 ≤ R.frames) (hlocals : W9 + (maxL + 11) + rm.locals ≤ R.locals)
    (hws : ∀ w ∈ ws, ∀ a' U, s.WarmedH U.vm → w.before a' U = true) (hcode : Cond.codeWith y bytes maxL ret hh ∈ ws) (hinit : ∀ a' U, s.WarmedH U.vm → (Cond.initialized y.cls).before a' U = true) :
    vx_Back l R p e below s sargs y len W9 (PreOf R mc ms Pc) (PostOf Qc mc ms free) (vx_Post XC mc ms free) := by
  intro m meth c A g ig mk a X hg hsize hdg hW hn hp
  have h1 : (headSpec ws rm).pre.before a A.U = true := atoms_intro fun w hw => hws w hw _ _ X.warmed
  have h2 : (Cond.codeWith y bytes maxL ret hh).before a A.U = true := hws _ hcode _ _ X.warmed
  have h3 : (Cond.initialized y.cls).before a A.U = true := hinit _ _ X.warmed
  have h4 : A.cells + (headSpec ws rm).room.cells ≤ R.cells := by rw [show (headSpec ws rm).room.cells = mc from hrc]; exact hp.1
  have h5 : A.slots + (headSpec ws rm).room.slots ≤ R.slots := by rw [show (headSpec ws rm).room.slots = ms from hrs]; exact hp.2.1
  have hPc : Pc a (A.U.calling g mk a) := hblind _ _ _ _ hp.2.2
  obtain ⟨U, Ls, c0, s0⟩ := A
  dsimp only [Pt.U, Pt.locs, Pt.cells, Pt.slots] at h1 h2 h3 h4 h5 X hn hPc ⊢
  obtain ⟨m9, methY, cY, hn9, hmY, hcY, -, hlY, -⟩ := Cond.codeWith_spec h2
  cases Option.some.inj (hn9.symm.trans hn)
  obtain ⟨kY, hkY, -⟩ := className_of_methodNamed hn
  have hinitY : kY.init = .initialized := Cond.initialized_spec (findClass_of_methodNamed hn) hkY h3
  have h : At U g.method c below := by rw [hg]; exact X.here
  have hlocals9 : W9 + (maxL + 11) + (headSpec ws rm).room.locals ≤ R.locals := hlocals
  have happ : (headSpec ws rm).appliesLoose y e.platform (U.calling g mk a) = true :=
    Spec.appliesLoose_calling (g := g) h hdg hn hkY hinitY
      (X.room_calling (g := g) (R' := (headSpec ws rm).room) hsize hmY hcY hframes (by rw [hlY]; omega) h4 h5) h1
  obtain ⟨mid, hmid⟩ := h.above
  have hfr : (U.setTop g).frames = (.java g :: mid) ++ below := by rw [State.frames_setTop' g h.top, hmid]; rfl
  obtain ⟨o, s₂, hsteps, -, hend, hq⟩ := Steps.callFree hM p X.admits X.cas X.clock (acts := []) hfr happ hPc trivial
  have hq' : vx_Q Qc XC mc ms free a (U.calling g mk a) o s₂ := hq
  rw [State.frames_setTop' g h.top] at hend
  obtain ⟨g₀, hg0⟩ := Option.isSome_iff_exists.mp h.top
  obtain ⟨r, hr⟩ := State.topJava?_eq_some.mp hg0
  have hr' : (({ U with heap := s₂.heap, slotsUsed := s₂.slotsUsed } : State).setVm s₂.vm).frames = .java g₀ :: r := hr
  rcases hq' with ⟨hqc, L, hfe, hL⟩ | ⟨q, rfl, E, ce, L, hx, hce, hcv, hcl, hW₂, hsm, hL⟩
  · obtain ⟨⟨v, rfl⟩, hW₂, e2, q2, q3, q4, q5, q6⟩ := id hfe
    have e3 : s₂ = ({ (U.calling g mk a).setFrames s₂.frames with heap := s₂.heap, slotsUsed := s₂.slotsUsed } : State).setVm s₂.vm := by
      have : s₂ = ({ s₂ with vm := (U.calling g mk a).vm } : State).setVm s₂.vm := rfl
      rw [e2] at this
      exact this
    obtain ⟨c₂, i₂, len₂, hc₂, hd₂, hf₂⟩ := hend
    have hW' : U.WarmedH s₂.vm := hW₂
    have hcc : c₂ = c := by
      have h1 : s₂.code? g.method = U.code? g.method := by
        rw [State.code?_eq, State.code?_eq, hW'.alike.method?]
      exact Option.some.inj (hc₂.symm.trans (h1.trans h.code))
    subst hcc
    have hlen : len₂ = len := by rw [hdg] at hd₂; cases hd₂; rfl
    subst hlen
    have hs₂ : s₂ = (({ U with heap := s₂.heap, slotsUsed := s₂.slotsUsed } : State).setVm s₂.vm).setTop { g with pc := g.pc + len₂, stack := v.toList ++ g.stack } := by
      refine e3.trans ?_
      rw [hf₂, State.calling_eq h.top, State.setFrames_setFrames, State.setTop_of_frames _ hr', hr]
      rfl
    have hsame : U.sameButNew ({ U with heap := s₂.heap, slotsUsed := s₂.slotsUsed } : State) L mc ms := by
      refine ⟨?_, q2, q3, q4, q5, q6⟩
      obtain ⟨t, ht, -⟩ := State.frames_cons hr
      show ({ U with heap := s₂.heap, slotsUsed := s₂.slotsUsed } : State) = { U.setFrames U.frames with heap := s₂.heap, slotsUsed := s₂.slotsUsed }
      rw [State.setFrames_self ht]
    subst hg
    refine Or.inl ⟨v, ⟨(({ U with heap := s₂.heap, slotsUsed := s₂.slotsUsed } : State).setVm s₂.vm), Ls ++ L, c0 + mc, s0 + ms⟩,
      ⟨X.admits, X.cas, X.clock, X.frames, X.room, X.hears, X.method, X.code, (X.here.setHeapUsed s₂.heap s₂.slotsUsed).setVm hW'.alike, X.tail, State.WarmedH.trans X.warmed hW', X.limits, X.bytes, X.same.trans (hsame.setVm s.vm)⟩,
      ⟨g, mk, s₂, L, rfl, rfl, hqc, rfl, hL, rfl, rfl⟩, ?_⟩
    show Steps p.tables e below _ ((({ U with heap := s₂.heap, slotsUsed := s₂.slotsUsed } : State).setVm s₂.vm).setTop { g with pc := g.pc + len₂, stack := v.toList ++ g.stack })
    rw [← hs₂]
    exact hsteps
  · obtain ⟨e2, q2, q3, q4, q5, q6⟩ := id hsm
    have e3 : s₂ = ({ (U.calling g mk a).setFrames s₂.frames with heap := s₂.heap, slotsUsed := s₂.slotsUsed } : State).setVm s₂.vm := by
      have : s₂ = ({ s₂ with vm := (U.calling g mk a).vm } : State).setVm s₂.vm := rfl
      rw [e2] at this
      exact this
    have hf₂ : s₂.frames = .throwing q :: .java g :: U.frames.tail := hend
    have hW' : U.WarmedH s₂.vm := hW₂
    have hs₂ : s₂ = ((({ U with heap := s₂.heap, slotsUsed := s₂.slotsUsed } : State).setVm s₂.vm).setTop g).pushFrame (.throwing q) := by
      refine e3.trans ?_
      rw [hf₂, State.calling_eq h.top, State.setFrames_setFrames, State.pushFrame, State.frames_setTop _ hr', State.setTop_of_frames _ hr', State.setFrames_setFrames, hr]
      rfl
    have hsame : U.sameButNew ({ U with heap := s₂.heap, slotsUsed := s₂.slotsUsed } : State) L mc ms := by
      refine ⟨?_, q2, q3, q4, q5, q6⟩
      obtain ⟨t, ht, -⟩ := State.frames_cons hr
      show ({ U with heap := s₂.heap, slotsUsed := s₂.slotsUsed } : State) = { U.setFrames U.frames with heap := s₂.heap, slotsUsed := s₂.slotsUsed }
      rw [State.setFrames_self ht]
    subst hg
    refine Or.inr ⟨q, ⟨(({ U with heap := s₂.heap, slotsUsed := s₂.slotsUsed } : State).setVm s₂.vm), Ls ++ L, c0 + mc, s0 + ms⟩,
      ⟨X.admits, X.cas, X.clock, X.frames, X.room, X.hears, X.method, X.code, (X.here.setHeapUsed s₂.heap s₂.slotsUsed).setVm hW'.alike, X.tail, State.WarmedH.trans X.warmed hW', X.limits, X.bytes, X.same.trans (hsame.setVm s.vm)⟩,
      ⟨g, mk, s₂, L, E, ce, rfl, rfl, hx, hce, hcv, hcl, rfl, hL, rfl, rfl⟩, ?_⟩
    show Steps p.tables e below _ (((({ U with heap := s₂.heap, slotsUsed := s₂.slotsUsed } : State).setVm s₂.vm).setTop g).pushFrame (.throwing q))
    rw [← hs₂]
    exact hsteps
end
variable {p : Program} {l : Launch} {e : Env} {R : Room} {s : State} {m : MethodId} {args : Array Value} {below : List Frame} {meth : Method} {c : Code} {T : State} {H : Heap} {locs : List Loc} {cells slots : Nat}
theorem vx_callVX (X : Stand p l e R s m args below meth c T locs cells slots) (hexec : p.tables.exec = Jvm.exec) {own C : String} {index : Nat} {y : MethodName} {bytes : ByteArray} {maxL : Nat} {ret : Option FieldType} {hh : List (Nat × Nat × Nat × Nat)}
    (hown : s.vm.findClass own = some m.cls) (hlink : (Cond.methodLink own index y).before args s = true) (hinst : (Cond.instanceMethod y).before args s = true) (hsel : (Cond.selects C y y).before args s = true)
    (hcode : (Cond.codeWith y bytes maxL ret hh).before args s = true) (hy : y.cls ≠ "java/lang/invoke/MethodHandle" ∧ y.cls ≠ "java/lang/invoke/VarHandle")
    {W9 : Nat} {Pre : Pt → Array Value → Prop} {Post : Pt → Array Value → Option Value → Pt → Prop} {PostX : Pt → Array Value → Addr → Pt → Prop} (hK : vx_Back l R p e below s args y 3 W9 Pre Post PostX)
    {b : Addr} {cellB : Cell} (hcell : T.heap[b]? = some cellB) (hobj : cellB.vm.isStatics = false) (hcls : s.vm.findClass C = some cellB.cls)
    {g : JFrame} (hg : g.method = m) (hsize : g.locals.size = c.maxLocals) {argsL rest : List Value} (hlen : ∀ sig, parseMethodDescriptor y.desc = some sig → argsL.length = sig.parameters.length)
    (hstack : g.stack = argsL.reverse ++ .ref b :: rest) (hW : 2 * g.monitorRoom + (rest.map fun v => v.category).sum ≤ W9) (hdg : decode c.code g.pc = .ok (.invokevirtual index, 3))
    (hpre : ∀ vm₁, s.WarmedH vm₁ → Pre ⟨T.setVm vm₁, locs, cells, slots⟩ (Value.ref b :: argsL).toArray) :
    (∃ (v : Option Value) (vm₁ : Vm) (B : Pt), s.WarmedH vm₁ ∧ Stand p l e R s m args below meth c B.U B.locs B.cells B.slots ∧ Post ⟨T.setVm vm₁, locs, cells, slots⟩ (Value.ref b :: argsL).toArray v B ∧
      ∀ target, Steps p.tables e below (B.U.setTop { g with pc := g.pc + 3, stack := v.toList ++ rest }) target → Steps p.tables e below (T.setTop g) target) ∨
    (∃ (q : Addr) (vm₁ : Vm) (B : Pt), s.WarmedH vm₁ ∧ Stand p l e R s m args below meth c B.U B.locs B.cells B.slots ∧ PostX ⟨T.setVm vm₁, locs, cells, slots⟩ (Value.ref b :: argsL).toArray q B ∧
      Steps p.tables e below (T.setTop g) ((B.U.setTop { g with stack := rest }).pushFrame (.throwing q))) := by
  obtain ⟨mk, methM, hnamed, hmethM, hstM, habM⟩ := Cond.instanceMethod_spec hinst
  obtain ⟨m8, methM', cM, hn8, hmethM', -, -, -, -, -, -, hsigM⟩ := Cond.codeWith_spec hcode
  cases Option.some.inj (hn8.symm.trans hnamed)
  cases hmethM.symm.trans hmethM'
  obtain ⟨c2, r2, m2, q1, q2, q3, q4, kP, hkP, hkPi⟩ := Cond.selects_spec hsel
  cases hcls.symm.trans q1
  cases (State.methodFound?_of_named hnamed hy).symm.trans q2
  cases hnamed.symm.trans q3
  have hselP : selectMethod e.platform s.vm cellB.cls mk = .method mk := by rw [Launch.admits_selectMethod X.admits]; exact q4
  obtain ⟨vm₁, X₁, hstep₁⟩ := X.invokevirtual hexec hown hlink hnamed hmethM hstM hkP hkPi hy (a := b) (cell := cellB) hcell
    (fun z h => by rw [h] at hobj; cases hobj) hselP hmethM habM hkP hkPi (g := g) hg (argsL := argsL) (rest := rest) (hlen _ hsigM) hstack hdg
  rcases hK m meth c ⟨T.setVm vm₁, locs, cells, slots⟩ { g with stack := rest } (.invokevirtual index) mk (Value.ref b :: argsL).toArray X₁ hg hsize hdg hW (X₁.named hnamed) (hpre vm₁ X₁.warmed) with ⟨v, B, X', hpost, hsteps⟩ | ⟨q, B, X', hpost, hsteps⟩
  · exact Or.inl ⟨v, vm₁, B, X₁.warmed, X', hpost, fun target h => hstep₁ _ fun acts => by rw [doInvoke_state]; exact hsteps.trans h⟩
  · exact Or.inr ⟨q, vm₁, B, X₁.warmed, X', hpost, hstep₁ _ fun acts => by rw [doInvoke_state]; exact hsteps⟩
theorem vx_callSX (X : Stand p l e R s m args below meth c T locs cells slots) (hexec : p.tables.exec = Jvm.exec) {own : String} {index : Nat} {y : MethodName} {bytes : ByteArray} {maxL : Nat} {ret : Option FieldType} {hh : List (Nat × Nat × Nat × Nat)}
    (hown : s.vm.findClass own = some m.cls) (hlink : (Cond.methodLink own index y).before args s = true) (hstat : (Cond.static y).before args s = true) (hinit : (Cond.initialized y.cls).before args s = true)
    (hcode : (Cond.codeWith y bytes maxL ret hh).before args s = true) (hy : y.cls ≠ "java/lang/invoke/MethodHandle" ∧ y.cls ≠ "java/lang/invoke/VarHandle")
    {W9 : Nat} {Pre : Pt → Array Value → Prop} {Post : Pt → Array Value → Option Value → Pt → Prop} {PostX : Pt → Array Value → Addr → Pt → Prop} (hK : vx_Back l R p e below s args y 3 W9 Pre Post PostX)
    {g : JFrame} (hg : g.method = m) (hsize : g.locals.size = c.maxLocals) {argsL rest : List Value} (hlen : ∀ sig, parseMethodDescriptor y.desc = some sig → argsL.length = sig.parameters.length)
    (hstack : g.stack = argsL.reverse ++ rest) (hW : 2 * g.monitorRoom + (rest.map fun v => v.category).sum ≤ W9) (hdg : decode c.code g.pc = .ok (.invokestatic index, 3))
    (hpre : ∀ vm₁, s.WarmedH vm₁ → Pre ⟨T.setVm vm₁, locs, cells, slots⟩ argsL.toArray) :
    (∃ (v : Option Value) (vm₁ : Vm) (B : Pt), s.WarmedH vm₁ ∧ Stand p l e R s m args below meth c B.U B.locs B.cells B.slots ∧ Post ⟨T.setVm vm₁, locs, cells, slots⟩ argsL.toArray v B ∧
      ∀ target, Steps p.tables e below (B.U.setTop { g with pc := g.pc + 3, stack := v.toList ++ rest }) target → Steps p.tables e below (T.setTop g) target) ∨
    (∃ (q : Addr) (vm₁ : Vm) (B : Pt), s.WarmedH vm₁ ∧ Stand p l e R s m args below meth c B.U B.locs B.cells B.slots ∧ PostX ⟨T.setVm vm₁, locs, cells, slots⟩ argsL.toArray q B ∧
      Steps p.tables e below (T.setTop g) ((B.U.setTop { g with stack := rest }).pushFrame (.throwing q))) := by
  obtain ⟨mk, methM, cM, hnamed, hmethM, -, -, -, -, -, -, hsigM⟩ := Cond.codeWith_spec hcode
  have hstatic : methM.isStatic = true := Cond.static_spec hnamed hmethM hstat
  obtain ⟨kP, hkP, -⟩ := className_of_methodNamed hnamed
  have hinitP : kP.init = .initialized := Cond.initialized_spec (findClass_of_methodNamed hnamed) hkP hinit
  obtain ⟨vm₁, X₁, hstep₁⟩ := X.invokestatic hexec hown hlink hnamed hmethM hstatic hkP hinitP hy (g := g) hg (argsL := argsL) (rest := rest) (hlen _ hsigM) hstack hdg
  rcases hK m meth c ⟨T.setVm vm₁, locs, cells, slots⟩ { g with stack := rest } (.invokestatic index) mk argsL.toArray X₁ hg hsize hdg hW (X₁.named hnamed) (hpre vm₁ X₁.warmed) with ⟨v, B, X', hpost, hsteps⟩ | ⟨q, B, X', hpost, hsteps⟩
  · exact Or.inl ⟨v, vm₁, B, X₁.warmed, X', hpost, fun target h => hstep₁ _ fun acts => by rw [doInvoke_state]; exact hsteps.trans h⟩
  · exact Or.inr ⟨q, vm₁, B, X₁.warmed, X', hpost, hstep₁ _ fun acts => by rw [doInvoke_state]; exact hsteps⟩
theorem vx_callVW (X : Stand p l e R s m args below meth c T locs cells slots) (hexec : p.tables.exec = Jvm.exec) {own C : String} {index : Nat} {y : MethodName} {bytes : ByteArray} {maxL : Nat} {ret : Option FieldType} {hh : List (Nat × Nat × Nat × Nat)}
    (hown : s.vm.findClass own = some m.cls) (hlink : (Cond.methodLink own index y).before args s = true) (hinst : (Cond.instanceMethod y).before args s = true) (hsel : (Cond.selects C y y).before args s = true)
    (hcode : (Cond.codeWith y bytes maxL ret hh).before args s = true) (hy : y.cls ≠ "java/lang/invoke/MethodHandle" ∧ y.cls ≠ "java/lang/invoke/VarHandle")
    {W9 : Nat} {Pre : Pt → Array Value → Prop} {Post : Pt → Array Value → Option Value → Pt → Prop} (hK : Back l R p e below s args y 3 W9 Pre Post)
    {b : Addr} {cellB : Cell} (hcell : T.heap[b]? = some cellB) (hobj : cellB.vm.isStatics = false) (hcls : s.vm.findClass C = some cellB.cls)
    {g : JFrame} (hg : g.method = m) (hsize : g.locals.size = c.maxLocals) {argsL rest : List Value} (hlen : ∀ sig, parseMethodDescriptor y.desc = some sig → argsL.length = sig.parameters.length)
    (hstack : g.stack = argsL.reverse ++ .ref b :: rest) (hW : 2 * g.monitorRoom + (rest.map fun v => v.category).sum ≤ W9) (hdg : decode c.code g.pc = .ok (.invokevirtual index, 3))
    (hpre : ∀ vm₁, s.WarmedH vm₁ → Pre ⟨T.setVm vm₁, locs, cells, slots⟩ (Value.ref b :: argsL).toArray) :
    ∃ (v : Option Value) (vm₁ : Vm) (B : Pt), s.WarmedH vm₁ ∧ Stand p l e R s m args below meth c B.U B.locs B.cells B.slots ∧ Post ⟨T.setVm vm₁, locs, cells, slots⟩ (Value.ref b :: argsL).toArray v B ∧
      ∀ target, Steps p.tables e below (B.U.setTop { g with pc := g.pc + 3, stack := v.toList ++ rest }) target → Steps p.tables e below (T.setTop g) target := by
  obtain ⟨mk, methM, hnamed, hmethM, hstM, habM⟩ := Cond.instanceMethod_spec hinst
  obtain ⟨m8, methM', cM, hn8, hmethM', -, -, -, -, -, -, hsigM⟩ := Cond.codeWith_spec hcode
  cases Option.some.inj (hn8.symm.trans hnamed)
  cases hmethM.symm.trans hmethM'
  obtain ⟨c2, r2, m2, q1, q2, q3, q4, kP, hkP, hkPi⟩ := Cond.selects_spec hsel
  cases hcls.symm.trans q1
  cases (State.methodFound?_of_named hnamed hy).symm.trans q2
  cases hnamed.symm.trans q3
  have hselP : selectMethod e.platform s.vm cellB.cls mk = .method mk := by rw [Launch.admits_selectMethod X.admits]; exact q4
  obtain ⟨vm₁, X₁, hstep₁⟩ := X.invokevirtual hexec hown hlink hnamed hmethM hstM hkP hkPi hy (a := b) (cell := cellB) hcell
    (fun z h => by rw [h] at hobj; cases hobj) hselP hmethM habM hkP hkPi (g := g) hg (argsL := argsL) (rest := rest) (hlen _ hsigM) hstack hdg
  obtain ⟨v, B, X', hpost, hsteps⟩ := hK m meth c ⟨T.setVm vm₁, locs, cells, slots⟩ { g with stack := rest } (.invokevirtual index) mk (Value.ref b :: argsL).toArray X₁ hg hsize hdg hW (X₁.named hnamed) (hpre vm₁ X₁.warmed)
  exact ⟨v, vm₁, B, X₁.warmed, X', hpost, fun target h => hstep₁ _ fun acts => by rw [doInvoke_state]; exact hsteps.trans h⟩
abbrev vx_CVW (R : Room) (s : State) (args : Array Value) (own C : String) (index : Nat) (y : MethodName) (bytes : ByteArray) (maxL : Nat) (ret : Option FieldType) (hh : List (Nat × Nat × Nat × Nat)) (ws : List Cond) (rm : Room) (mc ms n : Nat) : Prop :=
  (rm.cells = mc ∧ rm.slots = ms ∧ rm.frames + 1 ≤ R.frames ∧ 8 + (maxL + 11) + rm.locals ≤ R.locals ∧ (∀ w ∈ ws, ∀ (a' : Array Value) (U : State), s.WarmedH U.vm → w.before a' U = true) ∧ Cond.codeWith y bytes maxL ret hh ∈ ws) ∧
  (Cond.codeWith y bytes maxL ret hh).before args s = true ∧ (Cond.initialized y.cls).before args s = true ∧ (y.cls ≠ "java/lang/invoke/MethodHandle" ∧ y.cls ≠ "java/lang/invoke/VarHandle") ∧
  (∀ sig, parseMethodDescriptor y.desc = some sig → n = sig.parameters.length) ∧ (Cond.methodLink own index y).before args s = true ∧ (Cond.instanceMethod y).before args s = true ∧ (Cond.selects C y y).before args s = true
theorem vx_cwVW {own C : String} {index maxL mc ms : Nat} {y : MethodName} {bytes : ByteArray} {ret : Option FieldType} {hh : List (Nat × Nat × Nat × Nat)} {Ts ws ws' : List Cond} {rm : Room} (n : Nat) (ht : ∀ w ∈ Ts, w.before args s = true) (hT : GoodIn Ts (wsV own index C y ws)) (hw : ws = Cond.codeWith y bytes maxL ret hh :: ws') (hrc : rm.cells = mc) (hrs : rm.slots = ms)
    (hd : y.cls = C ∧ y.cls ≠ "java/lang/invoke/MethodHandle" ∧ y.cls ≠ "java/lang/invoke/VarHandle" ∧ (parseMethodDescriptor y.desc).map (fun d => d.parameters.length) = some n) (hR : rm.frames + 1 ≤ R.frames ∧ 8 + (maxL + 11) + rm.locals ≤ R.locals) :
    vx_CVW R s args own C index y bytes maxL ret hh ws rm mc ms n := by
  obtain ⟨hC, hd⟩ := hd
  subst hC
  have ok : ∀ w ∈ wsV own index y.cls y ws, w.before args s = true := fun w h => ht w (hT w h).1
  have hG : GoodIn Ts ws := fun w h => hT w (by unfold wsV; exact List.mem_append_right _ h)
  have hc : Cond.codeWith y bytes maxL ret hh ∈ ws := by rw [hw]; exact List.mem_cons_self
  refine ⟨⟨hrc, hrs, hR.1, hR.2, pay_in ht hG, hc⟩, ht _ (hG _ hc).1, ok _ (by simp [wsV]), ⟨hd.1, hd.2.1⟩, fun sig h => ?_, ok _ (by simp [wsV]), ok _ (by simp [wsV]), ok _ (by simp [wsV])⟩
  have h2 := hd.2.2
  rw [h] at h2
  exact (Option.some.inj h2).symm
theorem vx_runVW {y : MethodName} {bytes cc : ByteArray} {maxL nL mc ms n index : Nat} {ret : Option FieldType} {hh : List (Nat × Nat × Nat × Nat)} {ws : List Cond} {rm : Room} {Pc : Array Value → State → Prop} {Qc : Array Value → State → Outcome → State → Prop} {free : Addr → Prop} {Ts : List Cond} {own C : String} {b : Addr} {As rest : List Value} {g : JFrame}
    (S : CallFix p m c cc nL s args Ts own) (hM : Met l y ws rm Pc Qc mc ms free) (cw : vx_CVW R s args own C index y bytes maxL ret hh ws rm mc ms n) (hp : PreV s H C b Pc As)
    (hg : g.method = m) (hn : As.length = n) (hsize : g.locals.size = nL) (hstack : g.stack = As.reverse ++ .ref b :: rest) (hW : 2 * g.monitorRoom + (rest.map fun v => v.category).sum ≤ 8) (hdg : decode cc g.pc = .ok (.invokevirtual index, 3)) (hf : cells + mc ≤ R.cells ∧ slots + ms ≤ R.slots) :
    va_Run p l e R s m args below meth c H locs cells slots mc ms g rest (Qc (Value.ref b :: As).toArray) free := by
  obtain ⟨⟨hrc, hrs, hfr, hlo, hws, hcw⟩, hcode, hini, hy, hlen, hl, hin, hse⟩ := cw
  have hK : Back l R p e below s args y 3 8 (PreOf R mc ms Pc) (PostOf Qc mc ms free) := va_backW (hh := hh) (bytes := bytes) (maxL := maxL) (ret := ret) hM hp.1 hrc hrs hfr hlo hws hcw (fun a' U hW => word_at hW (Or.inl (by first | rfl | simp [Cond.onTables, Cond.keeps, Cond.steady])) hini)
  obtain ⟨hx, hb, hml, ho, -⟩ := S
  obtain ⟨-, ⟨cellB, hcB, hoB, hclB⟩, hPc⟩ := hp
  intro T hT X
  obtain ⟨v, vm₁, ⟨U', l2, c2, s2⟩, hW₁, X', ⟨g', mk, t, L, e1, e2, hq, h1, hL, h2, h3⟩, st⟩ := vx_callVW X hx (C := C) (hh := hh) (bytes := bytes) (maxL := maxL) (ret := ret) ho hl hin hse hcode hy hK (by rw [hT]; exact hcB) hoB hclB hg (hsize.trans hml.symm) (argsL := As) (rest := rest) (fun sig h => hn.trans (hlen sig h)) hstack hW (by rw [hb]; exact hdg)
    (fun vm₁ hW₁ => ⟨hf.1, hf.2, hPc (T.setVm vm₁) hT hW₁⟩)
  dsimp only [Pt.U, Pt.locs, Pt.cells, Pt.slots] at X' e1 e2 h1 h2 h3 st
  subst h1; subst h2; subst h3
  exact ⟨v, (T.setVm vm₁).calling g' mk (Value.ref b :: As).toArray, t, U', L, hT, X', hL, e1, e2, hq, st⟩
section
variable {y : MethodName} {bytes cc : ByteArray} {maxL nL mc ms n index : Nat} {ret : Option FieldType} {ws : List Cond} {rm : Room} {Pc : Array Value → State → Prop} {Qc : Array Value → State → Outcome → State → Prop} {XC : String → State → State → Prop} {free : Addr → Prop} {Ts : List Cond} {own C : String} {b : Addr} {As rest : List Value} {g : JFrame}
theorem vx_runVX {hh : List (Nat × Nat × Nat × Nat)} (S : CallFix p m c cc nL s args Ts own) (hM : vx_Met l y ws rm Pc Qc XC mc ms free) (cw : vx_CVW R s args own C index y bytes maxL ret hh ws rm mc ms n) (hp : PreV s H C b Pc As)
    (hg : g.method = m) (hn : As.length = n) (hsize : g.locals.size = nL) (hstack : g.stack = As.reverse ++ .ref b :: rest) (hW : 2 * g.monitorRoom + (rest.map fun v => v.category).sum ≤ 8) (hdg : decode cc g.pc = .ok (.invokevirtual index, 3)) (hf : cells + mc ≤ R.cells ∧ slots + ms ≤ R.slots) :
    vx_Run p l e R s m args below meth c H locs cells slots mc ms g rest (Qc (Value.ref b :: As).toArray) XC free := by
  obtain ⟨⟨hrc, hrs, hfr, hlo, hws, hcw⟩, hcode, hini, hy, hlen, hl, hin, hse⟩ := cw
  have hK : vx_Back l R p e below s args y 3 8 (PreOf R mc ms Pc) (PostOf Qc mc ms free) (vx_Post XC mc ms free) := vx_backW (hh := hh) (bytes := bytes) (maxL := maxL) (ret := ret) hM hp.1 hrc hrs hfr hlo hws hcw (fun a' U hW => word_at hW (Or.inl (by first | rfl | simp [Cond.onTables, Cond.keeps, Cond.steady])) hini)
  obtain ⟨hx, hb, hml, ho, -⟩ := S
  obtain ⟨-, ⟨cellB, hcB, hoB, hclB⟩, hPc⟩ := hp
  intro T hT X
  rcases vx_callVX X hx (C := C) (hh := hh) (bytes := bytes) (maxL := maxL) (ret := ret) ho hl hin hse hcode hy hK (by rw [hT]; exact hcB) hoB hclB hg (hsize.trans hml.symm) (argsL := As) (rest := rest) (fun sig h => hn.trans (hlen sig h)) hstack hW (by rw [hb]; exact hdg)
    (fun vm₁ hW₁ => ⟨hf.1, hf.2, hPc (T.setVm vm₁) hT hW₁⟩) with ⟨v, vm₁, ⟨U', l2, c2, s2⟩, hW₁, X', ⟨g', mk, t, L, e1, e2, hq, h1, hL, h2, h3⟩, st⟩ | ⟨q, vm₁, ⟨U', l2, c2, s2⟩, hW₁, X', ⟨g', mk, t, L, E, ce, e1, e2, hq, hce, hcv, hcl, h1, hL, h2, h3⟩, st⟩
  · dsimp only [Pt.U, Pt.locs, Pt.cells, Pt.slots] at X' e1 e2 h1 h2 h3 st
    subst h1; subst h2; subst h3
    exact Or.inl ⟨v, (T.setVm vm₁).calling g' mk (Value.ref b :: As).toArray, t, U', L, hT, X', hL, e1, e2, hq, st⟩
  · dsimp only [Pt.U, Pt.locs, Pt.cells, Pt.slots] at X' e1 e2 h1 h2 h3 st hcl
    subst h1; subst h2; subst h3
    exact Or.inr ⟨q, (T.setVm vm₁).calling g' mk (Value.ref b :: As).toArray, t, U', L, E, ce, hT, X', hL, e1, e2, hq, hce, hcv, vx_cls hW₁ hcl, st⟩
theorem vx_runSX {hh : List (Nat × Nat × Nat × Nat)} (S : CallFix p m c cc nL s args Ts own) (hM : vx_Met l y ws rm Pc Qc XC mc ms free) (cw : vx_CSW R s args own index y bytes maxL ret hh ws rm mc ms n) (hp : PreS s H Pc As)
    (hg : g.method = m) (hn : As.length = n) (hsize : g.locals.size = nL) (hstack : g.stack = As.reverse ++ rest) (hW : 2 * g.monitorRoom + (rest.map fun v => v.category).sum ≤ 8) (hdg : decode cc g.pc = .ok (.invokestatic index, 3)) (hf : cells + mc ≤ R.cells ∧ slots + ms ≤ R.slots) :
    vx_Run p l e R s m args below meth c H locs cells slots mc ms g rest (Qc As.toArray) XC free := by
  obtain ⟨⟨hrc, hrs, hfr, hlo, hws, hcw⟩, hcode, hini, hy, hlen, hl, hstt⟩ := cw
  have hK : vx_Back l R p e below s args y 3 8 (PreOf R mc ms Pc) (PostOf Qc mc ms free) (vx_Post XC mc ms free) := vx_backW (hh := hh) (bytes := bytes) (maxL := maxL) (ret := ret) hM hp.1 hrc hrs hfr hlo hws hcw (fun a' U hW => word_at hW (Or.inl (by first | rfl | simp [Cond.onTables, Cond.keeps, Cond.steady])) hini)
  obtain ⟨hx, hb, hml, ho, -⟩ := S
  intro T hT X
  rcases vx_callSX X hx (hh := hh) (bytes := bytes) (maxL := maxL) (ret := ret) ho hl hstt hini hcode hy hK hg (hsize.trans hml.symm) (argsL := As) (rest := rest) (fun sig h => hn.trans (hlen sig h)) hstack hW (by rw [hb]; exact hdg)
    (fun vm₁ hW₁ => ⟨hf.1, hf.2, hp.2 (T.setVm vm₁) hT hW₁⟩) with ⟨v, vm₁, ⟨U', l2, c2, s2⟩, hW₁, X', ⟨g', mk, t, L, e1, e2, hq, h1, hL, h2, h3⟩, st⟩ | ⟨q, vm₁, ⟨U', l2, c2, s2⟩, hW₁, X', ⟨g', mk, t, L, E, ce, e1, e2, hq, hce, hcv, hcl, h1, hL, h2, h3⟩, st⟩
  · dsimp only [Pt.U, Pt.locs, Pt.cells, Pt.slots] at X' e1 e2 h1 h2 h3 st
    subst h1; subst h2; subst h3
    exact Or.inl ⟨v, (T.setVm vm₁).calling g' mk As.toArray, t, U', L, hT, X', hL, e1, e2, hq, st⟩
  · dsimp only [Pt.U, Pt.locs, Pt.cells, Pt.slots] at X' e1 e2 h1 h2 h3 st hcl
    subst h1; subst h2; subst h3
    exact Or.inr ⟨q, (T.setVm vm₁).calling g' mk As.toArray, t, U', L, E, ce, hT, X', hL, e1, e2, hq, hce, hcv, vx_cls hW₁ hcl, st⟩
end
end VXH
theorem vx_ofWH {l : Launch} {y : MethodName} {ws ws' : List Cond} {rm : Room} {Pc : Array Value → State → Prop} {Qc : Array Value → State → Outcome → State → Prop} {XC : String → State → State → Prop} {mc ms : Nat} {free : Addr → Prop} {cc : ByteArray} {maxL : Nat} {ret : Option FieldType} {hh : List (Nat × Nat × Nat × Nat)}
    (hy : plainName y.cls = true) (hw : ws = Cond.codeWith y cc maxL ret hh :: ws')
    (body : ∀ p e s m args below meth c s₁, BodyLoose p l y (headSpec ws rm) cc maxL ret e s m args below meth c s₁ → c.maxLocals = maxL → Pc args s →
      W p l e (headSpec ws rm).room s m args below meth c s.heap [] 0 0 (vx_MQ below Qc XC args s mc ms free) (entryFrame m args maxL)) : vx_Met l y ws rm Pc Qc XC mc ms free := by
  refine MetFree.of_bodyS (code := cc) (maxLocals := maxL) (ret := ret) hy ?_ ?_
  · intro args s m h hn
    obtain ⟨m9, meth, c, hn9, h1, h2, h3, h4, -, h5, h6, -⟩ := Cond.codeWith_spec (atoms_spec (ws := ws) h _ (by rw [hw]; exact List.mem_cons_self))
    cases hn.symm.trans hn9
    exact ⟨meth, c, h1, h2, h3, h4, h5, h6⟩
  · intro p e s m args below meth c s₁ B hml hP _
    have hh0 : s₁.heap = s.heap := by rw [B.state]; rfl
    obtain ⟨t, a1, o, b1, b2, b3⟩ := body p e s m args below meth c s₁ B hml hP s₁ hh0 (Stand.of_body B)
    exact ⟨t, o, a1, b1, b2, b3⟩
/-! ===== END ===== -/

/-! ===== BEGIN printed: names, fields, word lists, decode rows ===== -/
def RX0 : String := "ScripHollow$Miner"
def TX0 : u_T := fun k => match k with
  | 0 => ("ScripHollow$Miner", "isAlive", "Z", false)
  | 1 => ("ScripHollow$Miner", "hasHouse", "Z", false)
  | 2 => ("ScripHollow$Miner", "isForStrike", "Z", false)
  | 3 => ("ScripHollow$Miner", "kinNumber", "I", false)
  | 4 => ("ScripHollow$Miner", "coal", "I", false)
  | 5 => ("ScripHollow$Miner", "coin", "I", false)
  | 6 => ("ScripHollow$Miner", "debt", "I", false)
  | 7 => ("ScripHollow$Miner", "arrears", "I", false)
  | 8 => ("ScripHollow$Miner", "owed", "I", false)
  | 9 => ("ScripHollow$Miner", "latestPay", "I", false)
  | 10 => ("ScripHollow$Miner", "goodsHeld", "[I", true)
  | 11 => ("ScripHollow$Miner", "scripHeld", "[I", true)
  | 12 => ("ScripHollow$Miner", "scripCame", "I", false)
  | _ => ("ScripHollow$Miner", "scripWent", "I", false)
def tyX0 : Nat → FieldType := fun k => match k with
  | 0 => .boolean
  | 1 => .boolean
  | 2 => .boolean
  | 3 => .int
  | 4 => .int
  | 5 => .int
  | 6 => .int
  | 7 => .int
  | 8 => .int
  | 9 => .int
  | 10 => .array .int
  | 11 => .array .int
  | 12 => .int
  | _ => .int
abbrev wsX00 : List Cond := u_ws RX0 TX0 14
theorem nmX0 : ∀ a, a < 14 → ∀ b, b < 14 → a ≠ b → (TX0 a).2.1 ≠ (TX0 b).2.1 := by decide +kernel
theorem tyX0_ok : ∀ k, k < 14 → parseFieldDescriptor (TX0 k).2.2.1 = some (tyX0 k) := by decide +kernel
abbrev cX0_init : ByteArray := prog_2_method_1_code
def yX0_init : MethodName := ⟨RX0, "<init>", "()V"⟩
abbrev cX0_allScrip : ByteArray := prog_2_method_2_code
def yX0_allScrip : MethodName := ⟨RX0, "allScrip", "()I"⟩
abbrev cX0_means : ByteArray := prog_2_method_3_code
def yX0_means : MethodName := ⟨RX0, "means", "()I"⟩
abbrev cX0_gainScrip : ByteArray := prog_2_method_4_code
def yX0_gainScrip : MethodName := ⟨RX0, "gainScrip", "(II)V"⟩
abbrev cX0_loseScrip : ByteArray := prog_2_method_5_code
def yX0_loseScrip : MethodName := ⟨RX0, "loseScrip", "(II)I"⟩
abbrev cX0_loseLowestScrip : ByteArray := prog_2_method_6_code
def yX0_loseLowestScrip : MethodName := ⟨RX0, "loseLowestScrip", "(I)I"⟩
abbrev cX0_inherit : ByteArray := prog_2_method_7_code
def yX0_inherit : MethodName := ⟨RX0, "inherit", "(LScripHollow$Miner;Z)V"⟩
abbrev cX0_leaveAll : ByteArray := prog_2_method_8_code
def yX0_leaveAll : MethodName := ⟨RX0, "leaveAll", "()V"⟩
def RX1 : String := "ScripHollow$Slip"
def TX1 : u_T := fun k => match k with
  | 0 => ("ScripHollow$Slip", "rest", "I", false)
  | 1 => ("ScripHollow$Slip", "rentTaken", "I", false)
  | 2 => ("ScripHollow$Slip", "storeTaken", "I", false)
  | _ => ("ScripHollow$Slip", "unlawful", "I", false)
def tyX1 : Nat → FieldType := fun k => match k with
  | 0 => .int
  | 1 => .int
  | 2 => .int
  | _ => .int
abbrev wsX10 : List Cond := u_ws RX1 TX1 4
theorem nmX1 : ∀ a, a < 4 → ∀ b, b < 4 → a ≠ b → (TX1 a).2.1 ≠ (TX1 b).2.1 := by decide +kernel
theorem tyX1_ok : ∀ k, k < 4 → parseFieldDescriptor (TX1 k).2.2.1 = some (tyX1 k) := by decide +kernel
abbrev cX1_init : ByteArray := prog_3_method_1_code
def yX1_init : MethodName := ⟨RX1, "<init>", "()V"⟩
abbrev cX1_open : ByteArray := prog_3_method_2_code
def yX1_open : MethodName := ⟨RX1, "open", "(I)V"⟩
abbrev cX1_take : ByteArray := prog_3_method_3_code
def yX1_take : MethodName := ⟨RX1, "take", "(II)V"⟩
def RX2 : String := "ScripHollow"
def TX2 : u_T := fun k => match k with
  | 0 => ("ScripHollow", "miners", "Ljava/util/ArrayList;", true)
  | 1 => ("ScripHollow", "dockPercent", "I", false)
  | 2 => ("ScripHollow", "isChecked", "Z", false)
  | 3 => ("ScripHollow", "row", "I", false)
  | 4 => ("ScripHollow", "told", "[I", true)
  | 5 => ("ScripHollow", "slip", "LScripHollow$Slip;", true)
  | 6 => ("ScripHollow", "paydays", "I", false)
  | 7 => ("ScripHollow", "storePrices", "[I", true)
  | 8 => ("ScripHollow", "hillPrices", "[I", true)
  | 9 => ("ScripHollow", "mostDebt", "I", false)
  | 10 => ("ScripHollow", "tavernPercent", "I", false)
  | 11 => ("ScripHollow", "laws", "[Z", true)
  | 12 => ("ScripHollow", "isObeying", "Z", false)
  | 13 => ("ScripHollow", "breachCount", "I", false)
  | 14 => ("ScripHollow", "isStriking", "Z", false)
  | 15 => ("ScripHollow", "isClosed", "Z", false)
  | 16 => ("ScripHollow", "fund", "I", false)
  | _ => ("ScripHollow", "lines", "[I", true)
def tyX2 : Nat → FieldType := fun k => match k with
  | 0 => .object "java/util/ArrayList"
  | 1 => .int
  | 2 => .boolean
  | 3 => .int
  | 4 => .array .int
  | 5 => .object "ScripHollow$Slip"
  | 6 => .int
  | 7 => .array .int
  | 8 => .array .int
  | 9 => .int
  | 10 => .int
  | 11 => .array .boolean
  | 12 => .boolean
  | 13 => .int
  | 14 => .boolean
  | 15 => .boolean
  | 16 => .int
  | _ => .array .int
abbrev wsX20 : List Cond := u_ws RX2 TX2 18
theorem nmX2 : ∀ a, a < 18 → ∀ b, b < 18 → a ≠ b → (TX2 a).2.1 ≠ (TX2 b).2.1 := by decide +kernel
theorem tyX2_ok : ∀ k, k < 18 → parseFieldDescriptor (TX2 k).2.2.1 = some (tyX2 k) := by decide +kernel
abbrev cX2_init : ByteArray := prog_1_method_1_code
def yX2_init : MethodName := ⟨RX2, "<init>", "()V"⟩
abbrev cX2_miner : ByteArray := prog_1_method_2_code
def yX2_miner : MethodName := ⟨RX2, "miner", "()I"⟩
abbrev cX2_kin : ByteArray := prog_1_method_3_code
def yX2_kin : MethodName := ⟨RX2, "kin", "(II)I"⟩
abbrev cX2_dock : ByteArray := prog_1_method_4_code
def yX2_dock : MethodName := ⟨RX2, "dock", "(I)I"⟩
abbrev cX2_check : ByteArray := prog_1_method_5_code
def yX2_check : MethodName := ⟨RX2, "check", "(Z)Z"⟩
abbrev cX2_hew : ByteArray := prog_1_method_6_code
def yX2_hew : MethodName := ⟨RX2, "hew", "(II)I"⟩
abbrev cX2_edition : ByteArray := prog_1_method_7_code
def yX2_edition : MethodName := ⟨RX2, "edition", "(I)I"⟩
abbrev cX2_tell : ByteArray := prog_1_method_8_code
def yX2_tell : MethodName := ⟨RX2, "tell", "(II)I"⟩
abbrev cX2_payday : ByteArray := prog_1_method_9_code
def yX2_payday : MethodName := ⟨RX2, "payday", "()I"⟩
abbrev cX2_house : ByteArray := prog_1_method_10_code
def yX2_house : MethodName := ⟨RX2, "house", "(I)V"⟩
abbrev cX2_price : ByteArray := prog_1_method_11_code
def yX2_price : MethodName := ⟨RX2, "price", "(IIZ)I"⟩
abbrev cX2_raised : ByteArray := prog_1_method_12_code
def yX2_raised : MethodName := ⟨RX2, "raised", "(II)I"⟩
abbrev cX2_limit : ByteArray := prog_1_method_13_code
def yX2_limit : MethodName := ⟨RX2, "limit", "(I)I"⟩
abbrev cX2_whyNot : ByteArray := prog_1_method_14_code
def yX2_whyNot : MethodName := ⟨RX2, "whyNot", "(III)I"⟩
abbrev cX2_buy : ByteArray := prog_1_method_15_code
def yX2_buy : MethodName := ⟨RX2, "buy", "(III)I"⟩
abbrev cX2_over : ByteArray := prog_1_method_16_code
def yX2_over : MethodName := ⟨RX2, "over", "(III)I"⟩
abbrev cX2_discount : ByteArray := prog_1_method_17_code
def yX2_discount : MethodName := ⟨RX2, "discount", "(I)I"⟩
abbrev cX2_change : ByteArray := prog_1_method_18_code
def yX2_change : MethodName := ⟨RX2, "change", "(II)I"⟩
abbrev cX2_law : ByteArray := prog_1_method_19_code
def yX2_law : MethodName := ⟨RX2, "law", "(IZ)Z"⟩
abbrev cX2_obey : ByteArray := prog_1_method_20_code
def yX2_obey : MethodName := ⟨RX2, "obey", "(Z)Z"⟩
abbrev cX2_breaches : ByteArray := prog_1_method_21_code
def yX2_breaches : MethodName := ⟨RX2, "breaches", "()I"⟩
abbrev cX2_die : ByteArray := prog_1_method_22_code
def yX2_die : MethodName := ⟨RX2, "die", "(I)I"⟩
abbrev cX2_vote : ByteArray := prog_1_method_23_code
def yX2_vote : MethodName := ⟨RX2, "vote", "(IZ)Z"⟩
abbrev cX2_strike : ByteArray := prog_1_method_24_code
def yX2_strike : MethodName := ⟨RX2, "strike", "()Z"⟩
abbrev cX2_give : ByteArray := prog_1_method_25_code
def yX2_give : MethodName := ⟨RX2, "give", "(I)I"⟩
abbrev cX2_soup : ByteArray := prog_1_method_26_code
def yX2_soup : MethodName := ⟨RX2, "soup", "()I"⟩
abbrev cX2_close : ByteArray := prog_1_method_27_code
def yX2_close : MethodName := ⟨RX2, "close", "(I)I"⟩
abbrev cX2_about : ByteArray := prog_1_method_28_code
def yX2_about : MethodName := ⟨RX2, "about", "(II)I"⟩
abbrev cX2_has : ByteArray := prog_1_method_29_code
def yX2_has : MethodName := ⟨RX2, "has", "(II)I"⟩
abbrev cX2_scrip : ByteArray := prog_1_method_30_code
def yX2_scrip : MethodName := ⟨RX2, "scrip", "(II)I"⟩
abbrev cX2_scripAnew : ByteArray := prog_1_method_31_code
def yX2_scripAnew : MethodName := ⟨RX2, "scripAnew", "(I)I"⟩
abbrev cX2_baskets : ByteArray := prog_1_method_32_code
def yX2_baskets : MethodName := ⟨RX2, "baskets", "(I)I"⟩
abbrev cX2_books : ByteArray := prog_1_method_33_code
def yX2_books : MethodName := ⟨RX2, "books", "(I)I"⟩
abbrev cX2_minerAt : ByteArray := prog_1_method_34_code
def yX2_minerAt : MethodName := ⟨RX2, "minerAt", "(I)LScripHollow$Miner;"⟩
abbrev cX2_requireGoods : ByteArray := prog_1_method_35_code
def yX2_requireGoods : MethodName := ⟨RX2, "requireGoods", "(I)V"⟩
abbrev cX2_requireIndex : ByteArray := prog_1_method_36_code
def yX2_requireIndex : MethodName := ⟨RX2, "requireIndex", "(II)V"⟩
abbrev cX2_requireRange : ByteArray := prog_1_method_37_code
def yX2_requireRange : MethodName := ⟨RX2, "requireRange", "(III)V"⟩
abbrev cX2_requireAlive : ByteArray := prog_1_method_38_code
def yX2_requireAlive : MethodName := ⟨RX2, "requireAlive", "(LScripHollow$Miner;)V"⟩
abbrev cX2_isEdition : ByteArray := prog_1_method_39_code
def yX2_isEdition : MethodName := ⟨RX2, "isEdition", "(I)Z"⟩
abbrev cX2_settle : ByteArray := prog_1_method_40_code
def yX2_settle : MethodName := ⟨RX2, "settle", "(LScripHollow$Miner;)V"⟩
abbrev cX2_due : ByteArray := prog_1_method_41_code
def yX2_due : MethodName := ⟨RX2, "due", "(LScripHollow$Miner;I)I"⟩
abbrev cX2_isPassedBy : ByteArray := prog_1_method_42_code
def yX2_isPassedBy : MethodName := ⟨RX2, "isPassedBy", "(I)Z"⟩
abbrev cX2_hand : ByteArray := prog_1_method_43_code
def yX2_hand : MethodName := ⟨RX2, "hand", "(LScripHollow$Miner;I)V"⟩
abbrev cX2_breach : ByteArray := prog_1_method_44_code
def yX2_breach : MethodName := ⟨RX2, "breach", "(LScripHollow$Miner;II)V"⟩
abbrev cX2_expire : ByteArray := prog_1_method_45_code
def yX2_expire : MethodName := ⟨RX2, "expire", "(I)V"⟩
abbrev cX2_storePrice : ByteArray := prog_1_method_46_code
def yX2_storePrice : MethodName := ⟨RX2, "storePrice", "(LScripHollow$Miner;I)I"⟩
abbrev cX2_refusal : ByteArray := prog_1_method_47_code
def yX2_refusal : MethodName := ⟨RX2, "refusal", "(LScripHollow$Miner;I)I"⟩
abbrev cX2_heirOf : ByteArray := prog_1_method_48_code
def yX2_heirOf : MethodName := ⟨RX2, "heirOf", "(LScripHollow$Miner;)I"⟩
abbrev cX2_canStrike : ByteArray := prog_1_method_49_code
def yX2_canStrike : MethodName := ⟨RX2, "canStrike", "()Z"⟩
abbrev cX2_poorestBut : ByteArray := prog_1_method_50_code
def yX2_poorestBut : MethodName := ⟨RX2, "poorestBut", "(I)I"⟩
abbrev cX2_redeem : ByteArray := prog_1_method_51_code
def yX2_redeem : MethodName := ⟨RX2, "redeem", "(II)I"⟩
def RX3 : String := "ScripHollowModel"
def TX3 : u_T := fun k => match k with
  | _ => ("", "", "", false)
def tyX3 : Nat → FieldType := fun k => match k with
  | _ => .int
abbrev wsX30 : List Cond := u_ws RX3 TX3 0
theorem nmX3 : ∀ a, a < 0 → ∀ b, b < 0 → a ≠ b → (TX3 a).2.1 ≠ (TX3 b).2.1 := by decide +kernel
theorem tyX3_ok : ∀ k, k < 0 → parseFieldDescriptor (TX3 k).2.2.1 = some (tyX3 k) := by decide +kernel
def RJx145de : String := "java/io/Serializable"
def TJx145de : u_T := fun k => match k with
  | _ => ("", "", "", false)
def tyJx145de : Nat → FieldType := fun k => match k with
  | _ => .int
abbrev wsJx145de0 : List Cond := u_ws RJx145de TJx145de 0
theorem nmJx145de : ∀ a, a < 0 → ∀ b, b < 0 → a ≠ b → (TJx145de a).2.1 ≠ (TJx145de b).2.1 := by decide +kernel
theorem tyJx145de_ok : ∀ k, k < 0 → parseFieldDescriptor (TJx145de k).2.2.1 = some (tyJx145de k) := by decide +kernel
def RJx8e188 : String := "java/lang/Cloneable"
def TJx8e188 : u_T := fun k => match k with
  | _ => ("", "", "", false)
def tyJx8e188 : Nat → FieldType := fun k => match k with
  | _ => .int
abbrev wsJx8e1880 : List Cond := u_ws RJx8e188 TJx8e188 0
theorem nmJx8e188 : ∀ a, a < 0 → ∀ b, b < 0 → a ≠ b → (TJx8e188 a).2.1 ≠ (TJx8e188 b).2.1 := by decide +kernel
theorem tyJx8e188_ok : ∀ k, k < 0 → parseFieldDescriptor (TJx8e188 k).2.2.1 = some (tyJx8e188 k) := by decide +kernel
def RJxab1ab : String := "java/lang/Iterable"
def TJxab1ab : u_T := fun k => match k with
  | _ => ("", "", "", false)
def tyJxab1ab : Nat → FieldType := fun k => match k with
  | _ => .int
abbrev wsJxab1ab0 : List Cond := u_ws RJxab1ab TJxab1ab 0
theorem nmJxab1ab : ∀ a, a < 0 → ∀ b, b < 0 → a ≠ b → (TJxab1ab a).2.1 ≠ (TJxab1ab b).2.1 := by decide +kernel
theorem tyJxab1ab_ok : ∀ k, k < 0 → parseFieldDescriptor (TJxab1ab k).2.2.1 = some (tyJxab1ab k) := by decide +kernel
def RJ9 : String := "java/lang/Math"
def TJ9 : u_T := fun k => match k with
  | _ => ("", "", "", false)
def tyJ9 : Nat → FieldType := fun k => match k with
  | _ => .int
abbrev wsJ90 : List Cond := u_ws RJ9 TJ9 0
theorem nmJ9 : ∀ a, a < 0 → ∀ b, b < 0 → a ≠ b → (TJ9 a).2.1 ≠ (TJ9 b).2.1 := by decide +kernel
theorem tyJ9_ok : ∀ k, k < 0 → parseFieldDescriptor (TJ9 k).2.2.1 = some (tyJ9 k) := by decide +kernel
abbrev cJ9_max_7cf53 : ByteArray := prog_13_method_65_code
def yJ9_max_7cf53 : MethodName := ⟨RJ9, "max", "(II)I"⟩
abbrev cJ9_min_7cf53 : ByteArray := prog_13_method_69_code
def yJ9_min_7cf53 : MethodName := ⟨RJ9, "min", "(II)I"⟩
def RJ0 : String := "java/lang/String"
def TJ0 : u_T := fun k => match k with
  | _ => ("", "", "", false)
def tyJ0 : Nat → FieldType := fun k => match k with
  | _ => .int
abbrev wsJ00 : List Cond := u_ws RJ0 TJ0 0
theorem nmJ0 : ∀ a, a < 0 → ∀ b, b < 0 → a ≠ b → (TJ0 a).2.1 ≠ (TJ0 b).2.1 := by decide +kernel
theorem tyJ0_ok : ∀ k, k < 0 → parseFieldDescriptor (TJ0 k).2.2.1 = some (tyJ0 k) := by decide +kernel
def RJ10 : String := "java/lang/System"
def TJ10 : u_T := fun k => match k with
  | _ => ("", "", "", false)
def tyJ10 : Nat → FieldType := fun k => match k with
  | _ => .int
abbrev wsJ100 : List Cond := u_ws RJ10 TJ10 0
theorem nmJ10 : ∀ a, a < 0 → ∀ b, b < 0 → a ≠ b → (TJ10 a).2.1 ≠ (TJ10 b).2.1 := by decide +kernel
theorem tyJ10_ok : ∀ k, k < 0 → parseFieldDescriptor (TJ10 k).2.2.1 = some (tyJ10 k) := by decide +kernel
def RJxa1e45 : String := "java/util/AbstractCollection"
def TJxa1e45 : u_T := fun k => match k with
  | _ => ("", "", "", false)
def tyJxa1e45 : Nat → FieldType := fun k => match k with
  | _ => .int
abbrev wsJxa1e450 : List Cond := u_ws RJxa1e45 TJxa1e45 0
theorem nmJxa1e45 : ∀ a, a < 0 → ∀ b, b < 0 → a ≠ b → (TJxa1e45 a).2.1 ≠ (TJxa1e45 b).2.1 := by decide +kernel
theorem tyJxa1e45_ok : ∀ k, k < 0 → parseFieldDescriptor (TJxa1e45 k).2.2.1 = some (tyJxa1e45 k) := by decide +kernel
abbrev cJxa1e45_init_da8c8 : ByteArray := prog_18_method_1_code
def yJxa1e45_init_da8c8 : MethodName := ⟨RJxa1e45, "<init>", "()V"⟩
def RJxc12de : String := "java/util/AbstractList"
def TJxc12de : u_T := fun k => match k with
  | _ => ("", "", "", false)
def tyJxc12de : Nat → FieldType := fun k => match k with
  | _ => .int
abbrev wsJxc12de0 : List Cond := u_ws RJxc12de TJxc12de 0
theorem nmJxc12de : ∀ a, a < 0 → ∀ b, b < 0 → a ≠ b → (TJxc12de a).2.1 ≠ (TJxc12de b).2.1 := by decide +kernel
theorem tyJxc12de_ok : ∀ k, k < 0 → parseFieldDescriptor (TJxc12de k).2.2.1 = some (tyJxc12de k) := by decide +kernel
abbrev cJxc12de_init_da8c8 : ByteArray := prog_19_method_1_code
def yJxc12de_init_da8c8 : MethodName := ⟨RJxc12de, "<init>", "()V"⟩
def RJx4a65c : String := "java/util/ArrayList"
def TJx4a65c : u_T := fun k => match k with
  | 0 => ("java/util/AbstractList", "modCount", "I", false)
  | 1 => ("java/util/ArrayList", "elementData", "[Ljava/lang/Object;", false)
  | _ => ("java/util/ArrayList", "size", "I", false)
def tyJx4a65c : Nat → FieldType := fun k => match k with
  | 0 => .int
  | 1 => .array (.object "java/lang/Object")
  | _ => .int
abbrev wsJx4a65c0 : List Cond := u_ws RJx4a65c TJx4a65c 3
theorem nmJx4a65c : ∀ a, a < 3 → ∀ b, b < 3 → a ≠ b → (TJx4a65c a).2.1 ≠ (TJx4a65c b).2.1 := by decide +kernel
theorem tyJx4a65c_ok : ∀ k, k < 3 → parseFieldDescriptor (TJx4a65c k).2.2.1 = some (tyJx4a65c k) := by decide +kernel
abbrev cJx4a65c_init_da8c8 : ByteArray := prog_20_method_2_code
def yJx4a65c_init_da8c8 : MethodName := ⟨RJx4a65c, "<init>", "()V"⟩
abbrev cJx4a65c_grow_92f84 : ByteArray := prog_20_method_6_code
def yJx4a65c_grow_92f84 : MethodName := ⟨RJx4a65c, "grow", "(I)[Ljava/lang/Object;"⟩
abbrev cJx4a65c_grow_d5877 : ByteArray := prog_20_method_7_code
def yJx4a65c_grow_d5877 : MethodName := ⟨RJx4a65c, "grow", "()[Ljava/lang/Object;"⟩
abbrev cJx4a65c_size_8abf5 : ByteArray := prog_20_method_8_code
def yJx4a65c_size_8abf5 : MethodName := ⟨RJx4a65c, "size", "()I"⟩
abbrev cJx4a65c_elementData_915e3 : ByteArray := prog_20_method_18_code
def yJx4a65c_elementData_915e3 : MethodName := ⟨RJx4a65c, "elementData", "(I)Ljava/lang/Object;"⟩
abbrev cJx4a65c_get_915e3 : ByteArray := prog_20_method_20_code
def yJx4a65c_get_915e3 : MethodName := ⟨RJx4a65c, "get", "(I)Ljava/lang/Object;"⟩
abbrev cJx4a65c_add_72be8 : ByteArray := prog_20_method_24_code
def yJx4a65c_add_72be8 : MethodName := ⟨RJx4a65c, "add", "(Ljava/lang/Object;[Ljava/lang/Object;I)V"⟩
abbrev cJx4a65c_add_9ea2d : ByteArray := prog_20_method_25_code
def yJx4a65c_add_9ea2d : MethodName := ⟨RJx4a65c, "add", "(Ljava/lang/Object;)Z"⟩
def RJ7 : String := "java/util/Arrays"
def TJ7 : u_T := fun k => match k with
  | _ => ("", "", "", false)
def tyJ7 : Nat → FieldType := fun k => match k with
  | _ => .int
abbrev wsJ70 : List Cond := u_ws RJ7 TJ7 0
theorem nmJ7 : ∀ a, a < 0 → ∀ b, b < 0 → a ≠ b → (TJ7 a).2.1 ≠ (TJ7 b).2.1 := by decide +kernel
theorem tyJ7_ok : ∀ k, k < 0 → parseFieldDescriptor (TJ7 k).2.2.1 = some (tyJ7 k) := by decide +kernel
abbrev cJ7_copyOf_1904c : ByteArray := prog_21_method_119_code
def yJ7_copyOf_1904c : MethodName := ⟨RJ7, "copyOf", "([Ljava/lang/Object;I)[Ljava/lang/Object;"⟩
abbrev cJ7_copyOf_6403c : ByteArray := prog_21_method_120_code
def yJ7_copyOf_6403c : MethodName := ⟨RJ7, "copyOf", "([Ljava/lang/Object;ILjava/lang/Class;)[Ljava/lang/Object;"⟩
def RJx5ef63 : String := "java/util/Collection"
def TJx5ef63 : u_T := fun k => match k with
  | _ => ("", "", "", false)
def tyJx5ef63 : Nat → FieldType := fun k => match k with
  | _ => .int
abbrev wsJx5ef630 : List Cond := u_ws RJx5ef63 TJx5ef63 0
theorem nmJx5ef63 : ∀ a, a < 0 → ∀ b, b < 0 → a ≠ b → (TJx5ef63 a).2.1 ≠ (TJx5ef63 b).2.1 := by decide +kernel
theorem tyJx5ef63_ok : ∀ k, k < 0 → parseFieldDescriptor (TJx5ef63 k).2.2.1 = some (tyJx5ef63 k) := by decide +kernel
def RJxbd725 : String := "java/util/List"
def TJxbd725 : u_T := fun k => match k with
  | _ => ("", "", "", false)
def tyJxbd725 : Nat → FieldType := fun k => match k with
  | _ => .int
abbrev wsJxbd7250 : List Cond := u_ws RJxbd725 TJxbd725 0
theorem nmJxbd725 : ∀ a, a < 0 → ∀ b, b < 0 → a ≠ b → (TJxbd725 a).2.1 ≠ (TJxbd725 b).2.1 := by decide +kernel
theorem tyJxbd725_ok : ∀ k, k < 0 → parseFieldDescriptor (TJxbd725 k).2.2.1 = some (tyJxbd725 k) := by decide +kernel
def RJ15 : String := "java/util/Objects"
def TJ15 : u_T := fun k => match k with
  | _ => ("", "", "", false)
def tyJ15 : Nat → FieldType := fun k => match k with
  | _ => .int
abbrev wsJ150 : List Cond := u_ws RJ15 TJ15 0
theorem nmJ15 : ∀ a, a < 0 → ∀ b, b < 0 → a ≠ b → (TJ15 a).2.1 ≠ (TJ15 b).2.1 := by decide +kernel
theorem tyJ15_ok : ∀ k, k < 0 → parseFieldDescriptor (TJ15 k).2.2.1 = some (tyJ15 k) := by decide +kernel
abbrev cJ15_checkIndex_7cf53 : ByteArray := prog_24_method_17_code
def yJ15_checkIndex_7cf53 : MethodName := ⟨RJ15, "checkIndex", "(II)I"⟩
def RJxf0a74 : String := "java/util/RandomAccess"
def TJxf0a74 : u_T := fun k => match k with
  | _ => ("", "", "", false)
def tyJxf0a74 : Nat → FieldType := fun k => match k with
  | _ => .int
abbrev wsJxf0a740 : List Cond := u_ws RJxf0a74 TJxf0a74 0
theorem nmJxf0a74 : ∀ a, a < 0 → ∀ b, b < 0 → a ≠ b → (TJxf0a74 a).2.1 ≠ (TJxf0a74 b).2.1 := by decide +kernel
theorem tyJxf0a74_ok : ∀ k, k < 0 → parseFieldDescriptor (TJxf0a74 k).2.2.1 = some (tyJxf0a74 k) := by decide +kernel
def RJxa66e6 : String := "java/util/SequencedCollection"
def TJxa66e6 : u_T := fun k => match k with
  | _ => ("", "", "", false)
def tyJxa66e6 : Nat → FieldType := fun k => match k with
  | _ => .int
abbrev wsJxa66e60 : List Cond := u_ws RJxa66e6 TJxa66e6 0
theorem nmJxa66e6 : ∀ a, a < 0 → ∀ b, b < 0 → a ≠ b → (TJxa66e6 a).2.1 ≠ (TJxa66e6 b).2.1 := by decide +kernel
theorem tyJxa66e6_ok : ∀ k, k < 0 → parseFieldDescriptor (TJxa66e6 k).2.2.1 = some (tyJxa66e6 k) := by decide +kernel
def RJ8 : String := "jdk/internal/util/ArraysSupport"
def TJ8 : u_T := fun k => match k with
  | _ => ("", "", "", false)
def tyJ8 : Nat → FieldType := fun k => match k with
  | _ => .int
abbrev wsJ80 : List Cond := u_ws RJ8 TJ8 0
theorem nmJ8 : ∀ a, a < 0 → ∀ b, b < 0 → a ≠ b → (TJ8 a).2.1 ≠ (TJ8 b).2.1 := by decide +kernel
theorem tyJ8_ok : ∀ k, k < 0 → parseFieldDescriptor (TJ8 k).2.2.1 = some (tyJ8 k) := by decide +kernel
abbrev cJ8_newLength_cabcc : ByteArray := prog_27_method_27_code
def yJ8_newLength_cabcc : MethodName := ⟨RJ8, "newLength", "(III)I"⟩
abbrev cJ8_hugeLength_7cf53 : ByteArray := prog_27_method_28_code
def yJ8_hugeLength_7cf53 : MethodName := ⟨RJ8, "hugeLength", "(II)I"⟩
def RJ3 : String := "jdk/internal/util/Preconditions"
def TJ3 : u_T := fun k => match k with
  | _ => ("", "", "", false)
def tyJ3 : Nat → FieldType := fun k => match k with
  | _ => .int
abbrev wsJ30 : List Cond := u_ws RJ3 TJ3 0
theorem nmJ3 : ∀ a, a < 0 → ∀ b, b < 0 → a ≠ b → (TJ3 a).2.1 ≠ (TJ3 b).2.1 := by decide +kernel
theorem tyJ3_ok : ∀ k, k < 0 → parseFieldDescriptor (TJ3 k).2.2.1 = some (tyJ3 k) := by decide +kernel
abbrev cJ3_checkIndex_8e157 : ByteArray := prog_28_method_11_code
def yJ3_checkIndex_8e157 : MethodName := ⟨RJ3, "checkIndex", "(IILjava/util/function/BiFunction;)I"⟩
def RL : String := "ScripHollowLaw"
abbrev cL_from : ByteArray := method_2_code
def yL_from : MethodName := ⟨RL, "from", "([III)I"⟩
abbrev cL_has : ByteArray := method_3_code
def yL_has : MethodName := ⟨RL, "has", "([II)I"⟩
abbrev cL_spend : ByteArray := method_4_code
def yL_spend : MethodName := ⟨RL, "spend", "([I[III)I"⟩
abbrev cL_raised : ByteArray := method_5_code
def yL_raised : MethodName := ⟨RL, "raised", "([I[III)I"⟩
abbrev cL_take : ByteArray := method_6_code
def yL_take : MethodName := ⟨RL, "take", "([I[IIII)I"⟩
abbrev cL_pay : ByteArray := method_7_code
def yL_pay : MethodName := ⟨RL, "pay", "([I[I[II)I"⟩
abbrev cL_isPayday : ByteArray := method_8_code
def yL_isPayday : MethodName := ⟨RL, "isPayday", "(LScripHollow;[I[I[I)Z"⟩
abbrev cL_reason : ByteArray := method_9_code
def yL_reason : MethodName := ⟨RL, "reason", "([I[I[III)I"⟩
abbrev cL_isBought : ByteArray := method_10_code
def yL_isBought : MethodName := ⟨RL, "isBought", "(LScripHollow;[I[I[I[II)Z"⟩
abbrev cL_isChanged : ByteArray := method_11_code
def yL_isChanged : MethodName := ⟨RL, "isChanged", "(LScripHollow;[I[I[II)Z"⟩
abbrev cL_heir : ByteArray := method_12_code
def yL_heir : MethodName := ⟨RL, "heir", "([II)I"⟩
abbrev cL_isDead : ByteArray := method_13_code
def yL_isDead : MethodName := ⟨RL, "isDead", "(LScripHollow;[I[I[I[II)Z"⟩
abbrev cL_isStruck : ByteArray := method_14_code
def yL_isStruck : MethodName := ⟨RL, "isStruck", "(LScripHollow;[I[I[II)Z"⟩
abbrev cL_isClosed : ByteArray := method_15_code
def yL_isClosed : MethodName := ⟨RL, "isClosed", "(LScripHollow;[I[I[II)Z"⟩
abbrev cL_isTold : ByteArray := method_16_code
def yL_isTold : MethodName := ⟨RL, "isTold", "(LScripHollow;[I[II)Z"⟩
abbrev cL_isHewn : ByteArray := method_17_code
def yL_isHewn : MethodName := ⟨RL, "isHewn", "(LScripHollow;[I[II)Z"⟩
abbrev cL_isHoused : ByteArray := method_18_code
def yL_isHoused : MethodName := ⟨RL, "isHoused", "(LScripHollow;[II)Z"⟩
abbrev cL_isSame : ByteArray := method_19_code
def yL_isSame : MethodName := ⟨RL, "isSame", "(LScripHollow;[I[I[I[II)Z"⟩
abbrev cL_holds : ByteArray := method_20_code
def yL_holds : MethodName := ⟨RL, "holds", "([I)Z"⟩
abbrev cL_isHeld : ByteArray := method_21_code
def yL_isHeld : MethodName := ⟨RL, "isHeld", "([I)Z"⟩
abbrev cL_law : ByteArray := code
def yL_law : MethodName := ⟨RL, "law", "([I)Z"⟩
abbrev vwCl : List vw_C := [(RJx4a65c, TJx4a65c, 3), (RX0, TX0, 14), (RX1, TX1, 4), (RX2, TX2, 18)]
end
section
def wsL_law0_r1 : List Cond := [Cond.methodLink RL 196 yL_isHeld, Cond.static yL_isHeld, Cond.initialized RL, Cond.codeWith yL_isHeld cL_isHeld 2 (some .boolean) [(0, 4, 5, 190), (0, 4, 8, 192), (0, 4, 11, 194)], Cond.classLink RL 190 "java/lang/IndexOutOfBoundsException", Cond.classLink RL 192 "java/lang/IllegalArgumentException", Cond.classLink RL 194 "java/lang/IllegalStateException", Cond.methodLink RL 186 yL_holds, Cond.static yL_holds, Cond.code yL_holds cL_holds 10 (some .boolean), Cond.classLink RL 20 RX2, Cond.instantiable RX2 18, Cond.initialized RX2, Cond.arrayClass .int, Cond.constant RL 150 (1000000000), Cond.methodLink RL 142 yX2_init, Cond.instanceMethod yX2_init, Cond.code yX2_init cX2_init 1 none, Cond.methodLink RX2 1 objectInit, Cond.instanceMethod objectInit, Cond.code objectInit ⟨#[0xb1]⟩ 1 none, Cond.classLink RX2 7 RJx4a65c, Cond.instantiable RJx4a65c 3, Cond.initialized RJx4a65c]
def wsL_law0_r2 : List Cond := [Cond.fieldLink RX2 10 "ScripHollow" "miners" "Ljava/util/ArrayList;", Cond.fieldLink RX2 16 "ScripHollow" "dockPercent" "I", Cond.fieldLink RX2 20 "ScripHollow" "row" "I", Cond.fieldLink RX2 23 "ScripHollow" "told" "[I", Cond.classLink RX2 27 RX1, Cond.instantiable RX1 4, Cond.initialized RX1, Cond.fieldLink RX2 30 "ScripHollow" "slip" "LScripHollow$Slip;", Cond.fieldLink RX2 34 "ScripHollow" "storePrices" "[I", Cond.fieldLink RX2 37 "ScripHollow" "hillPrices" "[I", Cond.fieldLink RX2 40 "ScripHollow" "mostDebt" "I", Cond.fieldLink RX2 43 "ScripHollow" "tavernPercent" "I", Cond.arrayClass .boolean, Cond.fieldLink RX2 46 "ScripHollow" "laws" "[Z", Cond.fieldLink RX2 50 "ScripHollow" "lines" "[I", Cond.methodLink RX2 9 yJx4a65c_init_da8c8, Cond.instanceMethod yJx4a65c_init_da8c8, Cond.code yJx4a65c_init_da8c8 cJx4a65c_init_da8c8 1 none, Cond.fieldLink RJx4a65c 39 "java/util/ArrayList" "DEFAULTCAPACITY_EMPTY_ELEMENTDATA" "[Ljava/lang/Object;", Cond.fieldLink RJx4a65c 9 "java/util/ArrayList" "elementData" "[Ljava/lang/Object;", Cond.methodLink RJx4a65c 1 yJxc12de_init_da8c8, Cond.instanceMethod yJxc12de_init_da8c8, Cond.initialized RJxc12de, Cond.code yJxc12de_init_da8c8 cJxc12de_init_da8c8 1 none]
def wsL_law0_r3 : List Cond := [Cond.fieldLink RJxc12de 7 "java/util/AbstractList" "modCount" "I", Cond.methodLink RJxc12de 1 yJxa1e45_init_da8c8, Cond.instanceMethod yJxa1e45_init_da8c8, Cond.initialized RJxa1e45, Cond.code yJxa1e45_init_da8c8 cJxa1e45_init_da8c8 1 none, Cond.methodLink RJxa1e45 1 objectInit, Cond.instanceMethod yX1_init, Cond.code yX1_init cX1_init 1 none, Cond.methodLink RX1 3 objectInit, Cond.methodLink RL 143 yX2_miner, Cond.instanceMethod yX2_miner, Cond.selects RX2 yX2_miner yX2_miner, Cond.code yX2_miner cX2_miner 1 (some .int), Cond.classLink RX2 57 "java/lang/IllegalStateException", Cond.initialized "java/lang/IllegalStateException", Cond.classLink RX2 64 RX0, Cond.instantiable RX0 14, Cond.initialized RX0, Cond.methodLink RX2 53 yJx4a65c_size_8abf5, Cond.instanceMethod yJx4a65c_size_8abf5, Cond.selects RJx4a65c yJx4a65c_size_8abf5 yJx4a65c_size_8abf5, Cond.code yJx4a65c_size_8abf5 cJx4a65c_size_8abf5 1 (some .int), Cond.fieldLink RJx4a65c 48 "java/util/ArrayList" "size" "I", Cond.instanceMethod yX0_init]
def wsL_law0_r4 : List Cond := [Cond.code yX0_init cX0_init 1 none, Cond.methodLink RX0 3 objectInit, Cond.fieldLink RX0 9 "ScripHollow$Miner" "isAlive" "Z", Cond.fieldLink RX0 15 "ScripHollow$Miner" "hasHouse" "Z", Cond.fieldLink RX0 18 "ScripHollow$Miner" "kinNumber" "I", Cond.fieldLink RX0 22 "ScripHollow$Miner" "goodsHeld" "[I", Cond.fieldLink RX0 26 "ScripHollow$Miner" "scripHeld" "[I", Cond.methodLink RX2 67 yJx4a65c_add_9ea2d, Cond.instanceMethod yJx4a65c_add_9ea2d, Cond.selects RJx4a65c yJx4a65c_add_9ea2d yJx4a65c_add_9ea2d, Cond.code yJx4a65c_add_9ea2d cJx4a65c_add_9ea2d 2 (some .boolean), Cond.fieldLink RJx4a65c 63 "java/util/ArrayList" "modCount" "I", Cond.sameField "java/util/ArrayList" "java/util/AbstractList" "modCount" "I", Cond.methodLink RJx4a65c 131 yJx4a65c_add_72be8, Cond.instanceMethod yJx4a65c_add_72be8, Cond.selects RJx4a65c yJx4a65c_add_72be8 yJx4a65c_add_72be8, Cond.code yJx4a65c_add_72be8 cJx4a65c_add_72be8 4 none, Cond.methodLink RJx4a65c 129 yJx4a65c_grow_d5877, Cond.instanceMethod yJx4a65c_grow_d5877, Cond.selects RJx4a65c yJx4a65c_grow_d5877 yJx4a65c_grow_d5877, Cond.code yJx4a65c_grow_d5877 cJx4a65c_grow_d5877 1 (some (.array (.object "java/lang/Object"))), Cond.methodLink RJx4a65c 69 yJx4a65c_grow_92f84, Cond.instanceMethod yJx4a65c_grow_92f84, Cond.selects RJx4a65c yJx4a65c_grow_92f84 yJx4a65c_grow_92f84]
def wsL_law0_r5 : List Cond := [Cond.code yJx4a65c_grow_92f84 cJx4a65c_grow_92f84 4 (some (.array (.object "java/lang/Object"))), Cond.methodLink RJx4a65c 79 Lib.Math.max.name, Cond.static Lib.Math.max.name, Cond.initialized "java/lang/Math", Cond.code Lib.Math.max.name Lib.Math.max.code 2 (some .int), Cond.classLink RJx4a65c 7 "java/lang/Object", Cond.methodLink RJx4a65c 73 yJ8_newLength_cabcc, Cond.static yJ8_newLength_cabcc, Cond.initialized RJ8, Cond.code yJ8_newLength_cabcc cJ8_newLength_cabcc 4 (some .int), Cond.methodLink RJ8 194 Lib.Math.max.name, Cond.constant RJ8 200 (2147483639), Cond.methodLink RJ8 201 yJ8_hugeLength_7cf53, Cond.static yJ8_hugeLength_7cf53, Cond.code yJ8_hugeLength_7cf53 cJ8_hugeLength_7cf53 3 (some .int), Cond.methodLink RJx4a65c 66 yJ7_copyOf_1904c, Cond.static yJ7_copyOf_1904c, Cond.initialized RJ7, Cond.code yJ7_copyOf_1904c cJ7_copyOf_1904c 2 (some (.array (.object "java/lang/Object"))), Cond.methodLink RJ7 86 ⟨"java/lang/Object", "getClass", "()Ljava/lang/Class;"⟩, Cond.selects "[Ljava/lang/Object;" ⟨"java/lang/Object", "getClass", "()Ljava/lang/Class;"⟩ ⟨"java/lang/Object", "getClass", "()Ljava/lang/Class;"⟩, Cond.instanceMethod ⟨"java/lang/Object", "getClass", "()Ljava/lang/Class;"⟩, Cond.native ⟨"java/lang/Object", "getClass", "()Ljava/lang/Class;"⟩, Cond.methodLink RJ7 300 yJ7_copyOf_6403c]
def wsL_law0_r6 : List Cond := [Cond.static yJ7_copyOf_6403c, Cond.code yJ7_copyOf_6403c cJ7_copyOf_6403c 4 (some (.array (.object "java/lang/Object"))), Cond.classLink RJ7 110 "[Ljava/lang/Object;", Cond.classLink RJ7 2 "java/lang/Object", Cond.methodLink RJ7 304 Lib.Math.min.name, Cond.static Lib.Math.min.name, Cond.code Lib.Math.min.name Lib.Math.min.code 2 (some .int), Cond.methodLink RJ7 150 arraycopyName, Cond.native arraycopyName, Cond.static arraycopyName, Cond.initialized "java/lang/System", Cond.methodLink RL 146 yL_from, Cond.static yL_from, Cond.code yL_from cL_from 4 (some .int), Cond.constant RL 7 (701408), Cond.constant RL 8 (2147483647), Cond.methodLink RL 151 yL_isHewn, Cond.static yL_isHewn, Cond.code yL_isHewn cL_isHewn 6 (some .boolean), Cond.methodLink RL 113 yX2_hew, Cond.instanceMethod yX2_hew, Cond.selects RX2 yX2_hew yX2_hew, Cond.code yX2_hew cX2_hew 4 (some .int), Cond.fieldLink RX2 95 "ScripHollow" "isStriking" "Z"]
def wsL_law0_r7 : List Cond := [Cond.fieldLink RX2 98 "ScripHollow" "isClosed" "Z", Cond.fieldLink RX2 103 "ScripHollow$Miner" "coal" "I", Cond.fieldLink RX2 87 "ScripHollow" "isChecked" "Z", Cond.methodLink RX2 71 yX2_minerAt, Cond.instanceMethod yX2_minerAt, Cond.selects RX2 yX2_minerAt yX2_minerAt, Cond.code yX2_minerAt cX2_minerAt 2 (some (.object "ScripHollow$Miner")), Cond.classLink RX2 64 "ScripHollow$Miner", Cond.methodLink RX2 181 yX2_requireIndex, Cond.static yX2_requireIndex, Cond.code yX2_requireIndex cX2_requireIndex 2 none, Cond.classLink RX2 238 "java/lang/IndexOutOfBoundsException", Cond.initialized "java/lang/IndexOutOfBoundsException", Cond.methodLink RX2 117 yJx4a65c_get_915e3, Cond.instanceMethod yJx4a65c_get_915e3, Cond.selects RJx4a65c yJx4a65c_get_915e3 yJx4a65c_get_915e3, Cond.code yJx4a65c_get_915e3 cJx4a65c_get_915e3 2 (some (.object "java/lang/Object")), Cond.methodLink RJx4a65c 118 yJ15_checkIndex_7cf53, Cond.static yJ15_checkIndex_7cf53, Cond.initialized RJ15, Cond.code yJ15_checkIndex_7cf53 cJ15_checkIndex_7cf53 2 (some .int), Cond.methodLink RJ15 105 yJ3_checkIndex_8e157, Cond.static yJ3_checkIndex_8e157, Cond.initialized RJ3]
def wsL_law0_r8 : List Cond := [Cond.code yJ3_checkIndex_8e157 cJ3_checkIndex_8e157 3 (some .int), Cond.methodLink RJx4a65c 123 yJx4a65c_elementData_915e3, Cond.instanceMethod yJx4a65c_elementData_915e3, Cond.selects RJx4a65c yJx4a65c_elementData_915e3 yJx4a65c_elementData_915e3, Cond.code yJx4a65c_elementData_915e3 cJx4a65c_elementData_915e3 2 (some (.object "java/lang/Object")), Cond.methodLink RX2 83 yX2_requireRange, Cond.static yX2_requireRange, Cond.code yX2_requireRange cX2_requireRange 3 none, Cond.classLink RX2 75 "java/lang/IllegalArgumentException", Cond.initialized "java/lang/IllegalArgumentException", Cond.methodLink RX2 91 yX2_requireAlive, Cond.static yX2_requireAlive, Cond.code yX2_requireAlive cX2_requireAlive 1 none, Cond.fieldLink RX2 121 "ScripHollow$Miner" "isAlive" "Z", Cond.methodLink RL 155 yL_isPayday, Cond.static yL_isPayday, Cond.code yL_isPayday cL_isPayday 6 (some .boolean), Cond.methodLink RL 15 yL_pay, Cond.static yL_pay, Cond.code yL_pay cL_pay 12 (some .int), Cond.methodLink RL 9 yL_take, Cond.static yL_take, Cond.code yL_take cL_take 8 (some .int), Cond.methodLink RL 19 yX2_payday]
def wsL_law0_r9 : List Cond := [Cond.instanceMethod yX2_payday, Cond.selects RX2 yX2_payday yX2_payday, Cond.code yX2_payday cX2_payday 4 (some .int), Cond.fieldLink RX2 112 "ScripHollow" "paydays" "I", Cond.fieldLink RX2 127 "ScripHollow$Miner" "latestPay" "I", Cond.methodLink RX2 124 yX2_settle, Cond.instanceMethod yX2_settle, Cond.selects RX2 yX2_settle yX2_settle, Cond.code yX2_settle cX2_settle 5 none, Cond.fieldLink RX2 259 "ScripHollow$Slip" "rentTaken" "I", Cond.fieldLink RX2 137 "ScripHollow$Miner" "arrears" "I", Cond.fieldLink RX2 167 "ScripHollow$Miner" "debt" "I", Cond.fieldLink RX2 262 "ScripHollow$Slip" "storeTaken" "I", Cond.fieldLink RX2 265 "ScripHollow$Slip" "unlawful" "I", Cond.fieldLink RX2 272 "ScripHollow$Slip" "rest" "I", Cond.fieldLink RX2 134 "ScripHollow$Miner" "hasHouse" "Z", Cond.methodLink RX2 247 yX2_due, Cond.instanceMethod yX2_due, Cond.selects RX2 yX2_due yX2_due, Cond.code yX2_due cX2_due 3 (some .int), Cond.methodLink RX2 250 yX1_open, Cond.instanceMethod yX1_open, Cond.selects RX1 yX1_open yX1_open, Cond.code yX1_open cX1_open 2 none]
def wsL_law0_r10 : List Cond := [Cond.fieldLink RX1 9 "ScripHollow$Slip" "rest" "I", Cond.fieldLink RX1 15 "ScripHollow$Slip" "rentTaken" "I", Cond.fieldLink RX1 18 "ScripHollow$Slip" "storeTaken" "I", Cond.fieldLink RX1 21 "ScripHollow$Slip" "unlawful" "I", Cond.methodLink RX2 253 yX2_isPassedBy, Cond.instanceMethod yX2_isPassedBy, Cond.selects RX2 yX2_isPassedBy yX2_isPassedBy, Cond.code yX2_isPassedBy cX2_isPassedBy 2 (some .boolean), Cond.fieldLink RX2 185 "ScripHollow" "isObeying" "Z", Cond.methodLink RX2 256 yX1_take, Cond.instanceMethod yX1_take, Cond.selects RX1 yX1_take yX1_take, Cond.code yX1_take cX1_take 4 none, Cond.methodLink RX1 24 Lib.Math.min.name, Cond.methodLink RX2 268 yX2_breach, Cond.instanceMethod yX2_breach, Cond.selects RX2 yX2_breach yX2_breach, Cond.code yX2_breach cX2_breach 4 none, Cond.fieldLink RX2 188 "ScripHollow" "breachCount" "I", Cond.fieldLink RX2 224 "ScripHollow$Miner" "owed" "I", Cond.methodLink RX2 275 yX2_hand, Cond.instanceMethod yX2_hand, Cond.selects RX2 yX2_hand yX2_hand, Cond.code yX2_hand cX2_hand 3 none]
def wsL_law0_r11 : List Cond := [Cond.fieldLink RX2 158 "ScripHollow$Miner" "coin" "I", Cond.methodLink RX2 279 yX0_gainScrip, Cond.instanceMethod yX0_gainScrip, Cond.selects RX0 yX0_gainScrip yX0_gainScrip, Cond.code yX0_gainScrip cX0_gainScrip 3 none, Cond.fieldLink RX0 36 "ScripHollow$Miner" "scripCame" "I", Cond.methodLink RX2 130 yX2_expire, Cond.instanceMethod yX2_expire, Cond.selects RX2 yX2_expire yX2_expire, Cond.code yX2_expire cX2_expire 4 none, Cond.fieldLink RX2 229 "ScripHollow$Miner" "scripHeld" "[I", Cond.methodLink RX2 282 yX0_loseScrip, Cond.instanceMethod yX0_loseScrip, Cond.selects RX0 yX0_loseScrip yX0_loseScrip, Cond.code yX0_loseScrip cX0_loseScrip 4 (some .int), Cond.methodLink RX0 39 Lib.Math.min.name, Cond.fieldLink RX0 45 "ScripHollow$Miner" "scripWent" "I", Cond.methodLink RL 159 yL_isBought, Cond.static yL_isBought, Cond.code yL_isBought cL_isBought 15 (some .boolean), Cond.methodLink RL 29 yX2_over, Cond.instanceMethod yX2_over, Cond.selects RX2 yX2_over yX2_over, Cond.code yX2_over cX2_over 6 (some .int)]
def wsL_law0_r12 : List Cond := [Cond.fieldLink RX2 170 "ScripHollow$Miner" "goodsHeld" "[I", Cond.methodLink RX2 142 yX2_requireGoods, Cond.static yX2_requireGoods, Cond.code yX2_requireGoods cX2_requireGoods 1 none, Cond.methodLink RL 33 yL_raised, Cond.static yL_raised, Cond.code yL_raised cL_raised 4 (some .int), Cond.methodLink RL 37 yL_reason, Cond.static yL_reason, Cond.code yL_reason cL_reason 6 (some .int), Cond.methodLink RL 25 yL_has, Cond.static yL_has, Cond.code yL_has cL_has 4 (some .int), Cond.methodLink RL 41 yX2_whyNot, Cond.instanceMethod yX2_whyNot, Cond.selects RX2 yX2_whyNot yX2_whyNot, Cond.code yX2_whyNot cX2_whyNot 5 (some .int), Cond.methodLink RX2 145 yX2_storePrice, Cond.instanceMethod yX2_storePrice, Cond.selects RX2 yX2_storePrice yX2_storePrice, Cond.code yX2_storePrice cX2_storePrice 3 (some .int), Cond.methodLink RX2 149 yX2_refusal, Cond.instanceMethod yX2_refusal, Cond.selects RX2 yX2_refusal yX2_refusal]
def wsL_law0_r13 : List Cond := [Cond.code yX2_refusal cX2_refusal 4 (some .int), Cond.methodLink RX2 285 yX0_means, Cond.instanceMethod yX0_means, Cond.selects RX0 yX0_means yX0_means, Cond.code yX0_means cX0_means 1 (some .int), Cond.fieldLink RX0 29 "ScripHollow$Miner" "coin" "I", Cond.methodLink RX0 32 yX0_allScrip, Cond.instanceMethod yX0_allScrip, Cond.selects RX0 yX0_allScrip yX0_allScrip, Cond.code yX0_allScrip cX0_allScrip 3 (some .int), Cond.methodLink RL 44 yL_spend, Cond.static yL_spend, Cond.code yL_spend cL_spend 7 (some .int), Cond.methodLink RL 47 yX2_buy, Cond.instanceMethod yX2_buy, Cond.selects RX2 yX2_buy yX2_buy, Cond.code yX2_buy cX2_buy 8 (some .int), Cond.methodLink RX2 161 Lib.Math.min.name, Cond.methodLink RX2 154 yX0_loseLowestScrip, Cond.instanceMethod yX0_loseLowestScrip, Cond.selects RX0 yX0_loseLowestScrip yX0_loseLowestScrip, Cond.code yX0_loseLowestScrip cX0_loseLowestScrip 4 (some .int), Cond.methodLink RX0 48 yX0_loseScrip, Cond.methodLink RL 163 yL_isChanged]
def wsL_law0_r14 : List Cond := [Cond.static yL_isChanged, Cond.code yL_isChanged cL_isChanged 10 (some .boolean), Cond.constant RL 50 (100000), Cond.methodLink RL 51 yX2_change, Cond.instanceMethod yX2_change, Cond.selects RX2 yX2_change yX2_change, Cond.code yX2_change cX2_change 5 (some .int), Cond.constant RX2 175 (100000), Cond.methodLink RX2 176 yX0_allScrip, Cond.methodLink RL 167 yL_isTold, Cond.static yL_isTold, Cond.code yL_isTold cL_isTold 9 (some .boolean), Cond.constant RL 87 (54321), Cond.methodLink RL 73 yX2_tell, Cond.instanceMethod yX2_tell, Cond.selects RX2 yX2_tell yX2_tell, Cond.code yX2_tell cX2_tell 4 (some .int), Cond.methodLink RL 76 yX2_price, Cond.instanceMethod yX2_price, Cond.selects RX2 yX2_price yX2_price, Cond.code yX2_price cX2_price 6 (some .int), Cond.methodLink RL 80 yX2_dock, Cond.instanceMethod yX2_dock, Cond.selects RX2 yX2_dock yX2_dock]
def wsL_law0_r15 : List Cond := [Cond.code yX2_dock cX2_dock 3 (some .int), Cond.methodLink RL 83 yX2_check, Cond.instanceMethod yX2_check, Cond.selects RX2 yX2_check yX2_check, Cond.code yX2_check cX2_check 3 (some .boolean), Cond.methodLink RL 88 yX2_edition, Cond.instanceMethod yX2_edition, Cond.selects RX2 yX2_edition yX2_edition, Cond.code yX2_edition cX2_edition 3 (some .int), Cond.methodLink RX2 106 yX2_isEdition, Cond.static yX2_isEdition, Cond.code yX2_isEdition cX2_isEdition 5 (some .boolean), Cond.methodLink RL 91 yX2_limit, Cond.instanceMethod yX2_limit, Cond.selects RX2 yX2_limit yX2_limit, Cond.code yX2_limit cX2_limit 3 (some .int), Cond.methodLink RL 94 yX2_discount, Cond.instanceMethod yX2_discount, Cond.selects RX2 yX2_discount yX2_discount, Cond.code yX2_discount cX2_discount 3 (some .int), Cond.methodLink RL 97 yX2_law, Cond.instanceMethod yX2_law, Cond.selects RX2 yX2_law yX2_law, Cond.code yX2_law cX2_law 4 (some .boolean)]
def wsL_law0_r16 : List Cond := [Cond.methodLink RL 101 yX2_obey, Cond.instanceMethod yX2_obey, Cond.selects RX2 yX2_obey yX2_obey, Cond.code yX2_obey cX2_obey 3 (some .boolean), Cond.methodLink RL 104 yX2_give, Cond.instanceMethod yX2_give, Cond.selects RX2 yX2_give yX2_give, Cond.code yX2_give cX2_give 2 (some .int), Cond.fieldLink RX2 211 "ScripHollow" "fund" "I", Cond.methodLink RL 107 yX2_vote, Cond.instanceMethod yX2_vote, Cond.selects RX2 yX2_vote yX2_vote, Cond.code yX2_vote cX2_vote 5 (some .boolean), Cond.fieldLink RX2 202 "ScripHollow$Miner" "isForStrike" "Z", Cond.methodLink RL 110 yX2_kin, Cond.instanceMethod yX2_kin, Cond.selects RX2 yX2_kin yX2_kin, Cond.code yX2_kin cX2_kin 5 (some .int), Cond.fieldLink RX2 80 "ScripHollow$Miner" "kinNumber" "I", Cond.methodLink RL 170 yL_isStruck, Cond.static yL_isStruck, Cond.code yL_isStruck cL_isStruck 11 (some .boolean), Cond.methodLink RL 62 yX2_strike, Cond.instanceMethod yX2_strike]
def wsL_law0_r17 : List Cond := [Cond.selects RX2 yX2_strike yX2_strike, Cond.code yX2_strike cX2_strike 1 (some .boolean), Cond.methodLink RX2 205 yX2_canStrike, Cond.instanceMethod yX2_canStrike, Cond.selects RX2 yX2_canStrike yX2_canStrike, Cond.code yX2_canStrike cX2_canStrike 4 (some .boolean), Cond.methodLink RL 66 yX2_soup, Cond.instanceMethod yX2_soup, Cond.selects RX2 yX2_soup yX2_soup, Cond.code yX2_soup cX2_soup 4 (some .int), Cond.methodLink RX2 216 yX2_poorestBut, Cond.instanceMethod yX2_poorestBut, Cond.selects RX2 yX2_poorestBut yX2_poorestBut, Cond.code yX2_poorestBut cX2_poorestBut 7 (some .int), Cond.methodLink RL 173 yL_isHoused, Cond.static yL_isHoused, Cond.code yL_isHoused cL_isHoused 3 (some .boolean), Cond.methodLink RL 116 yX2_house, Cond.instanceMethod yX2_house, Cond.selects RX2 yX2_house yX2_house, Cond.code yX2_house cX2_house 3 none, Cond.methodLink RL 120 yX2_about, Cond.instanceMethod yX2_about, Cond.selects RX2 yX2_about yX2_about]
def wsL_law0_r18 : List Cond := [Cond.code yX2_about cX2_about 4 (some .int), Cond.methodLink RL 177 yL_isDead, Cond.static yL_isDead, Cond.code yL_isDead cL_isDead 10 (some .boolean), Cond.methodLink RL 55 yL_heir, Cond.static yL_heir, Cond.code yL_heir cL_heir 4 (some .int), Cond.methodLink RL 58 yX2_die, Cond.instanceMethod yX2_die, Cond.selects RX2 yX2_die yX2_die, Cond.code yX2_die cX2_die 4 (some .int), Cond.methodLink RX2 191 yX2_heirOf, Cond.instanceMethod yX2_heirOf, Cond.selects RX2 yX2_heirOf yX2_heirOf, Cond.code yX2_heirOf cX2_heirOf 5 (some .int), Cond.methodLink RX2 195 yX0_inherit, Cond.instanceMethod yX0_inherit, Cond.selects RX0 yX0_inherit yX0_inherit, Cond.code yX0_inherit cX0_inherit 4 none, Cond.fieldLink RX0 55 "ScripHollow$Miner" "debt" "I", Cond.fieldLink RX0 58 "ScripHollow$Miner" "arrears" "I", Cond.methodLink RX0 51 yX0_gainScrip, Cond.methodLink RX2 199 yX0_leaveAll, Cond.instanceMethod yX0_leaveAll]
def wsL_law0_r19 : List Cond := [Cond.selects RX0 yX0_leaveAll yX0_leaveAll, Cond.code yX0_leaveAll cX0_leaveAll 2 none, Cond.fieldLink RX0 61 "ScripHollow$Miner" "coal" "I", Cond.methodLink RX0 64 yX0_loseLowestScrip, Cond.methodLink RL 180 yL_isClosed, Cond.static yL_isClosed, Cond.code yL_isClosed cL_isClosed 15 (some .boolean), Cond.constant RL 69 (100001), Cond.methodLink RL 70 yX2_close, Cond.instanceMethod yX2_close, Cond.selects RX2 yX2_close yX2_close, Cond.code yX2_close cX2_close 4 (some .int), Cond.methodLink RX2 221 yX2_redeem, Cond.instanceMethod yX2_redeem, Cond.selects RX2 yX2_redeem yX2_redeem, Cond.code yX2_redeem cX2_redeem 9 (some .int), Cond.methodLink RL 183 yL_isSame, Cond.static yL_isSame, Cond.code yL_isSame cL_isSame 11 (some .boolean), Cond.methodLink RL 123 yX2_scripAnew, Cond.instanceMethod yX2_scripAnew, Cond.selects RX2 yX2_scripAnew yX2_scripAnew, Cond.code yX2_scripAnew cX2_scripAnew 3 (some .int), Cond.fieldLink RX2 232 "ScripHollow$Miner" "scripCame" "I"]
def wsL_law0_r20 : List Cond := [Cond.fieldLink RX2 235 "ScripHollow$Miner" "scripWent" "I", Cond.methodLink RL 126 yX2_has, Cond.instanceMethod yX2_has, Cond.selects RX2 yX2_has yX2_has, Cond.code yX2_has cX2_has 4 (some .int), Cond.methodLink RL 128 yX2_scrip, Cond.instanceMethod yX2_scrip, Cond.selects RX2 yX2_scrip yX2_scrip, Cond.code yX2_scrip cX2_scrip 4 (some .int), Cond.methodLink RL 131 yX2_raised, Cond.instanceMethod yX2_raised, Cond.selects RX2 yX2_raised yX2_raised, Cond.code yX2_raised cX2_raised 4 (some .int), Cond.methodLink RL 133 yX2_breaches, Cond.instanceMethod yX2_breaches, Cond.selects RX2 yX2_breaches yX2_breaches, Cond.code yX2_breaches cX2_breaches 1 (some .int), Cond.methodLink RL 136 yX2_books, Cond.instanceMethod yX2_books, Cond.selects RX2 yX2_books yX2_books, Cond.code yX2_books cX2_books 2 (some .int), Cond.methodLink RL 139 yX2_baskets, Cond.instanceMethod yX2_baskets, Cond.selects RX2 yX2_baskets yX2_baskets]
def wsL_law0_r21 : List Cond := [Cond.code yX2_baskets cX2_baskets 5 (some .int)]
def wsL_law0 : List Cond := (wsL_law0_r1 ++ (wsL_law0_r2 ++ (wsL_law0_r3 ++ (wsL_law0_r4 ++ (wsL_law0_r5 ++ (wsL_law0_r6 ++ (wsL_law0_r7 ++ (wsL_law0_r8 ++ (wsL_law0_r9 ++ (wsL_law0_r10 ++ (wsL_law0_r11 ++ (wsL_law0_r12 ++ (wsL_law0_r13 ++ (wsL_law0_r14 ++ (wsL_law0_r15 ++ (wsL_law0_r16 ++ (wsL_law0_r17 ++ (wsL_law0_r18 ++ (wsL_law0_r19 ++ (wsL_law0_r20 ++ wsL_law0_r21)))))))))))))))))))) ++ wsX20 ++ wsJx4a65c0 ++ wsX10 ++ wsX00 ++ ([] : List Cond)
def wsL_law : List Cond := wsL_law0 ++ (vx_atS RX2 61 "java/lang/IllegalStateException" ["java/lang/RuntimeException", "java/lang/Exception"]).filter goodWord ++ (vx_atS RX2 242 "java/lang/IndexOutOfBoundsException" ["java/lang/RuntimeException", "java/lang/Exception"]).filter goodWord ++ (vx_atS RX2 79 "java/lang/IllegalArgumentException" ["java/lang/RuntimeException", "java/lang/Exception"]).filter goodWord
theorem inlX0 : ∀ w ∈ wsX00, w ∈ wsL_law := fun _ h => List.mem_append_left _ (List.mem_append_left _ (List.mem_append_left _ (List.mem_append_left _ (List.mem_append_right _ h))))
theorem inlX1 : ∀ w ∈ wsX10, w ∈ wsL_law := fun _ h => List.mem_append_left _ (List.mem_append_left _ (List.mem_append_left _ (List.mem_append_left _ (List.mem_append_left _ (List.mem_append_right _ h)))))
theorem inlX2 : ∀ w ∈ wsX20, w ∈ wsL_law := fun _ h => List.mem_append_left _ (List.mem_append_left _ (List.mem_append_left _ (List.mem_append_left _ (List.mem_append_left _ (List.mem_append_left _ (List.mem_append_left _ (List.mem_append_right _ h)))))))
theorem inlJx4a65c : ∀ w ∈ wsJx4a65c0, w ∈ wsL_law := fun _ h => List.mem_append_left _ (List.mem_append_left _ (List.mem_append_left _ (List.mem_append_left _ (List.mem_append_left _ (List.mem_append_left _ (List.mem_append_right _ h))))))
end
section
abbrev GW : List Cond := wsL_law
theorem in_r1 : ∀ w ∈ wsL_law0_r1, w ∈ GW := fun _ h => List.mem_append_left _ (List.mem_append_left _ (List.mem_append_left _ (List.mem_append_left _ (List.mem_append_left _ (List.mem_append_left _ (List.mem_append_left _ (List.mem_append_left _ (List.mem_append_left _ h))))))))
theorem in_r2 : ∀ w ∈ wsL_law0_r2, w ∈ GW := fun _ h => List.mem_append_left _ (List.mem_append_left _ (List.mem_append_left _ (List.mem_append_left _ (List.mem_append_left _ (List.mem_append_left _ (List.mem_append_left _ (List.mem_append_left _ (List.mem_append_right _ (List.mem_append_left _ h)))))))))
theorem in_r3 : ∀ w ∈ wsL_law0_r3, w ∈ GW := fun _ h => List.mem_append_left _ (List.mem_append_left _ (List.mem_append_left _ (List.mem_append_left _ (List.mem_append_left _ (List.mem_append_left _ (List.mem_append_left _ (List.mem_append_left _ (List.mem_append_right _ (List.mem_append_right _ (List.mem_append_left _ h))))))))))
theorem in_r4 : ∀ w ∈ wsL_law0_r4, w ∈ GW := fun _ h => List.mem_append_left _ (List.mem_append_left _ (List.mem_append_left _ (List.mem_append_left _ (List.mem_append_left _ (List.mem_append_left _ (List.mem_append_left _ (List.mem_append_left _ (List.mem_append_right _ (List.mem_append_right _ (List.mem_append_right _ (List.mem_append_left _ h)))))))))))
theorem in_r5 : ∀ w ∈ wsL_law0_r5, w ∈ GW := fun _ h => List.mem_append_left _ (List.mem_append_left _ (List.mem_append_left _ (List.mem_append_left _ (List.mem_append_left _ (List.mem_append_left _ (List.mem_append_left _ (List.mem_append_left _ (List.mem_append_right _ (List.mem_append_right _ (List.mem_append_right _ (List.mem_append_right _ (List.mem_append_left _ h))))))))))))
theorem in_r6 : ∀ w ∈ wsL_law0_r6, w ∈ GW := fun _ h => List.mem_append_left _ (List.mem_append_left _ (List.mem_append_left _ (List.mem_append_left _ (List.mem_append_left _ (List.mem_append_left _ (List.mem_append_left _ (List.mem_append_left _ (List.mem_append_right _ (List.mem_append_right _ (List.mem_append_right _ (List.mem_append_right _ (List.mem_append_right _ (List.mem_append_left _ h)))))))))))))
theorem in_r7 : ∀ w ∈ wsL_law0_r7, w ∈ GW := fun _ h => List.mem_append_left _ (List.mem_append_left _ (List.mem_append_left _ (List.mem_append_left _ (List.mem_append_left _ (List.mem_append_left _ (List.mem_append_left _ (List.mem_append_left _ (List.mem_append_right _ (List.mem_append_right _ (List.mem_append_right _ (List.mem_append_right _ (List.mem_append_right _ (List.mem_append_right _ (List.mem_append_left _ h))))))))))))))
theorem in_r8 : ∀ w ∈ wsL_law0_r8, w ∈ GW := fun _ h => List.mem_append_left _ (List.mem_append_left _ (List.mem_append_left _ (List.mem_append_left _ (List.mem_append_left _ (List.mem_append_left _ (List.mem_append_left _ (List.mem_append_left _ (List.mem_append_right _ (List.mem_append_right _ (List.mem_append_right _ (List.mem_append_right _ (List.mem_append_right _ (List.mem_append_right _ (List.mem_append_right _ (List.mem_append_left _ h)))))))))))))))
theorem in_r9 : ∀ w ∈ wsL_law0_r9, w ∈ GW := fun _ h => List.mem_append_left _ (List.mem_append_left _ (List.mem_append_left _ (List.mem_append_left _ (List.mem_append_left _ (List.mem_append_left _ (List.mem_append_left _ (List.mem_append_left _ (List.mem_append_right _ (List.mem_append_right _ (List.mem_append_right _ (List.mem_append_right _ (List.mem_append_right _ (List.mem_append_right _ (List.mem_append_right _ (List.mem_append_right _ (List.mem_append_left _ h))))))))))))))))
theorem in_r10 : ∀ w ∈ wsL_law0_r10, w ∈ GW := fun _ h => List.mem_append_left _ (List.mem_append_left _ (List.mem_append_left _ (List.mem_append_left _ (List.mem_append_left _ (List.mem_append_left _ (List.mem_append_left _ (List.mem_append_left _ (List.mem_append_right _ (List.mem_append_right _ (List.mem_append_right _ (List.mem_append_right _ (List.mem_append_right _ (List.mem_append_right _ (List.mem_append_right _ (List.mem_append_right _ (List.mem_append_right _ (List.mem_append_left _ h)))))))))))))))))
theorem in_r11 : ∀ w ∈ wsL_law0_r11, w ∈ GW := fun _ h => List.mem_append_left _ (List.mem_append_left _ (List.mem_append_left _ (List.mem_append_left _ (List.mem_append_left _ (List.mem_append_left _ (List.mem_append_left _ (List.mem_append_left _ (List.mem_append_right _ (List.mem_append_right _ (List.mem_append_right _ (List.mem_append_right _ (List.mem_append_right _ (List.mem_append_right _ (List.mem_append_right _ (List.mem_append_right _ (List.mem_append_right _ (List.mem_append_right _ (List.mem_append_left _ h))))))))))))))))))
theorem in_r12 : ∀ w ∈ wsL_law0_r12, w ∈ GW := fun _ h => List.mem_append_left _ (List.mem_append_left _ (List.mem_append_left _ (List.mem_append_left _ (List.mem_append_left _ (List.mem_append_left _ (List.mem_append_left _ (List.mem_append_left _ (List.mem_append_right _ (List.mem_append_right _ (List.mem_append_right _ (List.mem_append_right _ (List.mem_append_right _ (List.mem_append_right _ (List.mem_append_right _ (List.mem_append_right _ (List.mem_append_right _ (List.mem_append_right _ (List.mem_append_right _ (List.mem_append_left _ h)))))))))))))))))))
theorem in_r13 : ∀ w ∈ wsL_law0_r13, w ∈ GW := fun _ h => List.mem_append_left _ (List.mem_append_left _ (List.mem_append_left _ (List.mem_append_left _ (List.mem_append_left _ (List.mem_append_left _ (List.mem_append_left _ (List.mem_append_left _ (List.mem_append_right _ (List.mem_append_right _ (List.mem_append_right _ (List.mem_append_right _ (List.mem_append_right _ (List.mem_append_right _ (List.mem_append_right _ (List.mem_append_right _ (List.mem_append_right _ (List.mem_append_right _ (List.mem_append_right _ (List.mem_append_right _ (List.mem_append_left _ h))))))))))))))))))))
theorem in_r14 : ∀ w ∈ wsL_law0_r14, w ∈ GW := fun _ h => List.mem_append_left _ (List.mem_append_left _ (List.mem_append_left _ (List.mem_append_left _ (List.mem_append_left _ (List.mem_append_left _ (List.mem_append_left _ (List.mem_append_left _ (List.mem_append_right _ (List.mem_append_right _ (List.mem_append_right _ (List.mem_append_right _ (List.mem_append_right _ (List.mem_append_right _ (List.mem_append_right _ (List.mem_append_right _ (List.mem_append_right _ (List.mem_append_right _ (List.mem_append_right _ (List.mem_append_right _ (List.mem_append_right _ (List.mem_append_left _ h)))))))))))))))))))))
theorem in_r15 : ∀ w ∈ wsL_law0_r15, w ∈ GW := fun _ h => List.mem_append_left _ (List.mem_append_left _ (List.mem_append_left _ (List.mem_append_left _ (List.mem_append_left _ (List.mem_append_left _ (List.mem_append_left _ (List.mem_append_left _ (List.mem_append_right _ (List.mem_append_right _ (List.mem_append_right _ (List.mem_append_right _ (List.mem_append_right _ (List.mem_append_right _ (List.mem_append_right _ (List.mem_append_right _ (List.mem_append_right _ (List.mem_append_right _ (List.mem_append_right _ (List.mem_append_right _ (List.mem_append_right _ (List.mem_append_right _ (List.mem_append_left _ h))))))))))))))))))))))
theorem in_r16 : ∀ w ∈ wsL_law0_r16, w ∈ GW := fun _ h => List.mem_append_left _ (List.mem_append_left _ (List.mem_append_left _ (List.mem_append_left _ (List.mem_append_left _ (List.mem_append_left _ (List.mem_append_left _ (List.mem_append_left _ (List.mem_append_right _ (List.mem_append_right _ (List.mem_append_right _ (List.mem_append_right _ (List.mem_append_right _ (List.mem_append_right _ (List.mem_append_right _ (List.mem_append_right _ (List.mem_append_right _ (List.mem_append_right _ (List.mem_append_right _ (List.mem_append_right _ (List.mem_append_right _ (List.mem_append_right _ (List.mem_append_right _ (List.mem_append_left _ h)))))))))))))))))))))))
theorem in_r17 : ∀ w ∈ wsL_law0_r17, w ∈ GW := fun _ h => List.mem_append_left _ (List.mem_append_left _ (List.mem_append_left _ (List.mem_append_left _ (List.mem_append_left _ (List.mem_append_left _ (List.mem_append_left _ (List.mem_append_left _ (List.mem_append_right _ (List.mem_append_right _ (List.mem_append_right _ (List.mem_append_right _ (List.mem_append_right _ (List.mem_append_right _ (List.mem_append_right _ (List.mem_append_right _ (List.mem_append_right _ (List.mem_append_right _ (List.mem_append_right _ (List.mem_append_right _ (List.mem_append_right _ (List.mem_append_right _ (List.mem_append_right _ (List.mem_append_right _ (List.mem_append_left _ h))))))))))))))))))))))))
theorem in_r18 : ∀ w ∈ wsL_law0_r18, w ∈ GW := fun _ h => List.mem_append_left _ (List.mem_append_left _ (List.mem_append_left _ (List.mem_append_left _ (List.mem_append_left _ (List.mem_append_left _ (List.mem_append_left _ (List.mem_append_left _ (List.mem_append_right _ (List.mem_append_right _ (List.mem_append_right _ (List.mem_append_right _ (List.mem_append_right _ (List.mem_append_right _ (List.mem_append_right _ (List.mem_append_right _ (List.mem_append_right _ (List.mem_append_right _ (List.mem_append_right _ (List.mem_append_right _ (List.mem_append_right _ (List.mem_append_right _ (List.mem_append_right _ (List.mem_append_right _ (List.mem_append_right _ (List.mem_append_left _ h)))))))))))))))))))))))))
theorem in_r19 : ∀ w ∈ wsL_law0_r19, w ∈ GW := fun _ h => List.mem_append_left _ (List.mem_append_left _ (List.mem_append_left _ (List.mem_append_left _ (List.mem_append_left _ (List.mem_append_left _ (List.mem_append_left _ (List.mem_append_left _ (List.mem_append_right _ (List.mem_append_right _ (List.mem_append_right _ (List.mem_append_right _ (List.mem_append_right _ (List.mem_append_right _ (List.mem_append_right _ (List.mem_append_right _ (List.mem_append_right _ (List.mem_append_right _ (List.mem_append_right _ (List.mem_append_right _ (List.mem_append_right _ (List.mem_append_right _ (List.mem_append_right _ (List.mem_append_right _ (List.mem_append_right _ (List.mem_append_right _ (List.mem_append_left _ h))))))))))))))))))))))))))
theorem in_r20 : ∀ w ∈ wsL_law0_r20, w ∈ GW := fun _ h => List.mem_append_left _ (List.mem_append_left _ (List.mem_append_left _ (List.mem_append_left _ (List.mem_append_left _ (List.mem_append_left _ (List.mem_append_left _ (List.mem_append_left _ (List.mem_append_right _ (List.mem_append_right _ (List.mem_append_right _ (List.mem_append_right _ (List.mem_append_right _ (List.mem_append_right _ (List.mem_append_right _ (List.mem_append_right _ (List.mem_append_right _ (List.mem_append_right _ (List.mem_append_right _ (List.mem_append_right _ (List.mem_append_right _ (List.mem_append_right _ (List.mem_append_right _ (List.mem_append_right _ (List.mem_append_right _ (List.mem_append_right _ (List.mem_append_right _ (List.mem_append_left _ h)))))))))))))))))))))))))))
theorem in_r21 : ∀ w ∈ wsL_law0_r21, w ∈ GW := fun _ h => List.mem_append_left _ (List.mem_append_left _ (List.mem_append_left _ (List.mem_append_left _ (List.mem_append_left _ (List.mem_append_left _ (List.mem_append_left _ (List.mem_append_left _ (List.mem_append_right _ (List.mem_append_right _ (List.mem_append_right _ (List.mem_append_right _ (List.mem_append_right _ (List.mem_append_right _ (List.mem_append_right _ (List.mem_append_right _ (List.mem_append_right _ (List.mem_append_right _ (List.mem_append_right _ (List.mem_append_right _ (List.mem_append_right _ (List.mem_append_right _ (List.mem_append_right _ (List.mem_append_right _ (List.mem_append_right _ (List.mem_append_right _ (List.mem_append_right _ (List.mem_append_right _ h)))))))))))))))))))))))))))
theorem mw_0 : Cond.methodLink RL 196 yL_isHeld ∈ GW := in_r1 _ (List.mem_of_getElem? (i := 0) rfl)
theorem mw_1 : Cond.static yL_isHeld ∈ GW := in_r1 _ (List.mem_of_getElem? (i := 1) rfl)
theorem mw_2 : Cond.initialized RL ∈ GW := in_r1 _ (List.mem_of_getElem? (i := 2) rfl)
theorem mw_3 : Cond.codeWith yL_isHeld cL_isHeld 2 (some .boolean) [(0, 4, 5, 190), (0, 4, 8, 192), (0, 4, 11, 194)] ∈ GW := in_r1 _ (List.mem_of_getElem? (i := 3) rfl)
theorem mw_4 : Cond.classLink RL 190 "java/lang/IndexOutOfBoundsException" ∈ GW := in_r1 _ (List.mem_of_getElem? (i := 4) rfl)
theorem mw_5 : Cond.classLink RL 192 "java/lang/IllegalArgumentException" ∈ GW := in_r1 _ (List.mem_of_getElem? (i := 5) rfl)
theorem mw_6 : Cond.classLink RL 194 "java/lang/IllegalStateException" ∈ GW := in_r1 _ (List.mem_of_getElem? (i := 6) rfl)
theorem mw_7 : Cond.methodLink RL 186 yL_holds ∈ GW := in_r1 _ (List.mem_of_getElem? (i := 7) rfl)
theorem mw_8 : Cond.static yL_holds ∈ GW := in_r1 _ (List.mem_of_getElem? (i := 8) rfl)
theorem mw_9 : Cond.code yL_holds cL_holds 10 (some .boolean) ∈ GW := in_r1 _ (List.mem_of_getElem? (i := 9) rfl)
theorem mw_10 : Cond.classLink RL 20 RX2 ∈ GW := in_r1 _ (List.mem_of_getElem? (i := 10) rfl)
theorem mw_11 : Cond.instantiable RX2 18 ∈ GW := in_r1 _ (List.mem_of_getElem? (i := 11) rfl)
theorem mw_12 : Cond.initialized RX2 ∈ GW := in_r1 _ (List.mem_of_getElem? (i := 12) rfl)
theorem mw_13 : Cond.arrayClass .int ∈ GW := in_r1 _ (List.mem_of_getElem? (i := 13) rfl)
theorem mw_14 : Cond.constant RL 150 (1000000000) ∈ GW := in_r1 _ (List.mem_of_getElem? (i := 14) rfl)
theorem mw_15 : Cond.methodLink RL 142 yX2_init ∈ GW := in_r1 _ (List.mem_of_getElem? (i := 15) rfl)
theorem mw_16 : Cond.instanceMethod yX2_init ∈ GW := in_r1 _ (List.mem_of_getElem? (i := 16) rfl)
theorem mw_17 : Cond.code yX2_init cX2_init 1 none ∈ GW := in_r1 _ (List.mem_of_getElem? (i := 17) rfl)
theorem mw_18 : Cond.methodLink RX2 1 objectInit ∈ GW := in_r1 _ (List.mem_of_getElem? (i := 18) rfl)
theorem mw_19 : Cond.instanceMethod objectInit ∈ GW := in_r1 _ (List.mem_of_getElem? (i := 19) rfl)
theorem mw_20 : Cond.code objectInit ⟨#[0xb1]⟩ 1 none ∈ GW := in_r1 _ (List.mem_of_getElem? (i := 20) rfl)
theorem mw_21 : Cond.classLink RX2 7 RJx4a65c ∈ GW := in_r1 _ (List.mem_of_getElem? (i := 21) rfl)
theorem mw_22 : Cond.instantiable RJx4a65c 3 ∈ GW := in_r1 _ (List.mem_of_getElem? (i := 22) rfl)
theorem mw_23 : Cond.initialized RJx4a65c ∈ GW := in_r1 _ (List.mem_of_getElem? (i := 23) rfl)
theorem mw_24 : Cond.fieldLink RX2 10 "ScripHollow" "miners" "Ljava/util/ArrayList;" ∈ GW := in_r2 _ (List.mem_of_getElem? (i := 0) rfl)
theorem mw_25 : Cond.fieldLink RX2 16 "ScripHollow" "dockPercent" "I" ∈ GW := in_r2 _ (List.mem_of_getElem? (i := 1) rfl)
theorem mw_26 : Cond.fieldLink RX2 20 "ScripHollow" "row" "I" ∈ GW := in_r2 _ (List.mem_of_getElem? (i := 2) rfl)
theorem mw_27 : Cond.fieldLink RX2 23 "ScripHollow" "told" "[I" ∈ GW := in_r2 _ (List.mem_of_getElem? (i := 3) rfl)
theorem mw_28 : Cond.classLink RX2 27 RX1 ∈ GW := in_r2 _ (List.mem_of_getElem? (i := 4) rfl)
theorem mw_29 : Cond.instantiable RX1 4 ∈ GW := in_r2 _ (List.mem_of_getElem? (i := 5) rfl)
theorem mw_30 : Cond.initialized RX1 ∈ GW := in_r2 _ (List.mem_of_getElem? (i := 6) rfl)
theorem mw_31 : Cond.fieldLink RX2 30 "ScripHollow" "slip" "LScripHollow$Slip;" ∈ GW := in_r2 _ (List.mem_of_getElem? (i := 7) rfl)
theorem mw_32 : Cond.fieldLink RX2 34 "ScripHollow" "storePrices" "[I" ∈ GW := in_r2 _ (List.mem_of_getElem? (i := 8) rfl)
theorem mw_33 : Cond.fieldLink RX2 37 "ScripHollow" "hillPrices" "[I" ∈ GW := in_r2 _ (List.mem_of_getElem? (i := 9) rfl)
theorem mw_34 : Cond.fieldLink RX2 40 "ScripHollow" "mostDebt" "I" ∈ GW := in_r2 _ (List.mem_of_getElem? (i := 10) rfl)
theorem mw_35 : Cond.fieldLink RX2 43 "ScripHollow" "tavernPercent" "I" ∈ GW := in_r2 _ (List.mem_of_getElem? (i := 11) rfl)
theorem mw_36 : Cond.arrayClass .boolean ∈ GW := in_r2 _ (List.mem_of_getElem? (i := 12) rfl)
theorem mw_37 : Cond.fieldLink RX2 46 "ScripHollow" "laws" "[Z" ∈ GW := in_r2 _ (List.mem_of_getElem? (i := 13) rfl)
theorem mw_38 : Cond.fieldLink RX2 50 "ScripHollow" "lines" "[I" ∈ GW := in_r2 _ (List.mem_of_getElem? (i := 14) rfl)
theorem mw_39 : Cond.methodLink RX2 9 yJx4a65c_init_da8c8 ∈ GW := in_r2 _ (List.mem_of_getElem? (i := 15) rfl)
theorem mw_40 : Cond.instanceMethod yJx4a65c_init_da8c8 ∈ GW := in_r2 _ (List.mem_of_getElem? (i := 16) rfl)
theorem mw_41 : Cond.code yJx4a65c_init_da8c8 cJx4a65c_init_da8c8 1 none ∈ GW := in_r2 _ (List.mem_of_getElem? (i := 17) rfl)
theorem mw_42 : Cond.fieldLink RJx4a65c 39 "java/util/ArrayList" "DEFAULTCAPACITY_EMPTY_ELEMENTDATA" "[Ljava/lang/Object;" ∈ GW := in_r2 _ (List.mem_of_getElem? (i := 18) rfl)
theorem mw_43 : Cond.fieldLink RJx4a65c 9 "java/util/ArrayList" "elementData" "[Ljava/lang/Object;" ∈ GW := in_r2 _ (List.mem_of_getElem? (i := 19) rfl)
theorem mw_44 : Cond.methodLink RJx4a65c 1 yJxc12de_init_da8c8 ∈ GW := in_r2 _ (List.mem_of_getElem? (i := 20) rfl)
theorem mw_45 : Cond.instanceMethod yJxc12de_init_da8c8 ∈ GW := in_r2 _ (List.mem_of_getElem? (i := 21) rfl)
theorem mw_46 : Cond.initialized RJxc12de ∈ GW := in_r2 _ (List.mem_of_getElem? (i := 22) rfl)
theorem mw_47 : Cond.code yJxc12de_init_da8c8 cJxc12de_init_da8c8 1 none ∈ GW := in_r2 _ (List.mem_of_getElem? (i := 23) rfl)
theorem mw_48 : Cond.fieldLink RJxc12de 7 "java/util/AbstractList" "modCount" "I" ∈ GW := in_r3 _ (List.mem_of_getElem? (i := 0) rfl)
theorem mw_49 : Cond.methodLink RJxc12de 1 yJxa1e45_init_da8c8 ∈ GW := in_r3 _ (List.mem_of_getElem? (i := 1) rfl)
theorem mw_50 : Cond.instanceMethod yJxa1e45_init_da8c8 ∈ GW := in_r3 _ (List.mem_of_getElem? (i := 2) rfl)
theorem mw_51 : Cond.initialized RJxa1e45 ∈ GW := in_r3 _ (List.mem_of_getElem? (i := 3) rfl)
theorem mw_52 : Cond.code yJxa1e45_init_da8c8 cJxa1e45_init_da8c8 1 none ∈ GW := in_r3 _ (List.mem_of_getElem? (i := 4) rfl)
theorem mw_53 : Cond.methodLink RJxa1e45 1 objectInit ∈ GW := in_r3 _ (List.mem_of_getElem? (i := 5) rfl)
theorem mw_54 : Cond.instanceMethod yX1_init ∈ GW := in_r3 _ (List.mem_of_getElem? (i := 6) rfl)
theorem mw_55 : Cond.code yX1_init cX1_init 1 none ∈ GW := in_r3 _ (List.mem_of_getElem? (i := 7) rfl)
theorem mw_56 : Cond.methodLink RX1 3 objectInit ∈ GW := in_r3 _ (List.mem_of_getElem? (i := 8) rfl)
theorem mw_57 : Cond.methodLink RL 143 yX2_miner ∈ GW := in_r3 _ (List.mem_of_getElem? (i := 9) rfl)
theorem mw_58 : Cond.instanceMethod yX2_miner ∈ GW := in_r3 _ (List.mem_of_getElem? (i := 10) rfl)
theorem mw_59 : Cond.selects RX2 yX2_miner yX2_miner ∈ GW := in_r3 _ (List.mem_of_getElem? (i := 11) rfl)
theorem mw_60 : Cond.code yX2_miner cX2_miner 1 (some .int) ∈ GW := in_r3 _ (List.mem_of_getElem? (i := 12) rfl)
theorem mw_61 : Cond.classLink RX2 57 "java/lang/IllegalStateException" ∈ GW := in_r3 _ (List.mem_of_getElem? (i := 13) rfl)
theorem mw_62 : Cond.initialized "java/lang/IllegalStateException" ∈ GW := in_r3 _ (List.mem_of_getElem? (i := 14) rfl)
theorem mw_63 : Cond.classLink RX2 64 RX0 ∈ GW := in_r3 _ (List.mem_of_getElem? (i := 15) rfl)
theorem mw_64 : Cond.instantiable RX0 14 ∈ GW := in_r3 _ (List.mem_of_getElem? (i := 16) rfl)
theorem mw_65 : Cond.initialized RX0 ∈ GW := in_r3 _ (List.mem_of_getElem? (i := 17) rfl)
theorem mw_66 : Cond.methodLink RX2 53 yJx4a65c_size_8abf5 ∈ GW := in_r3 _ (List.mem_of_getElem? (i := 18) rfl)
theorem mw_67 : Cond.instanceMethod yJx4a65c_size_8abf5 ∈ GW := in_r3 _ (List.mem_of_getElem? (i := 19) rfl)
theorem mw_68 : Cond.selects RJx4a65c yJx4a65c_size_8abf5 yJx4a65c_size_8abf5 ∈ GW := in_r3 _ (List.mem_of_getElem? (i := 20) rfl)
theorem mw_69 : Cond.code yJx4a65c_size_8abf5 cJx4a65c_size_8abf5 1 (some .int) ∈ GW := in_r3 _ (List.mem_of_getElem? (i := 21) rfl)
theorem mw_70 : Cond.fieldLink RJx4a65c 48 "java/util/ArrayList" "size" "I" ∈ GW := in_r3 _ (List.mem_of_getElem? (i := 22) rfl)
theorem mw_71 : Cond.instanceMethod yX0_init ∈ GW := in_r3 _ (List.mem_of_getElem? (i := 23) rfl)
theorem mw_72 : Cond.code yX0_init cX0_init 1 none ∈ GW := in_r4 _ (List.mem_of_getElem? (i := 0) rfl)
theorem mw_73 : Cond.methodLink RX0 3 objectInit ∈ GW := in_r4 _ (List.mem_of_getElem? (i := 1) rfl)
theorem mw_74 : Cond.fieldLink RX0 9 "ScripHollow$Miner" "isAlive" "Z" ∈ GW := in_r4 _ (List.mem_of_getElem? (i := 2) rfl)
theorem mw_75 : Cond.fieldLink RX0 15 "ScripHollow$Miner" "hasHouse" "Z" ∈ GW := in_r4 _ (List.mem_of_getElem? (i := 3) rfl)
theorem mw_76 : Cond.fieldLink RX0 18 "ScripHollow$Miner" "kinNumber" "I" ∈ GW := in_r4 _ (List.mem_of_getElem? (i := 4) rfl)
theorem mw_77 : Cond.fieldLink RX0 22 "ScripHollow$Miner" "goodsHeld" "[I" ∈ GW := in_r4 _ (List.mem_of_getElem? (i := 5) rfl)
theorem mw_78 : Cond.fieldLink RX0 26 "ScripHollow$Miner" "scripHeld" "[I" ∈ GW := in_r4 _ (List.mem_of_getElem? (i := 6) rfl)
theorem mw_79 : Cond.methodLink RX2 67 yJx4a65c_add_9ea2d ∈ GW := in_r4 _ (List.mem_of_getElem? (i := 7) rfl)
theorem mw_80 : Cond.instanceMethod yJx4a65c_add_9ea2d ∈ GW := in_r4 _ (List.mem_of_getElem? (i := 8) rfl)
theorem mw_81 : Cond.selects RJx4a65c yJx4a65c_add_9ea2d yJx4a65c_add_9ea2d ∈ GW := in_r4 _ (List.mem_of_getElem? (i := 9) rfl)
theorem mw_82 : Cond.code yJx4a65c_add_9ea2d cJx4a65c_add_9ea2d 2 (some .boolean) ∈ GW := in_r4 _ (List.mem_of_getElem? (i := 10) rfl)
theorem mw_83 : Cond.fieldLink RJx4a65c 63 "java/util/ArrayList" "modCount" "I" ∈ GW := in_r4 _ (List.mem_of_getElem? (i := 11) rfl)
theorem mw_84 : Cond.sameField "java/util/ArrayList" "java/util/AbstractList" "modCount" "I" ∈ GW := in_r4 _ (List.mem_of_getElem? (i := 12) rfl)
theorem mw_85 : Cond.methodLink RJx4a65c 131 yJx4a65c_add_72be8 ∈ GW := in_r4 _ (List.mem_of_getElem? (i := 13) rfl)
theorem mw_86 : Cond.instanceMethod yJx4a65c_add_72be8 ∈ GW := in_r4 _ (List.mem_of_getElem? (i := 14) rfl)
theorem mw_87 : Cond.selects RJx4a65c yJx4a65c_add_72be8 yJx4a65c_add_72be8 ∈ GW := in_r4 _ (List.mem_of_getElem? (i := 15) rfl)
theorem mw_88 : Cond.code yJx4a65c_add_72be8 cJx4a65c_add_72be8 4 none ∈ GW := in_r4 _ (List.mem_of_getElem? (i := 16) rfl)
theorem mw_89 : Cond.methodLink RJx4a65c 129 yJx4a65c_grow_d5877 ∈ GW := in_r4 _ (List.mem_of_getElem? (i := 17) rfl)
theorem mw_90 : Cond.instanceMethod yJx4a65c_grow_d5877 ∈ GW := in_r4 _ (List.mem_of_getElem? (i := 18) rfl)
theorem mw_91 : Cond.selects RJx4a65c yJx4a65c_grow_d5877 yJx4a65c_grow_d5877 ∈ GW := in_r4 _ (List.mem_of_getElem? (i := 19) rfl)
theorem mw_92 : Cond.code yJx4a65c_grow_d5877 cJx4a65c_grow_d5877 1 (some (.array (.object "java/lang/Object"))) ∈ GW := in_r4 _ (List.mem_of_getElem? (i := 20) rfl)
theorem mw_93 : Cond.methodLink RJx4a65c 69 yJx4a65c_grow_92f84 ∈ GW := in_r4 _ (List.mem_of_getElem? (i := 21) rfl)
theorem mw_94 : Cond.instanceMethod yJx4a65c_grow_92f84 ∈ GW := in_r4 _ (List.mem_of_getElem? (i := 22) rfl)
theorem mw_95 : Cond.selects RJx4a65c yJx4a65c_grow_92f84 yJx4a65c_grow_92f84 ∈ GW := in_r4 _ (List.mem_of_getElem? (i := 23) rfl)
theorem mw_96 : Cond.code yJx4a65c_grow_92f84 cJx4a65c_grow_92f84 4 (some (.array (.object "java/lang/Object"))) ∈ GW := in_r5 _ (List.mem_of_getElem? (i := 0) rfl)
theorem mw_97 : Cond.methodLink RJx4a65c 79 Lib.Math.max.name ∈ GW := in_r5 _ (List.mem_of_getElem? (i := 1) rfl)
theorem mw_98 : Cond.static Lib.Math.max.name ∈ GW := in_r5 _ (List.mem_of_getElem? (i := 2) rfl)
theorem mw_99 : Cond.initialized "java/lang/Math" ∈ GW := in_r5 _ (List.mem_of_getElem? (i := 3) rfl)
theorem mw_100 : Cond.code Lib.Math.max.name Lib.Math.max.code 2 (some .int) ∈ GW := in_r5 _ (List.mem_of_getElem? (i := 4) rfl)
theorem mw_101 : Cond.classLink RJx4a65c 7 "java/lang/Object" ∈ GW := in_r5 _ (List.mem_of_getElem? (i := 5) rfl)
theorem mw_102 : Cond.methodLink RJx4a65c 73 yJ8_newLength_cabcc ∈ GW := in_r5 _ (List.mem_of_getElem? (i := 6) rfl)
theorem mw_103 : Cond.static yJ8_newLength_cabcc ∈ GW := in_r5 _ (List.mem_of_getElem? (i := 7) rfl)
theorem mw_104 : Cond.initialized RJ8 ∈ GW := in_r5 _ (List.mem_of_getElem? (i := 8) rfl)
theorem mw_105 : Cond.code yJ8_newLength_cabcc cJ8_newLength_cabcc 4 (some .int) ∈ GW := in_r5 _ (List.mem_of_getElem? (i := 9) rfl)
theorem mw_106 : Cond.methodLink RJ8 194 Lib.Math.max.name ∈ GW := in_r5 _ (List.mem_of_getElem? (i := 10) rfl)
theorem mw_107 : Cond.constant RJ8 200 (2147483639) ∈ GW := in_r5 _ (List.mem_of_getElem? (i := 11) rfl)
theorem mw_108 : Cond.methodLink RJ8 201 yJ8_hugeLength_7cf53 ∈ GW := in_r5 _ (List.mem_of_getElem? (i := 12) rfl)
theorem mw_109 : Cond.static yJ8_hugeLength_7cf53 ∈ GW := in_r5 _ (List.mem_of_getElem? (i := 13) rfl)
theorem mw_110 : Cond.code yJ8_hugeLength_7cf53 cJ8_hugeLength_7cf53 3 (some .int) ∈ GW := in_r5 _ (List.mem_of_getElem? (i := 14) rfl)
theorem mw_111 : Cond.methodLink RJx4a65c 66 yJ7_copyOf_1904c ∈ GW := in_r5 _ (List.mem_of_getElem? (i := 15) rfl)
theorem mw_112 : Cond.static yJ7_copyOf_1904c ∈ GW := in_r5 _ (List.mem_of_getElem? (i := 16) rfl)
theorem mw_113 : Cond.initialized RJ7 ∈ GW := in_r5 _ (List.mem_of_getElem? (i := 17) rfl)
theorem mw_114 : Cond.code yJ7_copyOf_1904c cJ7_copyOf_1904c 2 (some (.array (.object "java/lang/Object"))) ∈ GW := in_r5 _ (List.mem_of_getElem? (i := 18) rfl)
theorem mw_115 : Cond.methodLink RJ7 86 ⟨"java/lang/Object", "getClass", "()Ljava/lang/Class;"⟩ ∈ GW := in_r5 _ (List.mem_of_getElem? (i := 19) rfl)
theorem mw_116 : Cond.selects "[Ljava/lang/Object;" ⟨"java/lang/Object", "getClass", "()Ljava/lang/Class;"⟩ ⟨"java/lang/Object", "getClass", "()Ljava/lang/Class;"⟩ ∈ GW := in_r5 _ (List.mem_of_getElem? (i := 20) rfl)
theorem mw_117 : Cond.instanceMethod ⟨"java/lang/Object", "getClass", "()Ljava/lang/Class;"⟩ ∈ GW := in_r5 _ (List.mem_of_getElem? (i := 21) rfl)
theorem mw_118 : Cond.native ⟨"java/lang/Object", "getClass", "()Ljava/lang/Class;"⟩ ∈ GW := in_r5 _ (List.mem_of_getElem? (i := 22) rfl)
theorem mw_119 : Cond.methodLink RJ7 300 yJ7_copyOf_6403c ∈ GW := in_r5 _ (List.mem_of_getElem? (i := 23) rfl)
theorem mw_120 : Cond.static yJ7_copyOf_6403c ∈ GW := in_r6 _ (List.mem_of_getElem? (i := 0) rfl)
theorem mw_121 : Cond.code yJ7_copyOf_6403c cJ7_copyOf_6403c 4 (some (.array (.object "java/lang/Object"))) ∈ GW := in_r6 _ (List.mem_of_getElem? (i := 1) rfl)
theorem mw_122 : Cond.classLink RJ7 110 "[Ljava/lang/Object;" ∈ GW := in_r6 _ (List.mem_of_getElem? (i := 2) rfl)
theorem mw_123 : Cond.classLink RJ7 2 "java/lang/Object" ∈ GW := in_r6 _ (List.mem_of_getElem? (i := 3) rfl)
theorem mw_124 : Cond.methodLink RJ7 304 Lib.Math.min.name ∈ GW := in_r6 _ (List.mem_of_getElem? (i := 4) rfl)
theorem mw_125 : Cond.static Lib.Math.min.name ∈ GW := in_r6 _ (List.mem_of_getElem? (i := 5) rfl)
theorem mw_126 : Cond.code Lib.Math.min.name Lib.Math.min.code 2 (some .int) ∈ GW := in_r6 _ (List.mem_of_getElem? (i := 6) rfl)
theorem mw_127 : Cond.methodLink RJ7 150 arraycopyName ∈ GW := in_r6 _ (List.mem_of_getElem? (i := 7) rfl)
theorem mw_128 : Cond.native arraycopyName ∈ GW := in_r6 _ (List.mem_of_getElem? (i := 8) rfl)
theorem mw_129 : Cond.static arraycopyName ∈ GW := in_r6 _ (List.mem_of_getElem? (i := 9) rfl)
theorem mw_130 : Cond.initialized "java/lang/System" ∈ GW := in_r6 _ (List.mem_of_getElem? (i := 10) rfl)
theorem mw_131 : Cond.methodLink RL 146 yL_from ∈ GW := in_r6 _ (List.mem_of_getElem? (i := 11) rfl)
theorem mw_132 : Cond.static yL_from ∈ GW := in_r6 _ (List.mem_of_getElem? (i := 12) rfl)
theorem mw_133 : Cond.code yL_from cL_from 4 (some .int) ∈ GW := in_r6 _ (List.mem_of_getElem? (i := 13) rfl)
theorem mw_134 : Cond.constant RL 7 (701408) ∈ GW := in_r6 _ (List.mem_of_getElem? (i := 14) rfl)
theorem mw_135 : Cond.constant RL 8 (2147483647) ∈ GW := in_r6 _ (List.mem_of_getElem? (i := 15) rfl)
theorem mw_136 : Cond.methodLink RL 151 yL_isHewn ∈ GW := in_r6 _ (List.mem_of_getElem? (i := 16) rfl)
theorem mw_137 : Cond.static yL_isHewn ∈ GW := in_r6 _ (List.mem_of_getElem? (i := 17) rfl)
theorem mw_138 : Cond.code yL_isHewn cL_isHewn 6 (some .boolean) ∈ GW := in_r6 _ (List.mem_of_getElem? (i := 18) rfl)
theorem mw_139 : Cond.methodLink RL 113 yX2_hew ∈ GW := in_r6 _ (List.mem_of_getElem? (i := 19) rfl)
theorem mw_140 : Cond.instanceMethod yX2_hew ∈ GW := in_r6 _ (List.mem_of_getElem? (i := 20) rfl)
theorem mw_141 : Cond.selects RX2 yX2_hew yX2_hew ∈ GW := in_r6 _ (List.mem_of_getElem? (i := 21) rfl)
theorem mw_142 : Cond.code yX2_hew cX2_hew 4 (some .int) ∈ GW := in_r6 _ (List.mem_of_getElem? (i := 22) rfl)
theorem mw_143 : Cond.fieldLink RX2 95 "ScripHollow" "isStriking" "Z" ∈ GW := in_r6 _ (List.mem_of_getElem? (i := 23) rfl)
theorem mw_144 : Cond.fieldLink RX2 98 "ScripHollow" "isClosed" "Z" ∈ GW := in_r7 _ (List.mem_of_getElem? (i := 0) rfl)
theorem mw_145 : Cond.fieldLink RX2 103 "ScripHollow$Miner" "coal" "I" ∈ GW := in_r7 _ (List.mem_of_getElem? (i := 1) rfl)
theorem mw_146 : Cond.fieldLink RX2 87 "ScripHollow" "isChecked" "Z" ∈ GW := in_r7 _ (List.mem_of_getElem? (i := 2) rfl)
theorem mw_147 : Cond.methodLink RX2 71 yX2_minerAt ∈ GW := in_r7 _ (List.mem_of_getElem? (i := 3) rfl)
theorem mw_148 : Cond.instanceMethod yX2_minerAt ∈ GW := in_r7 _ (List.mem_of_getElem? (i := 4) rfl)
theorem mw_149 : Cond.selects RX2 yX2_minerAt yX2_minerAt ∈ GW := in_r7 _ (List.mem_of_getElem? (i := 5) rfl)
theorem mw_150 : Cond.code yX2_minerAt cX2_minerAt 2 (some (.object "ScripHollow$Miner")) ∈ GW := in_r7 _ (List.mem_of_getElem? (i := 6) rfl)
theorem mw_151 : Cond.classLink RX2 64 "ScripHollow$Miner" ∈ GW := in_r7 _ (List.mem_of_getElem? (i := 7) rfl)
theorem mw_152 : Cond.methodLink RX2 181 yX2_requireIndex ∈ GW := in_r7 _ (List.mem_of_getElem? (i := 8) rfl)
theorem mw_153 : Cond.static yX2_requireIndex ∈ GW := in_r7 _ (List.mem_of_getElem? (i := 9) rfl)
theorem mw_154 : Cond.code yX2_requireIndex cX2_requireIndex 2 none ∈ GW := in_r7 _ (List.mem_of_getElem? (i := 10) rfl)
theorem mw_155 : Cond.classLink RX2 238 "java/lang/IndexOutOfBoundsException" ∈ GW := in_r7 _ (List.mem_of_getElem? (i := 11) rfl)
theorem mw_156 : Cond.initialized "java/lang/IndexOutOfBoundsException" ∈ GW := in_r7 _ (List.mem_of_getElem? (i := 12) rfl)
theorem mw_157 : Cond.methodLink RX2 117 yJx4a65c_get_915e3 ∈ GW := in_r7 _ (List.mem_of_getElem? (i := 13) rfl)
theorem mw_158 : Cond.instanceMethod yJx4a65c_get_915e3 ∈ GW := in_r7 _ (List.mem_of_getElem? (i := 14) rfl)
theorem mw_159 : Cond.selects RJx4a65c yJx4a65c_get_915e3 yJx4a65c_get_915e3 ∈ GW := in_r7 _ (List.mem_of_getElem? (i := 15) rfl)
theorem mw_160 : Cond.code yJx4a65c_get_915e3 cJx4a65c_get_915e3 2 (some (.object "java/lang/Object")) ∈ GW := in_r7 _ (List.mem_of_getElem? (i := 16) rfl)
theorem mw_161 : Cond.methodLink RJx4a65c 118 yJ15_checkIndex_7cf53 ∈ GW := in_r7 _ (List.mem_of_getElem? (i := 17) rfl)
theorem mw_162 : Cond.static yJ15_checkIndex_7cf53 ∈ GW := in_r7 _ (List.mem_of_getElem? (i := 18) rfl)
theorem mw_163 : Cond.initialized RJ15 ∈ GW := in_r7 _ (List.mem_of_getElem? (i := 19) rfl)
theorem mw_164 : Cond.code yJ15_checkIndex_7cf53 cJ15_checkIndex_7cf53 2 (some .int) ∈ GW := in_r7 _ (List.mem_of_getElem? (i := 20) rfl)
theorem mw_165 : Cond.methodLink RJ15 105 yJ3_checkIndex_8e157 ∈ GW := in_r7 _ (List.mem_of_getElem? (i := 21) rfl)
theorem mw_166 : Cond.static yJ3_checkIndex_8e157 ∈ GW := in_r7 _ (List.mem_of_getElem? (i := 22) rfl)
theorem mw_167 : Cond.initialized RJ3 ∈ GW := in_r7 _ (List.mem_of_getElem? (i := 23) rfl)
theorem mw_168 : Cond.code yJ3_checkIndex_8e157 cJ3_checkIndex_8e157 3 (some .int) ∈ GW := in_r8 _ (List.mem_of_getElem? (i := 0) rfl)
theorem mw_169 : Cond.methodLink RJx4a65c 123 yJx4a65c_elementData_915e3 ∈ GW := in_r8 _ (List.mem_of_getElem? (i := 1) rfl)
theorem mw_170 : Cond.instanceMethod yJx4a65c_elementData_915e3 ∈ GW := in_r8 _ (List.mem_of_getElem? (i := 2) rfl)
theorem mw_171 : Cond.selects RJx4a65c yJx4a65c_elementData_915e3 yJx4a65c_elementData_915e3 ∈ GW := in_r8 _ (List.mem_of_getElem? (i := 3) rfl)
theorem mw_172 : Cond.code yJx4a65c_elementData_915e3 cJx4a65c_elementData_915e3 2 (some (.object "java/lang/Object")) ∈ GW := in_r8 _ (List.mem_of_getElem? (i := 4) rfl)
theorem mw_173 : Cond.methodLink RX2 83 yX2_requireRange ∈ GW := in_r8 _ (List.mem_of_getElem? (i := 5) rfl)
theorem mw_174 : Cond.static yX2_requireRange ∈ GW := in_r8 _ (List.mem_of_getElem? (i := 6) rfl)
theorem mw_175 : Cond.code yX2_requireRange cX2_requireRange 3 none ∈ GW := in_r8 _ (List.mem_of_getElem? (i := 7) rfl)
theorem mw_176 : Cond.classLink RX2 75 "java/lang/IllegalArgumentException" ∈ GW := in_r8 _ (List.mem_of_getElem? (i := 8) rfl)
theorem mw_177 : Cond.initialized "java/lang/IllegalArgumentException" ∈ GW := in_r8 _ (List.mem_of_getElem? (i := 9) rfl)
theorem mw_178 : Cond.methodLink RX2 91 yX2_requireAlive ∈ GW := in_r8 _ (List.mem_of_getElem? (i := 10) rfl)
theorem mw_179 : Cond.static yX2_requireAlive ∈ GW := in_r8 _ (List.mem_of_getElem? (i := 11) rfl)
theorem mw_180 : Cond.code yX2_requireAlive cX2_requireAlive 1 none ∈ GW := in_r8 _ (List.mem_of_getElem? (i := 12) rfl)
theorem mw_181 : Cond.fieldLink RX2 121 "ScripHollow$Miner" "isAlive" "Z" ∈ GW := in_r8 _ (List.mem_of_getElem? (i := 13) rfl)
theorem mw_182 : Cond.methodLink RL 155 yL_isPayday ∈ GW := in_r8 _ (List.mem_of_getElem? (i := 14) rfl)
theorem mw_183 : Cond.static yL_isPayday ∈ GW := in_r8 _ (List.mem_of_getElem? (i := 15) rfl)
theorem mw_184 : Cond.code yL_isPayday cL_isPayday 6 (some .boolean) ∈ GW := in_r8 _ (List.mem_of_getElem? (i := 16) rfl)
theorem mw_185 : Cond.methodLink RL 15 yL_pay ∈ GW := in_r8 _ (List.mem_of_getElem? (i := 17) rfl)
theorem mw_186 : Cond.static yL_pay ∈ GW := in_r8 _ (List.mem_of_getElem? (i := 18) rfl)
theorem mw_187 : Cond.code yL_pay cL_pay 12 (some .int) ∈ GW := in_r8 _ (List.mem_of_getElem? (i := 19) rfl)
theorem mw_188 : Cond.methodLink RL 9 yL_take ∈ GW := in_r8 _ (List.mem_of_getElem? (i := 20) rfl)
theorem mw_189 : Cond.static yL_take ∈ GW := in_r8 _ (List.mem_of_getElem? (i := 21) rfl)
theorem mw_190 : Cond.code yL_take cL_take 8 (some .int) ∈ GW := in_r8 _ (List.mem_of_getElem? (i := 22) rfl)
theorem mw_191 : Cond.methodLink RL 19 yX2_payday ∈ GW := in_r8 _ (List.mem_of_getElem? (i := 23) rfl)
theorem mw_192 : Cond.instanceMethod yX2_payday ∈ GW := in_r9 _ (List.mem_of_getElem? (i := 0) rfl)
theorem mw_193 : Cond.selects RX2 yX2_payday yX2_payday ∈ GW := in_r9 _ (List.mem_of_getElem? (i := 1) rfl)
theorem mw_194 : Cond.code yX2_payday cX2_payday 4 (some .int) ∈ GW := in_r9 _ (List.mem_of_getElem? (i := 2) rfl)
theorem mw_195 : Cond.fieldLink RX2 112 "ScripHollow" "paydays" "I" ∈ GW := in_r9 _ (List.mem_of_getElem? (i := 3) rfl)
theorem mw_196 : Cond.fieldLink RX2 127 "ScripHollow$Miner" "latestPay" "I" ∈ GW := in_r9 _ (List.mem_of_getElem? (i := 4) rfl)
theorem mw_197 : Cond.methodLink RX2 124 yX2_settle ∈ GW := in_r9 _ (List.mem_of_getElem? (i := 5) rfl)
theorem mw_198 : Cond.instanceMethod yX2_settle ∈ GW := in_r9 _ (List.mem_of_getElem? (i := 6) rfl)
theorem mw_199 : Cond.selects RX2 yX2_settle yX2_settle ∈ GW := in_r9 _ (List.mem_of_getElem? (i := 7) rfl)
theorem mw_200 : Cond.code yX2_settle cX2_settle 5 none ∈ GW := in_r9 _ (List.mem_of_getElem? (i := 8) rfl)
theorem mw_201 : Cond.fieldLink RX2 259 "ScripHollow$Slip" "rentTaken" "I" ∈ GW := in_r9 _ (List.mem_of_getElem? (i := 9) rfl)
theorem mw_202 : Cond.fieldLink RX2 137 "ScripHollow$Miner" "arrears" "I" ∈ GW := in_r9 _ (List.mem_of_getElem? (i := 10) rfl)
theorem mw_203 : Cond.fieldLink RX2 167 "ScripHollow$Miner" "debt" "I" ∈ GW := in_r9 _ (List.mem_of_getElem? (i := 11) rfl)
theorem mw_204 : Cond.fieldLink RX2 262 "ScripHollow$Slip" "storeTaken" "I" ∈ GW := in_r9 _ (List.mem_of_getElem? (i := 12) rfl)
theorem mw_205 : Cond.fieldLink RX2 265 "ScripHollow$Slip" "unlawful" "I" ∈ GW := in_r9 _ (List.mem_of_getElem? (i := 13) rfl)
theorem mw_206 : Cond.fieldLink RX2 272 "ScripHollow$Slip" "rest" "I" ∈ GW := in_r9 _ (List.mem_of_getElem? (i := 14) rfl)
theorem mw_207 : Cond.fieldLink RX2 134 "ScripHollow$Miner" "hasHouse" "Z" ∈ GW := in_r9 _ (List.mem_of_getElem? (i := 15) rfl)
theorem mw_208 : Cond.methodLink RX2 247 yX2_due ∈ GW := in_r9 _ (List.mem_of_getElem? (i := 16) rfl)
theorem mw_209 : Cond.instanceMethod yX2_due ∈ GW := in_r9 _ (List.mem_of_getElem? (i := 17) rfl)
theorem mw_210 : Cond.selects RX2 yX2_due yX2_due ∈ GW := in_r9 _ (List.mem_of_getElem? (i := 18) rfl)
theorem mw_211 : Cond.code yX2_due cX2_due 3 (some .int) ∈ GW := in_r9 _ (List.mem_of_getElem? (i := 19) rfl)
theorem mw_212 : Cond.methodLink RX2 250 yX1_open ∈ GW := in_r9 _ (List.mem_of_getElem? (i := 20) rfl)
theorem mw_213 : Cond.instanceMethod yX1_open ∈ GW := in_r9 _ (List.mem_of_getElem? (i := 21) rfl)
theorem mw_214 : Cond.selects RX1 yX1_open yX1_open ∈ GW := in_r9 _ (List.mem_of_getElem? (i := 22) rfl)
theorem mw_215 : Cond.code yX1_open cX1_open 2 none ∈ GW := in_r9 _ (List.mem_of_getElem? (i := 23) rfl)
theorem mw_216 : Cond.fieldLink RX1 9 "ScripHollow$Slip" "rest" "I" ∈ GW := in_r10 _ (List.mem_of_getElem? (i := 0) rfl)
theorem mw_217 : Cond.fieldLink RX1 15 "ScripHollow$Slip" "rentTaken" "I" ∈ GW := in_r10 _ (List.mem_of_getElem? (i := 1) rfl)
theorem mw_218 : Cond.fieldLink RX1 18 "ScripHollow$Slip" "storeTaken" "I" ∈ GW := in_r10 _ (List.mem_of_getElem? (i := 2) rfl)
theorem mw_219 : Cond.fieldLink RX1 21 "ScripHollow$Slip" "unlawful" "I" ∈ GW := in_r10 _ (List.mem_of_getElem? (i := 3) rfl)
theorem mw_220 : Cond.methodLink RX2 253 yX2_isPassedBy ∈ GW := in_r10 _ (List.mem_of_getElem? (i := 4) rfl)
theorem mw_221 : Cond.instanceMethod yX2_isPassedBy ∈ GW := in_r10 _ (List.mem_of_getElem? (i := 5) rfl)
theorem mw_222 : Cond.selects RX2 yX2_isPassedBy yX2_isPassedBy ∈ GW := in_r10 _ (List.mem_of_getElem? (i := 6) rfl)
theorem mw_223 : Cond.code yX2_isPassedBy cX2_isPassedBy 2 (some .boolean) ∈ GW := in_r10 _ (List.mem_of_getElem? (i := 7) rfl)
theorem mw_224 : Cond.fieldLink RX2 185 "ScripHollow" "isObeying" "Z" ∈ GW := in_r10 _ (List.mem_of_getElem? (i := 8) rfl)
theorem mw_225 : Cond.methodLink RX2 256 yX1_take ∈ GW := in_r10 _ (List.mem_of_getElem? (i := 9) rfl)
theorem mw_226 : Cond.instanceMethod yX1_take ∈ GW := in_r10 _ (List.mem_of_getElem? (i := 10) rfl)
theorem mw_227 : Cond.selects RX1 yX1_take yX1_take ∈ GW := in_r10 _ (List.mem_of_getElem? (i := 11) rfl)
theorem mw_228 : Cond.code yX1_take cX1_take 4 none ∈ GW := in_r10 _ (List.mem_of_getElem? (i := 12) rfl)
theorem mw_229 : Cond.methodLink RX1 24 Lib.Math.min.name ∈ GW := in_r10 _ (List.mem_of_getElem? (i := 13) rfl)
theorem mw_230 : Cond.methodLink RX2 268 yX2_breach ∈ GW := in_r10 _ (List.mem_of_getElem? (i := 14) rfl)
theorem mw_231 : Cond.instanceMethod yX2_breach ∈ GW := in_r10 _ (List.mem_of_getElem? (i := 15) rfl)
theorem mw_232 : Cond.selects RX2 yX2_breach yX2_breach ∈ GW := in_r10 _ (List.mem_of_getElem? (i := 16) rfl)
theorem mw_233 : Cond.code yX2_breach cX2_breach 4 none ∈ GW := in_r10 _ (List.mem_of_getElem? (i := 17) rfl)
theorem mw_234 : Cond.fieldLink RX2 188 "ScripHollow" "breachCount" "I" ∈ GW := in_r10 _ (List.mem_of_getElem? (i := 18) rfl)
theorem mw_235 : Cond.fieldLink RX2 224 "ScripHollow$Miner" "owed" "I" ∈ GW := in_r10 _ (List.mem_of_getElem? (i := 19) rfl)
theorem mw_236 : Cond.methodLink RX2 275 yX2_hand ∈ GW := in_r10 _ (List.mem_of_getElem? (i := 20) rfl)
theorem mw_237 : Cond.instanceMethod yX2_hand ∈ GW := in_r10 _ (List.mem_of_getElem? (i := 21) rfl)
theorem mw_238 : Cond.selects RX2 yX2_hand yX2_hand ∈ GW := in_r10 _ (List.mem_of_getElem? (i := 22) rfl)
theorem mw_239 : Cond.code yX2_hand cX2_hand 3 none ∈ GW := in_r10 _ (List.mem_of_getElem? (i := 23) rfl)
theorem mw_240 : Cond.fieldLink RX2 158 "ScripHollow$Miner" "coin" "I" ∈ GW := in_r11 _ (List.mem_of_getElem? (i := 0) rfl)
theorem mw_241 : Cond.methodLink RX2 279 yX0_gainScrip ∈ GW := in_r11 _ (List.mem_of_getElem? (i := 1) rfl)
theorem mw_242 : Cond.instanceMethod yX0_gainScrip ∈ GW := in_r11 _ (List.mem_of_getElem? (i := 2) rfl)
theorem mw_243 : Cond.selects RX0 yX0_gainScrip yX0_gainScrip ∈ GW := in_r11 _ (List.mem_of_getElem? (i := 3) rfl)
theorem mw_244 : Cond.code yX0_gainScrip cX0_gainScrip 3 none ∈ GW := in_r11 _ (List.mem_of_getElem? (i := 4) rfl)
theorem mw_245 : Cond.fieldLink RX0 36 "ScripHollow$Miner" "scripCame" "I" ∈ GW := in_r11 _ (List.mem_of_getElem? (i := 5) rfl)
theorem mw_246 : Cond.methodLink RX2 130 yX2_expire ∈ GW := in_r11 _ (List.mem_of_getElem? (i := 6) rfl)
theorem mw_247 : Cond.instanceMethod yX2_expire ∈ GW := in_r11 _ (List.mem_of_getElem? (i := 7) rfl)
theorem mw_248 : Cond.selects RX2 yX2_expire yX2_expire ∈ GW := in_r11 _ (List.mem_of_getElem? (i := 8) rfl)
theorem mw_249 : Cond.code yX2_expire cX2_expire 4 none ∈ GW := in_r11 _ (List.mem_of_getElem? (i := 9) rfl)
theorem mw_250 : Cond.fieldLink RX2 229 "ScripHollow$Miner" "scripHeld" "[I" ∈ GW := in_r11 _ (List.mem_of_getElem? (i := 10) rfl)
theorem mw_251 : Cond.methodLink RX2 282 yX0_loseScrip ∈ GW := in_r11 _ (List.mem_of_getElem? (i := 11) rfl)
theorem mw_252 : Cond.instanceMethod yX0_loseScrip ∈ GW := in_r11 _ (List.mem_of_getElem? (i := 12) rfl)
theorem mw_253 : Cond.selects RX0 yX0_loseScrip yX0_loseScrip ∈ GW := in_r11 _ (List.mem_of_getElem? (i := 13) rfl)
theorem mw_254 : Cond.code yX0_loseScrip cX0_loseScrip 4 (some .int) ∈ GW := in_r11 _ (List.mem_of_getElem? (i := 14) rfl)
theorem mw_255 : Cond.methodLink RX0 39 Lib.Math.min.name ∈ GW := in_r11 _ (List.mem_of_getElem? (i := 15) rfl)
theorem mw_256 : Cond.fieldLink RX0 45 "ScripHollow$Miner" "scripWent" "I" ∈ GW := in_r11 _ (List.mem_of_getElem? (i := 16) rfl)
theorem mw_257 : Cond.methodLink RL 159 yL_isBought ∈ GW := in_r11 _ (List.mem_of_getElem? (i := 17) rfl)
theorem mw_258 : Cond.static yL_isBought ∈ GW := in_r11 _ (List.mem_of_getElem? (i := 18) rfl)
theorem mw_259 : Cond.code yL_isBought cL_isBought 15 (some .boolean) ∈ GW := in_r11 _ (List.mem_of_getElem? (i := 19) rfl)
theorem mw_260 : Cond.methodLink RL 29 yX2_over ∈ GW := in_r11 _ (List.mem_of_getElem? (i := 20) rfl)
theorem mw_261 : Cond.instanceMethod yX2_over ∈ GW := in_r11 _ (List.mem_of_getElem? (i := 21) rfl)
theorem mw_262 : Cond.selects RX2 yX2_over yX2_over ∈ GW := in_r11 _ (List.mem_of_getElem? (i := 22) rfl)
theorem mw_263 : Cond.code yX2_over cX2_over 6 (some .int) ∈ GW := in_r11 _ (List.mem_of_getElem? (i := 23) rfl)
theorem mw_264 : Cond.fieldLink RX2 170 "ScripHollow$Miner" "goodsHeld" "[I" ∈ GW := in_r12 _ (List.mem_of_getElem? (i := 0) rfl)
theorem mw_265 : Cond.methodLink RX2 142 yX2_requireGoods ∈ GW := in_r12 _ (List.mem_of_getElem? (i := 1) rfl)
theorem mw_266 : Cond.static yX2_requireGoods ∈ GW := in_r12 _ (List.mem_of_getElem? (i := 2) rfl)
theorem mw_267 : Cond.code yX2_requireGoods cX2_requireGoods 1 none ∈ GW := in_r12 _ (List.mem_of_getElem? (i := 3) rfl)
theorem mw_268 : Cond.methodLink RL 33 yL_raised ∈ GW := in_r12 _ (List.mem_of_getElem? (i := 4) rfl)
theorem mw_269 : Cond.static yL_raised ∈ GW := in_r12 _ (List.mem_of_getElem? (i := 5) rfl)
theorem mw_270 : Cond.code yL_raised cL_raised 4 (some .int) ∈ GW := in_r12 _ (List.mem_of_getElem? (i := 6) rfl)
theorem mw_271 : Cond.methodLink RL 37 yL_reason ∈ GW := in_r12 _ (List.mem_of_getElem? (i := 7) rfl)
theorem mw_272 : Cond.static yL_reason ∈ GW := in_r12 _ (List.mem_of_getElem? (i := 8) rfl)
theorem mw_273 : Cond.code yL_reason cL_reason 6 (some .int) ∈ GW := in_r12 _ (List.mem_of_getElem? (i := 9) rfl)
theorem mw_274 : Cond.methodLink RL 25 yL_has ∈ GW := in_r12 _ (List.mem_of_getElem? (i := 10) rfl)
theorem mw_275 : Cond.static yL_has ∈ GW := in_r12 _ (List.mem_of_getElem? (i := 11) rfl)
theorem mw_276 : Cond.code yL_has cL_has 4 (some .int) ∈ GW := in_r12 _ (List.mem_of_getElem? (i := 12) rfl)
theorem mw_277 : Cond.methodLink RL 41 yX2_whyNot ∈ GW := in_r12 _ (List.mem_of_getElem? (i := 13) rfl)
theorem mw_278 : Cond.instanceMethod yX2_whyNot ∈ GW := in_r12 _ (List.mem_of_getElem? (i := 14) rfl)
theorem mw_279 : Cond.selects RX2 yX2_whyNot yX2_whyNot ∈ GW := in_r12 _ (List.mem_of_getElem? (i := 15) rfl)
theorem mw_280 : Cond.code yX2_whyNot cX2_whyNot 5 (some .int) ∈ GW := in_r12 _ (List.mem_of_getElem? (i := 16) rfl)
theorem mw_281 : Cond.methodLink RX2 145 yX2_storePrice ∈ GW := in_r12 _ (List.mem_of_getElem? (i := 17) rfl)
theorem mw_282 : Cond.instanceMethod yX2_storePrice ∈ GW := in_r12 _ (List.mem_of_getElem? (i := 18) rfl)
theorem mw_283 : Cond.selects RX2 yX2_storePrice yX2_storePrice ∈ GW := in_r12 _ (List.mem_of_getElem? (i := 19) rfl)
theorem mw_284 : Cond.code yX2_storePrice cX2_storePrice 3 (some .int) ∈ GW := in_r12 _ (List.mem_of_getElem? (i := 20) rfl)
theorem mw_285 : Cond.methodLink RX2 149 yX2_refusal ∈ GW := in_r12 _ (List.mem_of_getElem? (i := 21) rfl)
theorem mw_286 : Cond.instanceMethod yX2_refusal ∈ GW := in_r12 _ (List.mem_of_getElem? (i := 22) rfl)
theorem mw_287 : Cond.selects RX2 yX2_refusal yX2_refusal ∈ GW := in_r12 _ (List.mem_of_getElem? (i := 23) rfl)
theorem mw_288 : Cond.code yX2_refusal cX2_refusal 4 (some .int) ∈ GW := in_r13 _ (List.mem_of_getElem? (i := 0) rfl)
theorem mw_289 : Cond.methodLink RX2 285 yX0_means ∈ GW := in_r13 _ (List.mem_of_getElem? (i := 1) rfl)
theorem mw_290 : Cond.instanceMethod yX0_means ∈ GW := in_r13 _ (List.mem_of_getElem? (i := 2) rfl)
theorem mw_291 : Cond.selects RX0 yX0_means yX0_means ∈ GW := in_r13 _ (List.mem_of_getElem? (i := 3) rfl)
theorem mw_292 : Cond.code yX0_means cX0_means 1 (some .int) ∈ GW := in_r13 _ (List.mem_of_getElem? (i := 4) rfl)
theorem mw_293 : Cond.fieldLink RX0 29 "ScripHollow$Miner" "coin" "I" ∈ GW := in_r13 _ (List.mem_of_getElem? (i := 5) rfl)
theorem mw_294 : Cond.methodLink RX0 32 yX0_allScrip ∈ GW := in_r13 _ (List.mem_of_getElem? (i := 6) rfl)
theorem mw_295 : Cond.instanceMethod yX0_allScrip ∈ GW := in_r13 _ (List.mem_of_getElem? (i := 7) rfl)
theorem mw_296 : Cond.selects RX0 yX0_allScrip yX0_allScrip ∈ GW := in_r13 _ (List.mem_of_getElem? (i := 8) rfl)
theorem mw_297 : Cond.code yX0_allScrip cX0_allScrip 3 (some .int) ∈ GW := in_r13 _ (List.mem_of_getElem? (i := 9) rfl)
theorem mw_298 : Cond.methodLink RL 44 yL_spend ∈ GW := in_r13 _ (List.mem_of_getElem? (i := 10) rfl)
theorem mw_299 : Cond.static yL_spend ∈ GW := in_r13 _ (List.mem_of_getElem? (i := 11) rfl)
theorem mw_300 : Cond.code yL_spend cL_spend 7 (some .int) ∈ GW := in_r13 _ (List.mem_of_getElem? (i := 12) rfl)
theorem mw_301 : Cond.methodLink RL 47 yX2_buy ∈ GW := in_r13 _ (List.mem_of_getElem? (i := 13) rfl)
theorem mw_302 : Cond.instanceMethod yX2_buy ∈ GW := in_r13 _ (List.mem_of_getElem? (i := 14) rfl)
theorem mw_303 : Cond.selects RX2 yX2_buy yX2_buy ∈ GW := in_r13 _ (List.mem_of_getElem? (i := 15) rfl)
theorem mw_304 : Cond.code yX2_buy cX2_buy 8 (some .int) ∈ GW := in_r13 _ (List.mem_of_getElem? (i := 16) rfl)
theorem mw_305 : Cond.methodLink RX2 161 Lib.Math.min.name ∈ GW := in_r13 _ (List.mem_of_getElem? (i := 17) rfl)
theorem mw_306 : Cond.methodLink RX2 154 yX0_loseLowestScrip ∈ GW := in_r13 _ (List.mem_of_getElem? (i := 18) rfl)
theorem mw_307 : Cond.instanceMethod yX0_loseLowestScrip ∈ GW := in_r13 _ (List.mem_of_getElem? (i := 19) rfl)
theorem mw_308 : Cond.selects RX0 yX0_loseLowestScrip yX0_loseLowestScrip ∈ GW := in_r13 _ (List.mem_of_getElem? (i := 20) rfl)
theorem mw_309 : Cond.code yX0_loseLowestScrip cX0_loseLowestScrip 4 (some .int) ∈ GW := in_r13 _ (List.mem_of_getElem? (i := 21) rfl)
theorem mw_310 : Cond.methodLink RX0 48 yX0_loseScrip ∈ GW := in_r13 _ (List.mem_of_getElem? (i := 22) rfl)
theorem mw_311 : Cond.methodLink RL 163 yL_isChanged ∈ GW := in_r13 _ (List.mem_of_getElem? (i := 23) rfl)
theorem mw_312 : Cond.static yL_isChanged ∈ GW := in_r14 _ (List.mem_of_getElem? (i := 0) rfl)
theorem mw_313 : Cond.code yL_isChanged cL_isChanged 10 (some .boolean) ∈ GW := in_r14 _ (List.mem_of_getElem? (i := 1) rfl)
theorem mw_314 : Cond.constant RL 50 (100000) ∈ GW := in_r14 _ (List.mem_of_getElem? (i := 2) rfl)
theorem mw_315 : Cond.methodLink RL 51 yX2_change ∈ GW := in_r14 _ (List.mem_of_getElem? (i := 3) rfl)
theorem mw_316 : Cond.instanceMethod yX2_change ∈ GW := in_r14 _ (List.mem_of_getElem? (i := 4) rfl)
theorem mw_317 : Cond.selects RX2 yX2_change yX2_change ∈ GW := in_r14 _ (List.mem_of_getElem? (i := 5) rfl)
theorem mw_318 : Cond.code yX2_change cX2_change 5 (some .int) ∈ GW := in_r14 _ (List.mem_of_getElem? (i := 6) rfl)
theorem mw_319 : Cond.constant RX2 175 (100000) ∈ GW := in_r14 _ (List.mem_of_getElem? (i := 7) rfl)
theorem mw_320 : Cond.methodLink RX2 176 yX0_allScrip ∈ GW := in_r14 _ (List.mem_of_getElem? (i := 8) rfl)
theorem mw_321 : Cond.methodLink RL 167 yL_isTold ∈ GW := in_r14 _ (List.mem_of_getElem? (i := 9) rfl)
theorem mw_322 : Cond.static yL_isTold ∈ GW := in_r14 _ (List.mem_of_getElem? (i := 10) rfl)
theorem mw_323 : Cond.code yL_isTold cL_isTold 9 (some .boolean) ∈ GW := in_r14 _ (List.mem_of_getElem? (i := 11) rfl)
theorem mw_324 : Cond.constant RL 87 (54321) ∈ GW := in_r14 _ (List.mem_of_getElem? (i := 12) rfl)
theorem mw_325 : Cond.methodLink RL 73 yX2_tell ∈ GW := in_r14 _ (List.mem_of_getElem? (i := 13) rfl)
theorem mw_326 : Cond.instanceMethod yX2_tell ∈ GW := in_r14 _ (List.mem_of_getElem? (i := 14) rfl)
theorem mw_327 : Cond.selects RX2 yX2_tell yX2_tell ∈ GW := in_r14 _ (List.mem_of_getElem? (i := 15) rfl)
theorem mw_328 : Cond.code yX2_tell cX2_tell 4 (some .int) ∈ GW := in_r14 _ (List.mem_of_getElem? (i := 16) rfl)
theorem mw_329 : Cond.methodLink RL 76 yX2_price ∈ GW := in_r14 _ (List.mem_of_getElem? (i := 17) rfl)
theorem mw_330 : Cond.instanceMethod yX2_price ∈ GW := in_r14 _ (List.mem_of_getElem? (i := 18) rfl)
theorem mw_331 : Cond.selects RX2 yX2_price yX2_price ∈ GW := in_r14 _ (List.mem_of_getElem? (i := 19) rfl)
theorem mw_332 : Cond.code yX2_price cX2_price 6 (some .int) ∈ GW := in_r14 _ (List.mem_of_getElem? (i := 20) rfl)
theorem mw_333 : Cond.methodLink RL 80 yX2_dock ∈ GW := in_r14 _ (List.mem_of_getElem? (i := 21) rfl)
theorem mw_334 : Cond.instanceMethod yX2_dock ∈ GW := in_r14 _ (List.mem_of_getElem? (i := 22) rfl)
theorem mw_335 : Cond.selects RX2 yX2_dock yX2_dock ∈ GW := in_r14 _ (List.mem_of_getElem? (i := 23) rfl)
theorem mw_336 : Cond.code yX2_dock cX2_dock 3 (some .int) ∈ GW := in_r15 _ (List.mem_of_getElem? (i := 0) rfl)
theorem mw_337 : Cond.methodLink RL 83 yX2_check ∈ GW := in_r15 _ (List.mem_of_getElem? (i := 1) rfl)
theorem mw_338 : Cond.instanceMethod yX2_check ∈ GW := in_r15 _ (List.mem_of_getElem? (i := 2) rfl)
theorem mw_339 : Cond.selects RX2 yX2_check yX2_check ∈ GW := in_r15 _ (List.mem_of_getElem? (i := 3) rfl)
theorem mw_340 : Cond.code yX2_check cX2_check 3 (some .boolean) ∈ GW := in_r15 _ (List.mem_of_getElem? (i := 4) rfl)
theorem mw_341 : Cond.methodLink RL 88 yX2_edition ∈ GW := in_r15 _ (List.mem_of_getElem? (i := 5) rfl)
theorem mw_342 : Cond.instanceMethod yX2_edition ∈ GW := in_r15 _ (List.mem_of_getElem? (i := 6) rfl)
theorem mw_343 : Cond.selects RX2 yX2_edition yX2_edition ∈ GW := in_r15 _ (List.mem_of_getElem? (i := 7) rfl)
theorem mw_344 : Cond.code yX2_edition cX2_edition 3 (some .int) ∈ GW := in_r15 _ (List.mem_of_getElem? (i := 8) rfl)
theorem mw_345 : Cond.methodLink RX2 106 yX2_isEdition ∈ GW := in_r15 _ (List.mem_of_getElem? (i := 9) rfl)
theorem mw_346 : Cond.static yX2_isEdition ∈ GW := in_r15 _ (List.mem_of_getElem? (i := 10) rfl)
theorem mw_347 : Cond.code yX2_isEdition cX2_isEdition 5 (some .boolean) ∈ GW := in_r15 _ (List.mem_of_getElem? (i := 11) rfl)
theorem mw_348 : Cond.methodLink RL 91 yX2_limit ∈ GW := in_r15 _ (List.mem_of_getElem? (i := 12) rfl)
theorem mw_349 : Cond.instanceMethod yX2_limit ∈ GW := in_r15 _ (List.mem_of_getElem? (i := 13) rfl)
theorem mw_350 : Cond.selects RX2 yX2_limit yX2_limit ∈ GW := in_r15 _ (List.mem_of_getElem? (i := 14) rfl)
theorem mw_351 : Cond.code yX2_limit cX2_limit 3 (some .int) ∈ GW := in_r15 _ (List.mem_of_getElem? (i := 15) rfl)
theorem mw_352 : Cond.methodLink RL 94 yX2_discount ∈ GW := in_r15 _ (List.mem_of_getElem? (i := 16) rfl)
theorem mw_353 : Cond.instanceMethod yX2_discount ∈ GW := in_r15 _ (List.mem_of_getElem? (i := 17) rfl)
theorem mw_354 : Cond.selects RX2 yX2_discount yX2_discount ∈ GW := in_r15 _ (List.mem_of_getElem? (i := 18) rfl)
theorem mw_355 : Cond.code yX2_discount cX2_discount 3 (some .int) ∈ GW := in_r15 _ (List.mem_of_getElem? (i := 19) rfl)
theorem mw_356 : Cond.methodLink RL 97 yX2_law ∈ GW := in_r15 _ (List.mem_of_getElem? (i := 20) rfl)
theorem mw_357 : Cond.instanceMethod yX2_law ∈ GW := in_r15 _ (List.mem_of_getElem? (i := 21) rfl)
theorem mw_358 : Cond.selects RX2 yX2_law yX2_law ∈ GW := in_r15 _ (List.mem_of_getElem? (i := 22) rfl)
theorem mw_359 : Cond.code yX2_law cX2_law 4 (some .boolean) ∈ GW := in_r15 _ (List.mem_of_getElem? (i := 23) rfl)
theorem mw_360 : Cond.methodLink RL 101 yX2_obey ∈ GW := in_r16 _ (List.mem_of_getElem? (i := 0) rfl)
theorem mw_361 : Cond.instanceMethod yX2_obey ∈ GW := in_r16 _ (List.mem_of_getElem? (i := 1) rfl)
theorem mw_362 : Cond.selects RX2 yX2_obey yX2_obey ∈ GW := in_r16 _ (List.mem_of_getElem? (i := 2) rfl)
theorem mw_363 : Cond.code yX2_obey cX2_obey 3 (some .boolean) ∈ GW := in_r16 _ (List.mem_of_getElem? (i := 3) rfl)
theorem mw_364 : Cond.methodLink RL 104 yX2_give ∈ GW := in_r16 _ (List.mem_of_getElem? (i := 4) rfl)
theorem mw_365 : Cond.instanceMethod yX2_give ∈ GW := in_r16 _ (List.mem_of_getElem? (i := 5) rfl)
theorem mw_366 : Cond.selects RX2 yX2_give yX2_give ∈ GW := in_r16 _ (List.mem_of_getElem? (i := 6) rfl)
theorem mw_367 : Cond.code yX2_give cX2_give 2 (some .int) ∈ GW := in_r16 _ (List.mem_of_getElem? (i := 7) rfl)
theorem mw_368 : Cond.fieldLink RX2 211 "ScripHollow" "fund" "I" ∈ GW := in_r16 _ (List.mem_of_getElem? (i := 8) rfl)
theorem mw_369 : Cond.methodLink RL 107 yX2_vote ∈ GW := in_r16 _ (List.mem_of_getElem? (i := 9) rfl)
theorem mw_370 : Cond.instanceMethod yX2_vote ∈ GW := in_r16 _ (List.mem_of_getElem? (i := 10) rfl)
theorem mw_371 : Cond.selects RX2 yX2_vote yX2_vote ∈ GW := in_r16 _ (List.mem_of_getElem? (i := 11) rfl)
theorem mw_372 : Cond.code yX2_vote cX2_vote 5 (some .boolean) ∈ GW := in_r16 _ (List.mem_of_getElem? (i := 12) rfl)
theorem mw_373 : Cond.fieldLink RX2 202 "ScripHollow$Miner" "isForStrike" "Z" ∈ GW := in_r16 _ (List.mem_of_getElem? (i := 13) rfl)
theorem mw_374 : Cond.methodLink RL 110 yX2_kin ∈ GW := in_r16 _ (List.mem_of_getElem? (i := 14) rfl)
theorem mw_375 : Cond.instanceMethod yX2_kin ∈ GW := in_r16 _ (List.mem_of_getElem? (i := 15) rfl)
theorem mw_376 : Cond.selects RX2 yX2_kin yX2_kin ∈ GW := in_r16 _ (List.mem_of_getElem? (i := 16) rfl)
theorem mw_377 : Cond.code yX2_kin cX2_kin 5 (some .int) ∈ GW := in_r16 _ (List.mem_of_getElem? (i := 17) rfl)
theorem mw_378 : Cond.fieldLink RX2 80 "ScripHollow$Miner" "kinNumber" "I" ∈ GW := in_r16 _ (List.mem_of_getElem? (i := 18) rfl)
theorem mw_379 : Cond.methodLink RL 170 yL_isStruck ∈ GW := in_r16 _ (List.mem_of_getElem? (i := 19) rfl)
theorem mw_380 : Cond.static yL_isStruck ∈ GW := in_r16 _ (List.mem_of_getElem? (i := 20) rfl)
theorem mw_381 : Cond.code yL_isStruck cL_isStruck 11 (some .boolean) ∈ GW := in_r16 _ (List.mem_of_getElem? (i := 21) rfl)
theorem mw_382 : Cond.methodLink RL 62 yX2_strike ∈ GW := in_r16 _ (List.mem_of_getElem? (i := 22) rfl)
theorem mw_383 : Cond.instanceMethod yX2_strike ∈ GW := in_r16 _ (List.mem_of_getElem? (i := 23) rfl)
theorem mw_384 : Cond.selects RX2 yX2_strike yX2_strike ∈ GW := in_r17 _ (List.mem_of_getElem? (i := 0) rfl)
theorem mw_385 : Cond.code yX2_strike cX2_strike 1 (some .boolean) ∈ GW := in_r17 _ (List.mem_of_getElem? (i := 1) rfl)
theorem mw_386 : Cond.methodLink RX2 205 yX2_canStrike ∈ GW := in_r17 _ (List.mem_of_getElem? (i := 2) rfl)
theorem mw_387 : Cond.instanceMethod yX2_canStrike ∈ GW := in_r17 _ (List.mem_of_getElem? (i := 3) rfl)
theorem mw_388 : Cond.selects RX2 yX2_canStrike yX2_canStrike ∈ GW := in_r17 _ (List.mem_of_getElem? (i := 4) rfl)
theorem mw_389 : Cond.code yX2_canStrike cX2_canStrike 4 (some .boolean) ∈ GW := in_r17 _ (List.mem_of_getElem? (i := 5) rfl)
theorem mw_390 : Cond.methodLink RL 66 yX2_soup ∈ GW := in_r17 _ (List.mem_of_getElem? (i := 6) rfl)
theorem mw_391 : Cond.instanceMethod yX2_soup ∈ GW := in_r17 _ (List.mem_of_getElem? (i := 7) rfl)
theorem mw_392 : Cond.selects RX2 yX2_soup yX2_soup ∈ GW := in_r17 _ (List.mem_of_getElem? (i := 8) rfl)
theorem mw_393 : Cond.code yX2_soup cX2_soup 4 (some .int) ∈ GW := in_r17 _ (List.mem_of_getElem? (i := 9) rfl)
theorem mw_394 : Cond.methodLink RX2 216 yX2_poorestBut ∈ GW := in_r17 _ (List.mem_of_getElem? (i := 10) rfl)
theorem mw_395 : Cond.instanceMethod yX2_poorestBut ∈ GW := in_r17 _ (List.mem_of_getElem? (i := 11) rfl)
theorem mw_396 : Cond.selects RX2 yX2_poorestBut yX2_poorestBut ∈ GW := in_r17 _ (List.mem_of_getElem? (i := 12) rfl)
theorem mw_397 : Cond.code yX2_poorestBut cX2_poorestBut 7 (some .int) ∈ GW := in_r17 _ (List.mem_of_getElem? (i := 13) rfl)
theorem mw_398 : Cond.methodLink RL 173 yL_isHoused ∈ GW := in_r17 _ (List.mem_of_getElem? (i := 14) rfl)
theorem mw_399 : Cond.static yL_isHoused ∈ GW := in_r17 _ (List.mem_of_getElem? (i := 15) rfl)
theorem mw_400 : Cond.code yL_isHoused cL_isHoused 3 (some .boolean) ∈ GW := in_r17 _ (List.mem_of_getElem? (i := 16) rfl)
theorem mw_401 : Cond.methodLink RL 116 yX2_house ∈ GW := in_r17 _ (List.mem_of_getElem? (i := 17) rfl)
theorem mw_402 : Cond.instanceMethod yX2_house ∈ GW := in_r17 _ (List.mem_of_getElem? (i := 18) rfl)
theorem mw_403 : Cond.selects RX2 yX2_house yX2_house ∈ GW := in_r17 _ (List.mem_of_getElem? (i := 19) rfl)
theorem mw_404 : Cond.code yX2_house cX2_house 3 none ∈ GW := in_r17 _ (List.mem_of_getElem? (i := 20) rfl)
theorem mw_405 : Cond.methodLink RL 120 yX2_about ∈ GW := in_r17 _ (List.mem_of_getElem? (i := 21) rfl)
theorem mw_406 : Cond.instanceMethod yX2_about ∈ GW := in_r17 _ (List.mem_of_getElem? (i := 22) rfl)
theorem mw_407 : Cond.selects RX2 yX2_about yX2_about ∈ GW := in_r17 _ (List.mem_of_getElem? (i := 23) rfl)
theorem mw_408 : Cond.code yX2_about cX2_about 4 (some .int) ∈ GW := in_r18 _ (List.mem_of_getElem? (i := 0) rfl)
theorem mw_409 : Cond.methodLink RL 177 yL_isDead ∈ GW := in_r18 _ (List.mem_of_getElem? (i := 1) rfl)
theorem mw_410 : Cond.static yL_isDead ∈ GW := in_r18 _ (List.mem_of_getElem? (i := 2) rfl)
theorem mw_411 : Cond.code yL_isDead cL_isDead 10 (some .boolean) ∈ GW := in_r18 _ (List.mem_of_getElem? (i := 3) rfl)
theorem mw_412 : Cond.methodLink RL 55 yL_heir ∈ GW := in_r18 _ (List.mem_of_getElem? (i := 4) rfl)
theorem mw_413 : Cond.static yL_heir ∈ GW := in_r18 _ (List.mem_of_getElem? (i := 5) rfl)
theorem mw_414 : Cond.code yL_heir cL_heir 4 (some .int) ∈ GW := in_r18 _ (List.mem_of_getElem? (i := 6) rfl)
theorem mw_415 : Cond.methodLink RL 58 yX2_die ∈ GW := in_r18 _ (List.mem_of_getElem? (i := 7) rfl)
theorem mw_416 : Cond.instanceMethod yX2_die ∈ GW := in_r18 _ (List.mem_of_getElem? (i := 8) rfl)
theorem mw_417 : Cond.selects RX2 yX2_die yX2_die ∈ GW := in_r18 _ (List.mem_of_getElem? (i := 9) rfl)
theorem mw_418 : Cond.code yX2_die cX2_die 4 (some .int) ∈ GW := in_r18 _ (List.mem_of_getElem? (i := 10) rfl)
theorem mw_419 : Cond.methodLink RX2 191 yX2_heirOf ∈ GW := in_r18 _ (List.mem_of_getElem? (i := 11) rfl)
theorem mw_420 : Cond.instanceMethod yX2_heirOf ∈ GW := in_r18 _ (List.mem_of_getElem? (i := 12) rfl)
theorem mw_421 : Cond.selects RX2 yX2_heirOf yX2_heirOf ∈ GW := in_r18 _ (List.mem_of_getElem? (i := 13) rfl)
theorem mw_422 : Cond.code yX2_heirOf cX2_heirOf 5 (some .int) ∈ GW := in_r18 _ (List.mem_of_getElem? (i := 14) rfl)
theorem mw_423 : Cond.methodLink RX2 195 yX0_inherit ∈ GW := in_r18 _ (List.mem_of_getElem? (i := 15) rfl)
theorem mw_424 : Cond.instanceMethod yX0_inherit ∈ GW := in_r18 _ (List.mem_of_getElem? (i := 16) rfl)
theorem mw_425 : Cond.selects RX0 yX0_inherit yX0_inherit ∈ GW := in_r18 _ (List.mem_of_getElem? (i := 17) rfl)
theorem mw_426 : Cond.code yX0_inherit cX0_inherit 4 none ∈ GW := in_r18 _ (List.mem_of_getElem? (i := 18) rfl)
theorem mw_427 : Cond.fieldLink RX0 55 "ScripHollow$Miner" "debt" "I" ∈ GW := in_r18 _ (List.mem_of_getElem? (i := 19) rfl)
theorem mw_428 : Cond.fieldLink RX0 58 "ScripHollow$Miner" "arrears" "I" ∈ GW := in_r18 _ (List.mem_of_getElem? (i := 20) rfl)
theorem mw_429 : Cond.methodLink RX0 51 yX0_gainScrip ∈ GW := in_r18 _ (List.mem_of_getElem? (i := 21) rfl)
theorem mw_430 : Cond.methodLink RX2 199 yX0_leaveAll ∈ GW := in_r18 _ (List.mem_of_getElem? (i := 22) rfl)
theorem mw_431 : Cond.instanceMethod yX0_leaveAll ∈ GW := in_r18 _ (List.mem_of_getElem? (i := 23) rfl)
theorem mw_432 : Cond.selects RX0 yX0_leaveAll yX0_leaveAll ∈ GW := in_r19 _ (List.mem_of_getElem? (i := 0) rfl)
theorem mw_433 : Cond.code yX0_leaveAll cX0_leaveAll 2 none ∈ GW := in_r19 _ (List.mem_of_getElem? (i := 1) rfl)
theorem mw_434 : Cond.fieldLink RX0 61 "ScripHollow$Miner" "coal" "I" ∈ GW := in_r19 _ (List.mem_of_getElem? (i := 2) rfl)
theorem mw_435 : Cond.methodLink RX0 64 yX0_loseLowestScrip ∈ GW := in_r19 _ (List.mem_of_getElem? (i := 3) rfl)
theorem mw_436 : Cond.methodLink RL 180 yL_isClosed ∈ GW := in_r19 _ (List.mem_of_getElem? (i := 4) rfl)
theorem mw_437 : Cond.static yL_isClosed ∈ GW := in_r19 _ (List.mem_of_getElem? (i := 5) rfl)
theorem mw_438 : Cond.code yL_isClosed cL_isClosed 15 (some .boolean) ∈ GW := in_r19 _ (List.mem_of_getElem? (i := 6) rfl)
theorem mw_439 : Cond.constant RL 69 (100001) ∈ GW := in_r19 _ (List.mem_of_getElem? (i := 7) rfl)
theorem mw_440 : Cond.methodLink RL 70 yX2_close ∈ GW := in_r19 _ (List.mem_of_getElem? (i := 8) rfl)
theorem mw_441 : Cond.instanceMethod yX2_close ∈ GW := in_r19 _ (List.mem_of_getElem? (i := 9) rfl)
theorem mw_442 : Cond.selects RX2 yX2_close yX2_close ∈ GW := in_r19 _ (List.mem_of_getElem? (i := 10) rfl)
theorem mw_443 : Cond.code yX2_close cX2_close 4 (some .int) ∈ GW := in_r19 _ (List.mem_of_getElem? (i := 11) rfl)
theorem mw_444 : Cond.methodLink RX2 221 yX2_redeem ∈ GW := in_r19 _ (List.mem_of_getElem? (i := 12) rfl)
theorem mw_445 : Cond.instanceMethod yX2_redeem ∈ GW := in_r19 _ (List.mem_of_getElem? (i := 13) rfl)
theorem mw_446 : Cond.selects RX2 yX2_redeem yX2_redeem ∈ GW := in_r19 _ (List.mem_of_getElem? (i := 14) rfl)
theorem mw_447 : Cond.code yX2_redeem cX2_redeem 9 (some .int) ∈ GW := in_r19 _ (List.mem_of_getElem? (i := 15) rfl)
theorem mw_448 : Cond.methodLink RL 183 yL_isSame ∈ GW := in_r19 _ (List.mem_of_getElem? (i := 16) rfl)
theorem mw_449 : Cond.static yL_isSame ∈ GW := in_r19 _ (List.mem_of_getElem? (i := 17) rfl)
theorem mw_450 : Cond.code yL_isSame cL_isSame 11 (some .boolean) ∈ GW := in_r19 _ (List.mem_of_getElem? (i := 18) rfl)
theorem mw_451 : Cond.methodLink RL 123 yX2_scripAnew ∈ GW := in_r19 _ (List.mem_of_getElem? (i := 19) rfl)
theorem mw_452 : Cond.instanceMethod yX2_scripAnew ∈ GW := in_r19 _ (List.mem_of_getElem? (i := 20) rfl)
theorem mw_453 : Cond.selects RX2 yX2_scripAnew yX2_scripAnew ∈ GW := in_r19 _ (List.mem_of_getElem? (i := 21) rfl)
theorem mw_454 : Cond.code yX2_scripAnew cX2_scripAnew 3 (some .int) ∈ GW := in_r19 _ (List.mem_of_getElem? (i := 22) rfl)
theorem mw_455 : Cond.fieldLink RX2 232 "ScripHollow$Miner" "scripCame" "I" ∈ GW := in_r19 _ (List.mem_of_getElem? (i := 23) rfl)
theorem mw_456 : Cond.fieldLink RX2 235 "ScripHollow$Miner" "scripWent" "I" ∈ GW := in_r20 _ (List.mem_of_getElem? (i := 0) rfl)
theorem mw_457 : Cond.methodLink RL 126 yX2_has ∈ GW := in_r20 _ (List.mem_of_getElem? (i := 1) rfl)
theorem mw_458 : Cond.instanceMethod yX2_has ∈ GW := in_r20 _ (List.mem_of_getElem? (i := 2) rfl)
theorem mw_459 : Cond.selects RX2 yX2_has yX2_has ∈ GW := in_r20 _ (List.mem_of_getElem? (i := 3) rfl)
theorem mw_460 : Cond.code yX2_has cX2_has 4 (some .int) ∈ GW := in_r20 _ (List.mem_of_getElem? (i := 4) rfl)
theorem mw_461 : Cond.methodLink RL 128 yX2_scrip ∈ GW := in_r20 _ (List.mem_of_getElem? (i := 5) rfl)
theorem mw_462 : Cond.instanceMethod yX2_scrip ∈ GW := in_r20 _ (List.mem_of_getElem? (i := 6) rfl)
theorem mw_463 : Cond.selects RX2 yX2_scrip yX2_scrip ∈ GW := in_r20 _ (List.mem_of_getElem? (i := 7) rfl)
theorem mw_464 : Cond.code yX2_scrip cX2_scrip 4 (some .int) ∈ GW := in_r20 _ (List.mem_of_getElem? (i := 8) rfl)
theorem mw_465 : Cond.methodLink RL 131 yX2_raised ∈ GW := in_r20 _ (List.mem_of_getElem? (i := 9) rfl)
theorem mw_466 : Cond.instanceMethod yX2_raised ∈ GW := in_r20 _ (List.mem_of_getElem? (i := 10) rfl)
theorem mw_467 : Cond.selects RX2 yX2_raised yX2_raised ∈ GW := in_r20 _ (List.mem_of_getElem? (i := 11) rfl)
theorem mw_468 : Cond.code yX2_raised cX2_raised 4 (some .int) ∈ GW := in_r20 _ (List.mem_of_getElem? (i := 12) rfl)
theorem mw_469 : Cond.methodLink RL 133 yX2_breaches ∈ GW := in_r20 _ (List.mem_of_getElem? (i := 13) rfl)
theorem mw_470 : Cond.instanceMethod yX2_breaches ∈ GW := in_r20 _ (List.mem_of_getElem? (i := 14) rfl)
theorem mw_471 : Cond.selects RX2 yX2_breaches yX2_breaches ∈ GW := in_r20 _ (List.mem_of_getElem? (i := 15) rfl)
theorem mw_472 : Cond.code yX2_breaches cX2_breaches 1 (some .int) ∈ GW := in_r20 _ (List.mem_of_getElem? (i := 16) rfl)
theorem mw_473 : Cond.methodLink RL 136 yX2_books ∈ GW := in_r20 _ (List.mem_of_getElem? (i := 17) rfl)
theorem mw_474 : Cond.instanceMethod yX2_books ∈ GW := in_r20 _ (List.mem_of_getElem? (i := 18) rfl)
theorem mw_475 : Cond.selects RX2 yX2_books yX2_books ∈ GW := in_r20 _ (List.mem_of_getElem? (i := 19) rfl)
theorem mw_476 : Cond.code yX2_books cX2_books 2 (some .int) ∈ GW := in_r20 _ (List.mem_of_getElem? (i := 20) rfl)
theorem mw_477 : Cond.methodLink RL 139 yX2_baskets ∈ GW := in_r20 _ (List.mem_of_getElem? (i := 21) rfl)
theorem mw_478 : Cond.instanceMethod yX2_baskets ∈ GW := in_r20 _ (List.mem_of_getElem? (i := 22) rfl)
theorem mw_479 : Cond.selects RX2 yX2_baskets yX2_baskets ∈ GW := in_r20 _ (List.mem_of_getElem? (i := 23) rfl)
theorem mw_480 : Cond.code yX2_baskets cX2_baskets 5 (some .int) ∈ GW := in_r21 _ (List.mem_of_getElem? (i := 0) rfl)
set_option maxRecDepth 100000 in
theorem gw_all : GW.all goodWord = true := by decide +kernel
theorem gw_good {w : Cond} (h : w ∈ GW) : GoodIn GW (w :: GW) := fun v hv => ⟨(List.mem_cons.mp hv).elim (fun e => e ▸ h) id, good_of_word (List.all_eq_true.mp gw_all v ((List.mem_cons.mp hv).elim (fun e => e ▸ h) id))⟩
end
section
/-! The town's world: every object of class, reference and law at an id; what ints they hold is M id slot. -/
abbrev Mem : Type := Nat → Nat → Int32
abbrev St : Type := Nat × (Nat → Nat) × (Nat → Int64) × Mem
abbrev mO (k : Nat) : Nat := 28 + 3 * k
abbrev mG (k : Nat) : Nat := 29 + 3 * k
abbrev mS (k : Nat) : Nat := 30 + 3 * k
/-- how many cells: the class's eight, the law's four rows, the list's row, three a miner -/
def cnt (n : Nat) : Nat := if n = 0 then 12 else 13 + 3 * n
/-- which ids there are -/
def Ok (n i : Nat) : Prop := i < 8 ∨ (9 ≤ i ∧ i ≤ 12) ∨ (i = 27 ∧ 0 < n) ∨ (28 ≤ i ∧ i < 28 + 3 * n)
/-- the place of an id, the id of a place -/
def pos (i : Nat) : Nat := if i < 8 then i else if i < 13 then i - 1 else i - 15
def idn (j : Nat) : Nat := if j < 8 then j else if j < 12 then j + 1 else j + 15
theorem pos_lt {n i : Nat} (h : Ok n i) : pos i < cnt n := by unfold Ok at h; unfold pos cnt; (repeat' split) <;> omega
theorem idn_pos {n i : Nat} (h : Ok n i) : idn (pos i) = i := by unfold Ok at h; unfold idn pos; (repeat' split) <;> omega
theorem idn_inj {i j : Nat} (h : idn i = idn j) : i = j := by unfold idn at h; (repeat' split at h) <;> omega
theorem pos_idn {j : Nat} : pos (idn j) = j := by unfold pos idn; (repeat' split) <;> omega
theorem ok_idn {n j : Nat} (h : j < cnt n) : Ok n (idn j) := by unfold cnt at h; unfold Ok idn; (repeat' split) <;> split at h <;> omega
def fs0 (ρ : Nat → Nat) (k : Nat) (f : Nat → Int32) : List Value := [.int (f 0), .int (f 1), .int (f 2), .int (f 3), .int (f 4), .int (f 5), .int (f 6), .int (f 7), .int (f 8), .int (f 9), .ref (ρ (mG k)), .ref (ρ (mS k)), .int (f 12), .int (f 13)]
def fs1 (f : Nat → Int32) : List Value := [.int (f 0), .int (f 1), .int (f 2), .int (f 3)]
def fs2 (ρ : Nat → Nat) (f : Nat → Int32) : List Value := [.ref (ρ 1), .int (f 1), .int (f 2), .int (f 3), .ref (ρ 2), .ref (ρ 3), .int (f 6), .ref (ρ 4), .ref (ρ 5), .int (f 9), .int (f 10), .ref (ρ 6), .int (f 12), .int (f 13), .int (f 14), .int (f 15), .int (f 16), .ref (ρ 7)]
def fsL (n : Nat) (ρ : Nat → Nat) (f : Nat → Int32) : List Value := [.int (f 0), .ref (ρ 27), .int (nI n)]
def minersAt (n : Nat) (ρ : Nat → Nat) : Nat → Option Nat := fun j => if j < n then some (ρ (mO j)) else none
/-- what lies at the id i, if its ints are f -/
def cellOf (cA : Nat → ClassId) (n : Nat) (ρ : Nat → Nat) (J : Nat → Int64) (i : Nat) (f : Nat → Int32) : va_E := match i with
  | 0 => .inr (3, fs2 ρ f)
  | 1 => .inr (0, fsL n ρ f)
  | 2 => .inl (cA 0, 5, .inl f)
  | 3 => .inr (2, fs1 f)
  | 4 => .inl (cA 0, 4, .inl f)
  | 5 => .inl (cA 0, 4, .inl f)
  | 6 => .inl (cA 1, 3, .inl f)
  | 7 => .inl (cA 0, 6, .inl f)
  | 8 => .inl (cA 0, 0, .inl f)
  | 9 => .inl (cA 0, 60, .inl f)
  | 10 => .inl (cA 0, 60, .inl f)
  | 11 => .inl (cA 0, 20, .inl f)
  | 12 => .inl (cA 0, 31, .inl f)
  | 13 => .inl (cA 0, 0, .inl f)
  | 14 => .inl (cA 0, 0, .inl f)
  | 15 => .inl (cA 0, 0, .inl f)
  | 16 => .inl (cA 0, 0, .inl f)
  | 17 => .inl (cA 0, 0, .inl f)
  | 18 => .inl (cA 0, 0, .inl f)
  | 19 => .inl (cA 0, 0, .inl f)
  | 20 => .inl (cA 0, 0, .inl f)
  | 21 => .inl (cA 0, 0, .inl f)
  | 22 => .inl (cA 0, 0, .inl f)
  | 23 => .inl (cA 0, 0, .inl f)
  | 24 => .inl (cA 0, 0, .inl f)
  | 25 => .inl (cA 0, 0, .inl f)
  | 26 => .inl (cA 0, 0, .inl f)
  | 27 => .inl (cA 3, 10, .inr (.inr (.inr (.inr (minersAt n ρ)))))
  | k + 28 => if k % 3 = 0 then .inr (1, fs0 ρ (k / 3) f) else if k % 3 = 1 then .inl (cA 0, 4, .inl f) else .inl (cA 0, 40, .inl f)
/-- one row of the ints anew -/
def up1 (M : Mem) (i : Nat) (g : Nat → Int32) : Mem := fun j => if j = i then g else M j
/-- one int anew -/
def up (M : Mem) (i k : Nat) (v : Int32) : Mem := up1 M i (upd (M i) k v)
def ws (cA : Nat → ClassId) (n : Nat) (ρ : Nat → Nat) (J : Nat → Int64) (M : Mem) : va_W := (List.range (cnt n)).map (fun j => (ρ (idn j), cellOf cA n ρ J (idn j) (M (idn j))))
theorem ws_pl {cA : Nat → ClassId} {n : Nat} {ρ : Nat → Nat} {J : Nat → Int64} {M : Mem} {j : Nat} (h : j < cnt n) : (ws cA n ρ J M)[j]? = some (ρ (idn j), cellOf cA n ρ J (idn j) (M (idn j))) := by
  unfold ws
  rw [List.getElem?_map, List.getElem?_range h]
  rfl
theorem ws_len {cA : Nat → ClassId} {n : Nat} {ρ : Nat → Nat} {J : Nat → Int64} {M : Mem} : (ws cA n ρ J M).length = cnt n := by
  unfold ws
  rw [List.length_map, List.length_range]
theorem ws_at {cA : Nat → ClassId} {n : Nat} {ρ : Nat → Nat} {J : Nat → Int64} {M : Mem} {i : Nat} (h : Ok n i) : (ws cA n ρ J M)[pos i]? = some (ρ i, cellOf cA n ρ J i (M i)) := by
  rw [ws_pl (pos_lt h), idn_pos h]
theorem ws_set {cA : Nat → ClassId} {n : Nat} {ρ : Nat → Nat} {J : Nat → Int64} {M : Mem} {i : Nat} (h : Ok n i) (g : Nat → Int32) : (ws cA n ρ J M).set (pos i) (ρ i, cellOf cA n ρ J i g) = ws cA n ρ J (up1 M i g) := by
  apply List.ext_getElem?
  intro j
  rw [List.getElem?_set]
  by_cases e : pos i = j
  · subst e
    rw [if_pos rfl, ws_len, if_pos (pos_lt h), ws_pl (pos_lt h), idn_pos h]
    unfold up1
    rw [if_pos rfl]
  · rw [if_neg e]
    by_cases hj : j < cnt n
    · have e2 : ¬ idn j = i := fun q => e (by rw [← q, pos_idn])
      rw [ws_pl hj, ws_pl hj]
      unfold up1
      rw [if_neg e2]
    · rw [List.getElem?_eq_none (by rw [ws_len]; omega), List.getElem?_eq_none (by rw [ws_len]; omega)]
theorem cell_O (cA : Nat → ClassId) (n : Nat) (ρ : Nat → Nat) (J : Nat → Int64) (k : Nat) (f : Nat → Int32) : cellOf cA n ρ J (mO k) f = .inr (1, fs0 ρ k f) := by
  rw [show mO k = 3 * k + 28 by unfold mO; omega]
  unfold cellOf
  dsimp only
  rw [if_pos (by omega), show 3 * k / 3 = k by omega]
theorem cell_G (cA : Nat → ClassId) (n : Nat) (ρ : Nat → Nat) (J : Nat → Int64) (k : Nat) (f : Nat → Int32) : cellOf cA n ρ J (mG k) f = .inl (cA 0, 4, .inl f) := by
  rw [show mG k = (3 * k + 1) + 28 by unfold mG; omega]
  unfold cellOf
  dsimp only
  rw [if_neg (by omega), if_pos (by omega)]
theorem cell_S (cA : Nat → ClassId) (n : Nat) (ρ : Nat → Nat) (J : Nat → Int64) (k : Nat) (f : Nat → Int32) : cellOf cA n ρ J (mS k) f = .inl (cA 0, 40, .inl f) := by
  rw [show mS k = (3 * k + 2) + 28 by unfold mS; omega]
  unfold cellOf
  dsimp only
  rw [if_neg (by omega), if_neg (by omega)]
theorem cnt_fix {n i : Nat} (h : i < 8 ∨ (9 ≤ i ∧ i ≤ 12)) : Ok n i := by unfold Ok; omega
theorem cnt_ea {n k : Nat} (h : k < n) : Ok n 27 := by unfold Ok; omega
theorem cnt_O {n k : Nat} (h : k < n) : Ok n (mO k) := by unfold Ok mO; omega
theorem cnt_G {n k : Nat} (h : k < n) : Ok n (mG k) := by unfold Ok mG; omega
theorem cnt_S {n k : Nat} (h : k < n) : Ok n (mS k) := by unfold Ok mS; omega
/-- the array types' rows -/
def tysA (cA : Nat → ClassId) : List (ClassId × FieldType) := [(cA 0, .int), (cA 1, .boolean), (cA 2, .int), (cA 3, .object "java/lang/Object")]
def KK (D : va_G) (cA : Nat → ClassId) (U : State) : Prop := va_K D vwCl (tysA cA) U
end
section
/-! What a method's walk is: the judgement E over worlds, contracts Ct, and the context Cx of a walk. -/
abbrev NGw : List Cond := [.castable "java/lang/IllegalStateException" "java/lang/IllegalStateException", .castable "java/lang/IllegalArgumentException" "java/lang/IllegalArgumentException", .castable "java/lang/IndexOutOfBoundsException" "java/lang/IndexOutOfBoundsException", .declares (Bundle.initS "java/lang/RuntimeException"), .declares (Bundle.initS "java/lang/Exception"), .declares (Bundle.initS Bundle.tN)]
abbrev strs : List (Nat × String) := [(59, "there are 10 miners"), (77, "nobody is their own kin"), (101, "nobody hews now"), (110, "not a row of unlike kinds"), (115, "no payday can be held"), (140, "the miner has a house, or arrears"), (152, "the store refuses"), (173, "the miner has less coin"), (179, "the miner has less scrip"), (209, "no strike can begin"), (214, "there is no strike"), (219, "the mine is closed"), (227, "nothing is told by this number"), (240, "there is none of this number"), (243, "out of its range"), (245, "the miner is not alive")]
/-- what every start gives and no call takes away: the words of the throws, the texts, two statics of Throwable -/
def GP (A : Nat → Prop) (s : State) (H : Heap) : Prop := (∀ q ∈ NGw, va_Nw q s) ∧ (∀ q ∈ strs, ∃ a, vk_R RX2 q.1 q.2 a s) ∧ vx_Zq Bundle.tN "UNASSIGNED_STACK" Bundle.steD A s H ∧ vx_Zq Bundle.tN "SUPPRESSED_SENTINEL" Bundle.listD A s H
theorem ngw_warm {s U : State} (hW : s.WarmedH U.vm) (h : ∀ q ∈ NGw, va_Nw q s) : ∀ q ∈ NGw, va_Nw q U := by
  intro q hq
  have h0 := h q hq
  simp only [NGw, List.mem_cons, List.not_mem_nil, or_false] at hq
  rcases hq with rfl | rfl | rfl | rfl | rfl | rfl
  · exact va_Nw.warmC hW h0
  · exact va_Nw.warmC hW h0
  · exact va_Nw.warmC hW h0
  · exact va_Nw.warmD hW h0
  · exact va_Nw.warmD hW h0
  · exact va_Nw.warmD hW h0
theorem GP.warm {A A' : Nat → Prop} {s U : State} {H0 H : Heap} (hW : s.WarmedH U.vm) (h : GP A s H0) (hq : ∀ a : Nat, a < H0.size → ¬ A a → H[a]? = H0[a]?) (hA : ∀ q, A' q → A q) : GP A' U H := by
  obtain ⟨h1, h2, h3, h4⟩ := h
  refine ⟨ngw_warm hW h1, fun q hq => ?_, ?_, ?_⟩
  · obtain ⟨a, ha⟩ := h2 q hq
    exact ⟨a, vk_R.warm hW ha⟩
  · exact vx_Zq.moved hW.alike ((h3.kept hq).narrow hA)
  · exact vx_Zq.moved hW.alike ((h4.kept hq).narrow hA)
theorem GP.blind {A : Nat → Prop} {U : State} {g : JFrame} {mk : MethodId} {a : Array Value} {H : Heap} (h : GP A U H) : GP A (U.calling g mk a) H := GP.warm (State.WarmedH.refl U) h (fun _ _ _ => rfl) (fun _ q => q)
abbrev CT : Type := (Heap → List Loc → Nat → Nat → JFrame → Prop) × MethodId × va_G × (Nat → ClassId) × (Nat → Prop) × Heap × Nat
/-- the walk stands at pc with these locals, this stack and this world -/
def E (Ξ : CT) (n : Nat) (ρ : Nat → Nat) (J : Nat → Int64) (M : Mem) (a b pc : Nat) (ls : List (Nat × Value)) (st : List Value) : Prop :=
  ∀ (H : Heap) (locs : List Loc) (lsA : Array Slot), va_P Ξ.2.2.1 vwCl (ws Ξ.2.2.2.1 n ρ J M) H → va_D Ξ.2.2.2.2.1 (ws Ξ.2.2.2.1 n ρ J M) → va_S Ξ.2.2.2.2.1 Ξ.2.2.2.2.2.1 H locs → lv_has lsA Ξ.2.2.2.2.2.2 ls → Ξ.1 H locs a b (F0 Ξ.2.1 pc lsA st)
/-- the world of a state, at a machine's state -/
def Bw (D : va_G) (cA : Nat → ClassId) (A : Nat → Prop) (u : St) (t : State) : Prop := va_P D vwCl (ws cA u.1 u.2.1 u.2.2.1 u.2.2.2) t.heap ∧ va_D A (ws cA u.1 u.2.1 u.2.2.1 u.2.2.2)
def Qx (D : va_G) (cA : Nat → ClassId) (A : Nat → Prop) (post : Option Value → St → Prop) : Array Value → State → Outcome → State → Prop := fun _ st o t => (∃ (v : Option Value) (u : St), o = .returned v ∧ post v u ∧ Bw D cA A u t) ∧ va_F A st t
def Xx (D : va_G) (cA : Nat → ClassId) (A : Nat → Prop) (exc : String → St → Prop) : String → State → State → Prop := fun Ex st t => (∃ u : St, exc Ex u ∧ Bw D cA A u t) ∧ va_F A st t
abbrev rmm (h mc ms : Nat) : Room := { frames := h, cells := mc, slots := ms, locals := 30 * h + 60 }
def Ao (cA : Nat → ClassId) (n : Nat) (ρ : Nat → Nat) (J : Nat → Int64) (M : Mem) (sz : Nat) : Nat → Prop := va_A (ws cA n ρ J M) sz
/-- a contract: from this world and these arguments the method returns as post says, or throws as exc says -/
def Ct (l : Launch) (y : MethodName) (W : List Cond) (h mc ms : Nat) (n : Nat) (ρ : Nat → Nat) (J : Nat → Int64) (M : Mem) (As : List Value) (post : Option Value → St → Prop) (exc : String → St → Prop) : Prop :=
  ∀ (D : va_G) (cA : Nat → ClassId) (sz : Nat), vx_Met l y W (rmm h mc ms) (va_Pc As (fun U => U.heap.size = sz ∧ va_P D vwCl (ws cA n ρ J M) U.heap ∧ va_D (fun _ => True) (ws cA n ρ J M) ∧ KK D cA U ∧ GP (Ao cA n ρ J M sz) U U.heap)) (Qx D cA (Ao cA n ρ J M sz) post) (Xx D cA (Ao cA n ρ J M sz) exc) mc ms (Ao cA n ρ J M sz)
/-- what stands throughout a walk -/
def Cx (l : Launch) (R : Room) (cc : ByteArray) (own : String) (ret : Option FieldType) (mc ms : Nat) (tb : List ExceptionTableEntry) (post : Option Value → St → Prop) (exc : String → St → Prop) (Ξ : CT) : Prop :=
  ∃ (p : Program) (e : Env) (s : State) (m : MethodId) (args : Array Value) (below : List Frame) (meth : Method) (c : Code) (D : va_G) (cA : Nat → ClassId) (A : Nat → Prop) (nL : Nat),
    Ξ = (fun H locs a b g => W p l e R s m args below meth c H locs a b (vx_MQ below (Qx D cA A post) (Xx D cA A exc) args s mc ms A) g, m, D, cA, A, s.heap, nL) ∧
    p.tables.exec = Jvm.exec ∧ c.code = cc ∧ c.maxLocals = nL ∧ s.vm.findClass own = some m.cls ∧ (∀ w ∈ GW, w.before args s = true) ∧ KK D cA s ∧ GP A s s.heap ∧ meth.sig.returnType = ret ∧ meth.locks = false ∧ c.exceptionTable.toList = tb ∧ (∀ q, s.heap.size ≤ q → A q) ∧ l.stackTraces = false
theorem KK.blind {D : va_G} {cA : Nat → ClassId} {U : State} {g : JFrame} {mk : MethodId} {a : Array Value} (h : KK D cA U) : KK D cA (U.calling g mk a) := va_K.moved (u := U) (U := U.calling g mk a) (Vm.Alike.refl U.vm) h
/-- a contract out of a walk, of a method without handlers -/
theorem Ct.of {l : Launch} {y : MethodName} {W' : List Cond} {h mc ms n : Nat} {ρ : Nat → Nat} {J : Nat → Int64} {M : Mem} {As : List Value} {post : Option Value → St → Prop} {exc : String → St → Prop} {cc : ByteArray} {maxL : Nat} {ret : Option FieldType}
    (hl : l.stackTraces = false) (hy : plainName y.cls = true) (hw : W' = Cond.code y cc maxL ret :: GW) (hlen : (lg_sl As).length ≤ maxL)
    (body : ∀ Ξ : CT, Ξ.2.2.2.2.2.2 = maxL → Cx l (rmm h mc ms) cc y.cls ret mc ms [] post exc Ξ → E Ξ n ρ J M 0 0 0 (lv_args 0 As) []) : Ct l y W' h mc ms n ρ J M As post exc := by
  intro D cA sz
  refine vx_ofW (cc := cc) (maxL := maxL) (ret := ret) hy hw ?_
  intro p e s m args below meth c s₁ B hml htb hv
  obtain ⟨rfl, hsz, hP, hD0, hK, hG⟩ := hv
  have hts := atoms_spec (ws := W') B.pre
  have hown : s.vm.findClass y.cls = some m.cls := findClass_of_methodNamed B.named
  subst hsz
  have htb' : c.exceptionTable.toList = [] := by
    cases hq : c.exceptionTable.toList with
    | nil => rfl
    | cons x t => exact absurd (htb x (by rw [hq]; exact List.mem_cons_self)) id
  have hC : Cx l (rmm h mc ms) cc y.cls ret mc ms [] post exc (fun H locs a b g => W p l e (rmm h mc ms) s m As.toArray below meth c H locs a b (vx_MQ below (Qx D cA (Ao cA n ρ J M s.heap.size) post) (Xx D cA (Ao cA n ρ J M s.heap.size) exc) As.toArray s mc ms (Ao cA n ρ J M s.heap.size)) g, m, D, cA, Ao cA n ρ J M s.heap.size, s.heap, maxL) :=
    ⟨p, e, s, m, As.toArray, below, meth, c, D, cA, Ao cA n ρ J M s.heap.size, maxL, rfl, B.exec, B.bytes, hml, hown, (fun w hwG => hts w (by rw [hw]; exact List.mem_cons_of_mem _ hwG)), hK, hG, B.returns, B.notSynchronized, htb', (fun q hq => Or.inr hq), hl⟩
  have hE := body _ rfl hC
  have hl0 := lv_entry As (n := maxL) hlen
  rw [lg_entry_eq]
  exact hE s.heap [] _ hP hD0.self va_S.rf hl0
end
section
section Rows
variable {l : Launch} {R : Room} {cc : ByteArray} {own : String} {ret : Option FieldType} {mc ms : Nat} {tb : List ExceptionTableEntry} {post : Option Value → St → Prop} {exc : String → St → Prop} {Ξ : CT}
variable {n : Nat} {ρ : Nat → Nat} {J : Nat → Int64} {M : Mem} {a b pc : Nat} {ls ls2 : List (Nat × Value)} {st : List Value}
theorem e_iconst {k : Int} {v : Int32} (C : Cx l R cc own ret mc ms tb post exc Ξ) (d : decode cc pc = .ok (.iconst k, 1)) (hv : Int32.ofInt k = v) (kk : E Ξ n ρ J M a b (pc + 1) ls (.int v :: st)) : E Ξ n ρ J M a b pc ls st := by
  obtain ⟨p, e, s, m, args, below, meth, c, D, cA, A, nL, rfl, hx, hb, hml, hown, hts, hK, hG, hr, hlk, htb, hA, hst⟩ := C
  intro H locs lsA hP hD hS hl
  exact lv_iconst hx hb d hv (kk H locs lsA hP hD hS hl)
theorem e_bipush {k : Int} {v : Int32} (C : Cx l R cc own ret mc ms tb post exc Ξ) (d : decode cc pc = .ok (.bipush k, 2)) (hv : (Int8.ofInt k).toInt32 = v) (kk : E Ξ n ρ J M a b (pc + 2) ls (.int v :: st)) : E Ξ n ρ J M a b pc ls st := by
  obtain ⟨p, e, s, m, args, below, meth, c, D, cA, A, nL, rfl, hx, hb, hml, hown, hts, hK, hG, hr, hlk, htb, hA, hst⟩ := C
  intro H locs lsA hP hD hS hl
  exact lv_bipush hx hb d hv (kk H locs lsA hP hD hS hl)
theorem e_sipush {k : Int} {v : Int32} (C : Cx l R cc own ret mc ms tb post exc Ξ) (d : decode cc pc = .ok (.sipush k, 3)) (hv : (Int16.ofInt k).toInt32 = v) (kk : E Ξ n ρ J M a b (pc + 3) ls (.int v :: st)) : E Ξ n ρ J M a b pc ls st := by
  obtain ⟨p, e, s, m, args, below, meth, c, D, cA, A, nL, rfl, hx, hb, hml, hown, hts, hK, hG, hr, hlk, htb, hA, hst⟩ := C
  intro H locs lsA hP hD hS hl
  exact lv_sipush hx hb d hv (kk H locs lsA hP hD hS hl)
theorem e_lconst {k : Fin 2} {v : Int64} (C : Cx l R cc own ret mc ms tb post exc Ξ) (d : decode cc pc = .ok (.lconst k, 1)) (hv : Int64.ofNat (k : Nat) = v) (kk : E Ξ n ρ J M a b (pc + 1) ls (.long v :: st)) : E Ξ n ρ J M a b pc ls st := by
  obtain ⟨p, e, s, m, args, below, meth, c, D, cA, A, nL, rfl, hx, hb, hml, hown, hts, hK, hG, hr, hlk, htb, hA, hst⟩ := C
  intro H locs lsA hP hD hS hl
  exact lv_lconst hx hb d hv (kk H locs lsA hP hD hS hl)
theorem e_iload_n {k : Fin 4} {i j : Nat} {x : Int32} (C : Cx l R cc own ret mc ms tb post exc Ξ) (d : decode cc pc = .ok (.iload_n k, 1)) (hi : (k : Nat) = i) (h : ls[j]? = some (i, .int x)) (kk : E Ξ n ρ J M a b (pc + 1) ls (.int x :: st)) : E Ξ n ρ J M a b pc ls st := by
  obtain ⟨p, e, s, m, args, below, meth, c, D, cA, A, nL, rfl, hx, hb, hml, hown, hts, hK, hG, hr, hlk, htb, hA, hst⟩ := C
  intro H locs lsA hP hD hS hl
  exact lv_iload_n hx hb d hi (lv_at hl j h) (kk H locs lsA hP hD hS hl)
theorem e_iload {i j : Nat} {x : Int32} (C : Cx l R cc own ret mc ms tb post exc Ξ) (d : decode cc pc = .ok (.iload i, 2)) (h : ls[j]? = some (i, .int x)) (kk : E Ξ n ρ J M a b (pc + 2) ls (.int x :: st)) : E Ξ n ρ J M a b pc ls st := by
  obtain ⟨p, e, s, m, args, below, meth, c, D, cA, A, nL, rfl, hx, hb, hml, hown, hts, hK, hG, hr, hlk, htb, hA, hst⟩ := C
  intro H locs lsA hP hD hS hl
  exact lv_iload hx hb d (lv_at hl j h) (kk H locs lsA hP hD hS hl)
theorem e_lload_n {k : Fin 4} {i j : Nat} {x : Int64} (C : Cx l R cc own ret mc ms tb post exc Ξ) (d : decode cc pc = .ok (.lload_n k, 1)) (hi : (k : Nat) = i) (h : ls[j]? = some (i, .long x)) (kk : E Ξ n ρ J M a b (pc + 1) ls (.long x :: st)) : E Ξ n ρ J M a b pc ls st := by
  obtain ⟨p, e, s, m, args, below, meth, c, D, cA, A, nL, rfl, hx, hb, hml, hown, hts, hK, hG, hr, hlk, htb, hA, hst⟩ := C
  intro H locs lsA hP hD hS hl
  exact lv_lload_n hx hb d hi (lv_at hl j h) (kk H locs lsA hP hD hS hl)
theorem e_lload {i j : Nat} {x : Int64} (C : Cx l R cc own ret mc ms tb post exc Ξ) (d : decode cc pc = .ok (.lload i, 2)) (h : ls[j]? = some (i, .long x)) (kk : E Ξ n ρ J M a b (pc + 2) ls (.long x :: st)) : E Ξ n ρ J M a b pc ls st := by
  obtain ⟨p, e, s, m, args, below, meth, c, D, cA, A, nL, rfl, hx, hb, hml, hown, hts, hK, hG, hr, hlk, htb, hA, hst⟩ := C
  intro H locs lsA hP hD hS hl
  exact lv_lload hx hb d (lv_at hl j h) (kk H locs lsA hP hD hS hl)
theorem e_aload_n {k : Fin 4} {i j : Nat} {x : Nat} (C : Cx l R cc own ret mc ms tb post exc Ξ) (d : decode cc pc = .ok (.aload_n k, 1)) (hi : (k : Nat) = i) (h : ls[j]? = some (i, .ref x)) (kk : E Ξ n ρ J M a b (pc + 1) ls (.ref x :: st)) : E Ξ n ρ J M a b pc ls st := by
  obtain ⟨p, e, s, m, args, below, meth, c, D, cA, A, nL, rfl, hx, hb, hml, hown, hts, hK, hG, hr, hlk, htb, hA, hst⟩ := C
  intro H locs lsA hP hD hS hl
  exact lv_aload_n hx hb d hi (lv_at hl j h) (kk H locs lsA hP hD hS hl)
theorem e_aload {i j : Nat} {x : Nat} (C : Cx l R cc own ret mc ms tb post exc Ξ) (d : decode cc pc = .ok (.aload i, 2)) (h : ls[j]? = some (i, .ref x)) (kk : E Ξ n ρ J M a b (pc + 2) ls (.ref x :: st)) : E Ξ n ρ J M a b pc ls st := by
  obtain ⟨p, e, s, m, args, below, meth, c, D, cA, A, nL, rfl, hx, hb, hml, hown, hts, hK, hG, hr, hlk, htb, hA, hst⟩ := C
  intro H locs lsA hP hD hS hl
  exact lv_aload hx hb d (lv_at hl j h) (kk H locs lsA hP hD hS hl)
theorem e_istore_n {k : Fin 4} {i nL0 : Nat} {x : Int32} (C : Cx l R cc own ret mc ms tb post exc Ξ) (hnL : Ξ.2.2.2.2.2.2 = nL0) (d : decode cc pc = .ok (.istore_n k, 1)) (hi : (k : Nat) = i) (hn : i < nL0) (hf : (i, Value.int x) :: ls.filter (fun q => !(q.1 == i) && !(q.1 + 1 == i && q.2.category == 2)) = ls2) (kk : E Ξ n ρ J M a b (pc + 1) ls2 st) : E Ξ n ρ J M a b pc ls (.int x :: st) := by
  obtain ⟨p, e, s, m, args, below, meth, c, D, cA, A, nL, rfl, hx, hb, hml, hown, hts, hK, hG, hr, hlk, htb, hA, hst⟩ := C
  intro H locs lsA hP hD hS hl
  subst hnL
  exact lv_istore_n hx hb d hi hl hn hf (fun ls2 hl => kk H locs ls2 hP hD hS hl)
theorem e_istore {i nL0 : Nat} {x : Int32} (C : Cx l R cc own ret mc ms tb post exc Ξ) (hnL : Ξ.2.2.2.2.2.2 = nL0) (d : decode cc pc = .ok (.istore i, 2)) (hn : i < nL0) (hf : (i, Value.int x) :: ls.filter (fun q => !(q.1 == i) && !(q.1 + 1 == i && q.2.category == 2)) = ls2) (kk : E Ξ n ρ J M a b (pc + 2) ls2 st) : E Ξ n ρ J M a b pc ls (.int x :: st) := by
  obtain ⟨p, e, s, m, args, below, meth, c, D, cA, A, nL, rfl, hx, hb, hml, hown, hts, hK, hG, hr, hlk, htb, hA, hst⟩ := C
  intro H locs lsA hP hD hS hl
  subst hnL
  exact lv_istore hx hb d hl hn hf (fun ls2 hl => kk H locs ls2 hP hD hS hl)
theorem e_astore_n {k : Fin 4} {i nL0 : Nat} {x : Nat} (C : Cx l R cc own ret mc ms tb post exc Ξ) (hnL : Ξ.2.2.2.2.2.2 = nL0) (d : decode cc pc = .ok (.astore_n k, 1)) (hi : (k : Nat) = i) (hn : i < nL0) (hf : (i, Value.ref x) :: ls.filter (fun q => !(q.1 == i) && !(q.1 + 1 == i && q.2.category == 2)) = ls2) (kk : E Ξ n ρ J M a b (pc + 1) ls2 st) : E Ξ n ρ J M a b pc ls (.ref x :: st) := by
  obtain ⟨p, e, s, m, args, below, meth, c, D, cA, A, nL, rfl, hx, hb, hml, hown, hts, hK, hG, hr, hlk, htb, hA, hst⟩ := C
  intro H locs lsA hP hD hS hl
  subst hnL
  exact lv_astore_n hx hb d hi hl hn hf (fun ls2 hl => kk H locs ls2 hP hD hS hl)
theorem e_astore {i nL0 : Nat} {x : Nat} (C : Cx l R cc own ret mc ms tb post exc Ξ) (hnL : Ξ.2.2.2.2.2.2 = nL0) (d : decode cc pc = .ok (.astore i, 2)) (hn : i < nL0) (hf : (i, Value.ref x) :: ls.filter (fun q => !(q.1 == i) && !(q.1 + 1 == i && q.2.category == 2)) = ls2) (kk : E Ξ n ρ J M a b (pc + 2) ls2 st) : E Ξ n ρ J M a b pc ls (.ref x :: st) := by
  obtain ⟨p, e, s, m, args, below, meth, c, D, cA, A, nL, rfl, hx, hb, hml, hown, hts, hK, hG, hr, hlk, htb, hA, hst⟩ := C
  intro H locs lsA hP hD hS hl
  subst hnL
  exact lv_astore hx hb d hl hn hf (fun ls2 hl => kk H locs ls2 hP hD hS hl)
theorem e_lstore_n {k : Fin 4} {i nL0 : Nat} {x : Int64} (C : Cx l R cc own ret mc ms tb post exc Ξ) (hnL : Ξ.2.2.2.2.2.2 = nL0) (d : decode cc pc = .ok (.lstore_n k, 1)) (hi : (k : Nat) = i) (hn : i + 1 < nL0) (hf : (i, Value.long x) :: ls.filter (fun q => !(q.1 == i) && (!(q.1 == i + 1) && !(q.1 + 1 == i && q.2.category == 2))) = ls2) (kk : E Ξ n ρ J M a b (pc + 1) ls2 st) : E Ξ n ρ J M a b pc ls (.long x :: st) := by
  obtain ⟨p, e, s, m, args, below, meth, c, D, cA, A, nL, rfl, hx, hb, hml, hown, hts, hK, hG, hr, hlk, htb, hA, hst⟩ := C
  intro H locs lsA hP hD hS hl
  subst hnL
  exact lv_lstore_n hx hb d hi hl hn hf (fun ls2 hl => kk H locs ls2 hP hD hS hl)
theorem e_lstore {i nL0 : Nat} {x : Int64} (C : Cx l R cc own ret mc ms tb post exc Ξ) (hnL : Ξ.2.2.2.2.2.2 = nL0) (d : decode cc pc = .ok (.lstore i, 2)) (hn : i + 1 < nL0) (hf : (i, Value.long x) :: ls.filter (fun q => !(q.1 == i) && (!(q.1 == i + 1) && !(q.1 + 1 == i && q.2.category == 2))) = ls2) (kk : E Ξ n ρ J M a b (pc + 2) ls2 st) : E Ξ n ρ J M a b pc ls (.long x :: st) := by
  obtain ⟨p, e, s, m, args, below, meth, c, D, cA, A, nL, rfl, hx, hb, hml, hown, hts, hK, hG, hr, hlk, htb, hA, hst⟩ := C
  intro H locs lsA hP hD hS hl
  subst hnL
  exact lv_lstore hx hb d hl hn hf (fun ls2 hl => kk H locs ls2 hP hD hS hl)
theorem e_iinc {i j nL0 : Nat} {k : Int} {x v : Int32} (C : Cx l R cc own ret mc ms tb post exc Ξ) (hnL : Ξ.2.2.2.2.2.2 = nL0) (d : decode cc pc = .ok (.iinc i k, 3)) (h : ls[j]? = some (i, .int x)) (hv : x + Int32.ofInt k = v) (hn : i < nL0) (hf : (i, Value.int v) :: ls.filter (fun q => !(q.1 == i) && !(q.1 + 1 == i && q.2.category == 2)) = ls2) (kk : E Ξ n ρ J M a b (pc + 3) ls2 st) : E Ξ n ρ J M a b pc ls st := by
  obtain ⟨p, e, s, m, args, below, meth, c, D, cA, A, nL, rfl, hx, hb, hml, hown, hts, hK, hG, hr, hlk, htb, hA, hst⟩ := C
  intro H locs lsA hP hD hS hl
  subst hnL
  exact lv_iinc hx hb d hl h hv hn hf (fun ls2 hl => kk H locs ls2 hP hD hS hl)
theorem e_iadd {x y : Int32} (C : Cx l R cc own ret mc ms tb post exc Ξ) (d : decode cc pc = .ok (.iadd, 1)) (kk : E Ξ n ρ J M a b (pc + 1) ls (.int (x + y) :: st)) : E Ξ n ρ J M a b pc ls (.int y :: .int x :: st) := by
  obtain ⟨p, e, s, m, args, below, meth, c, D, cA, A, nL, rfl, hx, hb, hml, hown, hts, hK, hG, hr, hlk, htb, hA, hst⟩ := C
  intro H locs lsA hP hD hS hl
  exact lv_iadd hx hb d (kk H locs lsA hP hD hS hl)
theorem e_isub {x y : Int32} (C : Cx l R cc own ret mc ms tb post exc Ξ) (d : decode cc pc = .ok (.isub, 1)) (kk : E Ξ n ρ J M a b (pc + 1) ls (.int (x - y) :: st)) : E Ξ n ρ J M a b pc ls (.int y :: .int x :: st) := by
  obtain ⟨p, e, s, m, args, below, meth, c, D, cA, A, nL, rfl, hx, hb, hml, hown, hts, hK, hG, hr, hlk, htb, hA, hst⟩ := C
  intro H locs lsA hP hD hS hl
  exact lv_isub hx hb d (kk H locs lsA hP hD hS hl)
theorem e_imul {x y : Int32} (C : Cx l R cc own ret mc ms tb post exc Ξ) (d : decode cc pc = .ok (.imul, 1)) (kk : E Ξ n ρ J M a b (pc + 1) ls (.int (x * y) :: st)) : E Ξ n ρ J M a b pc ls (.int y :: .int x :: st) := by
  obtain ⟨p, e, s, m, args, below, meth, c, D, cA, A, nL, rfl, hx, hb, hml, hown, hts, hK, hG, hr, hlk, htb, hA, hst⟩ := C
  intro H locs lsA hP hD hS hl
  exact lv_imul hx hb d (kk H locs lsA hP hD hS hl)
theorem e_iand {x y : Int32} (C : Cx l R cc own ret mc ms tb post exc Ξ) (d : decode cc pc = .ok (.iand, 1)) (kk : E Ξ n ρ J M a b (pc + 1) ls (.int (x &&& y) :: st)) : E Ξ n ρ J M a b pc ls (.int y :: .int x :: st) := by
  obtain ⟨p, e, s, m, args, below, meth, c, D, cA, A, nL, rfl, hx, hb, hml, hown, hts, hK, hG, hr, hlk, htb, hA, hst⟩ := C
  intro H locs lsA hP hD hS hl
  exact lv_iand hx hb d (kk H locs lsA hP hD hS hl)
theorem e_ior {x y : Int32} (C : Cx l R cc own ret mc ms tb post exc Ξ) (d : decode cc pc = .ok (.ior, 1)) (kk : E Ξ n ρ J M a b (pc + 1) ls (.int (x ||| y) :: st)) : E Ξ n ρ J M a b pc ls (.int y :: .int x :: st) := by
  obtain ⟨p, e, s, m, args, below, meth, c, D, cA, A, nL, rfl, hx, hb, hml, hown, hts, hK, hG, hr, hlk, htb, hA, hst⟩ := C
  intro H locs lsA hP hD hS hl
  exact lv_ior hx hb d (kk H locs lsA hP hD hS hl)
theorem e_ishl {x y : Int32} (C : Cx l R cc own ret mc ms tb post exc Ξ) (d : decode cc pc = .ok (.ishl, 1)) (kk : E Ξ n ρ J M a b (pc + 1) ls (.int (x <<< (y &&& 31)) :: st)) : E Ξ n ρ J M a b pc ls (.int y :: .int x :: st) := by
  obtain ⟨p, e, s, m, args, below, meth, c, D, cA, A, nL, rfl, hx, hb, hml, hown, hts, hK, hG, hr, hlk, htb, hA, hst⟩ := C
  intro H locs lsA hP hD hS hl
  exact lv_ishl hx hb d (kk H locs lsA hP hD hS hl)
theorem e_ishr {x y : Int32} (C : Cx l R cc own ret mc ms tb post exc Ξ) (d : decode cc pc = .ok (.ishr, 1)) (kk : E Ξ n ρ J M a b (pc + 1) ls (.int (x >>> (y &&& 31)) :: st)) : E Ξ n ρ J M a b pc ls (.int y :: .int x :: st) := by
  obtain ⟨p, e, s, m, args, below, meth, c, D, cA, A, nL, rfl, hx, hb, hml, hown, hts, hK, hG, hr, hlk, htb, hA, hst⟩ := C
  intro H locs lsA hP hD hS hl
  exact lv_ishr hx hb d (kk H locs lsA hP hD hS hl)
theorem e_idiv {x y : Int32} (C : Cx l R cc own ret mc ms tb post exc Ξ) (d : decode cc pc = .ok (.idiv, 1)) (hne : ¬ y = 0) (kk : E Ξ n ρ J M a b (pc + 1) ls (.int (x / y) :: st)) : E Ξ n ρ J M a b pc ls (.int y :: .int x :: st) := by
  obtain ⟨p, e, s, m, args, below, meth, c, D, cA, A, nL, rfl, hx, hb, hml, hown, hts, hK, hG, hr, hlk, htb, hA, hst⟩ := C
  intro H locs lsA hP hD hS hl
  exact lv_idiv hx hb d hne (kk H locs lsA hP hD hS hl)
theorem e_irem {x y : Int32} (C : Cx l R cc own ret mc ms tb post exc Ξ) (d : decode cc pc = .ok (.irem, 1)) (hne : ¬ y = 0) (kk : E Ξ n ρ J M a b (pc + 1) ls (.int (x - x / y * y) :: st)) : E Ξ n ρ J M a b pc ls (.int y :: .int x :: st) := by
  obtain ⟨p, e, s, m, args, below, meth, c, D, cA, A, nL, rfl, hx, hb, hml, hown, hts, hK, hG, hr, hlk, htb, hA, hst⟩ := C
  intro H locs lsA hP hD hS hl
  exact lv_irem hx hb d hne (kk H locs lsA hP hD hS hl)
theorem e_ladd {x y : Int64} (C : Cx l R cc own ret mc ms tb post exc Ξ) (d : decode cc pc = .ok (.ladd, 1)) (kk : E Ξ n ρ J M a b (pc + 1) ls (.long (x + y) :: st)) : E Ξ n ρ J M a b pc ls (.long y :: .long x :: st) := by
  obtain ⟨p, e, s, m, args, below, meth, c, D, cA, A, nL, rfl, hx, hb, hml, hown, hts, hK, hG, hr, hlk, htb, hA, hst⟩ := C
  intro H locs lsA hP hD hS hl
  exact lv_ladd hx hb d (kk H locs lsA hP hD hS hl)
theorem e_lmul {x y : Int64} (C : Cx l R cc own ret mc ms tb post exc Ξ) (d : decode cc pc = .ok (.lmul, 1)) (kk : E Ξ n ρ J M a b (pc + 1) ls (.long (x * y) :: st)) : E Ξ n ρ J M a b pc ls (.long y :: .long x :: st) := by
  obtain ⟨p, e, s, m, args, below, meth, c, D, cA, A, nL, rfl, hx, hb, hml, hown, hts, hK, hG, hr, hlk, htb, hA, hst⟩ := C
  intro H locs lsA hP hD hS hl
  exact lv_lmul hx hb d (kk H locs lsA hP hD hS hl)
theorem e_ldiv {x y : Int64} (C : Cx l R cc own ret mc ms tb post exc Ξ) (d : decode cc pc = .ok (.ldiv, 1)) (hne : ¬ y = 0) (kk : E Ξ n ρ J M a b (pc + 1) ls (.long (x / y) :: st)) : E Ξ n ρ J M a b pc ls (.long y :: .long x :: st) := by
  obtain ⟨p, e, s, m, args, below, meth, c, D, cA, A, nL, rfl, hx, hb, hml, hown, hts, hK, hG, hr, hlk, htb, hA, hst⟩ := C
  intro H locs lsA hP hD hS hl
  exact lv_ldiv hx hb d hne (kk H locs lsA hP hD hS hl)
theorem e_lcmp {x y : Int64} (C : Cx l R cc own ret mc ms tb post exc Ξ) (d : decode cc pc = .ok (.lcmp, 1)) (kk : E Ξ n ρ J M a b (pc + 1) ls (.int (lg_cmp x y) :: st)) : E Ξ n ρ J M a b pc ls (.long y :: .long x :: st) := by
  obtain ⟨p, e, s, m, args, below, meth, c, D, cA, A, nL, rfl, hx, hb, hml, hown, hts, hK, hG, hr, hlk, htb, hA, hst⟩ := C
  intro H locs lsA hP hD hS hl
  exact W.lcmp hx hb d (kk H locs lsA hP hD hS hl)
theorem e_i2l {x : Int32} (C : Cx l R cc own ret mc ms tb post exc Ξ) (d : decode cc pc = .ok (.i2l, 1)) (kk : E Ξ n ρ J M a b (pc + 1) ls (.long x.toInt64 :: st)) : E Ξ n ρ J M a b pc ls (.int x :: st) := by
  obtain ⟨p, e, s, m, args, below, meth, c, D, cA, A, nL, rfl, hx, hb, hml, hown, hts, hK, hG, hr, hlk, htb, hA, hst⟩ := C
  intro H locs lsA hP hD hS hl
  exact lv_i2l hx hb d rfl (kk H locs lsA hP hD hS hl)
theorem e_l2i {x : Int64} (C : Cx l R cc own ret mc ms tb post exc Ξ) (d : decode cc pc = .ok (.l2i, 1)) (kk : E Ξ n ρ J M a b (pc + 1) ls (.int x.toInt32 :: st)) : E Ξ n ρ J M a b pc ls (.long x :: st) := by
  obtain ⟨p, e, s, m, args, below, meth, c, D, cA, A, nL, rfl, hx, hb, hml, hown, hts, hK, hG, hr, hlk, htb, hA, hst⟩ := C
  intro H locs lsA hP hD hS hl
  exact lv_l2i hx hb d rfl (kk H locs lsA hP hD hS hl)
theorem e_dup {v : Value} (C : Cx l R cc own ret mc ms tb post exc Ξ) (d : decode cc pc = .ok (.dup, 1)) (hv : v.category = 1) (kk : E Ξ n ρ J M a b (pc + 1) ls (v :: v :: st)) : E Ξ n ρ J M a b pc ls (v :: st) := by
  obtain ⟨p, e, s, m, args, below, meth, c, D, cA, A, nL, rfl, hx, hb, hml, hown, hts, hK, hG, hr, hlk, htb, hA, hst⟩ := C
  intro H locs lsA hP hD hS hl
  exact lv_dup hx hb d hv (kk H locs lsA hP hD hS hl)
theorem e_pop {v : Value} (C : Cx l R cc own ret mc ms tb post exc Ξ) (d : decode cc pc = .ok (.pop, 1)) (hv : v.category = 1) (kk : E Ξ n ρ J M a b (pc + 1) ls st) : E Ξ n ρ J M a b pc ls (v :: st) := by
  obtain ⟨p, e, s, m, args, below, meth, c, D, cA, A, nL, rfl, hx, hb, hml, hown, hts, hK, hG, hr, hlk, htb, hA, hst⟩ := C
  intro H locs lsA hP hD hS hl
  exact lv_pop hx hb d hv (kk H locs lsA hP hD hS hl)
theorem e_dup2 {v w : Value} (C : Cx l R cc own ret mc ms tb post exc Ξ) (d : decode cc pc = .ok (.dup2, 1)) (hv : v.category = 1) (hw : w.category = 1) (kk : E Ξ n ρ J M a b (pc + 1) ls (v :: w :: v :: w :: st)) : E Ξ n ρ J M a b pc ls (v :: w :: st) := by
  obtain ⟨p, e, s, m, args, below, meth, c, D, cA, A, nL, rfl, hx, hb, hml, hown, hts, hK, hG, hr, hlk, htb, hA, hst⟩ := C
  intro H locs lsA hP hD hS hl
  exact lv_dup2_11 hx hb d hv hw (kk H locs lsA hP hD hS hl)
theorem e_if_eq {x : Int32} {off : Int} {tgt : Nat} (C : Cx l R cc own ret mc ms tb post exc Ξ) (d : decode cc pc = .ok (.ifCond .eq off, 3)) (ht : (pc : Int) + off = (tgt : Int)) (kt : (x = 0) → E Ξ n ρ J M a b tgt ls st) (kf : ¬ (x = 0) → E Ξ n ρ J M a b (pc + 3) ls st) : E Ξ n ρ J M a b pc ls (.int x :: st) := by
  obtain ⟨p, e, s, m, args, below, meth, c, D, cA, A, nL, rfl, hx, hb, hml, hown, hts, hK, hG, hr, hlk, htb, hA, hst⟩ := C
  intro H locs lsA hP hD hS hl
  exact lv_if_eq hx hb d ht (fun q => kt q H locs lsA hP hD hS hl) (fun q => kf q H locs lsA hP hD hS hl)
theorem e_icmp_eq {x y : Int32} {off : Int} {tgt : Nat} (C : Cx l R cc own ret mc ms tb post exc Ξ) (d : decode cc pc = .ok (.if_icmp .eq off, 3)) (ht : (pc : Int) + off = (tgt : Int)) (kt : (x = y) → E Ξ n ρ J M a b tgt ls st) (kf : ¬ (x = y) → E Ξ n ρ J M a b (pc + 3) ls st) : E Ξ n ρ J M a b pc ls (.int y :: .int x :: st) := by
  obtain ⟨p, e, s, m, args, below, meth, c, D, cA, A, nL, rfl, hx, hb, hml, hown, hts, hK, hG, hr, hlk, htb, hA, hst⟩ := C
  intro H locs lsA hP hD hS hl
  exact lv_icmp_eq hx hb d ht (fun q => kt q H locs lsA hP hD hS hl) (fun q => kf q H locs lsA hP hD hS hl)
theorem e_if_ne {x : Int32} {off : Int} {tgt : Nat} (C : Cx l R cc own ret mc ms tb post exc Ξ) (d : decode cc pc = .ok (.ifCond .ne off, 3)) (ht : (pc : Int) + off = (tgt : Int)) (kt : (¬ x = 0) → E Ξ n ρ J M a b tgt ls st) (kf : (x = 0) → E Ξ n ρ J M a b (pc + 3) ls st) : E Ξ n ρ J M a b pc ls (.int x :: st) := by
  obtain ⟨p, e, s, m, args, below, meth, c, D, cA, A, nL, rfl, hx, hb, hml, hown, hts, hK, hG, hr, hlk, htb, hA, hst⟩ := C
  intro H locs lsA hP hD hS hl
  exact lv_if_ne hx hb d ht (fun q => kt q H locs lsA hP hD hS hl) (fun q => kf q H locs lsA hP hD hS hl)
theorem e_icmp_ne {x y : Int32} {off : Int} {tgt : Nat} (C : Cx l R cc own ret mc ms tb post exc Ξ) (d : decode cc pc = .ok (.if_icmp .ne off, 3)) (ht : (pc : Int) + off = (tgt : Int)) (kt : (¬ x = y) → E Ξ n ρ J M a b tgt ls st) (kf : (x = y) → E Ξ n ρ J M a b (pc + 3) ls st) : E Ξ n ρ J M a b pc ls (.int y :: .int x :: st) := by
  obtain ⟨p, e, s, m, args, below, meth, c, D, cA, A, nL, rfl, hx, hb, hml, hown, hts, hK, hG, hr, hlk, htb, hA, hst⟩ := C
  intro H locs lsA hP hD hS hl
  exact lv_icmp_ne hx hb d ht (fun q => kt q H locs lsA hP hD hS hl) (fun q => kf q H locs lsA hP hD hS hl)
theorem e_if_lt {x : Int32} {off : Int} {tgt : Nat} (C : Cx l R cc own ret mc ms tb post exc Ξ) (d : decode cc pc = .ok (.ifCond .lt off, 3)) (ht : (pc : Int) + off = (tgt : Int)) (kt : (x < 0) → E Ξ n ρ J M a b tgt ls st) (kf : ¬ (x < 0) → E Ξ n ρ J M a b (pc + 3) ls st) : E Ξ n ρ J M a b pc ls (.int x :: st) := by
  obtain ⟨p, e, s, m, args, below, meth, c, D, cA, A, nL, rfl, hx, hb, hml, hown, hts, hK, hG, hr, hlk, htb, hA, hst⟩ := C
  intro H locs lsA hP hD hS hl
  exact lv_if_lt hx hb d ht (fun q => kt q H locs lsA hP hD hS hl) (fun q => kf q H locs lsA hP hD hS hl)
theorem e_icmp_lt {x y : Int32} {off : Int} {tgt : Nat} (C : Cx l R cc own ret mc ms tb post exc Ξ) (d : decode cc pc = .ok (.if_icmp .lt off, 3)) (ht : (pc : Int) + off = (tgt : Int)) (kt : (x < y) → E Ξ n ρ J M a b tgt ls st) (kf : ¬ (x < y) → E Ξ n ρ J M a b (pc + 3) ls st) : E Ξ n ρ J M a b pc ls (.int y :: .int x :: st) := by
  obtain ⟨p, e, s, m, args, below, meth, c, D, cA, A, nL, rfl, hx, hb, hml, hown, hts, hK, hG, hr, hlk, htb, hA, hst⟩ := C
  intro H locs lsA hP hD hS hl
  exact lv_icmp_lt hx hb d ht (fun q => kt q H locs lsA hP hD hS hl) (fun q => kf q H locs lsA hP hD hS hl)
theorem e_if_ge {x : Int32} {off : Int} {tgt : Nat} (C : Cx l R cc own ret mc ms tb post exc Ξ) (d : decode cc pc = .ok (.ifCond .ge off, 3)) (ht : (pc : Int) + off = (tgt : Int)) (kt : (0 ≤ x) → E Ξ n ρ J M a b tgt ls st) (kf : ¬ (0 ≤ x) → E Ξ n ρ J M a b (pc + 3) ls st) : E Ξ n ρ J M a b pc ls (.int x :: st) := by
  obtain ⟨p, e, s, m, args, below, meth, c, D, cA, A, nL, rfl, hx, hb, hml, hown, hts, hK, hG, hr, hlk, htb, hA, hst⟩ := C
  intro H locs lsA hP hD hS hl
  exact lv_if_ge hx hb d ht (fun q => kt q H locs lsA hP hD hS hl) (fun q => kf q H locs lsA hP hD hS hl)
theorem e_icmp_ge {x y : Int32} {off : Int} {tgt : Nat} (C : Cx l R cc own ret mc ms tb post exc Ξ) (d : decode cc pc = .ok (.if_icmp .ge off, 3)) (ht : (pc : Int) + off = (tgt : Int)) (kt : (y ≤ x) → E Ξ n ρ J M a b tgt ls st) (kf : ¬ (y ≤ x) → E Ξ n ρ J M a b (pc + 3) ls st) : E Ξ n ρ J M a b pc ls (.int y :: .int x :: st) := by
  obtain ⟨p, e, s, m, args, below, meth, c, D, cA, A, nL, rfl, hx, hb, hml, hown, hts, hK, hG, hr, hlk, htb, hA, hst⟩ := C
  intro H locs lsA hP hD hS hl
  exact lv_icmp_ge hx hb d ht (fun q => kt q H locs lsA hP hD hS hl) (fun q => kf q H locs lsA hP hD hS hl)
theorem e_if_gt {x : Int32} {off : Int} {tgt : Nat} (C : Cx l R cc own ret mc ms tb post exc Ξ) (d : decode cc pc = .ok (.ifCond .gt off, 3)) (ht : (pc : Int) + off = (tgt : Int)) (kt : (0 < x) → E Ξ n ρ J M a b tgt ls st) (kf : ¬ (0 < x) → E Ξ n ρ J M a b (pc + 3) ls st) : E Ξ n ρ J M a b pc ls (.int x :: st) := by
  obtain ⟨p, e, s, m, args, below, meth, c, D, cA, A, nL, rfl, hx, hb, hml, hown, hts, hK, hG, hr, hlk, htb, hA, hst⟩ := C
  intro H locs lsA hP hD hS hl
  exact lv_if_gt hx hb d ht (fun q => kt q H locs lsA hP hD hS hl) (fun q => kf q H locs lsA hP hD hS hl)
theorem e_icmp_gt {x y : Int32} {off : Int} {tgt : Nat} (C : Cx l R cc own ret mc ms tb post exc Ξ) (d : decode cc pc = .ok (.if_icmp .gt off, 3)) (ht : (pc : Int) + off = (tgt : Int)) (kt : (y < x) → E Ξ n ρ J M a b tgt ls st) (kf : ¬ (y < x) → E Ξ n ρ J M a b (pc + 3) ls st) : E Ξ n ρ J M a b pc ls (.int y :: .int x :: st) := by
  obtain ⟨p, e, s, m, args, below, meth, c, D, cA, A, nL, rfl, hx, hb, hml, hown, hts, hK, hG, hr, hlk, htb, hA, hst⟩ := C
  intro H locs lsA hP hD hS hl
  exact lv_icmp_gt hx hb d ht (fun q => kt q H locs lsA hP hD hS hl) (fun q => kf q H locs lsA hP hD hS hl)
theorem e_if_le {x : Int32} {off : Int} {tgt : Nat} (C : Cx l R cc own ret mc ms tb post exc Ξ) (d : decode cc pc = .ok (.ifCond .le off, 3)) (ht : (pc : Int) + off = (tgt : Int)) (kt : (x ≤ 0) → E Ξ n ρ J M a b tgt ls st) (kf : ¬ (x ≤ 0) → E Ξ n ρ J M a b (pc + 3) ls st) : E Ξ n ρ J M a b pc ls (.int x :: st) := by
  obtain ⟨p, e, s, m, args, below, meth, c, D, cA, A, nL, rfl, hx, hb, hml, hown, hts, hK, hG, hr, hlk, htb, hA, hst⟩ := C
  intro H locs lsA hP hD hS hl
  exact lv_if_le hx hb d ht (fun q => kt q H locs lsA hP hD hS hl) (fun q => kf q H locs lsA hP hD hS hl)
theorem e_icmp_le {x y : Int32} {off : Int} {tgt : Nat} (C : Cx l R cc own ret mc ms tb post exc Ξ) (d : decode cc pc = .ok (.if_icmp .le off, 3)) (ht : (pc : Int) + off = (tgt : Int)) (kt : (x ≤ y) → E Ξ n ρ J M a b tgt ls st) (kf : ¬ (x ≤ y) → E Ξ n ρ J M a b (pc + 3) ls st) : E Ξ n ρ J M a b pc ls (.int y :: .int x :: st) := by
  obtain ⟨p, e, s, m, args, below, meth, c, D, cA, A, nL, rfl, hx, hb, hml, hown, hts, hK, hG, hr, hlk, htb, hA, hst⟩ := C
  intro H locs lsA hP hD hS hl
  exact lv_icmp_le hx hb d ht (fun q => kt q H locs lsA hP hD hS hl) (fun q => kf q H locs lsA hP hD hS hl)
theorem e_goto {off : Int} {tgt : Nat} (C : Cx l R cc own ret mc ms tb post exc Ξ) (d : decode cc pc = .ok (.goto off, 3)) (ht : (pc : Int) + off = (tgt : Int)) (kk : E Ξ n ρ J M a b tgt ls st) : E Ξ n ρ J M a b pc ls st := by
  obtain ⟨p, e, s, m, args, below, meth, c, D, cA, A, nL, rfl, hx, hb, hml, hown, hts, hK, hG, hr, hlk, htb, hA, hst⟩ := C
  intro H locs lsA hP hD hS hl
  exact lv_goto hx hb d ht (kk H locs lsA hP hD hS hl)
theorem e_ldc {i : Nat} {v : Int32} (C : Cx l R cc own ret mc ms tb post exc Ξ) (d : decode cc pc = .ok (.ldc i, 2)) (hw : Cond.constant own i v ∈ GW) (kk : E Ξ n ρ J M a b (pc + 2) ls (.int v :: st)) : E Ξ n ρ J M a b pc ls st := by
  obtain ⟨p, e, s, m, args, below, meth, c, D, cA, A, nL, rfl, hx, hb, hml, hown, hts, hK, hG, hr, hlk, htb, hA, hst⟩ := C
  intro H locs lsA hP hD hS hl
  exact lv_ldc hx hb hown (hts _ hw) d (kk H locs lsA hP hD hS hl)
theorem e_ldc2 {i : Nat} {v : Int64} (C : Cx l R cc own ret mc ms tb post exc Ξ) (d : decode cc pc = .ok (.ldc2_w i, 3)) (hw : Cond.constantLong own i v ∈ GW) (kk : E Ξ n ρ J M a b (pc + 3) ls (.long v :: st)) : E Ξ n ρ J M a b pc ls st := by
  obtain ⟨p, e, s, m, args, below, meth, c, D, cA, A, nL, rfl, hx, hb, hml, hown, hts, hK, hG, hr, hlk, htb, hA, hst⟩ := C
  intro H locs lsA hP hD hS hl
  exact lv_ldc2 hx hb hown (hts _ hw) d (kk H locs lsA hP hD hS hl)
theorem e_get {C0 : String} {T : u_T} {N ci k i idx : Nat} {ref : String} {v : Value} {fs : List Value} (C : Cx l R cc own ret mc ms tb post exc Ξ) (hi : Ok n i) (hcell : ∀ cA, cellOf cA n ρ J i (M i) = .inr (ci, fs)) (hc : vwCl[ci]? = some (C0, T, N)) (hin : ∀ w ∈ u_ws C0 T N, w ∈ GW) (hk : k < N) (hsame : ref = (T k).1) (hv : fs[k]? = some v) (hw : Cond.fieldLink own idx ref (T k).2.1 (T k).2.2.1 ∈ GW) (d : decode cc pc = .ok (.getfield idx, 3)) (kk : E Ξ n ρ J M a b (pc + 3) ls (v :: st)) : E Ξ n ρ J M a b pc ls (.ref (ρ i) :: st) := by
  obtain ⟨p, e, s, m, args, below, meth, c, D, cA, A, nL, rfl, hx, hb, hml, hown, hts, hK, hG, hr, hlk, htb, hA, hst⟩ := C
  intro H locs lsA hP hD hS hl
  exact va_get (D := D) (ci := ci) (v := v) (C := C0) (T := T) (N := N) hx hb hts hin hown hK hP (pos i) ((ws_at hi).trans (congrArg (fun z => some (ρ i, z)) (hcell cA))) hc k hk (hts _ hw) (fun z h9 => hsame ▸ h9) hv d (kk H locs lsA hP hD hS hl)
theorem e_put {C0 : String} {T : u_T} {N ci k i idx : Nat} {ref : String} {x : Int32} {fs : List Value} {ty0 : Nat → FieldType} {ty : FieldType} (C : Cx l R cc own ret mc ms tb post exc Ξ) (hi : Ok n i) (hcell : ∀ cA, cellOf cA n ρ J i (M i) = .inr (ci, fs)) (hc : vwCl[ci]? = some (C0, T, N)) (hin : ∀ w ∈ u_ws C0 T N, w ∈ GW) (hty : ∀ k, k < N → parseFieldDescriptor (T k).2.2.1 = some (ty0 k)) (hnm : ∀ a, a < N → ∀ b, b < N → a ≠ b → (T a).2.1 ≠ (T b).2.1) (hk : k < N) (hsame : ref = (T k).1) (hfin : (T k).2.2.2 = false) (hd : parseFieldDescriptor (T k).2.2.1 = some ty) (hn : narrow ty (.int x) = .int x) (hfit : fits ty (.int x) = true) (hlen : k < fs.length) (hset : ∀ cA, (Sum.inr (ci, fs.set k (.int x)) : va_E) = cellOf cA n ρ J i (upd (M i) k x)) (hw : Cond.fieldLink own idx ref (T k).2.1 (T k).2.2.1 ∈ GW) (d : decode cc pc = .ok (.putfield idx, 3)) (kk : E Ξ n ρ J (up M i k x) a b (pc + 3) ls st) : E Ξ n ρ J M a b pc ls (.int x :: .ref (ρ i) :: st) := by
  obtain ⟨p, e, s, m, args, below, meth, c, D, cA, A, nL, rfl, hx, hb, hml, hown, hts, hK, hG, hr, hlk, htb, hA, hst⟩ := C
  intro H locs lsA hP hD hS hl
  have he : (ws cA n ρ J M)[pos i]? = some (ρ i, .inr (ci, fs)) := (ws_at hi).trans (congrArg (fun z => some (ρ i, z)) (hcell cA))
  have e1 : (ws cA n ρ J M).set (pos i) (ρ i, .inr (ci, fs.set k (.int x))) = ws cA n ρ J (up M i k x) := by rw [hset cA, ws_set hi]; rfl
  refine va_put (D := D) (ci := ci) (v := .int x) (ty := ty) (C := C0) (T := T) (N := N) hx hb hts hin ty0 hty hnm hown hK hP hD hS (pos i) he hc k hk (hts _ hw) (fun z h9 => hsame ▸ h9) hfin hd hn hfit hlen d (fun H1 locs1 hP hD hS => ?_)
  rw [e1] at hP hD
  exact kk H1 locs1 lsA hP hD hS hl
theorem e_iald {i N : Nat} {x : Int32} (C : Cx l R cc own ret mc ms tb post exc Ξ) (hi : Ok n i) (hcell : ∀ cA : Nat → ClassId, cellOf cA n ρ J i (M i) = .inl (cA 0, N, .inl (M i))) (hin : vp_in x N) (d : decode cc pc = .ok (.iaload, 1)) (kk : E Ξ n ρ J M a b (pc + 1) ls (.int (M i x.toNatClampNeg) :: st)) : E Ξ n ρ J M a b pc ls (.int x :: .ref (ρ i) :: st) := by
  obtain ⟨p, e, s, m, args, below, meth, c, D, cA, A, nL, rfl, hx, hb, hml, hown, hts, hK, hG, hr, hlk, htb, hA, hst⟩ := C
  intro H locs lsA hP hD hS hl
  exact va_iald hx hb hK hP (pos i) 0 ((ws_at hi).trans (congrArg (fun z => some (ρ i, z)) (hcell cA))) rfl hin d (kk H locs lsA hP hD hS hl)
theorem e_zald {i N : Nat} {x : Int32} (C : Cx l R cc own ret mc ms tb post exc Ξ) (hi : Ok n i) (hcell : ∀ cA : Nat → ClassId, cellOf cA n ρ J i (M i) = .inl (cA 1, N, .inl (M i))) (hin : vp_in x N) (d : decode cc pc = .ok (.baload, 1)) (kk : E Ξ n ρ J M a b (pc + 1) ls (.int (M i x.toNatClampNeg) :: st)) : E Ξ n ρ J M a b pc ls (.int x :: .ref (ρ i) :: st) := by
  obtain ⟨p, e, s, m, args, below, meth, c, D, cA, A, nL, rfl, hx, hb, hml, hown, hts, hK, hG, hr, hlk, htb, hA, hst⟩ := C
  intro H locs lsA hP hD hS hl
  exact va_zald hx hb hK hP (pos i) 1 ((ws_at hi).trans (congrArg (fun z => some (ρ i, z)) (hcell cA))) rfl hin d (kk H locs lsA hP hD hS hl)
theorem e_iast {i N : Nat} {x v : Int32} (C : Cx l R cc own ret mc ms tb post exc Ξ) (hi : Ok n i) (hcell : ∀ (cA : Nat → ClassId) (f : Nat → Int32), cellOf cA n ρ J i f = .inl (cA 0, N, .inl f)) (hin : vp_in x N) (d : decode cc pc = .ok (.iastore, 1)) (kk : E Ξ n ρ J (up M i x.toNatClampNeg v) a b (pc + 1) ls st) : E Ξ n ρ J M a b pc ls (.int v :: .int x :: .ref (ρ i) :: st) := by
  obtain ⟨p, e, s, m, args, below, meth, c, D, cA, A, nL, rfl, hx, hb, hml, hown, hts, hK, hG, hr, hlk, htb, hA, hst⟩ := C
  intro H locs lsA hP hD hS hl
  have e1 : (ws cA n ρ J M).set (pos i) (ρ i, .inl (cA 0, N, .inl (upd (M i) x.toNatClampNeg v))) = ws cA n ρ J (up M i x.toNatClampNeg v) := by rw [← hcell cA, ws_set hi]; rfl
  refine va_iast hx hb hK hP hD hS (pos i) 0 ((ws_at hi).trans (congrArg (fun z => some (ρ i, z)) (hcell cA (M i)))) rfl hin d (fun H1 locs1 hP hD hS => ?_)
  rw [e1] at hP hD
  exact kk H1 locs1 lsA hP hD hS hl
theorem e_zast {i N : Nat} {x v : Int32} (C : Cx l R cc own ret mc ms tb post exc Ξ) (hi : Ok n i) (hcell : ∀ (cA : Nat → ClassId) (f : Nat → Int32), cellOf cA n ρ J i f = .inl (cA 1, N, .inl f)) (hin : vp_in x N) (hv : vp_nar .boolean v = v) (d : decode cc pc = .ok (.bastore, 1)) (kk : E Ξ n ρ J (up M i x.toNatClampNeg v) a b (pc + 1) ls st) : E Ξ n ρ J M a b pc ls (.int v :: .int x :: .ref (ρ i) :: st) := by
  obtain ⟨p, e, s, m, args, below, meth, c, D, cA, A, nL, rfl, hx, hb, hml, hown, hts, hK, hG, hr, hlk, htb, hA, hst⟩ := C
  intro H locs lsA hP hD hS hl
  have e1 : (ws cA n ρ J M).set (pos i) (ρ i, .inl (cA 1, N, .inl (upd (M i) x.toNatClampNeg v))) = ws cA n ρ J (up M i x.toNatClampNeg v) := by rw [← hcell cA, ws_set hi]; rfl
  refine va_zast hx hb hK hP hD hS (pos i) 1 ((ws_at hi).trans (congrArg (fun z => some (ρ i, z)) (hcell cA (M i)))) rfl hin d (fun H1 locs1 hP hD hS => ?_)
  rw [hv, e1] at hP hD
  exact kk H1 locs1 lsA hP hD hS hl
theorem e_ilen {i N : Nat} {v : Int32} (C : Cx l R cc own ret mc ms tb post exc Ξ) (hi : Ok n i) (hcell : ∀ cA : Nat → ClassId, cellOf cA n ρ J i (M i) = .inl (cA 0, N, .inl (M i))) (hv : Int32.ofNat N = v) (d : decode cc pc = .ok (.arraylength, 1)) (kk : E Ξ n ρ J M a b (pc + 1) ls (.int v :: st)) : E Ξ n ρ J M a b pc ls (.ref (ρ i) :: st) := by
  obtain ⟨p, e, s, m, args, below, meth, c, D, cA, A, nL, rfl, hx, hb, hml, hown, hts, hK, hG, hr, hlk, htb, hA, hst⟩ := C
  intro H locs lsA hP hD hS hl
  exact va_alen hx hb hK hP (pos i) 0 ((ws_at hi).trans (congrArg (fun z => some (ρ i, z)) (hcell cA))) rfl hv d (kk H locs lsA hP hD hS hl)
theorem e_zlen {i N : Nat} {v : Int32} (C : Cx l R cc own ret mc ms tb post exc Ξ) (hi : Ok n i) (hcell : ∀ cA : Nat → ClassId, cellOf cA n ρ J i (M i) = .inl (cA 1, N, .inl (M i))) (hv : Int32.ofNat N = v) (d : decode cc pc = .ok (.arraylength, 1)) (kk : E Ξ n ρ J M a b (pc + 1) ls (.int v :: st)) : E Ξ n ρ J M a b pc ls (.ref (ρ i) :: st) := by
  obtain ⟨p, e, s, m, args, below, meth, c, D, cA, A, nL, rfl, hx, hb, hml, hown, hts, hK, hG, hr, hlk, htb, hA, hst⟩ := C
  intro H locs lsA hP hD hS hl
  exact va_alen hx hb hK hP (pos i) 1 ((ws_at hi).trans (congrArg (fun z => some (ρ i, z)) (hcell cA))) rfl hv d (kk H locs lsA hP hD hS hl)
/-- a miner out of the list's row -/
theorem e_aald {k : Nat} {x : Int32} (C : Cx l R cc own ret mc ms tb post exc Ξ) (hk : k < n) (hn : n ≤ 10) (hx0 : x = nI k) (d : decode cc pc = .ok (.aaload, 1)) (kk : E Ξ n ρ J M a b (pc + 1) ls (.ref (ρ (mO k)) :: st)) : E Ξ n ρ J M a b pc ls (.int x :: .ref (ρ 27) :: st) := by
  obtain ⟨p, e, s, m, args, below, meth, c, D, cA, A, nL, rfl, hx, hb, hml, hown, hts, hK, hG, hr, hlk, htb, hA, hst⟩ := C
  intro H locs lsA hP hD hS hl
  subst hx0
  refine va_aldq hx hb hK hP (pos 27) 3 (C := "java/lang/Object") (ws_at (cnt_ea hk)) rfl (vp_in_nI (N := 10) (by omega) (by omega)) d ?_
  rw [nI_clamp (by omega), minersAt, if_pos hk]
  exact kk H locs lsA hP hD hS hl
theorem e_castM {k idx : Nat} (C : Cx l R cc own ret mc ms tb post exc Ξ) (hk : k < n) (hw : Cond.classLink own idx RX0 ∈ GW) (d : decode cc pc = .ok (.checkcast idx, 3)) (kk : E Ξ n ρ J M a b (pc + 3) ls (.ref (ρ (mO k)) :: st)) : E Ξ n ρ J M a b pc ls (.ref (ρ (mO k)) :: st) := by
  obtain ⟨p, e, s, m, args, below, meth, c, D, cA, A, nL, rfl, hx, hb, hml, hown, hts, hK, hG, hr, hlk, htb, hA, hst⟩ := C
  intro H locs lsA hP hD hS hl
  have he : (ws cA n ρ J M)[pos (mO k)]? = some (ρ (mO k), .inr (1, fs0 ρ k (M (mO k)))) := (ws_at (cnt_O hk)).trans (congrArg (fun z => some (ρ (mO k), z)) (cell_O cA n ρ J k _))
  exact va_castS hx hb (nm := RX0) hown (hts _ hw) (hK.1 1 _ rfl).2 (va_recv hK hP (ci := 1) (q0 := pos (mO k)) rfl he) d (kk H locs lsA hP hD hS hl)
theorem e_min {idx c0nL : Nat} {x y : Int32} (C : Cx l R cc own ret mc ms tb post exc Ξ) (hnL : Ξ.2.2.2.2.2.2 = c0nL) (hw : Cond.methodLink own idx Lib.Math.min.name ∈ GW) (hw2 : Cond.static Lib.Math.min.name ∈ GW) (hw3 : Cond.initialized "java/lang/Math" ∈ GW) (hw4 : Cond.code Lib.Math.min.name Lib.Math.min.code 2 (some .int) ∈ GW) (hf : 1 ≤ R.frames) (hlo : (st.map fun v => v.category).sum + 13 ≤ R.locals) (hca : a ≤ R.cells) (hcb : b ≤ R.slots) (d : decode cc pc = .ok (.invokestatic idx, 3)) (kk : E Ξ n ρ J M a b (pc + 3) ls (.int (if y < x then y else x) :: st)) : E Ξ n ρ J M a b pc ls (.int y :: .int x :: st) := by
  obtain ⟨p, e, s, m, args, below, meth, c, D, cA, A, nL, rfl, hx, hb, hml, hown, hts, hK, hG, hr, hlk, htb, hA, hst⟩ := C
  intro H locs lsA hP hD hS hl
  exact va_mmin hx hb (hml.trans hl.1.symm) hown (hts _ hw) (hts _ hw2) (hts _ hw3) (hts _ hw4) hf hlo hca hcb d (kk H locs lsA hP hD hS hl)
variable {x : Int32}
theorem e_iret (C : Cx l R cc own ret mc ms tb post exc Ξ) (hret : ret = some .int) (hca : a ≤ mc) (hcb : b ≤ ms) (d : decode cc pc = .ok (.ireturn, 1)) (hp : post (some (.int x)) (n, ρ, J, M)) : E Ξ n ρ J M a b pc ls [.int x] := by
  obtain ⟨p, e, s, m, args, below, meth, c, D, cA, A, nL, rfl, hx, hb, hml, hown, hts, hK, hG, hr, hlk, htb, hA, hst⟩ := C
  intro H locs lsA hP hD hS hl
  refine W.widen (k := mc) (n := ms) hca hcb (vx_ret ?_)
  exact W.iret hx hb (hr.trans hret) (fun t ht hW => ⟨⟨_, (n, ρ, J, M), rfl, hp, by rw [ht]; exact hP, hD⟩, hS.F ht⟩) hS.2.2 d hlk
theorem e_zret (C : Cx l R cc own ret mc ms tb post exc Ξ) (hret : ret = some .boolean) (hn : narrow .boolean (.int x) = .int x) (hca : a ≤ mc) (hcb : b ≤ ms) (d : decode cc pc = .ok (.ireturn, 1)) (hp : post (some (.int x)) (n, ρ, J, M)) : E Ξ n ρ J M a b pc ls [.int x] := by
  obtain ⟨p, e, s, m, args, below, meth, c, D, cA, A, nL, rfl, hx, hb, hml, hown, hts, hK, hG, hr, hlk, htb, hA, hst⟩ := C
  intro H locs lsA hP hD hS hl
  refine W.widen (k := mc) (n := ms) hca hcb (vx_ret ?_)
  exact W.zret hx hb (hr.trans hret) hn (fun t ht hW => ⟨⟨_, (n, ρ, J, M), rfl, hp, by rw [ht]; exact hP, hD⟩, hS.F ht⟩) hS.2.2 d hlk
theorem e_vret (C : Cx l R cc own ret mc ms tb post exc Ξ) (hret : ret = none) (hca : a ≤ mc) (hcb : b ≤ ms) (d : decode cc pc = .ok (.return_, 1)) (hp : post none (n, ρ, J, M)) : E Ξ n ρ J M a b pc ls [] := by
  obtain ⟨p, e, s, m, args, below, meth, c, D, cA, A, nL, rfl, hx, hb, hml, hown, hts, hK, hG, hr, hlk, htb, hA, hst⟩ := C
  intro H locs lsA hP hD hS hl
  refine W.widen (k := mc) (n := ms) hca hcb (vx_ret ?_)
  exact W.vret hx hb (hr.trans hret) (fun t ht hW => ⟨⟨_, (n, ρ, J, M), rfl, hp, by rw [ht]; exact hP, hD⟩, hS.F ht⟩) hS.2.2 d hlk
variable {q : Nat} {cn : String}
theorem e_aret (C : Cx l R cc own ret mc ms tb post exc Ξ) (hret : ret = some (.object cn)) (hca : a ≤ mc) (hcb : b ≤ ms) (d : decode cc pc = .ok (.areturn, 1)) (hp : post (some (.ref q)) (n, ρ, J, M)) : E Ξ n ρ J M a b pc ls [.ref q] := by
  obtain ⟨p, e, s, m, args, below, meth, c, D, cA, A, nL, rfl, hx, hb, hml, hown, hts, hK, hG, hr, hlk, htb, hA, hst⟩ := C
  intro H locs lsA hP hD hS hl
  refine W.widen (k := mc) (n := ms) hca hcb (vx_ret ?_)
  exact W.aret hx hb (hr.trans hret) (Or.inl ⟨_, rfl⟩) (Or.inr ⟨_, rfl⟩) (fun t ht hW => ⟨⟨_, (n, ρ, J, M), rfl, hp, by rw [ht]; exact hP, hD⟩, hS.F ht⟩) hS.2.2 d hlk
end Rows
end
section
/-! Calls and throws in the judgement E. -/
theorem ng_IS : ∀ w ∈ (vx_atS RX2 61 "java/lang/IllegalStateException" ["java/lang/RuntimeException", "java/lang/Exception"]).filter (fun w => !goodWord w), w ∈ NGw := by decide +kernel
theorem ng_IA : ∀ w ∈ (vx_atS RX2 79 "java/lang/IllegalArgumentException" ["java/lang/RuntimeException", "java/lang/Exception"]).filter (fun w => !goodWord w), w ∈ NGw := by decide +kernel
theorem ng_IX : ∀ w ∈ (vx_atS RX2 242 "java/lang/IndexOutOfBoundsException" ["java/lang/RuntimeException", "java/lang/Exception"]).filter (fun w => !goodWord w), w ∈ NGw := by decide +kernel
theorem og_IS : (vx_atS RX2 61 "java/lang/IllegalStateException" ["java/lang/RuntimeException", "java/lang/Exception"]).all vx_ot = true := by decide +kernel
theorem og_IA : (vx_atS RX2 79 "java/lang/IllegalArgumentException" ["java/lang/RuntimeException", "java/lang/Exception"]).all vx_ot = true := by decide +kernel
theorem og_IX : (vx_atS RX2 242 "java/lang/IndexOutOfBoundsException" ["java/lang/RuntimeException", "java/lang/Exception"]).all vx_ot = true := by decide +kernel
theorem gd_IS : ∀ w ∈ (vx_atS RX2 61 "java/lang/IllegalStateException" ["java/lang/RuntimeException", "java/lang/Exception"]).filter goodWord, w ∈ GW := fun _ h => List.mem_append_left _ (List.mem_append_left _ (List.mem_append_right _ h))
theorem gd_IA : ∀ w ∈ (vx_atS RX2 79 "java/lang/IllegalArgumentException" ["java/lang/RuntimeException", "java/lang/Exception"]).filter goodWord, w ∈ GW := fun _ h => List.mem_append_right _ h
theorem gd_IX : ∀ w ∈ (vx_atS RX2 242 "java/lang/IndexOutOfBoundsException" ["java/lang/RuntimeException", "java/lang/Exception"]).filter goodWord, w ∈ GW := fun _ h => List.mem_append_left _ (List.mem_append_right _ h)
/-- what one of the three exceptions needs -/
def Thr (ic : Nat) (cls : String) : Prop := (∀ w ∈ (vx_atS RX2 ic cls ["java/lang/RuntimeException", "java/lang/Exception"]).filter goodWord, w ∈ GW) ∧ (∀ w ∈ (vx_atS RX2 ic cls ["java/lang/RuntimeException", "java/lang/Exception"]).filter (fun w => !goodWord w), w ∈ NGw) ∧ (∀ w ∈ vx_atS RX2 ic cls ["java/lang/RuntimeException", "java/lang/Exception"], vx_ot w = true) ∧ Bundle.fit cls = true
theorem th_IS : Thr 61 "java/lang/IllegalStateException" := ⟨gd_IS, ng_IS, fun w h => List.all_eq_true.mp og_IS w h, by decide +kernel⟩
theorem th_IA : Thr 79 "java/lang/IllegalArgumentException" := ⟨gd_IA, ng_IA, fun w h => List.all_eq_true.mp og_IA w h, by decide +kernel⟩
theorem th_IX : Thr 242 "java/lang/IndexOutOfBoundsException" := ⟨gd_IX, ng_IX, fun w h => List.all_eq_true.mp og_IX w h, by decide +kernel⟩
theorem Bw.grown {D : va_G} {cA : Nat → ClassId} {A : Nat → Prop} {n : Nat} {ρ : Nat → Nat} {J : Nat → Int64} {M : Mem} {H : Heap} {t : State} (hP : va_P D vwCl (ws cA n ρ J M) H) (hD : va_D A (ws cA n ρ J M)) (h2 : ∀ q : Nat, q < H.size → t.heap[q]? = H[q]?) : Bw D cA A (n, ρ, J, M) t :=
  ⟨va_P.kept hP (fun k q hk => h2 q.1 ((hP k q hk).lt)), hD⟩
section Calls1
variable {l : Launch} {R : Room} {cc : ByteArray} {own : String} {ret : Option FieldType} {mc ms : Nat} {post : Option Value → St → Prop} {exc : String → St → Prop} {Ξ : CT}
variable {n : Nat} {ρ : Nat → Nat} {J : Nat → Int64} {M : Mem} {a b pc : Nat} {ls : List (Nat × Value)} {st : List Value}
theorem e_throw {cls text : String} {ik is ic : Nat} (C : Cx l R cc RX2 ret mc ms [] post exc Ξ) (th : Thr ic cls) (hk : Cond.classLink RX2 ik cls ∈ GW) (hi : Cond.initialized cls ∈ GW) (hstr : (is, text) ∈ strs) (hkg : vx_ot (Cond.classLink RX2 ik cls) = true) (hig : vx_ot (Cond.initialized cls) = true)
    (d0 : decode cc pc = .ok (.new ik, 3)) (d3 : decode cc (pc + 3) = .ok (.dup, 1)) (d4 : decode cc (pc + 4) = .ok (.ldc is, 2)) (d6 : decode cc (pc + 6) = .ok (.invokespecial ic, 3)) (d9 : decode cc (pc + 9) = .ok (.athrow, 1))
    (hf : 5 < R.frames) (hlo : (st.map fun v => v.category).sum + 82 ≤ R.locals) (hrc : a + 1 ≤ R.cells) (hrs : b + 6 ≤ R.slots) (hca : a + 1 ≤ mc) (hcb : b + 6 ≤ ms) (hp : exc cls (n, ρ, J, M)) : E Ξ n ρ J M a b pc ls st := by
  obtain ⟨p, e, s, m, args, below, meth, c, D, cA, A, nL, rfl, hx, hb, hml, hown, hts, hK, hG, hr, hlk, htb, hA, hst⟩ := C
  intro H locs lsA hP hD hS hl
  obtain ⟨sa, hsa⟩ := hG.2.1 _ hstr
  obtain ⟨t1, t2, t3, t4⟩ := th
  refine vx_throwS (names := ["java/lang/RuntimeException", "java/lang/Exception"]) hx hb hst hown t4 (fun q hq => ?_) (hts _ hk) (hts _ hi) hsa
    (vx_hat (B := NGw) (fun w hw => hts _ (t1 w hw)) t2 (fun w hw => ?_)) (fun w hw => ?_) hG.2.2.1 hG.2.2.2 hS (hl.1.trans hml.symm) d0 d3 d4 d6 d9 (fun x hxx => by rw [htb] at hxx; cases hxx) hf hlo hrc hrs hlk (fun t hal hsz hkp => ?_) hS.2.2 hca hcb
  · simp only [List.mem_cons, List.not_mem_nil, or_false] at hq
    rcases hq with rfl | rfl <;> decide +kernel
  · have h0 := hG.1 w hw
    simp only [NGw, List.mem_cons, List.not_mem_nil, or_false] at hw
    rcases hw with rfl | rfl | rfl | rfl | rfl | rfl <;> exact va_Nw.use rfl h0
  · rcases List.mem_cons.mp hw with rfl | hw
    · exact hkg
    · rcases List.mem_cons.mp hw with rfl | hw
      · exact hig
      · exact t3 w hw
  · exact ⟨⟨(n, ρ, J, M), hp, Bw.grown hP hD hkp⟩, Nat.le_trans hS.1 hsz, fun q h1 h2 => (hkp q (Nat.lt_of_lt_of_le h1 hS.1)).trans (hS.2.1 q h1 h2)⟩
end Calls1
section Calls2
variable {p : Program} {l : Launch} {e : Env} {R : Room} {s : State} {m : MethodId} {args : Array Value} {below : List Frame} {meth : Method} {c : Code} {H : Heap} {locs : List Loc} {cells slots : Nat} {Q : State → Prop}
variable {mc ms : Nat} {A0 A1 : Nat → Prop} {H0 : Heap} {aa : Array Value} {pc : Nat} {ls : Array Slot} {st0 rest : List Value} {D : va_G} {cA : Nat → ClassId} {post : Option Value → St → Prop} {exc : String → St → Prop}
theorem vx_callE (hr : vx_Run p l e R s m args below meth c H locs cells slots mc ms (F0 m pc ls st0) rest (Qx D cA A1 post aa) (Xx D cA A1 exc) A1) (hS : va_S A0 H0 H locs) (hA : ∀ q, A1 q → A0 q)
    (kx : ∀ (Ex : String) (ce : Cell) (q9 : Addr) (u : St) (t : State) (H1 : Heap) (locs1 : List Loc), t.heap = H1 → exc Ex u → Bw D cA A1 u t → va_S A0 H0 H1 locs1 → H1[q9]? = some ce → ce.vm = .none → s.vm.findClass Ex = some ce.cls → vx_W p l e R s m args below meth c H1 locs1 (cells + mc) (slots + ms) Q (F0 m pc ls rest) q9)
    (kk : ∀ (v : Option Value) (u : St) (t : State) (H1 : Heap) (locs1 : List Loc), t.heap = H1 → post v u → Bw D cA A1 u t → va_S A0 H0 H1 locs1 → W p l e R s m args below meth c H1 locs1 (cells + mc) (slots + ms) Q (F0 m (pc + 3) ls (v.toList ++ rest))) : W p l e R s m args below meth c H locs cells slots Q (F0 m pc ls st0) := by
  intro T hT X
  rcases hr T hT X with ⟨v, st₀, t, T', L, h0, X', hL, e1, e2, ⟨⟨v2, u, hv, hp, hb⟩, hF⟩, st⟩ | ⟨q, st₀, t, T', L, Ex, ce, h0, X', hL, e1, e2, ⟨⟨u, hp, hb⟩, hF⟩, hce, hcv, hcl, st⟩
  · cases hv
    obtain ⟨k1, k2, k3⟩ := vx_keep h0 e1 hS (fun q _ h => hA q h) hA hL hF
    obtain ⟨t2, a1, b1⟩ := kk v u t T'.heap (locs ++ L) e1.symm hp hb k3 T' rfl X'
    exact ⟨t2, st t2 a1, b1⟩
  · obtain ⟨k1, k2, k3⟩ := vx_keep h0 e1 hS (fun q _ h => hA q h) hA hL hF
    obtain ⟨t2, a1, b1⟩ := kx Ex ce q u t T'.heap (locs ++ L) e1.symm hp hb k3 (by rw [e1]; exact hce) hcv hcl T' rfl X'
    exact ⟨t2, st.trans a1, b1⟩
end Calls2
section Calls3
variable {l : Launch} {R : Room} {cc : ByteArray} {own : String} {ret : Option FieldType} {mc ms : Nat} {post : Option Value → St → Prop} {exc : String → St → Prop} {Ξ : CT}
variable {n : Nat} {ρ : Nat → Nat} {J : Nat → Int64} {M : Mem} {a b pc : Nat} {ls : List (Nat × Value)} {st stk : List Value}
theorem ao_sub {cA : Nat → ClassId} {A : Nat → Prop} {H0 H : Heap} {locs : List Loc} (hD : va_D A (ws cA n ρ J M)) (hS : va_S A H0 H locs) (hA : ∀ q, H0.size ≤ q → A q) : ∀ q, Ao cA n ρ J M H.size q → A q := by
  intro q h
  rcases h with ⟨k, e, h⟩ | h
  · exact hD.2 k _ h
  · exact hA q (Nat.le_trans hS.1 h)
theorem pre_blind {D : va_G} {cA : Nat → ClassId} {sz : Nat} {As : List Value} : FrameBlind (va_Pc As (fun U => U.heap.size = sz ∧ va_P D vwCl (ws cA n ρ J M) U.heap ∧ va_D (fun _ => True) (ws cA n ρ J M) ∧ KK D cA U ∧ GP (Ao cA n ρ J M sz) U U.heap)) := by
  rintro aa U g mk ⟨h1, h2, h3, h4, h5, h6⟩
  exact ⟨h1, h2, h3, h4, h5.blind, h6.blind⟩
theorem pre_at {D : va_G} {cA : Nat → ClassId} {A : Nat → Prop} {As : List Value} {s : State} {H : Heap} {locs : List Loc} (hP : va_P D vwCl (ws cA n ρ J M) H) (hD : va_D A (ws cA n ρ J M)) (hS : va_S A s.heap H locs) (hA : ∀ q, s.heap.size ≤ q → A q) (hK : KK D cA s) (hG : GP A s s.heap) :
    ∀ U : State, U.heap = H → s.WarmedH U.vm → va_Pc As (fun U => U.heap.size = H.size ∧ va_P D vwCl (ws cA n ρ J M) U.heap ∧ va_D (fun _ => True) (ws cA n ρ J M) ∧ KK D cA U ∧ GP (Ao cA n ρ J M H.size) U U.heap) As.toArray U := by
  intro U hU hW
  refine ⟨rfl, by rw [hU], by rw [hU]; exact hP, hD.weaken (fun _ _ _ _ => trivial), va_K.moved hW.alike hK, ?_⟩
  rw [hU]
  exact hG.warm hW hS.2.1 (ao_sub hD hS hA)
theorem e_callS {y : MethodName} {cy : ByteArray} {maxL : Nat} {ry : Option FieldType} {h mc' ms' idx nA : Nat} {As : List Value} {post' : Option Value → St → Prop} {exc' : String → St → Prop} (C : Cx l R cc own ret mc ms [] post exc Ξ)
    (hc : Ct l y (Cond.code y cy maxL ry :: GW) h mc' ms' n ρ J M As post' exc') (hcode : Cond.code y cy maxL ry ∈ GW) (hlink : Cond.methodLink own idx y ∈ GW) (hstat : Cond.static y ∈ GW) (hinit : Cond.initialized y.cls ∈ GW)
    (hd : y.cls ≠ "java/lang/invoke/MethodHandle" ∧ y.cls ≠ "java/lang/invoke/VarHandle" ∧ (parseMethodDescriptor y.desc).map (fun d => d.parameters.length) = some nA)
    (hR : h + 1 ≤ R.frames ∧ 8 + (maxL + 11) + (30 * h + 60) ≤ R.locals) (hAs : As.length = nA) (hstk : stk = As.reverse ++ st) (hcat : (st.map fun v => v.category).sum ≤ 8)
    (d : decode cc pc = .ok (.invokestatic idx, 3)) (hrc : a + mc' ≤ R.cells ∧ b + ms' ≤ R.slots) (hca : a + mc' ≤ mc) (hcb : b + ms' ≤ ms)
    (kx : ∀ (Ex : String) (u : St), exc' Ex u → exc Ex u) (kk : ∀ (v : Option Value) (u : St), post' v u → E Ξ u.1 u.2.1 u.2.2.1 u.2.2.2 (a + mc') (b + ms') (pc + 3) ls (v.toList ++ st)) : E Ξ n ρ J M a b pc ls stk := by
  obtain ⟨p, e, s, m, args, below, meth, c, D, cA, A, nL, rfl, hx, hb, hml, hown, hts, hK, hG, hr, hlk, htb, hA, hst⟩ := C
  intro H locs lsA hP hD hS hl
  subst hstk
  have cw : CallB R s args own idx y cy maxL ry (Cond.code y cy maxL ry :: GW) (rmm h mc' ms') mc' ms' nA := callB_of nA hts (gw_good hcode) rfl rfl rfl (hts _ hinit) (hts _ hlink) hd hR
  refine vx_callE (vx_runS (As := As) (rest := st) ⟨hx, hb, hml, hown, hts⟩ (hc D cA H.size) ⟨cw, hts _ hstat⟩ ⟨pre_blind, pre_at hP hD hS hA hK hG⟩ rfl hAs hl.1 rfl (lv_room hcat) d hrc) hS (ao_sub hD hS hA) ?_ ?_
  · intro Ex ce q9 u t H1 locs1 ht he hBw hS1 h1 h2 h3
    exact vx_out (fun x hxx => by rw [htb] at hxx; cases hxx) hlk h1 h2 h3 (fun t2 ht2 _ => ⟨⟨u, kx Ex u he, by rw [ht2, ← ht]; exact hBw.1, hBw.2.weaken (fun _ q _ h => ao_sub hD hS hA q.1 h)⟩, hS1.F ht2⟩) hS1.2.2 hca hcb
  · intro v u t H1 locs1 ht hp hBw hS1
    exact kk v u hp H1 locs1 lsA (by rw [← ht]; exact hBw.1) (hBw.2.weaken (fun _ q _ h => ao_sub hD hS hA q.1 h)) hS1 hl
theorem e_callV {y : MethodName} {cy : ByteArray} {maxL : Nat} {ry : Option FieldType} {h mc' ms' idx nA i ci : Nat} {Cn : String} {qc : vw_C} {fs : List Value} {As : List Value} {post' : Option Value → St → Prop} {exc' : String → St → Prop} (C : Cx l R cc own ret mc ms [] post exc Ξ)
    (hc : Ct l y (Cond.code y cy maxL ry :: GW) h mc' ms' n ρ J M (.ref (ρ i) :: As) post' exc') (hi : Ok n i) (hcell : ∀ cA, cellOf cA n ρ J i (M i) = .inr (ci, fs)) (hcl : vwCl[ci]? = some qc) (hqc : qc.1 = Cn) (hcode : Cond.code y cy maxL ry ∈ GW) (hlink : Cond.methodLink own idx y ∈ GW) (hinst : Cond.instanceMethod y ∈ GW) (hsel : Cond.selects Cn y y ∈ GW) (hinit : Cond.initialized y.cls ∈ GW)
    (hd : y.cls ≠ "java/lang/invoke/MethodHandle" ∧ y.cls ≠ "java/lang/invoke/VarHandle" ∧ (parseMethodDescriptor y.desc).map (fun d => d.parameters.length) = some nA)
    (hR : h + 1 ≤ R.frames ∧ 8 + (maxL + 11) + (30 * h + 60) ≤ R.locals) (hAs : As.length = nA) (hstk : stk = As.reverse ++ .ref (ρ i) :: st) (hcat : (st.map fun v => v.category).sum ≤ 8)
    (d : decode cc pc = .ok (.invokevirtual idx, 3)) (hrc : a + mc' ≤ R.cells ∧ b + ms' ≤ R.slots) (hca : a + mc' ≤ mc) (hcb : b + ms' ≤ ms)
    (kx : ∀ (Ex : String) (u : St), exc' Ex u → exc Ex u) (kk : ∀ (v : Option Value) (u : St), post' v u → E Ξ u.1 u.2.1 u.2.2.1 u.2.2.2 (a + mc') (b + ms') (pc + 3) ls (v.toList ++ st)) : E Ξ n ρ J M a b pc ls stk := by
  obtain ⟨p, e, s, m, args, below, meth, c, D, cA, A, nL, rfl, hx, hb, hml, hown, hts, hK, hG, hr, hlk, htb, hA, hst⟩ := C
  intro H locs lsA hP hD hS hl
  subst hstk
  subst hqc
  have cw : CallB R s args own idx y cy maxL ry (Cond.code y cy maxL ry :: GW) (rmm h mc' ms') mc' ms' nA := callB_of nA hts (gw_good hcode) rfl rfl rfl (hts _ hinit) (hts _ hlink) hd hR
  have he : (ws cA n ρ J M)[pos i]? = some (ρ i, .inr (ci, fs)) := (ws_at hi).trans (congrArg (fun z => some (ρ i, z)) (hcell cA))
  refine vx_callE (vx_runV (As := As) (rest := st) ⟨hx, hb, hml, hown, hts⟩ (hc D cA H.size) ⟨cw, hts _ hinst, hts _ hsel⟩ ⟨pre_blind, va_recv hK hP hcl he, pre_at hP hD hS hA hK hG⟩ rfl hAs hl.1 rfl (lv_room hcat) d hrc) hS (ao_sub hD hS hA) ?_ ?_
  · intro Ex ce q9 u t H1 locs1 ht hee hBw hS1 h1 h2 h3
    exact vx_out (fun x hxx => by rw [htb] at hxx; cases hxx) hlk h1 h2 h3 (fun t2 ht2 _ => ⟨⟨u, kx Ex u hee, by rw [ht2, ← ht]; exact hBw.1, hBw.2.weaken (fun _ q _ h => ao_sub hD hS hA q.1 h)⟩, hS1.F ht2⟩) hS1.2.2 hca hcb
  · intro v u t H1 locs1 ht hp hBw hS1
    exact kk v u hp H1 locs1 lsA (by rw [← ht]; exact hBw.1) (hBw.2.weaken (fun _ q _ h => ao_sub hD hS hA q.1 h)) hS1 hl
end Calls3
end
section
/-! Rows by class, outcomes, calls with outcomes. -/
abbrev Out : Type := (String ⊕ Option Value) × Mem
def pO (n : Nat) (ρ : Nat → Nat) (J : Nat → Int64) (o : Out) : Option Value → St → Prop := fun v u => u = (n, ρ, J, o.2) ∧ o.1 = .inr v
def xO (n : Nat) (ρ : Nat → Nat) (J : Nat → Int64) (o : Out) : String → St → Prop := fun Ex u => u = (n, ρ, J, o.2) ∧ o.1 = .inl Ex
theorem pO.mk {n : Nat} {ρ : Nat → Nat} {J : Nat → Int64} {o : Out} {v : Option Value} {M : Mem} (h : o = (.inr v, M)) : pO n ρ J o v (n, ρ, J, M) := by subst h; exact ⟨rfl, rfl⟩
theorem xO.mk {n : Nat} {ρ : Nat → Nat} {J : Nat → Int64} {o : Out} {v : String} {M : Mem} (h : o = (.inl v, M)) : xO n ρ J o v (n, ρ, J, M) := by subst h; exact ⟨rfl, rfl⟩
abbrev CtO (l : Launch) (y : MethodName) (cy : ByteArray) (maxL : Nat) (ry : Option FieldType) (h mc ms n : Nat) (ρ : Nat → Nat) (J : Nat → Int64) (M : Mem) (As : List Value) (o : Out) : Prop :=
  Ct l y (Cond.code y cy maxL ry :: GW) h mc ms n ρ J M As (pO n ρ J o) (xO n ρ J o)
abbrev CxO (l : Launch) (h mc ms : Nat) (cc : ByteArray) (own : String) (ret : Option FieldType) (n : Nat) (ρ : Nat → Nat) (J : Nat → Int64) (o : Out) (Ξ : CT) : Prop :=
  Cx l (rmm h mc ms) cc own ret mc ms [] (pO n ρ J o) (xO n ρ J o) Ξ
theorem CtO.of {l : Launch} {y : MethodName} {h mc ms n : Nat} {ρ : Nat → Nat} {J : Nat → Int64} {M : Mem} {As : List Value} {o : Out} {cc : ByteArray} {maxL : Nat} {ret : Option FieldType}
    (hl : l.stackTraces = false) (hy : plainName y.cls = true) (hlen : (lg_sl As).length ≤ maxL)
    (body : ∀ Ξ : CT, Ξ.2.2.2.2.2.2 = maxL → CxO l h mc ms cc y.cls ret n ρ J o Ξ → E Ξ n ρ J M 0 0 0 (lv_args 0 As) []) : CtO l y cc maxL ret h mc ms n ρ J M As o := Ct.of hl hy rfl hlen body
section Spec
variable {l : Launch} {R : Room} {cc : ByteArray} {own : String} {ret : Option FieldType} {mc ms : Nat} {tb : List ExceptionTableEntry} {post : Option Value → St → Prop} {exc : String → St → Prop} {Ξ : CT}
variable {n : Nat} {ρ : Nat → Nat} {J : Nat → Int64} {M : Mem} {a b pc : Nat} {ls ls2 : List (Nat × Value)} {st stk : List Value} {k kk0 idx : Nat} {ref : String} {v : Value} {x : Int32} {ty : FieldType}
theorem e_topi (h : ∀ y : Int32, y = x → E Ξ n ρ J M a b pc ls (.int y :: st)) : E Ξ n ρ J M a b pc ls (.int x :: st) := h x rfl
theorem e_topl {z : Int64} (h : ∀ y : Int64, y = z → E Ξ n ρ J M a b pc ls (.long y :: st)) : E Ξ n ρ J M a b pc ls (.long z :: st) := h z rfl
theorem e_mem {M' : Mem} (h : M = M') (hE : E Ξ n ρ J M' a b pc ls st) : E Ξ n ρ J M a b pc ls st := h ▸ hE
theorem e_get0 (C : Cx l R cc own ret mc ms tb post exc Ξ) (hk0 : kk0 < n) (hk : k < 14) (hsame : ref = (TX0 k).1) (hv : (fs0 ρ kk0 (M (mO kk0)))[k]? = some v) (hw : Cond.fieldLink own idx ref (TX0 k).2.1 (TX0 k).2.2.1 ∈ GW) (d : decode cc pc = .ok (.getfield idx, 3)) (kk : E Ξ n ρ J M a b (pc + 3) ls (v :: st)) : E Ξ n ρ J M a b pc ls (.ref (ρ (mO kk0)) :: st) :=
  e_get C (cnt_O hk0) (fun cA => cell_O cA n ρ J kk0 _) (ci := 1) rfl inlX0 hk hsame hv hw d kk
theorem e_get1 (C : Cx l R cc own ret mc ms tb post exc Ξ) (hk : k < 4) (hsame : ref = (TX1 k).1) (hv : (fs1 (M 3))[k]? = some v) (hw : Cond.fieldLink own idx ref (TX1 k).2.1 (TX1 k).2.2.1 ∈ GW) (d : decode cc pc = .ok (.getfield idx, 3)) (kk : E Ξ n ρ J M a b (pc + 3) ls (v :: st)) : E Ξ n ρ J M a b pc ls (.ref (ρ 3) :: st) :=
  e_get C (cnt_fix (by decide)) (fun _ => rfl) (ci := 2) rfl inlX1 hk hsame hv hw d kk
theorem e_get2 (C : Cx l R cc own ret mc ms tb post exc Ξ) (hk : k < 18) (hsame : ref = (TX2 k).1) (hv : (fs2 ρ (M 0))[k]? = some v) (hw : Cond.fieldLink own idx ref (TX2 k).2.1 (TX2 k).2.2.1 ∈ GW) (d : decode cc pc = .ok (.getfield idx, 3)) (kk : E Ξ n ρ J M a b (pc + 3) ls (v :: st)) : E Ξ n ρ J M a b pc ls (.ref (ρ 0) :: st) :=
  e_get C (cnt_fix (by decide)) (fun _ => rfl) (ci := 3) rfl inlX2 hk hsame hv hw d kk
theorem e_getL (C : Cx l R cc own ret mc ms tb post exc Ξ) (hk : k < 3) (hsame : ref = (TJx4a65c k).1) (hv : (fsL n ρ (M 1))[k]? = some v) (hw : Cond.fieldLink own idx ref (TJx4a65c k).2.1 (TJx4a65c k).2.2.1 ∈ GW) (d : decode cc pc = .ok (.getfield idx, 3)) (kk : E Ξ n ρ J M a b (pc + 3) ls (v :: st)) : E Ξ n ρ J M a b pc ls (.ref (ρ 1) :: st) :=
  e_get C (cnt_fix (by decide)) (fun _ => rfl) (ci := 0) rfl inlJx4a65c hk hsame hv hw d kk
theorem e_put0 (C : Cx l R cc own ret mc ms tb post exc Ξ) (hk0 : kk0 < n) (hk : k < 14) (hsame : ref = (TX0 k).1) (hfin : (TX0 k).2.2.2 = false) (hd : parseFieldDescriptor (TX0 k).2.2.1 = some ty) (hn : narrow ty (.int x) = .int x) (hfit : fits ty (.int x) = true) (hset : (fs0 ρ kk0 (M (mO kk0))).set k (.int x) = fs0 ρ kk0 (upd (M (mO kk0)) k x)) (hw : Cond.fieldLink own idx ref (TX0 k).2.1 (TX0 k).2.2.1 ∈ GW) (d : decode cc pc = .ok (.putfield idx, 3)) (kk : E Ξ n ρ J (up M (mO kk0) k x) a b (pc + 3) ls st) : E Ξ n ρ J M a b pc ls (.int x :: .ref (ρ (mO kk0)) :: st) :=
  e_put C (cnt_O hk0) (fun cA => cell_O cA n ρ J kk0 _) (ci := 1) rfl inlX0 tyX0_ok nmX0 hk hsame hfin hd hn hfit hk (fun cA => by rw [cell_O, hset]) hw d kk
theorem e_put1 (C : Cx l R cc own ret mc ms tb post exc Ξ) (hk : k < 4) (hsame : ref = (TX1 k).1) (hfin : (TX1 k).2.2.2 = false) (hd : parseFieldDescriptor (TX1 k).2.2.1 = some ty) (hn : narrow ty (.int x) = .int x) (hfit : fits ty (.int x) = true) (hset : (fs1 (M 3)).set k (.int x) = fs1 (upd (M 3) k x)) (hw : Cond.fieldLink own idx ref (TX1 k).2.1 (TX1 k).2.2.1 ∈ GW) (d : decode cc pc = .ok (.putfield idx, 3)) (kk : E Ξ n ρ J (up M 3 k x) a b (pc + 3) ls st) : E Ξ n ρ J M a b pc ls (.int x :: .ref (ρ 3) :: st) :=
  e_put C (cnt_fix (by decide)) (fun _ => rfl) (ci := 2) rfl inlX1 tyX1_ok nmX1 hk hsame hfin hd hn hfit hk (fun cA => by rw [hset]; rfl) hw d kk
theorem e_put2 (C : Cx l R cc own ret mc ms tb post exc Ξ) (hk : k < 18) (hsame : ref = (TX2 k).1) (hfin : (TX2 k).2.2.2 = false) (hd : parseFieldDescriptor (TX2 k).2.2.1 = some ty) (hn : narrow ty (.int x) = .int x) (hfit : fits ty (.int x) = true) (hset : (fs2 ρ (M 0)).set k (.int x) = fs2 ρ (upd (M 0) k x)) (hw : Cond.fieldLink own idx ref (TX2 k).2.1 (TX2 k).2.2.1 ∈ GW) (d : decode cc pc = .ok (.putfield idx, 3)) (kk : E Ξ n ρ J (up M 0 k x) a b (pc + 3) ls st) : E Ξ n ρ J M a b pc ls (.int x :: .ref (ρ 0) :: st) :=
  e_put C (cnt_fix (by decide)) (fun _ => rfl) (ci := 3) rfl inlX2 tyX2_ok nmX2 hk hsame hfin hd hn hfit hk (fun cA => by rw [hset]; rfl) hw d kk
/-- a boolean is 0 or 1 -/
def isB (x : Int32) : Prop := x = 0 ∨ x = 1
theorem isB.nar {x : Int32} (h : isB x) : narrow .boolean (.int x) = .int x := by rcases h with rfl | rfl <;> rfl
theorem isB.nr {x : Int32} (h : isB x) : vp_nar .boolean x = x := by rcases h with rfl | rfl <;> rfl
end Spec
section SpecC
variable {l : Launch} {hh mc ms n : Nat} {cc : ByteArray} {own : String} {ret : Option FieldType} {o : Out} {Ξ : CT}
variable {ρ : Nat → Nat} {J : Nat → Int64} {M M' : Mem} {a b pc : Nat} {ls : List (Nat × Value)} {st stk : List Value}
variable {y : MethodName} {cy : ByteArray} {maxL : Nat} {ry : Option FieldType} {h mc' ms' idx nA i ci : Nat} {Cn : String} {qc : vw_C} {fs As : List Value} {o' : Out} {v : Option Value} {r : Int32} {Ex : String}
/-- a static call that returns -/
theorem e_cS (C : CxO l hh mc ms cc own ret n ρ J o Ξ) (hc : CtO l y cy maxL ry h mc' ms' n ρ J M As o') (ho : o' = (.inr v, M')) (hcode : Cond.code y cy maxL ry ∈ GW) (hlink : Cond.methodLink own idx y ∈ GW) (hstat : Cond.static y ∈ GW) (hinit : Cond.initialized y.cls ∈ GW)
    (hd : y.cls ≠ "java/lang/invoke/MethodHandle" ∧ y.cls ≠ "java/lang/invoke/VarHandle" ∧ (parseMethodDescriptor y.desc).map (fun d => d.parameters.length) = some nA)
    (hR : h + 1 ≤ hh ∧ 8 + (maxL + 11) + (30 * h + 60) ≤ 30 * hh + 60) (hAs : As.length = nA) (hstk : stk = As.reverse ++ st) (hcat : (st.map fun v => v.category).sum ≤ 8)
    (d : decode cc pc = .ok (.invokestatic idx, 3)) (hca : a + mc' ≤ mc) (hcb : b + ms' ≤ ms) (kk : E Ξ n ρ J M' (a + mc') (b + ms') (pc + 3) ls (v.toList ++ st)) : E Ξ n ρ J M a b pc ls stk := by
  subst ho
  refine e_callS C hc hcode hlink hstat hinit hd hR hAs hstk hcat d ⟨hca, hcb⟩ hca hcb (fun Ex u hx => ?_) (fun v2 u hp => ?_)
  · exact absurd hx.2 (fun z => by cases z)
  · obtain ⟨rfl, h2⟩ := hp
    cases h2
    exact kk
/-- .. that throws -/
theorem e_cSx (C : CxO l hh mc ms cc own ret n ρ J o Ξ) (hc : CtO l y cy maxL ry h mc' ms' n ρ J M As o') (ho : o' = (.inl Ex, M')) (hcode : Cond.code y cy maxL ry ∈ GW) (hlink : Cond.methodLink own idx y ∈ GW) (hstat : Cond.static y ∈ GW) (hinit : Cond.initialized y.cls ∈ GW)
    (hd : y.cls ≠ "java/lang/invoke/MethodHandle" ∧ y.cls ≠ "java/lang/invoke/VarHandle" ∧ (parseMethodDescriptor y.desc).map (fun d => d.parameters.length) = some nA)
    (hR : h + 1 ≤ hh ∧ 8 + (maxL + 11) + (30 * h + 60) ≤ 30 * hh + 60) (hAs : As.length = nA) (hstk : stk = As.reverse ++ st) (hcat : (st.map fun v => v.category).sum ≤ 8)
    (d : decode cc pc = .ok (.invokestatic idx, 3)) (hca : a + mc' ≤ mc) (hcb : b + ms' ≤ ms) (kx : o = (.inl Ex, M')) : E Ξ n ρ J M a b pc ls stk := by
  subst ho
  refine e_callS C hc hcode hlink hstat hinit hd hR hAs hstk hcat d ⟨hca, hcb⟩ hca hcb (fun Ex2 u hx => ?_) (fun v2 u hp => ?_)
  · obtain ⟨rfl, h2⟩ := hx
    cases h2
    exact xO.mk kx
  · exact absurd hp.2 (fun z => by cases z)
theorem e_cV (C : CxO l hh mc ms cc own ret n ρ J o Ξ) (hc : CtO l y cy maxL ry h mc' ms' n ρ J M (.ref (ρ i) :: As) o') (ho : o' = (.inr v, M')) (hi : Ok n i) (hcell : ∀ cA, cellOf cA n ρ J i (M i) = .inr (ci, fs)) (hcl : vwCl[ci]? = some qc) (hqc : qc.1 = Cn) (hcode : Cond.code y cy maxL ry ∈ GW) (hlink : Cond.methodLink own idx y ∈ GW) (hinst : Cond.instanceMethod y ∈ GW) (hsel : Cond.selects Cn y y ∈ GW) (hinit : Cond.initialized y.cls ∈ GW)
    (hd : y.cls ≠ "java/lang/invoke/MethodHandle" ∧ y.cls ≠ "java/lang/invoke/VarHandle" ∧ (parseMethodDescriptor y.desc).map (fun d => d.parameters.length) = some nA)
    (hR : h + 1 ≤ hh ∧ 8 + (maxL + 11) + (30 * h + 60) ≤ 30 * hh + 60) (hAs : As.length = nA) (hstk : stk = As.reverse ++ .ref (ρ i) :: st) (hcat : (st.map fun v => v.category).sum ≤ 8)
    (d : decode cc pc = .ok (.invokevirtual idx, 3)) (hca : a + mc' ≤ mc) (hcb : b + ms' ≤ ms) (kk : E Ξ n ρ J M' (a + mc') (b + ms') (pc + 3) ls (v.toList ++ st)) : E Ξ n ρ J M a b pc ls stk := by
  subst ho
  refine e_callV C hc hi hcell hcl hqc hcode hlink hinst hsel hinit hd hR hAs hstk hcat d ⟨hca, hcb⟩ hca hcb (fun Ex u hx => ?_) (fun v2 u hp => ?_)
  · exact absurd hx.2 (fun z => by cases z)
  · obtain ⟨rfl, h2⟩ := hp
    cases h2
    exact kk
theorem e_cVx (C : CxO l hh mc ms cc own ret n ρ J o Ξ) (hc : CtO l y cy maxL ry h mc' ms' n ρ J M (.ref (ρ i) :: As) o') (ho : o' = (.inl Ex, M')) (hi : Ok n i) (hcell : ∀ cA, cellOf cA n ρ J i (M i) = .inr (ci, fs)) (hcl : vwCl[ci]? = some qc) (hqc : qc.1 = Cn) (hcode : Cond.code y cy maxL ry ∈ GW) (hlink : Cond.methodLink own idx y ∈ GW) (hinst : Cond.instanceMethod y ∈ GW) (hsel : Cond.selects Cn y y ∈ GW) (hinit : Cond.initialized y.cls ∈ GW)
    (hd : y.cls ≠ "java/lang/invoke/MethodHandle" ∧ y.cls ≠ "java/lang/invoke/VarHandle" ∧ (parseMethodDescriptor y.desc).map (fun d => d.parameters.length) = some nA)
    (hR : h + 1 ≤ hh ∧ 8 + (maxL + 11) + (30 * h + 60) ≤ 30 * hh + 60) (hAs : As.length = nA) (hstk : stk = As.reverse ++ .ref (ρ i) :: st) (hcat : (st.map fun v => v.category).sum ≤ 8)
    (d : decode cc pc = .ok (.invokevirtual idx, 3)) (hca : a + mc' ≤ mc) (hcb : b + ms' ≤ ms) (kx : o = (.inl Ex, M')) : E Ξ n ρ J M a b pc ls stk := by
  subst ho
  refine e_callV C hc hi hcell hcl hqc hcode hlink hinst hsel hinit hd hR hAs hstk hcat d ⟨hca, hcb⟩ hca hcb (fun Ex2 u hx => ?_) (fun v2 u hp => ?_)
  · obtain ⟨rfl, h2⟩ := hx
    cases h2
    exact xO.mk kx
  · exact absurd hp.2 (fun z => by cases z)
end SpecC
end
section
theorem dX0_init_0 : decode cX0_init 0 = .ok (.aload_n 0, 1) := by decide +kernel
theorem dX0_init_1 : decode cX0_init 1 = .ok (.invokespecial 3, 3) := by decide +kernel
theorem dX0_init_4 : decode cX0_init 4 = .ok (.aload_n 0, 1) := by decide +kernel
theorem dX0_init_5 : decode cX0_init 5 = .ok (.iconst 1, 1) := by decide +kernel
theorem dX0_init_6 : decode cX0_init 6 = .ok (.putfield 9, 3) := by decide +kernel
theorem dX0_init_9 : decode cX0_init 9 = .ok (.aload_n 0, 1) := by decide +kernel
theorem dX0_init_10 : decode cX0_init 10 = .ok (.iconst 1, 1) := by decide +kernel
theorem dX0_init_11 : decode cX0_init 11 = .ok (.putfield 15, 3) := by decide +kernel
theorem dX0_init_14 : decode cX0_init 14 = .ok (.aload_n 0, 1) := by decide +kernel
theorem dX0_init_15 : decode cX0_init 15 = .ok (.iconst (-1), 1) := by decide +kernel
theorem dX0_init_16 : decode cX0_init 16 = .ok (.putfield 18, 3) := by decide +kernel
theorem dX0_init_19 : decode cX0_init 19 = .ok (.aload_n 0, 1) := by decide +kernel
theorem dX0_init_20 : decode cX0_init 20 = .ok (.iconst 4, 1) := by decide +kernel
theorem dX0_init_21 : decode cX0_init 21 = .ok (.newarray .int, 2) := by decide +kernel
theorem dX0_init_23 : decode cX0_init 23 = .ok (.putfield 22, 3) := by decide +kernel
theorem dX0_init_26 : decode cX0_init 26 = .ok (.aload_n 0, 1) := by decide +kernel
theorem dX0_init_27 : decode cX0_init 27 = .ok (.bipush 40, 2) := by decide +kernel
theorem dX0_init_29 : decode cX0_init 29 = .ok (.newarray .int, 2) := by decide +kernel
theorem dX0_init_31 : decode cX0_init 31 = .ok (.putfield 26, 3) := by decide +kernel
theorem dX0_init_34 : decode cX0_init 34 = .ok (.return_, 1) := by decide +kernel
theorem dX0_allScrip_0 : decode cX0_allScrip 0 = .ok (.iconst 0, 1) := by decide +kernel
theorem dX0_allScrip_1 : decode cX0_allScrip 1 = .ok (.istore_n 1, 1) := by decide +kernel
theorem dX0_allScrip_2 : decode cX0_allScrip 2 = .ok (.iconst 0, 1) := by decide +kernel
theorem dX0_allScrip_3 : decode cX0_allScrip 3 = .ok (.istore_n 2, 1) := by decide +kernel
theorem dX0_allScrip_4 : decode cX0_allScrip 4 = .ok (.iload_n 2, 1) := by decide +kernel
theorem dX0_allScrip_5 : decode cX0_allScrip 5 = .ok (.aload_n 0, 1) := by decide +kernel
theorem dX0_allScrip_6 : decode cX0_allScrip 6 = .ok (.getfield 26, 3) := by decide +kernel
theorem dX0_allScrip_9 : decode cX0_allScrip 9 = .ok (.arraylength, 1) := by decide +kernel
theorem dX0_allScrip_10 : decode cX0_allScrip 10 = .ok (.if_icmp .ge 18, 3) := by decide +kernel
theorem dX0_allScrip_13 : decode cX0_allScrip 13 = .ok (.iload_n 1, 1) := by decide +kernel
theorem dX0_allScrip_14 : decode cX0_allScrip 14 = .ok (.aload_n 0, 1) := by decide +kernel
theorem dX0_allScrip_15 : decode cX0_allScrip 15 = .ok (.getfield 26, 3) := by decide +kernel
theorem dX0_allScrip_18 : decode cX0_allScrip 18 = .ok (.iload_n 2, 1) := by decide +kernel
theorem dX0_allScrip_19 : decode cX0_allScrip 19 = .ok (.iaload, 1) := by decide +kernel
theorem dX0_allScrip_20 : decode cX0_allScrip 20 = .ok (.iadd, 1) := by decide +kernel
theorem dX0_allScrip_21 : decode cX0_allScrip 21 = .ok (.istore_n 1, 1) := by decide +kernel
theorem dX0_allScrip_22 : decode cX0_allScrip 22 = .ok (.iinc 2 1, 3) := by decide +kernel
theorem dX0_allScrip_25 : decode cX0_allScrip 25 = .ok (.goto (-21), 3) := by decide +kernel
theorem dX0_allScrip_28 : decode cX0_allScrip 28 = .ok (.iload_n 1, 1) := by decide +kernel
theorem dX0_allScrip_29 : decode cX0_allScrip 29 = .ok (.ireturn, 1) := by decide +kernel
theorem dX0_means_0 : decode cX0_means 0 = .ok (.aload_n 0, 1) := by decide +kernel
theorem dX0_means_1 : decode cX0_means 1 = .ok (.getfield 29, 3) := by decide +kernel
theorem dX0_means_4 : decode cX0_means 4 = .ok (.aload_n 0, 1) := by decide +kernel
theorem dX0_means_5 : decode cX0_means 5 = .ok (.invokevirtual 32, 3) := by decide +kernel
theorem dX0_means_8 : decode cX0_means 8 = .ok (.iadd, 1) := by decide +kernel
theorem dX0_means_9 : decode cX0_means 9 = .ok (.ireturn, 1) := by decide +kernel
theorem dX0_gainScrip_0 : decode cX0_gainScrip 0 = .ok (.aload_n 0, 1) := by decide +kernel
theorem dX0_gainScrip_1 : decode cX0_gainScrip 1 = .ok (.getfield 26, 3) := by decide +kernel
theorem dX0_gainScrip_4 : decode cX0_gainScrip 4 = .ok (.iload_n 1, 1) := by decide +kernel
theorem dX0_gainScrip_5 : decode cX0_gainScrip 5 = .ok (.dup2, 1) := by decide +kernel
theorem dX0_gainScrip_6 : decode cX0_gainScrip 6 = .ok (.iaload, 1) := by decide +kernel
theorem dX0_gainScrip_7 : decode cX0_gainScrip 7 = .ok (.iload_n 2, 1) := by decide +kernel
theorem dX0_gainScrip_8 : decode cX0_gainScrip 8 = .ok (.iadd, 1) := by decide +kernel
theorem dX0_gainScrip_9 : decode cX0_gainScrip 9 = .ok (.iastore, 1) := by decide +kernel
theorem dX0_gainScrip_10 : decode cX0_gainScrip 10 = .ok (.aload_n 0, 1) := by decide +kernel
theorem dX0_gainScrip_11 : decode cX0_gainScrip 11 = .ok (.dup, 1) := by decide +kernel
theorem dX0_gainScrip_12 : decode cX0_gainScrip 12 = .ok (.getfield 36, 3) := by decide +kernel
theorem dX0_gainScrip_15 : decode cX0_gainScrip 15 = .ok (.iload_n 2, 1) := by decide +kernel
theorem dX0_gainScrip_16 : decode cX0_gainScrip 16 = .ok (.iadd, 1) := by decide +kernel
theorem dX0_gainScrip_17 : decode cX0_gainScrip 17 = .ok (.putfield 36, 3) := by decide +kernel
theorem dX0_gainScrip_20 : decode cX0_gainScrip 20 = .ok (.return_, 1) := by decide +kernel
theorem dX0_loseScrip_0 : decode cX0_loseScrip 0 = .ok (.aload_n 0, 1) := by decide +kernel
theorem dX0_loseScrip_1 : decode cX0_loseScrip 1 = .ok (.getfield 26, 3) := by decide +kernel
theorem dX0_loseScrip_4 : decode cX0_loseScrip 4 = .ok (.iload_n 1, 1) := by decide +kernel
theorem dX0_loseScrip_5 : decode cX0_loseScrip 5 = .ok (.iaload, 1) := by decide +kernel
theorem dX0_loseScrip_6 : decode cX0_loseScrip 6 = .ok (.iload_n 2, 1) := by decide +kernel
theorem dX0_loseScrip_7 : decode cX0_loseScrip 7 = .ok (.invokestatic 39, 3) := by decide +kernel
theorem dX0_loseScrip_10 : decode cX0_loseScrip 10 = .ok (.istore_n 3, 1) := by decide +kernel
theorem dX0_loseScrip_11 : decode cX0_loseScrip 11 = .ok (.aload_n 0, 1) := by decide +kernel
theorem dX0_loseScrip_12 : decode cX0_loseScrip 12 = .ok (.getfield 26, 3) := by decide +kernel
theorem dX0_loseScrip_15 : decode cX0_loseScrip 15 = .ok (.iload_n 1, 1) := by decide +kernel
theorem dX0_loseScrip_16 : decode cX0_loseScrip 16 = .ok (.dup2, 1) := by decide +kernel
theorem dX0_loseScrip_17 : decode cX0_loseScrip 17 = .ok (.iaload, 1) := by decide +kernel
theorem dX0_loseScrip_18 : decode cX0_loseScrip 18 = .ok (.iload_n 3, 1) := by decide +kernel
theorem dX0_loseScrip_19 : decode cX0_loseScrip 19 = .ok (.isub, 1) := by decide +kernel
theorem dX0_loseScrip_20 : decode cX0_loseScrip 20 = .ok (.iastore, 1) := by decide +kernel
theorem dX0_loseScrip_21 : decode cX0_loseScrip 21 = .ok (.aload_n 0, 1) := by decide +kernel
theorem dX0_loseScrip_22 : decode cX0_loseScrip 22 = .ok (.dup, 1) := by decide +kernel
theorem dX0_loseScrip_23 : decode cX0_loseScrip 23 = .ok (.getfield 45, 3) := by decide +kernel
theorem dX0_loseScrip_26 : decode cX0_loseScrip 26 = .ok (.iload_n 3, 1) := by decide +kernel
theorem dX0_loseScrip_27 : decode cX0_loseScrip 27 = .ok (.iadd, 1) := by decide +kernel
theorem dX0_loseScrip_28 : decode cX0_loseScrip 28 = .ok (.putfield 45, 3) := by decide +kernel
theorem dX0_loseScrip_31 : decode cX0_loseScrip 31 = .ok (.iload_n 3, 1) := by decide +kernel
theorem dX0_loseScrip_32 : decode cX0_loseScrip 32 = .ok (.ireturn, 1) := by decide +kernel
theorem dX0_loseLowestScrip_0 : decode cX0_loseLowestScrip 0 = .ok (.iconst 0, 1) := by decide +kernel
theorem dX0_loseLowestScrip_1 : decode cX0_loseLowestScrip 1 = .ok (.istore_n 2, 1) := by decide +kernel
theorem dX0_loseLowestScrip_2 : decode cX0_loseLowestScrip 2 = .ok (.iconst 0, 1) := by decide +kernel
theorem dX0_loseLowestScrip_3 : decode cX0_loseLowestScrip 3 = .ok (.istore_n 3, 1) := by decide +kernel
theorem dX0_loseLowestScrip_4 : decode cX0_loseLowestScrip 4 = .ok (.iload_n 3, 1) := by decide +kernel
theorem dX0_loseLowestScrip_5 : decode cX0_loseLowestScrip 5 = .ok (.aload_n 0, 1) := by decide +kernel
theorem dX0_loseLowestScrip_6 : decode cX0_loseLowestScrip 6 = .ok (.getfield 26, 3) := by decide +kernel
theorem dX0_loseLowestScrip_9 : decode cX0_loseLowestScrip 9 = .ok (.arraylength, 1) := by decide +kernel
theorem dX0_loseLowestScrip_10 : decode cX0_loseLowestScrip 10 = .ok (.if_icmp .ge 20, 3) := by decide +kernel
theorem dX0_loseLowestScrip_13 : decode cX0_loseLowestScrip 13 = .ok (.iload_n 2, 1) := by decide +kernel
theorem dX0_loseLowestScrip_14 : decode cX0_loseLowestScrip 14 = .ok (.aload_n 0, 1) := by decide +kernel
theorem dX0_loseLowestScrip_15 : decode cX0_loseLowestScrip 15 = .ok (.iload_n 3, 1) := by decide +kernel
theorem dX0_loseLowestScrip_16 : decode cX0_loseLowestScrip 16 = .ok (.iload_n 1, 1) := by decide +kernel
theorem dX0_loseLowestScrip_17 : decode cX0_loseLowestScrip 17 = .ok (.iload_n 2, 1) := by decide +kernel
theorem dX0_loseLowestScrip_18 : decode cX0_loseLowestScrip 18 = .ok (.isub, 1) := by decide +kernel
theorem dX0_loseLowestScrip_19 : decode cX0_loseLowestScrip 19 = .ok (.invokevirtual 48, 3) := by decide +kernel
theorem dX0_loseLowestScrip_22 : decode cX0_loseLowestScrip 22 = .ok (.iadd, 1) := by decide +kernel
theorem dX0_loseLowestScrip_23 : decode cX0_loseLowestScrip 23 = .ok (.istore_n 2, 1) := by decide +kernel
theorem dX0_loseLowestScrip_24 : decode cX0_loseLowestScrip 24 = .ok (.iinc 3 1, 3) := by decide +kernel
theorem dX0_loseLowestScrip_27 : decode cX0_loseLowestScrip 27 = .ok (.goto (-23), 3) := by decide +kernel
theorem dX0_loseLowestScrip_30 : decode cX0_loseLowestScrip 30 = .ok (.iload_n 2, 1) := by decide +kernel
theorem dX0_loseLowestScrip_31 : decode cX0_loseLowestScrip 31 = .ok (.ireturn, 1) := by decide +kernel
theorem dX0_inherit_0 : decode cX0_inherit 0 = .ok (.aload_n 0, 1) := by decide +kernel
theorem dX0_inherit_1 : decode cX0_inherit 1 = .ok (.dup, 1) := by decide +kernel
theorem dX0_inherit_2 : decode cX0_inherit 2 = .ok (.getfield 29, 3) := by decide +kernel
theorem dX0_inherit_5 : decode cX0_inherit 5 = .ok (.aload_n 1, 1) := by decide +kernel
theorem dX0_inherit_6 : decode cX0_inherit 6 = .ok (.getfield 29, 3) := by decide +kernel
theorem dX0_inherit_9 : decode cX0_inherit 9 = .ok (.iadd, 1) := by decide +kernel
theorem dX0_inherit_10 : decode cX0_inherit 10 = .ok (.putfield 29, 3) := by decide +kernel
theorem dX0_inherit_13 : decode cX0_inherit 13 = .ok (.iconst 0, 1) := by decide +kernel
theorem dX0_inherit_14 : decode cX0_inherit 14 = .ok (.istore_n 3, 1) := by decide +kernel
theorem dX0_inherit_15 : decode cX0_inherit 15 = .ok (.iload_n 3, 1) := by decide +kernel
theorem dX0_inherit_16 : decode cX0_inherit 16 = .ok (.aload_n 0, 1) := by decide +kernel
theorem dX0_inherit_17 : decode cX0_inherit 17 = .ok (.getfield 26, 3) := by decide +kernel
theorem dX0_inherit_20 : decode cX0_inherit 20 = .ok (.arraylength, 1) := by decide +kernel
theorem dX0_inherit_21 : decode cX0_inherit 21 = .ok (.if_icmp .ge 20, 3) := by decide +kernel
theorem dX0_inherit_24 : decode cX0_inherit 24 = .ok (.aload_n 0, 1) := by decide +kernel
theorem dX0_inherit_25 : decode cX0_inherit 25 = .ok (.iload_n 3, 1) := by decide +kernel
theorem dX0_inherit_26 : decode cX0_inherit 26 = .ok (.aload_n 1, 1) := by decide +kernel
theorem dX0_inherit_27 : decode cX0_inherit 27 = .ok (.getfield 26, 3) := by decide +kernel
theorem dX0_inherit_30 : decode cX0_inherit 30 = .ok (.iload_n 3, 1) := by decide +kernel
theorem dX0_inherit_31 : decode cX0_inherit 31 = .ok (.iaload, 1) := by decide +kernel
theorem dX0_inherit_32 : decode cX0_inherit 32 = .ok (.invokevirtual 51, 3) := by decide +kernel
theorem dX0_inherit_35 : decode cX0_inherit 35 = .ok (.iinc 3 1, 3) := by decide +kernel
theorem dX0_inherit_38 : decode cX0_inherit 38 = .ok (.goto (-23), 3) := by decide +kernel
theorem dX0_inherit_41 : decode cX0_inherit 41 = .ok (.iconst 0, 1) := by decide +kernel
theorem dX0_inherit_42 : decode cX0_inherit 42 = .ok (.istore_n 3, 1) := by decide +kernel
theorem dX0_inherit_43 : decode cX0_inherit 43 = .ok (.iload_n 3, 1) := by decide +kernel
theorem dX0_inherit_44 : decode cX0_inherit 44 = .ok (.aload_n 0, 1) := by decide +kernel
theorem dX0_inherit_45 : decode cX0_inherit 45 = .ok (.getfield 22, 3) := by decide +kernel
theorem dX0_inherit_48 : decode cX0_inherit 48 = .ok (.arraylength, 1) := by decide +kernel
theorem dX0_inherit_49 : decode cX0_inherit 49 = .ok (.if_icmp .ge 24, 3) := by decide +kernel
theorem dX0_inherit_52 : decode cX0_inherit 52 = .ok (.aload_n 0, 1) := by decide +kernel
theorem dX0_inherit_53 : decode cX0_inherit 53 = .ok (.getfield 22, 3) := by decide +kernel
theorem dX0_inherit_56 : decode cX0_inherit 56 = .ok (.iload_n 3, 1) := by decide +kernel
theorem dX0_inherit_57 : decode cX0_inherit 57 = .ok (.dup2, 1) := by decide +kernel
theorem dX0_inherit_58 : decode cX0_inherit 58 = .ok (.iaload, 1) := by decide +kernel
theorem dX0_inherit_59 : decode cX0_inherit 59 = .ok (.aload_n 1, 1) := by decide +kernel
theorem dX0_inherit_60 : decode cX0_inherit 60 = .ok (.getfield 22, 3) := by decide +kernel
theorem dX0_inherit_63 : decode cX0_inherit 63 = .ok (.iload_n 3, 1) := by decide +kernel
theorem dX0_inherit_64 : decode cX0_inherit 64 = .ok (.iaload, 1) := by decide +kernel
theorem dX0_inherit_65 : decode cX0_inherit 65 = .ok (.iadd, 1) := by decide +kernel
theorem dX0_inherit_66 : decode cX0_inherit 66 = .ok (.iastore, 1) := by decide +kernel
theorem dX0_inherit_67 : decode cX0_inherit 67 = .ok (.iinc 3 1, 3) := by decide +kernel
theorem dX0_inherit_70 : decode cX0_inherit 70 = .ok (.goto (-27), 3) := by decide +kernel
theorem dX0_inherit_73 : decode cX0_inherit 73 = .ok (.iload_n 2, 1) := by decide +kernel
theorem dX0_inherit_74 : decode cX0_inherit 74 = .ok (.ifCond .eq 29, 3) := by decide +kernel
theorem dX0_inherit_77 : decode cX0_inherit 77 = .ok (.aload_n 0, 1) := by decide +kernel
theorem dX0_inherit_78 : decode cX0_inherit 78 = .ok (.dup, 1) := by decide +kernel
theorem dX0_inherit_79 : decode cX0_inherit 79 = .ok (.getfield 55, 3) := by decide +kernel
theorem dX0_inherit_82 : decode cX0_inherit 82 = .ok (.aload_n 1, 1) := by decide +kernel
theorem dX0_inherit_83 : decode cX0_inherit 83 = .ok (.getfield 55, 3) := by decide +kernel
theorem dX0_inherit_86 : decode cX0_inherit 86 = .ok (.iadd, 1) := by decide +kernel
theorem dX0_inherit_87 : decode cX0_inherit 87 = .ok (.putfield 55, 3) := by decide +kernel
theorem dX0_inherit_90 : decode cX0_inherit 90 = .ok (.aload_n 0, 1) := by decide +kernel
theorem dX0_inherit_91 : decode cX0_inherit 91 = .ok (.dup, 1) := by decide +kernel
theorem dX0_inherit_92 : decode cX0_inherit 92 = .ok (.getfield 58, 3) := by decide +kernel
theorem dX0_inherit_95 : decode cX0_inherit 95 = .ok (.aload_n 1, 1) := by decide +kernel
theorem dX0_inherit_96 : decode cX0_inherit 96 = .ok (.getfield 58, 3) := by decide +kernel
theorem dX0_inherit_99 : decode cX0_inherit 99 = .ok (.iadd, 1) := by decide +kernel
theorem dX0_inherit_100 : decode cX0_inherit 100 = .ok (.putfield 58, 3) := by decide +kernel
theorem dX0_inherit_103 : decode cX0_inherit 103 = .ok (.return_, 1) := by decide +kernel
theorem dX0_leaveAll_0 : decode cX0_leaveAll 0 = .ok (.aload_n 0, 1) := by decide +kernel
theorem dX0_leaveAll_1 : decode cX0_leaveAll 1 = .ok (.iconst 0, 1) := by decide +kernel
theorem dX0_leaveAll_2 : decode cX0_leaveAll 2 = .ok (.putfield 15, 3) := by decide +kernel
theorem dX0_leaveAll_5 : decode cX0_leaveAll 5 = .ok (.aload_n 0, 1) := by decide +kernel
theorem dX0_leaveAll_6 : decode cX0_leaveAll 6 = .ok (.iconst 0, 1) := by decide +kernel
theorem dX0_leaveAll_7 : decode cX0_leaveAll 7 = .ok (.putfield 61, 3) := by decide +kernel
theorem dX0_leaveAll_10 : decode cX0_leaveAll 10 = .ok (.aload_n 0, 1) := by decide +kernel
theorem dX0_leaveAll_11 : decode cX0_leaveAll 11 = .ok (.iconst 0, 1) := by decide +kernel
theorem dX0_leaveAll_12 : decode cX0_leaveAll 12 = .ok (.putfield 29, 3) := by decide +kernel
theorem dX0_leaveAll_15 : decode cX0_leaveAll 15 = .ok (.aload_n 0, 1) := by decide +kernel
theorem dX0_leaveAll_16 : decode cX0_leaveAll 16 = .ok (.iconst 0, 1) := by decide +kernel
theorem dX0_leaveAll_17 : decode cX0_leaveAll 17 = .ok (.putfield 55, 3) := by decide +kernel
theorem dX0_leaveAll_20 : decode cX0_leaveAll 20 = .ok (.aload_n 0, 1) := by decide +kernel
theorem dX0_leaveAll_21 : decode cX0_leaveAll 21 = .ok (.iconst 0, 1) := by decide +kernel
theorem dX0_leaveAll_22 : decode cX0_leaveAll 22 = .ok (.putfield 58, 3) := by decide +kernel
theorem dX0_leaveAll_25 : decode cX0_leaveAll 25 = .ok (.aload_n 0, 1) := by decide +kernel
theorem dX0_leaveAll_26 : decode cX0_leaveAll 26 = .ok (.aload_n 0, 1) := by decide +kernel
theorem dX0_leaveAll_27 : decode cX0_leaveAll 27 = .ok (.invokevirtual 32, 3) := by decide +kernel
theorem dX0_leaveAll_30 : decode cX0_leaveAll 30 = .ok (.invokevirtual 64, 3) := by decide +kernel
theorem dX0_leaveAll_33 : decode cX0_leaveAll 33 = .ok (.pop, 1) := by decide +kernel
theorem dX0_leaveAll_34 : decode cX0_leaveAll 34 = .ok (.iconst 0, 1) := by decide +kernel
theorem dX0_leaveAll_35 : decode cX0_leaveAll 35 = .ok (.istore_n 1, 1) := by decide +kernel
theorem dX0_leaveAll_36 : decode cX0_leaveAll 36 = .ok (.iload_n 1, 1) := by decide +kernel
theorem dX0_leaveAll_37 : decode cX0_leaveAll 37 = .ok (.aload_n 0, 1) := by decide +kernel
theorem dX0_leaveAll_38 : decode cX0_leaveAll 38 = .ok (.getfield 22, 3) := by decide +kernel
theorem dX0_leaveAll_41 : decode cX0_leaveAll 41 = .ok (.arraylength, 1) := by decide +kernel
theorem dX0_leaveAll_42 : decode cX0_leaveAll 42 = .ok (.if_icmp .ge 16, 3) := by decide +kernel
theorem dX0_leaveAll_45 : decode cX0_leaveAll 45 = .ok (.aload_n 0, 1) := by decide +kernel
theorem dX0_leaveAll_46 : decode cX0_leaveAll 46 = .ok (.getfield 22, 3) := by decide +kernel
theorem dX0_leaveAll_49 : decode cX0_leaveAll 49 = .ok (.iload_n 1, 1) := by decide +kernel
theorem dX0_leaveAll_50 : decode cX0_leaveAll 50 = .ok (.iconst 0, 1) := by decide +kernel
theorem dX0_leaveAll_51 : decode cX0_leaveAll 51 = .ok (.iastore, 1) := by decide +kernel
theorem dX0_leaveAll_52 : decode cX0_leaveAll 52 = .ok (.iinc 1 1, 3) := by decide +kernel
theorem dX0_leaveAll_55 : decode cX0_leaveAll 55 = .ok (.goto (-19), 3) := by decide +kernel
theorem dX0_leaveAll_58 : decode cX0_leaveAll 58 = .ok (.return_, 1) := by decide +kernel
theorem dX1_init_0 : decode cX1_init 0 = .ok (.aload_n 0, 1) := by decide +kernel
theorem dX1_init_1 : decode cX1_init 1 = .ok (.invokespecial 3, 3) := by decide +kernel
theorem dX1_init_4 : decode cX1_init 4 = .ok (.return_, 1) := by decide +kernel
theorem dX1_open_0 : decode cX1_open 0 = .ok (.aload_n 0, 1) := by decide +kernel
theorem dX1_open_1 : decode cX1_open 1 = .ok (.iload_n 1, 1) := by decide +kernel
theorem dX1_open_2 : decode cX1_open 2 = .ok (.putfield 9, 3) := by decide +kernel
theorem dX1_open_5 : decode cX1_open 5 = .ok (.aload_n 0, 1) := by decide +kernel
theorem dX1_open_6 : decode cX1_open 6 = .ok (.iconst 0, 1) := by decide +kernel
theorem dX1_open_7 : decode cX1_open 7 = .ok (.putfield 15, 3) := by decide +kernel
theorem dX1_open_10 : decode cX1_open 10 = .ok (.aload_n 0, 1) := by decide +kernel
theorem dX1_open_11 : decode cX1_open 11 = .ok (.iconst 0, 1) := by decide +kernel
theorem dX1_open_12 : decode cX1_open 12 = .ok (.putfield 18, 3) := by decide +kernel
theorem dX1_open_15 : decode cX1_open 15 = .ok (.aload_n 0, 1) := by decide +kernel
theorem dX1_open_16 : decode cX1_open 16 = .ok (.iconst 0, 1) := by decide +kernel
theorem dX1_open_17 : decode cX1_open 17 = .ok (.putfield 21, 3) := by decide +kernel
theorem dX1_open_20 : decode cX1_open 20 = .ok (.return_, 1) := by decide +kernel
theorem dX1_take_0 : decode cX1_take 0 = .ok (.iload_n 2, 1) := by decide +kernel
theorem dX1_take_1 : decode cX1_take 1 = .ok (.aload_n 0, 1) := by decide +kernel
theorem dX1_take_2 : decode cX1_take 2 = .ok (.getfield 9, 3) := by decide +kernel
theorem dX1_take_5 : decode cX1_take 5 = .ok (.invokestatic 24, 3) := by decide +kernel
theorem dX1_take_8 : decode cX1_take 8 = .ok (.istore_n 3, 1) := by decide +kernel
theorem dX1_take_9 : decode cX1_take 9 = .ok (.aload_n 0, 1) := by decide +kernel
theorem dX1_take_10 : decode cX1_take 10 = .ok (.dup, 1) := by decide +kernel
theorem dX1_take_11 : decode cX1_take 11 = .ok (.getfield 9, 3) := by decide +kernel
theorem dX1_take_14 : decode cX1_take 14 = .ok (.iload_n 3, 1) := by decide +kernel
theorem dX1_take_15 : decode cX1_take 15 = .ok (.isub, 1) := by decide +kernel
theorem dX1_take_16 : decode cX1_take 16 = .ok (.putfield 9, 3) := by decide +kernel
theorem dX1_take_19 : decode cX1_take 19 = .ok (.iload_n 1, 1) := by decide +kernel
theorem dX1_take_20 : decode cX1_take 20 = .ok (.iconst 1, 1) := by decide +kernel
theorem dX1_take_21 : decode cX1_take 21 = .ok (.if_icmp .ne 8, 3) := by decide +kernel
theorem dX1_take_24 : decode cX1_take 24 = .ok (.aload_n 0, 1) := by decide +kernel
theorem dX1_take_25 : decode cX1_take 25 = .ok (.iload_n 3, 1) := by decide +kernel
theorem dX1_take_26 : decode cX1_take 26 = .ok (.putfield 15, 3) := by decide +kernel
theorem dX1_take_29 : decode cX1_take 29 = .ok (.iload_n 1, 1) := by decide +kernel
theorem dX1_take_30 : decode cX1_take 30 = .ok (.iconst 5, 1) := by decide +kernel
theorem dX1_take_31 : decode cX1_take 31 = .ok (.if_icmp .ne 8, 3) := by decide +kernel
theorem dX1_take_34 : decode cX1_take 34 = .ok (.aload_n 0, 1) := by decide +kernel
theorem dX1_take_35 : decode cX1_take 35 = .ok (.iload_n 3, 1) := by decide +kernel
theorem dX1_take_36 : decode cX1_take 36 = .ok (.putfield 18, 3) := by decide +kernel
theorem dX1_take_39 : decode cX1_take 39 = .ok (.iload_n 1, 1) := by decide +kernel
theorem dX1_take_40 : decode cX1_take 40 = .ok (.iconst 3, 1) := by decide +kernel
theorem dX1_take_41 : decode cX1_take 41 = .ok (.if_icmp .lt 13, 3) := by decide +kernel
theorem dX1_take_44 : decode cX1_take 44 = .ok (.aload_n 0, 1) := by decide +kernel
theorem dX1_take_45 : decode cX1_take 45 = .ok (.dup, 1) := by decide +kernel
theorem dX1_take_46 : decode cX1_take 46 = .ok (.getfield 21, 3) := by decide +kernel
theorem dX1_take_49 : decode cX1_take 49 = .ok (.iload_n 3, 1) := by decide +kernel
theorem dX1_take_50 : decode cX1_take 50 = .ok (.iadd, 1) := by decide +kernel
theorem dX1_take_51 : decode cX1_take 51 = .ok (.putfield 21, 3) := by decide +kernel
theorem dX1_take_54 : decode cX1_take 54 = .ok (.return_, 1) := by decide +kernel
theorem dJ9_max_7cf53_0 : decode cJ9_max_7cf53 0 = .ok (.iload_n 0, 1) := by decide +kernel
theorem dJ9_max_7cf53_1 : decode cJ9_max_7cf53 1 = .ok (.iload_n 1, 1) := by decide +kernel
theorem dJ9_max_7cf53_2 : decode cJ9_max_7cf53 2 = .ok (.if_icmp .lt 7, 3) := by decide +kernel
theorem dJ9_max_7cf53_5 : decode cJ9_max_7cf53 5 = .ok (.iload_n 0, 1) := by decide +kernel
theorem dJ9_max_7cf53_6 : decode cJ9_max_7cf53 6 = .ok (.goto 4, 3) := by decide +kernel
theorem dJ9_max_7cf53_9 : decode cJ9_max_7cf53 9 = .ok (.iload_n 1, 1) := by decide +kernel
theorem dJ9_max_7cf53_10 : decode cJ9_max_7cf53 10 = .ok (.ireturn, 1) := by decide +kernel
theorem dJ9_min_7cf53_0 : decode cJ9_min_7cf53 0 = .ok (.iload_n 0, 1) := by decide +kernel
theorem dJ9_min_7cf53_1 : decode cJ9_min_7cf53 1 = .ok (.iload_n 1, 1) := by decide +kernel
theorem dJ9_min_7cf53_2 : decode cJ9_min_7cf53 2 = .ok (.if_icmp .gt 7, 3) := by decide +kernel
theorem dJ9_min_7cf53_5 : decode cJ9_min_7cf53 5 = .ok (.iload_n 0, 1) := by decide +kernel
theorem dJ9_min_7cf53_6 : decode cJ9_min_7cf53 6 = .ok (.goto 4, 3) := by decide +kernel
theorem dJ9_min_7cf53_9 : decode cJ9_min_7cf53 9 = .ok (.iload_n 1, 1) := by decide +kernel
theorem dJ9_min_7cf53_10 : decode cJ9_min_7cf53 10 = .ok (.ireturn, 1) := by decide +kernel
theorem dJxa1e45_init_da8c8_0 : decode cJxa1e45_init_da8c8 0 = .ok (.aload_n 0, 1) := by decide +kernel
theorem dJxa1e45_init_da8c8_1 : decode cJxa1e45_init_da8c8 1 = .ok (.invokespecial 1, 3) := by decide +kernel
theorem dJxa1e45_init_da8c8_4 : decode cJxa1e45_init_da8c8 4 = .ok (.return_, 1) := by decide +kernel
theorem dJxc12de_init_da8c8_0 : decode cJxc12de_init_da8c8 0 = .ok (.aload_n 0, 1) := by decide +kernel
theorem dJxc12de_init_da8c8_1 : decode cJxc12de_init_da8c8 1 = .ok (.invokespecial 1, 3) := by decide +kernel
theorem dJxc12de_init_da8c8_4 : decode cJxc12de_init_da8c8 4 = .ok (.aload_n 0, 1) := by decide +kernel
theorem dJxc12de_init_da8c8_5 : decode cJxc12de_init_da8c8 5 = .ok (.iconst 0, 1) := by decide +kernel
theorem dJxc12de_init_da8c8_6 : decode cJxc12de_init_da8c8 6 = .ok (.putfield 7, 3) := by decide +kernel
theorem dJxc12de_init_da8c8_9 : decode cJxc12de_init_da8c8 9 = .ok (.return_, 1) := by decide +kernel
theorem dJx4a65c_init_da8c8_0 : decode cJx4a65c_init_da8c8 0 = .ok (.aload_n 0, 1) := by decide +kernel
theorem dJx4a65c_init_da8c8_1 : decode cJx4a65c_init_da8c8 1 = .ok (.invokespecial 1, 3) := by decide +kernel
theorem dJx4a65c_init_da8c8_4 : decode cJx4a65c_init_da8c8 4 = .ok (.aload_n 0, 1) := by decide +kernel
theorem dJx4a65c_init_da8c8_5 : decode cJx4a65c_init_da8c8 5 = .ok (.getstatic 39, 3) := by decide +kernel
theorem dJx4a65c_init_da8c8_8 : decode cJx4a65c_init_da8c8 8 = .ok (.putfield 9, 3) := by decide +kernel
theorem dJx4a65c_init_da8c8_11 : decode cJx4a65c_init_da8c8 11 = .ok (.return_, 1) := by decide +kernel
theorem dJx4a65c_grow_92f84_0 : decode cJx4a65c_grow_92f84 0 = .ok (.aload_n 0, 1) := by decide +kernel
theorem dJx4a65c_grow_92f84_1 : decode cJx4a65c_grow_92f84 1 = .ok (.getfield 9, 3) := by decide +kernel
theorem dJx4a65c_grow_92f84_4 : decode cJx4a65c_grow_92f84 4 = .ok (.arraylength, 1) := by decide +kernel
theorem dJx4a65c_grow_92f84_5 : decode cJx4a65c_grow_92f84 5 = .ok (.istore_n 2, 1) := by decide +kernel
theorem dJx4a65c_grow_92f84_6 : decode cJx4a65c_grow_92f84 6 = .ok (.iload_n 2, 1) := by decide +kernel
theorem dJx4a65c_grow_92f84_7 : decode cJx4a65c_grow_92f84 7 = .ok (.ifCond .gt 13, 3) := by decide +kernel
theorem dJx4a65c_grow_92f84_10 : decode cJx4a65c_grow_92f84 10 = .ok (.aload_n 0, 1) := by decide +kernel
theorem dJx4a65c_grow_92f84_11 : decode cJx4a65c_grow_92f84 11 = .ok (.getfield 9, 3) := by decide +kernel
theorem dJx4a65c_grow_92f84_14 : decode cJx4a65c_grow_92f84 14 = .ok (.getstatic 39, 3) := by decide +kernel
theorem dJx4a65c_grow_92f84_17 : decode cJx4a65c_grow_92f84 17 = .ok (.if_acmp .eq 28, 3) := by decide +kernel
theorem dJx4a65c_grow_92f84_20 : decode cJx4a65c_grow_92f84 20 = .ok (.iload_n 2, 1) := by decide +kernel
theorem dJx4a65c_grow_92f84_21 : decode cJx4a65c_grow_92f84 21 = .ok (.iload_n 1, 1) := by decide +kernel
theorem dJx4a65c_grow_92f84_22 : decode cJx4a65c_grow_92f84 22 = .ok (.iload_n 2, 1) := by decide +kernel
theorem dJx4a65c_grow_92f84_23 : decode cJx4a65c_grow_92f84 23 = .ok (.isub, 1) := by decide +kernel
theorem dJx4a65c_grow_92f84_24 : decode cJx4a65c_grow_92f84 24 = .ok (.iload_n 2, 1) := by decide +kernel
theorem dJx4a65c_grow_92f84_25 : decode cJx4a65c_grow_92f84 25 = .ok (.iconst 1, 1) := by decide +kernel
theorem dJx4a65c_grow_92f84_26 : decode cJx4a65c_grow_92f84 26 = .ok (.ishr, 1) := by decide +kernel
theorem dJx4a65c_grow_92f84_27 : decode cJx4a65c_grow_92f84 27 = .ok (.invokestatic 73, 3) := by decide +kernel
theorem dJx4a65c_grow_92f84_30 : decode cJx4a65c_grow_92f84 30 = .ok (.istore_n 3, 1) := by decide +kernel
theorem dJx4a65c_grow_92f84_31 : decode cJx4a65c_grow_92f84 31 = .ok (.aload_n 0, 1) := by decide +kernel
theorem dJx4a65c_grow_92f84_32 : decode cJx4a65c_grow_92f84 32 = .ok (.aload_n 0, 1) := by decide +kernel
theorem dJx4a65c_grow_92f84_33 : decode cJx4a65c_grow_92f84 33 = .ok (.getfield 9, 3) := by decide +kernel
theorem dJx4a65c_grow_92f84_36 : decode cJx4a65c_grow_92f84 36 = .ok (.iload_n 3, 1) := by decide +kernel
theorem dJx4a65c_grow_92f84_37 : decode cJx4a65c_grow_92f84 37 = .ok (.invokestatic 66, 3) := by decide +kernel
theorem dJx4a65c_grow_92f84_40 : decode cJx4a65c_grow_92f84 40 = .ok (.dup_x1, 1) := by decide +kernel
theorem dJx4a65c_grow_92f84_41 : decode cJx4a65c_grow_92f84 41 = .ok (.putfield 9, 3) := by decide +kernel
theorem dJx4a65c_grow_92f84_44 : decode cJx4a65c_grow_92f84 44 = .ok (.areturn, 1) := by decide +kernel
theorem dJx4a65c_grow_92f84_45 : decode cJx4a65c_grow_92f84 45 = .ok (.aload_n 0, 1) := by decide +kernel
theorem dJx4a65c_grow_92f84_46 : decode cJx4a65c_grow_92f84 46 = .ok (.bipush 10, 2) := by decide +kernel
theorem dJx4a65c_grow_92f84_48 : decode cJx4a65c_grow_92f84 48 = .ok (.iload_n 1, 1) := by decide +kernel
theorem dJx4a65c_grow_92f84_49 : decode cJx4a65c_grow_92f84 49 = .ok (.invokestatic 79, 3) := by decide +kernel
theorem dJx4a65c_grow_92f84_52 : decode cJx4a65c_grow_92f84 52 = .ok (.anewarray 7, 3) := by decide +kernel
theorem dJx4a65c_grow_92f84_55 : decode cJx4a65c_grow_92f84 55 = .ok (.dup_x1, 1) := by decide +kernel
theorem dJx4a65c_grow_92f84_56 : decode cJx4a65c_grow_92f84 56 = .ok (.putfield 9, 3) := by decide +kernel
theorem dJx4a65c_grow_92f84_59 : decode cJx4a65c_grow_92f84 59 = .ok (.areturn, 1) := by decide +kernel
theorem dJx4a65c_grow_d5877_0 : decode cJx4a65c_grow_d5877 0 = .ok (.aload_n 0, 1) := by decide +kernel
theorem dJx4a65c_grow_d5877_1 : decode cJx4a65c_grow_d5877 1 = .ok (.aload_n 0, 1) := by decide +kernel
theorem dJx4a65c_grow_d5877_2 : decode cJx4a65c_grow_d5877 2 = .ok (.getfield 48, 3) := by decide +kernel
theorem dJx4a65c_grow_d5877_5 : decode cJx4a65c_grow_d5877 5 = .ok (.iconst 1, 1) := by decide +kernel
theorem dJx4a65c_grow_d5877_6 : decode cJx4a65c_grow_d5877 6 = .ok (.iadd, 1) := by decide +kernel
theorem dJx4a65c_grow_d5877_7 : decode cJx4a65c_grow_d5877 7 = .ok (.invokevirtual 69, 3) := by decide +kernel
theorem dJx4a65c_grow_d5877_10 : decode cJx4a65c_grow_d5877 10 = .ok (.areturn, 1) := by decide +kernel
theorem dJx4a65c_size_8abf5_0 : decode cJx4a65c_size_8abf5 0 = .ok (.aload_n 0, 1) := by decide +kernel
theorem dJx4a65c_size_8abf5_1 : decode cJx4a65c_size_8abf5 1 = .ok (.getfield 48, 3) := by decide +kernel
theorem dJx4a65c_size_8abf5_4 : decode cJx4a65c_size_8abf5 4 = .ok (.ireturn, 1) := by decide +kernel
theorem dJx4a65c_elementData_915e3_0 : decode cJx4a65c_elementData_915e3 0 = .ok (.aload_n 0, 1) := by decide +kernel
theorem dJx4a65c_elementData_915e3_1 : decode cJx4a65c_elementData_915e3 1 = .ok (.getfield 9, 3) := by decide +kernel
theorem dJx4a65c_elementData_915e3_4 : decode cJx4a65c_elementData_915e3 4 = .ok (.iload_n 1, 1) := by decide +kernel
theorem dJx4a65c_elementData_915e3_5 : decode cJx4a65c_elementData_915e3 5 = .ok (.aaload, 1) := by decide +kernel
theorem dJx4a65c_elementData_915e3_6 : decode cJx4a65c_elementData_915e3 6 = .ok (.areturn, 1) := by decide +kernel
theorem dJx4a65c_get_915e3_0 : decode cJx4a65c_get_915e3 0 = .ok (.iload_n 1, 1) := by decide +kernel
theorem dJx4a65c_get_915e3_1 : decode cJx4a65c_get_915e3 1 = .ok (.aload_n 0, 1) := by decide +kernel
theorem dJx4a65c_get_915e3_2 : decode cJx4a65c_get_915e3 2 = .ok (.getfield 48, 3) := by decide +kernel
theorem dJx4a65c_get_915e3_5 : decode cJx4a65c_get_915e3 5 = .ok (.invokestatic 118, 3) := by decide +kernel
theorem dJx4a65c_get_915e3_8 : decode cJx4a65c_get_915e3 8 = .ok (.pop, 1) := by decide +kernel
theorem dJx4a65c_get_915e3_9 : decode cJx4a65c_get_915e3 9 = .ok (.aload_n 0, 1) := by decide +kernel
theorem dJx4a65c_get_915e3_10 : decode cJx4a65c_get_915e3 10 = .ok (.iload_n 1, 1) := by decide +kernel
theorem dJx4a65c_get_915e3_11 : decode cJx4a65c_get_915e3 11 = .ok (.invokevirtual 123, 3) := by decide +kernel
theorem dJx4a65c_get_915e3_14 : decode cJx4a65c_get_915e3 14 = .ok (.areturn, 1) := by decide +kernel
theorem dJx4a65c_add_72be8_0 : decode cJx4a65c_add_72be8 0 = .ok (.iload_n 3, 1) := by decide +kernel
theorem dJx4a65c_add_72be8_1 : decode cJx4a65c_add_72be8 1 = .ok (.aload_n 2, 1) := by decide +kernel
theorem dJx4a65c_add_72be8_2 : decode cJx4a65c_add_72be8 2 = .ok (.arraylength, 1) := by decide +kernel
theorem dJx4a65c_add_72be8_3 : decode cJx4a65c_add_72be8 3 = .ok (.if_icmp .ne 8, 3) := by decide +kernel
theorem dJx4a65c_add_72be8_6 : decode cJx4a65c_add_72be8 6 = .ok (.aload_n 0, 1) := by decide +kernel
theorem dJx4a65c_add_72be8_7 : decode cJx4a65c_add_72be8 7 = .ok (.invokevirtual 129, 3) := by decide +kernel
theorem dJx4a65c_add_72be8_10 : decode cJx4a65c_add_72be8 10 = .ok (.astore_n 2, 1) := by decide +kernel
theorem dJx4a65c_add_72be8_11 : decode cJx4a65c_add_72be8 11 = .ok (.aload_n 2, 1) := by decide +kernel
theorem dJx4a65c_add_72be8_12 : decode cJx4a65c_add_72be8 12 = .ok (.iload_n 3, 1) := by decide +kernel
theorem dJx4a65c_add_72be8_13 : decode cJx4a65c_add_72be8 13 = .ok (.aload_n 1, 1) := by decide +kernel
theorem dJx4a65c_add_72be8_14 : decode cJx4a65c_add_72be8 14 = .ok (.aastore, 1) := by decide +kernel
theorem dJx4a65c_add_72be8_15 : decode cJx4a65c_add_72be8 15 = .ok (.aload_n 0, 1) := by decide +kernel
theorem dJx4a65c_add_72be8_16 : decode cJx4a65c_add_72be8 16 = .ok (.iload_n 3, 1) := by decide +kernel
theorem dJx4a65c_add_72be8_17 : decode cJx4a65c_add_72be8 17 = .ok (.iconst 1, 1) := by decide +kernel
theorem dJx4a65c_add_72be8_18 : decode cJx4a65c_add_72be8 18 = .ok (.iadd, 1) := by decide +kernel
theorem dJx4a65c_add_72be8_19 : decode cJx4a65c_add_72be8 19 = .ok (.putfield 48, 3) := by decide +kernel
theorem dJx4a65c_add_72be8_22 : decode cJx4a65c_add_72be8 22 = .ok (.return_, 1) := by decide +kernel
theorem dJx4a65c_add_9ea2d_0 : decode cJx4a65c_add_9ea2d 0 = .ok (.aload_n 0, 1) := by decide +kernel
theorem dJx4a65c_add_9ea2d_1 : decode cJx4a65c_add_9ea2d 1 = .ok (.dup, 1) := by decide +kernel
theorem dJx4a65c_add_9ea2d_2 : decode cJx4a65c_add_9ea2d 2 = .ok (.getfield 63, 3) := by decide +kernel
theorem dJx4a65c_add_9ea2d_5 : decode cJx4a65c_add_9ea2d 5 = .ok (.iconst 1, 1) := by decide +kernel
theorem dJx4a65c_add_9ea2d_6 : decode cJx4a65c_add_9ea2d 6 = .ok (.iadd, 1) := by decide +kernel
theorem dJx4a65c_add_9ea2d_7 : decode cJx4a65c_add_9ea2d 7 = .ok (.putfield 63, 3) := by decide +kernel
theorem dJx4a65c_add_9ea2d_10 : decode cJx4a65c_add_9ea2d 10 = .ok (.aload_n 0, 1) := by decide +kernel
theorem dJx4a65c_add_9ea2d_11 : decode cJx4a65c_add_9ea2d 11 = .ok (.aload_n 1, 1) := by decide +kernel
theorem dJx4a65c_add_9ea2d_12 : decode cJx4a65c_add_9ea2d 12 = .ok (.aload_n 0, 1) := by decide +kernel
theorem dJx4a65c_add_9ea2d_13 : decode cJx4a65c_add_9ea2d 13 = .ok (.getfield 9, 3) := by decide +kernel
theorem dJx4a65c_add_9ea2d_16 : decode cJx4a65c_add_9ea2d 16 = .ok (.aload_n 0, 1) := by decide +kernel
theorem dJx4a65c_add_9ea2d_17 : decode cJx4a65c_add_9ea2d 17 = .ok (.getfield 48, 3) := by decide +kernel
theorem dJx4a65c_add_9ea2d_20 : decode cJx4a65c_add_9ea2d 20 = .ok (.invokevirtual 131, 3) := by decide +kernel
theorem dJx4a65c_add_9ea2d_23 : decode cJx4a65c_add_9ea2d 23 = .ok (.iconst 1, 1) := by decide +kernel
theorem dJx4a65c_add_9ea2d_24 : decode cJx4a65c_add_9ea2d 24 = .ok (.ireturn, 1) := by decide +kernel
theorem dJ7_copyOf_1904c_0 : decode cJ7_copyOf_1904c 0 = .ok (.aload_n 0, 1) := by decide +kernel
theorem dJ7_copyOf_1904c_1 : decode cJ7_copyOf_1904c 1 = .ok (.iload_n 1, 1) := by decide +kernel
theorem dJ7_copyOf_1904c_2 : decode cJ7_copyOf_1904c 2 = .ok (.aload_n 0, 1) := by decide +kernel
theorem dJ7_copyOf_1904c_3 : decode cJ7_copyOf_1904c 3 = .ok (.invokevirtual 86, 3) := by decide +kernel
theorem dJ7_copyOf_1904c_6 : decode cJ7_copyOf_1904c 6 = .ok (.invokestatic 300, 3) := by decide +kernel
theorem dJ7_copyOf_1904c_9 : decode cJ7_copyOf_1904c 9 = .ok (.areturn, 1) := by decide +kernel
theorem dJ7_copyOf_6403c_0 : decode cJ7_copyOf_6403c 0 = .ok (.aload_n 2, 1) := by decide +kernel
theorem dJ7_copyOf_6403c_1 : decode cJ7_copyOf_6403c 1 = .ok (.ldc 110, 2) := by decide +kernel
theorem dJ7_copyOf_6403c_3 : decode cJ7_copyOf_6403c 3 = .ok (.if_acmp .ne 10, 3) := by decide +kernel
theorem dJ7_copyOf_6403c_6 : decode cJ7_copyOf_6403c 6 = .ok (.iload_n 1, 1) := by decide +kernel
theorem dJ7_copyOf_6403c_7 : decode cJ7_copyOf_6403c 7 = .ok (.anewarray 2, 3) := by decide +kernel
theorem dJ7_copyOf_6403c_10 : decode cJ7_copyOf_6403c 10 = .ok (.goto 14, 3) := by decide +kernel
theorem dJ7_copyOf_6403c_13 : decode cJ7_copyOf_6403c 13 = .ok (.aload_n 2, 1) := by decide +kernel
theorem dJ7_copyOf_6403c_14 : decode cJ7_copyOf_6403c 14 = .ok (.invokevirtual 90, 3) := by decide +kernel
theorem dJ7_copyOf_6403c_17 : decode cJ7_copyOf_6403c 17 = .ok (.iload_n 1, 1) := by decide +kernel
theorem dJ7_copyOf_6403c_18 : decode cJ7_copyOf_6403c 18 = .ok (.invokestatic 95, 3) := by decide +kernel
theorem dJ7_copyOf_6403c_21 : decode cJ7_copyOf_6403c 21 = .ok (.checkcast 110, 3) := by decide +kernel
theorem dJ7_copyOf_6403c_24 : decode cJ7_copyOf_6403c 24 = .ok (.astore_n 3, 1) := by decide +kernel
theorem dJ7_copyOf_6403c_25 : decode cJ7_copyOf_6403c 25 = .ok (.aload_n 0, 1) := by decide +kernel
theorem dJ7_copyOf_6403c_26 : decode cJ7_copyOf_6403c 26 = .ok (.iconst 0, 1) := by decide +kernel
theorem dJ7_copyOf_6403c_27 : decode cJ7_copyOf_6403c 27 = .ok (.aload_n 3, 1) := by decide +kernel
theorem dJ7_copyOf_6403c_28 : decode cJ7_copyOf_6403c 28 = .ok (.iconst 0, 1) := by decide +kernel
theorem dJ7_copyOf_6403c_29 : decode cJ7_copyOf_6403c 29 = .ok (.aload_n 0, 1) := by decide +kernel
theorem dJ7_copyOf_6403c_30 : decode cJ7_copyOf_6403c 30 = .ok (.arraylength, 1) := by decide +kernel
theorem dJ7_copyOf_6403c_31 : decode cJ7_copyOf_6403c 31 = .ok (.iload_n 1, 1) := by decide +kernel
theorem dJ7_copyOf_6403c_32 : decode cJ7_copyOf_6403c 32 = .ok (.invokestatic 304, 3) := by decide +kernel
theorem dJ7_copyOf_6403c_35 : decode cJ7_copyOf_6403c 35 = .ok (.invokestatic 150, 3) := by decide +kernel
theorem dJ7_copyOf_6403c_38 : decode cJ7_copyOf_6403c 38 = .ok (.aload_n 3, 1) := by decide +kernel
theorem dJ7_copyOf_6403c_39 : decode cJ7_copyOf_6403c 39 = .ok (.areturn, 1) := by decide +kernel
theorem dJ15_checkIndex_7cf53_0 : decode cJ15_checkIndex_7cf53 0 = .ok (.iload_n 0, 1) := by decide +kernel
theorem dJ15_checkIndex_7cf53_1 : decode cJ15_checkIndex_7cf53 1 = .ok (.iload_n 1, 1) := by decide +kernel
theorem dJ15_checkIndex_7cf53_2 : decode cJ15_checkIndex_7cf53 2 = .ok (.aconst_null, 1) := by decide +kernel
theorem dJ15_checkIndex_7cf53_3 : decode cJ15_checkIndex_7cf53 3 = .ok (.invokestatic 105, 3) := by decide +kernel
theorem dJ15_checkIndex_7cf53_6 : decode cJ15_checkIndex_7cf53 6 = .ok (.ireturn, 1) := by decide +kernel
theorem dJ8_newLength_cabcc_0 : decode cJ8_newLength_cabcc 0 = .ok (.iload_n 0, 1) := by decide +kernel
theorem dJ8_newLength_cabcc_1 : decode cJ8_newLength_cabcc 1 = .ok (.iload_n 1, 1) := by decide +kernel
theorem dJ8_newLength_cabcc_2 : decode cJ8_newLength_cabcc 2 = .ok (.iload_n 2, 1) := by decide +kernel
theorem dJ8_newLength_cabcc_3 : decode cJ8_newLength_cabcc 3 = .ok (.invokestatic 194, 3) := by decide +kernel
theorem dJ8_newLength_cabcc_6 : decode cJ8_newLength_cabcc 6 = .ok (.iadd, 1) := by decide +kernel
theorem dJ8_newLength_cabcc_7 : decode cJ8_newLength_cabcc 7 = .ok (.istore_n 3, 1) := by decide +kernel
theorem dJ8_newLength_cabcc_8 : decode cJ8_newLength_cabcc 8 = .ok (.iconst 0, 1) := by decide +kernel
theorem dJ8_newLength_cabcc_9 : decode cJ8_newLength_cabcc 9 = .ok (.iload_n 3, 1) := by decide +kernel
theorem dJ8_newLength_cabcc_10 : decode cJ8_newLength_cabcc 10 = .ok (.if_icmp .ge 11, 3) := by decide +kernel
theorem dJ8_newLength_cabcc_13 : decode cJ8_newLength_cabcc 13 = .ok (.iload_n 3, 1) := by decide +kernel
theorem dJ8_newLength_cabcc_14 : decode cJ8_newLength_cabcc 14 = .ok (.ldc 200, 2) := by decide +kernel
theorem dJ8_newLength_cabcc_16 : decode cJ8_newLength_cabcc 16 = .ok (.if_icmp .gt 5, 3) := by decide +kernel
theorem dJ8_newLength_cabcc_19 : decode cJ8_newLength_cabcc 19 = .ok (.iload_n 3, 1) := by decide +kernel
theorem dJ8_newLength_cabcc_20 : decode cJ8_newLength_cabcc 20 = .ok (.ireturn, 1) := by decide +kernel
theorem dJ8_newLength_cabcc_21 : decode cJ8_newLength_cabcc 21 = .ok (.iload_n 0, 1) := by decide +kernel
theorem dJ8_newLength_cabcc_22 : decode cJ8_newLength_cabcc 22 = .ok (.iload_n 1, 1) := by decide +kernel
theorem dJ8_newLength_cabcc_23 : decode cJ8_newLength_cabcc 23 = .ok (.invokestatic 201, 3) := by decide +kernel
theorem dJ8_newLength_cabcc_26 : decode cJ8_newLength_cabcc 26 = .ok (.ireturn, 1) := by decide +kernel
theorem dJ8_hugeLength_7cf53_0 : decode cJ8_hugeLength_7cf53 0 = .ok (.iload_n 0, 1) := by decide +kernel
theorem dJ8_hugeLength_7cf53_1 : decode cJ8_hugeLength_7cf53 1 = .ok (.iload_n 1, 1) := by decide +kernel
theorem dJ8_hugeLength_7cf53_2 : decode cJ8_hugeLength_7cf53 2 = .ok (.iadd, 1) := by decide +kernel
theorem dJ8_hugeLength_7cf53_3 : decode cJ8_hugeLength_7cf53 3 = .ok (.istore_n 2, 1) := by decide +kernel
theorem dJ8_hugeLength_7cf53_4 : decode cJ8_hugeLength_7cf53 4 = .ok (.iload_n 2, 1) := by decide +kernel
theorem dJ8_hugeLength_7cf53_5 : decode cJ8_hugeLength_7cf53 5 = .ok (.ifCond .ge 44, 3) := by decide +kernel
theorem dJ8_hugeLength_7cf53_8 : decode cJ8_hugeLength_7cf53 8 = .ok (.new 204, 3) := by decide +kernel
theorem dJ8_hugeLength_7cf53_11 : decode cJ8_hugeLength_7cf53 11 = .ok (.dup, 1) := by decide +kernel
theorem dJ8_hugeLength_7cf53_12 : decode cJ8_hugeLength_7cf53 12 = .ok (.new 89, 3) := by decide +kernel
theorem dJ8_hugeLength_7cf53_15 : decode cJ8_hugeLength_7cf53 15 = .ok (.dup, 1) := by decide +kernel
theorem dJ8_hugeLength_7cf53_16 : decode cJ8_hugeLength_7cf53 16 = .ok (.invokespecial 91, 3) := by decide +kernel
theorem dJ8_hugeLength_7cf53_19 : decode cJ8_hugeLength_7cf53 19 = .ok (.ldc 206, 2) := by decide +kernel
theorem dJ8_hugeLength_7cf53_21 : decode cJ8_hugeLength_7cf53 21 = .ok (.invokevirtual 94, 3) := by decide +kernel
theorem dJ8_hugeLength_7cf53_24 : decode cJ8_hugeLength_7cf53 24 = .ok (.iload_n 0, 1) := by decide +kernel
theorem dJ8_hugeLength_7cf53_25 : decode cJ8_hugeLength_7cf53 25 = .ok (.invokevirtual 98, 3) := by decide +kernel
theorem dJ8_hugeLength_7cf53_28 : decode cJ8_hugeLength_7cf53 28 = .ok (.ldc 208, 2) := by decide +kernel
theorem dJ8_hugeLength_7cf53_30 : decode cJ8_hugeLength_7cf53 30 = .ok (.invokevirtual 94, 3) := by decide +kernel
theorem dJ8_hugeLength_7cf53_33 : decode cJ8_hugeLength_7cf53 33 = .ok (.iload_n 1, 1) := by decide +kernel
theorem dJ8_hugeLength_7cf53_34 : decode cJ8_hugeLength_7cf53 34 = .ok (.invokevirtual 98, 3) := by decide +kernel
theorem dJ8_hugeLength_7cf53_37 : decode cJ8_hugeLength_7cf53 37 = .ok (.ldc 210, 2) := by decide +kernel
theorem dJ8_hugeLength_7cf53_39 : decode cJ8_hugeLength_7cf53 39 = .ok (.invokevirtual 94, 3) := by decide +kernel
theorem dJ8_hugeLength_7cf53_42 : decode cJ8_hugeLength_7cf53 42 = .ok (.invokevirtual 101, 3) := by decide +kernel
theorem dJ8_hugeLength_7cf53_45 : decode cJ8_hugeLength_7cf53 45 = .ok (.invokespecial 212, 3) := by decide +kernel
theorem dJ8_hugeLength_7cf53_48 : decode cJ8_hugeLength_7cf53 48 = .ok (.athrow, 1) := by decide +kernel
theorem dJ8_hugeLength_7cf53_49 : decode cJ8_hugeLength_7cf53 49 = .ok (.iload_n 2, 1) := by decide +kernel
theorem dJ8_hugeLength_7cf53_50 : decode cJ8_hugeLength_7cf53 50 = .ok (.ldc 200, 2) := by decide +kernel
theorem dJ8_hugeLength_7cf53_52 : decode cJ8_hugeLength_7cf53 52 = .ok (.if_icmp .gt 6, 3) := by decide +kernel
theorem dJ8_hugeLength_7cf53_55 : decode cJ8_hugeLength_7cf53 55 = .ok (.ldc 200, 2) := by decide +kernel
theorem dJ8_hugeLength_7cf53_57 : decode cJ8_hugeLength_7cf53 57 = .ok (.ireturn, 1) := by decide +kernel
theorem dJ8_hugeLength_7cf53_58 : decode cJ8_hugeLength_7cf53 58 = .ok (.iload_n 2, 1) := by decide +kernel
theorem dJ8_hugeLength_7cf53_59 : decode cJ8_hugeLength_7cf53 59 = .ok (.ireturn, 1) := by decide +kernel
theorem dJ3_checkIndex_8e157_0 : decode cJ3_checkIndex_8e157 0 = .ok (.iload_n 0, 1) := by decide +kernel
theorem dJ3_checkIndex_8e157_1 : decode cJ3_checkIndex_8e157 1 = .ok (.ifCond .lt 8, 3) := by decide +kernel
theorem dJ3_checkIndex_8e157_4 : decode cJ3_checkIndex_8e157 4 = .ok (.iload_n 0, 1) := by decide +kernel
theorem dJ3_checkIndex_8e157_5 : decode cJ3_checkIndex_8e157 5 = .ok (.iload_n 1, 1) := by decide +kernel
theorem dJ3_checkIndex_8e157_6 : decode cJ3_checkIndex_8e157 6 = .ok (.if_icmp .lt 10, 3) := by decide +kernel
theorem dJ3_checkIndex_8e157_9 : decode cJ3_checkIndex_8e157 9 = .ok (.aload_n 2, 1) := by decide +kernel
theorem dJ3_checkIndex_8e157_10 : decode cJ3_checkIndex_8e157 10 = .ok (.iload_n 0, 1) := by decide +kernel
theorem dJ3_checkIndex_8e157_11 : decode cJ3_checkIndex_8e157 11 = .ok (.iload_n 1, 1) := by decide +kernel
theorem dJ3_checkIndex_8e157_12 : decode cJ3_checkIndex_8e157 12 = .ok (.invokestatic 95, 3) := by decide +kernel
theorem dJ3_checkIndex_8e157_15 : decode cJ3_checkIndex_8e157 15 = .ok (.athrow, 1) := by decide +kernel
theorem dJ3_checkIndex_8e157_16 : decode cJ3_checkIndex_8e157 16 = .ok (.iload_n 0, 1) := by decide +kernel
theorem dJ3_checkIndex_8e157_17 : decode cJ3_checkIndex_8e157 17 = .ok (.ireturn, 1) := by decide +kernel
end
section
theorem dX2_init_0 : decode cX2_init 0 = .ok (.aload_n 0, 1) := by decide +kernel
theorem dX2_init_1 : decode cX2_init 1 = .ok (.invokespecial 1, 3) := by decide +kernel
theorem dX2_init_4 : decode cX2_init 4 = .ok (.aload_n 0, 1) := by decide +kernel
theorem dX2_init_5 : decode cX2_init 5 = .ok (.new 7, 3) := by decide +kernel
theorem dX2_init_8 : decode cX2_init 8 = .ok (.dup, 1) := by decide +kernel
theorem dX2_init_9 : decode cX2_init 9 = .ok (.invokespecial 9, 3) := by decide +kernel
theorem dX2_init_12 : decode cX2_init 12 = .ok (.putfield 10, 3) := by decide +kernel
theorem dX2_init_15 : decode cX2_init 15 = .ok (.aload_n 0, 1) := by decide +kernel
theorem dX2_init_16 : decode cX2_init 16 = .ok (.bipush 10, 2) := by decide +kernel
theorem dX2_init_18 : decode cX2_init 18 = .ok (.putfield 16, 3) := by decide +kernel
theorem dX2_init_21 : decode cX2_init 21 = .ok (.aload_n 0, 1) := by decide +kernel
theorem dX2_init_22 : decode cX2_init 22 = .ok (.sipush 12345, 3) := by decide +kernel
theorem dX2_init_25 : decode cX2_init 25 = .ok (.putfield 20, 3) := by decide +kernel
theorem dX2_init_28 : decode cX2_init 28 = .ok (.aload_n 0, 1) := by decide +kernel
theorem dX2_init_29 : decode cX2_init 29 = .ok (.iconst 5, 1) := by decide +kernel
theorem dX2_init_30 : decode cX2_init 30 = .ok (.newarray .int, 2) := by decide +kernel
theorem dX2_init_32 : decode cX2_init 32 = .ok (.dup, 1) := by decide +kernel
theorem dX2_init_33 : decode cX2_init 33 = .ok (.iconst 0, 1) := by decide +kernel
theorem dX2_init_34 : decode cX2_init 34 = .ok (.bipush 10, 2) := by decide +kernel
theorem dX2_init_36 : decode cX2_init 36 = .ok (.iastore, 1) := by decide +kernel
theorem dX2_init_37 : decode cX2_init 37 = .ok (.dup, 1) := by decide +kernel
theorem dX2_init_38 : decode cX2_init 38 = .ok (.iconst 1, 1) := by decide +kernel
theorem dX2_init_39 : decode cX2_init 39 = .ok (.bipush 20, 2) := by decide +kernel
theorem dX2_init_41 : decode cX2_init 41 = .ok (.iastore, 1) := by decide +kernel
theorem dX2_init_42 : decode cX2_init 42 = .ok (.dup, 1) := by decide +kernel
theorem dX2_init_43 : decode cX2_init 43 = .ok (.iconst 2, 1) := by decide +kernel
theorem dX2_init_44 : decode cX2_init 44 = .ok (.iconst 0, 1) := by decide +kernel
theorem dX2_init_45 : decode cX2_init 45 = .ok (.iastore, 1) := by decide +kernel
theorem dX2_init_46 : decode cX2_init 46 = .ok (.dup, 1) := by decide +kernel
theorem dX2_init_47 : decode cX2_init 47 = .ok (.iconst 3, 1) := by decide +kernel
theorem dX2_init_48 : decode cX2_init 48 = .ok (.iconst 0, 1) := by decide +kernel
theorem dX2_init_49 : decode cX2_init 49 = .ok (.iastore, 1) := by decide +kernel
theorem dX2_init_50 : decode cX2_init 50 = .ok (.dup, 1) := by decide +kernel
theorem dX2_init_51 : decode cX2_init 51 = .ok (.iconst 4, 1) := by decide +kernel
theorem dX2_init_52 : decode cX2_init 52 = .ok (.iconst 0, 1) := by decide +kernel
theorem dX2_init_53 : decode cX2_init 53 = .ok (.iastore, 1) := by decide +kernel
theorem dX2_init_54 : decode cX2_init 54 = .ok (.putfield 23, 3) := by decide +kernel
theorem dX2_init_57 : decode cX2_init 57 = .ok (.aload_n 0, 1) := by decide +kernel
theorem dX2_init_58 : decode cX2_init 58 = .ok (.new 27, 3) := by decide +kernel
theorem dX2_init_61 : decode cX2_init 61 = .ok (.dup, 1) := by decide +kernel
theorem dX2_init_62 : decode cX2_init 62 = .ok (.invokespecial 29, 3) := by decide +kernel
theorem dX2_init_65 : decode cX2_init 65 = .ok (.putfield 30, 3) := by decide +kernel
theorem dX2_init_68 : decode cX2_init 68 = .ok (.aload_n 0, 1) := by decide +kernel
theorem dX2_init_69 : decode cX2_init 69 = .ok (.iconst 4, 1) := by decide +kernel
theorem dX2_init_70 : decode cX2_init 70 = .ok (.newarray .int, 2) := by decide +kernel
theorem dX2_init_72 : decode cX2_init 72 = .ok (.dup, 1) := by decide +kernel
theorem dX2_init_73 : decode cX2_init 73 = .ok (.iconst 0, 1) := by decide +kernel
theorem dX2_init_74 : decode cX2_init 74 = .ok (.bipush 10, 2) := by decide +kernel
theorem dX2_init_76 : decode cX2_init 76 = .ok (.iastore, 1) := by decide +kernel
theorem dX2_init_77 : decode cX2_init 77 = .ok (.dup, 1) := by decide +kernel
theorem dX2_init_78 : decode cX2_init 78 = .ok (.iconst 1, 1) := by decide +kernel
theorem dX2_init_79 : decode cX2_init 79 = .ok (.bipush 10, 2) := by decide +kernel
theorem dX2_init_81 : decode cX2_init 81 = .ok (.iastore, 1) := by decide +kernel
theorem dX2_init_82 : decode cX2_init 82 = .ok (.dup, 1) := by decide +kernel
theorem dX2_init_83 : decode cX2_init 83 = .ok (.iconst 2, 1) := by decide +kernel
theorem dX2_init_84 : decode cX2_init 84 = .ok (.bipush 10, 2) := by decide +kernel
theorem dX2_init_86 : decode cX2_init 86 = .ok (.iastore, 1) := by decide +kernel
theorem dX2_init_87 : decode cX2_init 87 = .ok (.dup, 1) := by decide +kernel
theorem dX2_init_88 : decode cX2_init 88 = .ok (.iconst 3, 1) := by decide +kernel
theorem dX2_init_89 : decode cX2_init 89 = .ok (.bipush 10, 2) := by decide +kernel
theorem dX2_init_91 : decode cX2_init 91 = .ok (.iastore, 1) := by decide +kernel
theorem dX2_init_92 : decode cX2_init 92 = .ok (.putfield 34, 3) := by decide +kernel
theorem dX2_init_95 : decode cX2_init 95 = .ok (.aload_n 0, 1) := by decide +kernel
theorem dX2_init_96 : decode cX2_init 96 = .ok (.iconst 4, 1) := by decide +kernel
theorem dX2_init_97 : decode cX2_init 97 = .ok (.newarray .int, 2) := by decide +kernel
theorem dX2_init_99 : decode cX2_init 99 = .ok (.dup, 1) := by decide +kernel
theorem dX2_init_100 : decode cX2_init 100 = .ok (.iconst 0, 1) := by decide +kernel
theorem dX2_init_101 : decode cX2_init 101 = .ok (.bipush 10, 2) := by decide +kernel
theorem dX2_init_103 : decode cX2_init 103 = .ok (.iastore, 1) := by decide +kernel
theorem dX2_init_104 : decode cX2_init 104 = .ok (.dup, 1) := by decide +kernel
theorem dX2_init_105 : decode cX2_init 105 = .ok (.iconst 1, 1) := by decide +kernel
theorem dX2_init_106 : decode cX2_init 106 = .ok (.bipush 10, 2) := by decide +kernel
theorem dX2_init_108 : decode cX2_init 108 = .ok (.iastore, 1) := by decide +kernel
theorem dX2_init_109 : decode cX2_init 109 = .ok (.dup, 1) := by decide +kernel
theorem dX2_init_110 : decode cX2_init 110 = .ok (.iconst 2, 1) := by decide +kernel
theorem dX2_init_111 : decode cX2_init 111 = .ok (.bipush 10, 2) := by decide +kernel
theorem dX2_init_113 : decode cX2_init 113 = .ok (.iastore, 1) := by decide +kernel
theorem dX2_init_114 : decode cX2_init 114 = .ok (.dup, 1) := by decide +kernel
theorem dX2_init_115 : decode cX2_init 115 = .ok (.iconst 3, 1) := by decide +kernel
theorem dX2_init_116 : decode cX2_init 116 = .ok (.bipush 10, 2) := by decide +kernel
theorem dX2_init_118 : decode cX2_init 118 = .ok (.iastore, 1) := by decide +kernel
theorem dX2_init_119 : decode cX2_init 119 = .ok (.putfield 37, 3) := by decide +kernel
theorem dX2_init_122 : decode cX2_init 122 = .ok (.aload_n 0, 1) := by decide +kernel
theorem dX2_init_123 : decode cX2_init 123 = .ok (.sipush 200, 3) := by decide +kernel
theorem dX2_init_126 : decode cX2_init 126 = .ok (.putfield 40, 3) := by decide +kernel
theorem dX2_init_129 : decode cX2_init 129 = .ok (.aload_n 0, 1) := by decide +kernel
theorem dX2_init_130 : decode cX2_init 130 = .ok (.bipush 20, 2) := by decide +kernel
theorem dX2_init_132 : decode cX2_init 132 = .ok (.putfield 43, 3) := by decide +kernel
theorem dX2_init_135 : decode cX2_init 135 = .ok (.aload_n 0, 1) := by decide +kernel
theorem dX2_init_136 : decode cX2_init 136 = .ok (.iconst 3, 1) := by decide +kernel
theorem dX2_init_137 : decode cX2_init 137 = .ok (.newarray .boolean, 2) := by decide +kernel
theorem dX2_init_139 : decode cX2_init 139 = .ok (.putfield 46, 3) := by decide +kernel
theorem dX2_init_142 : decode cX2_init 142 = .ok (.aload_n 0, 1) := by decide +kernel
theorem dX2_init_143 : decode cX2_init 143 = .ok (.bipush 6, 2) := by decide +kernel
theorem dX2_init_145 : decode cX2_init 145 = .ok (.newarray .int, 2) := by decide +kernel
theorem dX2_init_147 : decode cX2_init 147 = .ok (.putfield 50, 3) := by decide +kernel
theorem dX2_init_150 : decode cX2_init 150 = .ok (.return_, 1) := by decide +kernel
theorem dX2_miner_0 : decode cX2_miner 0 = .ok (.aload_n 0, 1) := by decide +kernel
theorem dX2_miner_1 : decode cX2_miner 1 = .ok (.getfield 10, 3) := by decide +kernel
theorem dX2_miner_4 : decode cX2_miner 4 = .ok (.invokevirtual 53, 3) := by decide +kernel
theorem dX2_miner_7 : decode cX2_miner 7 = .ok (.bipush 10, 2) := by decide +kernel
theorem dX2_miner_9 : decode cX2_miner 9 = .ok (.if_icmp .lt 13, 3) := by decide +kernel
theorem dX2_miner_12 : decode cX2_miner 12 = .ok (.new 57, 3) := by decide +kernel
theorem dX2_miner_15 : decode cX2_miner 15 = .ok (.dup, 1) := by decide +kernel
theorem dX2_miner_16 : decode cX2_miner 16 = .ok (.ldc 59, 2) := by decide +kernel
theorem dX2_miner_18 : decode cX2_miner 18 = .ok (.invokespecial 61, 3) := by decide +kernel
theorem dX2_miner_21 : decode cX2_miner 21 = .ok (.athrow, 1) := by decide +kernel
theorem dX2_miner_22 : decode cX2_miner 22 = .ok (.aload_n 0, 1) := by decide +kernel
theorem dX2_miner_23 : decode cX2_miner 23 = .ok (.getfield 10, 3) := by decide +kernel
theorem dX2_miner_26 : decode cX2_miner 26 = .ok (.new 64, 3) := by decide +kernel
theorem dX2_miner_29 : decode cX2_miner 29 = .ok (.dup, 1) := by decide +kernel
theorem dX2_miner_30 : decode cX2_miner 30 = .ok (.invokespecial 66, 3) := by decide +kernel
theorem dX2_miner_33 : decode cX2_miner 33 = .ok (.invokevirtual 67, 3) := by decide +kernel
theorem dX2_miner_36 : decode cX2_miner 36 = .ok (.pop, 1) := by decide +kernel
theorem dX2_miner_37 : decode cX2_miner 37 = .ok (.aload_n 0, 1) := by decide +kernel
theorem dX2_miner_38 : decode cX2_miner 38 = .ok (.getfield 10, 3) := by decide +kernel
theorem dX2_miner_41 : decode cX2_miner 41 = .ok (.invokevirtual 53, 3) := by decide +kernel
theorem dX2_miner_44 : decode cX2_miner 44 = .ok (.iconst 1, 1) := by decide +kernel
theorem dX2_miner_45 : decode cX2_miner 45 = .ok (.isub, 1) := by decide +kernel
theorem dX2_miner_46 : decode cX2_miner 46 = .ok (.ireturn, 1) := by decide +kernel
theorem dX2_kin_0 : decode cX2_kin 0 = .ok (.aload_n 0, 1) := by decide +kernel
theorem dX2_kin_1 : decode cX2_kin 1 = .ok (.iload_n 1, 1) := by decide +kernel
theorem dX2_kin_2 : decode cX2_kin 2 = .ok (.invokevirtual 71, 3) := by decide +kernel
theorem dX2_kin_5 : decode cX2_kin 5 = .ok (.astore_n 3, 1) := by decide +kernel
theorem dX2_kin_6 : decode cX2_kin 6 = .ok (.iload_n 2, 1) := by decide +kernel
theorem dX2_kin_7 : decode cX2_kin 7 = .ok (.iconst (-1), 1) := by decide +kernel
theorem dX2_kin_8 : decode cX2_kin 8 = .ok (.if_icmp .eq 9, 3) := by decide +kernel
theorem dX2_kin_11 : decode cX2_kin 11 = .ok (.aload_n 0, 1) := by decide +kernel
theorem dX2_kin_12 : decode cX2_kin 12 = .ok (.iload_n 2, 1) := by decide +kernel
theorem dX2_kin_13 : decode cX2_kin 13 = .ok (.invokevirtual 71, 3) := by decide +kernel
theorem dX2_kin_16 : decode cX2_kin 16 = .ok (.pop, 1) := by decide +kernel
theorem dX2_kin_17 : decode cX2_kin 17 = .ok (.iload_n 1, 1) := by decide +kernel
theorem dX2_kin_18 : decode cX2_kin 18 = .ok (.iload_n 2, 1) := by decide +kernel
theorem dX2_kin_19 : decode cX2_kin 19 = .ok (.if_icmp .ne 13, 3) := by decide +kernel
theorem dX2_kin_22 : decode cX2_kin 22 = .ok (.new 75, 3) := by decide +kernel
theorem dX2_kin_25 : decode cX2_kin 25 = .ok (.dup, 1) := by decide +kernel
theorem dX2_kin_26 : decode cX2_kin 26 = .ok (.ldc 77, 2) := by decide +kernel
theorem dX2_kin_28 : decode cX2_kin 28 = .ok (.invokespecial 79, 3) := by decide +kernel
theorem dX2_kin_31 : decode cX2_kin 31 = .ok (.athrow, 1) := by decide +kernel
theorem dX2_kin_32 : decode cX2_kin 32 = .ok (.aload_n 3, 1) := by decide +kernel
theorem dX2_kin_33 : decode cX2_kin 33 = .ok (.getfield 80, 3) := by decide +kernel
theorem dX2_kin_36 : decode cX2_kin 36 = .ok (.istore 4, 2) := by decide +kernel
theorem dX2_kin_38 : decode cX2_kin 38 = .ok (.aload_n 3, 1) := by decide +kernel
theorem dX2_kin_39 : decode cX2_kin 39 = .ok (.iload_n 2, 1) := by decide +kernel
theorem dX2_kin_40 : decode cX2_kin 40 = .ok (.putfield 80, 3) := by decide +kernel
theorem dX2_kin_43 : decode cX2_kin 43 = .ok (.iload 4, 2) := by decide +kernel
theorem dX2_kin_45 : decode cX2_kin 45 = .ok (.ireturn, 1) := by decide +kernel
theorem dX2_dock_0 : decode cX2_dock 0 = .ok (.iload_n 1, 1) := by decide +kernel
theorem dX2_dock_1 : decode cX2_dock 1 = .ok (.iconst 0, 1) := by decide +kernel
theorem dX2_dock_2 : decode cX2_dock 2 = .ok (.bipush 50, 2) := by decide +kernel
theorem dX2_dock_4 : decode cX2_dock 4 = .ok (.invokestatic 83, 3) := by decide +kernel
theorem dX2_dock_7 : decode cX2_dock 7 = .ok (.aload_n 0, 1) := by decide +kernel
theorem dX2_dock_8 : decode cX2_dock 8 = .ok (.getfield 16, 3) := by decide +kernel
theorem dX2_dock_11 : decode cX2_dock 11 = .ok (.istore_n 2, 1) := by decide +kernel
theorem dX2_dock_12 : decode cX2_dock 12 = .ok (.aload_n 0, 1) := by decide +kernel
theorem dX2_dock_13 : decode cX2_dock 13 = .ok (.iload_n 1, 1) := by decide +kernel
theorem dX2_dock_14 : decode cX2_dock 14 = .ok (.putfield 16, 3) := by decide +kernel
theorem dX2_dock_17 : decode cX2_dock 17 = .ok (.iload_n 2, 1) := by decide +kernel
theorem dX2_dock_18 : decode cX2_dock 18 = .ok (.ireturn, 1) := by decide +kernel
theorem dX2_check_0 : decode cX2_check 0 = .ok (.aload_n 0, 1) := by decide +kernel
theorem dX2_check_1 : decode cX2_check 1 = .ok (.getfield 87, 3) := by decide +kernel
theorem dX2_check_4 : decode cX2_check 4 = .ok (.istore_n 2, 1) := by decide +kernel
theorem dX2_check_5 : decode cX2_check 5 = .ok (.aload_n 0, 1) := by decide +kernel
theorem dX2_check_6 : decode cX2_check 6 = .ok (.iload_n 1, 1) := by decide +kernel
theorem dX2_check_7 : decode cX2_check 7 = .ok (.putfield 87, 3) := by decide +kernel
theorem dX2_check_10 : decode cX2_check 10 = .ok (.iload_n 2, 1) := by decide +kernel
theorem dX2_check_11 : decode cX2_check 11 = .ok (.ireturn, 1) := by decide +kernel
theorem dX2_hew_0 : decode cX2_hew 0 = .ok (.aload_n 0, 1) := by decide +kernel
theorem dX2_hew_1 : decode cX2_hew 1 = .ok (.iload_n 1, 1) := by decide +kernel
theorem dX2_hew_2 : decode cX2_hew 2 = .ok (.invokevirtual 71, 3) := by decide +kernel
theorem dX2_hew_5 : decode cX2_hew 5 = .ok (.astore_n 3, 1) := by decide +kernel
theorem dX2_hew_6 : decode cX2_hew 6 = .ok (.iload_n 2, 1) := by decide +kernel
theorem dX2_hew_7 : decode cX2_hew 7 = .ok (.iconst 1, 1) := by decide +kernel
theorem dX2_hew_8 : decode cX2_hew 8 = .ok (.sipush 1000, 3) := by decide +kernel
theorem dX2_hew_11 : decode cX2_hew 11 = .ok (.invokestatic 83, 3) := by decide +kernel
theorem dX2_hew_14 : decode cX2_hew 14 = .ok (.aload_n 3, 1) := by decide +kernel
theorem dX2_hew_15 : decode cX2_hew 15 = .ok (.invokestatic 91, 3) := by decide +kernel
theorem dX2_hew_18 : decode cX2_hew 18 = .ok (.aload_n 0, 1) := by decide +kernel
theorem dX2_hew_19 : decode cX2_hew 19 = .ok (.getfield 95, 3) := by decide +kernel
theorem dX2_hew_22 : decode cX2_hew 22 = .ok (.ifCond .ne 10, 3) := by decide +kernel
theorem dX2_hew_25 : decode cX2_hew 25 = .ok (.aload_n 0, 1) := by decide +kernel
theorem dX2_hew_26 : decode cX2_hew 26 = .ok (.getfield 98, 3) := by decide +kernel
theorem dX2_hew_29 : decode cX2_hew 29 = .ok (.ifCond .eq 13, 3) := by decide +kernel
theorem dX2_hew_32 : decode cX2_hew 32 = .ok (.new 57, 3) := by decide +kernel
theorem dX2_hew_35 : decode cX2_hew 35 = .ok (.dup, 1) := by decide +kernel
theorem dX2_hew_36 : decode cX2_hew 36 = .ok (.ldc 101, 2) := by decide +kernel
theorem dX2_hew_38 : decode cX2_hew 38 = .ok (.invokespecial 61, 3) := by decide +kernel
theorem dX2_hew_41 : decode cX2_hew 41 = .ok (.athrow, 1) := by decide +kernel
theorem dX2_hew_42 : decode cX2_hew 42 = .ok (.aload_n 3, 1) := by decide +kernel
theorem dX2_hew_43 : decode cX2_hew 43 = .ok (.dup, 1) := by decide +kernel
theorem dX2_hew_44 : decode cX2_hew 44 = .ok (.getfield 103, 3) := by decide +kernel
theorem dX2_hew_47 : decode cX2_hew 47 = .ok (.aload_n 0, 1) := by decide +kernel
theorem dX2_hew_48 : decode cX2_hew 48 = .ok (.getfield 87, 3) := by decide +kernel
theorem dX2_hew_51 : decode cX2_hew 51 = .ok (.ifCond .eq 7, 3) := by decide +kernel
theorem dX2_hew_54 : decode cX2_hew 54 = .ok (.iload_n 2, 1) := by decide +kernel
theorem dX2_hew_55 : decode cX2_hew 55 = .ok (.goto 15, 3) := by decide +kernel
theorem dX2_hew_58 : decode cX2_hew 58 = .ok (.iload_n 2, 1) := by decide +kernel
theorem dX2_hew_59 : decode cX2_hew 59 = .ok (.bipush 100, 2) := by decide +kernel
theorem dX2_hew_61 : decode cX2_hew 61 = .ok (.aload_n 0, 1) := by decide +kernel
theorem dX2_hew_62 : decode cX2_hew 62 = .ok (.getfield 16, 3) := by decide +kernel
theorem dX2_hew_65 : decode cX2_hew 65 = .ok (.isub, 1) := by decide +kernel
theorem dX2_hew_66 : decode cX2_hew 66 = .ok (.imul, 1) := by decide +kernel
theorem dX2_hew_67 : decode cX2_hew 67 = .ok (.bipush 100, 2) := by decide +kernel
theorem dX2_hew_69 : decode cX2_hew 69 = .ok (.idiv, 1) := by decide +kernel
theorem dX2_hew_70 : decode cX2_hew 70 = .ok (.iadd, 1) := by decide +kernel
theorem dX2_hew_71 : decode cX2_hew 71 = .ok (.putfield 103, 3) := by decide +kernel
theorem dX2_hew_74 : decode cX2_hew 74 = .ok (.aload_n 3, 1) := by decide +kernel
theorem dX2_hew_75 : decode cX2_hew 75 = .ok (.getfield 103, 3) := by decide +kernel
theorem dX2_hew_78 : decode cX2_hew 78 = .ok (.ireturn, 1) := by decide +kernel
theorem dX2_edition_0 : decode cX2_edition 0 = .ok (.iload_n 1, 1) := by decide +kernel
theorem dX2_edition_1 : decode cX2_edition 1 = .ok (.invokestatic 106, 3) := by decide +kernel
theorem dX2_edition_4 : decode cX2_edition 4 = .ok (.ifCond .ne 13, 3) := by decide +kernel
theorem dX2_edition_7 : decode cX2_edition 7 = .ok (.new 75, 3) := by decide +kernel
theorem dX2_edition_10 : decode cX2_edition 10 = .ok (.dup, 1) := by decide +kernel
theorem dX2_edition_11 : decode cX2_edition 11 = .ok (.ldc 110, 2) := by decide +kernel
theorem dX2_edition_13 : decode cX2_edition 13 = .ok (.invokespecial 79, 3) := by decide +kernel
theorem dX2_edition_16 : decode cX2_edition 16 = .ok (.athrow, 1) := by decide +kernel
theorem dX2_edition_17 : decode cX2_edition 17 = .ok (.aload_n 0, 1) := by decide +kernel
theorem dX2_edition_18 : decode cX2_edition 18 = .ok (.getfield 20, 3) := by decide +kernel
theorem dX2_edition_21 : decode cX2_edition 21 = .ok (.istore_n 2, 1) := by decide +kernel
theorem dX2_edition_22 : decode cX2_edition 22 = .ok (.aload_n 0, 1) := by decide +kernel
theorem dX2_edition_23 : decode cX2_edition 23 = .ok (.iload_n 1, 1) := by decide +kernel
theorem dX2_edition_24 : decode cX2_edition 24 = .ok (.putfield 20, 3) := by decide +kernel
theorem dX2_edition_27 : decode cX2_edition 27 = .ok (.iload_n 2, 1) := by decide +kernel
theorem dX2_edition_28 : decode cX2_edition 28 = .ok (.ireturn, 1) := by decide +kernel
theorem dX2_tell_0 : decode cX2_tell 0 = .ok (.iload_n 1, 1) := by decide +kernel
theorem dX2_tell_1 : decode cX2_tell 1 = .ok (.iconst 0, 1) := by decide +kernel
theorem dX2_tell_2 : decode cX2_tell 2 = .ok (.iconst 4, 1) := by decide +kernel
theorem dX2_tell_3 : decode cX2_tell 3 = .ok (.invokestatic 83, 3) := by decide +kernel
theorem dX2_tell_6 : decode cX2_tell 6 = .ok (.iload_n 1, 1) := by decide +kernel
theorem dX2_tell_7 : decode cX2_tell 7 = .ok (.ifCond .ne 13, 3) := by decide +kernel
theorem dX2_tell_10 : decode cX2_tell 10 = .ok (.iload_n 2, 1) := by decide +kernel
theorem dX2_tell_11 : decode cX2_tell 11 = .ok (.iconst 1, 1) := by decide +kernel
theorem dX2_tell_12 : decode cX2_tell 12 = .ok (.bipush 50, 2) := by decide +kernel
theorem dX2_tell_14 : decode cX2_tell 14 = .ok (.invokestatic 83, 3) := by decide +kernel
theorem dX2_tell_17 : decode cX2_tell 17 = .ok (.goto 10, 3) := by decide +kernel
theorem dX2_tell_20 : decode cX2_tell 20 = .ok (.iload_n 2, 1) := by decide +kernel
theorem dX2_tell_21 : decode cX2_tell 21 = .ok (.iconst 0, 1) := by decide +kernel
theorem dX2_tell_22 : decode cX2_tell 22 = .ok (.bipush 100, 2) := by decide +kernel
theorem dX2_tell_24 : decode cX2_tell 24 = .ok (.invokestatic 83, 3) := by decide +kernel
theorem dX2_tell_27 : decode cX2_tell 27 = .ok (.aload_n 0, 1) := by decide +kernel
theorem dX2_tell_28 : decode cX2_tell 28 = .ok (.getfield 23, 3) := by decide +kernel
theorem dX2_tell_31 : decode cX2_tell 31 = .ok (.iload_n 1, 1) := by decide +kernel
theorem dX2_tell_32 : decode cX2_tell 32 = .ok (.iaload, 1) := by decide +kernel
theorem dX2_tell_33 : decode cX2_tell 33 = .ok (.istore_n 3, 1) := by decide +kernel
theorem dX2_tell_34 : decode cX2_tell 34 = .ok (.aload_n 0, 1) := by decide +kernel
theorem dX2_tell_35 : decode cX2_tell 35 = .ok (.getfield 23, 3) := by decide +kernel
theorem dX2_tell_38 : decode cX2_tell 38 = .ok (.iload_n 1, 1) := by decide +kernel
theorem dX2_tell_39 : decode cX2_tell 39 = .ok (.iload_n 2, 1) := by decide +kernel
theorem dX2_tell_40 : decode cX2_tell 40 = .ok (.iastore, 1) := by decide +kernel
theorem dX2_tell_41 : decode cX2_tell 41 = .ok (.iload_n 3, 1) := by decide +kernel
theorem dX2_tell_42 : decode cX2_tell 42 = .ok (.ireturn, 1) := by decide +kernel
theorem dX2_payday_0 : decode cX2_payday 0 = .ok (.aload_n 0, 1) := by decide +kernel
theorem dX2_payday_1 : decode cX2_payday 1 = .ok (.getfield 112, 3) := by decide +kernel
theorem dX2_payday_4 : decode cX2_payday 4 = .ok (.bipush 40, 2) := by decide +kernel
theorem dX2_payday_6 : decode cX2_payday 6 = .ok (.if_icmp .ge 10, 3) := by decide +kernel
theorem dX2_payday_9 : decode cX2_payday 9 = .ok (.aload_n 0, 1) := by decide +kernel
theorem dX2_payday_10 : decode cX2_payday 10 = .ok (.getfield 98, 3) := by decide +kernel
theorem dX2_payday_13 : decode cX2_payday 13 = .ok (.ifCond .eq 13, 3) := by decide +kernel
theorem dX2_payday_16 : decode cX2_payday 16 = .ok (.new 57, 3) := by decide +kernel
theorem dX2_payday_19 : decode cX2_payday 19 = .ok (.dup, 1) := by decide +kernel
theorem dX2_payday_20 : decode cX2_payday 20 = .ok (.ldc 115, 2) := by decide +kernel
theorem dX2_payday_22 : decode cX2_payday 22 = .ok (.invokespecial 61, 3) := by decide +kernel
theorem dX2_payday_25 : decode cX2_payday 25 = .ok (.athrow, 1) := by decide +kernel
theorem dX2_payday_26 : decode cX2_payday 26 = .ok (.iconst 0, 1) := by decide +kernel
theorem dX2_payday_27 : decode cX2_payday 27 = .ok (.istore_n 1, 1) := by decide +kernel
theorem dX2_payday_28 : decode cX2_payday 28 = .ok (.iconst 0, 1) := by decide +kernel
theorem dX2_payday_29 : decode cX2_payday 29 = .ok (.istore_n 2, 1) := by decide +kernel
theorem dX2_payday_30 : decode cX2_payday 30 = .ok (.iload_n 2, 1) := by decide +kernel
theorem dX2_payday_31 : decode cX2_payday 31 = .ok (.aload_n 0, 1) := by decide +kernel
theorem dX2_payday_32 : decode cX2_payday 32 = .ok (.getfield 10, 3) := by decide +kernel
theorem dX2_payday_35 : decode cX2_payday 35 = .ok (.invokevirtual 53, 3) := by decide +kernel
theorem dX2_payday_38 : decode cX2_payday 38 = .ok (.if_icmp .ge 40, 3) := by decide +kernel
theorem dX2_payday_41 : decode cX2_payday 41 = .ok (.aload_n 0, 1) := by decide +kernel
theorem dX2_payday_42 : decode cX2_payday 42 = .ok (.getfield 10, 3) := by decide +kernel
theorem dX2_payday_45 : decode cX2_payday 45 = .ok (.iload_n 2, 1) := by decide +kernel
theorem dX2_payday_46 : decode cX2_payday 46 = .ok (.invokevirtual 117, 3) := by decide +kernel
theorem dX2_payday_49 : decode cX2_payday 49 = .ok (.checkcast 64, 3) := by decide +kernel
theorem dX2_payday_52 : decode cX2_payday 52 = .ok (.astore_n 3, 1) := by decide +kernel
theorem dX2_payday_53 : decode cX2_payday 53 = .ok (.aload_n 3, 1) := by decide +kernel
theorem dX2_payday_54 : decode cX2_payday 54 = .ok (.getfield 121, 3) := by decide +kernel
theorem dX2_payday_57 : decode cX2_payday 57 = .ok (.ifCond .eq 15, 3) := by decide +kernel
theorem dX2_payday_60 : decode cX2_payday 60 = .ok (.aload_n 0, 1) := by decide +kernel
theorem dX2_payday_61 : decode cX2_payday 61 = .ok (.aload_n 3, 1) := by decide +kernel
theorem dX2_payday_62 : decode cX2_payday 62 = .ok (.invokevirtual 124, 3) := by decide +kernel
theorem dX2_payday_65 : decode cX2_payday 65 = .ok (.iload_n 1, 1) := by decide +kernel
theorem dX2_payday_66 : decode cX2_payday 66 = .ok (.aload_n 3, 1) := by decide +kernel
theorem dX2_payday_67 : decode cX2_payday 67 = .ok (.getfield 127, 3) := by decide +kernel
theorem dX2_payday_70 : decode cX2_payday 70 = .ok (.iadd, 1) := by decide +kernel
theorem dX2_payday_71 : decode cX2_payday 71 = .ok (.istore_n 1, 1) := by decide +kernel
theorem dX2_payday_72 : decode cX2_payday 72 = .ok (.iinc 2 1, 3) := by decide +kernel
theorem dX2_payday_75 : decode cX2_payday 75 = .ok (.goto (-45), 3) := by decide +kernel
theorem dX2_payday_78 : decode cX2_payday 78 = .ok (.iconst 0, 1) := by decide +kernel
theorem dX2_payday_79 : decode cX2_payday 79 = .ok (.istore_n 2, 1) := by decide +kernel
theorem dX2_payday_80 : decode cX2_payday 80 = .ok (.iload_n 2, 1) := by decide +kernel
theorem dX2_payday_81 : decode cX2_payday 81 = .ok (.aload_n 0, 1) := by decide +kernel
theorem dX2_payday_82 : decode cX2_payday 82 = .ok (.getfield 112, 3) := by decide +kernel
theorem dX2_payday_85 : decode cX2_payday 85 = .ok (.iconst 4, 1) := by decide +kernel
theorem dX2_payday_86 : decode cX2_payday 86 = .ok (.isub, 1) := by decide +kernel
theorem dX2_payday_87 : decode cX2_payday 87 = .ok (.if_icmp .gt 14, 3) := by decide +kernel
theorem dX2_payday_90 : decode cX2_payday 90 = .ok (.aload_n 0, 1) := by decide +kernel
theorem dX2_payday_91 : decode cX2_payday 91 = .ok (.iload_n 2, 1) := by decide +kernel
theorem dX2_payday_92 : decode cX2_payday 92 = .ok (.invokevirtual 130, 3) := by decide +kernel
theorem dX2_payday_95 : decode cX2_payday 95 = .ok (.iinc 2 1, 3) := by decide +kernel
theorem dX2_payday_98 : decode cX2_payday 98 = .ok (.goto (-18), 3) := by decide +kernel
theorem dX2_payday_101 : decode cX2_payday 101 = .ok (.aload_n 0, 1) := by decide +kernel
theorem dX2_payday_102 : decode cX2_payday 102 = .ok (.dup, 1) := by decide +kernel
theorem dX2_payday_103 : decode cX2_payday 103 = .ok (.getfield 112, 3) := by decide +kernel
theorem dX2_payday_106 : decode cX2_payday 106 = .ok (.iconst 1, 1) := by decide +kernel
theorem dX2_payday_107 : decode cX2_payday 107 = .ok (.iadd, 1) := by decide +kernel
theorem dX2_payday_108 : decode cX2_payday 108 = .ok (.putfield 112, 3) := by decide +kernel
theorem dX2_payday_111 : decode cX2_payday 111 = .ok (.iload_n 1, 1) := by decide +kernel
theorem dX2_payday_112 : decode cX2_payday 112 = .ok (.ireturn, 1) := by decide +kernel
theorem dX2_house_0 : decode cX2_house 0 = .ok (.aload_n 0, 1) := by decide +kernel
theorem dX2_house_1 : decode cX2_house 1 = .ok (.iload_n 1, 1) := by decide +kernel
theorem dX2_house_2 : decode cX2_house 2 = .ok (.invokevirtual 71, 3) := by decide +kernel
theorem dX2_house_5 : decode cX2_house 5 = .ok (.astore_n 2, 1) := by decide +kernel
theorem dX2_house_6 : decode cX2_house 6 = .ok (.aload_n 2, 1) := by decide +kernel
theorem dX2_house_7 : decode cX2_house 7 = .ok (.invokestatic 91, 3) := by decide +kernel
theorem dX2_house_10 : decode cX2_house 10 = .ok (.aload_n 2, 1) := by decide +kernel
theorem dX2_house_11 : decode cX2_house 11 = .ok (.getfield 134, 3) := by decide +kernel
theorem dX2_house_14 : decode cX2_house 14 = .ok (.ifCond .ne 10, 3) := by decide +kernel
theorem dX2_house_17 : decode cX2_house 17 = .ok (.aload_n 2, 1) := by decide +kernel
theorem dX2_house_18 : decode cX2_house 18 = .ok (.getfield 137, 3) := by decide +kernel
theorem dX2_house_21 : decode cX2_house 21 = .ok (.ifCond .le 13, 3) := by decide +kernel
theorem dX2_house_24 : decode cX2_house 24 = .ok (.new 57, 3) := by decide +kernel
theorem dX2_house_27 : decode cX2_house 27 = .ok (.dup, 1) := by decide +kernel
theorem dX2_house_28 : decode cX2_house 28 = .ok (.ldc 140, 2) := by decide +kernel
theorem dX2_house_30 : decode cX2_house 30 = .ok (.invokespecial 61, 3) := by decide +kernel
theorem dX2_house_33 : decode cX2_house 33 = .ok (.athrow, 1) := by decide +kernel
theorem dX2_house_34 : decode cX2_house 34 = .ok (.aload_n 2, 1) := by decide +kernel
theorem dX2_house_35 : decode cX2_house 35 = .ok (.iconst 1, 1) := by decide +kernel
theorem dX2_house_36 : decode cX2_house 36 = .ok (.putfield 134, 3) := by decide +kernel
theorem dX2_house_39 : decode cX2_house 39 = .ok (.return_, 1) := by decide +kernel
theorem dX2_price_0 : decode cX2_price 0 = .ok (.iload_n 1, 1) := by decide +kernel
theorem dX2_price_1 : decode cX2_price 1 = .ok (.invokestatic 142, 3) := by decide +kernel
theorem dX2_price_4 : decode cX2_price 4 = .ok (.iload_n 2, 1) := by decide +kernel
theorem dX2_price_5 : decode cX2_price 5 = .ok (.iconst 1, 1) := by decide +kernel
theorem dX2_price_6 : decode cX2_price 6 = .ok (.bipush 100, 2) := by decide +kernel
theorem dX2_price_8 : decode cX2_price 8 = .ok (.invokestatic 83, 3) := by decide +kernel
theorem dX2_price_11 : decode cX2_price 11 = .ok (.iload_n 3, 1) := by decide +kernel
theorem dX2_price_12 : decode cX2_price 12 = .ok (.ifCond .eq 10, 3) := by decide +kernel
theorem dX2_price_15 : decode cX2_price 15 = .ok (.aload_n 0, 1) := by decide +kernel
theorem dX2_price_16 : decode cX2_price 16 = .ok (.getfield 37, 3) := by decide +kernel
theorem dX2_price_19 : decode cX2_price 19 = .ok (.goto 7, 3) := by decide +kernel
theorem dX2_price_22 : decode cX2_price 22 = .ok (.aload_n 0, 1) := by decide +kernel
theorem dX2_price_23 : decode cX2_price 23 = .ok (.getfield 34, 3) := by decide +kernel
theorem dX2_price_26 : decode cX2_price 26 = .ok (.astore 4, 2) := by decide +kernel
theorem dX2_price_28 : decode cX2_price 28 = .ok (.aload 4, 2) := by decide +kernel
theorem dX2_price_30 : decode cX2_price 30 = .ok (.iload_n 1, 1) := by decide +kernel
theorem dX2_price_31 : decode cX2_price 31 = .ok (.iaload, 1) := by decide +kernel
theorem dX2_price_32 : decode cX2_price 32 = .ok (.istore 5, 2) := by decide +kernel
theorem dX2_price_34 : decode cX2_price 34 = .ok (.aload 4, 2) := by decide +kernel
theorem dX2_price_36 : decode cX2_price 36 = .ok (.iload_n 1, 1) := by decide +kernel
theorem dX2_price_37 : decode cX2_price 37 = .ok (.iload_n 2, 1) := by decide +kernel
theorem dX2_price_38 : decode cX2_price 38 = .ok (.iastore, 1) := by decide +kernel
theorem dX2_price_39 : decode cX2_price 39 = .ok (.iload 5, 2) := by decide +kernel
theorem dX2_price_41 : decode cX2_price 41 = .ok (.ireturn, 1) := by decide +kernel
theorem dX2_raised_0 : decode cX2_raised 0 = .ok (.aload_n 0, 1) := by decide +kernel
theorem dX2_raised_1 : decode cX2_raised 1 = .ok (.iload_n 1, 1) := by decide +kernel
theorem dX2_raised_2 : decode cX2_raised 2 = .ok (.invokevirtual 71, 3) := by decide +kernel
theorem dX2_raised_5 : decode cX2_raised 5 = .ok (.astore_n 3, 1) := by decide +kernel
theorem dX2_raised_6 : decode cX2_raised 6 = .ok (.iload_n 2, 1) := by decide +kernel
theorem dX2_raised_7 : decode cX2_raised 7 = .ok (.invokestatic 142, 3) := by decide +kernel
theorem dX2_raised_10 : decode cX2_raised 10 = .ok (.aload_n 0, 1) := by decide +kernel
theorem dX2_raised_11 : decode cX2_raised 11 = .ok (.aload_n 3, 1) := by decide +kernel
theorem dX2_raised_12 : decode cX2_raised 12 = .ok (.iload_n 2, 1) := by decide +kernel
theorem dX2_raised_13 : decode cX2_raised 13 = .ok (.invokevirtual 145, 3) := by decide +kernel
theorem dX2_raised_16 : decode cX2_raised 16 = .ok (.ireturn, 1) := by decide +kernel
theorem dX2_limit_0 : decode cX2_limit 0 = .ok (.iload_n 1, 1) := by decide +kernel
theorem dX2_limit_1 : decode cX2_limit 1 = .ok (.iconst 0, 1) := by decide +kernel
theorem dX2_limit_2 : decode cX2_limit 2 = .ok (.sipush 1000, 3) := by decide +kernel
theorem dX2_limit_5 : decode cX2_limit 5 = .ok (.invokestatic 83, 3) := by decide +kernel
theorem dX2_limit_8 : decode cX2_limit 8 = .ok (.aload_n 0, 1) := by decide +kernel
theorem dX2_limit_9 : decode cX2_limit 9 = .ok (.getfield 40, 3) := by decide +kernel
theorem dX2_limit_12 : decode cX2_limit 12 = .ok (.istore_n 2, 1) := by decide +kernel
theorem dX2_limit_13 : decode cX2_limit 13 = .ok (.aload_n 0, 1) := by decide +kernel
theorem dX2_limit_14 : decode cX2_limit 14 = .ok (.iload_n 1, 1) := by decide +kernel
theorem dX2_limit_15 : decode cX2_limit 15 = .ok (.putfield 40, 3) := by decide +kernel
theorem dX2_limit_18 : decode cX2_limit 18 = .ok (.iload_n 2, 1) := by decide +kernel
theorem dX2_limit_19 : decode cX2_limit 19 = .ok (.ireturn, 1) := by decide +kernel
theorem dX2_whyNot_0 : decode cX2_whyNot 0 = .ok (.aload_n 0, 1) := by decide +kernel
theorem dX2_whyNot_1 : decode cX2_whyNot 1 = .ok (.iload_n 1, 1) := by decide +kernel
theorem dX2_whyNot_2 : decode cX2_whyNot 2 = .ok (.invokevirtual 71, 3) := by decide +kernel
theorem dX2_whyNot_5 : decode cX2_whyNot 5 = .ok (.astore 4, 2) := by decide +kernel
theorem dX2_whyNot_7 : decode cX2_whyNot 7 = .ok (.iload_n 2, 1) := by decide +kernel
theorem dX2_whyNot_8 : decode cX2_whyNot 8 = .ok (.invokestatic 142, 3) := by decide +kernel
theorem dX2_whyNot_11 : decode cX2_whyNot 11 = .ok (.iload_n 3, 1) := by decide +kernel
theorem dX2_whyNot_12 : decode cX2_whyNot 12 = .ok (.iconst 1, 1) := by decide +kernel
theorem dX2_whyNot_13 : decode cX2_whyNot 13 = .ok (.bipush 50, 2) := by decide +kernel
theorem dX2_whyNot_15 : decode cX2_whyNot 15 = .ok (.invokestatic 83, 3) := by decide +kernel
theorem dX2_whyNot_18 : decode cX2_whyNot 18 = .ok (.aload_n 0, 1) := by decide +kernel
theorem dX2_whyNot_19 : decode cX2_whyNot 19 = .ok (.aload 4, 2) := by decide +kernel
theorem dX2_whyNot_21 : decode cX2_whyNot 21 = .ok (.aload_n 0, 1) := by decide +kernel
theorem dX2_whyNot_22 : decode cX2_whyNot 22 = .ok (.aload 4, 2) := by decide +kernel
theorem dX2_whyNot_24 : decode cX2_whyNot 24 = .ok (.iload_n 2, 1) := by decide +kernel
theorem dX2_whyNot_25 : decode cX2_whyNot 25 = .ok (.invokevirtual 145, 3) := by decide +kernel
theorem dX2_whyNot_28 : decode cX2_whyNot 28 = .ok (.iload_n 3, 1) := by decide +kernel
theorem dX2_whyNot_29 : decode cX2_whyNot 29 = .ok (.imul, 1) := by decide +kernel
theorem dX2_whyNot_30 : decode cX2_whyNot 30 = .ok (.invokevirtual 149, 3) := by decide +kernel
theorem dX2_whyNot_33 : decode cX2_whyNot 33 = .ok (.ireturn, 1) := by decide +kernel
theorem dX2_buy_0 : decode cX2_buy 0 = .ok (.aload_n 0, 1) := by decide +kernel
theorem dX2_buy_1 : decode cX2_buy 1 = .ok (.iload_n 1, 1) := by decide +kernel
theorem dX2_buy_2 : decode cX2_buy 2 = .ok (.invokevirtual 71, 3) := by decide +kernel
theorem dX2_buy_5 : decode cX2_buy 5 = .ok (.astore 4, 2) := by decide +kernel
theorem dX2_buy_7 : decode cX2_buy 7 = .ok (.iload_n 2, 1) := by decide +kernel
theorem dX2_buy_8 : decode cX2_buy 8 = .ok (.invokestatic 142, 3) := by decide +kernel
theorem dX2_buy_11 : decode cX2_buy 11 = .ok (.iload_n 3, 1) := by decide +kernel
theorem dX2_buy_12 : decode cX2_buy 12 = .ok (.iconst 1, 1) := by decide +kernel
theorem dX2_buy_13 : decode cX2_buy 13 = .ok (.bipush 50, 2) := by decide +kernel
theorem dX2_buy_15 : decode cX2_buy 15 = .ok (.invokestatic 83, 3) := by decide +kernel
theorem dX2_buy_18 : decode cX2_buy 18 = .ok (.aload_n 0, 1) := by decide +kernel
theorem dX2_buy_19 : decode cX2_buy 19 = .ok (.aload 4, 2) := by decide +kernel
theorem dX2_buy_21 : decode cX2_buy 21 = .ok (.iload_n 2, 1) := by decide +kernel
theorem dX2_buy_22 : decode cX2_buy 22 = .ok (.invokevirtual 145, 3) := by decide +kernel
theorem dX2_buy_25 : decode cX2_buy 25 = .ok (.iload_n 3, 1) := by decide +kernel
theorem dX2_buy_26 : decode cX2_buy 26 = .ok (.imul, 1) := by decide +kernel
theorem dX2_buy_27 : decode cX2_buy 27 = .ok (.istore 5, 2) := by decide +kernel
theorem dX2_buy_29 : decode cX2_buy 29 = .ok (.aload_n 0, 1) := by decide +kernel
theorem dX2_buy_30 : decode cX2_buy 30 = .ok (.aload 4, 2) := by decide +kernel
theorem dX2_buy_32 : decode cX2_buy 32 = .ok (.iload 5, 2) := by decide +kernel
theorem dX2_buy_34 : decode cX2_buy 34 = .ok (.invokevirtual 149, 3) := by decide +kernel
theorem dX2_buy_37 : decode cX2_buy 37 = .ok (.ifCond .eq 13, 3) := by decide +kernel
theorem dX2_buy_40 : decode cX2_buy 40 = .ok (.new 57, 3) := by decide +kernel
theorem dX2_buy_43 : decode cX2_buy 43 = .ok (.dup, 1) := by decide +kernel
theorem dX2_buy_44 : decode cX2_buy 44 = .ok (.ldc 152, 2) := by decide +kernel
theorem dX2_buy_46 : decode cX2_buy 46 = .ok (.invokespecial 61, 3) := by decide +kernel
theorem dX2_buy_49 : decode cX2_buy 49 = .ok (.athrow, 1) := by decide +kernel
theorem dX2_buy_50 : decode cX2_buy 50 = .ok (.aload 4, 2) := by decide +kernel
theorem dX2_buy_52 : decode cX2_buy 52 = .ok (.iload 5, 2) := by decide +kernel
theorem dX2_buy_54 : decode cX2_buy 54 = .ok (.invokevirtual 154, 3) := by decide +kernel
theorem dX2_buy_57 : decode cX2_buy 57 = .ok (.istore 6, 2) := by decide +kernel
theorem dX2_buy_59 : decode cX2_buy 59 = .ok (.iload 5, 2) := by decide +kernel
theorem dX2_buy_61 : decode cX2_buy 61 = .ok (.iload 6, 2) := by decide +kernel
theorem dX2_buy_63 : decode cX2_buy 63 = .ok (.isub, 1) := by decide +kernel
theorem dX2_buy_64 : decode cX2_buy 64 = .ok (.aload 4, 2) := by decide +kernel
theorem dX2_buy_66 : decode cX2_buy 66 = .ok (.getfield 158, 3) := by decide +kernel
theorem dX2_buy_69 : decode cX2_buy 69 = .ok (.invokestatic 161, 3) := by decide +kernel
theorem dX2_buy_72 : decode cX2_buy 72 = .ok (.istore 7, 2) := by decide +kernel
theorem dX2_buy_74 : decode cX2_buy 74 = .ok (.aload_n 0, 1) := by decide +kernel
theorem dX2_buy_75 : decode cX2_buy 75 = .ok (.getfield 50, 3) := by decide +kernel
theorem dX2_buy_78 : decode cX2_buy 78 = .ok (.iconst 1, 1) := by decide +kernel
theorem dX2_buy_79 : decode cX2_buy 79 = .ok (.dup2, 1) := by decide +kernel
theorem dX2_buy_80 : decode cX2_buy 80 = .ok (.iaload, 1) := by decide +kernel
theorem dX2_buy_81 : decode cX2_buy 81 = .ok (.iload 6, 2) := by decide +kernel
theorem dX2_buy_83 : decode cX2_buy 83 = .ok (.iadd, 1) := by decide +kernel
theorem dX2_buy_84 : decode cX2_buy 84 = .ok (.iastore, 1) := by decide +kernel
theorem dX2_buy_85 : decode cX2_buy 85 = .ok (.aload 4, 2) := by decide +kernel
theorem dX2_buy_87 : decode cX2_buy 87 = .ok (.dup, 1) := by decide +kernel
theorem dX2_buy_88 : decode cX2_buy 88 = .ok (.getfield 158, 3) := by decide +kernel
theorem dX2_buy_91 : decode cX2_buy 91 = .ok (.iload 7, 2) := by decide +kernel
theorem dX2_buy_93 : decode cX2_buy 93 = .ok (.isub, 1) := by decide +kernel
theorem dX2_buy_94 : decode cX2_buy 94 = .ok (.putfield 158, 3) := by decide +kernel
theorem dX2_buy_97 : decode cX2_buy 97 = .ok (.aload 4, 2) := by decide +kernel
theorem dX2_buy_99 : decode cX2_buy 99 = .ok (.dup, 1) := by decide +kernel
theorem dX2_buy_100 : decode cX2_buy 100 = .ok (.getfield 167, 3) := by decide +kernel
theorem dX2_buy_103 : decode cX2_buy 103 = .ok (.iload 5, 2) := by decide +kernel
theorem dX2_buy_105 : decode cX2_buy 105 = .ok (.iload 6, 2) := by decide +kernel
theorem dX2_buy_107 : decode cX2_buy 107 = .ok (.isub, 1) := by decide +kernel
theorem dX2_buy_108 : decode cX2_buy 108 = .ok (.iload 7, 2) := by decide +kernel
theorem dX2_buy_110 : decode cX2_buy 110 = .ok (.isub, 1) := by decide +kernel
theorem dX2_buy_111 : decode cX2_buy 111 = .ok (.iadd, 1) := by decide +kernel
theorem dX2_buy_112 : decode cX2_buy 112 = .ok (.putfield 167, 3) := by decide +kernel
theorem dX2_buy_115 : decode cX2_buy 115 = .ok (.aload 4, 2) := by decide +kernel
theorem dX2_buy_117 : decode cX2_buy 117 = .ok (.getfield 170, 3) := by decide +kernel
theorem dX2_buy_120 : decode cX2_buy 120 = .ok (.iload_n 2, 1) := by decide +kernel
theorem dX2_buy_121 : decode cX2_buy 121 = .ok (.dup2, 1) := by decide +kernel
theorem dX2_buy_122 : decode cX2_buy 122 = .ok (.iaload, 1) := by decide +kernel
theorem dX2_buy_123 : decode cX2_buy 123 = .ok (.iload_n 3, 1) := by decide +kernel
theorem dX2_buy_124 : decode cX2_buy 124 = .ok (.iadd, 1) := by decide +kernel
theorem dX2_buy_125 : decode cX2_buy 125 = .ok (.iastore, 1) := by decide +kernel
theorem dX2_buy_126 : decode cX2_buy 126 = .ok (.aload 4, 2) := by decide +kernel
theorem dX2_buy_128 : decode cX2_buy 128 = .ok (.getfield 167, 3) := by decide +kernel
theorem dX2_buy_131 : decode cX2_buy 131 = .ok (.ireturn, 1) := by decide +kernel
theorem dX2_over_0 : decode cX2_over 0 = .ok (.aload_n 0, 1) := by decide +kernel
theorem dX2_over_1 : decode cX2_over 1 = .ok (.iload_n 1, 1) := by decide +kernel
theorem dX2_over_2 : decode cX2_over 2 = .ok (.invokevirtual 71, 3) := by decide +kernel
theorem dX2_over_5 : decode cX2_over 5 = .ok (.astore 4, 2) := by decide +kernel
theorem dX2_over_7 : decode cX2_over 7 = .ok (.iload_n 2, 1) := by decide +kernel
theorem dX2_over_8 : decode cX2_over 8 = .ok (.invokestatic 142, 3) := by decide +kernel
theorem dX2_over_11 : decode cX2_over 11 = .ok (.iload_n 3, 1) := by decide +kernel
theorem dX2_over_12 : decode cX2_over 12 = .ok (.iconst 1, 1) := by decide +kernel
theorem dX2_over_13 : decode cX2_over 13 = .ok (.bipush 50, 2) := by decide +kernel
theorem dX2_over_15 : decode cX2_over 15 = .ok (.invokestatic 83, 3) := by decide +kernel
theorem dX2_over_18 : decode cX2_over 18 = .ok (.aload 4, 2) := by decide +kernel
theorem dX2_over_20 : decode cX2_over 20 = .ok (.invokestatic 91, 3) := by decide +kernel
theorem dX2_over_23 : decode cX2_over 23 = .ok (.aload_n 0, 1) := by decide +kernel
theorem dX2_over_24 : decode cX2_over 24 = .ok (.getfield 37, 3) := by decide +kernel
theorem dX2_over_27 : decode cX2_over 27 = .ok (.iload_n 2, 1) := by decide +kernel
theorem dX2_over_28 : decode cX2_over 28 = .ok (.iaload, 1) := by decide +kernel
theorem dX2_over_29 : decode cX2_over 29 = .ok (.iload_n 3, 1) := by decide +kernel
theorem dX2_over_30 : decode cX2_over 30 = .ok (.imul, 1) := by decide +kernel
theorem dX2_over_31 : decode cX2_over 31 = .ok (.istore 5, 2) := by decide +kernel
theorem dX2_over_33 : decode cX2_over 33 = .ok (.aload 4, 2) := by decide +kernel
theorem dX2_over_35 : decode cX2_over 35 = .ok (.getfield 158, 3) := by decide +kernel
theorem dX2_over_38 : decode cX2_over 38 = .ok (.iload 5, 2) := by decide +kernel
theorem dX2_over_40 : decode cX2_over 40 = .ok (.if_icmp .ge 13, 3) := by decide +kernel
theorem dX2_over_43 : decode cX2_over 43 = .ok (.new 57, 3) := by decide +kernel
theorem dX2_over_46 : decode cX2_over 46 = .ok (.dup, 1) := by decide +kernel
theorem dX2_over_47 : decode cX2_over 47 = .ok (.ldc 173, 2) := by decide +kernel
theorem dX2_over_49 : decode cX2_over 49 = .ok (.invokespecial 61, 3) := by decide +kernel
theorem dX2_over_52 : decode cX2_over 52 = .ok (.athrow, 1) := by decide +kernel
theorem dX2_over_53 : decode cX2_over 53 = .ok (.aload 4, 2) := by decide +kernel
theorem dX2_over_55 : decode cX2_over 55 = .ok (.dup, 1) := by decide +kernel
theorem dX2_over_56 : decode cX2_over 56 = .ok (.getfield 158, 3) := by decide +kernel
theorem dX2_over_59 : decode cX2_over 59 = .ok (.iload 5, 2) := by decide +kernel
theorem dX2_over_61 : decode cX2_over 61 = .ok (.isub, 1) := by decide +kernel
theorem dX2_over_62 : decode cX2_over 62 = .ok (.putfield 158, 3) := by decide +kernel
theorem dX2_over_65 : decode cX2_over 65 = .ok (.aload 4, 2) := by decide +kernel
theorem dX2_over_67 : decode cX2_over 67 = .ok (.getfield 170, 3) := by decide +kernel
theorem dX2_over_70 : decode cX2_over 70 = .ok (.iload_n 2, 1) := by decide +kernel
theorem dX2_over_71 : decode cX2_over 71 = .ok (.dup2, 1) := by decide +kernel
theorem dX2_over_72 : decode cX2_over 72 = .ok (.iaload, 1) := by decide +kernel
theorem dX2_over_73 : decode cX2_over 73 = .ok (.iload_n 3, 1) := by decide +kernel
theorem dX2_over_74 : decode cX2_over 74 = .ok (.iadd, 1) := by decide +kernel
theorem dX2_over_75 : decode cX2_over 75 = .ok (.iastore, 1) := by decide +kernel
theorem dX2_over_76 : decode cX2_over 76 = .ok (.aload 4, 2) := by decide +kernel
theorem dX2_over_78 : decode cX2_over 78 = .ok (.getfield 158, 3) := by decide +kernel
theorem dX2_over_81 : decode cX2_over 81 = .ok (.ireturn, 1) := by decide +kernel
theorem dX2_discount_0 : decode cX2_discount 0 = .ok (.iload_n 1, 1) := by decide +kernel
theorem dX2_discount_1 : decode cX2_discount 1 = .ok (.iconst 0, 1) := by decide +kernel
theorem dX2_discount_2 : decode cX2_discount 2 = .ok (.bipush 90, 2) := by decide +kernel
theorem dX2_discount_4 : decode cX2_discount 4 = .ok (.invokestatic 83, 3) := by decide +kernel
theorem dX2_discount_7 : decode cX2_discount 7 = .ok (.aload_n 0, 1) := by decide +kernel
theorem dX2_discount_8 : decode cX2_discount 8 = .ok (.getfield 43, 3) := by decide +kernel
theorem dX2_discount_11 : decode cX2_discount 11 = .ok (.istore_n 2, 1) := by decide +kernel
theorem dX2_discount_12 : decode cX2_discount 12 = .ok (.aload_n 0, 1) := by decide +kernel
theorem dX2_discount_13 : decode cX2_discount 13 = .ok (.iload_n 1, 1) := by decide +kernel
theorem dX2_discount_14 : decode cX2_discount 14 = .ok (.putfield 43, 3) := by decide +kernel
theorem dX2_discount_17 : decode cX2_discount 17 = .ok (.iload_n 2, 1) := by decide +kernel
theorem dX2_discount_18 : decode cX2_discount 18 = .ok (.ireturn, 1) := by decide +kernel
theorem dX2_change_0 : decode cX2_change 0 = .ok (.aload_n 0, 1) := by decide +kernel
theorem dX2_change_1 : decode cX2_change 1 = .ok (.iload_n 1, 1) := by decide +kernel
theorem dX2_change_2 : decode cX2_change 2 = .ok (.invokevirtual 71, 3) := by decide +kernel
theorem dX2_change_5 : decode cX2_change 5 = .ok (.astore_n 3, 1) := by decide +kernel
theorem dX2_change_6 : decode cX2_change 6 = .ok (.iload_n 2, 1) := by decide +kernel
theorem dX2_change_7 : decode cX2_change 7 = .ok (.iconst 1, 1) := by decide +kernel
theorem dX2_change_8 : decode cX2_change 8 = .ok (.ldc 175, 2) := by decide +kernel
theorem dX2_change_10 : decode cX2_change 10 = .ok (.invokestatic 83, 3) := by decide +kernel
theorem dX2_change_13 : decode cX2_change 13 = .ok (.aload_n 3, 1) := by decide +kernel
theorem dX2_change_14 : decode cX2_change 14 = .ok (.invokestatic 91, 3) := by decide +kernel
theorem dX2_change_17 : decode cX2_change 17 = .ok (.aload_n 3, 1) := by decide +kernel
theorem dX2_change_18 : decode cX2_change 18 = .ok (.invokevirtual 176, 3) := by decide +kernel
theorem dX2_change_21 : decode cX2_change 21 = .ok (.iload_n 2, 1) := by decide +kernel
theorem dX2_change_22 : decode cX2_change 22 = .ok (.if_icmp .ge 13, 3) := by decide +kernel
theorem dX2_change_25 : decode cX2_change 25 = .ok (.new 57, 3) := by decide +kernel
theorem dX2_change_28 : decode cX2_change 28 = .ok (.dup, 1) := by decide +kernel
theorem dX2_change_29 : decode cX2_change 29 = .ok (.ldc 179, 2) := by decide +kernel
theorem dX2_change_31 : decode cX2_change 31 = .ok (.invokespecial 61, 3) := by decide +kernel
theorem dX2_change_34 : decode cX2_change 34 = .ok (.athrow, 1) := by decide +kernel
theorem dX2_change_35 : decode cX2_change 35 = .ok (.aload_n 0, 1) := by decide +kernel
theorem dX2_change_36 : decode cX2_change 36 = .ok (.getfield 50, 3) := by decide +kernel
theorem dX2_change_39 : decode cX2_change 39 = .ok (.iconst 2, 1) := by decide +kernel
theorem dX2_change_40 : decode cX2_change 40 = .ok (.dup2, 1) := by decide +kernel
theorem dX2_change_41 : decode cX2_change 41 = .ok (.iaload, 1) := by decide +kernel
theorem dX2_change_42 : decode cX2_change 42 = .ok (.aload_n 3, 1) := by decide +kernel
theorem dX2_change_43 : decode cX2_change 43 = .ok (.iload_n 2, 1) := by decide +kernel
theorem dX2_change_44 : decode cX2_change 44 = .ok (.invokevirtual 154, 3) := by decide +kernel
theorem dX2_change_47 : decode cX2_change 47 = .ok (.iadd, 1) := by decide +kernel
theorem dX2_change_48 : decode cX2_change 48 = .ok (.iastore, 1) := by decide +kernel
theorem dX2_change_49 : decode cX2_change 49 = .ok (.iload_n 2, 1) := by decide +kernel
theorem dX2_change_50 : decode cX2_change 50 = .ok (.bipush 100, 2) := by decide +kernel
theorem dX2_change_52 : decode cX2_change 52 = .ok (.aload_n 0, 1) := by decide +kernel
theorem dX2_change_53 : decode cX2_change 53 = .ok (.getfield 43, 3) := by decide +kernel
theorem dX2_change_56 : decode cX2_change 56 = .ok (.isub, 1) := by decide +kernel
theorem dX2_change_57 : decode cX2_change 57 = .ok (.imul, 1) := by decide +kernel
theorem dX2_change_58 : decode cX2_change 58 = .ok (.bipush 100, 2) := by decide +kernel
theorem dX2_change_60 : decode cX2_change 60 = .ok (.idiv, 1) := by decide +kernel
theorem dX2_change_61 : decode cX2_change 61 = .ok (.istore 4, 2) := by decide +kernel
theorem dX2_change_63 : decode cX2_change 63 = .ok (.aload_n 3, 1) := by decide +kernel
theorem dX2_change_64 : decode cX2_change 64 = .ok (.dup, 1) := by decide +kernel
theorem dX2_change_65 : decode cX2_change 65 = .ok (.getfield 158, 3) := by decide +kernel
theorem dX2_change_68 : decode cX2_change 68 = .ok (.iload 4, 2) := by decide +kernel
theorem dX2_change_70 : decode cX2_change 70 = .ok (.iadd, 1) := by decide +kernel
theorem dX2_change_71 : decode cX2_change 71 = .ok (.putfield 158, 3) := by decide +kernel
theorem dX2_change_74 : decode cX2_change 74 = .ok (.iload 4, 2) := by decide +kernel
theorem dX2_change_76 : decode cX2_change 76 = .ok (.ireturn, 1) := by decide +kernel
theorem dX2_law_0 : decode cX2_law 0 = .ok (.iload_n 1, 1) := by decide +kernel
theorem dX2_law_1 : decode cX2_law 1 = .ok (.aload_n 0, 1) := by decide +kernel
theorem dX2_law_2 : decode cX2_law 2 = .ok (.getfield 46, 3) := by decide +kernel
theorem dX2_law_5 : decode cX2_law 5 = .ok (.arraylength, 1) := by decide +kernel
theorem dX2_law_6 : decode cX2_law 6 = .ok (.invokestatic 181, 3) := by decide +kernel
theorem dX2_law_9 : decode cX2_law 9 = .ok (.aload_n 0, 1) := by decide +kernel
theorem dX2_law_10 : decode cX2_law 10 = .ok (.getfield 46, 3) := by decide +kernel
theorem dX2_law_13 : decode cX2_law 13 = .ok (.iload_n 1, 1) := by decide +kernel
theorem dX2_law_14 : decode cX2_law 14 = .ok (.baload, 1) := by decide +kernel
theorem dX2_law_15 : decode cX2_law 15 = .ok (.istore_n 3, 1) := by decide +kernel
theorem dX2_law_16 : decode cX2_law 16 = .ok (.aload_n 0, 1) := by decide +kernel
theorem dX2_law_17 : decode cX2_law 17 = .ok (.getfield 46, 3) := by decide +kernel
theorem dX2_law_20 : decode cX2_law 20 = .ok (.iload_n 1, 1) := by decide +kernel
theorem dX2_law_21 : decode cX2_law 21 = .ok (.iload_n 2, 1) := by decide +kernel
theorem dX2_law_22 : decode cX2_law 22 = .ok (.bastore, 1) := by decide +kernel
theorem dX2_law_23 : decode cX2_law 23 = .ok (.iload_n 3, 1) := by decide +kernel
theorem dX2_law_24 : decode cX2_law 24 = .ok (.ireturn, 1) := by decide +kernel
theorem dX2_obey_0 : decode cX2_obey 0 = .ok (.aload_n 0, 1) := by decide +kernel
theorem dX2_obey_1 : decode cX2_obey 1 = .ok (.getfield 185, 3) := by decide +kernel
theorem dX2_obey_4 : decode cX2_obey 4 = .ok (.istore_n 2, 1) := by decide +kernel
theorem dX2_obey_5 : decode cX2_obey 5 = .ok (.aload_n 0, 1) := by decide +kernel
theorem dX2_obey_6 : decode cX2_obey 6 = .ok (.iload_n 1, 1) := by decide +kernel
theorem dX2_obey_7 : decode cX2_obey 7 = .ok (.putfield 185, 3) := by decide +kernel
theorem dX2_obey_10 : decode cX2_obey 10 = .ok (.iload_n 2, 1) := by decide +kernel
theorem dX2_obey_11 : decode cX2_obey 11 = .ok (.ireturn, 1) := by decide +kernel
theorem dX2_breaches_0 : decode cX2_breaches 0 = .ok (.aload_n 0, 1) := by decide +kernel
theorem dX2_breaches_1 : decode cX2_breaches 1 = .ok (.getfield 188, 3) := by decide +kernel
theorem dX2_breaches_4 : decode cX2_breaches 4 = .ok (.ireturn, 1) := by decide +kernel
theorem dX2_die_0 : decode cX2_die 0 = .ok (.aload_n 0, 1) := by decide +kernel
theorem dX2_die_1 : decode cX2_die 1 = .ok (.iload_n 1, 1) := by decide +kernel
theorem dX2_die_2 : decode cX2_die 2 = .ok (.invokevirtual 71, 3) := by decide +kernel
theorem dX2_die_5 : decode cX2_die 5 = .ok (.astore_n 2, 1) := by decide +kernel
theorem dX2_die_6 : decode cX2_die 6 = .ok (.aload_n 2, 1) := by decide +kernel
theorem dX2_die_7 : decode cX2_die 7 = .ok (.invokestatic 91, 3) := by decide +kernel
theorem dX2_die_10 : decode cX2_die 10 = .ok (.aload_n 2, 1) := by decide +kernel
theorem dX2_die_11 : decode cX2_die 11 = .ok (.iconst 0, 1) := by decide +kernel
theorem dX2_die_12 : decode cX2_die 12 = .ok (.putfield 121, 3) := by decide +kernel
theorem dX2_die_15 : decode cX2_die 15 = .ok (.aload_n 0, 1) := by decide +kernel
theorem dX2_die_16 : decode cX2_die 16 = .ok (.aload_n 2, 1) := by decide +kernel
theorem dX2_die_17 : decode cX2_die 17 = .ok (.invokevirtual 191, 3) := by decide +kernel
theorem dX2_die_20 : decode cX2_die 20 = .ok (.istore_n 3, 1) := by decide +kernel
theorem dX2_die_21 : decode cX2_die 21 = .ok (.iload_n 3, 1) := by decide +kernel
theorem dX2_die_22 : decode cX2_die 22 = .ok (.iconst (-1), 1) := by decide +kernel
theorem dX2_die_23 : decode cX2_die 23 = .ok (.if_icmp .ne 19, 3) := by decide +kernel
theorem dX2_die_26 : decode cX2_die 26 = .ok (.aload_n 0, 1) := by decide +kernel
theorem dX2_die_27 : decode cX2_die 27 = .ok (.getfield 50, 3) := by decide +kernel
theorem dX2_die_30 : decode cX2_die 30 = .ok (.iconst 4, 1) := by decide +kernel
theorem dX2_die_31 : decode cX2_die 31 = .ok (.dup2, 1) := by decide +kernel
theorem dX2_die_32 : decode cX2_die 32 = .ok (.iaload, 1) := by decide +kernel
theorem dX2_die_33 : decode cX2_die 33 = .ok (.aload_n 2, 1) := by decide +kernel
theorem dX2_die_34 : decode cX2_die 34 = .ok (.invokevirtual 176, 3) := by decide +kernel
theorem dX2_die_37 : decode cX2_die 37 = .ok (.iadd, 1) := by decide +kernel
theorem dX2_die_38 : decode cX2_die 38 = .ok (.iastore, 1) := by decide +kernel
theorem dX2_die_39 : decode cX2_die 39 = .ok (.goto 26, 3) := by decide +kernel
theorem dX2_die_42 : decode cX2_die 42 = .ok (.aload_n 0, 1) := by decide +kernel
theorem dX2_die_43 : decode cX2_die 43 = .ok (.iload_n 3, 1) := by decide +kernel
theorem dX2_die_44 : decode cX2_die 44 = .ok (.invokevirtual 71, 3) := by decide +kernel
theorem dX2_die_47 : decode cX2_die 47 = .ok (.aload_n 2, 1) := by decide +kernel
theorem dX2_die_48 : decode cX2_die 48 = .ok (.aload_n 0, 1) := by decide +kernel
theorem dX2_die_49 : decode cX2_die 49 = .ok (.getfield 46, 3) := by decide +kernel
theorem dX2_die_52 : decode cX2_die 52 = .ok (.iconst 2, 1) := by decide +kernel
theorem dX2_die_53 : decode cX2_die 53 = .ok (.baload, 1) := by decide +kernel
theorem dX2_die_54 : decode cX2_die 54 = .ok (.ifCond .ne 7, 3) := by decide +kernel
theorem dX2_die_57 : decode cX2_die 57 = .ok (.iconst 1, 1) := by decide +kernel
theorem dX2_die_58 : decode cX2_die 58 = .ok (.goto 4, 3) := by decide +kernel
theorem dX2_die_61 : decode cX2_die 61 = .ok (.iconst 0, 1) := by decide +kernel
theorem dX2_die_62 : decode cX2_die 62 = .ok (.invokevirtual 195, 3) := by decide +kernel
theorem dX2_die_65 : decode cX2_die 65 = .ok (.aload_n 2, 1) := by decide +kernel
theorem dX2_die_66 : decode cX2_die 66 = .ok (.invokevirtual 199, 3) := by decide +kernel
theorem dX2_die_69 : decode cX2_die 69 = .ok (.iload_n 3, 1) := by decide +kernel
theorem dX2_die_70 : decode cX2_die 70 = .ok (.ireturn, 1) := by decide +kernel
theorem dX2_vote_0 : decode cX2_vote 0 = .ok (.aload_n 0, 1) := by decide +kernel
theorem dX2_vote_1 : decode cX2_vote 1 = .ok (.iload_n 1, 1) := by decide +kernel
theorem dX2_vote_2 : decode cX2_vote 2 = .ok (.invokevirtual 71, 3) := by decide +kernel
theorem dX2_vote_5 : decode cX2_vote 5 = .ok (.astore_n 3, 1) := by decide +kernel
theorem dX2_vote_6 : decode cX2_vote 6 = .ok (.aload_n 3, 1) := by decide +kernel
theorem dX2_vote_7 : decode cX2_vote 7 = .ok (.getfield 202, 3) := by decide +kernel
theorem dX2_vote_10 : decode cX2_vote 10 = .ok (.istore 4, 2) := by decide +kernel
theorem dX2_vote_12 : decode cX2_vote 12 = .ok (.aload_n 3, 1) := by decide +kernel
theorem dX2_vote_13 : decode cX2_vote 13 = .ok (.iload_n 2, 1) := by decide +kernel
theorem dX2_vote_14 : decode cX2_vote 14 = .ok (.putfield 202, 3) := by decide +kernel
theorem dX2_vote_17 : decode cX2_vote 17 = .ok (.iload 4, 2) := by decide +kernel
theorem dX2_vote_19 : decode cX2_vote 19 = .ok (.ireturn, 1) := by decide +kernel
theorem dX2_strike_0 : decode cX2_strike 0 = .ok (.aload_n 0, 1) := by decide +kernel
theorem dX2_strike_1 : decode cX2_strike 1 = .ok (.getfield 98, 3) := by decide +kernel
theorem dX2_strike_4 : decode cX2_strike 4 = .ok (.ifCond .ne 17, 3) := by decide +kernel
theorem dX2_strike_7 : decode cX2_strike 7 = .ok (.aload_n 0, 1) := by decide +kernel
theorem dX2_strike_8 : decode cX2_strike 8 = .ok (.getfield 95, 3) := by decide +kernel
theorem dX2_strike_11 : decode cX2_strike 11 = .ok (.ifCond .ne 20, 3) := by decide +kernel
theorem dX2_strike_14 : decode cX2_strike 14 = .ok (.aload_n 0, 1) := by decide +kernel
theorem dX2_strike_15 : decode cX2_strike 15 = .ok (.invokevirtual 205, 3) := by decide +kernel
theorem dX2_strike_18 : decode cX2_strike 18 = .ok (.ifCond .ne 13, 3) := by decide +kernel
theorem dX2_strike_21 : decode cX2_strike 21 = .ok (.new 57, 3) := by decide +kernel
theorem dX2_strike_24 : decode cX2_strike 24 = .ok (.dup, 1) := by decide +kernel
theorem dX2_strike_25 : decode cX2_strike 25 = .ok (.ldc 209, 2) := by decide +kernel
theorem dX2_strike_27 : decode cX2_strike 27 = .ok (.invokespecial 61, 3) := by decide +kernel
theorem dX2_strike_30 : decode cX2_strike 30 = .ok (.athrow, 1) := by decide +kernel
theorem dX2_strike_31 : decode cX2_strike 31 = .ok (.aload_n 0, 1) := by decide +kernel
theorem dX2_strike_32 : decode cX2_strike 32 = .ok (.aload_n 0, 1) := by decide +kernel
theorem dX2_strike_33 : decode cX2_strike 33 = .ok (.getfield 95, 3) := by decide +kernel
theorem dX2_strike_36 : decode cX2_strike 36 = .ok (.ifCond .ne 7, 3) := by decide +kernel
theorem dX2_strike_39 : decode cX2_strike 39 = .ok (.iconst 1, 1) := by decide +kernel
theorem dX2_strike_40 : decode cX2_strike 40 = .ok (.goto 4, 3) := by decide +kernel
theorem dX2_strike_43 : decode cX2_strike 43 = .ok (.iconst 0, 1) := by decide +kernel
theorem dX2_strike_44 : decode cX2_strike 44 = .ok (.putfield 95, 3) := by decide +kernel
theorem dX2_strike_47 : decode cX2_strike 47 = .ok (.aload_n 0, 1) := by decide +kernel
theorem dX2_strike_48 : decode cX2_strike 48 = .ok (.getfield 95, 3) := by decide +kernel
theorem dX2_strike_51 : decode cX2_strike 51 = .ok (.ireturn, 1) := by decide +kernel
theorem dX2_give_0 : decode cX2_give 0 = .ok (.iload_n 1, 1) := by decide +kernel
theorem dX2_give_1 : decode cX2_give 1 = .ok (.iconst 1, 1) := by decide +kernel
theorem dX2_give_2 : decode cX2_give 2 = .ok (.sipush 1000, 3) := by decide +kernel
theorem dX2_give_5 : decode cX2_give 5 = .ok (.invokestatic 83, 3) := by decide +kernel
theorem dX2_give_8 : decode cX2_give 8 = .ok (.aload_n 0, 1) := by decide +kernel
theorem dX2_give_9 : decode cX2_give 9 = .ok (.dup, 1) := by decide +kernel
theorem dX2_give_10 : decode cX2_give 10 = .ok (.getfield 211, 3) := by decide +kernel
theorem dX2_give_13 : decode cX2_give 13 = .ok (.iload_n 1, 1) := by decide +kernel
theorem dX2_give_14 : decode cX2_give 14 = .ok (.iadd, 1) := by decide +kernel
theorem dX2_give_15 : decode cX2_give 15 = .ok (.putfield 211, 3) := by decide +kernel
theorem dX2_give_18 : decode cX2_give 18 = .ok (.aload_n 0, 1) := by decide +kernel
theorem dX2_give_19 : decode cX2_give 19 = .ok (.getfield 211, 3) := by decide +kernel
theorem dX2_give_22 : decode cX2_give 22 = .ok (.ireturn, 1) := by decide +kernel
theorem dX2_soup_0 : decode cX2_soup 0 = .ok (.aload_n 0, 1) := by decide +kernel
theorem dX2_soup_1 : decode cX2_soup 1 = .ok (.getfield 95, 3) := by decide +kernel
theorem dX2_soup_4 : decode cX2_soup 4 = .ok (.ifCond .ne 13, 3) := by decide +kernel
theorem dX2_soup_7 : decode cX2_soup 7 = .ok (.new 57, 3) := by decide +kernel
theorem dX2_soup_10 : decode cX2_soup 10 = .ok (.dup, 1) := by decide +kernel
theorem dX2_soup_11 : decode cX2_soup 11 = .ok (.ldc 214, 2) := by decide +kernel
theorem dX2_soup_13 : decode cX2_soup 13 = .ok (.invokespecial 61, 3) := by decide +kernel
theorem dX2_soup_16 : decode cX2_soup 16 = .ok (.athrow, 1) := by decide +kernel
theorem dX2_soup_17 : decode cX2_soup 17 = .ok (.iconst 0, 1) := by decide +kernel
theorem dX2_soup_18 : decode cX2_soup 18 = .ok (.istore_n 1, 1) := by decide +kernel
theorem dX2_soup_19 : decode cX2_soup 19 = .ok (.iconst 0, 1) := by decide +kernel
theorem dX2_soup_20 : decode cX2_soup 20 = .ok (.istore_n 2, 1) := by decide +kernel
theorem dX2_soup_21 : decode cX2_soup 21 = .ok (.iload_n 2, 1) := by decide +kernel
theorem dX2_soup_22 : decode cX2_soup 22 = .ok (.aload_n 0, 1) := by decide +kernel
theorem dX2_soup_23 : decode cX2_soup 23 = .ok (.getfield 10, 3) := by decide +kernel
theorem dX2_soup_26 : decode cX2_soup 26 = .ok (.invokevirtual 53, 3) := by decide +kernel
theorem dX2_soup_29 : decode cX2_soup 29 = .ok (.if_icmp .ge 47, 3) := by decide +kernel
theorem dX2_soup_32 : decode cX2_soup 32 = .ok (.aload_n 0, 1) := by decide +kernel
theorem dX2_soup_33 : decode cX2_soup 33 = .ok (.getfield 211, 3) := by decide +kernel
theorem dX2_soup_36 : decode cX2_soup 36 = .ok (.iconst 2, 1) := by decide +kernel
theorem dX2_soup_37 : decode cX2_soup 37 = .ok (.if_icmp .lt 39, 3) := by decide +kernel
theorem dX2_soup_40 : decode cX2_soup 40 = .ok (.aload_n 0, 1) := by decide +kernel
theorem dX2_soup_41 : decode cX2_soup 41 = .ok (.iload_n 1, 1) := by decide +kernel
theorem dX2_soup_42 : decode cX2_soup 42 = .ok (.invokevirtual 216, 3) := by decide +kernel
theorem dX2_soup_45 : decode cX2_soup 45 = .ok (.istore_n 3, 1) := by decide +kernel
theorem dX2_soup_46 : decode cX2_soup 46 = .ok (.iload_n 3, 1) := by decide +kernel
theorem dX2_soup_47 : decode cX2_soup 47 = .ok (.iconst (-1), 1) := by decide +kernel
theorem dX2_soup_48 : decode cX2_soup 48 = .ok (.if_icmp .ne 6, 3) := by decide +kernel
theorem dX2_soup_51 : decode cX2_soup 51 = .ok (.goto 25, 3) := by decide +kernel
theorem dX2_soup_54 : decode cX2_soup 54 = .ok (.aload_n 0, 1) := by decide +kernel
theorem dX2_soup_55 : decode cX2_soup 55 = .ok (.dup, 1) := by decide +kernel
theorem dX2_soup_56 : decode cX2_soup 56 = .ok (.getfield 211, 3) := by decide +kernel
theorem dX2_soup_59 : decode cX2_soup 59 = .ok (.iconst 2, 1) := by decide +kernel
theorem dX2_soup_60 : decode cX2_soup 60 = .ok (.isub, 1) := by decide +kernel
theorem dX2_soup_61 : decode cX2_soup 61 = .ok (.putfield 211, 3) := by decide +kernel
theorem dX2_soup_64 : decode cX2_soup 64 = .ok (.iload_n 1, 1) := by decide +kernel
theorem dX2_soup_65 : decode cX2_soup 65 = .ok (.iconst 1, 1) := by decide +kernel
theorem dX2_soup_66 : decode cX2_soup 66 = .ok (.iload_n 3, 1) := by decide +kernel
theorem dX2_soup_67 : decode cX2_soup 67 = .ok (.ishl, 1) := by decide +kernel
theorem dX2_soup_68 : decode cX2_soup 68 = .ok (.ior, 1) := by decide +kernel
theorem dX2_soup_69 : decode cX2_soup 69 = .ok (.istore_n 1, 1) := by decide +kernel
theorem dX2_soup_70 : decode cX2_soup 70 = .ok (.iinc 2 1, 3) := by decide +kernel
theorem dX2_soup_73 : decode cX2_soup 73 = .ok (.goto (-52), 3) := by decide +kernel
theorem dX2_soup_76 : decode cX2_soup 76 = .ok (.iload_n 1, 1) := by decide +kernel
theorem dX2_soup_77 : decode cX2_soup 77 = .ok (.ireturn, 1) := by decide +kernel
theorem dX2_close_0 : decode cX2_close 0 = .ok (.iload_n 1, 1) := by decide +kernel
theorem dX2_close_1 : decode cX2_close 1 = .ok (.iconst 0, 1) := by decide +kernel
theorem dX2_close_2 : decode cX2_close 2 = .ok (.ldc 175, 2) := by decide +kernel
theorem dX2_close_4 : decode cX2_close 4 = .ok (.invokestatic 83, 3) := by decide +kernel
theorem dX2_close_7 : decode cX2_close 7 = .ok (.aload_n 0, 1) := by decide +kernel
theorem dX2_close_8 : decode cX2_close 8 = .ok (.getfield 98, 3) := by decide +kernel
theorem dX2_close_11 : decode cX2_close 11 = .ok (.ifCond .eq 13, 3) := by decide +kernel
theorem dX2_close_14 : decode cX2_close 14 = .ok (.new 57, 3) := by decide +kernel
theorem dX2_close_17 : decode cX2_close 17 = .ok (.dup, 1) := by decide +kernel
theorem dX2_close_18 : decode cX2_close 18 = .ok (.ldc 219, 2) := by decide +kernel
theorem dX2_close_20 : decode cX2_close 20 = .ok (.invokespecial 61, 3) := by decide +kernel
theorem dX2_close_23 : decode cX2_close 23 = .ok (.athrow, 1) := by decide +kernel
theorem dX2_close_24 : decode cX2_close 24 = .ok (.iload_n 1, 1) := by decide +kernel
theorem dX2_close_25 : decode cX2_close 25 = .ok (.istore_n 2, 1) := by decide +kernel
theorem dX2_close_26 : decode cX2_close 26 = .ok (.iconst 0, 1) := by decide +kernel
theorem dX2_close_27 : decode cX2_close 27 = .ok (.istore_n 3, 1) := by decide +kernel
theorem dX2_close_28 : decode cX2_close 28 = .ok (.iload_n 3, 1) := by decide +kernel
theorem dX2_close_29 : decode cX2_close 29 = .ok (.bipush 40, 2) := by decide +kernel
theorem dX2_close_31 : decode cX2_close 31 = .ok (.if_icmp .ge 18, 3) := by decide +kernel
theorem dX2_close_34 : decode cX2_close 34 = .ok (.iload_n 2, 1) := by decide +kernel
theorem dX2_close_35 : decode cX2_close 35 = .ok (.aload_n 0, 1) := by decide +kernel
theorem dX2_close_36 : decode cX2_close 36 = .ok (.iload_n 3, 1) := by decide +kernel
theorem dX2_close_37 : decode cX2_close 37 = .ok (.iload_n 2, 1) := by decide +kernel
theorem dX2_close_38 : decode cX2_close 38 = .ok (.invokevirtual 221, 3) := by decide +kernel
theorem dX2_close_41 : decode cX2_close 41 = .ok (.isub, 1) := by decide +kernel
theorem dX2_close_42 : decode cX2_close 42 = .ok (.istore_n 2, 1) := by decide +kernel
theorem dX2_close_43 : decode cX2_close 43 = .ok (.iinc 3 1, 3) := by decide +kernel
theorem dX2_close_46 : decode cX2_close 46 = .ok (.goto (-18), 3) := by decide +kernel
theorem dX2_close_49 : decode cX2_close 49 = .ok (.aload_n 0, 1) := by decide +kernel
theorem dX2_close_50 : decode cX2_close 50 = .ok (.iconst 1, 1) := by decide +kernel
theorem dX2_close_51 : decode cX2_close 51 = .ok (.putfield 98, 3) := by decide +kernel
theorem dX2_close_54 : decode cX2_close 54 = .ok (.aload_n 0, 1) := by decide +kernel
theorem dX2_close_55 : decode cX2_close 55 = .ok (.iconst 0, 1) := by decide +kernel
theorem dX2_close_56 : decode cX2_close 56 = .ok (.putfield 95, 3) := by decide +kernel
theorem dX2_close_59 : decode cX2_close 59 = .ok (.iload_n 2, 1) := by decide +kernel
theorem dX2_close_60 : decode cX2_close 60 = .ok (.ireturn, 1) := by decide +kernel
theorem dX2_about_0 : decode cX2_about 0 = .ok (.aload_n 0, 1) := by decide +kernel
theorem dX2_about_1 : decode cX2_about 1 = .ok (.iload_n 1, 1) := by decide +kernel
theorem dX2_about_2 : decode cX2_about 2 = .ok (.invokevirtual 71, 3) := by decide +kernel
theorem dX2_about_5 : decode cX2_about 5 = .ok (.astore_n 3, 1) := by decide +kernel
theorem dX2_about_6 : decode cX2_about 6 = .ok (.iload_n 2, 1) := by decide +kernel
theorem dX2_about_7 : decode cX2_about 7 = .ok (.tableswitch 119 0 9 #[53, 66, 71, 76, 81, 86, 91, 104, 109, 114], 53) := by decide +kernel
theorem dX2_about_60 : decode cX2_about 60 = .ok (.aload_n 3, 1) := by decide +kernel
theorem dX2_about_61 : decode cX2_about 61 = .ok (.getfield 121, 3) := by decide +kernel
theorem dX2_about_64 : decode cX2_about 64 = .ok (.ifCond .eq 7, 3) := by decide +kernel
theorem dX2_about_67 : decode cX2_about 67 = .ok (.iconst 1, 1) := by decide +kernel
theorem dX2_about_68 : decode cX2_about 68 = .ok (.goto 4, 3) := by decide +kernel
theorem dX2_about_71 : decode cX2_about 71 = .ok (.iconst 0, 1) := by decide +kernel
theorem dX2_about_72 : decode cX2_about 72 = .ok (.ireturn, 1) := by decide +kernel
theorem dX2_about_73 : decode cX2_about 73 = .ok (.aload_n 3, 1) := by decide +kernel
theorem dX2_about_74 : decode cX2_about 74 = .ok (.getfield 103, 3) := by decide +kernel
theorem dX2_about_77 : decode cX2_about 77 = .ok (.ireturn, 1) := by decide +kernel
theorem dX2_about_78 : decode cX2_about 78 = .ok (.aload_n 3, 1) := by decide +kernel
theorem dX2_about_79 : decode cX2_about 79 = .ok (.getfield 158, 3) := by decide +kernel
theorem dX2_about_82 : decode cX2_about 82 = .ok (.ireturn, 1) := by decide +kernel
theorem dX2_about_83 : decode cX2_about 83 = .ok (.aload_n 3, 1) := by decide +kernel
theorem dX2_about_84 : decode cX2_about 84 = .ok (.invokevirtual 176, 3) := by decide +kernel
theorem dX2_about_87 : decode cX2_about 87 = .ok (.ireturn, 1) := by decide +kernel
theorem dX2_about_88 : decode cX2_about 88 = .ok (.aload_n 3, 1) := by decide +kernel
theorem dX2_about_89 : decode cX2_about 89 = .ok (.getfield 167, 3) := by decide +kernel
theorem dX2_about_92 : decode cX2_about 92 = .ok (.ireturn, 1) := by decide +kernel
theorem dX2_about_93 : decode cX2_about 93 = .ok (.aload_n 3, 1) := by decide +kernel
theorem dX2_about_94 : decode cX2_about 94 = .ok (.getfield 137, 3) := by decide +kernel
theorem dX2_about_97 : decode cX2_about 97 = .ok (.ireturn, 1) := by decide +kernel
theorem dX2_about_98 : decode cX2_about 98 = .ok (.aload_n 3, 1) := by decide +kernel
theorem dX2_about_99 : decode cX2_about 99 = .ok (.getfield 134, 3) := by decide +kernel
theorem dX2_about_102 : decode cX2_about 102 = .ok (.ifCond .eq 7, 3) := by decide +kernel
theorem dX2_about_105 : decode cX2_about 105 = .ok (.iconst 1, 1) := by decide +kernel
theorem dX2_about_106 : decode cX2_about 106 = .ok (.goto 4, 3) := by decide +kernel
theorem dX2_about_109 : decode cX2_about 109 = .ok (.iconst 0, 1) := by decide +kernel
theorem dX2_about_110 : decode cX2_about 110 = .ok (.ireturn, 1) := by decide +kernel
theorem dX2_about_111 : decode cX2_about 111 = .ok (.aload_n 3, 1) := by decide +kernel
theorem dX2_about_112 : decode cX2_about 112 = .ok (.getfield 224, 3) := by decide +kernel
theorem dX2_about_115 : decode cX2_about 115 = .ok (.ireturn, 1) := by decide +kernel
theorem dX2_about_116 : decode cX2_about 116 = .ok (.aload_n 3, 1) := by decide +kernel
theorem dX2_about_117 : decode cX2_about 117 = .ok (.getfield 127, 3) := by decide +kernel
theorem dX2_about_120 : decode cX2_about 120 = .ok (.ireturn, 1) := by decide +kernel
theorem dX2_about_121 : decode cX2_about 121 = .ok (.aload_n 3, 1) := by decide +kernel
theorem dX2_about_122 : decode cX2_about 122 = .ok (.getfield 80, 3) := by decide +kernel
theorem dX2_about_125 : decode cX2_about 125 = .ok (.ireturn, 1) := by decide +kernel
theorem dX2_about_126 : decode cX2_about 126 = .ok (.new 75, 3) := by decide +kernel
theorem dX2_about_129 : decode cX2_about 129 = .ok (.dup, 1) := by decide +kernel
theorem dX2_about_130 : decode cX2_about 130 = .ok (.ldc 227, 2) := by decide +kernel
theorem dX2_about_132 : decode cX2_about 132 = .ok (.invokespecial 79, 3) := by decide +kernel
theorem dX2_about_135 : decode cX2_about 135 = .ok (.athrow, 1) := by decide +kernel
theorem dX2_has_0 : decode cX2_has 0 = .ok (.aload_n 0, 1) := by decide +kernel
theorem dX2_has_1 : decode cX2_has 1 = .ok (.iload_n 1, 1) := by decide +kernel
theorem dX2_has_2 : decode cX2_has 2 = .ok (.invokevirtual 71, 3) := by decide +kernel
theorem dX2_has_5 : decode cX2_has 5 = .ok (.astore_n 3, 1) := by decide +kernel
theorem dX2_has_6 : decode cX2_has 6 = .ok (.iload_n 2, 1) := by decide +kernel
theorem dX2_has_7 : decode cX2_has 7 = .ok (.invokestatic 142, 3) := by decide +kernel
theorem dX2_has_10 : decode cX2_has 10 = .ok (.aload_n 3, 1) := by decide +kernel
theorem dX2_has_11 : decode cX2_has 11 = .ok (.getfield 170, 3) := by decide +kernel
theorem dX2_has_14 : decode cX2_has 14 = .ok (.iload_n 2, 1) := by decide +kernel
theorem dX2_has_15 : decode cX2_has 15 = .ok (.iaload, 1) := by decide +kernel
theorem dX2_has_16 : decode cX2_has 16 = .ok (.ireturn, 1) := by decide +kernel
theorem dX2_scrip_0 : decode cX2_scrip 0 = .ok (.aload_n 0, 1) := by decide +kernel
theorem dX2_scrip_1 : decode cX2_scrip 1 = .ok (.iload_n 1, 1) := by decide +kernel
theorem dX2_scrip_2 : decode cX2_scrip 2 = .ok (.invokevirtual 71, 3) := by decide +kernel
theorem dX2_scrip_5 : decode cX2_scrip 5 = .ok (.astore_n 3, 1) := by decide +kernel
theorem dX2_scrip_6 : decode cX2_scrip 6 = .ok (.iload_n 2, 1) := by decide +kernel
theorem dX2_scrip_7 : decode cX2_scrip 7 = .ok (.iconst 0, 1) := by decide +kernel
theorem dX2_scrip_8 : decode cX2_scrip 8 = .ok (.bipush 39, 2) := by decide +kernel
theorem dX2_scrip_10 : decode cX2_scrip 10 = .ok (.invokestatic 83, 3) := by decide +kernel
theorem dX2_scrip_13 : decode cX2_scrip 13 = .ok (.aload_n 3, 1) := by decide +kernel
theorem dX2_scrip_14 : decode cX2_scrip 14 = .ok (.getfield 229, 3) := by decide +kernel
theorem dX2_scrip_17 : decode cX2_scrip 17 = .ok (.iload_n 2, 1) := by decide +kernel
theorem dX2_scrip_18 : decode cX2_scrip 18 = .ok (.iaload, 1) := by decide +kernel
theorem dX2_scrip_19 : decode cX2_scrip 19 = .ok (.ireturn, 1) := by decide +kernel
theorem dX2_scripAnew_0 : decode cX2_scripAnew 0 = .ok (.aload_n 0, 1) := by decide +kernel
theorem dX2_scripAnew_1 : decode cX2_scripAnew 1 = .ok (.iload_n 1, 1) := by decide +kernel
theorem dX2_scripAnew_2 : decode cX2_scripAnew 2 = .ok (.invokevirtual 71, 3) := by decide +kernel
theorem dX2_scripAnew_5 : decode cX2_scripAnew 5 = .ok (.astore_n 2, 1) := by decide +kernel
theorem dX2_scripAnew_6 : decode cX2_scripAnew 6 = .ok (.aload_n 2, 1) := by decide +kernel
theorem dX2_scripAnew_7 : decode cX2_scripAnew 7 = .ok (.getfield 232, 3) := by decide +kernel
theorem dX2_scripAnew_10 : decode cX2_scripAnew 10 = .ok (.aload_n 2, 1) := by decide +kernel
theorem dX2_scripAnew_11 : decode cX2_scripAnew 11 = .ok (.getfield 235, 3) := by decide +kernel
theorem dX2_scripAnew_14 : decode cX2_scripAnew 14 = .ok (.isub, 1) := by decide +kernel
theorem dX2_scripAnew_15 : decode cX2_scripAnew 15 = .ok (.ireturn, 1) := by decide +kernel
theorem dX2_baskets_0 : decode cX2_baskets 0 = .ok (.aload_n 0, 1) := by decide +kernel
theorem dX2_baskets_1 : decode cX2_baskets 1 = .ok (.iload_n 1, 1) := by decide +kernel
theorem dX2_baskets_2 : decode cX2_baskets 2 = .ok (.invokevirtual 71, 3) := by decide +kernel
theorem dX2_baskets_5 : decode cX2_baskets 5 = .ok (.astore_n 2, 1) := by decide +kernel
theorem dX2_baskets_6 : decode cX2_baskets 6 = .ok (.iconst 0, 1) := by decide +kernel
theorem dX2_baskets_7 : decode cX2_baskets 7 = .ok (.istore_n 3, 1) := by decide +kernel
theorem dX2_baskets_8 : decode cX2_baskets 8 = .ok (.iconst 0, 1) := by decide +kernel
theorem dX2_baskets_9 : decode cX2_baskets 9 = .ok (.istore 4, 2) := by decide +kernel
theorem dX2_baskets_11 : decode cX2_baskets 11 = .ok (.iload 4, 2) := by decide +kernel
theorem dX2_baskets_13 : decode cX2_baskets 13 = .ok (.iconst 4, 1) := by decide +kernel
theorem dX2_baskets_14 : decode cX2_baskets 14 = .ok (.if_icmp .ge 19, 3) := by decide +kernel
theorem dX2_baskets_17 : decode cX2_baskets 17 = .ok (.iload_n 3, 1) := by decide +kernel
theorem dX2_baskets_18 : decode cX2_baskets 18 = .ok (.aload_n 0, 1) := by decide +kernel
theorem dX2_baskets_19 : decode cX2_baskets 19 = .ok (.aload_n 2, 1) := by decide +kernel
theorem dX2_baskets_20 : decode cX2_baskets 20 = .ok (.iload 4, 2) := by decide +kernel
theorem dX2_baskets_22 : decode cX2_baskets 22 = .ok (.invokevirtual 145, 3) := by decide +kernel
theorem dX2_baskets_25 : decode cX2_baskets 25 = .ok (.iadd, 1) := by decide +kernel
theorem dX2_baskets_26 : decode cX2_baskets 26 = .ok (.istore_n 3, 1) := by decide +kernel
theorem dX2_baskets_27 : decode cX2_baskets 27 = .ok (.iinc 4 1, 3) := by decide +kernel
theorem dX2_baskets_30 : decode cX2_baskets 30 = .ok (.goto (-19), 3) := by decide +kernel
theorem dX2_baskets_33 : decode cX2_baskets 33 = .ok (.iload_n 3, 1) := by decide +kernel
theorem dX2_baskets_34 : decode cX2_baskets 34 = .ok (.ifCond .le 12, 3) := by decide +kernel
theorem dX2_baskets_37 : decode cX2_baskets 37 = .ok (.aload_n 2, 1) := by decide +kernel
theorem dX2_baskets_38 : decode cX2_baskets 38 = .ok (.getfield 127, 3) := by decide +kernel
theorem dX2_baskets_41 : decode cX2_baskets 41 = .ok (.iload_n 3, 1) := by decide +kernel
theorem dX2_baskets_42 : decode cX2_baskets 42 = .ok (.idiv, 1) := by decide +kernel
theorem dX2_baskets_43 : decode cX2_baskets 43 = .ok (.goto 4, 3) := by decide +kernel
theorem dX2_baskets_46 : decode cX2_baskets 46 = .ok (.iconst 0, 1) := by decide +kernel
theorem dX2_baskets_47 : decode cX2_baskets 47 = .ok (.ireturn, 1) := by decide +kernel
theorem dX2_books_0 : decode cX2_books 0 = .ok (.iload_n 1, 1) := by decide +kernel
theorem dX2_books_1 : decode cX2_books 1 = .ok (.aload_n 0, 1) := by decide +kernel
theorem dX2_books_2 : decode cX2_books 2 = .ok (.getfield 50, 3) := by decide +kernel
theorem dX2_books_5 : decode cX2_books 5 = .ok (.arraylength, 1) := by decide +kernel
theorem dX2_books_6 : decode cX2_books 6 = .ok (.invokestatic 181, 3) := by decide +kernel
theorem dX2_books_9 : decode cX2_books 9 = .ok (.aload_n 0, 1) := by decide +kernel
theorem dX2_books_10 : decode cX2_books 10 = .ok (.getfield 50, 3) := by decide +kernel
theorem dX2_books_13 : decode cX2_books 13 = .ok (.iload_n 1, 1) := by decide +kernel
theorem dX2_books_14 : decode cX2_books 14 = .ok (.iaload, 1) := by decide +kernel
theorem dX2_books_15 : decode cX2_books 15 = .ok (.ireturn, 1) := by decide +kernel
theorem dX2_minerAt_0 : decode cX2_minerAt 0 = .ok (.iload_n 1, 1) := by decide +kernel
theorem dX2_minerAt_1 : decode cX2_minerAt 1 = .ok (.aload_n 0, 1) := by decide +kernel
theorem dX2_minerAt_2 : decode cX2_minerAt 2 = .ok (.getfield 10, 3) := by decide +kernel
theorem dX2_minerAt_5 : decode cX2_minerAt 5 = .ok (.invokevirtual 53, 3) := by decide +kernel
theorem dX2_minerAt_8 : decode cX2_minerAt 8 = .ok (.invokestatic 181, 3) := by decide +kernel
theorem dX2_minerAt_11 : decode cX2_minerAt 11 = .ok (.aload_n 0, 1) := by decide +kernel
theorem dX2_minerAt_12 : decode cX2_minerAt 12 = .ok (.getfield 10, 3) := by decide +kernel
theorem dX2_minerAt_15 : decode cX2_minerAt 15 = .ok (.iload_n 1, 1) := by decide +kernel
theorem dX2_minerAt_16 : decode cX2_minerAt 16 = .ok (.invokevirtual 117, 3) := by decide +kernel
theorem dX2_minerAt_19 : decode cX2_minerAt 19 = .ok (.checkcast 64, 3) := by decide +kernel
theorem dX2_minerAt_22 : decode cX2_minerAt 22 = .ok (.areturn, 1) := by decide +kernel
theorem dX2_requireGoods_0 : decode cX2_requireGoods 0 = .ok (.iload_n 0, 1) := by decide +kernel
theorem dX2_requireGoods_1 : decode cX2_requireGoods 1 = .ok (.iconst 4, 1) := by decide +kernel
theorem dX2_requireGoods_2 : decode cX2_requireGoods 2 = .ok (.invokestatic 181, 3) := by decide +kernel
theorem dX2_requireGoods_5 : decode cX2_requireGoods 5 = .ok (.return_, 1) := by decide +kernel
theorem dX2_requireIndex_0 : decode cX2_requireIndex 0 = .ok (.iload_n 0, 1) := by decide +kernel
theorem dX2_requireIndex_1 : decode cX2_requireIndex 1 = .ok (.ifCond .lt 8, 3) := by decide +kernel
theorem dX2_requireIndex_4 : decode cX2_requireIndex 4 = .ok (.iload_n 0, 1) := by decide +kernel
theorem dX2_requireIndex_5 : decode cX2_requireIndex 5 = .ok (.iload_n 1, 1) := by decide +kernel
theorem dX2_requireIndex_6 : decode cX2_requireIndex 6 = .ok (.if_icmp .lt 13, 3) := by decide +kernel
theorem dX2_requireIndex_9 : decode cX2_requireIndex 9 = .ok (.new 238, 3) := by decide +kernel
theorem dX2_requireIndex_12 : decode cX2_requireIndex 12 = .ok (.dup, 1) := by decide +kernel
theorem dX2_requireIndex_13 : decode cX2_requireIndex 13 = .ok (.ldc 240, 2) := by decide +kernel
theorem dX2_requireIndex_15 : decode cX2_requireIndex 15 = .ok (.invokespecial 242, 3) := by decide +kernel
theorem dX2_requireIndex_18 : decode cX2_requireIndex 18 = .ok (.athrow, 1) := by decide +kernel
theorem dX2_requireIndex_19 : decode cX2_requireIndex 19 = .ok (.return_, 1) := by decide +kernel
theorem dX2_requireRange_0 : decode cX2_requireRange 0 = .ok (.iload_n 0, 1) := by decide +kernel
theorem dX2_requireRange_1 : decode cX2_requireRange 1 = .ok (.iload_n 1, 1) := by decide +kernel
theorem dX2_requireRange_2 : decode cX2_requireRange 2 = .ok (.if_icmp .lt 8, 3) := by decide +kernel
theorem dX2_requireRange_5 : decode cX2_requireRange 5 = .ok (.iload_n 0, 1) := by decide +kernel
theorem dX2_requireRange_6 : decode cX2_requireRange 6 = .ok (.iload_n 2, 1) := by decide +kernel
theorem dX2_requireRange_7 : decode cX2_requireRange 7 = .ok (.if_icmp .le 13, 3) := by decide +kernel
theorem dX2_requireRange_10 : decode cX2_requireRange 10 = .ok (.new 75, 3) := by decide +kernel
theorem dX2_requireRange_13 : decode cX2_requireRange 13 = .ok (.dup, 1) := by decide +kernel
theorem dX2_requireRange_14 : decode cX2_requireRange 14 = .ok (.ldc 243, 2) := by decide +kernel
theorem dX2_requireRange_16 : decode cX2_requireRange 16 = .ok (.invokespecial 79, 3) := by decide +kernel
theorem dX2_requireRange_19 : decode cX2_requireRange 19 = .ok (.athrow, 1) := by decide +kernel
theorem dX2_requireRange_20 : decode cX2_requireRange 20 = .ok (.return_, 1) := by decide +kernel
theorem dX2_requireAlive_0 : decode cX2_requireAlive 0 = .ok (.aload_n 0, 1) := by decide +kernel
theorem dX2_requireAlive_1 : decode cX2_requireAlive 1 = .ok (.getfield 121, 3) := by decide +kernel
theorem dX2_requireAlive_4 : decode cX2_requireAlive 4 = .ok (.ifCond .ne 13, 3) := by decide +kernel
theorem dX2_requireAlive_7 : decode cX2_requireAlive 7 = .ok (.new 57, 3) := by decide +kernel
theorem dX2_requireAlive_10 : decode cX2_requireAlive 10 = .ok (.dup, 1) := by decide +kernel
theorem dX2_requireAlive_11 : decode cX2_requireAlive 11 = .ok (.ldc 245, 2) := by decide +kernel
theorem dX2_requireAlive_13 : decode cX2_requireAlive 13 = .ok (.invokespecial 61, 3) := by decide +kernel
theorem dX2_requireAlive_16 : decode cX2_requireAlive 16 = .ok (.athrow, 1) := by decide +kernel
theorem dX2_requireAlive_17 : decode cX2_requireAlive 17 = .ok (.return_, 1) := by decide +kernel
theorem dX2_isEdition_0 : decode cX2_isEdition 0 = .ok (.iload_n 0, 1) := by decide +kernel
theorem dX2_isEdition_1 : decode cX2_isEdition 1 = .ok (.istore_n 1, 1) := by decide +kernel
theorem dX2_isEdition_2 : decode cX2_isEdition 2 = .ok (.iconst 0, 1) := by decide +kernel
theorem dX2_isEdition_3 : decode cX2_isEdition 3 = .ok (.istore_n 2, 1) := by decide +kernel
theorem dX2_isEdition_4 : decode cX2_isEdition 4 = .ok (.iconst 0, 1) := by decide +kernel
theorem dX2_isEdition_5 : decode cX2_isEdition 5 = .ok (.istore_n 3, 1) := by decide +kernel
theorem dX2_isEdition_6 : decode cX2_isEdition 6 = .ok (.iload_n 3, 1) := by decide +kernel
theorem dX2_isEdition_7 : decode cX2_isEdition 7 = .ok (.iconst 5, 1) := by decide +kernel
theorem dX2_isEdition_8 : decode cX2_isEdition 8 = .ok (.if_icmp .ge 55, 3) := by decide +kernel
theorem dX2_isEdition_11 : decode cX2_isEdition 11 = .ok (.iload_n 1, 1) := by decide +kernel
theorem dX2_isEdition_12 : decode cX2_isEdition 12 = .ok (.ifCond .le 51, 3) := by decide +kernel
theorem dX2_isEdition_15 : decode cX2_isEdition 15 = .ok (.iload_n 1, 1) := by decide +kernel
theorem dX2_isEdition_16 : decode cX2_isEdition 16 = .ok (.bipush 10, 2) := by decide +kernel
theorem dX2_isEdition_18 : decode cX2_isEdition 18 = .ok (.irem, 1) := by decide +kernel
theorem dX2_isEdition_19 : decode cX2_isEdition 19 = .ok (.istore 4, 2) := by decide +kernel
theorem dX2_isEdition_21 : decode cX2_isEdition 21 = .ok (.iload 4, 2) := by decide +kernel
theorem dX2_isEdition_23 : decode cX2_isEdition 23 = .ok (.iconst 1, 1) := by decide +kernel
theorem dX2_isEdition_24 : decode cX2_isEdition 24 = .ok (.if_icmp .lt 19, 3) := by decide +kernel
theorem dX2_isEdition_27 : decode cX2_isEdition 27 = .ok (.iload 4, 2) := by decide +kernel
theorem dX2_isEdition_29 : decode cX2_isEdition 29 = .ok (.iconst 5, 1) := by decide +kernel
theorem dX2_isEdition_30 : decode cX2_isEdition 30 = .ok (.if_icmp .gt 13, 3) := by decide +kernel
theorem dX2_isEdition_33 : decode cX2_isEdition 33 = .ok (.iload_n 2, 1) := by decide +kernel
theorem dX2_isEdition_34 : decode cX2_isEdition 34 = .ok (.iload 4, 2) := by decide +kernel
theorem dX2_isEdition_36 : decode cX2_isEdition 36 = .ok (.ishr, 1) := by decide +kernel
theorem dX2_isEdition_37 : decode cX2_isEdition 37 = .ok (.iconst 1, 1) := by decide +kernel
theorem dX2_isEdition_38 : decode cX2_isEdition 38 = .ok (.iand, 1) := by decide +kernel
theorem dX2_isEdition_39 : decode cX2_isEdition 39 = .ok (.iconst 1, 1) := by decide +kernel
theorem dX2_isEdition_40 : decode cX2_isEdition 40 = .ok (.if_icmp .ne 5, 3) := by decide +kernel
theorem dX2_isEdition_43 : decode cX2_isEdition 43 = .ok (.iconst 0, 1) := by decide +kernel
theorem dX2_isEdition_44 : decode cX2_isEdition 44 = .ok (.ireturn, 1) := by decide +kernel
theorem dX2_isEdition_45 : decode cX2_isEdition 45 = .ok (.iload_n 2, 1) := by decide +kernel
theorem dX2_isEdition_46 : decode cX2_isEdition 46 = .ok (.iconst 1, 1) := by decide +kernel
theorem dX2_isEdition_47 : decode cX2_isEdition 47 = .ok (.iload 4, 2) := by decide +kernel
theorem dX2_isEdition_49 : decode cX2_isEdition 49 = .ok (.ishl, 1) := by decide +kernel
theorem dX2_isEdition_50 : decode cX2_isEdition 50 = .ok (.ior, 1) := by decide +kernel
theorem dX2_isEdition_51 : decode cX2_isEdition 51 = .ok (.istore_n 2, 1) := by decide +kernel
theorem dX2_isEdition_52 : decode cX2_isEdition 52 = .ok (.iload_n 1, 1) := by decide +kernel
theorem dX2_isEdition_53 : decode cX2_isEdition 53 = .ok (.bipush 10, 2) := by decide +kernel
theorem dX2_isEdition_55 : decode cX2_isEdition 55 = .ok (.idiv, 1) := by decide +kernel
theorem dX2_isEdition_56 : decode cX2_isEdition 56 = .ok (.istore_n 1, 1) := by decide +kernel
theorem dX2_isEdition_57 : decode cX2_isEdition 57 = .ok (.iinc 3 1, 3) := by decide +kernel
theorem dX2_isEdition_60 : decode cX2_isEdition 60 = .ok (.goto (-54), 3) := by decide +kernel
theorem dX2_isEdition_63 : decode cX2_isEdition 63 = .ok (.iload_n 1, 1) := by decide +kernel
theorem dX2_isEdition_64 : decode cX2_isEdition 64 = .ok (.ifCond .ne 7, 3) := by decide +kernel
theorem dX2_isEdition_67 : decode cX2_isEdition 67 = .ok (.iconst 1, 1) := by decide +kernel
theorem dX2_isEdition_68 : decode cX2_isEdition 68 = .ok (.goto 4, 3) := by decide +kernel
theorem dX2_isEdition_71 : decode cX2_isEdition 71 = .ok (.iconst 0, 1) := by decide +kernel
theorem dX2_isEdition_72 : decode cX2_isEdition 72 = .ok (.ireturn, 1) := by decide +kernel
theorem dX2_settle_0 : decode cX2_settle 0 = .ok (.aload_n 0, 1) := by decide +kernel
theorem dX2_settle_1 : decode cX2_settle 1 = .ok (.aload_n 1, 1) := by decide +kernel
theorem dX2_settle_2 : decode cX2_settle 2 = .ok (.iconst 1, 1) := by decide +kernel
theorem dX2_settle_3 : decode cX2_settle 3 = .ok (.invokevirtual 247, 3) := by decide +kernel
theorem dX2_settle_6 : decode cX2_settle 6 = .ok (.istore_n 2, 1) := by decide +kernel
theorem dX2_settle_7 : decode cX2_settle 7 = .ok (.aload_n 0, 1) := by decide +kernel
theorem dX2_settle_8 : decode cX2_settle 8 = .ok (.getfield 30, 3) := by decide +kernel
theorem dX2_settle_11 : decode cX2_settle 11 = .ok (.aload_n 1, 1) := by decide +kernel
theorem dX2_settle_12 : decode cX2_settle 12 = .ok (.getfield 103, 3) := by decide +kernel
theorem dX2_settle_15 : decode cX2_settle 15 = .ok (.aload_n 0, 1) := by decide +kernel
theorem dX2_settle_16 : decode cX2_settle 16 = .ok (.getfield 23, 3) := by decide +kernel
theorem dX2_settle_19 : decode cX2_settle 19 = .ok (.iconst 0, 1) := by decide +kernel
theorem dX2_settle_20 : decode cX2_settle 20 = .ok (.iaload, 1) := by decide +kernel
theorem dX2_settle_21 : decode cX2_settle 21 = .ok (.imul, 1) := by decide +kernel
theorem dX2_settle_22 : decode cX2_settle 22 = .ok (.bipush 10, 2) := by decide +kernel
theorem dX2_settle_24 : decode cX2_settle 24 = .ok (.idiv, 1) := by decide +kernel
theorem dX2_settle_25 : decode cX2_settle 25 = .ok (.invokevirtual 250, 3) := by decide +kernel
theorem dX2_settle_28 : decode cX2_settle 28 = .ok (.aload_n 1, 1) := by decide +kernel
theorem dX2_settle_29 : decode cX2_settle 29 = .ok (.iconst 0, 1) := by decide +kernel
theorem dX2_settle_30 : decode cX2_settle 30 = .ok (.putfield 103, 3) := by decide +kernel
theorem dX2_settle_33 : decode cX2_settle 33 = .ok (.sipush 10000, 3) := by decide +kernel
theorem dX2_settle_36 : decode cX2_settle 36 = .ok (.istore_n 3, 1) := by decide +kernel
theorem dX2_settle_37 : decode cX2_settle 37 = .ok (.iload_n 3, 1) := by decide +kernel
theorem dX2_settle_38 : decode cX2_settle 38 = .ok (.ifCond .le 47, 3) := by decide +kernel
theorem dX2_settle_41 : decode cX2_settle 41 = .ok (.aload_n 0, 1) := by decide +kernel
theorem dX2_settle_42 : decode cX2_settle 42 = .ok (.getfield 20, 3) := by decide +kernel
theorem dX2_settle_45 : decode cX2_settle 45 = .ok (.iload_n 3, 1) := by decide +kernel
theorem dX2_settle_46 : decode cX2_settle 46 = .ok (.idiv, 1) := by decide +kernel
theorem dX2_settle_47 : decode cX2_settle 47 = .ok (.bipush 10, 2) := by decide +kernel
theorem dX2_settle_49 : decode cX2_settle 49 = .ok (.irem, 1) := by decide +kernel
theorem dX2_settle_50 : decode cX2_settle 50 = .ok (.istore 4, 2) := by decide +kernel
theorem dX2_settle_52 : decode cX2_settle 52 = .ok (.aload_n 0, 1) := by decide +kernel
theorem dX2_settle_53 : decode cX2_settle 53 = .ok (.iload 4, 2) := by decide +kernel
theorem dX2_settle_55 : decode cX2_settle 55 = .ok (.invokevirtual 253, 3) := by decide +kernel
theorem dX2_settle_58 : decode cX2_settle 58 = .ok (.ifCond .ne 19, 3) := by decide +kernel
theorem dX2_settle_61 : decode cX2_settle 61 = .ok (.aload_n 0, 1) := by decide +kernel
theorem dX2_settle_62 : decode cX2_settle 62 = .ok (.getfield 30, 3) := by decide +kernel
theorem dX2_settle_65 : decode cX2_settle 65 = .ok (.iload 4, 2) := by decide +kernel
theorem dX2_settle_67 : decode cX2_settle 67 = .ok (.aload_n 0, 1) := by decide +kernel
theorem dX2_settle_68 : decode cX2_settle 68 = .ok (.aload_n 1, 1) := by decide +kernel
theorem dX2_settle_69 : decode cX2_settle 69 = .ok (.iload 4, 2) := by decide +kernel
theorem dX2_settle_71 : decode cX2_settle 71 = .ok (.invokevirtual 247, 3) := by decide +kernel
theorem dX2_settle_74 : decode cX2_settle 74 = .ok (.invokevirtual 256, 3) := by decide +kernel
theorem dX2_settle_77 : decode cX2_settle 77 = .ok (.iload_n 3, 1) := by decide +kernel
theorem dX2_settle_78 : decode cX2_settle 78 = .ok (.bipush 10, 2) := by decide +kernel
theorem dX2_settle_80 : decode cX2_settle 80 = .ok (.idiv, 1) := by decide +kernel
theorem dX2_settle_81 : decode cX2_settle 81 = .ok (.istore_n 3, 1) := by decide +kernel
theorem dX2_settle_82 : decode cX2_settle 82 = .ok (.goto (-45), 3) := by decide +kernel
theorem dX2_settle_85 : decode cX2_settle 85 = .ok (.aload_n 1, 1) := by decide +kernel
theorem dX2_settle_86 : decode cX2_settle 86 = .ok (.iload_n 2, 1) := by decide +kernel
theorem dX2_settle_87 : decode cX2_settle 87 = .ok (.aload_n 0, 1) := by decide +kernel
theorem dX2_settle_88 : decode cX2_settle 88 = .ok (.getfield 30, 3) := by decide +kernel
theorem dX2_settle_91 : decode cX2_settle 91 = .ok (.getfield 259, 3) := by decide +kernel
theorem dX2_settle_94 : decode cX2_settle 94 = .ok (.isub, 1) := by decide +kernel
theorem dX2_settle_95 : decode cX2_settle 95 = .ok (.putfield 137, 3) := by decide +kernel
theorem dX2_settle_98 : decode cX2_settle 98 = .ok (.aload_n 1, 1) := by decide +kernel
theorem dX2_settle_99 : decode cX2_settle 99 = .ok (.dup, 1) := by decide +kernel
theorem dX2_settle_100 : decode cX2_settle 100 = .ok (.getfield 167, 3) := by decide +kernel
theorem dX2_settle_103 : decode cX2_settle 103 = .ok (.aload_n 0, 1) := by decide +kernel
theorem dX2_settle_104 : decode cX2_settle 104 = .ok (.getfield 30, 3) := by decide +kernel
theorem dX2_settle_107 : decode cX2_settle 107 = .ok (.getfield 262, 3) := by decide +kernel
theorem dX2_settle_110 : decode cX2_settle 110 = .ok (.isub, 1) := by decide +kernel
theorem dX2_settle_111 : decode cX2_settle 111 = .ok (.putfield 167, 3) := by decide +kernel
theorem dX2_settle_114 : decode cX2_settle 114 = .ok (.aload_n 0, 1) := by decide +kernel
theorem dX2_settle_115 : decode cX2_settle 115 = .ok (.aload_n 1, 1) := by decide +kernel
theorem dX2_settle_116 : decode cX2_settle 116 = .ok (.iconst 1, 1) := by decide +kernel
theorem dX2_settle_117 : decode cX2_settle 117 = .ok (.aload_n 0, 1) := by decide +kernel
theorem dX2_settle_118 : decode cX2_settle 118 = .ok (.getfield 30, 3) := by decide +kernel
theorem dX2_settle_121 : decode cX2_settle 121 = .ok (.getfield 265, 3) := by decide +kernel
theorem dX2_settle_124 : decode cX2_settle 124 = .ok (.invokevirtual 268, 3) := by decide +kernel
theorem dX2_settle_127 : decode cX2_settle 127 = .ok (.aload_n 0, 1) := by decide +kernel
theorem dX2_settle_128 : decode cX2_settle 128 = .ok (.aload_n 1, 1) := by decide +kernel
theorem dX2_settle_129 : decode cX2_settle 129 = .ok (.aload_n 0, 1) := by decide +kernel
theorem dX2_settle_130 : decode cX2_settle 130 = .ok (.getfield 30, 3) := by decide +kernel
theorem dX2_settle_133 : decode cX2_settle 133 = .ok (.getfield 272, 3) := by decide +kernel
theorem dX2_settle_136 : decode cX2_settle 136 = .ok (.invokevirtual 275, 3) := by decide +kernel
theorem dX2_settle_139 : decode cX2_settle 139 = .ok (.aload_n 0, 1) := by decide +kernel
theorem dX2_settle_140 : decode cX2_settle 140 = .ok (.getfield 23, 3) := by decide +kernel
theorem dX2_settle_143 : decode cX2_settle 143 = .ok (.iconst 1, 1) := by decide +kernel
theorem dX2_settle_144 : decode cX2_settle 144 = .ok (.iaload, 1) := by decide +kernel
theorem dX2_settle_145 : decode cX2_settle 145 = .ok (.ifCond .le 23, 3) := by decide +kernel
theorem dX2_settle_148 : decode cX2_settle 148 = .ok (.aload_n 1, 1) := by decide +kernel
theorem dX2_settle_149 : decode cX2_settle 149 = .ok (.getfield 137, 3) := by decide +kernel
theorem dX2_settle_152 : decode cX2_settle 152 = .ok (.iconst 3, 1) := by decide +kernel
theorem dX2_settle_153 : decode cX2_settle 153 = .ok (.aload_n 0, 1) := by decide +kernel
theorem dX2_settle_154 : decode cX2_settle 154 = .ok (.getfield 23, 3) := by decide +kernel
theorem dX2_settle_157 : decode cX2_settle 157 = .ok (.iconst 1, 1) := by decide +kernel
theorem dX2_settle_158 : decode cX2_settle 158 = .ok (.iaload, 1) := by decide +kernel
theorem dX2_settle_159 : decode cX2_settle 159 = .ok (.imul, 1) := by decide +kernel
theorem dX2_settle_160 : decode cX2_settle 160 = .ok (.if_icmp .le 8, 3) := by decide +kernel
theorem dX2_settle_163 : decode cX2_settle 163 = .ok (.aload_n 1, 1) := by decide +kernel
theorem dX2_settle_164 : decode cX2_settle 164 = .ok (.iconst 0, 1) := by decide +kernel
theorem dX2_settle_165 : decode cX2_settle 165 = .ok (.putfield 134, 3) := by decide +kernel
theorem dX2_settle_168 : decode cX2_settle 168 = .ok (.return_, 1) := by decide +kernel
theorem dX2_due_0 : decode cX2_due 0 = .ok (.iload_n 2, 1) := by decide +kernel
theorem dX2_due_1 : decode cX2_due 1 = .ok (.tableswitch 84 1 5 #[35, 58, 65, 72, 79], 35) := by decide +kernel
theorem dX2_due_36 : decode cX2_due 36 = .ok (.aload_n 1, 1) := by decide +kernel
theorem dX2_due_37 : decode cX2_due 37 = .ok (.getfield 137, 3) := by decide +kernel
theorem dX2_due_40 : decode cX2_due 40 = .ok (.aload_n 1, 1) := by decide +kernel
theorem dX2_due_41 : decode cX2_due 41 = .ok (.getfield 134, 3) := by decide +kernel
theorem dX2_due_44 : decode cX2_due 44 = .ok (.ifCond .eq 12, 3) := by decide +kernel
theorem dX2_due_47 : decode cX2_due 47 = .ok (.aload_n 0, 1) := by decide +kernel
theorem dX2_due_48 : decode cX2_due 48 = .ok (.getfield 23, 3) := by decide +kernel
theorem dX2_due_51 : decode cX2_due 51 = .ok (.iconst 1, 1) := by decide +kernel
theorem dX2_due_52 : decode cX2_due 52 = .ok (.iaload, 1) := by decide +kernel
theorem dX2_due_53 : decode cX2_due 53 = .ok (.goto 4, 3) := by decide +kernel
theorem dX2_due_56 : decode cX2_due 56 = .ok (.iconst 0, 1) := by decide +kernel
theorem dX2_due_57 : decode cX2_due 57 = .ok (.iadd, 1) := by decide +kernel
theorem dX2_due_58 : decode cX2_due 58 = .ok (.ireturn, 1) := by decide +kernel
theorem dX2_due_59 : decode cX2_due 59 = .ok (.aload_n 0, 1) := by decide +kernel
theorem dX2_due_60 : decode cX2_due 60 = .ok (.getfield 23, 3) := by decide +kernel
theorem dX2_due_63 : decode cX2_due 63 = .ok (.iconst 2, 1) := by decide +kernel
theorem dX2_due_64 : decode cX2_due 64 = .ok (.iaload, 1) := by decide +kernel
theorem dX2_due_65 : decode cX2_due 65 = .ok (.ireturn, 1) := by decide +kernel
theorem dX2_due_66 : decode cX2_due 66 = .ok (.aload_n 0, 1) := by decide +kernel
theorem dX2_due_67 : decode cX2_due 67 = .ok (.getfield 23, 3) := by decide +kernel
theorem dX2_due_70 : decode cX2_due 70 = .ok (.iconst 3, 1) := by decide +kernel
theorem dX2_due_71 : decode cX2_due 71 = .ok (.iaload, 1) := by decide +kernel
theorem dX2_due_72 : decode cX2_due 72 = .ok (.ireturn, 1) := by decide +kernel
theorem dX2_due_73 : decode cX2_due 73 = .ok (.aload_n 0, 1) := by decide +kernel
theorem dX2_due_74 : decode cX2_due 74 = .ok (.getfield 23, 3) := by decide +kernel
theorem dX2_due_77 : decode cX2_due 77 = .ok (.iconst 4, 1) := by decide +kernel
theorem dX2_due_78 : decode cX2_due 78 = .ok (.iaload, 1) := by decide +kernel
theorem dX2_due_79 : decode cX2_due 79 = .ok (.ireturn, 1) := by decide +kernel
theorem dX2_due_80 : decode cX2_due 80 = .ok (.aload_n 1, 1) := by decide +kernel
theorem dX2_due_81 : decode cX2_due 81 = .ok (.getfield 167, 3) := by decide +kernel
theorem dX2_due_84 : decode cX2_due 84 = .ok (.ireturn, 1) := by decide +kernel
theorem dX2_due_85 : decode cX2_due 85 = .ok (.iconst 0, 1) := by decide +kernel
theorem dX2_due_86 : decode cX2_due 86 = .ok (.ireturn, 1) := by decide +kernel
theorem dX2_isPassedBy_0 : decode cX2_isPassedBy 0 = .ok (.aload_n 0, 1) := by decide +kernel
theorem dX2_isPassedBy_1 : decode cX2_isPassedBy 1 = .ok (.getfield 185, 3) := by decide +kernel
theorem dX2_isPassedBy_4 : decode cX2_isPassedBy 4 = .ok (.ifCond .eq 21, 3) := by decide +kernel
theorem dX2_isPassedBy_7 : decode cX2_isPassedBy 7 = .ok (.aload_n 0, 1) := by decide +kernel
theorem dX2_isPassedBy_8 : decode cX2_isPassedBy 8 = .ok (.getfield 46, 3) := by decide +kernel
theorem dX2_isPassedBy_11 : decode cX2_isPassedBy 11 = .ok (.iconst 1, 1) := by decide +kernel
theorem dX2_isPassedBy_12 : decode cX2_isPassedBy 12 = .ok (.baload, 1) := by decide +kernel
theorem dX2_isPassedBy_13 : decode cX2_isPassedBy 13 = .ok (.ifCond .eq 12, 3) := by decide +kernel
theorem dX2_isPassedBy_16 : decode cX2_isPassedBy 16 = .ok (.iload_n 1, 1) := by decide +kernel
theorem dX2_isPassedBy_17 : decode cX2_isPassedBy 17 = .ok (.iconst 3, 1) := by decide +kernel
theorem dX2_isPassedBy_18 : decode cX2_isPassedBy 18 = .ok (.if_icmp .lt 7, 3) := by decide +kernel
theorem dX2_isPassedBy_21 : decode cX2_isPassedBy 21 = .ok (.iconst 1, 1) := by decide +kernel
theorem dX2_isPassedBy_22 : decode cX2_isPassedBy 22 = .ok (.goto 4, 3) := by decide +kernel
theorem dX2_isPassedBy_25 : decode cX2_isPassedBy 25 = .ok (.iconst 0, 1) := by decide +kernel
theorem dX2_isPassedBy_26 : decode cX2_isPassedBy 26 = .ok (.ireturn, 1) := by decide +kernel
theorem dX2_hand_0 : decode cX2_hand 0 = .ok (.aload_n 1, 1) := by decide +kernel
theorem dX2_hand_1 : decode cX2_hand 1 = .ok (.iload_n 2, 1) := by decide +kernel
theorem dX2_hand_2 : decode cX2_hand 2 = .ok (.putfield 127, 3) := by decide +kernel
theorem dX2_hand_5 : decode cX2_hand 5 = .ok (.aload_n 0, 1) := by decide +kernel
theorem dX2_hand_6 : decode cX2_hand 6 = .ok (.getfield 185, 3) := by decide +kernel
theorem dX2_hand_9 : decode cX2_hand 9 = .ok (.ifCond .eq 23, 3) := by decide +kernel
theorem dX2_hand_12 : decode cX2_hand 12 = .ok (.aload_n 0, 1) := by decide +kernel
theorem dX2_hand_13 : decode cX2_hand 13 = .ok (.getfield 46, 3) := by decide +kernel
theorem dX2_hand_16 : decode cX2_hand 16 = .ok (.iconst 0, 1) := by decide +kernel
theorem dX2_hand_17 : decode cX2_hand 17 = .ok (.baload, 1) := by decide +kernel
theorem dX2_hand_18 : decode cX2_hand 18 = .ok (.ifCond .eq 14, 3) := by decide +kernel
theorem dX2_hand_21 : decode cX2_hand 21 = .ok (.aload_n 1, 1) := by decide +kernel
theorem dX2_hand_22 : decode cX2_hand 22 = .ok (.dup, 1) := by decide +kernel
theorem dX2_hand_23 : decode cX2_hand 23 = .ok (.getfield 158, 3) := by decide +kernel
theorem dX2_hand_26 : decode cX2_hand 26 = .ok (.iload_n 2, 1) := by decide +kernel
theorem dX2_hand_27 : decode cX2_hand 27 = .ok (.iadd, 1) := by decide +kernel
theorem dX2_hand_28 : decode cX2_hand 28 = .ok (.putfield 158, 3) := by decide +kernel
theorem dX2_hand_31 : decode cX2_hand 31 = .ok (.return_, 1) := by decide +kernel
theorem dX2_hand_32 : decode cX2_hand 32 = .ok (.aload_n 1, 1) := by decide +kernel
theorem dX2_hand_33 : decode cX2_hand 33 = .ok (.aload_n 0, 1) := by decide +kernel
theorem dX2_hand_34 : decode cX2_hand 34 = .ok (.getfield 112, 3) := by decide +kernel
theorem dX2_hand_37 : decode cX2_hand 37 = .ok (.iload_n 2, 1) := by decide +kernel
theorem dX2_hand_38 : decode cX2_hand 38 = .ok (.invokevirtual 279, 3) := by decide +kernel
theorem dX2_hand_41 : decode cX2_hand 41 = .ok (.aload_n 0, 1) := by decide +kernel
theorem dX2_hand_42 : decode cX2_hand 42 = .ok (.getfield 50, 3) := by decide +kernel
theorem dX2_hand_45 : decode cX2_hand 45 = .ok (.iconst 0, 1) := by decide +kernel
theorem dX2_hand_46 : decode cX2_hand 46 = .ok (.dup2, 1) := by decide +kernel
theorem dX2_hand_47 : decode cX2_hand 47 = .ok (.iaload, 1) := by decide +kernel
theorem dX2_hand_48 : decode cX2_hand 48 = .ok (.iload_n 2, 1) := by decide +kernel
theorem dX2_hand_49 : decode cX2_hand 49 = .ok (.iadd, 1) := by decide +kernel
theorem dX2_hand_50 : decode cX2_hand 50 = .ok (.iastore, 1) := by decide +kernel
theorem dX2_hand_51 : decode cX2_hand 51 = .ok (.aload_n 0, 1) := by decide +kernel
theorem dX2_hand_52 : decode cX2_hand 52 = .ok (.aload_n 1, 1) := by decide +kernel
theorem dX2_hand_53 : decode cX2_hand 53 = .ok (.iconst 0, 1) := by decide +kernel
theorem dX2_hand_54 : decode cX2_hand 54 = .ok (.iload_n 2, 1) := by decide +kernel
theorem dX2_hand_55 : decode cX2_hand 55 = .ok (.invokevirtual 268, 3) := by decide +kernel
theorem dX2_hand_58 : decode cX2_hand 58 = .ok (.return_, 1) := by decide +kernel
theorem dX2_breach_0 : decode cX2_breach 0 = .ok (.aload_n 0, 1) := by decide +kernel
theorem dX2_breach_1 : decode cX2_breach 1 = .ok (.getfield 185, 3) := by decide +kernel
theorem dX2_breach_4 : decode cX2_breach 4 = .ok (.ifCond .ne 36, 3) := by decide +kernel
theorem dX2_breach_7 : decode cX2_breach 7 = .ok (.aload_n 0, 1) := by decide +kernel
theorem dX2_breach_8 : decode cX2_breach 8 = .ok (.getfield 46, 3) := by decide +kernel
theorem dX2_breach_11 : decode cX2_breach 11 = .ok (.iload_n 2, 1) := by decide +kernel
theorem dX2_breach_12 : decode cX2_breach 12 = .ok (.baload, 1) := by decide +kernel
theorem dX2_breach_13 : decode cX2_breach 13 = .ok (.ifCond .eq 27, 3) := by decide +kernel
theorem dX2_breach_16 : decode cX2_breach 16 = .ok (.iload_n 3, 1) := by decide +kernel
theorem dX2_breach_17 : decode cX2_breach 17 = .ok (.ifCond .le 23, 3) := by decide +kernel
theorem dX2_breach_20 : decode cX2_breach 20 = .ok (.aload_n 0, 1) := by decide +kernel
theorem dX2_breach_21 : decode cX2_breach 21 = .ok (.dup, 1) := by decide +kernel
theorem dX2_breach_22 : decode cX2_breach 22 = .ok (.getfield 188, 3) := by decide +kernel
theorem dX2_breach_25 : decode cX2_breach 25 = .ok (.iconst 1, 1) := by decide +kernel
theorem dX2_breach_26 : decode cX2_breach 26 = .ok (.iadd, 1) := by decide +kernel
theorem dX2_breach_27 : decode cX2_breach 27 = .ok (.putfield 188, 3) := by decide +kernel
theorem dX2_breach_30 : decode cX2_breach 30 = .ok (.aload_n 1, 1) := by decide +kernel
theorem dX2_breach_31 : decode cX2_breach 31 = .ok (.dup, 1) := by decide +kernel
theorem dX2_breach_32 : decode cX2_breach 32 = .ok (.getfield 224, 3) := by decide +kernel
theorem dX2_breach_35 : decode cX2_breach 35 = .ok (.iload_n 3, 1) := by decide +kernel
theorem dX2_breach_36 : decode cX2_breach 36 = .ok (.iadd, 1) := by decide +kernel
theorem dX2_breach_37 : decode cX2_breach 37 = .ok (.putfield 224, 3) := by decide +kernel
theorem dX2_breach_40 : decode cX2_breach 40 = .ok (.return_, 1) := by decide +kernel
theorem dX2_expire_0 : decode cX2_expire 0 = .ok (.iconst 0, 1) := by decide +kernel
theorem dX2_expire_1 : decode cX2_expire 1 = .ok (.istore_n 2, 1) := by decide +kernel
theorem dX2_expire_2 : decode cX2_expire 2 = .ok (.iload_n 2, 1) := by decide +kernel
theorem dX2_expire_3 : decode cX2_expire 3 = .ok (.aload_n 0, 1) := by decide +kernel
theorem dX2_expire_4 : decode cX2_expire 4 = .ok (.getfield 10, 3) := by decide +kernel
theorem dX2_expire_7 : decode cX2_expire 7 = .ok (.invokevirtual 53, 3) := by decide +kernel
theorem dX2_expire_10 : decode cX2_expire 10 = .ok (.if_icmp .ge 41, 3) := by decide +kernel
theorem dX2_expire_13 : decode cX2_expire 13 = .ok (.aload_n 0, 1) := by decide +kernel
theorem dX2_expire_14 : decode cX2_expire 14 = .ok (.getfield 10, 3) := by decide +kernel
theorem dX2_expire_17 : decode cX2_expire 17 = .ok (.iload_n 2, 1) := by decide +kernel
theorem dX2_expire_18 : decode cX2_expire 18 = .ok (.invokevirtual 117, 3) := by decide +kernel
theorem dX2_expire_21 : decode cX2_expire 21 = .ok (.checkcast 64, 3) := by decide +kernel
theorem dX2_expire_24 : decode cX2_expire 24 = .ok (.astore_n 3, 1) := by decide +kernel
theorem dX2_expire_25 : decode cX2_expire 25 = .ok (.aload_n 0, 1) := by decide +kernel
theorem dX2_expire_26 : decode cX2_expire 26 = .ok (.getfield 50, 3) := by decide +kernel
theorem dX2_expire_29 : decode cX2_expire 29 = .ok (.iconst 3, 1) := by decide +kernel
theorem dX2_expire_30 : decode cX2_expire 30 = .ok (.dup2, 1) := by decide +kernel
theorem dX2_expire_31 : decode cX2_expire 31 = .ok (.iaload, 1) := by decide +kernel
theorem dX2_expire_32 : decode cX2_expire 32 = .ok (.aload_n 3, 1) := by decide +kernel
theorem dX2_expire_33 : decode cX2_expire 33 = .ok (.iload_n 1, 1) := by decide +kernel
theorem dX2_expire_34 : decode cX2_expire 34 = .ok (.aload_n 3, 1) := by decide +kernel
theorem dX2_expire_35 : decode cX2_expire 35 = .ok (.getfield 229, 3) := by decide +kernel
theorem dX2_expire_38 : decode cX2_expire 38 = .ok (.iload_n 1, 1) := by decide +kernel
theorem dX2_expire_39 : decode cX2_expire 39 = .ok (.iaload, 1) := by decide +kernel
theorem dX2_expire_40 : decode cX2_expire 40 = .ok (.invokevirtual 282, 3) := by decide +kernel
theorem dX2_expire_43 : decode cX2_expire 43 = .ok (.iadd, 1) := by decide +kernel
theorem dX2_expire_44 : decode cX2_expire 44 = .ok (.iastore, 1) := by decide +kernel
theorem dX2_expire_45 : decode cX2_expire 45 = .ok (.iinc 2 1, 3) := by decide +kernel
theorem dX2_expire_48 : decode cX2_expire 48 = .ok (.goto (-46), 3) := by decide +kernel
theorem dX2_expire_51 : decode cX2_expire 51 = .ok (.return_, 1) := by decide +kernel
theorem dX2_storePrice_0 : decode cX2_storePrice 0 = .ok (.aload_n 0, 1) := by decide +kernel
theorem dX2_storePrice_1 : decode cX2_storePrice 1 = .ok (.getfield 34, 3) := by decide +kernel
theorem dX2_storePrice_4 : decode cX2_storePrice 4 = .ok (.iload_n 2, 1) := by decide +kernel
theorem dX2_storePrice_5 : decode cX2_storePrice 5 = .ok (.iaload, 1) := by decide +kernel
theorem dX2_storePrice_6 : decode cX2_storePrice 6 = .ok (.aload_n 0, 1) := by decide +kernel
theorem dX2_storePrice_7 : decode cX2_storePrice 7 = .ok (.getfield 34, 3) := by decide +kernel
theorem dX2_storePrice_10 : decode cX2_storePrice 10 = .ok (.iload_n 2, 1) := by decide +kernel
theorem dX2_storePrice_11 : decode cX2_storePrice 11 = .ok (.iaload, 1) := by decide +kernel
theorem dX2_storePrice_12 : decode cX2_storePrice 12 = .ok (.aload_n 1, 1) := by decide +kernel
theorem dX2_storePrice_13 : decode cX2_storePrice 13 = .ok (.getfield 167, 3) := by decide +kernel
theorem dX2_storePrice_16 : decode cX2_storePrice 16 = .ok (.imul, 1) := by decide +kernel
theorem dX2_storePrice_17 : decode cX2_storePrice 17 = .ok (.sipush 200, 3) := by decide +kernel
theorem dX2_storePrice_20 : decode cX2_storePrice 20 = .ok (.idiv, 1) := by decide +kernel
theorem dX2_storePrice_21 : decode cX2_storePrice 21 = .ok (.iadd, 1) := by decide +kernel
theorem dX2_storePrice_22 : decode cX2_storePrice 22 = .ok (.ireturn, 1) := by decide +kernel
theorem dX2_refusal_0 : decode cX2_refusal 0 = .ok (.aload_n 0, 1) := by decide +kernel
theorem dX2_refusal_1 : decode cX2_refusal 1 = .ok (.getfield 98, 3) := by decide +kernel
theorem dX2_refusal_4 : decode cX2_refusal 4 = .ok (.ifCond .ne 10, 3) := by decide +kernel
theorem dX2_refusal_7 : decode cX2_refusal 7 = .ok (.aload_n 0, 1) := by decide +kernel
theorem dX2_refusal_8 : decode cX2_refusal 8 = .ok (.getfield 95, 3) := by decide +kernel
theorem dX2_refusal_11 : decode cX2_refusal 11 = .ok (.ifCond .eq 5, 3) := by decide +kernel
theorem dX2_refusal_14 : decode cX2_refusal 14 = .ok (.iconst 1, 1) := by decide +kernel
theorem dX2_refusal_15 : decode cX2_refusal 15 = .ok (.ireturn, 1) := by decide +kernel
theorem dX2_refusal_16 : decode cX2_refusal 16 = .ok (.aload_n 1, 1) := by decide +kernel
theorem dX2_refusal_17 : decode cX2_refusal 17 = .ok (.getfield 121, 3) := by decide +kernel
theorem dX2_refusal_20 : decode cX2_refusal 20 = .ok (.ifCond .ne 5, 3) := by decide +kernel
theorem dX2_refusal_23 : decode cX2_refusal 23 = .ok (.iconst 2, 1) := by decide +kernel
theorem dX2_refusal_24 : decode cX2_refusal 24 = .ok (.ireturn, 1) := by decide +kernel
theorem dX2_refusal_25 : decode cX2_refusal 25 = .ok (.iload_n 2, 1) := by decide +kernel
theorem dX2_refusal_26 : decode cX2_refusal 26 = .ok (.aload_n 1, 1) := by decide +kernel
theorem dX2_refusal_27 : decode cX2_refusal 27 = .ok (.invokevirtual 285, 3) := by decide +kernel
theorem dX2_refusal_30 : decode cX2_refusal 30 = .ok (.isub, 1) := by decide +kernel
theorem dX2_refusal_31 : decode cX2_refusal 31 = .ok (.istore_n 3, 1) := by decide +kernel
theorem dX2_refusal_32 : decode cX2_refusal 32 = .ok (.iload_n 3, 1) := by decide +kernel
theorem dX2_refusal_33 : decode cX2_refusal 33 = .ok (.ifCond .le 20, 3) := by decide +kernel
theorem dX2_refusal_36 : decode cX2_refusal 36 = .ok (.aload_n 1, 1) := by decide +kernel
theorem dX2_refusal_37 : decode cX2_refusal 37 = .ok (.getfield 167, 3) := by decide +kernel
theorem dX2_refusal_40 : decode cX2_refusal 40 = .ok (.iload_n 3, 1) := by decide +kernel
theorem dX2_refusal_41 : decode cX2_refusal 41 = .ok (.iadd, 1) := by decide +kernel
theorem dX2_refusal_42 : decode cX2_refusal 42 = .ok (.aload_n 0, 1) := by decide +kernel
theorem dX2_refusal_43 : decode cX2_refusal 43 = .ok (.getfield 40, 3) := by decide +kernel
theorem dX2_refusal_46 : decode cX2_refusal 46 = .ok (.if_icmp .le 7, 3) := by decide +kernel
theorem dX2_refusal_49 : decode cX2_refusal 49 = .ok (.iconst 3, 1) := by decide +kernel
theorem dX2_refusal_50 : decode cX2_refusal 50 = .ok (.goto 4, 3) := by decide +kernel
theorem dX2_refusal_53 : decode cX2_refusal 53 = .ok (.iconst 0, 1) := by decide +kernel
theorem dX2_refusal_54 : decode cX2_refusal 54 = .ok (.ireturn, 1) := by decide +kernel
theorem dX2_heirOf_0 : decode cX2_heirOf 0 = .ok (.aload_n 1, 1) := by decide +kernel
theorem dX2_heirOf_1 : decode cX2_heirOf 1 = .ok (.getfield 80, 3) := by decide +kernel
theorem dX2_heirOf_4 : decode cX2_heirOf 4 = .ok (.istore_n 2, 1) := by decide +kernel
theorem dX2_heirOf_5 : decode cX2_heirOf 5 = .ok (.iconst 0, 1) := by decide +kernel
theorem dX2_heirOf_6 : decode cX2_heirOf 6 = .ok (.istore_n 3, 1) := by decide +kernel
theorem dX2_heirOf_7 : decode cX2_heirOf 7 = .ok (.iload_n 3, 1) := by decide +kernel
theorem dX2_heirOf_8 : decode cX2_heirOf 8 = .ok (.aload_n 0, 1) := by decide +kernel
theorem dX2_heirOf_9 : decode cX2_heirOf 9 = .ok (.getfield 10, 3) := by decide +kernel
theorem dX2_heirOf_12 : decode cX2_heirOf 12 = .ok (.invokevirtual 53, 3) := by decide +kernel
theorem dX2_heirOf_15 : decode cX2_heirOf 15 = .ok (.if_icmp .ge 37, 3) := by decide +kernel
theorem dX2_heirOf_18 : decode cX2_heirOf 18 = .ok (.iload_n 2, 1) := by decide +kernel
theorem dX2_heirOf_19 : decode cX2_heirOf 19 = .ok (.iconst (-1), 1) := by decide +kernel
theorem dX2_heirOf_20 : decode cX2_heirOf 20 = .ok (.if_icmp .eq 32, 3) := by decide +kernel
theorem dX2_heirOf_23 : decode cX2_heirOf 23 = .ok (.aload_n 0, 1) := by decide +kernel
theorem dX2_heirOf_24 : decode cX2_heirOf 24 = .ok (.iload_n 2, 1) := by decide +kernel
theorem dX2_heirOf_25 : decode cX2_heirOf 25 = .ok (.invokevirtual 71, 3) := by decide +kernel
theorem dX2_heirOf_28 : decode cX2_heirOf 28 = .ok (.astore 4, 2) := by decide +kernel
theorem dX2_heirOf_30 : decode cX2_heirOf 30 = .ok (.aload 4, 2) := by decide +kernel
theorem dX2_heirOf_32 : decode cX2_heirOf 32 = .ok (.getfield 121, 3) := by decide +kernel
theorem dX2_heirOf_35 : decode cX2_heirOf 35 = .ok (.ifCond .eq 5, 3) := by decide +kernel
theorem dX2_heirOf_38 : decode cX2_heirOf 38 = .ok (.iload_n 2, 1) := by decide +kernel
theorem dX2_heirOf_39 : decode cX2_heirOf 39 = .ok (.ireturn, 1) := by decide +kernel
theorem dX2_heirOf_40 : decode cX2_heirOf 40 = .ok (.aload 4, 2) := by decide +kernel
theorem dX2_heirOf_42 : decode cX2_heirOf 42 = .ok (.getfield 80, 3) := by decide +kernel
theorem dX2_heirOf_45 : decode cX2_heirOf 45 = .ok (.istore_n 2, 1) := by decide +kernel
theorem dX2_heirOf_46 : decode cX2_heirOf 46 = .ok (.iinc 3 1, 3) := by decide +kernel
theorem dX2_heirOf_49 : decode cX2_heirOf 49 = .ok (.goto (-42), 3) := by decide +kernel
theorem dX2_heirOf_52 : decode cX2_heirOf 52 = .ok (.iconst (-1), 1) := by decide +kernel
theorem dX2_heirOf_53 : decode cX2_heirOf 53 = .ok (.ireturn, 1) := by decide +kernel
theorem dX2_canStrike_0 : decode cX2_canStrike 0 = .ok (.iconst 0, 1) := by decide +kernel
theorem dX2_canStrike_1 : decode cX2_canStrike 1 = .ok (.istore_n 1, 1) := by decide +kernel
theorem dX2_canStrike_2 : decode cX2_canStrike 2 = .ok (.iconst 0, 1) := by decide +kernel
theorem dX2_canStrike_3 : decode cX2_canStrike 3 = .ok (.istore_n 2, 1) := by decide +kernel
theorem dX2_canStrike_4 : decode cX2_canStrike 4 = .ok (.iload_n 2, 1) := by decide +kernel
theorem dX2_canStrike_5 : decode cX2_canStrike 5 = .ok (.aload_n 0, 1) := by decide +kernel
theorem dX2_canStrike_6 : decode cX2_canStrike 6 = .ok (.getfield 10, 3) := by decide +kernel
theorem dX2_canStrike_9 : decode cX2_canStrike 9 = .ok (.invokevirtual 53, 3) := by decide +kernel
theorem dX2_canStrike_12 : decode cX2_canStrike 12 = .ok (.if_icmp .ge 43, 3) := by decide +kernel
theorem dX2_canStrike_15 : decode cX2_canStrike 15 = .ok (.aload_n 0, 1) := by decide +kernel
theorem dX2_canStrike_16 : decode cX2_canStrike 16 = .ok (.getfield 10, 3) := by decide +kernel
theorem dX2_canStrike_19 : decode cX2_canStrike 19 = .ok (.iload_n 2, 1) := by decide +kernel
theorem dX2_canStrike_20 : decode cX2_canStrike 20 = .ok (.invokevirtual 117, 3) := by decide +kernel
theorem dX2_canStrike_23 : decode cX2_canStrike 23 = .ok (.checkcast 64, 3) := by decide +kernel
theorem dX2_canStrike_26 : decode cX2_canStrike 26 = .ok (.astore_n 3, 1) := by decide +kernel
theorem dX2_canStrike_27 : decode cX2_canStrike 27 = .ok (.aload_n 3, 1) := by decide +kernel
theorem dX2_canStrike_28 : decode cX2_canStrike 28 = .ok (.getfield 121, 3) := by decide +kernel
theorem dX2_canStrike_31 : decode cX2_canStrike 31 = .ok (.ifCond .eq 18, 3) := by decide +kernel
theorem dX2_canStrike_34 : decode cX2_canStrike 34 = .ok (.iload_n 1, 1) := by decide +kernel
theorem dX2_canStrike_35 : decode cX2_canStrike 35 = .ok (.aload_n 3, 1) := by decide +kernel
theorem dX2_canStrike_36 : decode cX2_canStrike 36 = .ok (.getfield 202, 3) := by decide +kernel
theorem dX2_canStrike_39 : decode cX2_canStrike 39 = .ok (.ifCond .eq 7, 3) := by decide +kernel
theorem dX2_canStrike_42 : decode cX2_canStrike 42 = .ok (.iconst 1, 1) := by decide +kernel
theorem dX2_canStrike_43 : decode cX2_canStrike 43 = .ok (.goto 4, 3) := by decide +kernel
theorem dX2_canStrike_46 : decode cX2_canStrike 46 = .ok (.iconst (-1), 1) := by decide +kernel
theorem dX2_canStrike_47 : decode cX2_canStrike 47 = .ok (.iadd, 1) := by decide +kernel
theorem dX2_canStrike_48 : decode cX2_canStrike 48 = .ok (.istore_n 1, 1) := by decide +kernel
theorem dX2_canStrike_49 : decode cX2_canStrike 49 = .ok (.iinc 2 1, 3) := by decide +kernel
theorem dX2_canStrike_52 : decode cX2_canStrike 52 = .ok (.goto (-48), 3) := by decide +kernel
theorem dX2_canStrike_55 : decode cX2_canStrike 55 = .ok (.iload_n 1, 1) := by decide +kernel
theorem dX2_canStrike_56 : decode cX2_canStrike 56 = .ok (.ifCond .le 7, 3) := by decide +kernel
theorem dX2_canStrike_59 : decode cX2_canStrike 59 = .ok (.iconst 1, 1) := by decide +kernel
theorem dX2_canStrike_60 : decode cX2_canStrike 60 = .ok (.goto 4, 3) := by decide +kernel
theorem dX2_canStrike_63 : decode cX2_canStrike 63 = .ok (.iconst 0, 1) := by decide +kernel
theorem dX2_canStrike_64 : decode cX2_canStrike 64 = .ok (.ireturn, 1) := by decide +kernel
theorem dX2_poorestBut_0 : decode cX2_poorestBut 0 = .ok (.iconst (-1), 1) := by decide +kernel
theorem dX2_poorestBut_1 : decode cX2_poorestBut 1 = .ok (.istore_n 2, 1) := by decide +kernel
theorem dX2_poorestBut_2 : decode cX2_poorestBut 2 = .ok (.iconst 0, 1) := by decide +kernel
theorem dX2_poorestBut_3 : decode cX2_poorestBut 3 = .ok (.istore_n 3, 1) := by decide +kernel
theorem dX2_poorestBut_4 : decode cX2_poorestBut 4 = .ok (.iconst 0, 1) := by decide +kernel
theorem dX2_poorestBut_5 : decode cX2_poorestBut 5 = .ok (.istore 4, 2) := by decide +kernel
theorem dX2_poorestBut_7 : decode cX2_poorestBut 7 = .ok (.iload 4, 2) := by decide +kernel
theorem dX2_poorestBut_9 : decode cX2_poorestBut 9 = .ok (.aload_n 0, 1) := by decide +kernel
theorem dX2_poorestBut_10 : decode cX2_poorestBut 10 = .ok (.getfield 10, 3) := by decide +kernel
theorem dX2_poorestBut_13 : decode cX2_poorestBut 13 = .ok (.invokevirtual 53, 3) := by decide +kernel
theorem dX2_poorestBut_16 : decode cX2_poorestBut 16 = .ok (.if_icmp .ge 75, 3) := by decide +kernel
theorem dX2_poorestBut_19 : decode cX2_poorestBut 19 = .ok (.aload_n 0, 1) := by decide +kernel
theorem dX2_poorestBut_20 : decode cX2_poorestBut 20 = .ok (.getfield 10, 3) := by decide +kernel
theorem dX2_poorestBut_23 : decode cX2_poorestBut 23 = .ok (.iload 4, 2) := by decide +kernel
theorem dX2_poorestBut_25 : decode cX2_poorestBut 25 = .ok (.invokevirtual 117, 3) := by decide +kernel
theorem dX2_poorestBut_28 : decode cX2_poorestBut 28 = .ok (.checkcast 64, 3) := by decide +kernel
theorem dX2_poorestBut_31 : decode cX2_poorestBut 31 = .ok (.astore 5, 2) := by decide +kernel
theorem dX2_poorestBut_33 : decode cX2_poorestBut 33 = .ok (.aload 5, 2) := by decide +kernel
theorem dX2_poorestBut_35 : decode cX2_poorestBut 35 = .ok (.getfield 121, 3) := by decide +kernel
theorem dX2_poorestBut_38 : decode cX2_poorestBut 38 = .ok (.ifCond .eq 16, 3) := by decide +kernel
theorem dX2_poorestBut_41 : decode cX2_poorestBut 41 = .ok (.iload_n 1, 1) := by decide +kernel
theorem dX2_poorestBut_42 : decode cX2_poorestBut 42 = .ok (.iload 4, 2) := by decide +kernel
theorem dX2_poorestBut_44 : decode cX2_poorestBut 44 = .ok (.ishr, 1) := by decide +kernel
theorem dX2_poorestBut_45 : decode cX2_poorestBut 45 = .ok (.iconst 1, 1) := by decide +kernel
theorem dX2_poorestBut_46 : decode cX2_poorestBut 46 = .ok (.iand, 1) := by decide +kernel
theorem dX2_poorestBut_47 : decode cX2_poorestBut 47 = .ok (.ifCond .ne 7, 3) := by decide +kernel
theorem dX2_poorestBut_50 : decode cX2_poorestBut 50 = .ok (.iconst 1, 1) := by decide +kernel
theorem dX2_poorestBut_51 : decode cX2_poorestBut 51 = .ok (.goto 4, 3) := by decide +kernel
theorem dX2_poorestBut_54 : decode cX2_poorestBut 54 = .ok (.iconst 0, 1) := by decide +kernel
theorem dX2_poorestBut_55 : decode cX2_poorestBut 55 = .ok (.istore 6, 2) := by decide +kernel
theorem dX2_poorestBut_57 : decode cX2_poorestBut 57 = .ok (.iload 6, 2) := by decide +kernel
theorem dX2_poorestBut_59 : decode cX2_poorestBut 59 = .ok (.ifCond .eq 26, 3) := by decide +kernel
theorem dX2_poorestBut_62 : decode cX2_poorestBut 62 = .ok (.iload_n 2, 1) := by decide +kernel
theorem dX2_poorestBut_63 : decode cX2_poorestBut 63 = .ok (.iconst (-1), 1) := by decide +kernel
theorem dX2_poorestBut_64 : decode cX2_poorestBut 64 = .ok (.if_icmp .eq 12, 3) := by decide +kernel
theorem dX2_poorestBut_67 : decode cX2_poorestBut 67 = .ok (.aload 5, 2) := by decide +kernel
theorem dX2_poorestBut_69 : decode cX2_poorestBut 69 = .ok (.invokevirtual 285, 3) := by decide +kernel
theorem dX2_poorestBut_72 : decode cX2_poorestBut 72 = .ok (.iload_n 3, 1) := by decide +kernel
theorem dX2_poorestBut_73 : decode cX2_poorestBut 73 = .ok (.if_icmp .ge 12, 3) := by decide +kernel
theorem dX2_poorestBut_76 : decode cX2_poorestBut 76 = .ok (.iload 4, 2) := by decide +kernel
theorem dX2_poorestBut_78 : decode cX2_poorestBut 78 = .ok (.istore_n 2, 1) := by decide +kernel
theorem dX2_poorestBut_79 : decode cX2_poorestBut 79 = .ok (.aload 5, 2) := by decide +kernel
theorem dX2_poorestBut_81 : decode cX2_poorestBut 81 = .ok (.invokevirtual 285, 3) := by decide +kernel
theorem dX2_poorestBut_84 : decode cX2_poorestBut 84 = .ok (.istore_n 3, 1) := by decide +kernel
theorem dX2_poorestBut_85 : decode cX2_poorestBut 85 = .ok (.iinc 4 1, 3) := by decide +kernel
theorem dX2_poorestBut_88 : decode cX2_poorestBut 88 = .ok (.goto (-81), 3) := by decide +kernel
theorem dX2_poorestBut_91 : decode cX2_poorestBut 91 = .ok (.iload_n 2, 1) := by decide +kernel
theorem dX2_poorestBut_92 : decode cX2_poorestBut 92 = .ok (.ireturn, 1) := by decide +kernel
theorem dX2_redeem_0 : decode cX2_redeem 0 = .ok (.iconst 0, 1) := by decide +kernel
theorem dX2_redeem_1 : decode cX2_redeem 1 = .ok (.istore_n 3, 1) := by decide +kernel
theorem dX2_redeem_2 : decode cX2_redeem 2 = .ok (.iconst 0, 1) := by decide +kernel
theorem dX2_redeem_3 : decode cX2_redeem 3 = .ok (.istore 4, 2) := by decide +kernel
theorem dX2_redeem_5 : decode cX2_redeem 5 = .ok (.iload 4, 2) := by decide +kernel
theorem dX2_redeem_7 : decode cX2_redeem 7 = .ok (.aload_n 0, 1) := by decide +kernel
theorem dX2_redeem_8 : decode cX2_redeem 8 = .ok (.getfield 10, 3) := by decide +kernel
theorem dX2_redeem_11 : decode cX2_redeem 11 = .ok (.invokevirtual 53, 3) := by decide +kernel
theorem dX2_redeem_14 : decode cX2_redeem 14 = .ok (.if_icmp .ge 29, 3) := by decide +kernel
theorem dX2_redeem_17 : decode cX2_redeem 17 = .ok (.iload_n 3, 1) := by decide +kernel
theorem dX2_redeem_18 : decode cX2_redeem 18 = .ok (.aload_n 0, 1) := by decide +kernel
theorem dX2_redeem_19 : decode cX2_redeem 19 = .ok (.getfield 10, 3) := by decide +kernel
theorem dX2_redeem_22 : decode cX2_redeem 22 = .ok (.iload 4, 2) := by decide +kernel
theorem dX2_redeem_24 : decode cX2_redeem 24 = .ok (.invokevirtual 117, 3) := by decide +kernel
theorem dX2_redeem_27 : decode cX2_redeem 27 = .ok (.checkcast 64, 3) := by decide +kernel
theorem dX2_redeem_30 : decode cX2_redeem 30 = .ok (.getfield 229, 3) := by decide +kernel
theorem dX2_redeem_33 : decode cX2_redeem 33 = .ok (.iload_n 1, 1) := by decide +kernel
theorem dX2_redeem_34 : decode cX2_redeem 34 = .ok (.iaload, 1) := by decide +kernel
theorem dX2_redeem_35 : decode cX2_redeem 35 = .ok (.iadd, 1) := by decide +kernel
theorem dX2_redeem_36 : decode cX2_redeem 36 = .ok (.istore_n 3, 1) := by decide +kernel
theorem dX2_redeem_37 : decode cX2_redeem 37 = .ok (.iinc 4 1, 3) := by decide +kernel
theorem dX2_redeem_40 : decode cX2_redeem 40 = .ok (.goto (-35), 3) := by decide +kernel
theorem dX2_redeem_43 : decode cX2_redeem 43 = .ok (.iload_n 3, 1) := by decide +kernel
theorem dX2_redeem_44 : decode cX2_redeem 44 = .ok (.ifCond .gt 5, 3) := by decide +kernel
theorem dX2_redeem_47 : decode cX2_redeem 47 = .ok (.iconst 0, 1) := by decide +kernel
theorem dX2_redeem_48 : decode cX2_redeem 48 = .ok (.ireturn, 1) := by decide +kernel
theorem dX2_redeem_49 : decode cX2_redeem 49 = .ok (.iconst 0, 1) := by decide +kernel
theorem dX2_redeem_50 : decode cX2_redeem 50 = .ok (.istore 4, 2) := by decide +kernel
theorem dX2_redeem_52 : decode cX2_redeem 52 = .ok (.iconst 0, 1) := by decide +kernel
theorem dX2_redeem_53 : decode cX2_redeem 53 = .ok (.istore 5, 2) := by decide +kernel
theorem dX2_redeem_55 : decode cX2_redeem 55 = .ok (.iload 5, 2) := by decide +kernel
theorem dX2_redeem_57 : decode cX2_redeem 57 = .ok (.aload_n 0, 1) := by decide +kernel
theorem dX2_redeem_58 : decode cX2_redeem 58 = .ok (.getfield 10, 3) := by decide +kernel
theorem dX2_redeem_61 : decode cX2_redeem 61 = .ok (.invokevirtual 53, 3) := by decide +kernel
theorem dX2_redeem_64 : decode cX2_redeem 64 = .ok (.if_icmp .ge 79, 3) := by decide +kernel
theorem dX2_redeem_67 : decode cX2_redeem 67 = .ok (.aload_n 0, 1) := by decide +kernel
theorem dX2_redeem_68 : decode cX2_redeem 68 = .ok (.getfield 10, 3) := by decide +kernel
theorem dX2_redeem_71 : decode cX2_redeem 71 = .ok (.iload 5, 2) := by decide +kernel
theorem dX2_redeem_73 : decode cX2_redeem 73 = .ok (.invokevirtual 117, 3) := by decide +kernel
theorem dX2_redeem_76 : decode cX2_redeem 76 = .ok (.checkcast 64, 3) := by decide +kernel
theorem dX2_redeem_79 : decode cX2_redeem 79 = .ok (.astore 6, 2) := by decide +kernel
theorem dX2_redeem_81 : decode cX2_redeem 81 = .ok (.aload 6, 2) := by decide +kernel
theorem dX2_redeem_83 : decode cX2_redeem 83 = .ok (.iload_n 1, 1) := by decide +kernel
theorem dX2_redeem_84 : decode cX2_redeem 84 = .ok (.aload 6, 2) := by decide +kernel
theorem dX2_redeem_86 : decode cX2_redeem 86 = .ok (.getfield 229, 3) := by decide +kernel
theorem dX2_redeem_89 : decode cX2_redeem 89 = .ok (.iload_n 1, 1) := by decide +kernel
theorem dX2_redeem_90 : decode cX2_redeem 90 = .ok (.iaload, 1) := by decide +kernel
theorem dX2_redeem_91 : decode cX2_redeem 91 = .ok (.invokevirtual 282, 3) := by decide +kernel
theorem dX2_redeem_94 : decode cX2_redeem 94 = .ok (.istore 7, 2) := by decide +kernel
theorem dX2_redeem_96 : decode cX2_redeem 96 = .ok (.iload_n 2, 1) := by decide +kernel
theorem dX2_redeem_97 : decode cX2_redeem 97 = .ok (.iload_n 3, 1) := by decide +kernel
theorem dX2_redeem_98 : decode cX2_redeem 98 = .ok (.if_icmp .lt 8, 3) := by decide +kernel
theorem dX2_redeem_101 : decode cX2_redeem 101 = .ok (.iload 7, 2) := by decide +kernel
theorem dX2_redeem_103 : decode cX2_redeem 103 = .ok (.goto 13, 3) := by decide +kernel
theorem dX2_redeem_106 : decode cX2_redeem 106 = .ok (.iload 7, 2) := by decide +kernel
theorem dX2_redeem_108 : decode cX2_redeem 108 = .ok (.i2l, 1) := by decide +kernel
theorem dX2_redeem_109 : decode cX2_redeem 109 = .ok (.iload_n 2, 1) := by decide +kernel
theorem dX2_redeem_110 : decode cX2_redeem 110 = .ok (.i2l, 1) := by decide +kernel
theorem dX2_redeem_111 : decode cX2_redeem 111 = .ok (.lmul, 1) := by decide +kernel
theorem dX2_redeem_112 : decode cX2_redeem 112 = .ok (.iload_n 3, 1) := by decide +kernel
theorem dX2_redeem_113 : decode cX2_redeem 113 = .ok (.i2l, 1) := by decide +kernel
theorem dX2_redeem_114 : decode cX2_redeem 114 = .ok (.ldiv, 1) := by decide +kernel
theorem dX2_redeem_115 : decode cX2_redeem 115 = .ok (.l2i, 1) := by decide +kernel
theorem dX2_redeem_116 : decode cX2_redeem 116 = .ok (.istore 8, 2) := by decide +kernel
theorem dX2_redeem_118 : decode cX2_redeem 118 = .ok (.aload 6, 2) := by decide +kernel
theorem dX2_redeem_120 : decode cX2_redeem 120 = .ok (.dup, 1) := by decide +kernel
theorem dX2_redeem_121 : decode cX2_redeem 121 = .ok (.getfield 158, 3) := by decide +kernel
theorem dX2_redeem_124 : decode cX2_redeem 124 = .ok (.iload 8, 2) := by decide +kernel
theorem dX2_redeem_126 : decode cX2_redeem 126 = .ok (.iadd, 1) := by decide +kernel
theorem dX2_redeem_127 : decode cX2_redeem 127 = .ok (.putfield 158, 3) := by decide +kernel
theorem dX2_redeem_130 : decode cX2_redeem 130 = .ok (.iload 4, 2) := by decide +kernel
theorem dX2_redeem_132 : decode cX2_redeem 132 = .ok (.iload 8, 2) := by decide +kernel
theorem dX2_redeem_134 : decode cX2_redeem 134 = .ok (.iadd, 1) := by decide +kernel
theorem dX2_redeem_135 : decode cX2_redeem 135 = .ok (.istore 4, 2) := by decide +kernel
theorem dX2_redeem_137 : decode cX2_redeem 137 = .ok (.iinc 5 1, 3) := by decide +kernel
theorem dX2_redeem_140 : decode cX2_redeem 140 = .ok (.goto (-85), 3) := by decide +kernel
theorem dX2_redeem_143 : decode cX2_redeem 143 = .ok (.aload_n 0, 1) := by decide +kernel
theorem dX2_redeem_144 : decode cX2_redeem 144 = .ok (.getfield 50, 3) := by decide +kernel
theorem dX2_redeem_147 : decode cX2_redeem 147 = .ok (.iconst 5, 1) := by decide +kernel
theorem dX2_redeem_148 : decode cX2_redeem 148 = .ok (.dup2, 1) := by decide +kernel
theorem dX2_redeem_149 : decode cX2_redeem 149 = .ok (.iaload, 1) := by decide +kernel
theorem dX2_redeem_150 : decode cX2_redeem 150 = .ok (.iload_n 3, 1) := by decide +kernel
theorem dX2_redeem_151 : decode cX2_redeem 151 = .ok (.iadd, 1) := by decide +kernel
theorem dX2_redeem_152 : decode cX2_redeem 152 = .ok (.iastore, 1) := by decide +kernel
theorem dX2_redeem_153 : decode cX2_redeem 153 = .ok (.iload 4, 2) := by decide +kernel
theorem dX2_redeem_155 : decode cX2_redeem 155 = .ok (.ireturn, 1) := by decide +kernel
end
section
/-! Rows for places that are known. -/
section RowsN
variable {l : Launch} {R : Room} {cc : ByteArray} {own : String} {ret : Option FieldType} {mc ms : Nat} {tb : List ExceptionTableEntry} {post : Option Value → St → Prop} {exc : String → St → Prop} {Ξ : CT}
variable {n : Nat} {ρ : Nat → Nat} {J : Nat → Int64} {M : Mem} {a b pc : Nat} {ls : List (Nat × Value)} {st : List Value}
theorem in_of {x : Int32} {j N : Nat} (hx : x = nI j) (hj : j < N) (hN : N < 2 ^ 31) : vp_in x N ∧ x.toNatClampNeg = j := by
  subst hx
  exact ⟨vp_in_nI hj hN, nI_clamp (by omega)⟩
theorem e_ialdN (j : Nat) {i N : Nat} {x : Int32} (C : Cx l R cc own ret mc ms tb post exc Ξ) (hi : Ok n i) (hcell : ∀ cA : Nat → ClassId, cellOf cA n ρ J i (M i) = .inl (cA 0, N, .inl (M i))) (hx : x = nI j) (hj : j < N) (hN : N < 2 ^ 31) (d : decode cc pc = .ok (.iaload, 1)) (kk : E Ξ n ρ J M a b (pc + 1) ls (.int (M i j) :: st)) : E Ξ n ρ J M a b pc ls (.int x :: .ref (ρ i) :: st) := by
  obtain ⟨h1, h2⟩ := in_of hx hj hN
  exact e_iald C hi hcell h1 d (by rw [h2]; exact kk)
theorem e_zaldN (j : Nat) {i N : Nat} {x : Int32} (C : Cx l R cc own ret mc ms tb post exc Ξ) (hi : Ok n i) (hcell : ∀ cA : Nat → ClassId, cellOf cA n ρ J i (M i) = .inl (cA 1, N, .inl (M i))) (hx : x = nI j) (hj : j < N) (hN : N < 2 ^ 31) (d : decode cc pc = .ok (.baload, 1)) (kk : E Ξ n ρ J M a b (pc + 1) ls (.int (M i j) :: st)) : E Ξ n ρ J M a b pc ls (.int x :: .ref (ρ i) :: st) := by
  obtain ⟨h1, h2⟩ := in_of hx hj hN
  exact e_zald C hi hcell h1 d (by rw [h2]; exact kk)
theorem e_iastN (j : Nat) {i N : Nat} {x v : Int32} (C : Cx l R cc own ret mc ms tb post exc Ξ) (hi : Ok n i) (hcell : ∀ (cA : Nat → ClassId) (f : Nat → Int32), cellOf cA n ρ J i f = .inl (cA 0, N, .inl f)) (hx : x = nI j) (hj : j < N) (hN : N < 2 ^ 31) (d : decode cc pc = .ok (.iastore, 1)) (kk : E Ξ n ρ J (up M i j v) a b (pc + 1) ls st) : E Ξ n ρ J M a b pc ls (.int v :: .int x :: .ref (ρ i) :: st) := by
  obtain ⟨h1, h2⟩ := in_of hx hj hN
  exact e_iast C hi hcell h1 d (by rw [h2]; exact kk)
theorem e_zastN (j : Nat) {i N : Nat} {x v : Int32} (C : Cx l R cc own ret mc ms tb post exc Ξ) (hi : Ok n i) (hcell : ∀ (cA : Nat → ClassId) (f : Nat → Int32), cellOf cA n ρ J i f = .inl (cA 1, N, .inl f)) (hx : x = nI j) (hj : j < N) (hN : N < 2 ^ 31) (hv : vp_nar .boolean v = v) (d : decode cc pc = .ok (.bastore, 1)) (kk : E Ξ n ρ J (up M i j v) a b (pc + 1) ls st) : E Ξ n ρ J M a b pc ls (.int v :: .int x :: .ref (ρ i) :: st) := by
  obtain ⟨h1, h2⟩ := in_of hx hj hN
  exact e_zast C hi hcell h1 hv d (by rw [h2]; exact kk)
/-- an index of a row: too low, too high, or a place -/
theorem idx3 (x : Int32) {n : Nat} (hn : n < 2 ^ 31) : (x < 0 ∨ nI n ≤ x) ∨ ∃ j : Nat, j < n ∧ x = nI j := by
  rcases pk_ix x hn with h | h | h
  · exact Or.inl (Or.inl h)
  · exact Or.inl (Or.inr h)
  · exact Or.inr h
theorem rng_ok {v lo hi : Int32} (h : ¬ (v < lo ∨ hi < v)) : ¬ v < lo ∧ v ≤ hi := ⟨fun q => h (Or.inl q), Int32.not_lt.mp (fun q => h (Or.inr q))⟩
theorem isB.fit {x : Int32} (h : isB x) : fits .boolean (.int x) = true := by rcases h with rfl | rfl <;> rfl
end RowsN
end
section
/-! The miner's own methods, and the slip's. -/
def sm (f : Nat → Int32) : Nat → Int32
  | 0 => 0
  | n + 1 => sm f n + f n
section Subs
variable {Ξ : CT} {n : Nat} {ρ : Nat → Nat} {J : Nat → Int64} {M : Mem} {a b pc : Nat} {ls ls2 : List (Nat × Value)} {st : List Value}
theorem e_sub (ks : List Nat) (h : lv_pick ls ks = ls2) (kk : E Ξ n ρ J M a b pc ls2 st) : E Ξ n ρ J M a b pc ls st := fun H locs lsA hP hD hS hl => kk H locs lsA hP hD hS (lv_sub hl ks h)
end Subs
set_option maxRecDepth 100000 in
set_option maxHeartbeats 4000000 in
/-- all scrip -/
theorem c_X0_allScrip {l : Launch} (hl : l.stackTraces = false) {n : Nat} {ρ : Nat → Nat} {J : Nat → Int64} {M : Mem} {k : Nat} (hk : k < n) : CtO l yX0_allScrip cX0_allScrip 3 (some .int) 0 0 0 n ρ J M [.ref (ρ (mO k))] (.inr (some (.int (sm (M (mS k)) 40))), M) := by
  refine CtO.of hl (by decide +kernel) (Nat.le_of_ble_eq_true rfl) (fun Ξ hnL C => ?_)
  show E Ξ n ρ J M 0 0 0 [(0, .ref (ρ (mO k)))] []
  have loop : ∀ (fuel j : Nat), j ≤ 40 → 41 ≤ j + fuel → E Ξ n ρ J M 0 0 4 [(2, .int (nI j)), (1, .int (sm (M (mS k)) j)), (0, .ref (ρ (mO k)))] [] := by
    intro fuel
    induction fuel with
    | zero => intro j h1 h2; omega
    | succ fuel ih =>
      intro j h1 h2
      rcases Nat.lt_or_ge j 40 with hj | hj
      · refine e_iload_n (j := 0) C dX0_allScrip_4 rfl rfl ?_
        refine e_aload_n (j := 2) C dX0_allScrip_5 rfl rfl ?_
        refine e_get0 (k := 11) (kk0 := k) (ref := "ScripHollow$Miner") C hk (by decide) rfl rfl mw_78 dX0_allScrip_6 ?_
        refine e_ilen (v := 40) C (cnt_S hk) (fun cA => cell_S cA n ρ J k _) (by decide) dX0_allScrip_9 ?_
        refine e_icmp_ge (tgt := 28) C dX0_allScrip_10 (by decide) (fun c_10 => absurd c_10 (nI_ge (a := j) (b := 40) hj (by omega))) (fun c_10 => ?_)
        refine e_iload_n (j := 1) C dX0_allScrip_13 rfl rfl ?_
        refine e_aload_n (j := 2) C dX0_allScrip_14 rfl rfl ?_
        refine e_get0 (k := 11) (kk0 := k) (ref := "ScripHollow$Miner") C hk (by decide) rfl rfl mw_78 dX0_allScrip_15 ?_
        refine e_iload_n (j := 0) C dX0_allScrip_18 rfl rfl ?_
        refine e_iald C (cnt_S hk) (fun cA => cell_S cA n ρ J k _) (vp_in_nI (by omega) (by omega)) dX0_allScrip_19 ?_
        refine e_iadd C dX0_allScrip_20 ?_
        refine e_topi (fun x1_21 ex1_21 => ?_)
        refine e_istore_n (ls2 := [(1, .int x1_21), (2, .int (nI j)), (0, .ref (ρ (mO k)))]) C hnL dX0_allScrip_21 rfl (by decide) rfl ?_
        obtain ⟨x2_22, ex2_22⟩ : ∃ z : Int32, z = (nI j) + 1 := ⟨_, rfl⟩
        refine e_iinc (j := 1) (v := x2_22) (ls2 := [(2, .int x2_22), (1, .int x1_21), (0, .ref (ρ (mO k)))]) C hnL dX0_allScrip_22 rfl (by rw [ex2_22]; rfl) (by decide) rfl ?_
        refine e_goto (tgt := 4) C dX0_allScrip_25 (by decide) ?_
        rw [nI_clamp (by omega)] at ex1_21
        rw [nI_1] at ex2_22
        subst ex1_21 ex2_22
        exact e_sub [0, 1, 2] rfl (ih (j + 1) (by omega) (by omega))
      · have hj2 : j = 40 := by omega
        refine e_iload_n (j := 0) C dX0_allScrip_4 rfl rfl ?_
        refine e_aload_n (j := 2) C dX0_allScrip_5 rfl rfl ?_
        refine e_get0 (k := 11) (kk0 := k) (ref := "ScripHollow$Miner") C hk (by decide) rfl rfl mw_78 dX0_allScrip_6 ?_
        refine e_ilen (v := 40) C (cnt_S hk) (fun cA => cell_S cA n ρ J k _) (by decide) dX0_allScrip_9 ?_
        refine e_icmp_ge (tgt := 28) C dX0_allScrip_10 (by decide) (fun c_10 => ?_) (fun c_10 => absurd (nI_le (a := 40) (b := j) hj (by omega)) c_10)
        refine e_iload_n (j := 1) C dX0_allScrip_28 rfl rfl ?_
        exact e_iret C rfl (Nat.le_of_ble_eq_true rfl) (Nat.le_of_ble_eq_true rfl) dX0_allScrip_29 (pO.mk (by rw [hj2]))
  refine e_iconst (v := 0) C dX0_allScrip_0 (by decide) ?_
  refine e_istore_n (ls2 := [(1, .int 0), (0, .ref (ρ (mO k)))]) C hnL dX0_allScrip_1 rfl (by decide) rfl ?_
  refine e_iconst (v := 0) C dX0_allScrip_2 (by decide) ?_
  refine e_istore_n (ls2 := [(2, .int 0), (1, .int 0), (0, .ref (ρ (mO k)))]) C hnL dX0_allScrip_3 rfl (by decide) rfl ?_
  exact e_sub [0, 1, 2] rfl (loop 41 0 (by omega) (by omega))
set_option maxRecDepth 100000 in
set_option maxHeartbeats 4000000 in
theorem c_X0_means {l : Launch} (hl : l.stackTraces = false) {n : Nat} {ρ : Nat → Nat} {J : Nat → Int64} {M : Mem} {k : Nat} (hk : k < n) : CtO l yX0_means cX0_means 1 (some .int) 1 0 0 n ρ J M [.ref (ρ (mO k))] (.inr (some (.int (M (mO k) 5 + sm (M (mS k)) 40))), M) := by
  refine CtO.of hl (by decide +kernel) (Nat.le_of_ble_eq_true rfl) (fun Ξ hnL C => ?_)
  show E Ξ n ρ J M 0 0 0 [(0, .ref (ρ (mO k)))] []
  refine e_aload_n (j := 0) C dX0_means_0 rfl rfl ?_
  refine e_get0 (k := 5) (kk0 := k) (ref := "ScripHollow$Miner") C hk (by decide) rfl rfl mw_293 dX0_means_1 ?_
  refine e_aload_n (j := 0) C dX0_means_4 rfl rfl ?_
  refine e_cV (i := (mO k)) (nA := 0) (Cn := RX0) C (c_X0_allScrip hl hk) rfl (cnt_O hk) (fun cA => cell_O cA n ρ J k _) rfl rfl mw_297 mw_294 mw_295 mw_296 mw_65 (by decide +kernel) (by decide) rfl rfl (Nat.le_of_ble_eq_true rfl) dX0_means_5 (Nat.le_of_ble_eq_true rfl) (Nat.le_of_ble_eq_true rfl) ?_
  refine e_iadd C dX0_means_8 ?_
  exact e_iret C rfl (Nat.le_of_ble_eq_true rfl) (Nat.le_of_ble_eq_true rfl) dX0_means_9 (pO.mk rfl)
set_option maxRecDepth 100000 in
set_option maxHeartbeats 4000000 in
theorem c_X0_gainScrip {l : Launch} (hl : l.stackTraces = false) {n : Nat} {ρ : Nat → Nat} {J : Nat → Int64} {M : Mem} {k : Nat} (hk : k < n) {i : Nat} (hi : i < 40) {v : Int32} : CtO l yX0_gainScrip cX0_gainScrip 3 none 0 0 0 n ρ J M [.ref (ρ (mO k)), .int (nI i), .int v] (.inr none, up (up M (mS k) i (M (mS k) i + v)) (mO k) 12 (M (mO k) 12 + v)) := by
  refine CtO.of hl (by decide +kernel) (Nat.le_of_ble_eq_true rfl) (fun Ξ hnL C => ?_)
  show E Ξ n ρ J M 0 0 0 [(0, .ref (ρ (mO k))), (1, .int (nI i)), (2, .int v)] []
  have hin : vp_in (nI i) 40 := vp_in_nI (by omega) (by omega)
  have hcl : (nI i).toNatClampNeg = i := nI_clamp (by omega)
  refine e_aload_n (j := 0) C dX0_gainScrip_0 rfl rfl ?_
  refine e_get0 (k := 11) (kk0 := k) (ref := "ScripHollow$Miner") C hk (by decide) rfl rfl mw_78 dX0_gainScrip_1 ?_
  refine e_iload_n (j := 1) C dX0_gainScrip_4 rfl rfl ?_
  refine e_dup2 C dX0_gainScrip_5 rfl rfl ?_
  refine e_iald C (cnt_S hk) (fun cA => cell_S cA n ρ J k _) hin dX0_gainScrip_6 ?_
  refine e_iload_n (j := 2) C dX0_gainScrip_7 rfl rfl ?_
  refine e_iadd C dX0_gainScrip_8 ?_
  refine e_iast C (cnt_S hk) (fun cA f => cell_S cA n ρ J k f) hin dX0_gainScrip_9 ?_
  refine e_aload_n (j := 0) C dX0_gainScrip_10 rfl rfl ?_
  refine e_dup C dX0_gainScrip_11 rfl ?_
  refine e_get0 (k := 12) (kk0 := k) (ref := "ScripHollow$Miner") C hk (by decide) rfl rfl mw_245 dX0_gainScrip_12 ?_
  refine e_iload_n (j := 2) C dX0_gainScrip_15 rfl rfl ?_
  refine e_iadd C dX0_gainScrip_16 ?_
  refine e_put0 (k := 12) (kk0 := k) (ref := "ScripHollow$Miner") (ty := .int) C hk (by decide) rfl rfl (by decide +kernel) rfl rfl rfl mw_245 dX0_gainScrip_17 ?_
  exact e_vret C rfl (Nat.le_of_ble_eq_true rfl) (Nat.le_of_ble_eq_true rfl) dX0_gainScrip_20 (pO.mk (by rw [hcl]; simp only [up, up1]; rw [if_neg (show ¬ mO k = mS k by unfold mO mS; omega)]))
def mn (x y : Int32) : Int32 := if y < x then y else x
def gain (M : Mem) (k i : Nat) (v : Int32) : Mem := up (up M (mS k) i (M (mS k) i + v)) (mO k) 12 (M (mO k) 12 + v)
def lose (M : Mem) (k i : Nat) (w : Int32) : Mem := up (up M (mS k) i (M (mS k) i - mn (M (mS k) i) w)) (mO k) 13 (M (mO k) 13 + mn (M (mS k) i) w)
def llow (M : Mem) (k : Nat) (w : Int32) : Nat → Mem × Int32
  | 0 => (M, 0)
  | i + 1 => (lose (llow M k w i).1 k i (w - (llow M k w i).2), (llow M k w i).2 + mn ((llow M k w i).1 (mS k) i) (w - (llow M k w i).2))
def inhS (M : Mem) (k q : Nat) : Nat → Mem
  | 0 => M
  | i + 1 => gain (inhS M k q i) k i (inhS M k q i (mS q) i)
def inhG (M : Mem) (k q : Nat) : Nat → Mem
  | 0 => M
  | i + 1 => up (inhG M k q i) (mG k) i (inhG M k q i (mG k) i + inhG M k q i (mG q) i)
def zG (M : Mem) (k : Nat) : Nat → Mem
  | 0 => M
  | i + 1 => up (zG M k i) (mG k) i 0
theorem up_ne {M : Mem} {i j k : Nat} {v : Int32} (h : j ≠ i) : up M i k v j = M j := by
  unfold up up1
  rw [if_neg h]
theorem up_eq {M : Mem} {i k : Nat} {v : Int32} : up M i k v i = upd (M i) k v := by
  unfold up up1
  rw [if_pos rfl]
theorem ne_OS {k q : Nat} : mO k ≠ mS q := by unfold mO mS; omega
theorem ne_OG {k q : Nat} : mO k ≠ mG q := by unfold mO mG; omega
theorem ne_SG {k q : Nat} : mS k ≠ mG q := by unfold mG mS; omega
set_option maxRecDepth 100000 in
set_option maxHeartbeats 4000000 in
theorem c_X0_loseScrip {l : Launch} (hl : l.stackTraces = false) {n : Nat} {ρ : Nat → Nat} {J : Nat → Int64} {M : Mem} {k : Nat} (hk : k < n) {i : Nat} (hi : i < 40) {v : Int32} : CtO l yX0_loseScrip cX0_loseScrip 4 (some .int) 1 0 0 n ρ J M [.ref (ρ (mO k)), .int (nI i), .int v] (.inr (some (.int (mn (M (mS k) i) v))), lose M k i v) := by
  refine CtO.of hl (by decide +kernel) (Nat.le_of_ble_eq_true rfl) (fun Ξ hnL C => ?_)
  show E Ξ n ρ J M 0 0 0 [(0, .ref (ρ (mO k))), (1, .int (nI i)), (2, .int v)] []
  have hin : vp_in (nI i) 40 := vp_in_nI (by omega) (by omega)
  have hcl : (nI i).toNatClampNeg = i := nI_clamp (by omega)
  refine e_aload_n (j := 0) C dX0_loseScrip_0 rfl rfl ?_
  refine e_get0 (k := 11) (kk0 := k) (ref := "ScripHollow$Miner") C hk (by decide) rfl rfl mw_78 dX0_loseScrip_1 ?_
  refine e_iload_n (j := 1) C dX0_loseScrip_4 rfl rfl ?_
  refine e_iald C (cnt_S hk) (fun cA => cell_S cA n ρ J k _) hin dX0_loseScrip_5 ?_
  refine e_iload_n (j := 2) C dX0_loseScrip_6 rfl rfl ?_
  refine e_min C hnL mw_255 mw_125 mw_99 mw_126 (Nat.le_of_ble_eq_true rfl) (Nat.le_of_ble_eq_true rfl) (Nat.le_of_ble_eq_true rfl) (Nat.le_of_ble_eq_true rfl) dX0_loseScrip_7 ?_
  refine e_topi (fun x3_10 ex3_10 => ?_)
  refine e_istore_n (ls2 := [(3, .int x3_10), (0, .ref (ρ (mO k))), (1, .int (nI i)), (2, .int v)]) C hnL dX0_loseScrip_10 rfl (by decide) rfl ?_
  rw [hcl] at ex3_10
  have ex3_10 : x3_10 = mn (M (mS k) i) v := ex3_10
  subst ex3_10
  refine e_aload_n (j := 1) C dX0_loseScrip_11 rfl rfl ?_
  refine e_get0 (k := 11) (kk0 := k) (ref := "ScripHollow$Miner") C hk (by decide) rfl rfl mw_78 dX0_loseScrip_12 ?_
  refine e_iload_n (j := 2) C dX0_loseScrip_15 rfl rfl ?_
  refine e_dup2 C dX0_loseScrip_16 rfl rfl ?_
  refine e_iald C (cnt_S hk) (fun cA => cell_S cA n ρ J k _) hin dX0_loseScrip_17 ?_
  refine e_iload_n (j := 0) C dX0_loseScrip_18 rfl rfl ?_
  refine e_isub C dX0_loseScrip_19 ?_
  refine e_iast C (cnt_S hk) (fun cA f => cell_S cA n ρ J k f) hin dX0_loseScrip_20 ?_
  refine e_aload_n (j := 1) C dX0_loseScrip_21 rfl rfl ?_
  refine e_dup C dX0_loseScrip_22 rfl ?_
  refine e_get0 (k := 13) (kk0 := k) (ref := "ScripHollow$Miner") C hk (by decide) rfl rfl mw_256 dX0_loseScrip_23 ?_
  refine e_iload_n (j := 0) C dX0_loseScrip_26 rfl rfl ?_
  refine e_iadd C dX0_loseScrip_27 ?_
  refine e_put0 (k := 13) (kk0 := k) (ref := "ScripHollow$Miner") (ty := .int) C hk (by decide) rfl rfl (by decide +kernel) rfl rfl rfl mw_256 dX0_loseScrip_28 ?_
  refine e_iload_n (j := 0) C dX0_loseScrip_31 rfl rfl ?_
  exact e_iret C rfl (Nat.le_of_ble_eq_true rfl) (Nat.le_of_ble_eq_true rfl) dX0_loseScrip_32 (pO.mk (by rw [hcl]; unfold lose; rw [up_ne ne_OS]))
set_option maxRecDepth 100000 in
set_option maxHeartbeats 4000000 in
theorem c_X0_loseLowestScrip {l : Launch} (hl : l.stackTraces = false) {n : Nat} {ρ : Nat → Nat} {J : Nat → Int64} {M : Mem} {k : Nat} (hk : k < n) {v : Int32} : CtO l yX0_loseLowestScrip cX0_loseLowestScrip 4 (some .int) 2 0 0 n ρ J M [.ref (ρ (mO k)), .int v] (.inr (some (.int (llow M k v 40).2)), (llow M k v 40).1) := by
  refine CtO.of hl (by decide +kernel) (Nat.le_of_ble_eq_true rfl) (fun Ξ hnL C => ?_)
  show E Ξ n ρ J M 0 0 0 [(0, .ref (ρ (mO k))), (1, .int v)] []
  have loop : ∀ (fuel j : Nat), j ≤ 40 → 41 ≤ j + fuel → E Ξ n ρ J (llow M k v j).1 0 0 4 [(3, .int (nI j)), (2, .int (llow M k v j).2), (0, .ref (ρ (mO k))), (1, .int v)] [] := by
    intro fuel
    induction fuel with
    | zero => intro j h1 h2; omega
    | succ fuel ih =>
      intro j h1 h2
      rcases Nat.lt_or_ge j 40 with hj | hj
      · refine e_iload_n (j := 0) C dX0_loseLowestScrip_4 rfl rfl ?_
        refine e_aload_n (j := 2) C dX0_loseLowestScrip_5 rfl rfl ?_
        refine e_get0 (k := 11) (kk0 := k) (ref := "ScripHollow$Miner") C hk (by decide) rfl rfl mw_78 dX0_loseLowestScrip_6 ?_
        refine e_ilen (v := 40) C (cnt_S hk) (fun cA => cell_S cA n ρ J k _) (by decide) dX0_loseLowestScrip_9 ?_
        refine e_icmp_ge (tgt := 30) C dX0_loseLowestScrip_10 (by decide) (fun c_10 => absurd c_10 (nI_ge (a := j) (b := 40) hj (by omega))) (fun c_10 => ?_)
        refine e_iload_n (j := 1) C dX0_loseLowestScrip_13 rfl rfl ?_
        refine e_aload_n (j := 2) C dX0_loseLowestScrip_14 rfl rfl ?_
        refine e_iload_n (j := 0) C dX0_loseLowestScrip_15 rfl rfl ?_
        refine e_iload_n (j := 3) C dX0_loseLowestScrip_16 rfl rfl ?_
        refine e_iload_n (j := 1) C dX0_loseLowestScrip_17 rfl rfl ?_
        refine e_isub C dX0_loseLowestScrip_18 ?_
        refine e_cV (i := (mO k)) (nA := 2) (Cn := RX0) C (c_X0_loseScrip hl hk (i := j) hj) rfl (cnt_O hk) (fun cA => cell_O cA n ρ J k _) rfl rfl mw_254 mw_310 mw_252 mw_253 mw_65 (by decide +kernel) (by decide) rfl rfl (Nat.le_of_ble_eq_true rfl) dX0_loseLowestScrip_19 (Nat.le_of_ble_eq_true rfl) (Nat.le_of_ble_eq_true rfl) ?_
        refine e_iadd C dX0_loseLowestScrip_22 ?_
        refine e_topi (fun x2_23 ex2_23 => ?_)
        refine e_istore_n (ls2 := [(2, .int x2_23), (3, .int (nI j)), (0, .ref (ρ (mO k))), (1, .int v)]) C hnL dX0_loseLowestScrip_23 rfl (by decide) rfl ?_
        obtain ⟨x3_24, ex3_24⟩ : ∃ z : Int32, z = (nI j) + 1 := ⟨_, rfl⟩
        refine e_iinc (j := 1) (v := x3_24) (ls2 := [(3, .int x3_24), (2, .int x2_23), (0, .ref (ρ (mO k))), (1, .int v)]) C hnL dX0_loseLowestScrip_24 rfl (by rw [ex3_24]; rfl) (by decide) rfl ?_
        refine e_goto (tgt := 4) C dX0_loseLowestScrip_27 (by decide) ?_
        rw [nI_1] at ex3_24
        subst ex2_23 ex3_24
        exact e_sub [0, 1, 2, 3] rfl (ih (j + 1) (by omega) (by omega))
      · have hj2 : j = 40 := by omega
        refine e_iload_n (j := 0) C dX0_loseLowestScrip_4 rfl rfl ?_
        refine e_aload_n (j := 2) C dX0_loseLowestScrip_5 rfl rfl ?_
        refine e_get0 (k := 11) (kk0 := k) (ref := "ScripHollow$Miner") C hk (by decide) rfl rfl mw_78 dX0_loseLowestScrip_6 ?_
        refine e_ilen (v := 40) C (cnt_S hk) (fun cA => cell_S cA n ρ J k _) (by decide) dX0_loseLowestScrip_9 ?_
        refine e_icmp_ge (tgt := 30) C dX0_loseLowestScrip_10 (by decide) (fun c_10 => ?_) (fun c_10 => absurd (nI_le (a := 40) (b := j) hj (by omega)) c_10)
        refine e_iload_n (j := 1) C dX0_loseLowestScrip_30 rfl rfl ?_
        exact e_iret C rfl (Nat.le_of_ble_eq_true rfl) (Nat.le_of_ble_eq_true rfl) dX0_loseLowestScrip_31 (pO.mk (by rw [hj2]))
  refine e_iconst (v := 0) C dX0_loseLowestScrip_0 (by decide) ?_
  refine e_istore_n (ls2 := [(2, .int 0), (0, .ref (ρ (mO k))), (1, .int v)]) C hnL dX0_loseLowestScrip_1 rfl (by decide) rfl ?_
  refine e_iconst (v := 0) C dX0_loseLowestScrip_2 (by decide) ?_
  refine e_istore_n (ls2 := [(3, .int 0), (2, .int 0), (0, .ref (ρ (mO k))), (1, .int v)]) C hnL dX0_loseLowestScrip_3 rfl (by decide) rfl ?_
  exact e_sub [0, 1, 2, 3] rfl (loop 41 0 (by omega) (by omega))
def inh0 (M : Mem) (k q : Nat) : Mem := up M (mO k) 5 (M (mO k) 5 + M (mO q) 5)
def inh1 (M : Mem) (k q : Nat) : Mem := inhG (inhS (inh0 M k q) k q 40) k q 4
def inh2 (M : Mem) (k q : Nat) : Mem := up (up (inh1 M k q) (mO k) 6 (inh1 M k q (mO k) 6 + inh1 M k q (mO q) 6)) (mO k) 7 (up (inh1 M k q) (mO k) 6 (inh1 M k q (mO k) 6 + inh1 M k q (mO q) 6) (mO k) 7 + up (inh1 M k q) (mO k) 6 (inh1 M k q (mO k) 6 + inh1 M k q (mO q) 6) (mO q) 7)
set_option maxRecDepth 100000 in
set_option maxHeartbeats 4000000 in
theorem c_X0_inherit {l : Launch} (hl : l.stackTraces = false) {n : Nat} {ρ : Nat → Nat} {J : Nat → Int64} {M : Mem} {k q : Nat} (hk : k < n) (hq : q < n) {v : Int32} : CtO l yX0_inherit cX0_inherit 4 none 1 0 0 n ρ J M [.ref (ρ (mO k)), .ref (ρ (mO q)), .int v] (.inr none, if v = 0 then inh1 M k q else inh2 M k q) := by
  refine CtO.of hl (by decide +kernel) (Nat.le_of_ble_eq_true rfl) (fun Ξ hnL C => ?_)
  show E Ξ n ρ J M 0 0 0 [(0, .ref (ρ (mO k))), (1, .ref (ρ (mO q))), (2, .int v)] []
  have loop2 : ∀ (fuel j : Nat), j ≤ 4 → 5 ≤ j + fuel → E Ξ n ρ J (inhG (inhS (inh0 M k q) k q 40) k q j) 0 0 43 [(3, .int (nI j)), (0, .ref (ρ (mO k))), (1, .ref (ρ (mO q))), (2, .int v)] [] := by
    intro fuel
    induction fuel with
    | zero => intro j h1 h2; omega
    | succ fuel ih =>
      intro j h1 h2
      have hcl : (nI j).toNatClampNeg = j := nI_clamp (by omega)
      rcases Nat.lt_or_ge j 4 with hj | hj
      · refine e_iload_n (j := 0) C dX0_inherit_43 rfl rfl ?_
        refine e_aload_n (j := 1) C dX0_inherit_44 rfl rfl ?_
        refine e_get0 (k := 10) (kk0 := k) (ref := "ScripHollow$Miner") C hk (by decide) rfl rfl mw_77 dX0_inherit_45 ?_
        refine e_ilen (v := 4) C (cnt_G hk) (fun cA => cell_G cA n ρ J k _) (by decide) dX0_inherit_48 ?_
        refine e_icmp_ge (tgt := 73) C dX0_inherit_49 (by decide) (fun c_49 => absurd c_49 (nI_ge (a := j) (b := 4) hj (by omega))) (fun c_49 => ?_)
        refine e_aload_n (j := 1) C dX0_inherit_52 rfl rfl ?_
        refine e_get0 (k := 10) (kk0 := k) (ref := "ScripHollow$Miner") C hk (by decide) rfl rfl mw_77 dX0_inherit_53 ?_
        refine e_iload_n (j := 0) C dX0_inherit_56 rfl rfl ?_
        refine e_dup2 C dX0_inherit_57 rfl rfl ?_
        refine e_iald C (cnt_G hk) (fun cA => cell_G cA n ρ J k _) (vp_in_nI (by omega) (by omega)) dX0_inherit_58 ?_
        refine e_aload_n (j := 2) C dX0_inherit_59 rfl rfl ?_
        refine e_get0 (k := 10) (kk0 := q) (ref := "ScripHollow$Miner") C hq (by decide) rfl rfl mw_77 dX0_inherit_60 ?_
        refine e_iload_n (j := 0) C dX0_inherit_63 rfl rfl ?_
        refine e_iald C (cnt_G hq) (fun cA => cell_G cA n ρ J q _) (vp_in_nI (by omega) (by omega)) dX0_inherit_64 ?_
        refine e_iadd C dX0_inherit_65 ?_
        refine e_iast C (cnt_G hk) (fun cA f => cell_G cA n ρ J k f) (vp_in_nI (by omega) (by omega)) dX0_inherit_66 ?_
        obtain ⟨x3_67, ex3_67⟩ : ∃ z : Int32, z = (nI j) + 1 := ⟨_, rfl⟩
        refine e_iinc (j := 0) (v := x3_67) (ls2 := [(3, .int x3_67), (0, .ref (ρ (mO k))), (1, .ref (ρ (mO q))), (2, .int v)]) C hnL dX0_inherit_67 rfl (by rw [ex3_67]; rfl) (by decide) rfl ?_
        refine e_goto (tgt := 43) C dX0_inherit_70 (by decide) ?_
        rw [nI_1] at ex3_67
        subst ex3_67
        rw [hcl]
        exact e_sub [0, 1, 2, 3] rfl (ih (j + 1) (by omega) (by omega))
      · have hj2 : j = 4 := by omega
        have hM : inhG (inhS (inh0 M k q) k q 40) k q j = inh1 M k q := by rw [hj2]; rfl
        rw [hM]
        refine e_iload_n (j := 0) C dX0_inherit_43 rfl rfl ?_
        refine e_aload_n (j := 1) C dX0_inherit_44 rfl rfl ?_
        refine e_get0 (k := 10) (kk0 := k) (ref := "ScripHollow$Miner") C hk (by decide) rfl rfl mw_77 dX0_inherit_45 ?_
        refine e_ilen (v := 4) C (cnt_G hk) (fun cA => cell_G cA n ρ J k _) (by decide) dX0_inherit_48 ?_
        refine e_icmp_ge (tgt := 73) C dX0_inherit_49 (by decide) (fun c_49 => ?_) (fun c_49 => absurd (nI_le (a := 4) (b := j) hj (by omega)) c_49)
        refine e_iload_n (j := 3) C dX0_inherit_73 rfl rfl ?_
        refine e_if_eq (tgt := 103) C dX0_inherit_74 (by decide) (fun c_74 => ?_) (fun c_74 => ?_)
        · exact e_vret C rfl (Nat.le_of_ble_eq_true rfl) (Nat.le_of_ble_eq_true rfl) dX0_inherit_103 (pO.mk (by first | rw [if_pos c_74] | (rw [if_neg c_74]; rfl)))
        · refine e_aload_n (j := 1) C dX0_inherit_77 rfl rfl ?_
          refine e_dup C dX0_inherit_78 rfl ?_
          refine e_get0 (k := 6) (kk0 := k) (ref := "ScripHollow$Miner") C hk (by decide) rfl rfl mw_427 dX0_inherit_79 ?_
          refine e_aload_n (j := 2) C dX0_inherit_82 rfl rfl ?_
          refine e_get0 (k := 6) (kk0 := q) (ref := "ScripHollow$Miner") C hq (by decide) rfl rfl mw_427 dX0_inherit_83 ?_
          refine e_iadd C dX0_inherit_86 ?_
          refine e_put0 (k := 6) (kk0 := k) (ref := "ScripHollow$Miner") (ty := .int) C hk (by decide) rfl rfl (by decide +kernel) rfl rfl rfl mw_427 dX0_inherit_87 ?_
          refine e_aload_n (j := 1) C dX0_inherit_90 rfl rfl ?_
          refine e_dup C dX0_inherit_91 rfl ?_
          refine e_get0 (k := 7) (kk0 := k) (ref := "ScripHollow$Miner") C hk (by decide) rfl rfl mw_428 dX0_inherit_92 ?_
          refine e_aload_n (j := 2) C dX0_inherit_95 rfl rfl ?_
          refine e_get0 (k := 7) (kk0 := q) (ref := "ScripHollow$Miner") C hq (by decide) rfl rfl mw_428 dX0_inherit_96 ?_
          refine e_iadd C dX0_inherit_99 ?_
          refine e_put0 (k := 7) (kk0 := k) (ref := "ScripHollow$Miner") (ty := .int) C hk (by decide) rfl rfl (by decide +kernel) rfl rfl rfl mw_428 dX0_inherit_100 ?_
          exact e_vret C rfl (Nat.le_of_ble_eq_true rfl) (Nat.le_of_ble_eq_true rfl) dX0_inherit_103 (pO.mk (by first | rw [if_pos c_74] | (rw [if_neg c_74]; rfl)))
  have loop : ∀ (fuel j : Nat), j ≤ 40 → 41 ≤ j + fuel → E Ξ n ρ J (inhS (inh0 M k q) k q j) 0 0 15 [(3, .int (nI j)), (0, .ref (ρ (mO k))), (1, .ref (ρ (mO q))), (2, .int v)] [] := by
    intro fuel
    induction fuel with
    | zero => intro j h1 h2; omega
    | succ fuel ih =>
      intro j h1 h2
      have hcl : (nI j).toNatClampNeg = j := nI_clamp (by omega)
      rcases Nat.lt_or_ge j 40 with hj | hj
      · refine e_iload_n (j := 0) C dX0_inherit_15 rfl rfl ?_
        refine e_aload_n (j := 1) C dX0_inherit_16 rfl rfl ?_
        refine e_get0 (k := 11) (kk0 := k) (ref := "ScripHollow$Miner") C hk (by decide) rfl rfl mw_78 dX0_inherit_17 ?_
        refine e_ilen (v := 40) C (cnt_S hk) (fun cA => cell_S cA n ρ J k _) (by decide) dX0_inherit_20 ?_
        refine e_icmp_ge (tgt := 41) C dX0_inherit_21 (by decide) (fun c_21 => absurd c_21 (nI_ge (a := j) (b := 40) hj (by omega))) (fun c_21 => ?_)
        refine e_aload_n (j := 1) C dX0_inherit_24 rfl rfl ?_
        refine e_iload_n (j := 0) C dX0_inherit_25 rfl rfl ?_
        refine e_aload_n (j := 2) C dX0_inherit_26 rfl rfl ?_
        refine e_get0 (k := 11) (kk0 := q) (ref := "ScripHollow$Miner") C hq (by decide) rfl rfl mw_78 dX0_inherit_27 ?_
        refine e_iload_n (j := 0) C dX0_inherit_30 rfl rfl ?_
        refine e_iald C (cnt_S hq) (fun cA => cell_S cA n ρ J q _) (vp_in_nI (by omega) (by omega)) dX0_inherit_31 ?_
        refine e_cV (i := (mO k)) (nA := 2) (Cn := RX0) C (c_X0_gainScrip hl hk (i := j) hj) rfl (cnt_O hk) (fun cA => cell_O cA n ρ J k _) rfl rfl mw_244 mw_429 mw_242 mw_243 mw_65 (by decide +kernel) (by decide) rfl rfl (Nat.le_of_ble_eq_true rfl) dX0_inherit_32 (Nat.le_of_ble_eq_true rfl) (Nat.le_of_ble_eq_true rfl) ?_
        obtain ⟨x3_35, ex3_35⟩ : ∃ z : Int32, z = (nI j) + 1 := ⟨_, rfl⟩
        refine e_iinc (j := 0) (v := x3_35) (ls2 := [(3, .int x3_35), (0, .ref (ρ (mO k))), (1, .ref (ρ (mO q))), (2, .int v)]) C hnL dX0_inherit_35 rfl (by rw [ex3_35]; rfl) (by decide) rfl ?_
        refine e_goto (tgt := 15) C dX0_inherit_38 (by decide) ?_
        rw [nI_1] at ex3_35
        subst ex3_35
        rw [hcl]
        exact e_sub [0, 1, 2, 3] rfl (ih (j + 1) (by omega) (by omega))
      · have hj2 : j = 40 := by omega
        rw [hj2]
        refine e_iload_n (j := 0) C dX0_inherit_15 rfl rfl ?_
        refine e_aload_n (j := 1) C dX0_inherit_16 rfl rfl ?_
        refine e_get0 (k := 11) (kk0 := k) (ref := "ScripHollow$Miner") C hk (by decide) rfl rfl mw_78 dX0_inherit_17 ?_
        refine e_ilen (v := 40) C (cnt_S hk) (fun cA => cell_S cA n ρ J k _) (by decide) dX0_inherit_20 ?_
        refine e_icmp_ge (tgt := 41) C dX0_inherit_21 (by decide) (fun c_21 => ?_) (fun c_21 => absurd (nI_le (a := 40) (b := 40) (by omega) (by omega)) c_21)
        refine e_iconst (v := 0) C dX0_inherit_41 (by decide) ?_
        refine e_istore_n (ls2 := [(3, .int 0), (0, .ref (ρ (mO k))), (1, .ref (ρ (mO q))), (2, .int v)]) C hnL dX0_inherit_42 rfl (by decide) rfl ?_
        exact e_sub [0, 1, 2, 3] rfl (loop2 5 0 (by omega) (by omega))
  refine e_aload_n (j := 0) C dX0_inherit_0 rfl rfl ?_
  refine e_dup C dX0_inherit_1 rfl ?_
  refine e_get0 (k := 5) (kk0 := k) (ref := "ScripHollow$Miner") C hk (by decide) rfl rfl mw_293 dX0_inherit_2 ?_
  refine e_aload_n (j := 1) C dX0_inherit_5 rfl rfl ?_
  refine e_get0 (k := 5) (kk0 := q) (ref := "ScripHollow$Miner") C hq (by decide) rfl rfl mw_293 dX0_inherit_6 ?_
  refine e_iadd C dX0_inherit_9 ?_
  refine e_put0 (k := 5) (kk0 := k) (ref := "ScripHollow$Miner") (ty := .int) C hk (by decide) rfl rfl (by decide +kernel) rfl rfl rfl mw_293 dX0_inherit_10 ?_
  refine e_iconst (v := 0) C dX0_inherit_13 (by decide) ?_
  refine e_istore_n (ls2 := [(3, .int 0), (0, .ref (ρ (mO k))), (1, .ref (ρ (mO q))), (2, .int v)]) C hnL dX0_inherit_14 rfl (by decide) rfl ?_
  exact e_sub [0, 1, 2, 3] rfl (loop 41 0 (by omega) (by omega))
def lv0 (M : Mem) (k : Nat) : Mem := up (up (up (up (up M (mO k) 1 0) (mO k) 4 0) (mO k) 5 0) (mO k) 6 0) (mO k) 7 0
def lv1 (M : Mem) (k : Nat) : Mem := (llow (lv0 M k) k (sm (M (mS k)) 40) 40).1
def lv2 (M : Mem) (k : Nat) : Mem := zG (lv1 M k) k 4
set_option maxRecDepth 100000 in
set_option maxHeartbeats 4000000 in
theorem c_X0_leaveAll {l : Launch} (hl : l.stackTraces = false) {n : Nat} {ρ : Nat → Nat} {J : Nat → Int64} {M : Mem} {k : Nat} (hk : k < n) : CtO l yX0_leaveAll cX0_leaveAll 2 none 3 0 0 n ρ J M [.ref (ρ (mO k))] (.inr none, lv2 M k) := by
  refine CtO.of hl (by decide +kernel) (Nat.le_of_ble_eq_true rfl) (fun Ξ hnL C => ?_)
  show E Ξ n ρ J M 0 0 0 [(0, .ref (ρ (mO k)))] []
  have loop : ∀ (fuel j : Nat), j ≤ 4 → 5 ≤ j + fuel → E Ξ n ρ J (zG (lv1 M k) k j) 0 0 36 [(1, .int (nI j)), (0, .ref (ρ (mO k)))] [] := by
    intro fuel
    induction fuel with
    | zero => intro j h1 h2; omega
    | succ fuel ih =>
      intro j h1 h2
      have hcl : (nI j).toNatClampNeg = j := nI_clamp (by omega)
      rcases Nat.lt_or_ge j 4 with hj | hj
      · refine e_iload_n (j := 0) C dX0_leaveAll_36 rfl rfl ?_
        refine e_aload_n (j := 1) C dX0_leaveAll_37 rfl rfl ?_
        refine e_get0 (k := 10) (kk0 := k) (ref := "ScripHollow$Miner") C hk (by decide) rfl rfl mw_77 dX0_leaveAll_38 ?_
        refine e_ilen (v := 4) C (cnt_G hk) (fun cA => cell_G cA n ρ J k _) (by decide) dX0_leaveAll_41 ?_
        refine e_icmp_ge (tgt := 58) C dX0_leaveAll_42 (by decide) (fun c_42 => absurd c_42 (nI_ge (a := j) (b := 4) hj (by omega))) (fun c_42 => ?_)
        refine e_aload_n (j := 1) C dX0_leaveAll_45 rfl rfl ?_
        refine e_get0 (k := 10) (kk0 := k) (ref := "ScripHollow$Miner") C hk (by decide) rfl rfl mw_77 dX0_leaveAll_46 ?_
        refine e_iload_n (j := 0) C dX0_leaveAll_49 rfl rfl ?_
        refine e_iconst (v := 0) C dX0_leaveAll_50 (by decide) ?_
        refine e_iast C (cnt_G hk) (fun cA f => cell_G cA n ρ J k f) (vp_in_nI (by omega) (by omega)) dX0_leaveAll_51 ?_
        obtain ⟨x1_52, ex1_52⟩ : ∃ z : Int32, z = (nI j) + 1 := ⟨_, rfl⟩
        refine e_iinc (j := 0) (v := x1_52) (ls2 := [(1, .int x1_52), (0, .ref (ρ (mO k)))]) C hnL dX0_leaveAll_52 rfl (by rw [ex1_52]; rfl) (by decide) rfl ?_
        refine e_goto (tgt := 36) C dX0_leaveAll_55 (by decide) ?_
        rw [nI_1] at ex1_52
        subst ex1_52
        rw [hcl]
        exact e_sub [0, 1] rfl (ih (j + 1) (by omega) (by omega))
      · have hj2 : j = 4 := by omega
        refine e_iload_n (j := 0) C dX0_leaveAll_36 rfl rfl ?_
        refine e_aload_n (j := 1) C dX0_leaveAll_37 rfl rfl ?_
        refine e_get0 (k := 10) (kk0 := k) (ref := "ScripHollow$Miner") C hk (by decide) rfl rfl mw_77 dX0_leaveAll_38 ?_
        refine e_ilen (v := 4) C (cnt_G hk) (fun cA => cell_G cA n ρ J k _) (by decide) dX0_leaveAll_41 ?_
        refine e_icmp_ge (tgt := 58) C dX0_leaveAll_42 (by decide) (fun c_42 => ?_) (fun c_42 => absurd (nI_le (a := 4) (b := j) hj (by omega)) c_42)
        exact e_vret C rfl (Nat.le_of_ble_eq_true rfl) (Nat.le_of_ble_eq_true rfl) dX0_leaveAll_58 (pO.mk (by rw [hj2]; rfl))
  refine e_aload_n (j := 0) C dX0_leaveAll_0 rfl rfl ?_
  refine e_iconst (v := 0) C dX0_leaveAll_1 (by decide) ?_
  refine e_put0 (k := 1) (kk0 := k) (ref := "ScripHollow$Miner") (ty := .boolean) C hk (by decide) rfl rfl (by decide +kernel) rfl rfl rfl mw_75 dX0_leaveAll_2 ?_
  refine e_aload_n (j := 0) C dX0_leaveAll_5 rfl rfl ?_
  refine e_iconst (v := 0) C dX0_leaveAll_6 (by decide) ?_
  refine e_put0 (k := 4) (kk0 := k) (ref := "ScripHollow$Miner") (ty := .int) C hk (by decide) rfl rfl (by decide +kernel) rfl rfl rfl mw_434 dX0_leaveAll_7 ?_
  refine e_aload_n (j := 0) C dX0_leaveAll_10 rfl rfl ?_
  refine e_iconst (v := 0) C dX0_leaveAll_11 (by decide) ?_
  refine e_put0 (k := 5) (kk0 := k) (ref := "ScripHollow$Miner") (ty := .int) C hk (by decide) rfl rfl (by decide +kernel) rfl rfl rfl mw_293 dX0_leaveAll_12 ?_
  refine e_aload_n (j := 0) C dX0_leaveAll_15 rfl rfl ?_
  refine e_iconst (v := 0) C dX0_leaveAll_16 (by decide) ?_
  refine e_put0 (k := 6) (kk0 := k) (ref := "ScripHollow$Miner") (ty := .int) C hk (by decide) rfl rfl (by decide +kernel) rfl rfl rfl mw_427 dX0_leaveAll_17 ?_
  refine e_aload_n (j := 0) C dX0_leaveAll_20 rfl rfl ?_
  refine e_iconst (v := 0) C dX0_leaveAll_21 (by decide) ?_
  refine e_put0 (k := 7) (kk0 := k) (ref := "ScripHollow$Miner") (ty := .int) C hk (by decide) rfl rfl (by decide +kernel) rfl rfl rfl mw_428 dX0_leaveAll_22 ?_
  refine e_aload_n (j := 0) C dX0_leaveAll_25 rfl rfl ?_
  refine e_aload_n (j := 0) C dX0_leaveAll_26 rfl rfl ?_
  refine e_cV (i := (mO k)) (nA := 0) (Cn := RX0) C (c_X0_allScrip hl hk) rfl (cnt_O hk) (fun cA => cell_O cA n ρ J k _) rfl rfl mw_297 mw_294 mw_295 mw_296 mw_65 (by decide +kernel) (by decide) rfl rfl (Nat.le_of_ble_eq_true rfl) dX0_leaveAll_27 (Nat.le_of_ble_eq_true rfl) (Nat.le_of_ble_eq_true rfl) ?_
  refine e_cV (i := (mO k)) (nA := 1) (Cn := RX0) C (c_X0_loseLowestScrip hl hk) rfl (cnt_O hk) (fun cA => cell_O cA n ρ J k _) rfl rfl mw_309 mw_435 mw_307 mw_308 mw_65 (by decide +kernel) (by decide) rfl rfl (Nat.le_of_ble_eq_true rfl) dX0_leaveAll_30 (Nat.le_of_ble_eq_true rfl) (Nat.le_of_ble_eq_true rfl) ?_
  refine e_pop C dX0_leaveAll_33 rfl ?_
  refine e_iconst (v := 0) C dX0_leaveAll_34 (by decide) ?_
  refine e_istore_n (ls2 := [(1, .int 0), (0, .ref (ρ (mO k)))]) C hnL dX0_leaveAll_35 rfl (by decide) rfl ?_
  refine e_mem (M' := zG (lv1 M k) k 0) ?_ (e_sub [0, 1] rfl (loop 5 0 (by omega) (by omega)))
  show (llow (lv0 M k) k (sm (lv0 M k (mS k)) 40) 40).1 = lv1 M k
  rw [show lv0 M k (mS k) = M (mS k) by unfold lv0; rw [up_ne ne_OS.symm, up_ne ne_OS.symm, up_ne ne_OS.symm, up_ne ne_OS.symm, up_ne ne_OS.symm]]
  rfl
set_option maxRecDepth 100000 in
set_option maxHeartbeats 4000000 in
theorem c_X1_open {l : Launch} (hl : l.stackTraces = false) {n : Nat} {ρ : Nat → Nat} {J : Nat → Int64} {M : Mem} {v : Int32} : CtO l yX1_open cX1_open 2 none 0 0 0 n ρ J M [.ref (ρ 3), .int v] (.inr none, up (up (up (up M 3 0 v) 3 1 0) 3 2 0) 3 3 0) := by
  refine CtO.of hl (by decide +kernel) (Nat.le_of_ble_eq_true rfl) (fun Ξ hnL C => ?_)
  show E Ξ n ρ J M 0 0 0 [(0, .ref (ρ 3)), (1, .int v)] []
  refine e_aload_n (j := 0) C dX1_open_0 rfl rfl ?_
  refine e_iload_n (j := 1) C dX1_open_1 rfl rfl ?_
  refine e_put1 (k := 0) (ref := "ScripHollow$Slip") (ty := .int) C (by decide) rfl rfl (by decide +kernel) rfl rfl rfl mw_216 dX1_open_2 ?_
  refine e_aload_n (j := 0) C dX1_open_5 rfl rfl ?_
  refine e_iconst (v := 0) C dX1_open_6 (by decide) ?_
  refine e_put1 (k := 1) (ref := "ScripHollow$Slip") (ty := .int) C (by decide) rfl rfl (by decide +kernel) rfl rfl rfl mw_217 dX1_open_7 ?_
  refine e_aload_n (j := 0) C dX1_open_10 rfl rfl ?_
  refine e_iconst (v := 0) C dX1_open_11 (by decide) ?_
  refine e_put1 (k := 2) (ref := "ScripHollow$Slip") (ty := .int) C (by decide) rfl rfl (by decide +kernel) rfl rfl rfl mw_218 dX1_open_12 ?_
  refine e_aload_n (j := 0) C dX1_open_15 rfl rfl ?_
  refine e_iconst (v := 0) C dX1_open_16 (by decide) ?_
  refine e_put1 (k := 3) (ref := "ScripHollow$Slip") (ty := .int) C (by decide) rfl rfl (by decide +kernel) rfl rfl rfl mw_219 dX1_open_17 ?_
  exact e_vret C rfl (Nat.le_of_ble_eq_true rfl) (Nat.le_of_ble_eq_true rfl) dX1_open_20 (pO.mk rfl)
def tk0 (M : Mem) (v : Int32) : Mem := up M 3 0 (M 3 0 - mn v (M 3 0))
def tk1 (M : Mem) (c v : Int32) : Mem := if c = 1 then up (tk0 M v) 3 1 (mn v (M 3 0)) else tk0 M v
def tk2 (M : Mem) (c v : Int32) : Mem := if c = 5 then up (tk1 M c v) 3 2 (mn v (M 3 0)) else tk1 M c v
def tk3 (M : Mem) (c v : Int32) : Mem := if c < 3 then tk2 M c v else up (tk2 M c v) 3 3 (tk2 M c v 3 3 + mn v (M 3 0))
set_option maxRecDepth 100000 in
set_option maxHeartbeats 4000000 in
theorem c_X1_take {l : Launch} (hl : l.stackTraces = false) {n : Nat} {ρ : Nat → Nat} {J : Nat → Int64} {M : Mem} {c v : Int32} : CtO l yX1_take cX1_take 4 none 1 0 0 n ρ J M [.ref (ρ 3), .int c, .int v] (.inr none, tk3 M c v) := by
  refine CtO.of hl (by decide +kernel) (Nat.le_of_ble_eq_true rfl) (fun Ξ hnL C => ?_)
  show E Ξ n ρ J M 0 0 0 [(0, .ref (ρ 3)), (1, .int c), (2, .int v)] []
  refine e_iload_n (j := 2) C dX1_take_0 rfl rfl ?_
  refine e_aload_n (j := 0) C dX1_take_1 rfl rfl ?_
  refine e_get1 (k := 0) (ref := "ScripHollow$Slip") C (by decide) rfl rfl mw_216 dX1_take_2 ?_
  refine e_min C hnL mw_229 mw_125 mw_99 mw_126 (Nat.le_of_ble_eq_true rfl) (Nat.le_of_ble_eq_true rfl) (Nat.le_of_ble_eq_true rfl) (Nat.le_of_ble_eq_true rfl) dX1_take_5 ?_
  refine e_topi (fun x3_8 ex3_8 => ?_)
  refine e_istore_n (ls2 := [(3, .int x3_8), (0, .ref (ρ 3)), (1, .int c), (2, .int v)]) C hnL dX1_take_8 rfl (by decide) rfl ?_
  have ex3_8 : x3_8 = mn v (M 3 0) := ex3_8
  subst ex3_8
  refine e_aload_n (j := 1) C dX1_take_9 rfl rfl ?_
  refine e_dup C dX1_take_10 rfl ?_
  refine e_get1 (k := 0) (ref := "ScripHollow$Slip") C (by decide) rfl rfl mw_216 dX1_take_11 ?_
  refine e_iload_n (j := 0) C dX1_take_14 rfl rfl ?_
  refine e_isub C dX1_take_15 ?_
  refine e_put1 (k := 0) (ref := "ScripHollow$Slip") (ty := .int) C (by decide) rfl rfl (by decide +kernel) rfl rfl rfl mw_216 dX1_take_16 ?_
  refine e_iload_n (j := 2) C dX1_take_19 rfl rfl ?_
  refine e_iconst (v := 1) C dX1_take_20 (by decide) ?_
  refine e_icmp_ne (tgt := 29) C dX1_take_21 (by decide) (fun c_21 => ?_) (fun c_21 => ?_)
  · refine e_iload_n (j := 2) C dX1_take_29 rfl rfl ?_
    refine e_iconst (v := 5) C dX1_take_30 (by decide) ?_
    refine e_icmp_ne (tgt := 39) C dX1_take_31 (by decide) (fun c_31 => ?_) (fun c_31 => ?_)
    · refine e_iload_n (j := 2) C dX1_take_39 rfl rfl ?_
      refine e_iconst (v := 3) C dX1_take_40 (by decide) ?_
      refine e_icmp_lt (tgt := 54) C dX1_take_41 (by decide) (fun c_41 => ?_) (fun c_41 => ?_)
      · exact e_vret C rfl (Nat.le_of_ble_eq_true rfl) (Nat.le_of_ble_eq_true rfl) dX1_take_54 (pO.mk (by unfold tk3 tk2 tk1; repeat (first | rw [if_pos (by assumption)] | rw [if_neg (by assumption)]); try rfl))
      · refine e_aload_n (j := 1) C dX1_take_44 rfl rfl ?_
        refine e_dup C dX1_take_45 rfl ?_
        refine e_get1 (k := 3) (ref := "ScripHollow$Slip") C (by decide) rfl rfl mw_219 dX1_take_46 ?_
        refine e_iload_n (j := 0) C dX1_take_49 rfl rfl ?_
        refine e_iadd C dX1_take_50 ?_
        refine e_put1 (k := 3) (ref := "ScripHollow$Slip") (ty := .int) C (by decide) rfl rfl (by decide +kernel) rfl rfl rfl mw_219 dX1_take_51 ?_
        exact e_vret C rfl (Nat.le_of_ble_eq_true rfl) (Nat.le_of_ble_eq_true rfl) dX1_take_54 (pO.mk (by unfold tk3 tk2 tk1; repeat (first | rw [if_pos (by assumption)] | rw [if_neg (by assumption)]); try rfl))
    · refine e_aload_n (j := 1) C dX1_take_34 rfl rfl ?_
      refine e_iload_n (j := 0) C dX1_take_35 rfl rfl ?_
      refine e_put1 (k := 2) (ref := "ScripHollow$Slip") (ty := .int) C (by decide) rfl rfl (by decide +kernel) rfl rfl rfl mw_218 dX1_take_36 ?_
      refine e_iload_n (j := 2) C dX1_take_39 rfl rfl ?_
      refine e_iconst (v := 3) C dX1_take_40 (by decide) ?_
      refine e_icmp_lt (tgt := 54) C dX1_take_41 (by decide) (fun c_41 => ?_) (fun c_41 => ?_)
      · exact e_vret C rfl (Nat.le_of_ble_eq_true rfl) (Nat.le_of_ble_eq_true rfl) dX1_take_54 (pO.mk (by unfold tk3 tk2 tk1; repeat (first | rw [if_pos (by assumption)] | rw [if_neg (by assumption)]); try rfl))
      · refine e_aload_n (j := 1) C dX1_take_44 rfl rfl ?_
        refine e_dup C dX1_take_45 rfl ?_
        refine e_get1 (k := 3) (ref := "ScripHollow$Slip") C (by decide) rfl rfl mw_219 dX1_take_46 ?_
        refine e_iload_n (j := 0) C dX1_take_49 rfl rfl ?_
        refine e_iadd C dX1_take_50 ?_
        refine e_put1 (k := 3) (ref := "ScripHollow$Slip") (ty := .int) C (by decide) rfl rfl (by decide +kernel) rfl rfl rfl mw_219 dX1_take_51 ?_
        exact e_vret C rfl (Nat.le_of_ble_eq_true rfl) (Nat.le_of_ble_eq_true rfl) dX1_take_54 (pO.mk (by unfold tk3 tk2 tk1; repeat (first | rw [if_pos (by assumption)] | rw [if_neg (by assumption)]); try rfl))
  · refine e_aload_n (j := 1) C dX1_take_24 rfl rfl ?_
    refine e_iload_n (j := 0) C dX1_take_25 rfl rfl ?_
    refine e_put1 (k := 1) (ref := "ScripHollow$Slip") (ty := .int) C (by decide) rfl rfl (by decide +kernel) rfl rfl rfl mw_217 dX1_take_26 ?_
    refine e_iload_n (j := 2) C dX1_take_29 rfl rfl ?_
    refine e_iconst (v := 5) C dX1_take_30 (by decide) ?_
    refine e_icmp_ne (tgt := 39) C dX1_take_31 (by decide) (fun c_31 => ?_) (fun c_31 => ?_)
    · refine e_iload_n (j := 2) C dX1_take_39 rfl rfl ?_
      refine e_iconst (v := 3) C dX1_take_40 (by decide) ?_
      refine e_icmp_lt (tgt := 54) C dX1_take_41 (by decide) (fun c_41 => ?_) (fun c_41 => ?_)
      · exact e_vret C rfl (Nat.le_of_ble_eq_true rfl) (Nat.le_of_ble_eq_true rfl) dX1_take_54 (pO.mk (by unfold tk3 tk2 tk1; repeat (first | rw [if_pos (by assumption)] | rw [if_neg (by assumption)]); try rfl))
      · refine e_aload_n (j := 1) C dX1_take_44 rfl rfl ?_
        refine e_dup C dX1_take_45 rfl ?_
        refine e_get1 (k := 3) (ref := "ScripHollow$Slip") C (by decide) rfl rfl mw_219 dX1_take_46 ?_
        refine e_iload_n (j := 0) C dX1_take_49 rfl rfl ?_
        refine e_iadd C dX1_take_50 ?_
        refine e_put1 (k := 3) (ref := "ScripHollow$Slip") (ty := .int) C (by decide) rfl rfl (by decide +kernel) rfl rfl rfl mw_219 dX1_take_51 ?_
        exact e_vret C rfl (Nat.le_of_ble_eq_true rfl) (Nat.le_of_ble_eq_true rfl) dX1_take_54 (pO.mk (by unfold tk3 tk2 tk1; repeat (first | rw [if_pos (by assumption)] | rw [if_neg (by assumption)]); try rfl))
    · refine e_aload_n (j := 1) C dX1_take_34 rfl rfl ?_
      refine e_iload_n (j := 0) C dX1_take_35 rfl rfl ?_
      refine e_put1 (k := 2) (ref := "ScripHollow$Slip") (ty := .int) C (by decide) rfl rfl (by decide +kernel) rfl rfl rfl mw_218 dX1_take_36 ?_
      refine e_iload_n (j := 2) C dX1_take_39 rfl rfl ?_
      refine e_iconst (v := 3) C dX1_take_40 (by decide) ?_
      refine e_icmp_lt (tgt := 54) C dX1_take_41 (by decide) (fun c_41 => ?_) (fun c_41 => ?_)
      · exact e_vret C rfl (Nat.le_of_ble_eq_true rfl) (Nat.le_of_ble_eq_true rfl) dX1_take_54 (pO.mk (by unfold tk3 tk2 tk1; repeat (first | rw [if_pos (by assumption)] | rw [if_neg (by assumption)]); try rfl))
      · refine e_aload_n (j := 1) C dX1_take_44 rfl rfl ?_
        refine e_dup C dX1_take_45 rfl ?_
        refine e_get1 (k := 3) (ref := "ScripHollow$Slip") C (by decide) rfl rfl mw_219 dX1_take_46 ?_
        refine e_iload_n (j := 0) C dX1_take_49 rfl rfl ?_
        refine e_iadd C dX1_take_50 ?_
        refine e_put1 (k := 3) (ref := "ScripHollow$Slip") (ty := .int) C (by decide) rfl rfl (by decide +kernel) rfl rfl rfl mw_219 dX1_take_51 ?_
        exact e_vret C rfl (Nat.le_of_ble_eq_true rfl) (Nat.le_of_ble_eq_true rfl) dX1_take_54 (pO.mk (by unfold tk3 tk2 tk1; repeat (first | rw [if_pos (by assumption)] | rw [if_neg (by assumption)]); try rfl))
end
section
/-! The list of the miners, and the class's own guards. -/
section Nulls
variable {l : Launch} {R : Room} {cc : ByteArray} {own : String} {ret : Option FieldType} {mc ms : Nat} {tb : List ExceptionTableEntry} {post : Option Value → St → Prop} {exc : String → St → Prop} {Ξ : CT}
variable {n : Nat} {ρ : Nat → Nat} {J : Nat → Int64} {M : Mem} {a b pc : Nat} {ls : List (Nat × Value)} {st : List Value}
theorem e_null (C : Cx l R cc own ret mc ms tb post exc Ξ) (d : decode cc pc = .ok (.aconst_null, 1)) (kk : E Ξ n ρ J M a b (pc + 1) ls (.null :: st)) : E Ξ n ρ J M a b pc ls st := by
  obtain ⟨p, e, s, m, args, below, meth, c, D, cA, A, nL, rfl, hx, hb, hml, hown, hts, hK, hG, hr, hlk, htb, hA, hst⟩ := C
  intro H locs lsA hP hD hS hl
  exact lv_null hx hb d (kk H locs lsA hP hD hS hl)
end Nulls
abbrev IX : String := "java/lang/IndexOutOfBoundsException"
abbrev IA : String := "java/lang/IllegalArgumentException"
abbrev IS : String := "java/lang/IllegalStateException"
set_option maxRecDepth 100000 in
set_option maxHeartbeats 4000000 in
theorem c_JL_size {l : Launch} (hl : l.stackTraces = false) {n : Nat} {ρ : Nat → Nat} {J : Nat → Int64} {M : Mem}  : CtO l yJx4a65c_size_8abf5 cJx4a65c_size_8abf5 1 (some .int) 0 0 0 n ρ J M [.ref (ρ 1)] (.inr (some (.int (nI n))), M) := by
  refine CtO.of hl (by decide +kernel) (Nat.le_of_ble_eq_true rfl) (fun Ξ hnL C => ?_)
  show E Ξ n ρ J M 0 0 0 [(0, .ref (ρ 1))] []
  refine e_aload_n (j := 0) C dJx4a65c_size_8abf5_0 rfl rfl ?_
  refine e_getL (k := 2) (ref := "java/util/ArrayList") C (by decide) rfl rfl mw_70 dJx4a65c_size_8abf5_1 ?_
  exact e_iret C rfl (Nat.le_of_ble_eq_true rfl) (Nat.le_of_ble_eq_true rfl) dJx4a65c_size_8abf5_4 (pO.mk rfl)
set_option maxRecDepth 100000 in
set_option maxHeartbeats 4000000 in
theorem c_J3_check {l : Launch} (hl : l.stackTraces = false) {n : Nat} {ρ : Nat → Nat} {J : Nat → Int64} {M : Mem} {x y : Int32} (h0 : ¬ x < 0) (h1 : x < y) : CtO l yJ3_checkIndex_8e157 cJ3_checkIndex_8e157 3 (some .int) 0 0 0 n ρ J M [.int x, .int y, .null] (.inr (some (.int x)), M) := by
  refine CtO.of hl (by decide +kernel) (Nat.le_of_ble_eq_true rfl) (fun Ξ hnL C => ?_)
  show E Ξ n ρ J M 0 0 0 [(0, .int x), (1, .int y), (2, .null)] []
  refine e_iload_n (j := 0) C dJ3_checkIndex_8e157_0 rfl rfl ?_
  refine e_if_lt (tgt := 9) C dJ3_checkIndex_8e157_1 (by decide) (fun c_1 => absurd c_1 h0) (fun c_1 => ?_)
  refine e_iload_n (j := 0) C dJ3_checkIndex_8e157_4 rfl rfl ?_
  refine e_iload_n (j := 1) C dJ3_checkIndex_8e157_5 rfl rfl ?_
  refine e_icmp_lt (tgt := 16) C dJ3_checkIndex_8e157_6 (by decide) (fun c_6 => ?_) (fun c_6 => absurd h1 c_6)
  refine e_iload_n (j := 0) C dJ3_checkIndex_8e157_16 rfl rfl ?_
  exact e_iret C rfl (Nat.le_of_ble_eq_true rfl) (Nat.le_of_ble_eq_true rfl) dJ3_checkIndex_8e157_17 (pO.mk rfl)
set_option maxRecDepth 100000 in
set_option maxHeartbeats 4000000 in
theorem c_J15_check {l : Launch} (hl : l.stackTraces = false) {n : Nat} {ρ : Nat → Nat} {J : Nat → Int64} {M : Mem} {x y : Int32} (h0 : ¬ x < 0) (h1 : x < y) : CtO l yJ15_checkIndex_7cf53 cJ15_checkIndex_7cf53 2 (some .int) 1 0 0 n ρ J M [.int x, .int y] (.inr (some (.int x)), M) := by
  refine CtO.of hl (by decide +kernel) (Nat.le_of_ble_eq_true rfl) (fun Ξ hnL C => ?_)
  show E Ξ n ρ J M 0 0 0 [(0, .int x), (1, .int y)] []
  refine e_iload_n (j := 0) C dJ15_checkIndex_7cf53_0 rfl rfl ?_
  refine e_iload_n (j := 1) C dJ15_checkIndex_7cf53_1 rfl rfl ?_
  refine e_null C dJ15_checkIndex_7cf53_2 ?_
  refine e_cS (nA := 3) C (c_J3_check hl h0 h1) rfl mw_168 mw_165 mw_166 mw_167 (by decide +kernel) (by decide) rfl rfl (Nat.le_of_ble_eq_true rfl) dJ15_checkIndex_7cf53_3 (Nat.le_of_ble_eq_true rfl) (Nat.le_of_ble_eq_true rfl) ?_
  exact e_iret C rfl (Nat.le_of_ble_eq_true rfl) (Nat.le_of_ble_eq_true rfl) dJ15_checkIndex_7cf53_6 (pO.mk rfl)
set_option maxRecDepth 100000 in
set_option maxHeartbeats 4000000 in
theorem c_JL_ed {l : Launch} (hl : l.stackTraces = false) {n : Nat} {ρ : Nat → Nat} {J : Nat → Int64} {M : Mem} {k : Nat} (hk : k < n) (hn : n ≤ 10) : CtO l yJx4a65c_elementData_915e3 cJx4a65c_elementData_915e3 2 (some (.object "java/lang/Object")) 0 0 0 n ρ J M [.ref (ρ 1), .int (nI k)] (.inr (some (.ref (ρ (mO k)))), M) := by
  refine CtO.of hl (by decide +kernel) (Nat.le_of_ble_eq_true rfl) (fun Ξ hnL C => ?_)
  show E Ξ n ρ J M 0 0 0 [(0, .ref (ρ 1)), (1, .int (nI k))] []
  refine e_aload_n (j := 0) C dJx4a65c_elementData_915e3_0 rfl rfl ?_
  refine e_getL (k := 1) (ref := "java/util/ArrayList") C (by decide) rfl rfl mw_43 dJx4a65c_elementData_915e3_1 ?_
  refine e_iload_n (j := 1) C dJx4a65c_elementData_915e3_4 rfl rfl ?_
  refine e_aald (k := k) C hk (by omega) rfl dJx4a65c_elementData_915e3_5 ?_
  exact e_aret C rfl (Nat.le_of_ble_eq_true rfl) (Nat.le_of_ble_eq_true rfl) dJx4a65c_elementData_915e3_6 (pO.mk rfl)
set_option maxRecDepth 100000 in
set_option maxHeartbeats 4000000 in
theorem c_JL_get {l : Launch} (hl : l.stackTraces = false) {n : Nat} {ρ : Nat → Nat} {J : Nat → Int64} {M : Mem} {k : Nat} (hk : k < n) (hn : n ≤ 10) : CtO l yJx4a65c_get_915e3 cJx4a65c_get_915e3 2 (some (.object "java/lang/Object")) 2 0 0 n ρ J M [.ref (ρ 1), .int (nI k)] (.inr (some (.ref (ρ (mO k)))), M) := by
  refine CtO.of hl (by decide +kernel) (Nat.le_of_ble_eq_true rfl) (fun Ξ hnL C => ?_)
  show E Ξ n ρ J M 0 0 0 [(0, .ref (ρ 1)), (1, .int (nI k))] []
  refine e_iload_n (j := 1) C dJx4a65c_get_915e3_0 rfl rfl ?_
  refine e_aload_n (j := 0) C dJx4a65c_get_915e3_1 rfl rfl ?_
  refine e_getL (k := 2) (ref := "java/util/ArrayList") C (by decide) rfl rfl mw_70 dJx4a65c_get_915e3_2 ?_
  refine e_cS (nA := 2) C (c_J15_check hl (nI_pos (by omega)) (nI_lt hk (by omega))) rfl mw_164 mw_161 mw_162 mw_163 (by decide +kernel) (by decide) rfl rfl (Nat.le_of_ble_eq_true rfl) dJx4a65c_get_915e3_5 (Nat.le_of_ble_eq_true rfl) (Nat.le_of_ble_eq_true rfl) ?_
  refine e_pop C dJx4a65c_get_915e3_8 rfl ?_
  refine e_aload_n (j := 0) C dJx4a65c_get_915e3_9 rfl rfl ?_
  refine e_iload_n (j := 1) C dJx4a65c_get_915e3_10 rfl rfl ?_
  refine e_cV (i := 1) (nA := 1) (Cn := RJx4a65c) C (c_JL_ed hl hk hn) rfl (cnt_fix (by decide)) (fun _ => rfl) rfl rfl mw_172 mw_169 mw_170 mw_171 mw_23 (by decide +kernel) (by decide) rfl rfl (Nat.le_of_ble_eq_true rfl) dJx4a65c_get_915e3_11 (Nat.le_of_ble_eq_true rfl) (Nat.le_of_ble_eq_true rfl) ?_
  exact e_aret C rfl (Nat.le_of_ble_eq_true rfl) (Nat.le_of_ble_eq_true rfl) dJx4a65c_get_915e3_14 (pO.mk rfl)
set_option maxRecDepth 100000 in
set_option maxHeartbeats 4000000 in
theorem c_X2_requireIndex {l : Launch} (hl : l.stackTraces = false) {n : Nat} {ρ : Nat → Nat} {J : Nat → Int64} {M : Mem} {x y : Int32} (h0 : ¬ x < 0) (h1 : x < y) : CtO l yX2_requireIndex cX2_requireIndex 2 none 6 1 6 n ρ J M [.int x, .int y] (.inr none, M) := by
  refine CtO.of hl (by decide +kernel) (Nat.le_of_ble_eq_true rfl) (fun Ξ hnL C => ?_)
  show E Ξ n ρ J M 0 0 0 [(0, .int x), (1, .int y)] []
  refine e_iload_n (j := 0) C dX2_requireIndex_0 rfl rfl ?_
  refine e_if_lt (tgt := 9) C dX2_requireIndex_1 (by decide) (fun c_1 => absurd c_1 h0) (fun c_1 => ?_)
  refine e_iload_n (j := 0) C dX2_requireIndex_4 rfl rfl ?_
  refine e_iload_n (j := 1) C dX2_requireIndex_5 rfl rfl ?_
  refine e_icmp_lt (tgt := 19) C dX2_requireIndex_6 (by decide) (fun c_6 => ?_) (fun c_6 => absurd h1 c_6)
  exact e_vret C rfl (Nat.le_of_ble_eq_true rfl) (Nat.le_of_ble_eq_true rfl) dX2_requireIndex_19 (pO.mk rfl)
set_option maxRecDepth 100000 in
set_option maxHeartbeats 4000000 in
theorem c_X2_requireIndex_x {l : Launch} (hl : l.stackTraces = false) {n : Nat} {ρ : Nat → Nat} {J : Nat → Int64} {M : Mem} {x y : Int32} (h : x < 0 ∨ y ≤ x) : CtO l yX2_requireIndex cX2_requireIndex 2 none 6 1 6 n ρ J M [.int x, .int y] (.inl IX, M) := by
  refine CtO.of hl (by decide +kernel) (Nat.le_of_ble_eq_true rfl) (fun Ξ hnL C => ?_)
  show E Ξ n ρ J M 0 0 0 [(0, .int x), (1, .int y)] []
  rcases h with h | h
  · refine e_iload_n (j := 0) C dX2_requireIndex_0 rfl rfl ?_
    refine e_if_lt (tgt := 9) C dX2_requireIndex_1 (by decide) (fun c_1 => ?_) (fun c_1 => absurd h c_1)
    exact e_throw (text := "there is none of this number") C th_IX mw_155 mw_156 (by decide) rfl rfl dX2_requireIndex_9 dX2_requireIndex_12 dX2_requireIndex_13 dX2_requireIndex_15 dX2_requireIndex_18 (by decide) (Nat.le_of_ble_eq_true rfl) (Nat.le_of_ble_eq_true rfl) (Nat.le_of_ble_eq_true rfl) (Nat.le_of_ble_eq_true rfl) (Nat.le_of_ble_eq_true rfl) (xO.mk rfl)
  · by_cases h0 : x < 0
    · refine e_iload_n (j := 0) C dX2_requireIndex_0 rfl rfl ?_
      refine e_if_lt (tgt := 9) C dX2_requireIndex_1 (by decide) (fun c_1 => ?_) (fun c_1 => absurd h0 c_1)
      exact e_throw (text := "there is none of this number") C th_IX mw_155 mw_156 (by decide) rfl rfl dX2_requireIndex_9 dX2_requireIndex_12 dX2_requireIndex_13 dX2_requireIndex_15 dX2_requireIndex_18 (by decide) (Nat.le_of_ble_eq_true rfl) (Nat.le_of_ble_eq_true rfl) (Nat.le_of_ble_eq_true rfl) (Nat.le_of_ble_eq_true rfl) (Nat.le_of_ble_eq_true rfl) (xO.mk rfl)
    · refine e_iload_n (j := 0) C dX2_requireIndex_0 rfl rfl ?_
      refine e_if_lt (tgt := 9) C dX2_requireIndex_1 (by decide) (fun c_1 => absurd c_1 h0) (fun c_1 => ?_)
      refine e_iload_n (j := 0) C dX2_requireIndex_4 rfl rfl ?_
      refine e_iload_n (j := 1) C dX2_requireIndex_5 rfl rfl ?_
      refine e_icmp_lt (tgt := 19) C dX2_requireIndex_6 (by decide) (fun c_6 => absurd c_6 (Int32.not_lt.mpr h)) (fun c_6 => ?_)
      exact e_throw (text := "there is none of this number") C th_IX mw_155 mw_156 (by decide) rfl rfl dX2_requireIndex_9 dX2_requireIndex_12 dX2_requireIndex_13 dX2_requireIndex_15 dX2_requireIndex_18 (by decide) (Nat.le_of_ble_eq_true rfl) (Nat.le_of_ble_eq_true rfl) (Nat.le_of_ble_eq_true rfl) (Nat.le_of_ble_eq_true rfl) (Nat.le_of_ble_eq_true rfl) (xO.mk rfl)
set_option maxRecDepth 100000 in
set_option maxHeartbeats 4000000 in
theorem c_X2_requireRange {l : Launch} (hl : l.stackTraces = false) {n : Nat} {ρ : Nat → Nat} {J : Nat → Int64} {M : Mem} {v lo hi : Int32} (h0 : ¬ v < lo) (h1 : v ≤ hi) : CtO l yX2_requireRange cX2_requireRange 3 none 6 1 6 n ρ J M [.int v, .int lo, .int hi] (.inr none, M) := by
  refine CtO.of hl (by decide +kernel) (Nat.le_of_ble_eq_true rfl) (fun Ξ hnL C => ?_)
  show E Ξ n ρ J M 0 0 0 [(0, .int v), (1, .int lo), (2, .int hi)] []
  refine e_iload_n (j := 0) C dX2_requireRange_0 rfl rfl ?_
  refine e_iload_n (j := 1) C dX2_requireRange_1 rfl rfl ?_
  refine e_icmp_lt (tgt := 10) C dX2_requireRange_2 (by decide) (fun c_2 => absurd c_2 h0) (fun c_2 => ?_)
  refine e_iload_n (j := 0) C dX2_requireRange_5 rfl rfl ?_
  refine e_iload_n (j := 2) C dX2_requireRange_6 rfl rfl ?_
  refine e_icmp_le (tgt := 20) C dX2_requireRange_7 (by decide) (fun c_7 => ?_) (fun c_7 => absurd h1 c_7)
  exact e_vret C rfl (Nat.le_of_ble_eq_true rfl) (Nat.le_of_ble_eq_true rfl) dX2_requireRange_20 (pO.mk rfl)
set_option maxRecDepth 100000 in
set_option maxHeartbeats 4000000 in
theorem c_X2_requireRange_x {l : Launch} (hl : l.stackTraces = false) {n : Nat} {ρ : Nat → Nat} {J : Nat → Int64} {M : Mem} {v lo hi : Int32} (h : v < lo ∨ hi < v) : CtO l yX2_requireRange cX2_requireRange 3 none 6 1 6 n ρ J M [.int v, .int lo, .int hi] (.inl IA, M) := by
  refine CtO.of hl (by decide +kernel) (Nat.le_of_ble_eq_true rfl) (fun Ξ hnL C => ?_)
  show E Ξ n ρ J M 0 0 0 [(0, .int v), (1, .int lo), (2, .int hi)] []
  rcases h with h | h
  · refine e_iload_n (j := 0) C dX2_requireRange_0 rfl rfl ?_
    refine e_iload_n (j := 1) C dX2_requireRange_1 rfl rfl ?_
    refine e_icmp_lt (tgt := 10) C dX2_requireRange_2 (by decide) (fun c_2 => ?_) (fun c_2 => absurd h c_2)
    exact e_throw (text := "out of its range") C th_IA mw_176 mw_177 (by decide) rfl rfl dX2_requireRange_10 dX2_requireRange_13 dX2_requireRange_14 dX2_requireRange_16 dX2_requireRange_19 (by decide) (Nat.le_of_ble_eq_true rfl) (Nat.le_of_ble_eq_true rfl) (Nat.le_of_ble_eq_true rfl) (Nat.le_of_ble_eq_true rfl) (Nat.le_of_ble_eq_true rfl) (xO.mk rfl)
  · by_cases h0 : v < lo
    · refine e_iload_n (j := 0) C dX2_requireRange_0 rfl rfl ?_
      refine e_iload_n (j := 1) C dX2_requireRange_1 rfl rfl ?_
      refine e_icmp_lt (tgt := 10) C dX2_requireRange_2 (by decide) (fun c_2 => ?_) (fun c_2 => absurd h0 c_2)
      exact e_throw (text := "out of its range") C th_IA mw_176 mw_177 (by decide) rfl rfl dX2_requireRange_10 dX2_requireRange_13 dX2_requireRange_14 dX2_requireRange_16 dX2_requireRange_19 (by decide) (Nat.le_of_ble_eq_true rfl) (Nat.le_of_ble_eq_true rfl) (Nat.le_of_ble_eq_true rfl) (Nat.le_of_ble_eq_true rfl) (Nat.le_of_ble_eq_true rfl) (xO.mk rfl)
    · refine e_iload_n (j := 0) C dX2_requireRange_0 rfl rfl ?_
      refine e_iload_n (j := 1) C dX2_requireRange_1 rfl rfl ?_
      refine e_icmp_lt (tgt := 10) C dX2_requireRange_2 (by decide) (fun c_2 => absurd c_2 h0) (fun c_2 => ?_)
      refine e_iload_n (j := 0) C dX2_requireRange_5 rfl rfl ?_
      refine e_iload_n (j := 2) C dX2_requireRange_6 rfl rfl ?_
      refine e_icmp_le (tgt := 20) C dX2_requireRange_7 (by decide) (fun c_7 => absurd c_7 (Int32.not_le.mpr h)) (fun c_7 => ?_)
      exact e_throw (text := "out of its range") C th_IA mw_176 mw_177 (by decide) rfl rfl dX2_requireRange_10 dX2_requireRange_13 dX2_requireRange_14 dX2_requireRange_16 dX2_requireRange_19 (by decide) (Nat.le_of_ble_eq_true rfl) (Nat.le_of_ble_eq_true rfl) (Nat.le_of_ble_eq_true rfl) (Nat.le_of_ble_eq_true rfl) (Nat.le_of_ble_eq_true rfl) (xO.mk rfl)
set_option maxRecDepth 100000 in
set_option maxHeartbeats 4000000 in
theorem c_X2_requireAlive {l : Launch} (hl : l.stackTraces = false) {n : Nat} {ρ : Nat → Nat} {J : Nat → Int64} {M : Mem} {k : Nat} (hk : k < n) (h : ¬ M (mO k) 0 = 0) : CtO l yX2_requireAlive cX2_requireAlive 1 none 6 1 6 n ρ J M [.ref (ρ (mO k))] (.inr none, M) := by
  refine CtO.of hl (by decide +kernel) (Nat.le_of_ble_eq_true rfl) (fun Ξ hnL C => ?_)
  show E Ξ n ρ J M 0 0 0 [(0, .ref (ρ (mO k)))] []
  refine e_aload_n (j := 0) C dX2_requireAlive_0 rfl rfl ?_
  refine e_get0 (k := 0) (kk0 := k) (ref := "ScripHollow$Miner") C hk (by decide) rfl rfl mw_181 dX2_requireAlive_1 ?_
  refine e_if_ne (tgt := 17) C dX2_requireAlive_4 (by decide) (fun c_4 => ?_) (fun c_4 => absurd c_4 h)
  exact e_vret C rfl (Nat.le_of_ble_eq_true rfl) (Nat.le_of_ble_eq_true rfl) dX2_requireAlive_17 (pO.mk rfl)
set_option maxRecDepth 100000 in
set_option maxHeartbeats 4000000 in
theorem c_X2_requireAlive_x {l : Launch} (hl : l.stackTraces = false) {n : Nat} {ρ : Nat → Nat} {J : Nat → Int64} {M : Mem} {k : Nat} (hk : k < n) (h : M (mO k) 0 = 0) : CtO l yX2_requireAlive cX2_requireAlive 1 none 6 1 6 n ρ J M [.ref (ρ (mO k))] (.inl IS, M) := by
  refine CtO.of hl (by decide +kernel) (Nat.le_of_ble_eq_true rfl) (fun Ξ hnL C => ?_)
  show E Ξ n ρ J M 0 0 0 [(0, .ref (ρ (mO k)))] []
  refine e_aload_n (j := 0) C dX2_requireAlive_0 rfl rfl ?_
  refine e_get0 (k := 0) (kk0 := k) (ref := "ScripHollow$Miner") C hk (by decide) rfl rfl mw_181 dX2_requireAlive_1 ?_
  refine e_if_ne (tgt := 17) C dX2_requireAlive_4 (by decide) (fun c_4 => absurd h c_4) (fun c_4 => ?_)
  exact e_throw (text := "the miner is not alive") C th_IS mw_61 mw_62 (by decide) rfl rfl dX2_requireAlive_7 dX2_requireAlive_10 dX2_requireAlive_11 dX2_requireAlive_13 dX2_requireAlive_16 (by decide) (Nat.le_of_ble_eq_true rfl) (Nat.le_of_ble_eq_true rfl) (Nat.le_of_ble_eq_true rfl) (Nat.le_of_ble_eq_true rfl) (Nat.le_of_ble_eq_true rfl) (xO.mk rfl)
set_option maxRecDepth 100000 in
set_option maxHeartbeats 4000000 in
theorem c_X2_minerAt {l : Launch} (hl : l.stackTraces = false) {n : Nat} {ρ : Nat → Nat} {J : Nat → Int64} {M : Mem} {k : Nat} (hk : k < n) (hn : n ≤ 10) : CtO l yX2_minerAt cX2_minerAt 2 (some (.object "ScripHollow$Miner")) 7 1 6 n ρ J M [.ref (ρ 0), .int (nI k)] (.inr (some (.ref (ρ (mO k)))), M) := by
  refine CtO.of hl (by decide +kernel) (Nat.le_of_ble_eq_true rfl) (fun Ξ hnL C => ?_)
  show E Ξ n ρ J M 0 0 0 [(0, .ref (ρ 0)), (1, .int (nI k))] []
  refine e_iload_n (j := 1) C dX2_minerAt_0 rfl rfl ?_
  refine e_aload_n (j := 0) C dX2_minerAt_1 rfl rfl ?_
  refine e_get2 (k := 0) (ref := "ScripHollow") C (by decide) rfl rfl mw_24 dX2_minerAt_2 ?_
  refine e_cV (i := 1) (nA := 0) (Cn := RJx4a65c) C (c_JL_size hl) rfl (cnt_fix (by decide)) (fun _ => rfl) rfl rfl mw_69 mw_66 mw_67 mw_68 mw_23 (by decide +kernel) (by decide) rfl rfl (Nat.le_of_ble_eq_true rfl) dX2_minerAt_5 (Nat.le_of_ble_eq_true rfl) (Nat.le_of_ble_eq_true rfl) ?_
  refine e_cS (nA := 2) C (c_X2_requireIndex hl (nI_pos (by omega)) (nI_lt hk (by omega))) rfl mw_154 mw_152 mw_153 mw_12 (by decide +kernel) (by decide) rfl rfl (Nat.le_of_ble_eq_true rfl) dX2_minerAt_8 (Nat.le_of_ble_eq_true rfl) (Nat.le_of_ble_eq_true rfl) ?_
  refine e_aload_n (j := 0) C dX2_minerAt_11 rfl rfl ?_
  refine e_get2 (k := 0) (ref := "ScripHollow") C (by decide) rfl rfl mw_24 dX2_minerAt_12 ?_
  refine e_iload_n (j := 1) C dX2_minerAt_15 rfl rfl ?_
  refine e_cV (i := 1) (nA := 1) (Cn := RJx4a65c) C (c_JL_get hl hk hn) rfl (cnt_fix (by decide)) (fun _ => rfl) rfl rfl mw_160 mw_157 mw_158 mw_159 mw_23 (by decide +kernel) (by decide) rfl rfl (Nat.le_of_ble_eq_true rfl) dX2_minerAt_16 (Nat.le_of_ble_eq_true rfl) (Nat.le_of_ble_eq_true rfl) ?_
  refine e_castM C hk mw_63 dX2_minerAt_19 ?_
  exact e_aret C rfl (Nat.le_of_ble_eq_true rfl) (Nat.le_of_ble_eq_true rfl) dX2_minerAt_22 (pO.mk rfl)
set_option maxRecDepth 100000 in
set_option maxHeartbeats 4000000 in
theorem c_X2_minerAt_x {l : Launch} (hl : l.stackTraces = false) {n : Nat} {ρ : Nat → Nat} {J : Nat → Int64} {M : Mem} {x : Int32} (h : x < 0 ∨ nI n ≤ x) : CtO l yX2_minerAt cX2_minerAt 2 (some (.object "ScripHollow$Miner")) 7 1 6 n ρ J M [.ref (ρ 0), .int x] (.inl IX, M) := by
  refine CtO.of hl (by decide +kernel) (Nat.le_of_ble_eq_true rfl) (fun Ξ hnL C => ?_)
  show E Ξ n ρ J M 0 0 0 [(0, .ref (ρ 0)), (1, .int x)] []
  refine e_iload_n (j := 1) C dX2_minerAt_0 rfl rfl ?_
  refine e_aload_n (j := 0) C dX2_minerAt_1 rfl rfl ?_
  refine e_get2 (k := 0) (ref := "ScripHollow") C (by decide) rfl rfl mw_24 dX2_minerAt_2 ?_
  refine e_cV (i := 1) (nA := 0) (Cn := RJx4a65c) C (c_JL_size hl) rfl (cnt_fix (by decide)) (fun _ => rfl) rfl rfl mw_69 mw_66 mw_67 mw_68 mw_23 (by decide +kernel) (by decide) rfl rfl (Nat.le_of_ble_eq_true rfl) dX2_minerAt_5 (Nat.le_of_ble_eq_true rfl) (Nat.le_of_ble_eq_true rfl) ?_
  exact e_cSx (nA := 2) C (c_X2_requireIndex_x hl h) rfl mw_154 mw_152 mw_153 mw_12 (by decide +kernel) (by decide) rfl rfl (Nat.le_of_ble_eq_true rfl) dX2_minerAt_8 (Nat.le_of_ble_eq_true rfl) (Nat.le_of_ble_eq_true rfl) rfl
set_option maxRecDepth 100000 in
set_option maxHeartbeats 4000000 in
theorem c_X2_requireGoods {l : Launch} (hl : l.stackTraces = false) {n : Nat} {ρ : Nat → Nat} {J : Nat → Int64} {M : Mem} {g : Nat} (hg : g < 4) : CtO l yX2_requireGoods cX2_requireGoods 1 none 7 1 6 n ρ J M [.int (nI g)] (.inr none, M) := by
  refine CtO.of hl (by decide +kernel) (Nat.le_of_ble_eq_true rfl) (fun Ξ hnL C => ?_)
  show E Ξ n ρ J M 0 0 0 [(0, .int (nI g))] []
  refine e_iload_n (j := 0) C dX2_requireGoods_0 rfl rfl ?_
  refine e_iconst (v := 4) C dX2_requireGoods_1 (by decide) ?_
  refine e_cS (nA := 2) C (c_X2_requireIndex hl (nI_pos (by omega)) (nI_lt (b := 4) hg (by omega))) rfl mw_154 mw_152 mw_153 mw_12 (by decide +kernel) (by decide) rfl rfl (Nat.le_of_ble_eq_true rfl) dX2_requireGoods_2 (Nat.le_of_ble_eq_true rfl) (Nat.le_of_ble_eq_true rfl) ?_
  exact e_vret C rfl (Nat.le_of_ble_eq_true rfl) (Nat.le_of_ble_eq_true rfl) dX2_requireGoods_5 (pO.mk rfl)
set_option maxRecDepth 100000 in
set_option maxHeartbeats 4000000 in
theorem c_X2_requireGoods_x {l : Launch} (hl : l.stackTraces = false) {n : Nat} {ρ : Nat → Nat} {J : Nat → Int64} {M : Mem} {x : Int32} (h : x < 0 ∨ 4 ≤ x) : CtO l yX2_requireGoods cX2_requireGoods 1 none 7 1 6 n ρ J M [.int x] (.inl IX, M) := by
  refine CtO.of hl (by decide +kernel) (Nat.le_of_ble_eq_true rfl) (fun Ξ hnL C => ?_)
  show E Ξ n ρ J M 0 0 0 [(0, .int x)] []
  refine e_iload_n (j := 0) C dX2_requireGoods_0 rfl rfl ?_
  refine e_iconst (v := 4) C dX2_requireGoods_1 (by decide) ?_
  exact e_cSx (nA := 2) C (c_X2_requireIndex_x hl h) rfl mw_154 mw_152 mw_153 mw_12 (by decide +kernel) (by decide) rfl rfl (Nat.le_of_ble_eq_true rfl) dX2_requireGoods_2 (Nat.le_of_ble_eq_true rfl) (Nat.le_of_ble_eq_true rfl) rfl
end
section
/-! The class's smaller methods. -/
abbrev rI (r : Int32) (M : Mem) : Out := (.inr (some (.int r)), M)
abbrev rV (M : Mem) : Out := (.inr none, M)
abbrev rX (Ex : String) (M : Mem) : Out := (.inl Ex, M)
def o_dock (M : Mem) (x : Int32) : Out := if x < 0 ∨ 50 < x then rX IA M else rI (M 0 1) (up M 0 1 x)
set_option maxRecDepth 100000 in
set_option maxHeartbeats 4000000 in
theorem c_X2_dock {l : Launch} (hl : l.stackTraces = false) {n : Nat} {ρ : Nat → Nat} {J : Nat → Int64} {M : Mem} {x : Int32} : CtO l yX2_dock cX2_dock 3 (some .int) 7 1 6 n ρ J M [.ref (ρ 0), .int x] (o_dock M x) := by
  refine CtO.of hl (by decide +kernel) (Nat.le_of_ble_eq_true rfl) (fun Ξ hnL C => ?_)
  show E Ξ n ρ J M 0 0 0 [(0, .ref (ρ 0)), (1, .int x)] []
  by_cases h : x < 0 ∨ 50 < x
  · refine e_iload_n (j := 1) C dX2_dock_0 rfl rfl ?_
    refine e_iconst (v := 0) C dX2_dock_1 (by decide) ?_
    refine e_bipush (v := 50) C dX2_dock_2 (by decide) ?_
    exact e_cSx (nA := 3) C (c_X2_requireRange_x hl h) rfl mw_175 mw_173 mw_174 mw_12 (by decide +kernel) (by decide) rfl rfl (Nat.le_of_ble_eq_true rfl) dX2_dock_4 (Nat.le_of_ble_eq_true rfl) (Nat.le_of_ble_eq_true rfl) (by subst_vars; unfold o_dock; (repeat (first | rw [if_pos (by assumption)] | rw [if_neg (by assumption)])); (try rfl))
  · refine e_iload_n (j := 1) C dX2_dock_0 rfl rfl ?_
    refine e_iconst (v := 0) C dX2_dock_1 (by decide) ?_
    refine e_bipush (v := 50) C dX2_dock_2 (by decide) ?_
    refine e_cS (nA := 3) C (c_X2_requireRange hl (rng_ok h).1 (rng_ok h).2) rfl mw_175 mw_173 mw_174 mw_12 (by decide +kernel) (by decide) rfl rfl (Nat.le_of_ble_eq_true rfl) dX2_dock_4 (Nat.le_of_ble_eq_true rfl) (Nat.le_of_ble_eq_true rfl) ?_
    refine e_aload_n (j := 0) C dX2_dock_7 rfl rfl ?_
    refine e_get2 (k := 1) (ref := "ScripHollow") C (by decide) rfl rfl mw_25 dX2_dock_8 ?_
    refine e_topi (fun x2_11 ex2_11 => ?_)
    refine e_istore_n (ls2 := [(2, .int x2_11), (0, .ref (ρ 0)), (1, .int x)]) C hnL dX2_dock_11 rfl (by decide) rfl ?_
    refine e_aload_n (j := 1) C dX2_dock_12 rfl rfl ?_
    refine e_iload_n (j := 2) C dX2_dock_13 rfl rfl ?_
    refine e_put2 (k := 1) (ref := "ScripHollow") (ty := .int) C (by decide) rfl rfl (by decide +kernel) rfl rfl rfl mw_25 dX2_dock_14 ?_
    refine e_iload_n (j := 0) C dX2_dock_17 rfl rfl ?_
    exact e_iret C rfl (Nat.le_of_ble_eq_true rfl) (Nat.le_of_ble_eq_true rfl) dX2_dock_18 (pO.mk (by subst_vars; unfold o_dock; (repeat (first | rw [if_pos (by assumption)] | rw [if_neg (by assumption)])); (try rfl)))
def o_limit (M : Mem) (x : Int32) : Out := if x < 0 ∨ 1000 < x then rX IA M else rI (M 0 9) (up M 0 9 x)
set_option maxRecDepth 100000 in
set_option maxHeartbeats 4000000 in
theorem c_X2_limit {l : Launch} (hl : l.stackTraces = false) {n : Nat} {ρ : Nat → Nat} {J : Nat → Int64} {M : Mem} {x : Int32} : CtO l yX2_limit cX2_limit 3 (some .int) 7 1 6 n ρ J M [.ref (ρ 0), .int x] (o_limit M x) := by
  refine CtO.of hl (by decide +kernel) (Nat.le_of_ble_eq_true rfl) (fun Ξ hnL C => ?_)
  show E Ξ n ρ J M 0 0 0 [(0, .ref (ρ 0)), (1, .int x)] []
  by_cases h : x < 0 ∨ 1000 < x
  · refine e_iload_n (j := 1) C dX2_limit_0 rfl rfl ?_
    refine e_iconst (v := 0) C dX2_limit_1 (by decide) ?_
    refine e_sipush (v := 1000) C dX2_limit_2 (by decide) ?_
    exact e_cSx (nA := 3) C (c_X2_requireRange_x hl h) rfl mw_175 mw_173 mw_174 mw_12 (by decide +kernel) (by decide) rfl rfl (Nat.le_of_ble_eq_true rfl) dX2_limit_5 (Nat.le_of_ble_eq_true rfl) (Nat.le_of_ble_eq_true rfl) (by subst_vars; unfold o_limit; (repeat (first | rw [if_pos (by assumption)] | rw [if_neg (by assumption)])); (try rfl))
  · refine e_iload_n (j := 1) C dX2_limit_0 rfl rfl ?_
    refine e_iconst (v := 0) C dX2_limit_1 (by decide) ?_
    refine e_sipush (v := 1000) C dX2_limit_2 (by decide) ?_
    refine e_cS (nA := 3) C (c_X2_requireRange hl (rng_ok h).1 (rng_ok h).2) rfl mw_175 mw_173 mw_174 mw_12 (by decide +kernel) (by decide) rfl rfl (Nat.le_of_ble_eq_true rfl) dX2_limit_5 (Nat.le_of_ble_eq_true rfl) (Nat.le_of_ble_eq_true rfl) ?_
    refine e_aload_n (j := 0) C dX2_limit_8 rfl rfl ?_
    refine e_get2 (k := 9) (ref := "ScripHollow") C (by decide) rfl rfl mw_34 dX2_limit_9 ?_
    refine e_topi (fun x2_12 ex2_12 => ?_)
    refine e_istore_n (ls2 := [(2, .int x2_12), (0, .ref (ρ 0)), (1, .int x)]) C hnL dX2_limit_12 rfl (by decide) rfl ?_
    refine e_aload_n (j := 1) C dX2_limit_13 rfl rfl ?_
    refine e_iload_n (j := 2) C dX2_limit_14 rfl rfl ?_
    refine e_put2 (k := 9) (ref := "ScripHollow") (ty := .int) C (by decide) rfl rfl (by decide +kernel) rfl rfl rfl mw_34 dX2_limit_15 ?_
    refine e_iload_n (j := 0) C dX2_limit_18 rfl rfl ?_
    exact e_iret C rfl (Nat.le_of_ble_eq_true rfl) (Nat.le_of_ble_eq_true rfl) dX2_limit_19 (pO.mk (by subst_vars; unfold o_limit; (repeat (first | rw [if_pos (by assumption)] | rw [if_neg (by assumption)])); (try rfl)))
def o_discount (M : Mem) (x : Int32) : Out := if x < 0 ∨ 90 < x then rX IA M else rI (M 0 10) (up M 0 10 x)
set_option maxRecDepth 100000 in
set_option maxHeartbeats 4000000 in
theorem c_X2_discount {l : Launch} (hl : l.stackTraces = false) {n : Nat} {ρ : Nat → Nat} {J : Nat → Int64} {M : Mem} {x : Int32} : CtO l yX2_discount cX2_discount 3 (some .int) 7 1 6 n ρ J M [.ref (ρ 0), .int x] (o_discount M x) := by
  refine CtO.of hl (by decide +kernel) (Nat.le_of_ble_eq_true rfl) (fun Ξ hnL C => ?_)
  show E Ξ n ρ J M 0 0 0 [(0, .ref (ρ 0)), (1, .int x)] []
  by_cases h : x < 0 ∨ 90 < x
  · refine e_iload_n (j := 1) C dX2_discount_0 rfl rfl ?_
    refine e_iconst (v := 0) C dX2_discount_1 (by decide) ?_
    refine e_bipush (v := 90) C dX2_discount_2 (by decide) ?_
    exact e_cSx (nA := 3) C (c_X2_requireRange_x hl h) rfl mw_175 mw_173 mw_174 mw_12 (by decide +kernel) (by decide) rfl rfl (Nat.le_of_ble_eq_true rfl) dX2_discount_4 (Nat.le_of_ble_eq_true rfl) (Nat.le_of_ble_eq_true rfl) (by subst_vars; unfold o_discount; (repeat (first | rw [if_pos (by assumption)] | rw [if_neg (by assumption)])); (try rfl))
  · refine e_iload_n (j := 1) C dX2_discount_0 rfl rfl ?_
    refine e_iconst (v := 0) C dX2_discount_1 (by decide) ?_
    refine e_bipush (v := 90) C dX2_discount_2 (by decide) ?_
    refine e_cS (nA := 3) C (c_X2_requireRange hl (rng_ok h).1 (rng_ok h).2) rfl mw_175 mw_173 mw_174 mw_12 (by decide +kernel) (by decide) rfl rfl (Nat.le_of_ble_eq_true rfl) dX2_discount_4 (Nat.le_of_ble_eq_true rfl) (Nat.le_of_ble_eq_true rfl) ?_
    refine e_aload_n (j := 0) C dX2_discount_7 rfl rfl ?_
    refine e_get2 (k := 10) (ref := "ScripHollow") C (by decide) rfl rfl mw_35 dX2_discount_8 ?_
    refine e_topi (fun x2_11 ex2_11 => ?_)
    refine e_istore_n (ls2 := [(2, .int x2_11), (0, .ref (ρ 0)), (1, .int x)]) C hnL dX2_discount_11 rfl (by decide) rfl ?_
    refine e_aload_n (j := 1) C dX2_discount_12 rfl rfl ?_
    refine e_iload_n (j := 2) C dX2_discount_13 rfl rfl ?_
    refine e_put2 (k := 10) (ref := "ScripHollow") (ty := .int) C (by decide) rfl rfl (by decide +kernel) rfl rfl rfl mw_35 dX2_discount_14 ?_
    refine e_iload_n (j := 0) C dX2_discount_17 rfl rfl ?_
    exact e_iret C rfl (Nat.le_of_ble_eq_true rfl) (Nat.le_of_ble_eq_true rfl) dX2_discount_18 (pO.mk (by subst_vars; unfold o_discount; (repeat (first | rw [if_pos (by assumption)] | rw [if_neg (by assumption)])); (try rfl)))
set_option maxRecDepth 100000 in
set_option maxHeartbeats 4000000 in
theorem c_X2_check {l : Launch} (hl : l.stackTraces = false) {n : Nat} {ρ : Nat → Nat} {J : Nat → Int64} {M : Mem} {x : Int32} (hx : isB x) (hb : isB (M 0 2)) : CtO l yX2_check cX2_check 3 (some .boolean) 0 0 0 n ρ J M [.ref (ρ 0), .int x] (rI (M 0 2) (up M 0 2 x)) := by
  refine CtO.of hl (by decide +kernel) (Nat.le_of_ble_eq_true rfl) (fun Ξ hnL C => ?_)
  show E Ξ n ρ J M 0 0 0 [(0, .ref (ρ 0)), (1, .int x)] []
  refine e_aload_n (j := 0) C dX2_check_0 rfl rfl ?_
  refine e_get2 (k := 2) (ref := "ScripHollow") C (by decide) rfl rfl mw_146 dX2_check_1 ?_
  refine e_topi (fun x2_4 ex2_4 => ?_)
  refine e_istore_n (ls2 := [(2, .int x2_4), (0, .ref (ρ 0)), (1, .int x)]) C hnL dX2_check_4 rfl (by decide) rfl ?_
  refine e_aload_n (j := 1) C dX2_check_5 rfl rfl ?_
  refine e_iload_n (j := 2) C dX2_check_6 rfl rfl ?_
  refine e_put2 (k := 2) (ref := "ScripHollow") (ty := .boolean) C (by decide) rfl rfl (by decide +kernel) (isB.nar (by assumption)) (isB.fit (by assumption)) rfl mw_146 dX2_check_7 ?_
  refine e_iload_n (j := 0) C dX2_check_10 rfl rfl ?_
  exact e_zret C rfl (isB.nar (by subst_vars; assumption)) (Nat.le_of_ble_eq_true rfl) (Nat.le_of_ble_eq_true rfl) dX2_check_11 (pO.mk (by subst_vars; rfl))
set_option maxRecDepth 100000 in
set_option maxHeartbeats 4000000 in
theorem c_X2_obey {l : Launch} (hl : l.stackTraces = false) {n : Nat} {ρ : Nat → Nat} {J : Nat → Int64} {M : Mem} {x : Int32} (hx : isB x) (hb : isB (M 0 12)) : CtO l yX2_obey cX2_obey 3 (some .boolean) 0 0 0 n ρ J M [.ref (ρ 0), .int x] (rI (M 0 12) (up M 0 12 x)) := by
  refine CtO.of hl (by decide +kernel) (Nat.le_of_ble_eq_true rfl) (fun Ξ hnL C => ?_)
  show E Ξ n ρ J M 0 0 0 [(0, .ref (ρ 0)), (1, .int x)] []
  refine e_aload_n (j := 0) C dX2_obey_0 rfl rfl ?_
  refine e_get2 (k := 12) (ref := "ScripHollow") C (by decide) rfl rfl mw_224 dX2_obey_1 ?_
  refine e_topi (fun x2_4 ex2_4 => ?_)
  refine e_istore_n (ls2 := [(2, .int x2_4), (0, .ref (ρ 0)), (1, .int x)]) C hnL dX2_obey_4 rfl (by decide) rfl ?_
  refine e_aload_n (j := 1) C dX2_obey_5 rfl rfl ?_
  refine e_iload_n (j := 2) C dX2_obey_6 rfl rfl ?_
  refine e_put2 (k := 12) (ref := "ScripHollow") (ty := .boolean) C (by decide) rfl rfl (by decide +kernel) (isB.nar (by assumption)) (isB.fit (by assumption)) rfl mw_224 dX2_obey_7 ?_
  refine e_iload_n (j := 0) C dX2_obey_10 rfl rfl ?_
  exact e_zret C rfl (isB.nar (by subst_vars; assumption)) (Nat.le_of_ble_eq_true rfl) (Nat.le_of_ble_eq_true rfl) dX2_obey_11 (pO.mk (by subst_vars; rfl))
set_option maxRecDepth 100000 in
set_option maxHeartbeats 4000000 in
theorem c_X2_breaches {l : Launch} (hl : l.stackTraces = false) {n : Nat} {ρ : Nat → Nat} {J : Nat → Int64} {M : Mem}  : CtO l yX2_breaches cX2_breaches 1 (some .int) 0 0 0 n ρ J M [.ref (ρ 0)] (rI (M 0 13) M) := by
  refine CtO.of hl (by decide +kernel) (Nat.le_of_ble_eq_true rfl) (fun Ξ hnL C => ?_)
  show E Ξ n ρ J M 0 0 0 [(0, .ref (ρ 0))] []
  refine e_aload_n (j := 0) C dX2_breaches_0 rfl rfl ?_
  refine e_get2 (k := 13) (ref := "ScripHollow") C (by decide) rfl rfl mw_234 dX2_breaches_1 ?_
  exact e_iret C rfl (Nat.le_of_ble_eq_true rfl) (Nat.le_of_ble_eq_true rfl) dX2_breaches_4 (pO.mk rfl)
def o_give (M : Mem) (x : Int32) : Out := if x < 1 ∨ 1000 < x then rX IA M else rI (up M 0 16 (M 0 16 + x) 0 16) (up M 0 16 (M 0 16 + x))
set_option maxRecDepth 100000 in
set_option maxHeartbeats 4000000 in
theorem c_X2_give {l : Launch} (hl : l.stackTraces = false) {n : Nat} {ρ : Nat → Nat} {J : Nat → Int64} {M : Mem} {x : Int32} : CtO l yX2_give cX2_give 2 (some .int) 7 1 6 n ρ J M [.ref (ρ 0), .int x] (o_give M x) := by
  refine CtO.of hl (by decide +kernel) (Nat.le_of_ble_eq_true rfl) (fun Ξ hnL C => ?_)
  show E Ξ n ρ J M 0 0 0 [(0, .ref (ρ 0)), (1, .int x)] []
  by_cases h : x < 1 ∨ 1000 < x
  · refine e_iload_n (j := 1) C dX2_give_0 rfl rfl ?_
    refine e_iconst (v := 1) C dX2_give_1 (by decide) ?_
    refine e_sipush (v := 1000) C dX2_give_2 (by decide) ?_
    exact e_cSx (nA := 3) C (c_X2_requireRange_x hl h) rfl mw_175 mw_173 mw_174 mw_12 (by decide +kernel) (by decide) rfl rfl (Nat.le_of_ble_eq_true rfl) dX2_give_5 (Nat.le_of_ble_eq_true rfl) (Nat.le_of_ble_eq_true rfl) (by subst_vars; unfold o_give; (repeat (first | rw [if_pos (by assumption)] | rw [if_neg (by assumption)])); (try rfl))
  · refine e_iload_n (j := 1) C dX2_give_0 rfl rfl ?_
    refine e_iconst (v := 1) C dX2_give_1 (by decide) ?_
    refine e_sipush (v := 1000) C dX2_give_2 (by decide) ?_
    refine e_cS (nA := 3) C (c_X2_requireRange hl (rng_ok h).1 (rng_ok h).2) rfl mw_175 mw_173 mw_174 mw_12 (by decide +kernel) (by decide) rfl rfl (Nat.le_of_ble_eq_true rfl) dX2_give_5 (Nat.le_of_ble_eq_true rfl) (Nat.le_of_ble_eq_true rfl) ?_
    refine e_aload_n (j := 0) C dX2_give_8 rfl rfl ?_
    refine e_dup C dX2_give_9 rfl ?_
    refine e_get2 (k := 16) (ref := "ScripHollow") C (by decide) rfl rfl mw_368 dX2_give_10 ?_
    refine e_iload_n (j := 1) C dX2_give_13 rfl rfl ?_
    refine e_iadd C dX2_give_14 ?_
    refine e_put2 (k := 16) (ref := "ScripHollow") (ty := .int) C (by decide) rfl rfl (by decide +kernel) rfl rfl rfl mw_368 dX2_give_15 ?_
    refine e_aload_n (j := 0) C dX2_give_18 rfl rfl ?_
    refine e_get2 (k := 16) (ref := "ScripHollow") C (by decide) rfl rfl mw_368 dX2_give_19 ?_
    exact e_iret C rfl (Nat.le_of_ble_eq_true rfl) (Nat.le_of_ble_eq_true rfl) dX2_give_22 (pO.mk (by subst_vars; unfold o_give; (repeat (first | rw [if_pos (by assumption)] | rw [if_neg (by assumption)])); (try rfl)))
set_option maxRecDepth 100000 in
set_option maxHeartbeats 4000000 in
theorem c_X2_hew_x {l : Launch} (hl : l.stackTraces = false) {n : Nat} {ρ : Nat → Nat} {J : Nat → Int64} {M : Mem} {x : Int32} (h : x < 0 ∨ nI n ≤ x) {w : Int32} : CtO l yX2_hew cX2_hew 4 (some .int) 8 1 6 n ρ J M [.ref (ρ 0), .int x, .int w] (rX IX M) := by
  refine CtO.of hl (by decide +kernel) (Nat.le_of_ble_eq_true rfl) (fun Ξ hnL C => ?_)
  show E Ξ n ρ J M 0 0 0 [(0, .ref (ρ 0)), (1, .int x), (2, .int w)] []
  refine e_aload_n (j := 0) C dX2_hew_0 rfl rfl ?_
  refine e_iload_n (j := 1) C dX2_hew_1 rfl rfl ?_
  exact e_cVx (i := 0) (nA := 1) (Cn := RX2) C (c_X2_minerAt_x hl h) rfl (cnt_fix (by decide)) (fun _ => rfl) rfl rfl mw_150 mw_147 mw_148 mw_149 mw_12 (by decide +kernel) (by decide) rfl rfl (Nat.le_of_ble_eq_true rfl) dX2_hew_2 (Nat.le_of_ble_eq_true rfl) (Nat.le_of_ble_eq_true rfl) rfl
def hewn (M : Mem) (w : Int32) : Int32 := if M 0 2 = 0 then w * (100 - M 0 1) / 100 else w
def o_hew (M : Mem) (k : Nat) (w : Int32) : Out := if w < 1 ∨ 1000 < w then rX IA M else if M (mO k) 0 = 0 then rX IS M else if M 0 14 = 0 then (if M 0 15 = 0 then rI (up M (mO k) 4 (M (mO k) 4 + hewn M w) (mO k) 4) (up M (mO k) 4 (M (mO k) 4 + hewn M w)) else rX IS M) else rX IS M
set_option maxRecDepth 100000 in
set_option maxHeartbeats 4000000 in
theorem c_X2_hew {l : Launch} (hl : l.stackTraces = false) {n : Nat} {ρ : Nat → Nat} {J : Nat → Int64} {M : Mem} {k : Nat} (hk : k < n) (hn : n ≤ 10) {w : Int32} : CtO l yX2_hew cX2_hew 4 (some .int) 8 4 24 n ρ J M [.ref (ρ 0), .int (nI k), .int w] (o_hew M k w) := by
  refine CtO.of hl (by decide +kernel) (Nat.le_of_ble_eq_true rfl) (fun Ξ hnL C => ?_)
  show E Ξ n ρ J M 0 0 0 [(0, .ref (ρ 0)), (1, .int (nI k)), (2, .int w)] []
  by_cases h : w < 1 ∨ 1000 < w
  · refine e_aload_n (j := 0) C dX2_hew_0 rfl rfl ?_
    refine e_iload_n (j := 1) C dX2_hew_1 rfl rfl ?_
    refine e_cV (i := 0) (nA := 1) (Cn := RX2) C (c_X2_minerAt hl hk hn) rfl (cnt_fix (by decide)) (fun _ => rfl) rfl rfl mw_150 mw_147 mw_148 mw_149 mw_12 (by decide +kernel) (by decide) rfl rfl (Nat.le_of_ble_eq_true rfl) dX2_hew_2 (Nat.le_of_ble_eq_true rfl) (Nat.le_of_ble_eq_true rfl) ?_
    refine e_astore_n (ls2 := [(3, .ref (ρ (mO k))), (0, .ref (ρ 0)), (1, .int (nI k)), (2, .int w)]) C hnL dX2_hew_5 rfl (by decide) rfl ?_
    refine e_iload_n (j := 3) C dX2_hew_6 rfl rfl ?_
    refine e_iconst (v := 1) C dX2_hew_7 (by decide) ?_
    refine e_sipush (v := 1000) C dX2_hew_8 (by decide) ?_
    exact e_cSx (nA := 3) C (c_X2_requireRange_x hl h) rfl mw_175 mw_173 mw_174 mw_12 (by decide +kernel) (by decide) rfl rfl (Nat.le_of_ble_eq_true rfl) dX2_hew_11 (Nat.le_of_ble_eq_true rfl) (Nat.le_of_ble_eq_true rfl) (by subst_vars; unfold o_hew hewn; (repeat (first | rw [if_pos (by assumption)] | rw [if_neg (by assumption)])); (try rfl))
  · by_cases h2 : M (mO k) 0 = 0
    · refine e_aload_n (j := 0) C dX2_hew_0 rfl rfl ?_
      refine e_iload_n (j := 1) C dX2_hew_1 rfl rfl ?_
      refine e_cV (i := 0) (nA := 1) (Cn := RX2) C (c_X2_minerAt hl hk hn) rfl (cnt_fix (by decide)) (fun _ => rfl) rfl rfl mw_150 mw_147 mw_148 mw_149 mw_12 (by decide +kernel) (by decide) rfl rfl (Nat.le_of_ble_eq_true rfl) dX2_hew_2 (Nat.le_of_ble_eq_true rfl) (Nat.le_of_ble_eq_true rfl) ?_
      refine e_astore_n (ls2 := [(3, .ref (ρ (mO k))), (0, .ref (ρ 0)), (1, .int (nI k)), (2, .int w)]) C hnL dX2_hew_5 rfl (by decide) rfl ?_
      refine e_iload_n (j := 3) C dX2_hew_6 rfl rfl ?_
      refine e_iconst (v := 1) C dX2_hew_7 (by decide) ?_
      refine e_sipush (v := 1000) C dX2_hew_8 (by decide) ?_
      refine e_cS (nA := 3) C (c_X2_requireRange hl (rng_ok h).1 (rng_ok h).2) rfl mw_175 mw_173 mw_174 mw_12 (by decide +kernel) (by decide) rfl rfl (Nat.le_of_ble_eq_true rfl) dX2_hew_11 (Nat.le_of_ble_eq_true rfl) (Nat.le_of_ble_eq_true rfl) ?_
      refine e_aload_n (j := 0) C dX2_hew_14 rfl rfl ?_
      exact e_cSx (nA := 1) C (c_X2_requireAlive_x hl hk h2) rfl mw_180 mw_178 mw_179 mw_12 (by decide +kernel) (by decide) rfl rfl (Nat.le_of_ble_eq_true rfl) dX2_hew_15 (Nat.le_of_ble_eq_true rfl) (Nat.le_of_ble_eq_true rfl) (by subst_vars; unfold o_hew hewn; (repeat (first | rw [if_pos (by assumption)] | rw [if_neg (by assumption)])); (try rfl))
    · refine e_aload_n (j := 0) C dX2_hew_0 rfl rfl ?_
      refine e_iload_n (j := 1) C dX2_hew_1 rfl rfl ?_
      refine e_cV (i := 0) (nA := 1) (Cn := RX2) C (c_X2_minerAt hl hk hn) rfl (cnt_fix (by decide)) (fun _ => rfl) rfl rfl mw_150 mw_147 mw_148 mw_149 mw_12 (by decide +kernel) (by decide) rfl rfl (Nat.le_of_ble_eq_true rfl) dX2_hew_2 (Nat.le_of_ble_eq_true rfl) (Nat.le_of_ble_eq_true rfl) ?_
      refine e_astore_n (ls2 := [(3, .ref (ρ (mO k))), (0, .ref (ρ 0)), (1, .int (nI k)), (2, .int w)]) C hnL dX2_hew_5 rfl (by decide) rfl ?_
      refine e_iload_n (j := 3) C dX2_hew_6 rfl rfl ?_
      refine e_iconst (v := 1) C dX2_hew_7 (by decide) ?_
      refine e_sipush (v := 1000) C dX2_hew_8 (by decide) ?_
      refine e_cS (nA := 3) C (c_X2_requireRange hl (rng_ok h).1 (rng_ok h).2) rfl mw_175 mw_173 mw_174 mw_12 (by decide +kernel) (by decide) rfl rfl (Nat.le_of_ble_eq_true rfl) dX2_hew_11 (Nat.le_of_ble_eq_true rfl) (Nat.le_of_ble_eq_true rfl) ?_
      refine e_aload_n (j := 0) C dX2_hew_14 rfl rfl ?_
      refine e_cS (nA := 1) C (c_X2_requireAlive hl hk h2) rfl mw_180 mw_178 mw_179 mw_12 (by decide +kernel) (by decide) rfl rfl (Nat.le_of_ble_eq_true rfl) dX2_hew_15 (Nat.le_of_ble_eq_true rfl) (Nat.le_of_ble_eq_true rfl) ?_
      refine e_aload_n (j := 1) C dX2_hew_18 rfl rfl ?_
      refine e_get2 (k := 14) (ref := "ScripHollow") C (by decide) rfl rfl mw_143 dX2_hew_19 ?_
      refine e_if_ne (tgt := 32) C dX2_hew_22 (by decide) (fun c_22 => ?_) (fun c_22 => ?_)
      · exact e_throw (text := "nobody hews now") C th_IS mw_61 mw_62 (by decide) rfl rfl dX2_hew_32 dX2_hew_35 dX2_hew_36 dX2_hew_38 dX2_hew_41 (by decide) (Nat.le_of_ble_eq_true rfl) (Nat.le_of_ble_eq_true rfl) (Nat.le_of_ble_eq_true rfl) (Nat.le_of_ble_eq_true rfl) (Nat.le_of_ble_eq_true rfl) (xO.mk (by subst_vars; unfold o_hew hewn; (repeat (first | rw [if_pos (by assumption)] | rw [if_neg (by assumption)])); (try rfl)))
      · refine e_aload_n (j := 1) C dX2_hew_25 rfl rfl ?_
        refine e_get2 (k := 15) (ref := "ScripHollow") C (by decide) rfl rfl mw_144 dX2_hew_26 ?_
        refine e_if_eq (tgt := 42) C dX2_hew_29 (by decide) (fun c_29 => ?_) (fun c_29 => ?_)
        · refine e_aload_n (j := 0) C dX2_hew_42 rfl rfl ?_
          refine e_dup C dX2_hew_43 rfl ?_
          refine e_get0 (k := 4) (kk0 := k) (ref := "ScripHollow$Miner") C hk (by decide) rfl rfl mw_145 dX2_hew_44 ?_
          refine e_aload_n (j := 1) C dX2_hew_47 rfl rfl ?_
          refine e_get2 (k := 2) (ref := "ScripHollow") C (by decide) rfl rfl mw_146 dX2_hew_48 ?_
          refine e_if_eq (tgt := 58) C dX2_hew_51 (by decide) (fun c_51 => ?_) (fun c_51 => ?_)
          · refine e_iload_n (j := 3) C dX2_hew_58 rfl rfl ?_
            refine e_bipush (v := 100) C dX2_hew_59 (by decide) ?_
            refine e_aload_n (j := 1) C dX2_hew_61 rfl rfl ?_
            refine e_get2 (k := 1) (ref := "ScripHollow") C (by decide) rfl rfl mw_25 dX2_hew_62 ?_
            refine e_isub C dX2_hew_65 ?_
            refine e_imul C dX2_hew_66 ?_
            refine e_bipush (v := 100) C dX2_hew_67 (by decide) ?_
            refine e_idiv C dX2_hew_69 (by decide) ?_
            refine e_iadd C dX2_hew_70 ?_
            refine e_put0 (k := 4) (kk0 := k) (ref := "ScripHollow$Miner") (ty := .int) C hk (by decide) rfl rfl (by decide +kernel) rfl rfl rfl mw_145 dX2_hew_71 ?_
            refine e_aload_n (j := 0) C dX2_hew_74 rfl rfl ?_
            refine e_get0 (k := 4) (kk0 := k) (ref := "ScripHollow$Miner") C hk (by decide) rfl rfl mw_145 dX2_hew_75 ?_
            exact e_iret C rfl (Nat.le_of_ble_eq_true rfl) (Nat.le_of_ble_eq_true rfl) dX2_hew_78 (pO.mk (by subst_vars; unfold o_hew hewn; (repeat (first | rw [if_pos (by assumption)] | rw [if_neg (by assumption)])); (try rfl)))
          · refine e_iload_n (j := 3) C dX2_hew_54 rfl rfl ?_
            refine e_goto (tgt := 70) C dX2_hew_55 (by decide) ?_
            refine e_iadd C dX2_hew_70 ?_
            refine e_put0 (k := 4) (kk0 := k) (ref := "ScripHollow$Miner") (ty := .int) C hk (by decide) rfl rfl (by decide +kernel) rfl rfl rfl mw_145 dX2_hew_71 ?_
            refine e_aload_n (j := 0) C dX2_hew_74 rfl rfl ?_
            refine e_get0 (k := 4) (kk0 := k) (ref := "ScripHollow$Miner") C hk (by decide) rfl rfl mw_145 dX2_hew_75 ?_
            exact e_iret C rfl (Nat.le_of_ble_eq_true rfl) (Nat.le_of_ble_eq_true rfl) dX2_hew_78 (pO.mk (by subst_vars; unfold o_hew hewn; (repeat (first | rw [if_pos (by assumption)] | rw [if_neg (by assumption)])); (try rfl)))
        · exact e_throw (text := "nobody hews now") C th_IS mw_61 mw_62 (by decide) rfl rfl dX2_hew_32 dX2_hew_35 dX2_hew_36 dX2_hew_38 dX2_hew_41 (by decide) (Nat.le_of_ble_eq_true rfl) (Nat.le_of_ble_eq_true rfl) (Nat.le_of_ble_eq_true rfl) (Nat.le_of_ble_eq_true rfl) (Nat.le_of_ble_eq_true rfl) (xO.mk (by subst_vars; unfold o_hew hewn; (repeat (first | rw [if_pos (by assumption)] | rw [if_neg (by assumption)])); (try rfl)))
def o_tell (M : Mem) (j : Nat) (y : Int32) : Out := if nI j = 0 then (if y < 1 ∨ 50 < y then rX IA M else rI (M 2 j) (up M 2 j y)) else if y < 0 ∨ 100 < y then rX IA M else rI (M 2 j) (up M 2 j y)
set_option maxRecDepth 100000 in
set_option maxHeartbeats 4000000 in
theorem c_X2_tell_x {l : Launch} (hl : l.stackTraces = false) {n : Nat} {ρ : Nat → Nat} {J : Nat → Int64} {M : Mem} {x y : Int32} (h : x < 0 ∨ 4 < x) : CtO l yX2_tell cX2_tell 4 (some .int) 7 2 12 n ρ J M [.ref (ρ 0), .int x, .int y] (rX IA M) := by
  refine CtO.of hl (by decide +kernel) (Nat.le_of_ble_eq_true rfl) (fun Ξ hnL C => ?_)
  show E Ξ n ρ J M 0 0 0 [(0, .ref (ρ 0)), (1, .int x), (2, .int y)] []
  refine e_iload_n (j := 1) C dX2_tell_0 rfl rfl ?_
  refine e_iconst (v := 0) C dX2_tell_1 (by decide) ?_
  refine e_iconst (v := 4) C dX2_tell_2 (by decide) ?_
  exact e_cSx (nA := 3) C (c_X2_requireRange_x hl h) rfl mw_175 mw_173 mw_174 mw_12 (by decide +kernel) (by decide) rfl rfl (Nat.le_of_ble_eq_true rfl) dX2_tell_3 (Nat.le_of_ble_eq_true rfl) (Nat.le_of_ble_eq_true rfl) rfl
set_option maxRecDepth 100000 in
set_option maxHeartbeats 4000000 in
theorem c_X2_tell {l : Launch} (hl : l.stackTraces = false) {n : Nat} {ρ : Nat → Nat} {J : Nat → Int64} {M : Mem} {j : Nat} (hj : j < 5) {y : Int32} : CtO l yX2_tell cX2_tell 4 (some .int) 7 2 12 n ρ J M [.ref (ρ 0), .int (nI j), .int y] (o_tell M j y) := by
  refine CtO.of hl (by decide +kernel) (Nat.le_of_ble_eq_true rfl) (fun Ξ hnL C => ?_)
  show E Ξ n ρ J M 0 0 0 [(0, .ref (ρ 0)), (1, .int (nI j)), (2, .int y)] []
  by_cases h0 : nI j = 0
  · by_cases h : y < 1 ∨ 50 < y
    · refine e_iload_n (j := 1) C dX2_tell_0 rfl rfl ?_
      refine e_iconst (v := 0) C dX2_tell_1 (by decide) ?_
      refine e_iconst (v := 4) C dX2_tell_2 (by decide) ?_
      refine e_cS (nA := 3) C (c_X2_requireRange hl (nI_pos (by omega)) (nI_le (b := 4) (by omega) (by omega))) rfl mw_175 mw_173 mw_174 mw_12 (by decide +kernel) (by decide) rfl rfl (Nat.le_of_ble_eq_true rfl) dX2_tell_3 (Nat.le_of_ble_eq_true rfl) (Nat.le_of_ble_eq_true rfl) ?_
      refine e_iload_n (j := 1) C dX2_tell_6 rfl rfl ?_
      refine e_if_ne (tgt := 20) C dX2_tell_7 (by decide) (fun c_7 => absurd h0 c_7) (fun c_7 => ?_)
      refine e_iload_n (j := 2) C dX2_tell_10 rfl rfl ?_
      refine e_iconst (v := 1) C dX2_tell_11 (by decide) ?_
      refine e_bipush (v := 50) C dX2_tell_12 (by decide) ?_
      exact e_cSx (nA := 3) C (c_X2_requireRange_x hl h) rfl mw_175 mw_173 mw_174 mw_12 (by decide +kernel) (by decide) rfl rfl (Nat.le_of_ble_eq_true rfl) dX2_tell_14 (Nat.le_of_ble_eq_true rfl) (Nat.le_of_ble_eq_true rfl) (by subst_vars; unfold o_tell; (repeat (first | rw [if_pos (by assumption)] | rw [if_neg (by assumption)])); (try rfl))
    · refine e_iload_n (j := 1) C dX2_tell_0 rfl rfl ?_
      refine e_iconst (v := 0) C dX2_tell_1 (by decide) ?_
      refine e_iconst (v := 4) C dX2_tell_2 (by decide) ?_
      refine e_cS (nA := 3) C (c_X2_requireRange hl (nI_pos (by omega)) (nI_le (b := 4) (by omega) (by omega))) rfl mw_175 mw_173 mw_174 mw_12 (by decide +kernel) (by decide) rfl rfl (Nat.le_of_ble_eq_true rfl) dX2_tell_3 (Nat.le_of_ble_eq_true rfl) (Nat.le_of_ble_eq_true rfl) ?_
      refine e_iload_n (j := 1) C dX2_tell_6 rfl rfl ?_
      refine e_if_ne (tgt := 20) C dX2_tell_7 (by decide) (fun c_7 => absurd h0 c_7) (fun c_7 => ?_)
      refine e_iload_n (j := 2) C dX2_tell_10 rfl rfl ?_
      refine e_iconst (v := 1) C dX2_tell_11 (by decide) ?_
      refine e_bipush (v := 50) C dX2_tell_12 (by decide) ?_
      refine e_cS (nA := 3) C (c_X2_requireRange hl (rng_ok h).1 (rng_ok h).2) rfl mw_175 mw_173 mw_174 mw_12 (by decide +kernel) (by decide) rfl rfl (Nat.le_of_ble_eq_true rfl) dX2_tell_14 (Nat.le_of_ble_eq_true rfl) (Nat.le_of_ble_eq_true rfl) ?_
      refine e_goto (tgt := 27) C dX2_tell_17 (by decide) ?_
      refine e_aload_n (j := 0) C dX2_tell_27 rfl rfl ?_
      refine e_get2 (k := 4) (ref := "ScripHollow") C (by decide) rfl rfl mw_27 dX2_tell_28 ?_
      refine e_iload_n (j := 1) C dX2_tell_31 rfl rfl ?_
      refine e_ialdN j C (cnt_fix (by decide)) (fun _ => rfl) rfl (by omega) (by decide) dX2_tell_32 ?_
      refine e_topi (fun x3_33 ex3_33 => ?_)
      refine e_istore_n (ls2 := [(3, .int x3_33), (0, .ref (ρ 0)), (1, .int (nI j)), (2, .int y)]) C hnL dX2_tell_33 rfl (by decide) rfl ?_
      refine e_aload_n (j := 1) C dX2_tell_34 rfl rfl ?_
      refine e_get2 (k := 4) (ref := "ScripHollow") C (by decide) rfl rfl mw_27 dX2_tell_35 ?_
      refine e_iload_n (j := 2) C dX2_tell_38 rfl rfl ?_
      refine e_iload_n (j := 3) C dX2_tell_39 rfl rfl ?_
      refine e_iastN j C (cnt_fix (by decide)) (fun _ _ => rfl) rfl (by omega) (by decide) dX2_tell_40 ?_
      refine e_iload_n (j := 0) C dX2_tell_41 rfl rfl ?_
      exact e_iret C rfl (Nat.le_of_ble_eq_true rfl) (Nat.le_of_ble_eq_true rfl) dX2_tell_42 (pO.mk (by subst_vars; unfold o_tell; (repeat (first | rw [if_pos (by assumption)] | rw [if_neg (by assumption)])); (try rfl)))
  · by_cases h : y < 0 ∨ 100 < y
    · refine e_iload_n (j := 1) C dX2_tell_0 rfl rfl ?_
      refine e_iconst (v := 0) C dX2_tell_1 (by decide) ?_
      refine e_iconst (v := 4) C dX2_tell_2 (by decide) ?_
      refine e_cS (nA := 3) C (c_X2_requireRange hl (nI_pos (by omega)) (nI_le (b := 4) (by omega) (by omega))) rfl mw_175 mw_173 mw_174 mw_12 (by decide +kernel) (by decide) rfl rfl (Nat.le_of_ble_eq_true rfl) dX2_tell_3 (Nat.le_of_ble_eq_true rfl) (Nat.le_of_ble_eq_true rfl) ?_
      refine e_iload_n (j := 1) C dX2_tell_6 rfl rfl ?_
      refine e_if_ne (tgt := 20) C dX2_tell_7 (by decide) (fun c_7 => ?_) (fun c_7 => absurd c_7 h0)
      refine e_iload_n (j := 2) C dX2_tell_20 rfl rfl ?_
      refine e_iconst (v := 0) C dX2_tell_21 (by decide) ?_
      refine e_bipush (v := 100) C dX2_tell_22 (by decide) ?_
      exact e_cSx (nA := 3) C (c_X2_requireRange_x hl h) rfl mw_175 mw_173 mw_174 mw_12 (by decide +kernel) (by decide) rfl rfl (Nat.le_of_ble_eq_true rfl) dX2_tell_24 (Nat.le_of_ble_eq_true rfl) (Nat.le_of_ble_eq_true rfl) (by subst_vars; unfold o_tell; (repeat (first | rw [if_pos (by assumption)] | rw [if_neg (by assumption)])); (try rfl))
    · refine e_iload_n (j := 1) C dX2_tell_0 rfl rfl ?_
      refine e_iconst (v := 0) C dX2_tell_1 (by decide) ?_
      refine e_iconst (v := 4) C dX2_tell_2 (by decide) ?_
      refine e_cS (nA := 3) C (c_X2_requireRange hl (nI_pos (by omega)) (nI_le (b := 4) (by omega) (by omega))) rfl mw_175 mw_173 mw_174 mw_12 (by decide +kernel) (by decide) rfl rfl (Nat.le_of_ble_eq_true rfl) dX2_tell_3 (Nat.le_of_ble_eq_true rfl) (Nat.le_of_ble_eq_true rfl) ?_
      refine e_iload_n (j := 1) C dX2_tell_6 rfl rfl ?_
      refine e_if_ne (tgt := 20) C dX2_tell_7 (by decide) (fun c_7 => ?_) (fun c_7 => absurd c_7 h0)
      refine e_iload_n (j := 2) C dX2_tell_20 rfl rfl ?_
      refine e_iconst (v := 0) C dX2_tell_21 (by decide) ?_
      refine e_bipush (v := 100) C dX2_tell_22 (by decide) ?_
      refine e_cS (nA := 3) C (c_X2_requireRange hl (rng_ok h).1 (rng_ok h).2) rfl mw_175 mw_173 mw_174 mw_12 (by decide +kernel) (by decide) rfl rfl (Nat.le_of_ble_eq_true rfl) dX2_tell_24 (Nat.le_of_ble_eq_true rfl) (Nat.le_of_ble_eq_true rfl) ?_
      refine e_aload_n (j := 0) C dX2_tell_27 rfl rfl ?_
      refine e_get2 (k := 4) (ref := "ScripHollow") C (by decide) rfl rfl mw_27 dX2_tell_28 ?_
      refine e_iload_n (j := 1) C dX2_tell_31 rfl rfl ?_
      refine e_ialdN j C (cnt_fix (by decide)) (fun _ => rfl) rfl (by omega) (by decide) dX2_tell_32 ?_
      refine e_topi (fun x3_33 ex3_33 => ?_)
      refine e_istore_n (ls2 := [(3, .int x3_33), (0, .ref (ρ 0)), (1, .int (nI j)), (2, .int y)]) C hnL dX2_tell_33 rfl (by decide) rfl ?_
      refine e_aload_n (j := 1) C dX2_tell_34 rfl rfl ?_
      refine e_get2 (k := 4) (ref := "ScripHollow") C (by decide) rfl rfl mw_27 dX2_tell_35 ?_
      refine e_iload_n (j := 2) C dX2_tell_38 rfl rfl ?_
      refine e_iload_n (j := 3) C dX2_tell_39 rfl rfl ?_
      refine e_iastN j C (cnt_fix (by decide)) (fun _ _ => rfl) rfl (by omega) (by decide) dX2_tell_40 ?_
      refine e_iload_n (j := 0) C dX2_tell_41 rfl rfl ?_
      exact e_iret C rfl (Nat.le_of_ble_eq_true rfl) (Nat.le_of_ble_eq_true rfl) dX2_tell_42 (pO.mk (by subst_vars; unfold o_tell; (repeat (first | rw [if_pos (by assumption)] | rw [if_neg (by assumption)])); (try rfl)))
set_option maxRecDepth 100000 in
set_option maxHeartbeats 4000000 in
theorem c_X2_house_x {l : Launch} (hl : l.stackTraces = false) {n : Nat} {ρ : Nat → Nat} {J : Nat → Int64} {M : Mem} {x : Int32} (h : x < 0 ∨ nI n ≤ x) : CtO l yX2_house cX2_house 3 none 8 3 18 n ρ J M [.ref (ρ 0), .int x] (rX IX M) := by
  refine CtO.of hl (by decide +kernel) (Nat.le_of_ble_eq_true rfl) (fun Ξ hnL C => ?_)
  show E Ξ n ρ J M 0 0 0 [(0, .ref (ρ 0)), (1, .int x)] []
  refine e_aload_n (j := 0) C dX2_house_0 rfl rfl ?_
  refine e_iload_n (j := 1) C dX2_house_1 rfl rfl ?_
  exact e_cVx (i := 0) (nA := 1) (Cn := RX2) C (c_X2_minerAt_x hl h) rfl (cnt_fix (by decide)) (fun _ => rfl) rfl rfl mw_150 mw_147 mw_148 mw_149 mw_12 (by decide +kernel) (by decide) rfl rfl (Nat.le_of_ble_eq_true rfl) dX2_house_2 (Nat.le_of_ble_eq_true rfl) (Nat.le_of_ble_eq_true rfl) rfl
def o_house (M : Mem) (k : Nat) : Out := if M (mO k) 0 = 0 then rX IS M else if M (mO k) 1 = 0 then (if M (mO k) 7 ≤ 0 then rV (up M (mO k) 1 1) else rX IS M) else rX IS M
set_option maxRecDepth 100000 in
set_option maxHeartbeats 4000000 in
theorem c_X2_house {l : Launch} (hl : l.stackTraces = false) {n : Nat} {ρ : Nat → Nat} {J : Nat → Int64} {M : Mem} {k : Nat} (hk : k < n) (hn : n ≤ 10) : CtO l yX2_house cX2_house 3 none 8 3 18 n ρ J M [.ref (ρ 0), .int (nI k)] (o_house M k) := by
  refine CtO.of hl (by decide +kernel) (Nat.le_of_ble_eq_true rfl) (fun Ξ hnL C => ?_)
  show E Ξ n ρ J M 0 0 0 [(0, .ref (ρ 0)), (1, .int (nI k))] []
  by_cases h2 : M (mO k) 0 = 0
  · refine e_aload_n (j := 0) C dX2_house_0 rfl rfl ?_
    refine e_iload_n (j := 1) C dX2_house_1 rfl rfl ?_
    refine e_cV (i := 0) (nA := 1) (Cn := RX2) C (c_X2_minerAt hl hk hn) rfl (cnt_fix (by decide)) (fun _ => rfl) rfl rfl mw_150 mw_147 mw_148 mw_149 mw_12 (by decide +kernel) (by decide) rfl rfl (Nat.le_of_ble_eq_true rfl) dX2_house_2 (Nat.le_of_ble_eq_true rfl) (Nat.le_of_ble_eq_true rfl) ?_
    refine e_astore_n (ls2 := [(2, .ref (ρ (mO k))), (0, .ref (ρ 0)), (1, .int (nI k))]) C hnL dX2_house_5 rfl (by decide) rfl ?_
    refine e_aload_n (j := 0) C dX2_house_6 rfl rfl ?_
    exact e_cSx (nA := 1) C (c_X2_requireAlive_x hl hk h2) rfl mw_180 mw_178 mw_179 mw_12 (by decide +kernel) (by decide) rfl rfl (Nat.le_of_ble_eq_true rfl) dX2_house_7 (Nat.le_of_ble_eq_true rfl) (Nat.le_of_ble_eq_true rfl) (by subst_vars; unfold o_house; (repeat (first | rw [if_pos (by assumption)] | rw [if_neg (by assumption)])); (try rfl))
  · refine e_aload_n (j := 0) C dX2_house_0 rfl rfl ?_
    refine e_iload_n (j := 1) C dX2_house_1 rfl rfl ?_
    refine e_cV (i := 0) (nA := 1) (Cn := RX2) C (c_X2_minerAt hl hk hn) rfl (cnt_fix (by decide)) (fun _ => rfl) rfl rfl mw_150 mw_147 mw_148 mw_149 mw_12 (by decide +kernel) (by decide) rfl rfl (Nat.le_of_ble_eq_true rfl) dX2_house_2 (Nat.le_of_ble_eq_true rfl) (Nat.le_of_ble_eq_true rfl) ?_
    refine e_astore_n (ls2 := [(2, .ref (ρ (mO k))), (0, .ref (ρ 0)), (1, .int (nI k))]) C hnL dX2_house_5 rfl (by decide) rfl ?_
    refine e_aload_n (j := 0) C dX2_house_6 rfl rfl ?_
    refine e_cS (nA := 1) C (c_X2_requireAlive hl hk h2) rfl mw_180 mw_178 mw_179 mw_12 (by decide +kernel) (by decide) rfl rfl (Nat.le_of_ble_eq_true rfl) dX2_house_7 (Nat.le_of_ble_eq_true rfl) (Nat.le_of_ble_eq_true rfl) ?_
    refine e_aload_n (j := 0) C dX2_house_10 rfl rfl ?_
    refine e_get0 (k := 1) (kk0 := k) (ref := "ScripHollow$Miner") C hk (by decide) rfl rfl mw_207 dX2_house_11 ?_
    refine e_if_ne (tgt := 24) C dX2_house_14 (by decide) (fun c_14 => ?_) (fun c_14 => ?_)
    · exact e_throw (text := "the miner has a house, or arrears") C th_IS mw_61 mw_62 (by decide) rfl rfl dX2_house_24 dX2_house_27 dX2_house_28 dX2_house_30 dX2_house_33 (by decide) (Nat.le_of_ble_eq_true rfl) (Nat.le_of_ble_eq_true rfl) (Nat.le_of_ble_eq_true rfl) (Nat.le_of_ble_eq_true rfl) (Nat.le_of_ble_eq_true rfl) (xO.mk (by subst_vars; unfold o_house; (repeat (first | rw [if_pos (by assumption)] | rw [if_neg (by assumption)])); (try rfl)))
    · refine e_aload_n (j := 0) C dX2_house_17 rfl rfl ?_
      refine e_get0 (k := 7) (kk0 := k) (ref := "ScripHollow$Miner") C hk (by decide) rfl rfl mw_202 dX2_house_18 ?_
      refine e_if_le (tgt := 34) C dX2_house_21 (by decide) (fun c_21 => ?_) (fun c_21 => ?_)
      · refine e_aload_n (j := 0) C dX2_house_34 rfl rfl ?_
        refine e_iconst (v := 1) C dX2_house_35 (by decide) ?_
        refine e_put0 (k := 1) (kk0 := k) (ref := "ScripHollow$Miner") (ty := .boolean) C hk (by decide) rfl rfl (by decide +kernel) rfl rfl rfl mw_207 dX2_house_36 ?_
        exact e_vret C rfl (Nat.le_of_ble_eq_true rfl) (Nat.le_of_ble_eq_true rfl) dX2_house_39 (pO.mk (by subst_vars; unfold o_house; (repeat (first | rw [if_pos (by assumption)] | rw [if_neg (by assumption)])); (try rfl)))
      · exact e_throw (text := "the miner has a house, or arrears") C th_IS mw_61 mw_62 (by decide) rfl rfl dX2_house_24 dX2_house_27 dX2_house_28 dX2_house_30 dX2_house_33 (by decide) (Nat.le_of_ble_eq_true rfl) (Nat.le_of_ble_eq_true rfl) (Nat.le_of_ble_eq_true rfl) (Nat.le_of_ble_eq_true rfl) (Nat.le_of_ble_eq_true rfl) (xO.mk (by subst_vars; unfold o_house; (repeat (first | rw [if_pos (by assumption)] | rw [if_neg (by assumption)])); (try rfl)))
def o_price (M : Mem) (g : Nat) (y z : Int32) : Out := if y < 1 ∨ 100 < y then rX IA M else if z = 0 then rI (M 4 g) (up M 4 g y) else rI (M 5 g) (up M 5 g y)
set_option maxRecDepth 100000 in
set_option maxHeartbeats 4000000 in
theorem c_X2_price_x {l : Launch} (hl : l.stackTraces = false) {n : Nat} {ρ : Nat → Nat} {J : Nat → Int64} {M : Mem} {x y z : Int32} (h : x < 0 ∨ 4 ≤ x) : CtO l yX2_price cX2_price 6 (some .int) 8 2 12 n ρ J M [.ref (ρ 0), .int x, .int y, .int z] (rX IX M) := by
  refine CtO.of hl (by decide +kernel) (Nat.le_of_ble_eq_true rfl) (fun Ξ hnL C => ?_)
  show E Ξ n ρ J M 0 0 0 [(0, .ref (ρ 0)), (1, .int x), (2, .int y), (3, .int z)] []
  refine e_iload_n (j := 1) C dX2_price_0 rfl rfl ?_
  exact e_cSx (nA := 1) C (c_X2_requireGoods_x hl h) rfl mw_267 mw_265 mw_266 mw_12 (by decide +kernel) (by decide) rfl rfl (Nat.le_of_ble_eq_true rfl) dX2_price_1 (Nat.le_of_ble_eq_true rfl) (Nat.le_of_ble_eq_true rfl) rfl
set_option maxRecDepth 100000 in
set_option maxHeartbeats 4000000 in
theorem c_X2_price {l : Launch} (hl : l.stackTraces = false) {n : Nat} {ρ : Nat → Nat} {J : Nat → Int64} {M : Mem} {g : Nat} (hg : g < 4) {y z : Int32} : CtO l yX2_price cX2_price 6 (some .int) 8 2 12 n ρ J M [.ref (ρ 0), .int (nI g), .int y, .int z] (o_price M g y z) := by
  refine CtO.of hl (by decide +kernel) (Nat.le_of_ble_eq_true rfl) (fun Ξ hnL C => ?_)
  show E Ξ n ρ J M 0 0 0 [(0, .ref (ρ 0)), (1, .int (nI g)), (2, .int y), (3, .int z)] []
  by_cases h : y < 1 ∨ 100 < y
  · refine e_iload_n (j := 1) C dX2_price_0 rfl rfl ?_
    refine e_cS (nA := 1) C (c_X2_requireGoods hl hg) rfl mw_267 mw_265 mw_266 mw_12 (by decide +kernel) (by decide) rfl rfl (Nat.le_of_ble_eq_true rfl) dX2_price_1 (Nat.le_of_ble_eq_true rfl) (Nat.le_of_ble_eq_true rfl) ?_
    refine e_iload_n (j := 2) C dX2_price_4 rfl rfl ?_
    refine e_iconst (v := 1) C dX2_price_5 (by decide) ?_
    refine e_bipush (v := 100) C dX2_price_6 (by decide) ?_
    exact e_cSx (nA := 3) C (c_X2_requireRange_x hl h) rfl mw_175 mw_173 mw_174 mw_12 (by decide +kernel) (by decide) rfl rfl (Nat.le_of_ble_eq_true rfl) dX2_price_8 (Nat.le_of_ble_eq_true rfl) (Nat.le_of_ble_eq_true rfl) (by subst_vars; unfold o_price; (repeat (first | rw [if_pos (by assumption)] | rw [if_neg (by assumption)])); (try rfl))
  · refine e_iload_n (j := 1) C dX2_price_0 rfl rfl ?_
    refine e_cS (nA := 1) C (c_X2_requireGoods hl hg) rfl mw_267 mw_265 mw_266 mw_12 (by decide +kernel) (by decide) rfl rfl (Nat.le_of_ble_eq_true rfl) dX2_price_1 (Nat.le_of_ble_eq_true rfl) (Nat.le_of_ble_eq_true rfl) ?_
    refine e_iload_n (j := 2) C dX2_price_4 rfl rfl ?_
    refine e_iconst (v := 1) C dX2_price_5 (by decide) ?_
    refine e_bipush (v := 100) C dX2_price_6 (by decide) ?_
    refine e_cS (nA := 3) C (c_X2_requireRange hl (rng_ok h).1 (rng_ok h).2) rfl mw_175 mw_173 mw_174 mw_12 (by decide +kernel) (by decide) rfl rfl (Nat.le_of_ble_eq_true rfl) dX2_price_8 (Nat.le_of_ble_eq_true rfl) (Nat.le_of_ble_eq_true rfl) ?_
    refine e_iload_n (j := 3) C dX2_price_11 rfl rfl ?_
    refine e_if_eq (tgt := 22) C dX2_price_12 (by decide) (fun c_12 => ?_) (fun c_12 => ?_)
    · refine e_aload_n (j := 0) C dX2_price_22 rfl rfl ?_
      refine e_get2 (k := 7) (ref := "ScripHollow") C (by decide) rfl rfl mw_32 dX2_price_23 ?_
      refine e_astore (ls2 := [(4, .ref (ρ 4)), (0, .ref (ρ 0)), (1, .int (nI g)), (2, .int y), (3, .int z)]) C hnL dX2_price_26 (by decide) rfl ?_
      refine e_aload (j := 0) C dX2_price_28 rfl ?_
      refine e_iload_n (j := 2) C dX2_price_30 rfl rfl ?_
      refine e_ialdN g C (cnt_fix (by decide)) (fun _ => rfl) rfl (by omega) (by decide) dX2_price_31 ?_
      refine e_topi (fun x5_32 ex5_32 => ?_)
      refine e_istore (ls2 := [(5, .int x5_32), (4, .ref (ρ 4)), (0, .ref (ρ 0)), (1, .int (nI g)), (2, .int y), (3, .int z)]) C hnL dX2_price_32 (by decide) rfl ?_
      refine e_aload (j := 1) C dX2_price_34 rfl ?_
      refine e_iload_n (j := 3) C dX2_price_36 rfl rfl ?_
      refine e_iload_n (j := 4) C dX2_price_37 rfl rfl ?_
      refine e_iastN g C (cnt_fix (by decide)) (fun _ _ => rfl) rfl (by omega) (by decide) dX2_price_38 ?_
      refine e_iload (j := 0) C dX2_price_39 rfl ?_
      exact e_iret C rfl (Nat.le_of_ble_eq_true rfl) (Nat.le_of_ble_eq_true rfl) dX2_price_41 (pO.mk (by subst_vars; unfold o_price; (repeat (first | rw [if_pos (by assumption)] | rw [if_neg (by assumption)])); (try rfl)))
    · refine e_aload_n (j := 0) C dX2_price_15 rfl rfl ?_
      refine e_get2 (k := 8) (ref := "ScripHollow") C (by decide) rfl rfl mw_33 dX2_price_16 ?_
      refine e_goto (tgt := 26) C dX2_price_19 (by decide) ?_
      refine e_astore (ls2 := [(4, .ref (ρ 5)), (0, .ref (ρ 0)), (1, .int (nI g)), (2, .int y), (3, .int z)]) C hnL dX2_price_26 (by decide) rfl ?_
      refine e_aload (j := 0) C dX2_price_28 rfl ?_
      refine e_iload_n (j := 2) C dX2_price_30 rfl rfl ?_
      refine e_ialdN g C (cnt_fix (by decide)) (fun _ => rfl) rfl (by omega) (by decide) dX2_price_31 ?_
      refine e_topi (fun x5_32 ex5_32 => ?_)
      refine e_istore (ls2 := [(5, .int x5_32), (4, .ref (ρ 5)), (0, .ref (ρ 0)), (1, .int (nI g)), (2, .int y), (3, .int z)]) C hnL dX2_price_32 (by decide) rfl ?_
      refine e_aload (j := 1) C dX2_price_34 rfl ?_
      refine e_iload_n (j := 3) C dX2_price_36 rfl rfl ?_
      refine e_iload_n (j := 4) C dX2_price_37 rfl rfl ?_
      refine e_iastN g C (cnt_fix (by decide)) (fun _ _ => rfl) rfl (by omega) (by decide) dX2_price_38 ?_
      refine e_iload (j := 0) C dX2_price_39 rfl ?_
      exact e_iret C rfl (Nat.le_of_ble_eq_true rfl) (Nat.le_of_ble_eq_true rfl) dX2_price_41 (pO.mk (by subst_vars; unfold o_price; (repeat (first | rw [if_pos (by assumption)] | rw [if_neg (by assumption)])); (try rfl)))
def sPrice (M : Mem) (k g : Nat) : Int32 := M 4 g + M 4 g * M (mO k) 6 / 200
set_option maxRecDepth 100000 in
set_option maxHeartbeats 4000000 in
theorem c_X2_storePrice {l : Launch} (hl : l.stackTraces = false) {n : Nat} {ρ : Nat → Nat} {J : Nat → Int64} {M : Mem} {k g : Nat} (hk : k < n) (hg : g < 4) : CtO l yX2_storePrice cX2_storePrice 3 (some .int) 0 0 0 n ρ J M [.ref (ρ 0), .ref (ρ (mO k)), .int (nI g)] (rI (sPrice M k g) M) := by
  refine CtO.of hl (by decide +kernel) (Nat.le_of_ble_eq_true rfl) (fun Ξ hnL C => ?_)
  show E Ξ n ρ J M 0 0 0 [(0, .ref (ρ 0)), (1, .ref (ρ (mO k))), (2, .int (nI g))] []
  refine e_aload_n (j := 0) C dX2_storePrice_0 rfl rfl ?_
  refine e_get2 (k := 7) (ref := "ScripHollow") C (by decide) rfl rfl mw_32 dX2_storePrice_1 ?_
  refine e_iload_n (j := 2) C dX2_storePrice_4 rfl rfl ?_
  refine e_ialdN g C (cnt_fix (by decide)) (fun _ => rfl) rfl (by omega) (by decide) dX2_storePrice_5 ?_
  refine e_aload_n (j := 0) C dX2_storePrice_6 rfl rfl ?_
  refine e_get2 (k := 7) (ref := "ScripHollow") C (by decide) rfl rfl mw_32 dX2_storePrice_7 ?_
  refine e_iload_n (j := 2) C dX2_storePrice_10 rfl rfl ?_
  refine e_ialdN g C (cnt_fix (by decide)) (fun _ => rfl) rfl (by omega) (by decide) dX2_storePrice_11 ?_
  refine e_aload_n (j := 1) C dX2_storePrice_12 rfl rfl ?_
  refine e_get0 (k := 6) (kk0 := k) (ref := "ScripHollow$Miner") C hk (by decide) rfl rfl mw_203 dX2_storePrice_13 ?_
  refine e_imul C dX2_storePrice_16 ?_
  refine e_sipush (v := 200) C dX2_storePrice_17 (by decide) ?_
  refine e_idiv C dX2_storePrice_20 (by decide) ?_
  refine e_iadd C dX2_storePrice_21 ?_
  exact e_iret C rfl (Nat.le_of_ble_eq_true rfl) (Nat.le_of_ble_eq_true rfl) dX2_storePrice_22 (pO.mk rfl)
set_option maxRecDepth 100000 in
set_option maxHeartbeats 4000000 in
theorem c_X2_raised_x {l : Launch} (hl : l.stackTraces = false) {n : Nat} {ρ : Nat → Nat} {J : Nat → Int64} {M : Mem} {x : Int32} (h : x < 0 ∨ nI n ≤ x) {y : Int32} : CtO l yX2_raised cX2_raised 4 (some .int) 8 2 12 n ρ J M [.ref (ρ 0), .int x, .int y] (rX IX M) := by
  refine CtO.of hl (by decide +kernel) (Nat.le_of_ble_eq_true rfl) (fun Ξ hnL C => ?_)
  show E Ξ n ρ J M 0 0 0 [(0, .ref (ρ 0)), (1, .int x), (2, .int y)] []
  refine e_aload_n (j := 0) C dX2_raised_0 rfl rfl ?_
  refine e_iload_n (j := 1) C dX2_raised_1 rfl rfl ?_
  exact e_cVx (i := 0) (nA := 1) (Cn := RX2) C (c_X2_minerAt_x hl h) rfl (cnt_fix (by decide)) (fun _ => rfl) rfl rfl mw_150 mw_147 mw_148 mw_149 mw_12 (by decide +kernel) (by decide) rfl rfl (Nat.le_of_ble_eq_true rfl) dX2_raised_2 (Nat.le_of_ble_eq_true rfl) (Nat.le_of_ble_eq_true rfl) rfl
set_option maxRecDepth 100000 in
set_option maxHeartbeats 4000000 in
theorem c_X2_raised_g {l : Launch} (hl : l.stackTraces = false) {n : Nat} {ρ : Nat → Nat} {J : Nat → Int64} {M : Mem} {k : Nat} (hk : k < n) (hn : n ≤ 10) {y : Int32} (h : y < 0 ∨ 4 ≤ y) : CtO l yX2_raised cX2_raised 4 (some .int) 8 2 12 n ρ J M [.ref (ρ 0), .int (nI k), .int y] (rX IX M) := by
  refine CtO.of hl (by decide +kernel) (Nat.le_of_ble_eq_true rfl) (fun Ξ hnL C => ?_)
  show E Ξ n ρ J M 0 0 0 [(0, .ref (ρ 0)), (1, .int (nI k)), (2, .int y)] []
  refine e_aload_n (j := 0) C dX2_raised_0 rfl rfl ?_
  refine e_iload_n (j := 1) C dX2_raised_1 rfl rfl ?_
  refine e_cV (i := 0) (nA := 1) (Cn := RX2) C (c_X2_minerAt hl hk hn) rfl (cnt_fix (by decide)) (fun _ => rfl) rfl rfl mw_150 mw_147 mw_148 mw_149 mw_12 (by decide +kernel) (by decide) rfl rfl (Nat.le_of_ble_eq_true rfl) dX2_raised_2 (Nat.le_of_ble_eq_true rfl) (Nat.le_of_ble_eq_true rfl) ?_
  refine e_astore_n (ls2 := [(3, .ref (ρ (mO k))), (0, .ref (ρ 0)), (1, .int (nI k)), (2, .int y)]) C hnL dX2_raised_5 rfl (by decide) rfl ?_
  refine e_iload_n (j := 3) C dX2_raised_6 rfl rfl ?_
  exact e_cSx (nA := 1) C (c_X2_requireGoods_x hl h) rfl mw_267 mw_265 mw_266 mw_12 (by decide +kernel) (by decide) rfl rfl (Nat.le_of_ble_eq_true rfl) dX2_raised_7 (Nat.le_of_ble_eq_true rfl) (Nat.le_of_ble_eq_true rfl) rfl
set_option maxRecDepth 100000 in
set_option maxHeartbeats 4000000 in
theorem c_X2_raised {l : Launch} (hl : l.stackTraces = false) {n : Nat} {ρ : Nat → Nat} {J : Nat → Int64} {M : Mem} {k : Nat} (hk : k < n) (hn : n ≤ 10) {g : Nat} (hg : g < 4) : CtO l yX2_raised cX2_raised 4 (some .int) 8 2 12 n ρ J M [.ref (ρ 0), .int (nI k), .int (nI g)] (rI (sPrice M k g) M) := by
  refine CtO.of hl (by decide +kernel) (Nat.le_of_ble_eq_true rfl) (fun Ξ hnL C => ?_)
  show E Ξ n ρ J M 0 0 0 [(0, .ref (ρ 0)), (1, .int (nI k)), (2, .int (nI g))] []
  refine e_aload_n (j := 0) C dX2_raised_0 rfl rfl ?_
  refine e_iload_n (j := 1) C dX2_raised_1 rfl rfl ?_
  refine e_cV (i := 0) (nA := 1) (Cn := RX2) C (c_X2_minerAt hl hk hn) rfl (cnt_fix (by decide)) (fun _ => rfl) rfl rfl mw_150 mw_147 mw_148 mw_149 mw_12 (by decide +kernel) (by decide) rfl rfl (Nat.le_of_ble_eq_true rfl) dX2_raised_2 (Nat.le_of_ble_eq_true rfl) (Nat.le_of_ble_eq_true rfl) ?_
  refine e_astore_n (ls2 := [(3, .ref (ρ (mO k))), (0, .ref (ρ 0)), (1, .int (nI k)), (2, .int (nI g))]) C hnL dX2_raised_5 rfl (by decide) rfl ?_
  refine e_iload_n (j := 3) C dX2_raised_6 rfl rfl ?_
  refine e_cS (nA := 1) C (c_X2_requireGoods hl hg) rfl mw_267 mw_265 mw_266 mw_12 (by decide +kernel) (by decide) rfl rfl (Nat.le_of_ble_eq_true rfl) dX2_raised_7 (Nat.le_of_ble_eq_true rfl) (Nat.le_of_ble_eq_true rfl) ?_
  refine e_aload_n (j := 1) C dX2_raised_10 rfl rfl ?_
  refine e_aload_n (j := 0) C dX2_raised_11 rfl rfl ?_
  refine e_iload_n (j := 3) C dX2_raised_12 rfl rfl ?_
  refine e_cV (i := 0) (nA := 2) (Cn := RX2) C (c_X2_storePrice hl hk hg) rfl (cnt_fix (by decide)) (fun _ => rfl) rfl rfl mw_284 mw_281 mw_282 mw_283 mw_12 (by decide +kernel) (by decide) rfl rfl (Nat.le_of_ble_eq_true rfl) dX2_raised_13 (Nat.le_of_ble_eq_true rfl) (Nat.le_of_ble_eq_true rfl) ?_
  exact e_iret C rfl (Nat.le_of_ble_eq_true rfl) (Nat.le_of_ble_eq_true rfl) dX2_raised_16 (pO.mk rfl)
def onCr (M : Mem) (k : Nat) (c : Int32) : Int32 := c - (M (mO k) 5 + sm (M (mS k)) 40)
def o_ref (M : Mem) (k : Nat) (c : Int32) : Int32 := if M 0 15 = 0 then (if M 0 14 = 0 then (if M (mO k) 0 = 0 then 2 else if onCr M k c ≤ 0 then 0 else if M (mO k) 6 + onCr M k c ≤ M 0 9 then 0 else 3) else 1) else 1
set_option maxRecDepth 100000 in
set_option maxHeartbeats 4000000 in
theorem c_X2_refusal {l : Launch} (hl : l.stackTraces = false) {n : Nat} {ρ : Nat → Nat} {J : Nat → Int64} {M : Mem} {k : Nat} (hk : k < n) {c : Int32} : CtO l yX2_refusal cX2_refusal 4 (some .int) 2 0 0 n ρ J M [.ref (ρ 0), .ref (ρ (mO k)), .int c] (rI (o_ref M k c) M) := by
  refine CtO.of hl (by decide +kernel) (Nat.le_of_ble_eq_true rfl) (fun Ξ hnL C => ?_)
  show E Ξ n ρ J M 0 0 0 [(0, .ref (ρ 0)), (1, .ref (ρ (mO k))), (2, .int c)] []
  refine e_aload_n (j := 0) C dX2_refusal_0 rfl rfl ?_
  refine e_get2 (k := 15) (ref := "ScripHollow") C (by decide) rfl rfl mw_144 dX2_refusal_1 ?_
  refine e_if_ne (tgt := 14) C dX2_refusal_4 (by decide) (fun c_4 => ?_) (fun c_4 => ?_)
  · refine e_iconst (v := 1) C dX2_refusal_14 (by decide) ?_
    exact e_iret C rfl (Nat.le_of_ble_eq_true rfl) (Nat.le_of_ble_eq_true rfl) dX2_refusal_15 (pO.mk (by subst_vars; unfold o_ref onCr; (repeat (first | rw [if_pos (by assumption)] | rw [if_neg (by assumption)])); (try rfl)))
  · refine e_aload_n (j := 0) C dX2_refusal_7 rfl rfl ?_
    refine e_get2 (k := 14) (ref := "ScripHollow") C (by decide) rfl rfl mw_143 dX2_refusal_8 ?_
    refine e_if_eq (tgt := 16) C dX2_refusal_11 (by decide) (fun c_11 => ?_) (fun c_11 => ?_)
    · refine e_aload_n (j := 1) C dX2_refusal_16 rfl rfl ?_
      refine e_get0 (k := 0) (kk0 := k) (ref := "ScripHollow$Miner") C hk (by decide) rfl rfl mw_181 dX2_refusal_17 ?_
      refine e_if_ne (tgt := 25) C dX2_refusal_20 (by decide) (fun c_20 => ?_) (fun c_20 => ?_)
      · refine e_iload_n (j := 2) C dX2_refusal_25 rfl rfl ?_
        refine e_aload_n (j := 1) C dX2_refusal_26 rfl rfl ?_
        refine e_cV (i := (mO k)) (nA := 0) (Cn := RX0) C (c_X0_means hl hk) rfl (cnt_O hk) (fun cA => cell_O cA n ρ J k _) rfl rfl mw_292 mw_289 mw_290 mw_291 mw_65 (by decide +kernel) (by decide) rfl rfl (Nat.le_of_ble_eq_true rfl) dX2_refusal_27 (Nat.le_of_ble_eq_true rfl) (Nat.le_of_ble_eq_true rfl) ?_
        refine e_isub C dX2_refusal_30 ?_
        refine e_topi (fun x3_31 ex3_31 => ?_)
        refine e_istore_n (ls2 := [(3, .int x3_31), (0, .ref (ρ 0)), (1, .ref (ρ (mO k))), (2, .int c)]) C hnL dX2_refusal_31 rfl (by decide) rfl ?_
        refine e_iload_n (j := 0) C dX2_refusal_32 rfl rfl ?_
        refine e_if_le (tgt := 53) C dX2_refusal_33 (by decide) (fun c_33 => ?_) (fun c_33 => ?_)
        · refine e_iconst (v := 0) C dX2_refusal_53 (by decide) ?_
          exact e_iret C rfl (Nat.le_of_ble_eq_true rfl) (Nat.le_of_ble_eq_true rfl) dX2_refusal_54 (pO.mk (by subst_vars; unfold o_ref onCr; (repeat (first | rw [if_pos (by assumption)] | rw [if_neg (by assumption)])); (try rfl)))
        · refine e_aload_n (j := 2) C dX2_refusal_36 rfl rfl ?_
          refine e_get0 (k := 6) (kk0 := k) (ref := "ScripHollow$Miner") C hk (by decide) rfl rfl mw_203 dX2_refusal_37 ?_
          refine e_iload_n (j := 0) C dX2_refusal_40 rfl rfl ?_
          refine e_iadd C dX2_refusal_41 ?_
          refine e_aload_n (j := 1) C dX2_refusal_42 rfl rfl ?_
          refine e_get2 (k := 9) (ref := "ScripHollow") C (by decide) rfl rfl mw_34 dX2_refusal_43 ?_
          refine e_icmp_le (tgt := 53) C dX2_refusal_46 (by decide) (fun c_46 => ?_) (fun c_46 => ?_)
          · refine e_iconst (v := 0) C dX2_refusal_53 (by decide) ?_
            exact e_iret C rfl (Nat.le_of_ble_eq_true rfl) (Nat.le_of_ble_eq_true rfl) dX2_refusal_54 (pO.mk (by subst_vars; unfold o_ref onCr; (repeat (first | rw [if_pos (by assumption)] | rw [if_neg (by assumption)])); (try rfl)))
          · refine e_iconst (v := 3) C dX2_refusal_49 (by decide) ?_
            refine e_goto (tgt := 54) C dX2_refusal_50 (by decide) ?_
            exact e_iret C rfl (Nat.le_of_ble_eq_true rfl) (Nat.le_of_ble_eq_true rfl) dX2_refusal_54 (pO.mk (by subst_vars; unfold o_ref onCr; (repeat (first | rw [if_pos (by assumption)] | rw [if_neg (by assumption)])); (try rfl)))
      · refine e_iconst (v := 2) C dX2_refusal_23 (by decide) ?_
        exact e_iret C rfl (Nat.le_of_ble_eq_true rfl) (Nat.le_of_ble_eq_true rfl) dX2_refusal_24 (pO.mk (by subst_vars; unfold o_ref onCr; (repeat (first | rw [if_pos (by assumption)] | rw [if_neg (by assumption)])); (try rfl)))
    · refine e_iconst (v := 1) C dX2_refusal_14 (by decide) ?_
      exact e_iret C rfl (Nat.le_of_ble_eq_true rfl) (Nat.le_of_ble_eq_true rfl) dX2_refusal_15 (pO.mk (by subst_vars; unfold o_ref onCr; (repeat (first | rw [if_pos (by assumption)] | rw [if_neg (by assumption)])); (try rfl)))
set_option maxRecDepth 100000 in
set_option maxHeartbeats 4000000 in
theorem c_X2_whyNot_x {l : Launch} (hl : l.stackTraces = false) {n : Nat} {ρ : Nat → Nat} {J : Nat → Int64} {M : Mem} {x : Int32} (h : x < 0 ∨ nI n ≤ x) {y w : Int32} : CtO l yX2_whyNot cX2_whyNot 5 (some .int) 8 3 18 n ρ J M [.ref (ρ 0), .int x, .int y, .int w] (rX IX M) := by
  refine CtO.of hl (by decide +kernel) (Nat.le_of_ble_eq_true rfl) (fun Ξ hnL C => ?_)
  show E Ξ n ρ J M 0 0 0 [(0, .ref (ρ 0)), (1, .int x), (2, .int y), (3, .int w)] []
  refine e_aload_n (j := 0) C dX2_whyNot_0 rfl rfl ?_
  refine e_iload_n (j := 1) C dX2_whyNot_1 rfl rfl ?_
  exact e_cVx (i := 0) (nA := 1) (Cn := RX2) C (c_X2_minerAt_x hl h) rfl (cnt_fix (by decide)) (fun _ => rfl) rfl rfl mw_150 mw_147 mw_148 mw_149 mw_12 (by decide +kernel) (by decide) rfl rfl (Nat.le_of_ble_eq_true rfl) dX2_whyNot_2 (Nat.le_of_ble_eq_true rfl) (Nat.le_of_ble_eq_true rfl) rfl
set_option maxRecDepth 100000 in
set_option maxHeartbeats 4000000 in
theorem c_X2_whyNot_g {l : Launch} (hl : l.stackTraces = false) {n : Nat} {ρ : Nat → Nat} {J : Nat → Int64} {M : Mem} {k : Nat} (hk : k < n) (hn : n ≤ 10) {y w : Int32} (h : y < 0 ∨ 4 ≤ y) : CtO l yX2_whyNot cX2_whyNot 5 (some .int) 8 3 18 n ρ J M [.ref (ρ 0), .int (nI k), .int y, .int w] (rX IX M) := by
  refine CtO.of hl (by decide +kernel) (Nat.le_of_ble_eq_true rfl) (fun Ξ hnL C => ?_)
  show E Ξ n ρ J M 0 0 0 [(0, .ref (ρ 0)), (1, .int (nI k)), (2, .int y), (3, .int w)] []
  refine e_aload_n (j := 0) C dX2_whyNot_0 rfl rfl ?_
  refine e_iload_n (j := 1) C dX2_whyNot_1 rfl rfl ?_
  refine e_cV (i := 0) (nA := 1) (Cn := RX2) C (c_X2_minerAt hl hk hn) rfl (cnt_fix (by decide)) (fun _ => rfl) rfl rfl mw_150 mw_147 mw_148 mw_149 mw_12 (by decide +kernel) (by decide) rfl rfl (Nat.le_of_ble_eq_true rfl) dX2_whyNot_2 (Nat.le_of_ble_eq_true rfl) (Nat.le_of_ble_eq_true rfl) ?_
  refine e_astore (ls2 := [(4, .ref (ρ (mO k))), (0, .ref (ρ 0)), (1, .int (nI k)), (2, .int y), (3, .int w)]) C hnL dX2_whyNot_5 (by decide) rfl ?_
  refine e_iload_n (j := 3) C dX2_whyNot_7 rfl rfl ?_
  exact e_cSx (nA := 1) C (c_X2_requireGoods_x hl h) rfl mw_267 mw_265 mw_266 mw_12 (by decide +kernel) (by decide) rfl rfl (Nat.le_of_ble_eq_true rfl) dX2_whyNot_8 (Nat.le_of_ble_eq_true rfl) (Nat.le_of_ble_eq_true rfl) rfl
def o_why (M : Mem) (k g : Nat) (w : Int32) : Out := if w < 1 ∨ 50 < w then rX IA M else rI (o_ref M k (sPrice M k g * w)) M
set_option maxRecDepth 100000 in
set_option maxHeartbeats 4000000 in
theorem c_X2_whyNot {l : Launch} (hl : l.stackTraces = false) {n : Nat} {ρ : Nat → Nat} {J : Nat → Int64} {M : Mem} {k : Nat} (hk : k < n) (hn : n ≤ 10) {g : Nat} (hg : g < 4) {w : Int32} : CtO l yX2_whyNot cX2_whyNot 5 (some .int) 8 3 18 n ρ J M [.ref (ρ 0), .int (nI k), .int (nI g), .int w] (o_why M k g w) := by
  refine CtO.of hl (by decide +kernel) (Nat.le_of_ble_eq_true rfl) (fun Ξ hnL C => ?_)
  show E Ξ n ρ J M 0 0 0 [(0, .ref (ρ 0)), (1, .int (nI k)), (2, .int (nI g)), (3, .int w)] []
  by_cases h : w < 1 ∨ 50 < w
  · refine e_aload_n (j := 0) C dX2_whyNot_0 rfl rfl ?_
    refine e_iload_n (j := 1) C dX2_whyNot_1 rfl rfl ?_
    refine e_cV (i := 0) (nA := 1) (Cn := RX2) C (c_X2_minerAt hl hk hn) rfl (cnt_fix (by decide)) (fun _ => rfl) rfl rfl mw_150 mw_147 mw_148 mw_149 mw_12 (by decide +kernel) (by decide) rfl rfl (Nat.le_of_ble_eq_true rfl) dX2_whyNot_2 (Nat.le_of_ble_eq_true rfl) (Nat.le_of_ble_eq_true rfl) ?_
    refine e_astore (ls2 := [(4, .ref (ρ (mO k))), (0, .ref (ρ 0)), (1, .int (nI k)), (2, .int (nI g)), (3, .int w)]) C hnL dX2_whyNot_5 (by decide) rfl ?_
    refine e_iload_n (j := 3) C dX2_whyNot_7 rfl rfl ?_
    refine e_cS (nA := 1) C (c_X2_requireGoods hl hg) rfl mw_267 mw_265 mw_266 mw_12 (by decide +kernel) (by decide) rfl rfl (Nat.le_of_ble_eq_true rfl) dX2_whyNot_8 (Nat.le_of_ble_eq_true rfl) (Nat.le_of_ble_eq_true rfl) ?_
    refine e_iload_n (j := 4) C dX2_whyNot_11 rfl rfl ?_
    refine e_iconst (v := 1) C dX2_whyNot_12 (by decide) ?_
    refine e_bipush (v := 50) C dX2_whyNot_13 (by decide) ?_
    exact e_cSx (nA := 3) C (c_X2_requireRange_x hl h) rfl mw_175 mw_173 mw_174 mw_12 (by decide +kernel) (by decide) rfl rfl (Nat.le_of_ble_eq_true rfl) dX2_whyNot_15 (Nat.le_of_ble_eq_true rfl) (Nat.le_of_ble_eq_true rfl) (by subst_vars; unfold o_why; (repeat (first | rw [if_pos (by assumption)] | rw [if_neg (by assumption)])); (try rfl))
  · refine e_aload_n (j := 0) C dX2_whyNot_0 rfl rfl ?_
    refine e_iload_n (j := 1) C dX2_whyNot_1 rfl rfl ?_
    refine e_cV (i := 0) (nA := 1) (Cn := RX2) C (c_X2_minerAt hl hk hn) rfl (cnt_fix (by decide)) (fun _ => rfl) rfl rfl mw_150 mw_147 mw_148 mw_149 mw_12 (by decide +kernel) (by decide) rfl rfl (Nat.le_of_ble_eq_true rfl) dX2_whyNot_2 (Nat.le_of_ble_eq_true rfl) (Nat.le_of_ble_eq_true rfl) ?_
    refine e_astore (ls2 := [(4, .ref (ρ (mO k))), (0, .ref (ρ 0)), (1, .int (nI k)), (2, .int (nI g)), (3, .int w)]) C hnL dX2_whyNot_5 (by decide) rfl ?_
    refine e_iload_n (j := 3) C dX2_whyNot_7 rfl rfl ?_
    refine e_cS (nA := 1) C (c_X2_requireGoods hl hg) rfl mw_267 mw_265 mw_266 mw_12 (by decide +kernel) (by decide) rfl rfl (Nat.le_of_ble_eq_true rfl) dX2_whyNot_8 (Nat.le_of_ble_eq_true rfl) (Nat.le_of_ble_eq_true rfl) ?_
    refine e_iload_n (j := 4) C dX2_whyNot_11 rfl rfl ?_
    refine e_iconst (v := 1) C dX2_whyNot_12 (by decide) ?_
    refine e_bipush (v := 50) C dX2_whyNot_13 (by decide) ?_
    refine e_cS (nA := 3) C (c_X2_requireRange hl (rng_ok h).1 (rng_ok h).2) rfl mw_175 mw_173 mw_174 mw_12 (by decide +kernel) (by decide) rfl rfl (Nat.le_of_ble_eq_true rfl) dX2_whyNot_15 (Nat.le_of_ble_eq_true rfl) (Nat.le_of_ble_eq_true rfl) ?_
    refine e_aload_n (j := 1) C dX2_whyNot_18 rfl rfl ?_
    refine e_aload (j := 0) C dX2_whyNot_19 rfl ?_
    refine e_aload_n (j := 1) C dX2_whyNot_21 rfl rfl ?_
    refine e_aload (j := 0) C dX2_whyNot_22 rfl ?_
    refine e_iload_n (j := 3) C dX2_whyNot_24 rfl rfl ?_
    refine e_cV (i := 0) (nA := 2) (Cn := RX2) C (c_X2_storePrice hl hk hg) rfl (cnt_fix (by decide)) (fun _ => rfl) rfl rfl mw_284 mw_281 mw_282 mw_283 mw_12 (by decide +kernel) (by decide) rfl rfl (Nat.le_of_ble_eq_true rfl) dX2_whyNot_25 (Nat.le_of_ble_eq_true rfl) (Nat.le_of_ble_eq_true rfl) ?_
    refine e_iload_n (j := 4) C dX2_whyNot_28 rfl rfl ?_
    refine e_imul C dX2_whyNot_29 ?_
    refine e_cV (i := 0) (nA := 2) (Cn := RX2) C (c_X2_refusal hl hk) rfl (cnt_fix (by decide)) (fun _ => rfl) rfl rfl mw_288 mw_285 mw_286 mw_287 mw_12 (by decide +kernel) (by decide) rfl rfl (Nat.le_of_ble_eq_true rfl) dX2_whyNot_30 (Nat.le_of_ble_eq_true rfl) (Nat.le_of_ble_eq_true rfl) ?_
    exact e_iret C rfl (Nat.le_of_ble_eq_true rfl) (Nat.le_of_ble_eq_true rfl) dX2_whyNot_33 (pO.mk (by subst_vars; unfold o_why; (repeat (first | rw [if_pos (by assumption)] | rw [if_neg (by assumption)])); (try rfl)))
set_option maxRecDepth 100000 in
set_option maxHeartbeats 4000000 in
theorem c_X2_buy_x {l : Launch} (hl : l.stackTraces = false) {n : Nat} {ρ : Nat → Nat} {J : Nat → Int64} {M : Mem} {x : Int32} (h : x < 0 ∨ nI n ≤ x) {y w : Int32} : CtO l yX2_buy cX2_buy 8 (some .int) 8 4 24 n ρ J M [.ref (ρ 0), .int x, .int y, .int w] (rX IX M) := by
  refine CtO.of hl (by decide +kernel) (Nat.le_of_ble_eq_true rfl) (fun Ξ hnL C => ?_)
  show E Ξ n ρ J M 0 0 0 [(0, .ref (ρ 0)), (1, .int x), (2, .int y), (3, .int w)] []
  refine e_aload_n (j := 0) C dX2_buy_0 rfl rfl ?_
  refine e_iload_n (j := 1) C dX2_buy_1 rfl rfl ?_
  exact e_cVx (i := 0) (nA := 1) (Cn := RX2) C (c_X2_minerAt_x hl h) rfl (cnt_fix (by decide)) (fun _ => rfl) rfl rfl mw_150 mw_147 mw_148 mw_149 mw_12 (by decide +kernel) (by decide) rfl rfl (Nat.le_of_ble_eq_true rfl) dX2_buy_2 (Nat.le_of_ble_eq_true rfl) (Nat.le_of_ble_eq_true rfl) rfl
set_option maxRecDepth 100000 in
set_option maxHeartbeats 4000000 in
theorem c_X2_buy_g {l : Launch} (hl : l.stackTraces = false) {n : Nat} {ρ : Nat → Nat} {J : Nat → Int64} {M : Mem} {k : Nat} (hk : k < n) (hn : n ≤ 10) {y w : Int32} (h : y < 0 ∨ 4 ≤ y) : CtO l yX2_buy cX2_buy 8 (some .int) 8 4 24 n ρ J M [.ref (ρ 0), .int (nI k), .int y, .int w] (rX IX M) := by
  refine CtO.of hl (by decide +kernel) (Nat.le_of_ble_eq_true rfl) (fun Ξ hnL C => ?_)
  show E Ξ n ρ J M 0 0 0 [(0, .ref (ρ 0)), (1, .int (nI k)), (2, .int y), (3, .int w)] []
  refine e_aload_n (j := 0) C dX2_buy_0 rfl rfl ?_
  refine e_iload_n (j := 1) C dX2_buy_1 rfl rfl ?_
  refine e_cV (i := 0) (nA := 1) (Cn := RX2) C (c_X2_minerAt hl hk hn) rfl (cnt_fix (by decide)) (fun _ => rfl) rfl rfl mw_150 mw_147 mw_148 mw_149 mw_12 (by decide +kernel) (by decide) rfl rfl (Nat.le_of_ble_eq_true rfl) dX2_buy_2 (Nat.le_of_ble_eq_true rfl) (Nat.le_of_ble_eq_true rfl) ?_
  refine e_astore (ls2 := [(4, .ref (ρ (mO k))), (0, .ref (ρ 0)), (1, .int (nI k)), (2, .int y), (3, .int w)]) C hnL dX2_buy_5 (by decide) rfl ?_
  refine e_iload_n (j := 3) C dX2_buy_7 rfl rfl ?_
  exact e_cSx (nA := 1) C (c_X2_requireGoods_x hl h) rfl mw_267 mw_265 mw_266 mw_12 (by decide +kernel) (by decide) rfl rfl (Nat.le_of_ble_eq_true rfl) dX2_buy_8 (Nat.le_of_ble_eq_true rfl) (Nat.le_of_ble_eq_true rfl) rfl
def by1 (M : Mem) (k : Nat) (c : Int32) : Mem := (llow M k c 40).1
def byI (M : Mem) (k : Nat) (c : Int32) : Int32 := (llow M k c 40).2
def byC (M : Mem) (k : Nat) (c : Int32) : Int32 := mn (c - byI M k c) (by1 M k c (mO k) 5)
def by2 (M : Mem) (k : Nat) (c : Int32) : Mem := up (by1 M k c) 7 1 (by1 M k c 7 1 + byI M k c)
def by3 (M : Mem) (k : Nat) (c : Int32) : Mem := up (by2 M k c) (mO k) 5 (by2 M k c (mO k) 5 - byC M k c)
def by4 (M : Mem) (k : Nat) (c : Int32) : Mem := up (by3 M k c) (mO k) 6 (by3 M k c (mO k) 6 + (c - byI M k c - byC M k c))
def by5 (M : Mem) (k g : Nat) (c w : Int32) : Mem := up (by4 M k c) (mG k) g (by4 M k c (mG k) g + w)
def o_buy (M : Mem) (k g : Nat) (w : Int32) : Out := if w < 1 ∨ 50 < w then rX IA M else if o_ref M k (sPrice M k g * w) = 0 then rI (by5 M k g (sPrice M k g * w) w (mO k) 6) (by5 M k g (sPrice M k g * w) w) else rX IS M
set_option maxRecDepth 100000 in
set_option maxHeartbeats 4000000 in
theorem c_X2_buy {l : Launch} (hl : l.stackTraces = false) {n : Nat} {ρ : Nat → Nat} {J : Nat → Int64} {M : Mem} {k : Nat} (hk : k < n) (hn : n ≤ 10) {g : Nat} (hg : g < 4) {w : Int32} : CtO l yX2_buy cX2_buy 8 (some .int) 8 4 24 n ρ J M [.ref (ρ 0), .int (nI k), .int (nI g), .int w] (o_buy M k g w) := by
  refine CtO.of hl (by decide +kernel) (Nat.le_of_ble_eq_true rfl) (fun Ξ hnL C => ?_)
  show E Ξ n ρ J M 0 0 0 [(0, .ref (ρ 0)), (1, .int (nI k)), (2, .int (nI g)), (3, .int w)] []
  by_cases h : w < 1 ∨ 50 < w
  · refine e_aload_n (j := 0) C dX2_buy_0 rfl rfl ?_
    refine e_iload_n (j := 1) C dX2_buy_1 rfl rfl ?_
    refine e_cV (i := 0) (nA := 1) (Cn := RX2) C (c_X2_minerAt hl hk hn) rfl (cnt_fix (by decide)) (fun _ => rfl) rfl rfl mw_150 mw_147 mw_148 mw_149 mw_12 (by decide +kernel) (by decide) rfl rfl (Nat.le_of_ble_eq_true rfl) dX2_buy_2 (Nat.le_of_ble_eq_true rfl) (Nat.le_of_ble_eq_true rfl) ?_
    refine e_astore (ls2 := [(4, .ref (ρ (mO k))), (0, .ref (ρ 0)), (1, .int (nI k)), (2, .int (nI g)), (3, .int w)]) C hnL dX2_buy_5 (by decide) rfl ?_
    refine e_iload_n (j := 3) C dX2_buy_7 rfl rfl ?_
    refine e_cS (nA := 1) C (c_X2_requireGoods hl hg) rfl mw_267 mw_265 mw_266 mw_12 (by decide +kernel) (by decide) rfl rfl (Nat.le_of_ble_eq_true rfl) dX2_buy_8 (Nat.le_of_ble_eq_true rfl) (Nat.le_of_ble_eq_true rfl) ?_
    refine e_iload_n (j := 4) C dX2_buy_11 rfl rfl ?_
    refine e_iconst (v := 1) C dX2_buy_12 (by decide) ?_
    refine e_bipush (v := 50) C dX2_buy_13 (by decide) ?_
    exact e_cSx (nA := 3) C (c_X2_requireRange_x hl h) rfl mw_175 mw_173 mw_174 mw_12 (by decide +kernel) (by decide) rfl rfl (Nat.le_of_ble_eq_true rfl) dX2_buy_15 (Nat.le_of_ble_eq_true rfl) (Nat.le_of_ble_eq_true rfl) (by subst_vars; unfold o_buy; (repeat (first | rw [if_pos (by assumption)] | rw [if_neg (by assumption)])); (try rfl))
  · refine e_aload_n (j := 0) C dX2_buy_0 rfl rfl ?_
    refine e_iload_n (j := 1) C dX2_buy_1 rfl rfl ?_
    refine e_cV (i := 0) (nA := 1) (Cn := RX2) C (c_X2_minerAt hl hk hn) rfl (cnt_fix (by decide)) (fun _ => rfl) rfl rfl mw_150 mw_147 mw_148 mw_149 mw_12 (by decide +kernel) (by decide) rfl rfl (Nat.le_of_ble_eq_true rfl) dX2_buy_2 (Nat.le_of_ble_eq_true rfl) (Nat.le_of_ble_eq_true rfl) ?_
    refine e_astore (ls2 := [(4, .ref (ρ (mO k))), (0, .ref (ρ 0)), (1, .int (nI k)), (2, .int (nI g)), (3, .int w)]) C hnL dX2_buy_5 (by decide) rfl ?_
    refine e_iload_n (j := 3) C dX2_buy_7 rfl rfl ?_
    refine e_cS (nA := 1) C (c_X2_requireGoods hl hg) rfl mw_267 mw_265 mw_266 mw_12 (by decide +kernel) (by decide) rfl rfl (Nat.le_of_ble_eq_true rfl) dX2_buy_8 (Nat.le_of_ble_eq_true rfl) (Nat.le_of_ble_eq_true rfl) ?_
    refine e_iload_n (j := 4) C dX2_buy_11 rfl rfl ?_
    refine e_iconst (v := 1) C dX2_buy_12 (by decide) ?_
    refine e_bipush (v := 50) C dX2_buy_13 (by decide) ?_
    refine e_cS (nA := 3) C (c_X2_requireRange hl (rng_ok h).1 (rng_ok h).2) rfl mw_175 mw_173 mw_174 mw_12 (by decide +kernel) (by decide) rfl rfl (Nat.le_of_ble_eq_true rfl) dX2_buy_15 (Nat.le_of_ble_eq_true rfl) (Nat.le_of_ble_eq_true rfl) ?_
    refine e_aload_n (j := 1) C dX2_buy_18 rfl rfl ?_
    refine e_aload (j := 0) C dX2_buy_19 rfl ?_
    refine e_iload_n (j := 3) C dX2_buy_21 rfl rfl ?_
    refine e_cV (i := 0) (nA := 2) (Cn := RX2) C (c_X2_storePrice hl hk hg) rfl (cnt_fix (by decide)) (fun _ => rfl) rfl rfl mw_284 mw_281 mw_282 mw_283 mw_12 (by decide +kernel) (by decide) rfl rfl (Nat.le_of_ble_eq_true rfl) dX2_buy_22 (Nat.le_of_ble_eq_true rfl) (Nat.le_of_ble_eq_true rfl) ?_
    refine e_iload_n (j := 4) C dX2_buy_25 rfl rfl ?_
    refine e_imul C dX2_buy_26 ?_
    refine e_topi (fun x5_27 ex5_27 => ?_)
    refine e_istore (ls2 := [(5, .int x5_27), (4, .ref (ρ (mO k))), (0, .ref (ρ 0)), (1, .int (nI k)), (2, .int (nI g)), (3, .int w)]) C hnL dX2_buy_27 (by decide) rfl ?_
    refine e_aload_n (j := 2) C dX2_buy_29 rfl rfl ?_
    refine e_aload (j := 1) C dX2_buy_30 rfl ?_
    refine e_iload (j := 0) C dX2_buy_32 rfl ?_
    refine e_cV (i := 0) (nA := 2) (Cn := RX2) C (c_X2_refusal hl hk) rfl (cnt_fix (by decide)) (fun _ => rfl) rfl rfl mw_288 mw_285 mw_286 mw_287 mw_12 (by decide +kernel) (by decide) rfl rfl (Nat.le_of_ble_eq_true rfl) dX2_buy_34 (Nat.le_of_ble_eq_true rfl) (Nat.le_of_ble_eq_true rfl) ?_
    refine e_if_eq (tgt := 50) C dX2_buy_37 (by decide) (fun c_37 => ?_) (fun c_37 => ?_)
    · refine e_aload (j := 1) C dX2_buy_50 rfl ?_
      refine e_iload (j := 0) C dX2_buy_52 rfl ?_
      refine e_cV (i := (mO k)) (nA := 1) (Cn := RX0) C (c_X0_loseLowestScrip hl hk) rfl (cnt_O hk) (fun cA => cell_O cA n ρ J k _) rfl rfl mw_309 mw_306 mw_307 mw_308 mw_65 (by decide +kernel) (by decide) rfl rfl (Nat.le_of_ble_eq_true rfl) dX2_buy_54 (Nat.le_of_ble_eq_true rfl) (Nat.le_of_ble_eq_true rfl) ?_
      refine e_topi (fun x6_57 ex6_57 => ?_)
      refine e_istore (ls2 := [(6, .int x6_57), (5, .int x5_27), (4, .ref (ρ (mO k))), (0, .ref (ρ 0)), (1, .int (nI k)), (2, .int (nI g)), (3, .int w)]) C hnL dX2_buy_57 (by decide) rfl ?_
      refine e_iload (j := 1) C dX2_buy_59 rfl ?_
      refine e_iload (j := 0) C dX2_buy_61 rfl ?_
      refine e_isub C dX2_buy_63 ?_
      refine e_aload (j := 2) C dX2_buy_64 rfl ?_
      refine e_get0 (k := 5) (kk0 := k) (ref := "ScripHollow$Miner") C hk (by decide) rfl rfl mw_240 dX2_buy_66 ?_
      refine e_min C hnL mw_305 mw_125 mw_99 mw_126 (Nat.le_of_ble_eq_true rfl) (Nat.le_of_ble_eq_true rfl) (Nat.le_of_ble_eq_true rfl) (Nat.le_of_ble_eq_true rfl) dX2_buy_69 ?_
      refine e_topi (fun x7_72 ex7_72 => ?_)
      refine e_istore (ls2 := [(7, .int x7_72), (6, .int x6_57), (5, .int x5_27), (4, .ref (ρ (mO k))), (0, .ref (ρ 0)), (1, .int (nI k)), (2, .int (nI g)), (3, .int w)]) C hnL dX2_buy_72 (by decide) rfl ?_
      refine e_aload_n (j := 4) C dX2_buy_74 rfl rfl ?_
      refine e_get2 (k := 17) (ref := "ScripHollow") C (by decide) rfl rfl mw_38 dX2_buy_75 ?_
      refine e_iconst (v := 1) C dX2_buy_78 (by decide) ?_
      refine e_dup2 C dX2_buy_79 rfl rfl ?_
      refine e_ialdN 1 C (cnt_fix (by decide)) (fun _ => rfl) rfl (by decide) (by decide) dX2_buy_80 ?_
      refine e_iload (j := 1) C dX2_buy_81 rfl ?_
      refine e_iadd C dX2_buy_83 ?_
      refine e_iastN 1 C (cnt_fix (by decide)) (fun _ _ => rfl) rfl (by decide) (by decide) dX2_buy_84 ?_
      refine e_aload (j := 3) C dX2_buy_85 rfl ?_
      refine e_dup C dX2_buy_87 rfl ?_
      refine e_get0 (k := 5) (kk0 := k) (ref := "ScripHollow$Miner") C hk (by decide) rfl rfl mw_240 dX2_buy_88 ?_
      refine e_iload (j := 0) C dX2_buy_91 rfl ?_
      refine e_isub C dX2_buy_93 ?_
      refine e_put0 (k := 5) (kk0 := k) (ref := "ScripHollow$Miner") (ty := .int) C hk (by decide) rfl rfl (by decide +kernel) rfl rfl rfl mw_240 dX2_buy_94 ?_
      refine e_aload (j := 3) C dX2_buy_97 rfl ?_
      refine e_dup C dX2_buy_99 rfl ?_
      refine e_get0 (k := 6) (kk0 := k) (ref := "ScripHollow$Miner") C hk (by decide) rfl rfl mw_203 dX2_buy_100 ?_
      refine e_iload (j := 2) C dX2_buy_103 rfl ?_
      refine e_iload (j := 1) C dX2_buy_105 rfl ?_
      refine e_isub C dX2_buy_107 ?_
      refine e_iload (j := 0) C dX2_buy_108 rfl ?_
      refine e_isub C dX2_buy_110 ?_
      refine e_iadd C dX2_buy_111 ?_
      refine e_put0 (k := 6) (kk0 := k) (ref := "ScripHollow$Miner") (ty := .int) C hk (by decide) rfl rfl (by decide +kernel) rfl rfl rfl mw_203 dX2_buy_112 ?_
      refine e_aload (j := 3) C dX2_buy_115 rfl ?_
      refine e_get0 (k := 10) (kk0 := k) (ref := "ScripHollow$Miner") C hk (by decide) rfl rfl mw_264 dX2_buy_117 ?_
      refine e_iload_n (j := 6) C dX2_buy_120 rfl rfl ?_
      refine e_dup2 C dX2_buy_121 rfl rfl ?_
      refine e_ialdN g C (cnt_G hk) (fun cA => cell_G cA n ρ J k _) rfl (by omega) (by decide) dX2_buy_122 ?_
      refine e_iload_n (j := 7) C dX2_buy_123 rfl rfl ?_
      refine e_iadd C dX2_buy_124 ?_
      refine e_iastN g C (cnt_G hk) (fun cA f => cell_G cA n ρ J k f) rfl (by omega) (by decide) dX2_buy_125 ?_
      refine e_aload (j := 3) C dX2_buy_126 rfl ?_
      refine e_get0 (k := 6) (kk0 := k) (ref := "ScripHollow$Miner") C hk (by decide) rfl rfl mw_203 dX2_buy_128 ?_
      exact e_iret C rfl (Nat.le_of_ble_eq_true rfl) (Nat.le_of_ble_eq_true rfl) dX2_buy_131 (pO.mk (by subst_vars; unfold o_buy; (repeat (first | rw [if_pos (by assumption)] | rw [if_neg (by assumption)])); (try rfl)))
    · exact e_throw (text := "the store refuses") C th_IS mw_61 mw_62 (by decide) rfl rfl dX2_buy_40 dX2_buy_43 dX2_buy_44 dX2_buy_46 dX2_buy_49 (by decide) (Nat.le_of_ble_eq_true rfl) (Nat.le_of_ble_eq_true rfl) (Nat.le_of_ble_eq_true rfl) (Nat.le_of_ble_eq_true rfl) (Nat.le_of_ble_eq_true rfl) (xO.mk (by subst_vars; unfold o_buy; (repeat (first | rw [if_pos (by assumption)] | rw [if_neg (by assumption)])); (try rfl)))
set_option maxRecDepth 100000 in
set_option maxHeartbeats 4000000 in
theorem c_X2_over_x {l : Launch} (hl : l.stackTraces = false) {n : Nat} {ρ : Nat → Nat} {J : Nat → Int64} {M : Mem} {x : Int32} (h : x < 0 ∨ nI n ≤ x) {y w : Int32} : CtO l yX2_over cX2_over 6 (some .int) 8 4 24 n ρ J M [.ref (ρ 0), .int x, .int y, .int w] (rX IX M) := by
  refine CtO.of hl (by decide +kernel) (Nat.le_of_ble_eq_true rfl) (fun Ξ hnL C => ?_)
  show E Ξ n ρ J M 0 0 0 [(0, .ref (ρ 0)), (1, .int x), (2, .int y), (3, .int w)] []
  refine e_aload_n (j := 0) C dX2_over_0 rfl rfl ?_
  refine e_iload_n (j := 1) C dX2_over_1 rfl rfl ?_
  exact e_cVx (i := 0) (nA := 1) (Cn := RX2) C (c_X2_minerAt_x hl h) rfl (cnt_fix (by decide)) (fun _ => rfl) rfl rfl mw_150 mw_147 mw_148 mw_149 mw_12 (by decide +kernel) (by decide) rfl rfl (Nat.le_of_ble_eq_true rfl) dX2_over_2 (Nat.le_of_ble_eq_true rfl) (Nat.le_of_ble_eq_true rfl) rfl
set_option maxRecDepth 100000 in
set_option maxHeartbeats 4000000 in
theorem c_X2_over_g {l : Launch} (hl : l.stackTraces = false) {n : Nat} {ρ : Nat → Nat} {J : Nat → Int64} {M : Mem} {k : Nat} (hk : k < n) (hn : n ≤ 10) {y w : Int32} (h : y < 0 ∨ 4 ≤ y) : CtO l yX2_over cX2_over 6 (some .int) 8 4 24 n ρ J M [.ref (ρ 0), .int (nI k), .int y, .int w] (rX IX M) := by
  refine CtO.of hl (by decide +kernel) (Nat.le_of_ble_eq_true rfl) (fun Ξ hnL C => ?_)
  show E Ξ n ρ J M 0 0 0 [(0, .ref (ρ 0)), (1, .int (nI k)), (2, .int y), (3, .int w)] []
  refine e_aload_n (j := 0) C dX2_over_0 rfl rfl ?_
  refine e_iload_n (j := 1) C dX2_over_1 rfl rfl ?_
  refine e_cV (i := 0) (nA := 1) (Cn := RX2) C (c_X2_minerAt hl hk hn) rfl (cnt_fix (by decide)) (fun _ => rfl) rfl rfl mw_150 mw_147 mw_148 mw_149 mw_12 (by decide +kernel) (by decide) rfl rfl (Nat.le_of_ble_eq_true rfl) dX2_over_2 (Nat.le_of_ble_eq_true rfl) (Nat.le_of_ble_eq_true rfl) ?_
  refine e_astore (ls2 := [(4, .ref (ρ (mO k))), (0, .ref (ρ 0)), (1, .int (nI k)), (2, .int y), (3, .int w)]) C hnL dX2_over_5 (by decide) rfl ?_
  refine e_iload_n (j := 3) C dX2_over_7 rfl rfl ?_
  exact e_cSx (nA := 1) C (c_X2_requireGoods_x hl h) rfl mw_267 mw_265 mw_266 mw_12 (by decide +kernel) (by decide) rfl rfl (Nat.le_of_ble_eq_true rfl) dX2_over_8 (Nat.le_of_ble_eq_true rfl) (Nat.le_of_ble_eq_true rfl) rfl
def ov1 (M : Mem) (k : Nat) (c : Int32) : Mem := up M (mO k) 5 (M (mO k) 5 - c)
def ov2 (M : Mem) (k g : Nat) (c w : Int32) : Mem := up (ov1 M k c) (mG k) g (ov1 M k c (mG k) g + w)
def o_over (M : Mem) (k g : Nat) (w : Int32) : Out := if w < 1 ∨ 50 < w then rX IA M else if M (mO k) 0 = 0 then rX IS M else if M 5 g * w ≤ M (mO k) 5 then rI (ov2 M k g (M 5 g * w) w (mO k) 5) (ov2 M k g (M 5 g * w) w) else rX IS M
set_option maxRecDepth 100000 in
set_option maxHeartbeats 4000000 in
theorem c_X2_over {l : Launch} (hl : l.stackTraces = false) {n : Nat} {ρ : Nat → Nat} {J : Nat → Int64} {M : Mem} {k : Nat} (hk : k < n) (hn : n ≤ 10) {g : Nat} (hg : g < 4) {w : Int32} : CtO l yX2_over cX2_over 6 (some .int) 8 5 30 n ρ J M [.ref (ρ 0), .int (nI k), .int (nI g), .int w] (o_over M k g w) := by
  refine CtO.of hl (by decide +kernel) (Nat.le_of_ble_eq_true rfl) (fun Ξ hnL C => ?_)
  show E Ξ n ρ J M 0 0 0 [(0, .ref (ρ 0)), (1, .int (nI k)), (2, .int (nI g)), (3, .int w)] []
  by_cases h : w < 1 ∨ 50 < w
  · refine e_aload_n (j := 0) C dX2_over_0 rfl rfl ?_
    refine e_iload_n (j := 1) C dX2_over_1 rfl rfl ?_
    refine e_cV (i := 0) (nA := 1) (Cn := RX2) C (c_X2_minerAt hl hk hn) rfl (cnt_fix (by decide)) (fun _ => rfl) rfl rfl mw_150 mw_147 mw_148 mw_149 mw_12 (by decide +kernel) (by decide) rfl rfl (Nat.le_of_ble_eq_true rfl) dX2_over_2 (Nat.le_of_ble_eq_true rfl) (Nat.le_of_ble_eq_true rfl) ?_
    refine e_astore (ls2 := [(4, .ref (ρ (mO k))), (0, .ref (ρ 0)), (1, .int (nI k)), (2, .int (nI g)), (3, .int w)]) C hnL dX2_over_5 (by decide) rfl ?_
    refine e_iload_n (j := 3) C dX2_over_7 rfl rfl ?_
    refine e_cS (nA := 1) C (c_X2_requireGoods hl hg) rfl mw_267 mw_265 mw_266 mw_12 (by decide +kernel) (by decide) rfl rfl (Nat.le_of_ble_eq_true rfl) dX2_over_8 (Nat.le_of_ble_eq_true rfl) (Nat.le_of_ble_eq_true rfl) ?_
    refine e_iload_n (j := 4) C dX2_over_11 rfl rfl ?_
    refine e_iconst (v := 1) C dX2_over_12 (by decide) ?_
    refine e_bipush (v := 50) C dX2_over_13 (by decide) ?_
    exact e_cSx (nA := 3) C (c_X2_requireRange_x hl h) rfl mw_175 mw_173 mw_174 mw_12 (by decide +kernel) (by decide) rfl rfl (Nat.le_of_ble_eq_true rfl) dX2_over_15 (Nat.le_of_ble_eq_true rfl) (Nat.le_of_ble_eq_true rfl) (by subst_vars; unfold o_over; (repeat (first | rw [if_pos (by assumption)] | rw [if_neg (by assumption)])); (try rfl))
  · by_cases h2 : M (mO k) 0 = 0
    · refine e_aload_n (j := 0) C dX2_over_0 rfl rfl ?_
      refine e_iload_n (j := 1) C dX2_over_1 rfl rfl ?_
      refine e_cV (i := 0) (nA := 1) (Cn := RX2) C (c_X2_minerAt hl hk hn) rfl (cnt_fix (by decide)) (fun _ => rfl) rfl rfl mw_150 mw_147 mw_148 mw_149 mw_12 (by decide +kernel) (by decide) rfl rfl (Nat.le_of_ble_eq_true rfl) dX2_over_2 (Nat.le_of_ble_eq_true rfl) (Nat.le_of_ble_eq_true rfl) ?_
      refine e_astore (ls2 := [(4, .ref (ρ (mO k))), (0, .ref (ρ 0)), (1, .int (nI k)), (2, .int (nI g)), (3, .int w)]) C hnL dX2_over_5 (by decide) rfl ?_
      refine e_iload_n (j := 3) C dX2_over_7 rfl rfl ?_
      refine e_cS (nA := 1) C (c_X2_requireGoods hl hg) rfl mw_267 mw_265 mw_266 mw_12 (by decide +kernel) (by decide) rfl rfl (Nat.le_of_ble_eq_true rfl) dX2_over_8 (Nat.le_of_ble_eq_true rfl) (Nat.le_of_ble_eq_true rfl) ?_
      refine e_iload_n (j := 4) C dX2_over_11 rfl rfl ?_
      refine e_iconst (v := 1) C dX2_over_12 (by decide) ?_
      refine e_bipush (v := 50) C dX2_over_13 (by decide) ?_
      refine e_cS (nA := 3) C (c_X2_requireRange hl (rng_ok h).1 (rng_ok h).2) rfl mw_175 mw_173 mw_174 mw_12 (by decide +kernel) (by decide) rfl rfl (Nat.le_of_ble_eq_true rfl) dX2_over_15 (Nat.le_of_ble_eq_true rfl) (Nat.le_of_ble_eq_true rfl) ?_
      refine e_aload (j := 0) C dX2_over_18 rfl ?_
      exact e_cSx (nA := 1) C (c_X2_requireAlive_x hl hk h2) rfl mw_180 mw_178 mw_179 mw_12 (by decide +kernel) (by decide) rfl rfl (Nat.le_of_ble_eq_true rfl) dX2_over_20 (Nat.le_of_ble_eq_true rfl) (Nat.le_of_ble_eq_true rfl) (by subst_vars; unfold o_over; (repeat (first | rw [if_pos (by assumption)] | rw [if_neg (by assumption)])); (try rfl))
    · refine e_aload_n (j := 0) C dX2_over_0 rfl rfl ?_
      refine e_iload_n (j := 1) C dX2_over_1 rfl rfl ?_
      refine e_cV (i := 0) (nA := 1) (Cn := RX2) C (c_X2_minerAt hl hk hn) rfl (cnt_fix (by decide)) (fun _ => rfl) rfl rfl mw_150 mw_147 mw_148 mw_149 mw_12 (by decide +kernel) (by decide) rfl rfl (Nat.le_of_ble_eq_true rfl) dX2_over_2 (Nat.le_of_ble_eq_true rfl) (Nat.le_of_ble_eq_true rfl) ?_
      refine e_astore (ls2 := [(4, .ref (ρ (mO k))), (0, .ref (ρ 0)), (1, .int (nI k)), (2, .int (nI g)), (3, .int w)]) C hnL dX2_over_5 (by decide) rfl ?_
      refine e_iload_n (j := 3) C dX2_over_7 rfl rfl ?_
      refine e_cS (nA := 1) C (c_X2_requireGoods hl hg) rfl mw_267 mw_265 mw_266 mw_12 (by decide +kernel) (by decide) rfl rfl (Nat.le_of_ble_eq_true rfl) dX2_over_8 (Nat.le_of_ble_eq_true rfl) (Nat.le_of_ble_eq_true rfl) ?_
      refine e_iload_n (j := 4) C dX2_over_11 rfl rfl ?_
      refine e_iconst (v := 1) C dX2_over_12 (by decide) ?_
      refine e_bipush (v := 50) C dX2_over_13 (by decide) ?_
      refine e_cS (nA := 3) C (c_X2_requireRange hl (rng_ok h).1 (rng_ok h).2) rfl mw_175 mw_173 mw_174 mw_12 (by decide +kernel) (by decide) rfl rfl (Nat.le_of_ble_eq_true rfl) dX2_over_15 (Nat.le_of_ble_eq_true rfl) (Nat.le_of_ble_eq_true rfl) ?_
      refine e_aload (j := 0) C dX2_over_18 rfl ?_
      refine e_cS (nA := 1) C (c_X2_requireAlive hl hk h2) rfl mw_180 mw_178 mw_179 mw_12 (by decide +kernel) (by decide) rfl rfl (Nat.le_of_ble_eq_true rfl) dX2_over_20 (Nat.le_of_ble_eq_true rfl) (Nat.le_of_ble_eq_true rfl) ?_
      refine e_aload_n (j := 1) C dX2_over_23 rfl rfl ?_
      refine e_get2 (k := 8) (ref := "ScripHollow") C (by decide) rfl rfl mw_33 dX2_over_24 ?_
      refine e_iload_n (j := 3) C dX2_over_27 rfl rfl ?_
      refine e_ialdN g C (cnt_fix (by decide)) (fun _ => rfl) rfl (by omega) (by decide) dX2_over_28 ?_
      refine e_iload_n (j := 4) C dX2_over_29 rfl rfl ?_
      refine e_imul C dX2_over_30 ?_
      refine e_topi (fun x5_31 ex5_31 => ?_)
      refine e_istore (ls2 := [(5, .int x5_31), (4, .ref (ρ (mO k))), (0, .ref (ρ 0)), (1, .int (nI k)), (2, .int (nI g)), (3, .int w)]) C hnL dX2_over_31 (by decide) rfl ?_
      refine e_aload (j := 1) C dX2_over_33 rfl ?_
      refine e_get0 (k := 5) (kk0 := k) (ref := "ScripHollow$Miner") C hk (by decide) rfl rfl mw_240 dX2_over_35 ?_
      refine e_iload (j := 0) C dX2_over_38 rfl ?_
      refine e_icmp_ge (tgt := 53) C dX2_over_40 (by decide) (fun c_40 => ?_) (fun c_40 => ?_)
      · refine e_aload (j := 1) C dX2_over_53 rfl ?_
        refine e_dup C dX2_over_55 rfl ?_
        refine e_get0 (k := 5) (kk0 := k) (ref := "ScripHollow$Miner") C hk (by decide) rfl rfl mw_240 dX2_over_56 ?_
        refine e_iload (j := 0) C dX2_over_59 rfl ?_
        refine e_isub C dX2_over_61 ?_
        refine e_put0 (k := 5) (kk0 := k) (ref := "ScripHollow$Miner") (ty := .int) C hk (by decide) rfl rfl (by decide +kernel) rfl rfl rfl mw_240 dX2_over_62 ?_
        refine e_aload (j := 1) C dX2_over_65 rfl ?_
        refine e_get0 (k := 10) (kk0 := k) (ref := "ScripHollow$Miner") C hk (by decide) rfl rfl mw_264 dX2_over_67 ?_
        refine e_iload_n (j := 4) C dX2_over_70 rfl rfl ?_
        refine e_dup2 C dX2_over_71 rfl rfl ?_
        refine e_ialdN g C (cnt_G hk) (fun cA => cell_G cA n ρ J k _) rfl (by omega) (by decide) dX2_over_72 ?_
        refine e_iload_n (j := 5) C dX2_over_73 rfl rfl ?_
        refine e_iadd C dX2_over_74 ?_
        refine e_iastN g C (cnt_G hk) (fun cA f => cell_G cA n ρ J k f) rfl (by omega) (by decide) dX2_over_75 ?_
        refine e_aload (j := 1) C dX2_over_76 rfl ?_
        refine e_get0 (k := 5) (kk0 := k) (ref := "ScripHollow$Miner") C hk (by decide) rfl rfl mw_240 dX2_over_78 ?_
        exact e_iret C rfl (Nat.le_of_ble_eq_true rfl) (Nat.le_of_ble_eq_true rfl) dX2_over_81 (pO.mk (by subst_vars; unfold o_over; (repeat (first | rw [if_pos (by assumption)] | rw [if_neg (by assumption)])); (try rfl)))
      · exact e_throw (text := "the miner has less coin") C th_IS mw_61 mw_62 (by decide) rfl rfl dX2_over_43 dX2_over_46 dX2_over_47 dX2_over_49 dX2_over_52 (by decide) (Nat.le_of_ble_eq_true rfl) (Nat.le_of_ble_eq_true rfl) (Nat.le_of_ble_eq_true rfl) (Nat.le_of_ble_eq_true rfl) (Nat.le_of_ble_eq_true rfl) (xO.mk (by subst_vars; unfold o_over; (repeat (first | rw [if_pos (by assumption)] | rw [if_neg (by assumption)])); (try rfl)))
set_option maxRecDepth 100000 in
set_option maxHeartbeats 4000000 in
theorem c_X2_change_x {l : Launch} (hl : l.stackTraces = false) {n : Nat} {ρ : Nat → Nat} {J : Nat → Int64} {M : Mem} {x : Int32} (h : x < 0 ∨ nI n ≤ x) {w : Int32} : CtO l yX2_change cX2_change 5 (some .int) 8 4 24 n ρ J M [.ref (ρ 0), .int x, .int w] (rX IX M) := by
  refine CtO.of hl (by decide +kernel) (Nat.le_of_ble_eq_true rfl) (fun Ξ hnL C => ?_)
  show E Ξ n ρ J M 0 0 0 [(0, .ref (ρ 0)), (1, .int x), (2, .int w)] []
  refine e_aload_n (j := 0) C dX2_change_0 rfl rfl ?_
  refine e_iload_n (j := 1) C dX2_change_1 rfl rfl ?_
  exact e_cVx (i := 0) (nA := 1) (Cn := RX2) C (c_X2_minerAt_x hl h) rfl (cnt_fix (by decide)) (fun _ => rfl) rfl rfl mw_150 mw_147 mw_148 mw_149 mw_12 (by decide +kernel) (by decide) rfl rfl (Nat.le_of_ble_eq_true rfl) dX2_change_2 (Nat.le_of_ble_eq_true rfl) (Nat.le_of_ble_eq_true rfl) rfl
def chI (M : Mem) (w : Int32) : Int32 := w * (100 - M 0 10) / 100
def ch1 (M : Mem) (k : Nat) (w : Int32) : Mem := up (llow M k w 40).1 7 2 (M 7 2 + (llow M k w 40).2)
def ch2 (M : Mem) (k : Nat) (w : Int32) : Mem := up (ch1 M k w) (mO k) 5 (ch1 M k w (mO k) 5 + chI (ch1 M k w) w)
def o_change (M : Mem) (k : Nat) (w : Int32) : Out := if w < 1 ∨ 100000 < w then rX IA M else if M (mO k) 0 = 0 then rX IS M else if w ≤ sm (M (mS k)) 40 then rI (chI (ch1 M k w) w) (ch2 M k w) else rX IS M
set_option maxRecDepth 100000 in
set_option maxHeartbeats 4000000 in
theorem c_X2_change {l : Launch} (hl : l.stackTraces = false) {n : Nat} {ρ : Nat → Nat} {J : Nat → Int64} {M : Mem} {k : Nat} (hk : k < n) (hn : n ≤ 10) {w : Int32} : CtO l yX2_change cX2_change 5 (some .int) 8 4 24 n ρ J M [.ref (ρ 0), .int (nI k), .int w] (o_change M k w) := by
  refine CtO.of hl (by decide +kernel) (Nat.le_of_ble_eq_true rfl) (fun Ξ hnL C => ?_)
  show E Ξ n ρ J M 0 0 0 [(0, .ref (ρ 0)), (1, .int (nI k)), (2, .int w)] []
  by_cases h : w < 1 ∨ 100000 < w
  · refine e_aload_n (j := 0) C dX2_change_0 rfl rfl ?_
    refine e_iload_n (j := 1) C dX2_change_1 rfl rfl ?_
    refine e_cV (i := 0) (nA := 1) (Cn := RX2) C (c_X2_minerAt hl hk hn) rfl (cnt_fix (by decide)) (fun _ => rfl) rfl rfl mw_150 mw_147 mw_148 mw_149 mw_12 (by decide +kernel) (by decide) rfl rfl (Nat.le_of_ble_eq_true rfl) dX2_change_2 (Nat.le_of_ble_eq_true rfl) (Nat.le_of_ble_eq_true rfl) ?_
    refine e_astore_n (ls2 := [(3, .ref (ρ (mO k))), (0, .ref (ρ 0)), (1, .int (nI k)), (2, .int w)]) C hnL dX2_change_5 rfl (by decide) rfl ?_
    refine e_iload_n (j := 3) C dX2_change_6 rfl rfl ?_
    refine e_iconst (v := 1) C dX2_change_7 (by decide) ?_
    refine e_ldc (v := 100000) C dX2_change_8 mw_319 ?_
    exact e_cSx (nA := 3) C (c_X2_requireRange_x hl h) rfl mw_175 mw_173 mw_174 mw_12 (by decide +kernel) (by decide) rfl rfl (Nat.le_of_ble_eq_true rfl) dX2_change_10 (Nat.le_of_ble_eq_true rfl) (Nat.le_of_ble_eq_true rfl) (by subst_vars; unfold o_change; (repeat (first | rw [if_pos (by assumption)] | rw [if_neg (by assumption)])); (try rfl))
  · by_cases h2 : M (mO k) 0 = 0
    · refine e_aload_n (j := 0) C dX2_change_0 rfl rfl ?_
      refine e_iload_n (j := 1) C dX2_change_1 rfl rfl ?_
      refine e_cV (i := 0) (nA := 1) (Cn := RX2) C (c_X2_minerAt hl hk hn) rfl (cnt_fix (by decide)) (fun _ => rfl) rfl rfl mw_150 mw_147 mw_148 mw_149 mw_12 (by decide +kernel) (by decide) rfl rfl (Nat.le_of_ble_eq_true rfl) dX2_change_2 (Nat.le_of_ble_eq_true rfl) (Nat.le_of_ble_eq_true rfl) ?_
      refine e_astore_n (ls2 := [(3, .ref (ρ (mO k))), (0, .ref (ρ 0)), (1, .int (nI k)), (2, .int w)]) C hnL dX2_change_5 rfl (by decide) rfl ?_
      refine e_iload_n (j := 3) C dX2_change_6 rfl rfl ?_
      refine e_iconst (v := 1) C dX2_change_7 (by decide) ?_
      refine e_ldc (v := 100000) C dX2_change_8 mw_319 ?_
      refine e_cS (nA := 3) C (c_X2_requireRange hl (rng_ok h).1 (rng_ok h).2) rfl mw_175 mw_173 mw_174 mw_12 (by decide +kernel) (by decide) rfl rfl (Nat.le_of_ble_eq_true rfl) dX2_change_10 (Nat.le_of_ble_eq_true rfl) (Nat.le_of_ble_eq_true rfl) ?_
      refine e_aload_n (j := 0) C dX2_change_13 rfl rfl ?_
      exact e_cSx (nA := 1) C (c_X2_requireAlive_x hl hk h2) rfl mw_180 mw_178 mw_179 mw_12 (by decide +kernel) (by decide) rfl rfl (Nat.le_of_ble_eq_true rfl) dX2_change_14 (Nat.le_of_ble_eq_true rfl) (Nat.le_of_ble_eq_true rfl) (by subst_vars; unfold o_change; (repeat (first | rw [if_pos (by assumption)] | rw [if_neg (by assumption)])); (try rfl))
    · refine e_aload_n (j := 0) C dX2_change_0 rfl rfl ?_
      refine e_iload_n (j := 1) C dX2_change_1 rfl rfl ?_
      refine e_cV (i := 0) (nA := 1) (Cn := RX2) C (c_X2_minerAt hl hk hn) rfl (cnt_fix (by decide)) (fun _ => rfl) rfl rfl mw_150 mw_147 mw_148 mw_149 mw_12 (by decide +kernel) (by decide) rfl rfl (Nat.le_of_ble_eq_true rfl) dX2_change_2 (Nat.le_of_ble_eq_true rfl) (Nat.le_of_ble_eq_true rfl) ?_
      refine e_astore_n (ls2 := [(3, .ref (ρ (mO k))), (0, .ref (ρ 0)), (1, .int (nI k)), (2, .int w)]) C hnL dX2_change_5 rfl (by decide) rfl ?_
      refine e_iload_n (j := 3) C dX2_change_6 rfl rfl ?_
      refine e_iconst (v := 1) C dX2_change_7 (by decide) ?_
      refine e_ldc (v := 100000) C dX2_change_8 mw_319 ?_
      refine e_cS (nA := 3) C (c_X2_requireRange hl (rng_ok h).1 (rng_ok h).2) rfl mw_175 mw_173 mw_174 mw_12 (by decide +kernel) (by decide) rfl rfl (Nat.le_of_ble_eq_true rfl) dX2_change_10 (Nat.le_of_ble_eq_true rfl) (Nat.le_of_ble_eq_true rfl) ?_
      refine e_aload_n (j := 0) C dX2_change_13 rfl rfl ?_
      refine e_cS (nA := 1) C (c_X2_requireAlive hl hk h2) rfl mw_180 mw_178 mw_179 mw_12 (by decide +kernel) (by decide) rfl rfl (Nat.le_of_ble_eq_true rfl) dX2_change_14 (Nat.le_of_ble_eq_true rfl) (Nat.le_of_ble_eq_true rfl) ?_
      refine e_aload_n (j := 0) C dX2_change_17 rfl rfl ?_
      refine e_cV (i := (mO k)) (nA := 0) (Cn := RX0) C (c_X0_allScrip hl hk) rfl (cnt_O hk) (fun cA => cell_O cA n ρ J k _) rfl rfl mw_297 mw_320 mw_295 mw_296 mw_65 (by decide +kernel) (by decide) rfl rfl (Nat.le_of_ble_eq_true rfl) dX2_change_18 (Nat.le_of_ble_eq_true rfl) (Nat.le_of_ble_eq_true rfl) ?_
      refine e_iload_n (j := 3) C dX2_change_21 rfl rfl ?_
      refine e_icmp_ge (tgt := 35) C dX2_change_22 (by decide) (fun c_22 => ?_) (fun c_22 => ?_)
      · refine e_aload_n (j := 1) C dX2_change_35 rfl rfl ?_
        refine e_get2 (k := 17) (ref := "ScripHollow") C (by decide) rfl rfl mw_38 dX2_change_36 ?_
        refine e_iconst (v := 2) C dX2_change_39 (by decide) ?_
        refine e_dup2 C dX2_change_40 rfl rfl ?_
        refine e_ialdN 2 C (cnt_fix (by decide)) (fun _ => rfl) rfl (by decide) (by decide) dX2_change_41 ?_
        refine e_aload_n (j := 0) C dX2_change_42 rfl rfl ?_
        refine e_iload_n (j := 3) C dX2_change_43 rfl rfl ?_
        refine e_cV (i := (mO k)) (nA := 1) (Cn := RX0) C (c_X0_loseLowestScrip hl hk) rfl (cnt_O hk) (fun cA => cell_O cA n ρ J k _) rfl rfl mw_309 mw_306 mw_307 mw_308 mw_65 (by decide +kernel) (by decide) rfl rfl (Nat.le_of_ble_eq_true rfl) dX2_change_44 (Nat.le_of_ble_eq_true rfl) (Nat.le_of_ble_eq_true rfl) ?_
        refine e_iadd C dX2_change_47 ?_
        refine e_iastN 2 C (cnt_fix (by decide)) (fun _ _ => rfl) rfl (by decide) (by decide) dX2_change_48 ?_
        refine e_iload_n (j := 3) C dX2_change_49 rfl rfl ?_
        refine e_bipush (v := 100) C dX2_change_50 (by decide) ?_
        refine e_aload_n (j := 1) C dX2_change_52 rfl rfl ?_
        refine e_get2 (k := 10) (ref := "ScripHollow") C (by decide) rfl rfl mw_35 dX2_change_53 ?_
        refine e_isub C dX2_change_56 ?_
        refine e_imul C dX2_change_57 ?_
        refine e_bipush (v := 100) C dX2_change_58 (by decide) ?_
        refine e_idiv C dX2_change_60 (by decide) ?_
        refine e_topi (fun x4_61 ex4_61 => ?_)
        refine e_istore (ls2 := [(4, .int x4_61), (3, .ref (ρ (mO k))), (0, .ref (ρ 0)), (1, .int (nI k)), (2, .int w)]) C hnL dX2_change_61 (by decide) rfl ?_
        refine e_aload_n (j := 1) C dX2_change_63 rfl rfl ?_
        refine e_dup C dX2_change_64 rfl ?_
        refine e_get0 (k := 5) (kk0 := k) (ref := "ScripHollow$Miner") C hk (by decide) rfl rfl mw_240 dX2_change_65 ?_
        refine e_iload (j := 0) C dX2_change_68 rfl ?_
        refine e_iadd C dX2_change_70 ?_
        refine e_put0 (k := 5) (kk0 := k) (ref := "ScripHollow$Miner") (ty := .int) C hk (by decide) rfl rfl (by decide +kernel) rfl rfl rfl mw_240 dX2_change_71 ?_
        refine e_iload (j := 0) C dX2_change_74 rfl ?_
        exact e_iret C rfl (Nat.le_of_ble_eq_true rfl) (Nat.le_of_ble_eq_true rfl) dX2_change_76 (pO.mk (by subst_vars; unfold o_change; (repeat (first | rw [if_pos (by assumption)] | rw [if_neg (by assumption)])); (try rfl)))
      · exact e_throw (text := "the miner has less scrip") C th_IS mw_61 mw_62 (by decide) rfl rfl dX2_change_25 dX2_change_28 dX2_change_29 dX2_change_31 dX2_change_34 (by decide) (Nat.le_of_ble_eq_true rfl) (Nat.le_of_ble_eq_true rfl) (Nat.le_of_ble_eq_true rfl) (Nat.le_of_ble_eq_true rfl) (Nat.le_of_ble_eq_true rfl) (xO.mk (by subst_vars; unfold o_change; (repeat (first | rw [if_pos (by assumption)] | rw [if_neg (by assumption)])); (try rfl)))
set_option maxRecDepth 100000 in
set_option maxHeartbeats 4000000 in
theorem c_X2_law_x {l : Launch} (hl : l.stackTraces = false) {n : Nat} {ρ : Nat → Nat} {J : Nat → Int64} {M : Mem} {x z : Int32} (h : x < 0 ∨ 3 ≤ x) : CtO l yX2_law cX2_law 4 (some .boolean) 7 1 6 n ρ J M [.ref (ρ 0), .int x, .int z] (rX IX M) := by
  refine CtO.of hl (by decide +kernel) (Nat.le_of_ble_eq_true rfl) (fun Ξ hnL C => ?_)
  show E Ξ n ρ J M 0 0 0 [(0, .ref (ρ 0)), (1, .int x), (2, .int z)] []
  refine e_iload_n (j := 1) C dX2_law_0 rfl rfl ?_
  refine e_aload_n (j := 0) C dX2_law_1 rfl rfl ?_
  refine e_get2 (k := 11) (ref := "ScripHollow") C (by decide) rfl rfl mw_37 dX2_law_2 ?_
  refine e_zlen (v := 3) C (cnt_fix (by decide)) (fun _ => rfl) (by decide) dX2_law_5 ?_
  exact e_cSx (nA := 2) C (c_X2_requireIndex_x hl h) rfl mw_154 mw_152 mw_153 mw_12 (by decide +kernel) (by decide) rfl rfl (Nat.le_of_ble_eq_true rfl) dX2_law_6 (Nat.le_of_ble_eq_true rfl) (Nat.le_of_ble_eq_true rfl) rfl
set_option maxRecDepth 100000 in
set_option maxHeartbeats 4000000 in
theorem c_X2_law {l : Launch} (hl : l.stackTraces = false) {n : Nat} {ρ : Nat → Nat} {J : Nat → Int64} {M : Mem} {j : Nat} (hj : j < 3) {z : Int32} (hz : isB z) (hb : isB (M 6 j)) : CtO l yX2_law cX2_law 4 (some .boolean) 7 1 6 n ρ J M [.ref (ρ 0), .int (nI j), .int z] (rI (M 6 j) (up M 6 j z)) := by
  refine CtO.of hl (by decide +kernel) (Nat.le_of_ble_eq_true rfl) (fun Ξ hnL C => ?_)
  show E Ξ n ρ J M 0 0 0 [(0, .ref (ρ 0)), (1, .int (nI j)), (2, .int z)] []
  refine e_iload_n (j := 1) C dX2_law_0 rfl rfl ?_
  refine e_aload_n (j := 0) C dX2_law_1 rfl rfl ?_
  refine e_get2 (k := 11) (ref := "ScripHollow") C (by decide) rfl rfl mw_37 dX2_law_2 ?_
  refine e_zlen (v := 3) C (cnt_fix (by decide)) (fun _ => rfl) (by decide) dX2_law_5 ?_
  refine e_cS (nA := 2) C (c_X2_requireIndex hl (nI_pos (by omega)) (nI_lt (b := 3) hj (by omega))) rfl mw_154 mw_152 mw_153 mw_12 (by decide +kernel) (by decide) rfl rfl (Nat.le_of_ble_eq_true rfl) dX2_law_6 (Nat.le_of_ble_eq_true rfl) (Nat.le_of_ble_eq_true rfl) ?_
  refine e_aload_n (j := 0) C dX2_law_9 rfl rfl ?_
  refine e_get2 (k := 11) (ref := "ScripHollow") C (by decide) rfl rfl mw_37 dX2_law_10 ?_
  refine e_iload_n (j := 1) C dX2_law_13 rfl rfl ?_
  refine e_zaldN j C (cnt_fix (by decide)) (fun _ => rfl) rfl (by omega) (by decide) dX2_law_14 ?_
  refine e_topi (fun x3_15 ex3_15 => ?_)
  refine e_istore_n (ls2 := [(3, .int x3_15), (0, .ref (ρ 0)), (1, .int (nI j)), (2, .int z)]) C hnL dX2_law_15 rfl (by decide) rfl ?_
  refine e_aload_n (j := 1) C dX2_law_16 rfl rfl ?_
  refine e_get2 (k := 11) (ref := "ScripHollow") C (by decide) rfl rfl mw_37 dX2_law_17 ?_
  refine e_iload_n (j := 2) C dX2_law_20 rfl rfl ?_
  refine e_iload_n (j := 3) C dX2_law_21 rfl rfl ?_
  refine e_zastN j C (cnt_fix (by decide)) (fun _ _ => rfl) rfl (by omega) (by decide) (by first | decide | exact isB.nr (by assumption)) dX2_law_22 ?_
  refine e_iload_n (j := 0) C dX2_law_23 rfl rfl ?_
  exact e_zret C rfl (isB.nar (by subst_vars; assumption)) (Nat.le_of_ble_eq_true rfl) (Nat.le_of_ble_eq_true rfl) dX2_law_24 (pO.mk (by subst_vars; rfl))
set_option maxRecDepth 100000 in
set_option maxHeartbeats 4000000 in
theorem c_X2_vote_x {l : Launch} (hl : l.stackTraces = false) {n : Nat} {ρ : Nat → Nat} {J : Nat → Int64} {M : Mem} {x : Int32} (h : x < 0 ∨ nI n ≤ x) {z : Int32} : CtO l yX2_vote cX2_vote 5 (some .boolean) 8 1 6 n ρ J M [.ref (ρ 0), .int x, .int z] (rX IX M) := by
  refine CtO.of hl (by decide +kernel) (Nat.le_of_ble_eq_true rfl) (fun Ξ hnL C => ?_)
  show E Ξ n ρ J M 0 0 0 [(0, .ref (ρ 0)), (1, .int x), (2, .int z)] []
  refine e_aload_n (j := 0) C dX2_vote_0 rfl rfl ?_
  refine e_iload_n (j := 1) C dX2_vote_1 rfl rfl ?_
  exact e_cVx (i := 0) (nA := 1) (Cn := RX2) C (c_X2_minerAt_x hl h) rfl (cnt_fix (by decide)) (fun _ => rfl) rfl rfl mw_150 mw_147 mw_148 mw_149 mw_12 (by decide +kernel) (by decide) rfl rfl (Nat.le_of_ble_eq_true rfl) dX2_vote_2 (Nat.le_of_ble_eq_true rfl) (Nat.le_of_ble_eq_true rfl) rfl
set_option maxRecDepth 100000 in
set_option maxHeartbeats 4000000 in
theorem c_X2_vote {l : Launch} (hl : l.stackTraces = false) {n : Nat} {ρ : Nat → Nat} {J : Nat → Int64} {M : Mem} {k : Nat} (hk : k < n) (hn : n ≤ 10) {z : Int32} (hz : isB z) (hb : isB (M (mO k) 2)) : CtO l yX2_vote cX2_vote 5 (some .boolean) 8 1 6 n ρ J M [.ref (ρ 0), .int (nI k), .int z] (rI (M (mO k) 2) (up M (mO k) 2 z)) := by
  refine CtO.of hl (by decide +kernel) (Nat.le_of_ble_eq_true rfl) (fun Ξ hnL C => ?_)
  show E Ξ n ρ J M 0 0 0 [(0, .ref (ρ 0)), (1, .int (nI k)), (2, .int z)] []
  refine e_aload_n (j := 0) C dX2_vote_0 rfl rfl ?_
  refine e_iload_n (j := 1) C dX2_vote_1 rfl rfl ?_
  refine e_cV (i := 0) (nA := 1) (Cn := RX2) C (c_X2_minerAt hl hk hn) rfl (cnt_fix (by decide)) (fun _ => rfl) rfl rfl mw_150 mw_147 mw_148 mw_149 mw_12 (by decide +kernel) (by decide) rfl rfl (Nat.le_of_ble_eq_true rfl) dX2_vote_2 (Nat.le_of_ble_eq_true rfl) (Nat.le_of_ble_eq_true rfl) ?_
  refine e_astore_n (ls2 := [(3, .ref (ρ (mO k))), (0, .ref (ρ 0)), (1, .int (nI k)), (2, .int z)]) C hnL dX2_vote_5 rfl (by decide) rfl ?_
  refine e_aload_n (j := 0) C dX2_vote_6 rfl rfl ?_
  refine e_get0 (k := 2) (kk0 := k) (ref := "ScripHollow$Miner") C hk (by decide) rfl rfl mw_373 dX2_vote_7 ?_
  refine e_topi (fun x4_10 ex4_10 => ?_)
  refine e_istore (ls2 := [(4, .int x4_10), (3, .ref (ρ (mO k))), (0, .ref (ρ 0)), (1, .int (nI k)), (2, .int z)]) C hnL dX2_vote_10 (by decide) rfl ?_
  refine e_aload_n (j := 1) C dX2_vote_12 rfl rfl ?_
  refine e_iload_n (j := 4) C dX2_vote_13 rfl rfl ?_
  refine e_put0 (k := 2) (kk0 := k) (ref := "ScripHollow$Miner") (ty := .boolean) C hk (by decide) rfl rfl (by decide +kernel) (isB.nar (by assumption)) (isB.fit (by assumption)) rfl mw_373 dX2_vote_14 ?_
  refine e_iload (j := 0) C dX2_vote_17 rfl ?_
  exact e_zret C rfl (isB.nar (by subst_vars; assumption)) (Nat.le_of_ble_eq_true rfl) (Nat.le_of_ble_eq_true rfl) dX2_vote_19 (pO.mk (by subst_vars; rfl))
set_option maxRecDepth 100000 in
set_option maxHeartbeats 4000000 in
theorem c_X2_has_x {l : Launch} (hl : l.stackTraces = false) {n : Nat} {ρ : Nat → Nat} {J : Nat → Int64} {M : Mem} {x : Int32} (h : x < 0 ∨ nI n ≤ x) {y : Int32} : CtO l yX2_has cX2_has 4 (some .int) 8 2 12 n ρ J M [.ref (ρ 0), .int x, .int y] (rX IX M) := by
  refine CtO.of hl (by decide +kernel) (Nat.le_of_ble_eq_true rfl) (fun Ξ hnL C => ?_)
  show E Ξ n ρ J M 0 0 0 [(0, .ref (ρ 0)), (1, .int x), (2, .int y)] []
  refine e_aload_n (j := 0) C dX2_has_0 rfl rfl ?_
  refine e_iload_n (j := 1) C dX2_has_1 rfl rfl ?_
  exact e_cVx (i := 0) (nA := 1) (Cn := RX2) C (c_X2_minerAt_x hl h) rfl (cnt_fix (by decide)) (fun _ => rfl) rfl rfl mw_150 mw_147 mw_148 mw_149 mw_12 (by decide +kernel) (by decide) rfl rfl (Nat.le_of_ble_eq_true rfl) dX2_has_2 (Nat.le_of_ble_eq_true rfl) (Nat.le_of_ble_eq_true rfl) rfl
set_option maxRecDepth 100000 in
set_option maxHeartbeats 4000000 in
theorem c_X2_has_g {l : Launch} (hl : l.stackTraces = false) {n : Nat} {ρ : Nat → Nat} {J : Nat → Int64} {M : Mem} {k : Nat} (hk : k < n) (hn : n ≤ 10) {y : Int32} (h : y < 0 ∨ 4 ≤ y) : CtO l yX2_has cX2_has 4 (some .int) 8 2 12 n ρ J M [.ref (ρ 0), .int (nI k), .int y] (rX IX M) := by
  refine CtO.of hl (by decide +kernel) (Nat.le_of_ble_eq_true rfl) (fun Ξ hnL C => ?_)
  show E Ξ n ρ J M 0 0 0 [(0, .ref (ρ 0)), (1, .int (nI k)), (2, .int y)] []
  refine e_aload_n (j := 0) C dX2_has_0 rfl rfl ?_
  refine e_iload_n (j := 1) C dX2_has_1 rfl rfl ?_
  refine e_cV (i := 0) (nA := 1) (Cn := RX2) C (c_X2_minerAt hl hk hn) rfl (cnt_fix (by decide)) (fun _ => rfl) rfl rfl mw_150 mw_147 mw_148 mw_149 mw_12 (by decide +kernel) (by decide) rfl rfl (Nat.le_of_ble_eq_true rfl) dX2_has_2 (Nat.le_of_ble_eq_true rfl) (Nat.le_of_ble_eq_true rfl) ?_
  refine e_astore_n (ls2 := [(3, .ref (ρ (mO k))), (0, .ref (ρ 0)), (1, .int (nI k)), (2, .int y)]) C hnL dX2_has_5 rfl (by decide) rfl ?_
  refine e_iload_n (j := 3) C dX2_has_6 rfl rfl ?_
  exact e_cSx (nA := 1) C (c_X2_requireGoods_x hl h) rfl mw_267 mw_265 mw_266 mw_12 (by decide +kernel) (by decide) rfl rfl (Nat.le_of_ble_eq_true rfl) dX2_has_7 (Nat.le_of_ble_eq_true rfl) (Nat.le_of_ble_eq_true rfl) rfl
set_option maxRecDepth 100000 in
set_option maxHeartbeats 4000000 in
theorem c_X2_has {l : Launch} (hl : l.stackTraces = false) {n : Nat} {ρ : Nat → Nat} {J : Nat → Int64} {M : Mem} {k : Nat} (hk : k < n) (hn : n ≤ 10) {g : Nat} (hg : g < 4) : CtO l yX2_has cX2_has 4 (some .int) 8 2 12 n ρ J M [.ref (ρ 0), .int (nI k), .int (nI g)] (rI (M (mG k) g) M) := by
  refine CtO.of hl (by decide +kernel) (Nat.le_of_ble_eq_true rfl) (fun Ξ hnL C => ?_)
  show E Ξ n ρ J M 0 0 0 [(0, .ref (ρ 0)), (1, .int (nI k)), (2, .int (nI g))] []
  refine e_aload_n (j := 0) C dX2_has_0 rfl rfl ?_
  refine e_iload_n (j := 1) C dX2_has_1 rfl rfl ?_
  refine e_cV (i := 0) (nA := 1) (Cn := RX2) C (c_X2_minerAt hl hk hn) rfl (cnt_fix (by decide)) (fun _ => rfl) rfl rfl mw_150 mw_147 mw_148 mw_149 mw_12 (by decide +kernel) (by decide) rfl rfl (Nat.le_of_ble_eq_true rfl) dX2_has_2 (Nat.le_of_ble_eq_true rfl) (Nat.le_of_ble_eq_true rfl) ?_
  refine e_astore_n (ls2 := [(3, .ref (ρ (mO k))), (0, .ref (ρ 0)), (1, .int (nI k)), (2, .int (nI g))]) C hnL dX2_has_5 rfl (by decide) rfl ?_
  refine e_iload_n (j := 3) C dX2_has_6 rfl rfl ?_
  refine e_cS (nA := 1) C (c_X2_requireGoods hl hg) rfl mw_267 mw_265 mw_266 mw_12 (by decide +kernel) (by decide) rfl rfl (Nat.le_of_ble_eq_true rfl) dX2_has_7 (Nat.le_of_ble_eq_true rfl) (Nat.le_of_ble_eq_true rfl) ?_
  refine e_aload_n (j := 0) C dX2_has_10 rfl rfl ?_
  refine e_get0 (k := 10) (kk0 := k) (ref := "ScripHollow$Miner") C hk (by decide) rfl rfl mw_264 dX2_has_11 ?_
  refine e_iload_n (j := 3) C dX2_has_14 rfl rfl ?_
  refine e_ialdN g C (cnt_G hk) (fun cA => cell_G cA n ρ J k _) rfl (by omega) (by decide) dX2_has_15 ?_
  exact e_iret C rfl (Nat.le_of_ble_eq_true rfl) (Nat.le_of_ble_eq_true rfl) dX2_has_16 (pO.mk rfl)
set_option maxRecDepth 100000 in
set_option maxHeartbeats 4000000 in
theorem c_X2_scrip_x {l : Launch} (hl : l.stackTraces = false) {n : Nat} {ρ : Nat → Nat} {J : Nat → Int64} {M : Mem} {x : Int32} (h : x < 0 ∨ nI n ≤ x) {y : Int32} : CtO l yX2_scrip cX2_scrip 4 (some .int) 8 2 12 n ρ J M [.ref (ρ 0), .int x, .int y] (rX IX M) := by
  refine CtO.of hl (by decide +kernel) (Nat.le_of_ble_eq_true rfl) (fun Ξ hnL C => ?_)
  show E Ξ n ρ J M 0 0 0 [(0, .ref (ρ 0)), (1, .int x), (2, .int y)] []
  refine e_aload_n (j := 0) C dX2_scrip_0 rfl rfl ?_
  refine e_iload_n (j := 1) C dX2_scrip_1 rfl rfl ?_
  exact e_cVx (i := 0) (nA := 1) (Cn := RX2) C (c_X2_minerAt_x hl h) rfl (cnt_fix (by decide)) (fun _ => rfl) rfl rfl mw_150 mw_147 mw_148 mw_149 mw_12 (by decide +kernel) (by decide) rfl rfl (Nat.le_of_ble_eq_true rfl) dX2_scrip_2 (Nat.le_of_ble_eq_true rfl) (Nat.le_of_ble_eq_true rfl) rfl
set_option maxRecDepth 100000 in
set_option maxHeartbeats 4000000 in
theorem c_X2_scrip_g {l : Launch} (hl : l.stackTraces = false) {n : Nat} {ρ : Nat → Nat} {J : Nat → Int64} {M : Mem} {k : Nat} (hk : k < n) (hn : n ≤ 10) {y : Int32} (h : y < 0 ∨ 39 < y) : CtO l yX2_scrip cX2_scrip 4 (some .int) 8 2 12 n ρ J M [.ref (ρ 0), .int (nI k), .int y] (rX IA M) := by
  refine CtO.of hl (by decide +kernel) (Nat.le_of_ble_eq_true rfl) (fun Ξ hnL C => ?_)
  show E Ξ n ρ J M 0 0 0 [(0, .ref (ρ 0)), (1, .int (nI k)), (2, .int y)] []
  refine e_aload_n (j := 0) C dX2_scrip_0 rfl rfl ?_
  refine e_iload_n (j := 1) C dX2_scrip_1 rfl rfl ?_
  refine e_cV (i := 0) (nA := 1) (Cn := RX2) C (c_X2_minerAt hl hk hn) rfl (cnt_fix (by decide)) (fun _ => rfl) rfl rfl mw_150 mw_147 mw_148 mw_149 mw_12 (by decide +kernel) (by decide) rfl rfl (Nat.le_of_ble_eq_true rfl) dX2_scrip_2 (Nat.le_of_ble_eq_true rfl) (Nat.le_of_ble_eq_true rfl) ?_
  refine e_astore_n (ls2 := [(3, .ref (ρ (mO k))), (0, .ref (ρ 0)), (1, .int (nI k)), (2, .int y)]) C hnL dX2_scrip_5 rfl (by decide) rfl ?_
  refine e_iload_n (j := 3) C dX2_scrip_6 rfl rfl ?_
  refine e_iconst (v := 0) C dX2_scrip_7 (by decide) ?_
  refine e_bipush (v := 39) C dX2_scrip_8 (by decide) ?_
  exact e_cSx (nA := 3) C (c_X2_requireRange_x hl h) rfl mw_175 mw_173 mw_174 mw_12 (by decide +kernel) (by decide) rfl rfl (Nat.le_of_ble_eq_true rfl) dX2_scrip_10 (Nat.le_of_ble_eq_true rfl) (Nat.le_of_ble_eq_true rfl) rfl
set_option maxRecDepth 100000 in
set_option maxHeartbeats 4000000 in
theorem c_X2_scrip {l : Launch} (hl : l.stackTraces = false) {n : Nat} {ρ : Nat → Nat} {J : Nat → Int64} {M : Mem} {k : Nat} (hk : k < n) (hn : n ≤ 10) {j : Nat} (hj : j < 40) : CtO l yX2_scrip cX2_scrip 4 (some .int) 8 2 12 n ρ J M [.ref (ρ 0), .int (nI k), .int (nI j)] (rI (M (mS k) j) M) := by
  refine CtO.of hl (by decide +kernel) (Nat.le_of_ble_eq_true rfl) (fun Ξ hnL C => ?_)
  show E Ξ n ρ J M 0 0 0 [(0, .ref (ρ 0)), (1, .int (nI k)), (2, .int (nI j))] []
  refine e_aload_n (j := 0) C dX2_scrip_0 rfl rfl ?_
  refine e_iload_n (j := 1) C dX2_scrip_1 rfl rfl ?_
  refine e_cV (i := 0) (nA := 1) (Cn := RX2) C (c_X2_minerAt hl hk hn) rfl (cnt_fix (by decide)) (fun _ => rfl) rfl rfl mw_150 mw_147 mw_148 mw_149 mw_12 (by decide +kernel) (by decide) rfl rfl (Nat.le_of_ble_eq_true rfl) dX2_scrip_2 (Nat.le_of_ble_eq_true rfl) (Nat.le_of_ble_eq_true rfl) ?_
  refine e_astore_n (ls2 := [(3, .ref (ρ (mO k))), (0, .ref (ρ 0)), (1, .int (nI k)), (2, .int (nI j))]) C hnL dX2_scrip_5 rfl (by decide) rfl ?_
  refine e_iload_n (j := 3) C dX2_scrip_6 rfl rfl ?_
  refine e_iconst (v := 0) C dX2_scrip_7 (by decide) ?_
  refine e_bipush (v := 39) C dX2_scrip_8 (by decide) ?_
  refine e_cS (nA := 3) C (c_X2_requireRange hl (nI_pos (by omega)) (nI_le (b := 39) (by omega) (by omega))) rfl mw_175 mw_173 mw_174 mw_12 (by decide +kernel) (by decide) rfl rfl (Nat.le_of_ble_eq_true rfl) dX2_scrip_10 (Nat.le_of_ble_eq_true rfl) (Nat.le_of_ble_eq_true rfl) ?_
  refine e_aload_n (j := 0) C dX2_scrip_13 rfl rfl ?_
  refine e_get0 (k := 11) (kk0 := k) (ref := "ScripHollow$Miner") C hk (by decide) rfl rfl mw_250 dX2_scrip_14 ?_
  refine e_iload_n (j := 3) C dX2_scrip_17 rfl rfl ?_
  refine e_ialdN j C (cnt_S hk) (fun cA => cell_S cA n ρ J k _) rfl (by omega) (by decide) dX2_scrip_18 ?_
  exact e_iret C rfl (Nat.le_of_ble_eq_true rfl) (Nat.le_of_ble_eq_true rfl) dX2_scrip_19 (pO.mk rfl)
set_option maxRecDepth 100000 in
set_option maxHeartbeats 4000000 in
theorem c_X2_scripAnew_x {l : Launch} (hl : l.stackTraces = false) {n : Nat} {ρ : Nat → Nat} {J : Nat → Int64} {M : Mem} {x : Int32} (h : x < 0 ∨ nI n ≤ x) : CtO l yX2_scripAnew cX2_scripAnew 3 (some .int) 8 1 6 n ρ J M [.ref (ρ 0), .int x] (rX IX M) := by
  refine CtO.of hl (by decide +kernel) (Nat.le_of_ble_eq_true rfl) (fun Ξ hnL C => ?_)
  show E Ξ n ρ J M 0 0 0 [(0, .ref (ρ 0)), (1, .int x)] []
  refine e_aload_n (j := 0) C dX2_scripAnew_0 rfl rfl ?_
  refine e_iload_n (j := 1) C dX2_scripAnew_1 rfl rfl ?_
  exact e_cVx (i := 0) (nA := 1) (Cn := RX2) C (c_X2_minerAt_x hl h) rfl (cnt_fix (by decide)) (fun _ => rfl) rfl rfl mw_150 mw_147 mw_148 mw_149 mw_12 (by decide +kernel) (by decide) rfl rfl (Nat.le_of_ble_eq_true rfl) dX2_scripAnew_2 (Nat.le_of_ble_eq_true rfl) (Nat.le_of_ble_eq_true rfl) rfl
set_option maxRecDepth 100000 in
set_option maxHeartbeats 4000000 in
theorem c_X2_scripAnew {l : Launch} (hl : l.stackTraces = false) {n : Nat} {ρ : Nat → Nat} {J : Nat → Int64} {M : Mem} {k : Nat} (hk : k < n) (hn : n ≤ 10) : CtO l yX2_scripAnew cX2_scripAnew 3 (some .int) 8 1 6 n ρ J M [.ref (ρ 0), .int (nI k)] (rI (M (mO k) 12 - M (mO k) 13) M) := by
  refine CtO.of hl (by decide +kernel) (Nat.le_of_ble_eq_true rfl) (fun Ξ hnL C => ?_)
  show E Ξ n ρ J M 0 0 0 [(0, .ref (ρ 0)), (1, .int (nI k))] []
  refine e_aload_n (j := 0) C dX2_scripAnew_0 rfl rfl ?_
  refine e_iload_n (j := 1) C dX2_scripAnew_1 rfl rfl ?_
  refine e_cV (i := 0) (nA := 1) (Cn := RX2) C (c_X2_minerAt hl hk hn) rfl (cnt_fix (by decide)) (fun _ => rfl) rfl rfl mw_150 mw_147 mw_148 mw_149 mw_12 (by decide +kernel) (by decide) rfl rfl (Nat.le_of_ble_eq_true rfl) dX2_scripAnew_2 (Nat.le_of_ble_eq_true rfl) (Nat.le_of_ble_eq_true rfl) ?_
  refine e_astore_n (ls2 := [(2, .ref (ρ (mO k))), (0, .ref (ρ 0)), (1, .int (nI k))]) C hnL dX2_scripAnew_5 rfl (by decide) rfl ?_
  refine e_aload_n (j := 0) C dX2_scripAnew_6 rfl rfl ?_
  refine e_get0 (k := 12) (kk0 := k) (ref := "ScripHollow$Miner") C hk (by decide) rfl rfl mw_455 dX2_scripAnew_7 ?_
  refine e_aload_n (j := 0) C dX2_scripAnew_10 rfl rfl ?_
  refine e_get0 (k := 13) (kk0 := k) (ref := "ScripHollow$Miner") C hk (by decide) rfl rfl mw_456 dX2_scripAnew_11 ?_
  refine e_isub C dX2_scripAnew_14 ?_
  exact e_iret C rfl (Nat.le_of_ble_eq_true rfl) (Nat.le_of_ble_eq_true rfl) dX2_scripAnew_15 (pO.mk rfl)
set_option maxRecDepth 100000 in
set_option maxHeartbeats 4000000 in
theorem c_X2_books_x {l : Launch} (hl : l.stackTraces = false) {n : Nat} {ρ : Nat → Nat} {J : Nat → Int64} {M : Mem} {x : Int32} (h : x < 0 ∨ 6 ≤ x) : CtO l yX2_books cX2_books 2 (some .int) 7 1 6 n ρ J M [.ref (ρ 0), .int x] (rX IX M) := by
  refine CtO.of hl (by decide +kernel) (Nat.le_of_ble_eq_true rfl) (fun Ξ hnL C => ?_)
  show E Ξ n ρ J M 0 0 0 [(0, .ref (ρ 0)), (1, .int x)] []
  refine e_iload_n (j := 1) C dX2_books_0 rfl rfl ?_
  refine e_aload_n (j := 0) C dX2_books_1 rfl rfl ?_
  refine e_get2 (k := 17) (ref := "ScripHollow") C (by decide) rfl rfl mw_38 dX2_books_2 ?_
  refine e_ilen (v := 6) C (cnt_fix (by decide)) (fun _ => rfl) (by decide) dX2_books_5 ?_
  exact e_cSx (nA := 2) C (c_X2_requireIndex_x hl h) rfl mw_154 mw_152 mw_153 mw_12 (by decide +kernel) (by decide) rfl rfl (Nat.le_of_ble_eq_true rfl) dX2_books_6 (Nat.le_of_ble_eq_true rfl) (Nat.le_of_ble_eq_true rfl) rfl
set_option maxRecDepth 100000 in
set_option maxHeartbeats 4000000 in
theorem c_X2_books {l : Launch} (hl : l.stackTraces = false) {n : Nat} {ρ : Nat → Nat} {J : Nat → Int64} {M : Mem} {j : Nat} (hj : j < 6) : CtO l yX2_books cX2_books 2 (some .int) 7 1 6 n ρ J M [.ref (ρ 0), .int (nI j)] (rI (M 7 j) M) := by
  refine CtO.of hl (by decide +kernel) (Nat.le_of_ble_eq_true rfl) (fun Ξ hnL C => ?_)
  show E Ξ n ρ J M 0 0 0 [(0, .ref (ρ 0)), (1, .int (nI j))] []
  refine e_iload_n (j := 1) C dX2_books_0 rfl rfl ?_
  refine e_aload_n (j := 0) C dX2_books_1 rfl rfl ?_
  refine e_get2 (k := 17) (ref := "ScripHollow") C (by decide) rfl rfl mw_38 dX2_books_2 ?_
  refine e_ilen (v := 6) C (cnt_fix (by decide)) (fun _ => rfl) (by decide) dX2_books_5 ?_
  refine e_cS (nA := 2) C (c_X2_requireIndex hl (nI_pos (by omega)) (nI_lt (b := 6) hj (by omega))) rfl mw_154 mw_152 mw_153 mw_12 (by decide +kernel) (by decide) rfl rfl (Nat.le_of_ble_eq_true rfl) dX2_books_6 (Nat.le_of_ble_eq_true rfl) (Nat.le_of_ble_eq_true rfl) ?_
  refine e_aload_n (j := 0) C dX2_books_9 rfl rfl ?_
  refine e_get2 (k := 17) (ref := "ScripHollow") C (by decide) rfl rfl mw_38 dX2_books_10 ?_
  refine e_iload_n (j := 1) C dX2_books_13 rfl rfl ?_
  refine e_ialdN j C (cnt_fix (by decide)) (fun _ => rfl) rfl (by omega) (by decide) dX2_books_14 ?_
  exact e_iret C rfl (Nat.le_of_ble_eq_true rfl) (Nat.le_of_ble_eq_true rfl) dX2_books_15 (pO.mk rfl)
end
section
/-! The class's greater methods. -/
section Tsw
variable {l : Launch} {R : Room} {cc : ByteArray} {own : String} {ret : Option FieldType} {mc ms : Nat} {tb : List ExceptionTableEntry} {post : Option Value → St → Prop} {exc : String → St → Prop} {Ξ : CT}
variable {n : Nat} {ρ : Nat → Nat} {J : Nat → Int64} {M : Mem} {a b pc : Nat} {ls : List (Nat × Value)} {st : List Value} {dflt lo hi : Int} {offs : Array Int} {len : Nat} {x : Int32} {off : Int} {tgt : Nat}
theorem e_tswI (C : Cx l R cc own ret mc ms tb post exc Ξ) (d : decode cc pc = .ok (.tableswitch dflt lo hi offs, len)) (h1 : ¬ x.toInt < lo) (h2 : ¬ hi < x.toInt) (ho : offs[(x.toInt - lo).toNat]? = some off) (ht : (pc : Int) + off = (tgt : Int)) (kk : E Ξ n ρ J M a b tgt ls st) : E Ξ n ρ J M a b pc ls (.int x :: st) := by
  obtain ⟨p, e, s, m, args, below, meth, c, D, cA, A, nL, rfl, hx, hb, hml, hown, hts, hK, hG, hr, hlk, htb, hA, hst⟩ := C
  intro H locs lsA hP hD hS hl
  exact lv_tableIn hx hb d h1 h2 ho ht (kk H locs lsA hP hD hS hl)
theorem e_tswO (C : Cx l R cc own ret mc ms tb post exc Ξ) (d : decode cc pc = .ok (.tableswitch dflt lo hi offs, len)) (h : x.toInt < lo ∨ hi < x.toInt) (ht : (pc : Int) + dflt = (tgt : Int)) (kk : E Ξ n ρ J M a b tgt ls st) : E Ξ n ρ J M a b pc ls (.int x :: st) := by
  obtain ⟨p, e, s, m, args, below, meth, c, D, cA, A, nL, rfl, hx, hb, hml, hown, hts, hK, hG, hr, hlk, htb, hA, hst⟩ := C
  intro H locs lsA hP hD hS hl
  exact lv_tableOut hx hb d h ht (kk H locs lsA hP hD hS hl)
end Tsw
theorem sw15 {x : Int32} (h1 : ¬ x = 1) (h2 : ¬ x = 2) (h3 : ¬ x = 3) (h4 : ¬ x = 4) (h5 : ¬ x = 5) : x.toInt < 1 ∨ 5 < x.toInt := by
  have k : ∀ y : Int32, ¬ x = y → x.toInt ≠ y.toInt := fun y h e => h (Int32.toInt_inj.mp e)
  have k1 := k 1 h1
  have k2 := k 2 h2
  have k3 := k 3 h3
  have k4 := k 4 h4
  have k5 := k 5 h5
  have e1 : (1 : Int32).toInt = 1 := by decide
  have e2 : (2 : Int32).toInt = 2 := by decide
  have e3 : (3 : Int32).toInt = 3 := by decide
  have e4 : (4 : Int32).toInt = 4 := by decide
  have e5 : (5 : Int32).toInt = 5 := by decide
  omega
set_option maxRecDepth 100000 in
set_option maxHeartbeats 4000000 in
theorem c_X2_about_x {l : Launch} (hl : l.stackTraces = false) {n : Nat} {ρ : Nat → Nat} {J : Nat → Int64} {M : Mem} {x : Int32} (h : x < 0 ∨ nI n ≤ x) {y : Int32} : CtO l yX2_about cX2_about 4 (some .int) 8 2 12 n ρ J M [.ref (ρ 0), .int x, .int y] (rX IX M) := by
  refine CtO.of hl (by decide +kernel) (Nat.le_of_ble_eq_true rfl) (fun Ξ hnL C => ?_)
  show E Ξ n ρ J M 0 0 0 [(0, .ref (ρ 0)), (1, .int x), (2, .int y)] []
  refine e_aload_n (j := 0) C dX2_about_0 rfl rfl ?_
  refine e_iload_n (j := 1) C dX2_about_1 rfl rfl ?_
  exact e_cVx (i := 0) (nA := 1) (Cn := RX2) C (c_X2_minerAt_x hl h) rfl (cnt_fix (by decide)) (fun _ => rfl) rfl rfl mw_150 mw_147 mw_148 mw_149 mw_12 (by decide +kernel) (by decide) rfl rfl (Nat.le_of_ble_eq_true rfl) dX2_about_2 (Nat.le_of_ble_eq_true rfl) (Nat.le_of_ble_eq_true rfl) rfl
set_option maxRecDepth 100000 in
set_option maxHeartbeats 4000000 in
theorem c_X2_about_y {l : Launch} (hl : l.stackTraces = false) {n : Nat} {ρ : Nat → Nat} {J : Nat → Int64} {M : Mem} {k : Nat} (hk : k < n) (hn : n ≤ 10) {y : Int32} (h : y.toInt < 0 ∨ 9 < y.toInt) : CtO l yX2_about cX2_about 4 (some .int) 8 2 12 n ρ J M [.ref (ρ 0), .int (nI k), .int y] (rX IA M) := by
  refine CtO.of hl (by decide +kernel) (Nat.le_of_ble_eq_true rfl) (fun Ξ hnL C => ?_)
  show E Ξ n ρ J M 0 0 0 [(0, .ref (ρ 0)), (1, .int (nI k)), (2, .int y)] []
  refine e_aload_n (j := 0) C dX2_about_0 rfl rfl ?_
  refine e_iload_n (j := 1) C dX2_about_1 rfl rfl ?_
  refine e_cV (i := 0) (nA := 1) (Cn := RX2) C (c_X2_minerAt hl hk hn) rfl (cnt_fix (by decide)) (fun _ => rfl) rfl rfl mw_150 mw_147 mw_148 mw_149 mw_12 (by decide +kernel) (by decide) rfl rfl (Nat.le_of_ble_eq_true rfl) dX2_about_2 (Nat.le_of_ble_eq_true rfl) (Nat.le_of_ble_eq_true rfl) ?_
  refine e_astore_n (ls2 := [(3, .ref (ρ (mO k))), (0, .ref (ρ 0)), (1, .int (nI k)), (2, .int y)]) C hnL dX2_about_5 rfl (by decide) rfl ?_
  refine e_iload_n (j := 3) C dX2_about_6 rfl rfl ?_
  refine e_tswO (tgt := 126) C dX2_about_7 h (by decide) ?_
  exact e_throw (text := "nothing is told by this number") C th_IA mw_176 mw_177 (by decide) rfl rfl dX2_about_126 dX2_about_129 dX2_about_130 dX2_about_132 dX2_about_135 (by decide) (Nat.le_of_ble_eq_true rfl) (Nat.le_of_ble_eq_true rfl) (Nat.le_of_ble_eq_true rfl) (Nat.le_of_ble_eq_true rfl) (Nat.le_of_ble_eq_true rfl) (xO.mk rfl)
def o_ab (M : Mem) (k : Nat) : Nat → Int32
  | 0 => if M (mO k) 0 = 0 then 0 else 1
  | 1 => M (mO k) 4
  | 2 => M (mO k) 5
  | 3 => sm (M (mS k)) 40
  | 4 => M (mO k) 6
  | 5 => M (mO k) 7
  | 6 => if M (mO k) 1 = 0 then 0 else 1
  | 7 => M (mO k) 8
  | 8 => M (mO k) 9
  | _ => M (mO k) 3
set_option maxRecDepth 100000 in
set_option maxHeartbeats 4000000 in
theorem c_X2_about_0 {l : Launch} (hl : l.stackTraces = false) {n : Nat} {ρ : Nat → Nat} {J : Nat → Int64} {M : Mem} {k : Nat} (hk : k < n) (hn : n ≤ 10) : CtO l yX2_about cX2_about 4 (some .int) 8 2 12 n ρ J M [.ref (ρ 0), .int (nI k), .int 0] (rI (o_ab M k 0) M) := by
  refine CtO.of hl (by decide +kernel) (Nat.le_of_ble_eq_true rfl) (fun Ξ hnL C => ?_)
  show E Ξ n ρ J M 0 0 0 [(0, .ref (ρ 0)), (1, .int (nI k)), (2, .int 0)] []
  refine e_aload_n (j := 0) C dX2_about_0 rfl rfl ?_
  refine e_iload_n (j := 1) C dX2_about_1 rfl rfl ?_
  refine e_cV (i := 0) (nA := 1) (Cn := RX2) C (c_X2_minerAt hl hk hn) rfl (cnt_fix (by decide)) (fun _ => rfl) rfl rfl mw_150 mw_147 mw_148 mw_149 mw_12 (by decide +kernel) (by decide) rfl rfl (Nat.le_of_ble_eq_true rfl) dX2_about_2 (Nat.le_of_ble_eq_true rfl) (Nat.le_of_ble_eq_true rfl) ?_
  refine e_astore_n (ls2 := [(3, .ref (ρ (mO k))), (0, .ref (ρ 0)), (1, .int (nI k)), (2, .int 0)]) C hnL dX2_about_5 rfl (by decide) rfl ?_
  refine e_iload_n (j := 3) C dX2_about_6 rfl rfl ?_
  refine e_tswI (tgt := 60) (off := 53) C dX2_about_7 (by decide) (by decide) (by decide) (by decide) ?_
  refine e_aload_n (j := 0) C dX2_about_60 rfl rfl ?_
  refine e_get0 (k := 0) (kk0 := k) (ref := "ScripHollow$Miner") C hk (by decide) rfl rfl mw_181 dX2_about_61 ?_
  refine e_if_eq (tgt := 71) C dX2_about_64 (by decide) (fun c_64 => ?_) (fun c_64 => ?_)
  · refine e_iconst (v := 0) C dX2_about_71 (by decide) ?_
    exact e_iret C rfl (Nat.le_of_ble_eq_true rfl) (Nat.le_of_ble_eq_true rfl) dX2_about_72 (pO.mk (by show rI (if M (mO k) 0 = 0 then 0 else 1) M = _; (repeat (first | rw [if_pos c_64]))))
  · refine e_iconst (v := 1) C dX2_about_67 (by decide) ?_
    refine e_goto (tgt := 72) C dX2_about_68 (by decide) ?_
    exact e_iret C rfl (Nat.le_of_ble_eq_true rfl) (Nat.le_of_ble_eq_true rfl) dX2_about_72 (pO.mk (by show rI (if M (mO k) 0 = 0 then 0 else 1) M = _; (repeat (first | rw [if_neg c_64]))))
set_option maxRecDepth 100000 in
set_option maxHeartbeats 4000000 in
theorem c_X2_about_1 {l : Launch} (hl : l.stackTraces = false) {n : Nat} {ρ : Nat → Nat} {J : Nat → Int64} {M : Mem} {k : Nat} (hk : k < n) (hn : n ≤ 10) : CtO l yX2_about cX2_about 4 (some .int) 8 2 12 n ρ J M [.ref (ρ 0), .int (nI k), .int 1] (rI (o_ab M k 1) M) := by
  refine CtO.of hl (by decide +kernel) (Nat.le_of_ble_eq_true rfl) (fun Ξ hnL C => ?_)
  show E Ξ n ρ J M 0 0 0 [(0, .ref (ρ 0)), (1, .int (nI k)), (2, .int 1)] []
  refine e_aload_n (j := 0) C dX2_about_0 rfl rfl ?_
  refine e_iload_n (j := 1) C dX2_about_1 rfl rfl ?_
  refine e_cV (i := 0) (nA := 1) (Cn := RX2) C (c_X2_minerAt hl hk hn) rfl (cnt_fix (by decide)) (fun _ => rfl) rfl rfl mw_150 mw_147 mw_148 mw_149 mw_12 (by decide +kernel) (by decide) rfl rfl (Nat.le_of_ble_eq_true rfl) dX2_about_2 (Nat.le_of_ble_eq_true rfl) (Nat.le_of_ble_eq_true rfl) ?_
  refine e_astore_n (ls2 := [(3, .ref (ρ (mO k))), (0, .ref (ρ 0)), (1, .int (nI k)), (2, .int 1)]) C hnL dX2_about_5 rfl (by decide) rfl ?_
  refine e_iload_n (j := 3) C dX2_about_6 rfl rfl ?_
  refine e_tswI (tgt := 73) (off := 66) C dX2_about_7 (by decide) (by decide) (by decide) (by decide) ?_
  refine e_aload_n (j := 0) C dX2_about_73 rfl rfl ?_
  refine e_get0 (k := 4) (kk0 := k) (ref := "ScripHollow$Miner") C hk (by decide) rfl rfl mw_145 dX2_about_74 ?_
  exact e_iret C rfl (Nat.le_of_ble_eq_true rfl) (Nat.le_of_ble_eq_true rfl) dX2_about_77 (pO.mk rfl)
set_option maxRecDepth 100000 in
set_option maxHeartbeats 4000000 in
theorem c_X2_about_2 {l : Launch} (hl : l.stackTraces = false) {n : Nat} {ρ : Nat → Nat} {J : Nat → Int64} {M : Mem} {k : Nat} (hk : k < n) (hn : n ≤ 10) : CtO l yX2_about cX2_about 4 (some .int) 8 2 12 n ρ J M [.ref (ρ 0), .int (nI k), .int 2] (rI (o_ab M k 2) M) := by
  refine CtO.of hl (by decide +kernel) (Nat.le_of_ble_eq_true rfl) (fun Ξ hnL C => ?_)
  show E Ξ n ρ J M 0 0 0 [(0, .ref (ρ 0)), (1, .int (nI k)), (2, .int 2)] []
  refine e_aload_n (j := 0) C dX2_about_0 rfl rfl ?_
  refine e_iload_n (j := 1) C dX2_about_1 rfl rfl ?_
  refine e_cV (i := 0) (nA := 1) (Cn := RX2) C (c_X2_minerAt hl hk hn) rfl (cnt_fix (by decide)) (fun _ => rfl) rfl rfl mw_150 mw_147 mw_148 mw_149 mw_12 (by decide +kernel) (by decide) rfl rfl (Nat.le_of_ble_eq_true rfl) dX2_about_2 (Nat.le_of_ble_eq_true rfl) (Nat.le_of_ble_eq_true rfl) ?_
  refine e_astore_n (ls2 := [(3, .ref (ρ (mO k))), (0, .ref (ρ 0)), (1, .int (nI k)), (2, .int 2)]) C hnL dX2_about_5 rfl (by decide) rfl ?_
  refine e_iload_n (j := 3) C dX2_about_6 rfl rfl ?_
  refine e_tswI (tgt := 78) (off := 71) C dX2_about_7 (by decide) (by decide) (by decide) (by decide) ?_
  refine e_aload_n (j := 0) C dX2_about_78 rfl rfl ?_
  refine e_get0 (k := 5) (kk0 := k) (ref := "ScripHollow$Miner") C hk (by decide) rfl rfl mw_240 dX2_about_79 ?_
  exact e_iret C rfl (Nat.le_of_ble_eq_true rfl) (Nat.le_of_ble_eq_true rfl) dX2_about_82 (pO.mk rfl)
set_option maxRecDepth 100000 in
set_option maxHeartbeats 4000000 in
theorem c_X2_about_3 {l : Launch} (hl : l.stackTraces = false) {n : Nat} {ρ : Nat → Nat} {J : Nat → Int64} {M : Mem} {k : Nat} (hk : k < n) (hn : n ≤ 10) : CtO l yX2_about cX2_about 4 (some .int) 8 2 12 n ρ J M [.ref (ρ 0), .int (nI k), .int 3] (rI (o_ab M k 3) M) := by
  refine CtO.of hl (by decide +kernel) (Nat.le_of_ble_eq_true rfl) (fun Ξ hnL C => ?_)
  show E Ξ n ρ J M 0 0 0 [(0, .ref (ρ 0)), (1, .int (nI k)), (2, .int 3)] []
  refine e_aload_n (j := 0) C dX2_about_0 rfl rfl ?_
  refine e_iload_n (j := 1) C dX2_about_1 rfl rfl ?_
  refine e_cV (i := 0) (nA := 1) (Cn := RX2) C (c_X2_minerAt hl hk hn) rfl (cnt_fix (by decide)) (fun _ => rfl) rfl rfl mw_150 mw_147 mw_148 mw_149 mw_12 (by decide +kernel) (by decide) rfl rfl (Nat.le_of_ble_eq_true rfl) dX2_about_2 (Nat.le_of_ble_eq_true rfl) (Nat.le_of_ble_eq_true rfl) ?_
  refine e_astore_n (ls2 := [(3, .ref (ρ (mO k))), (0, .ref (ρ 0)), (1, .int (nI k)), (2, .int 3)]) C hnL dX2_about_5 rfl (by decide) rfl ?_
  refine e_iload_n (j := 3) C dX2_about_6 rfl rfl ?_
  refine e_tswI (tgt := 83) (off := 76) C dX2_about_7 (by decide) (by decide) (by decide) (by decide) ?_
  refine e_aload_n (j := 0) C dX2_about_83 rfl rfl ?_
  refine e_cV (i := (mO k)) (nA := 0) (Cn := RX0) C (c_X0_allScrip hl hk) rfl (cnt_O hk) (fun cA => cell_O cA n ρ J k _) rfl rfl mw_297 mw_320 mw_295 mw_296 mw_65 (by decide +kernel) (by decide) rfl rfl (Nat.le_of_ble_eq_true rfl) dX2_about_84 (Nat.le_of_ble_eq_true rfl) (Nat.le_of_ble_eq_true rfl) ?_
  exact e_iret C rfl (Nat.le_of_ble_eq_true rfl) (Nat.le_of_ble_eq_true rfl) dX2_about_87 (pO.mk rfl)
set_option maxRecDepth 100000 in
set_option maxHeartbeats 4000000 in
theorem c_X2_about_4 {l : Launch} (hl : l.stackTraces = false) {n : Nat} {ρ : Nat → Nat} {J : Nat → Int64} {M : Mem} {k : Nat} (hk : k < n) (hn : n ≤ 10) : CtO l yX2_about cX2_about 4 (some .int) 8 2 12 n ρ J M [.ref (ρ 0), .int (nI k), .int 4] (rI (o_ab M k 4) M) := by
  refine CtO.of hl (by decide +kernel) (Nat.le_of_ble_eq_true rfl) (fun Ξ hnL C => ?_)
  show E Ξ n ρ J M 0 0 0 [(0, .ref (ρ 0)), (1, .int (nI k)), (2, .int 4)] []
  refine e_aload_n (j := 0) C dX2_about_0 rfl rfl ?_
  refine e_iload_n (j := 1) C dX2_about_1 rfl rfl ?_
  refine e_cV (i := 0) (nA := 1) (Cn := RX2) C (c_X2_minerAt hl hk hn) rfl (cnt_fix (by decide)) (fun _ => rfl) rfl rfl mw_150 mw_147 mw_148 mw_149 mw_12 (by decide +kernel) (by decide) rfl rfl (Nat.le_of_ble_eq_true rfl) dX2_about_2 (Nat.le_of_ble_eq_true rfl) (Nat.le_of_ble_eq_true rfl) ?_
  refine e_astore_n (ls2 := [(3, .ref (ρ (mO k))), (0, .ref (ρ 0)), (1, .int (nI k)), (2, .int 4)]) C hnL dX2_about_5 rfl (by decide) rfl ?_
  refine e_iload_n (j := 3) C dX2_about_6 rfl rfl ?_
  refine e_tswI (tgt := 88) (off := 81) C dX2_about_7 (by decide) (by decide) (by decide) (by decide) ?_
  refine e_aload_n (j := 0) C dX2_about_88 rfl rfl ?_
  refine e_get0 (k := 6) (kk0 := k) (ref := "ScripHollow$Miner") C hk (by decide) rfl rfl mw_203 dX2_about_89 ?_
  exact e_iret C rfl (Nat.le_of_ble_eq_true rfl) (Nat.le_of_ble_eq_true rfl) dX2_about_92 (pO.mk rfl)
set_option maxRecDepth 100000 in
set_option maxHeartbeats 4000000 in
theorem c_X2_about_5 {l : Launch} (hl : l.stackTraces = false) {n : Nat} {ρ : Nat → Nat} {J : Nat → Int64} {M : Mem} {k : Nat} (hk : k < n) (hn : n ≤ 10) : CtO l yX2_about cX2_about 4 (some .int) 8 2 12 n ρ J M [.ref (ρ 0), .int (nI k), .int 5] (rI (o_ab M k 5) M) := by
  refine CtO.of hl (by decide +kernel) (Nat.le_of_ble_eq_true rfl) (fun Ξ hnL C => ?_)
  show E Ξ n ρ J M 0 0 0 [(0, .ref (ρ 0)), (1, .int (nI k)), (2, .int 5)] []
  refine e_aload_n (j := 0) C dX2_about_0 rfl rfl ?_
  refine e_iload_n (j := 1) C dX2_about_1 rfl rfl ?_
  refine e_cV (i := 0) (nA := 1) (Cn := RX2) C (c_X2_minerAt hl hk hn) rfl (cnt_fix (by decide)) (fun _ => rfl) rfl rfl mw_150 mw_147 mw_148 mw_149 mw_12 (by decide +kernel) (by decide) rfl rfl (Nat.le_of_ble_eq_true rfl) dX2_about_2 (Nat.le_of_ble_eq_true rfl) (Nat.le_of_ble_eq_true rfl) ?_
  refine e_astore_n (ls2 := [(3, .ref (ρ (mO k))), (0, .ref (ρ 0)), (1, .int (nI k)), (2, .int 5)]) C hnL dX2_about_5 rfl (by decide) rfl ?_
  refine e_iload_n (j := 3) C dX2_about_6 rfl rfl ?_
  refine e_tswI (tgt := 93) (off := 86) C dX2_about_7 (by decide) (by decide) (by decide) (by decide) ?_
  refine e_aload_n (j := 0) C dX2_about_93 rfl rfl ?_
  refine e_get0 (k := 7) (kk0 := k) (ref := "ScripHollow$Miner") C hk (by decide) rfl rfl mw_202 dX2_about_94 ?_
  exact e_iret C rfl (Nat.le_of_ble_eq_true rfl) (Nat.le_of_ble_eq_true rfl) dX2_about_97 (pO.mk rfl)
set_option maxRecDepth 100000 in
set_option maxHeartbeats 4000000 in
theorem c_X2_about_6 {l : Launch} (hl : l.stackTraces = false) {n : Nat} {ρ : Nat → Nat} {J : Nat → Int64} {M : Mem} {k : Nat} (hk : k < n) (hn : n ≤ 10) : CtO l yX2_about cX2_about 4 (some .int) 8 2 12 n ρ J M [.ref (ρ 0), .int (nI k), .int 6] (rI (o_ab M k 6) M) := by
  refine CtO.of hl (by decide +kernel) (Nat.le_of_ble_eq_true rfl) (fun Ξ hnL C => ?_)
  show E Ξ n ρ J M 0 0 0 [(0, .ref (ρ 0)), (1, .int (nI k)), (2, .int 6)] []
  refine e_aload_n (j := 0) C dX2_about_0 rfl rfl ?_
  refine e_iload_n (j := 1) C dX2_about_1 rfl rfl ?_
  refine e_cV (i := 0) (nA := 1) (Cn := RX2) C (c_X2_minerAt hl hk hn) rfl (cnt_fix (by decide)) (fun _ => rfl) rfl rfl mw_150 mw_147 mw_148 mw_149 mw_12 (by decide +kernel) (by decide) rfl rfl (Nat.le_of_ble_eq_true rfl) dX2_about_2 (Nat.le_of_ble_eq_true rfl) (Nat.le_of_ble_eq_true rfl) ?_
  refine e_astore_n (ls2 := [(3, .ref (ρ (mO k))), (0, .ref (ρ 0)), (1, .int (nI k)), (2, .int 6)]) C hnL dX2_about_5 rfl (by decide) rfl ?_
  refine e_iload_n (j := 3) C dX2_about_6 rfl rfl ?_
  refine e_tswI (tgt := 98) (off := 91) C dX2_about_7 (by decide) (by decide) (by decide) (by decide) ?_
  refine e_aload_n (j := 0) C dX2_about_98 rfl rfl ?_
  refine e_get0 (k := 1) (kk0 := k) (ref := "ScripHollow$Miner") C hk (by decide) rfl rfl mw_207 dX2_about_99 ?_
  refine e_if_eq (tgt := 109) C dX2_about_102 (by decide) (fun c_102 => ?_) (fun c_102 => ?_)
  · refine e_iconst (v := 0) C dX2_about_109 (by decide) ?_
    exact e_iret C rfl (Nat.le_of_ble_eq_true rfl) (Nat.le_of_ble_eq_true rfl) dX2_about_110 (pO.mk (by show rI (if M (mO k) 1 = 0 then 0 else 1) M = _; (repeat (first | rw [if_pos c_102]))))
  · refine e_iconst (v := 1) C dX2_about_105 (by decide) ?_
    refine e_goto (tgt := 110) C dX2_about_106 (by decide) ?_
    exact e_iret C rfl (Nat.le_of_ble_eq_true rfl) (Nat.le_of_ble_eq_true rfl) dX2_about_110 (pO.mk (by show rI (if M (mO k) 1 = 0 then 0 else 1) M = _; (repeat (first | rw [if_neg c_102]))))
set_option maxRecDepth 100000 in
set_option maxHeartbeats 4000000 in
theorem c_X2_about_7 {l : Launch} (hl : l.stackTraces = false) {n : Nat} {ρ : Nat → Nat} {J : Nat → Int64} {M : Mem} {k : Nat} (hk : k < n) (hn : n ≤ 10) : CtO l yX2_about cX2_about 4 (some .int) 8 2 12 n ρ J M [.ref (ρ 0), .int (nI k), .int 7] (rI (o_ab M k 7) M) := by
  refine CtO.of hl (by decide +kernel) (Nat.le_of_ble_eq_true rfl) (fun Ξ hnL C => ?_)
  show E Ξ n ρ J M 0 0 0 [(0, .ref (ρ 0)), (1, .int (nI k)), (2, .int 7)] []
  refine e_aload_n (j := 0) C dX2_about_0 rfl rfl ?_
  refine e_iload_n (j := 1) C dX2_about_1 rfl rfl ?_
  refine e_cV (i := 0) (nA := 1) (Cn := RX2) C (c_X2_minerAt hl hk hn) rfl (cnt_fix (by decide)) (fun _ => rfl) rfl rfl mw_150 mw_147 mw_148 mw_149 mw_12 (by decide +kernel) (by decide) rfl rfl (Nat.le_of_ble_eq_true rfl) dX2_about_2 (Nat.le_of_ble_eq_true rfl) (Nat.le_of_ble_eq_true rfl) ?_
  refine e_astore_n (ls2 := [(3, .ref (ρ (mO k))), (0, .ref (ρ 0)), (1, .int (nI k)), (2, .int 7)]) C hnL dX2_about_5 rfl (by decide) rfl ?_
  refine e_iload_n (j := 3) C dX2_about_6 rfl rfl ?_
  refine e_tswI (tgt := 111) (off := 104) C dX2_about_7 (by decide) (by decide) (by decide) (by decide) ?_
  refine e_aload_n (j := 0) C dX2_about_111 rfl rfl ?_
  refine e_get0 (k := 8) (kk0 := k) (ref := "ScripHollow$Miner") C hk (by decide) rfl rfl mw_235 dX2_about_112 ?_
  exact e_iret C rfl (Nat.le_of_ble_eq_true rfl) (Nat.le_of_ble_eq_true rfl) dX2_about_115 (pO.mk rfl)
set_option maxRecDepth 100000 in
set_option maxHeartbeats 4000000 in
theorem c_X2_about_8 {l : Launch} (hl : l.stackTraces = false) {n : Nat} {ρ : Nat → Nat} {J : Nat → Int64} {M : Mem} {k : Nat} (hk : k < n) (hn : n ≤ 10) : CtO l yX2_about cX2_about 4 (some .int) 8 2 12 n ρ J M [.ref (ρ 0), .int (nI k), .int 8] (rI (o_ab M k 8) M) := by
  refine CtO.of hl (by decide +kernel) (Nat.le_of_ble_eq_true rfl) (fun Ξ hnL C => ?_)
  show E Ξ n ρ J M 0 0 0 [(0, .ref (ρ 0)), (1, .int (nI k)), (2, .int 8)] []
  refine e_aload_n (j := 0) C dX2_about_0 rfl rfl ?_
  refine e_iload_n (j := 1) C dX2_about_1 rfl rfl ?_
  refine e_cV (i := 0) (nA := 1) (Cn := RX2) C (c_X2_minerAt hl hk hn) rfl (cnt_fix (by decide)) (fun _ => rfl) rfl rfl mw_150 mw_147 mw_148 mw_149 mw_12 (by decide +kernel) (by decide) rfl rfl (Nat.le_of_ble_eq_true rfl) dX2_about_2 (Nat.le_of_ble_eq_true rfl) (Nat.le_of_ble_eq_true rfl) ?_
  refine e_astore_n (ls2 := [(3, .ref (ρ (mO k))), (0, .ref (ρ 0)), (1, .int (nI k)), (2, .int 8)]) C hnL dX2_about_5 rfl (by decide) rfl ?_
  refine e_iload_n (j := 3) C dX2_about_6 rfl rfl ?_
  refine e_tswI (tgt := 116) (off := 109) C dX2_about_7 (by decide) (by decide) (by decide) (by decide) ?_
  refine e_aload_n (j := 0) C dX2_about_116 rfl rfl ?_
  refine e_get0 (k := 9) (kk0 := k) (ref := "ScripHollow$Miner") C hk (by decide) rfl rfl mw_196 dX2_about_117 ?_
  exact e_iret C rfl (Nat.le_of_ble_eq_true rfl) (Nat.le_of_ble_eq_true rfl) dX2_about_120 (pO.mk rfl)
set_option maxRecDepth 100000 in
set_option maxHeartbeats 4000000 in
theorem c_X2_about_9 {l : Launch} (hl : l.stackTraces = false) {n : Nat} {ρ : Nat → Nat} {J : Nat → Int64} {M : Mem} {k : Nat} (hk : k < n) (hn : n ≤ 10) : CtO l yX2_about cX2_about 4 (some .int) 8 2 12 n ρ J M [.ref (ρ 0), .int (nI k), .int 9] (rI (o_ab M k 9) M) := by
  refine CtO.of hl (by decide +kernel) (Nat.le_of_ble_eq_true rfl) (fun Ξ hnL C => ?_)
  show E Ξ n ρ J M 0 0 0 [(0, .ref (ρ 0)), (1, .int (nI k)), (2, .int 9)] []
  refine e_aload_n (j := 0) C dX2_about_0 rfl rfl ?_
  refine e_iload_n (j := 1) C dX2_about_1 rfl rfl ?_
  refine e_cV (i := 0) (nA := 1) (Cn := RX2) C (c_X2_minerAt hl hk hn) rfl (cnt_fix (by decide)) (fun _ => rfl) rfl rfl mw_150 mw_147 mw_148 mw_149 mw_12 (by decide +kernel) (by decide) rfl rfl (Nat.le_of_ble_eq_true rfl) dX2_about_2 (Nat.le_of_ble_eq_true rfl) (Nat.le_of_ble_eq_true rfl) ?_
  refine e_astore_n (ls2 := [(3, .ref (ρ (mO k))), (0, .ref (ρ 0)), (1, .int (nI k)), (2, .int 9)]) C hnL dX2_about_5 rfl (by decide) rfl ?_
  refine e_iload_n (j := 3) C dX2_about_6 rfl rfl ?_
  refine e_tswI (tgt := 121) (off := 114) C dX2_about_7 (by decide) (by decide) (by decide) (by decide) ?_
  refine e_aload_n (j := 0) C dX2_about_121 rfl rfl ?_
  refine e_get0 (k := 3) (kk0 := k) (ref := "ScripHollow$Miner") C hk (by decide) rfl rfl mw_378 dX2_about_122 ?_
  exact e_iret C rfl (Nat.le_of_ble_eq_true rfl) (Nat.le_of_ble_eq_true rfl) dX2_about_125 (pO.mk rfl)
set_option maxRecDepth 100000 in
set_option maxHeartbeats 4000000 in
theorem c_X2_kin_x {l : Launch} (hl : l.stackTraces = false) {n : Nat} {ρ : Nat → Nat} {J : Nat → Int64} {M : Mem} {x : Int32} (h : x < 0 ∨ nI n ≤ x) {y : Int32} : CtO l yX2_kin cX2_kin 5 (some .int) 8 3 18 n ρ J M [.ref (ρ 0), .int x, .int y] (rX IX M) := by
  refine CtO.of hl (by decide +kernel) (Nat.le_of_ble_eq_true rfl) (fun Ξ hnL C => ?_)
  show E Ξ n ρ J M 0 0 0 [(0, .ref (ρ 0)), (1, .int x), (2, .int y)] []
  refine e_aload_n (j := 0) C dX2_kin_0 rfl rfl ?_
  refine e_iload_n (j := 1) C dX2_kin_1 rfl rfl ?_
  exact e_cVx (i := 0) (nA := 1) (Cn := RX2) C (c_X2_minerAt_x hl h) rfl (cnt_fix (by decide)) (fun _ => rfl) rfl rfl mw_150 mw_147 mw_148 mw_149 mw_12 (by decide +kernel) (by decide) rfl rfl (Nat.le_of_ble_eq_true rfl) dX2_kin_2 (Nat.le_of_ble_eq_true rfl) (Nat.le_of_ble_eq_true rfl) rfl
theorem nbad {j n : Nat} (hj : j < n) (hn : n ≤ 10) : ¬ (nI j < 0 ∨ nI n ≤ nI j) := fun h => h.elim (fun w => nI_pos (by omega) w) (fun w => nI_ge hj (by omega) w)
def o_kin (n : Nat) (M : Mem) (k : Nat) (y : Int32) : Out := if y = -1 then (if nI k = y then rX IA M else rI (M (mO k) 3) (up M (mO k) 3 y)) else if y < 0 ∨ nI n ≤ y then rX IX M else if nI k = y then rX IA M else rI (M (mO k) 3) (up M (mO k) 3 y)
set_option maxRecDepth 100000 in
set_option maxHeartbeats 4000000 in
theorem c_X2_kin {l : Launch} (hl : l.stackTraces = false) {n : Nat} {ρ : Nat → Nat} {J : Nat → Int64} {M : Mem} {k : Nat} (hk : k < n) (hn : n ≤ 10) {y : Int32} : CtO l yX2_kin cX2_kin 5 (some .int) 8 3 18 n ρ J M [.ref (ρ 0), .int (nI k), .int y] (o_kin n M k y) := by
  refine CtO.of hl (by decide +kernel) (Nat.le_of_ble_eq_true rfl) (fun Ξ hnL C => ?_)
  show E Ξ n ρ J M 0 0 0 [(0, .ref (ρ 0)), (1, .int (nI k)), (2, .int y)] []
  by_cases hy : y = -1
  · refine e_aload_n (j := 0) C dX2_kin_0 rfl rfl ?_
    refine e_iload_n (j := 1) C dX2_kin_1 rfl rfl ?_
    refine e_cV (i := 0) (nA := 1) (Cn := RX2) C (c_X2_minerAt hl hk hn) rfl (cnt_fix (by decide)) (fun _ => rfl) rfl rfl mw_150 mw_147 mw_148 mw_149 mw_12 (by decide +kernel) (by decide) rfl rfl (Nat.le_of_ble_eq_true rfl) dX2_kin_2 (Nat.le_of_ble_eq_true rfl) (Nat.le_of_ble_eq_true rfl) ?_
    refine e_astore_n (ls2 := [(3, .ref (ρ (mO k))), (0, .ref (ρ 0)), (1, .int (nI k)), (2, .int y)]) C hnL dX2_kin_5 rfl (by decide) rfl ?_
    refine e_iload_n (j := 3) C dX2_kin_6 rfl rfl ?_
    refine e_iconst (v := (-1)) C dX2_kin_7 (by decide) ?_
    refine e_icmp_eq (tgt := 17) C dX2_kin_8 (by decide) (fun c_8 => ?_) (fun c_8 => absurd hy c_8)
    refine e_iload_n (j := 2) C dX2_kin_17 rfl rfl ?_
    refine e_iload_n (j := 3) C dX2_kin_18 rfl rfl ?_
    refine e_icmp_ne (tgt := 32) C dX2_kin_19 (by decide) (fun c_19 => ?_) (fun c_19 => ?_)
    · refine e_aload_n (j := 0) C dX2_kin_32 rfl rfl ?_
      refine e_get0 (k := 3) (kk0 := k) (ref := "ScripHollow$Miner") C hk (by decide) rfl rfl mw_378 dX2_kin_33 ?_
      refine e_topi (fun x4_36 ex4_36 => ?_)
      refine e_istore (ls2 := [(4, .int x4_36), (3, .ref (ρ (mO k))), (0, .ref (ρ 0)), (1, .int (nI k)), (2, .int y)]) C hnL dX2_kin_36 (by decide) rfl ?_
      refine e_aload_n (j := 1) C dX2_kin_38 rfl rfl ?_
      refine e_iload_n (j := 4) C dX2_kin_39 rfl rfl ?_
      refine e_put0 (k := 3) (kk0 := k) (ref := "ScripHollow$Miner") (ty := .int) C hk (by decide) rfl rfl (by decide +kernel) rfl rfl rfl mw_378 dX2_kin_40 ?_
      refine e_iload (j := 0) C dX2_kin_43 rfl ?_
      exact e_iret C rfl (Nat.le_of_ble_eq_true rfl) (Nat.le_of_ble_eq_true rfl) dX2_kin_45 (pO.mk (by subst ex4_36; unfold o_kin; rw [if_pos hy, if_neg (by assumption)]))
    · exact e_throw (text := "nobody is their own kin") C th_IA mw_176 mw_177 (by decide) rfl rfl dX2_kin_22 dX2_kin_25 dX2_kin_26 dX2_kin_28 dX2_kin_31 (by decide) (Nat.le_of_ble_eq_true rfl) (Nat.le_of_ble_eq_true rfl) (Nat.le_of_ble_eq_true rfl) (Nat.le_of_ble_eq_true rfl) (Nat.le_of_ble_eq_true rfl) (xO.mk (by unfold o_kin; rw [if_pos hy, if_pos (by assumption)]))
  · rcases idx3 y (n := n) (by omega) with h | ⟨j, hj, ej⟩
    · refine e_aload_n (j := 0) C dX2_kin_0 rfl rfl ?_
      refine e_iload_n (j := 1) C dX2_kin_1 rfl rfl ?_
      refine e_cV (i := 0) (nA := 1) (Cn := RX2) C (c_X2_minerAt hl hk hn) rfl (cnt_fix (by decide)) (fun _ => rfl) rfl rfl mw_150 mw_147 mw_148 mw_149 mw_12 (by decide +kernel) (by decide) rfl rfl (Nat.le_of_ble_eq_true rfl) dX2_kin_2 (Nat.le_of_ble_eq_true rfl) (Nat.le_of_ble_eq_true rfl) ?_
      refine e_astore_n (ls2 := [(3, .ref (ρ (mO k))), (0, .ref (ρ 0)), (1, .int (nI k)), (2, .int y)]) C hnL dX2_kin_5 rfl (by decide) rfl ?_
      refine e_iload_n (j := 3) C dX2_kin_6 rfl rfl ?_
      refine e_iconst (v := (-1)) C dX2_kin_7 (by decide) ?_
      refine e_icmp_eq (tgt := 17) C dX2_kin_8 (by decide) (fun c_8 => absurd c_8 hy) (fun c_8 => ?_)
      refine e_aload_n (j := 1) C dX2_kin_11 rfl rfl ?_
      refine e_iload_n (j := 3) C dX2_kin_12 rfl rfl ?_
      exact e_cVx (i := 0) (nA := 1) (Cn := RX2) C (c_X2_minerAt_x hl h) rfl (cnt_fix (by decide)) (fun _ => rfl) rfl rfl mw_150 mw_147 mw_148 mw_149 mw_12 (by decide +kernel) (by decide) rfl rfl (Nat.le_of_ble_eq_true rfl) dX2_kin_13 (Nat.le_of_ble_eq_true rfl) (Nat.le_of_ble_eq_true rfl) (by unfold o_kin; rw [if_neg hy, if_pos h])
    · subst ej
      have hnb : ¬ (nI j < 0 ∨ nI n ≤ nI j) := nbad hj hn
      refine e_aload_n (j := 0) C dX2_kin_0 rfl rfl ?_
      refine e_iload_n (j := 1) C dX2_kin_1 rfl rfl ?_
      refine e_cV (i := 0) (nA := 1) (Cn := RX2) C (c_X2_minerAt hl hk hn) rfl (cnt_fix (by decide)) (fun _ => rfl) rfl rfl mw_150 mw_147 mw_148 mw_149 mw_12 (by decide +kernel) (by decide) rfl rfl (Nat.le_of_ble_eq_true rfl) dX2_kin_2 (Nat.le_of_ble_eq_true rfl) (Nat.le_of_ble_eq_true rfl) ?_
      refine e_astore_n (ls2 := [(3, .ref (ρ (mO k))), (0, .ref (ρ 0)), (1, .int (nI k)), (2, .int (nI j))]) C hnL dX2_kin_5 rfl (by decide) rfl ?_
      refine e_iload_n (j := 3) C dX2_kin_6 rfl rfl ?_
      refine e_iconst (v := (-1)) C dX2_kin_7 (by decide) ?_
      refine e_icmp_eq (tgt := 17) C dX2_kin_8 (by decide) (fun c_8 => absurd c_8 hy) (fun c_8 => ?_)
      refine e_aload_n (j := 1) C dX2_kin_11 rfl rfl ?_
      refine e_iload_n (j := 3) C dX2_kin_12 rfl rfl ?_
      refine e_cV (i := 0) (nA := 1) (Cn := RX2) C (c_X2_minerAt hl hj hn) rfl (cnt_fix (by decide)) (fun _ => rfl) rfl rfl mw_150 mw_147 mw_148 mw_149 mw_12 (by decide +kernel) (by decide) rfl rfl (Nat.le_of_ble_eq_true rfl) dX2_kin_13 (Nat.le_of_ble_eq_true rfl) (Nat.le_of_ble_eq_true rfl) ?_
      refine e_pop C dX2_kin_16 rfl ?_
      refine e_iload_n (j := 2) C dX2_kin_17 rfl rfl ?_
      refine e_iload_n (j := 3) C dX2_kin_18 rfl rfl ?_
      refine e_icmp_ne (tgt := 32) C dX2_kin_19 (by decide) (fun c_19 => ?_) (fun c_19 => ?_)
      · refine e_aload_n (j := 0) C dX2_kin_32 rfl rfl ?_
        refine e_get0 (k := 3) (kk0 := k) (ref := "ScripHollow$Miner") C hk (by decide) rfl rfl mw_378 dX2_kin_33 ?_
        refine e_topi (fun x4_36 ex4_36 => ?_)
        refine e_istore (ls2 := [(4, .int x4_36), (3, .ref (ρ (mO k))), (0, .ref (ρ 0)), (1, .int (nI k)), (2, .int (nI j))]) C hnL dX2_kin_36 (by decide) rfl ?_
        refine e_aload_n (j := 1) C dX2_kin_38 rfl rfl ?_
        refine e_iload_n (j := 4) C dX2_kin_39 rfl rfl ?_
        refine e_put0 (k := 3) (kk0 := k) (ref := "ScripHollow$Miner") (ty := .int) C hk (by decide) rfl rfl (by decide +kernel) rfl rfl rfl mw_378 dX2_kin_40 ?_
        refine e_iload (j := 0) C dX2_kin_43 rfl ?_
        exact e_iret C rfl (Nat.le_of_ble_eq_true rfl) (Nat.le_of_ble_eq_true rfl) dX2_kin_45 (pO.mk (by (try subst ex4_36); unfold o_kin; rw [if_neg hy, if_neg hnb]; (repeat (first | rw [if_neg hy] | rw [if_neg c_8] | rw [if_neg c_19]))))
      · exact e_throw (text := "nobody is their own kin") C th_IA mw_176 mw_177 (by decide) rfl rfl dX2_kin_22 dX2_kin_25 dX2_kin_26 dX2_kin_28 dX2_kin_31 (by decide) (Nat.le_of_ble_eq_true rfl) (Nat.le_of_ble_eq_true rfl) (Nat.le_of_ble_eq_true rfl) (Nat.le_of_ble_eq_true rfl) (Nat.le_of_ble_eq_true rfl) (xO.mk (by (try subst ex4_36); unfold o_kin; rw [if_neg hy, if_neg hnb]; (repeat (first | rw [if_neg hy] | rw [if_neg c_8] | rw [if_pos c_19]))))
def edi (r : Int32) (met : Int32) : Nat → Int32
  | 0 => if r = 0 then 1 else 0
  | f + 1 => if r ≤ 0 then (if r = 0 then 1 else 0) else if r - r / 10 * 10 < 1 then 0 else if 5 < r - r / 10 * 10 then 0 else if met >>> ((r - r / 10 * 10) &&& 31) &&& 1 = 1 then 0 else edi (r / 10) (met ||| 1 <<< ((r - r / 10 * 10) &&& 31)) f
def o_edition (M : Mem) (x : Int32) : Out := if edi x 0 5 = 0 then rX IA M else rI (M 0 3) (up M 0 3 x)
set_option maxRecDepth 100000 in
set_option maxHeartbeats 4000000 in
theorem c_X2_isEdition {l : Launch} (hl : l.stackTraces = false) {n : Nat} {ρ : Nat → Nat} {J : Nat → Int64} {M : Mem} {x : Int32} : CtO l yX2_isEdition cX2_isEdition 5 (some .boolean) 0 0 0 n ρ J M [.int x] (rI (edi x 0 5) M) := by
  refine CtO.of hl (by decide +kernel) (Nat.le_of_ble_eq_true rfl) (fun Ξ hnL C => ?_)
  show E Ξ n ρ J M 0 0 0 [(0, .int x)] []
  obtain ⟨R0, hR0⟩ : ∃ z, z = edi x 0 5 := ⟨_, rfl⟩
  rw [← hR0] at C
  have loop : ∀ (f j : Nat) (r met : Int32), j + f = 5 → R0 = edi r met f → E Ξ n ρ J M 0 0 6 [(3, .int (nI j)), (2, .int met), (1, .int r), (0, .int x)] [] := by
    intro f
    induction f with
    | zero =>
      intro j r met hj hE
      have hj5 : j = 5 := by omega
      subst hj5
      unfold edi at hE
      refine e_iload_n (j := 0) C dX2_isEdition_6 rfl rfl ?_
      refine e_iconst (v := 5) C dX2_isEdition_7 (by decide) ?_
      refine e_icmp_ge (tgt := 63) C dX2_isEdition_8 (by decide) (fun c_8 => ?_) (fun c_8 => absurd (show (5 : Int32) ≤ nI 5 by decide) c_8)
      refine e_iload_n (j := 2) C dX2_isEdition_63 rfl rfl ?_
      refine e_if_ne (tgt := 71) C dX2_isEdition_64 (by decide) (fun c_64 => ?_) (fun c_64 => ?_)
      · refine e_iconst (v := 0) C dX2_isEdition_71 (by decide) ?_
        exact e_zret C rfl rfl (Nat.le_of_ble_eq_true rfl) (Nat.le_of_ble_eq_true rfl) dX2_isEdition_72 (pO.mk (by rw [hE]; (repeat (first | rw [if_pos c_8] | rw [if_neg c_64]))))
      · refine e_iconst (v := 1) C dX2_isEdition_67 (by decide) ?_
        refine e_goto (tgt := 72) C dX2_isEdition_68 (by decide) ?_
        exact e_zret C rfl rfl (Nat.le_of_ble_eq_true rfl) (Nat.le_of_ble_eq_true rfl) dX2_isEdition_72 (pO.mk (by rw [hE]; (repeat (first | rw [if_pos c_8] | rw [if_pos c_64]))))
    | succ f ih =>
      intro j r met hj hE
      unfold edi at hE
      refine e_iload_n (j := 0) C dX2_isEdition_6 rfl rfl ?_
      refine e_iconst (v := 5) C dX2_isEdition_7 (by decide) ?_
      refine e_icmp_ge (tgt := 63) C dX2_isEdition_8 (by decide) (fun c_8 => absurd c_8 (nI_ge (a := j) (b := 5) (by omega) (by omega))) (fun c_8 => ?_)
      refine e_iload_n (j := 2) C dX2_isEdition_11 rfl rfl ?_
      refine e_if_le (tgt := 63) C dX2_isEdition_12 (by decide) (fun c_12 => ?_) (fun c_12 => ?_)
      · refine e_iload_n (j := 2) C dX2_isEdition_63 rfl rfl ?_
        refine e_if_ne (tgt := 71) C dX2_isEdition_64 (by decide) (fun c_64 => ?_) (fun c_64 => ?_)
        · refine e_iconst (v := 0) C dX2_isEdition_71 (by decide) ?_
          exact e_zret C rfl rfl (Nat.le_of_ble_eq_true rfl) (Nat.le_of_ble_eq_true rfl) dX2_isEdition_72 (pO.mk (by rw [hE]; (try subst ex4_19); (repeat (first | rw [if_neg c_8] | rw [if_pos c_12] | rw [if_neg c_64]))))
        · refine e_iconst (v := 1) C dX2_isEdition_67 (by decide) ?_
          refine e_goto (tgt := 72) C dX2_isEdition_68 (by decide) ?_
          exact e_zret C rfl rfl (Nat.le_of_ble_eq_true rfl) (Nat.le_of_ble_eq_true rfl) dX2_isEdition_72 (pO.mk (by rw [hE]; (try subst ex4_19); (repeat (first | rw [if_neg c_8] | rw [if_pos c_12] | rw [if_pos c_64]))))
      · refine e_iload_n (j := 2) C dX2_isEdition_15 rfl rfl ?_
        refine e_bipush (v := 10) C dX2_isEdition_16 (by decide) ?_
        refine e_irem C dX2_isEdition_18 (by decide) ?_
        refine e_topi (fun x4_19 ex4_19 => ?_)
        refine e_istore (ls2 := [(4, .int x4_19), (3, .int (nI j)), (2, .int met), (1, .int r), (0, .int x)]) C hnL dX2_isEdition_19 (by decide) rfl ?_
        refine e_iload (j := 0) C dX2_isEdition_21 rfl ?_
        refine e_iconst (v := 1) C dX2_isEdition_23 (by decide) ?_
        refine e_icmp_lt (tgt := 43) C dX2_isEdition_24 (by decide) (fun c_24 => ?_) (fun c_24 => ?_)
        · refine e_iconst (v := 0) C dX2_isEdition_43 (by decide) ?_
          exact e_zret C rfl rfl (Nat.le_of_ble_eq_true rfl) (Nat.le_of_ble_eq_true rfl) dX2_isEdition_44 (pO.mk (by rw [hE]; (try subst ex4_19); (repeat (first | rw [if_neg c_8] | rw [if_neg c_12] | rw [if_pos c_24]))))
        · refine e_iload (j := 0) C dX2_isEdition_27 rfl ?_
          refine e_iconst (v := 5) C dX2_isEdition_29 (by decide) ?_
          refine e_icmp_gt (tgt := 43) C dX2_isEdition_30 (by decide) (fun c_30 => ?_) (fun c_30 => ?_)
          · refine e_iconst (v := 0) C dX2_isEdition_43 (by decide) ?_
            exact e_zret C rfl rfl (Nat.le_of_ble_eq_true rfl) (Nat.le_of_ble_eq_true rfl) dX2_isEdition_44 (pO.mk (by rw [hE]; (try subst ex4_19); (repeat (first | rw [if_neg c_8] | rw [if_neg c_12] | rw [if_neg c_24] | rw [if_pos c_30]))))
          · refine e_iload_n (j := 2) C dX2_isEdition_33 rfl rfl ?_
            refine e_iload (j := 0) C dX2_isEdition_34 rfl ?_
            refine e_ishr C dX2_isEdition_36 ?_
            refine e_iconst (v := 1) C dX2_isEdition_37 (by decide) ?_
            refine e_iand C dX2_isEdition_38 ?_
            refine e_iconst (v := 1) C dX2_isEdition_39 (by decide) ?_
            refine e_icmp_ne (tgt := 45) C dX2_isEdition_40 (by decide) (fun c_40 => ?_) (fun c_40 => ?_)
            · refine e_iload_n (j := 2) C dX2_isEdition_45 rfl rfl ?_
              refine e_iconst (v := 1) C dX2_isEdition_46 (by decide) ?_
              refine e_iload (j := 0) C dX2_isEdition_47 rfl ?_
              refine e_ishl C dX2_isEdition_49 ?_
              refine e_ior C dX2_isEdition_50 ?_
              refine e_topi (fun x2_51 ex2_51 => ?_)
              refine e_istore_n (ls2 := [(2, .int x2_51), (4, .int x4_19), (3, .int (nI j)), (1, .int r), (0, .int x)]) C hnL dX2_isEdition_51 rfl (by decide) rfl ?_
              refine e_iload_n (j := 3) C dX2_isEdition_52 rfl rfl ?_
              refine e_bipush (v := 10) C dX2_isEdition_53 (by decide) ?_
              refine e_idiv C dX2_isEdition_55 (by decide) ?_
              refine e_topi (fun x1_56 ex1_56 => ?_)
              refine e_istore_n (ls2 := [(1, .int x1_56), (2, .int x2_51), (4, .int x4_19), (3, .int (nI j)), (0, .int x)]) C hnL dX2_isEdition_56 rfl (by decide) rfl ?_
              obtain ⟨x3_57, ex3_57⟩ : ∃ z : Int32, z = (nI j) + 1 := ⟨_, rfl⟩
              refine e_iinc (j := 3) (v := x3_57) (ls2 := [(3, .int x3_57), (1, .int x1_56), (2, .int x2_51), (4, .int x4_19), (0, .int x)]) C hnL dX2_isEdition_57 rfl (by rw [ex3_57]; rfl) (by decide) rfl ?_
              refine e_goto (tgt := 6) C dX2_isEdition_60 (by decide) ?_
              subst ex3_57 ex1_56 ex2_51 ex4_19
              rw [nI_1]
              exact e_sub [0, 2, 1, 4] rfl (ih (j + 1) _ _ (by omega) (by rw [hE]; (repeat (first | rw [if_neg c_8] | rw [if_neg c_12] | rw [if_neg c_24] | rw [if_neg c_30] | rw [if_neg c_40]))))
            · refine e_iconst (v := 0) C dX2_isEdition_43 (by decide) ?_
              exact e_zret C rfl rfl (Nat.le_of_ble_eq_true rfl) (Nat.le_of_ble_eq_true rfl) dX2_isEdition_44 (pO.mk (by rw [hE]; (try subst ex4_19); (repeat (first | rw [if_neg c_8] | rw [if_neg c_12] | rw [if_neg c_24] | rw [if_neg c_30] | rw [if_pos c_40]))))
  refine e_iload_n (j := 0) C dX2_isEdition_0 rfl rfl ?_
  refine e_istore_n (ls2 := [(1, .int x), (0, .int x)]) C hnL dX2_isEdition_1 rfl (by decide) rfl ?_
  refine e_iconst (v := 0) C dX2_isEdition_2 (by decide) ?_
  refine e_istore_n (ls2 := [(2, .int 0), (1, .int x), (0, .int x)]) C hnL dX2_isEdition_3 rfl (by decide) rfl ?_
  refine e_iconst (v := 0) C dX2_isEdition_4 (by decide) ?_
  refine e_istore_n (ls2 := [(3, .int 0), (2, .int 0), (1, .int x), (0, .int x)]) C hnL dX2_isEdition_5 rfl (by decide) rfl ?_
  exact e_sub [0, 1, 2, 3] rfl (loop 5 0 x 0 rfl hR0)
set_option maxRecDepth 100000 in
set_option maxHeartbeats 4000000 in
theorem c_X2_edition {l : Launch} (hl : l.stackTraces = false) {n : Nat} {ρ : Nat → Nat} {J : Nat → Int64} {M : Mem} {x : Int32} : CtO l yX2_edition cX2_edition 3 (some .int) 6 1 6 n ρ J M [.ref (ρ 0), .int x] (o_edition M x) := by
  refine CtO.of hl (by decide +kernel) (Nat.le_of_ble_eq_true rfl) (fun Ξ hnL C => ?_)
  show E Ξ n ρ J M 0 0 0 [(0, .ref (ρ 0)), (1, .int x)] []
  refine e_iload_n (j := 1) C dX2_edition_0 rfl rfl ?_
  refine e_cS (nA := 1) C (c_X2_isEdition hl) rfl mw_347 mw_345 mw_346 mw_12 (by decide +kernel) (by decide) rfl rfl (Nat.le_of_ble_eq_true rfl) dX2_edition_1 (Nat.le_of_ble_eq_true rfl) (Nat.le_of_ble_eq_true rfl) ?_
  refine e_if_ne (tgt := 17) C dX2_edition_4 (by decide) (fun c_4 => ?_) (fun c_4 => ?_)
  · refine e_aload_n (j := 0) C dX2_edition_17 rfl rfl ?_
    refine e_get2 (k := 3) (ref := "ScripHollow") C (by decide) rfl rfl mw_26 dX2_edition_18 ?_
    refine e_topi (fun x2_21 ex2_21 => ?_)
    refine e_istore_n (ls2 := [(2, .int x2_21), (0, .ref (ρ 0)), (1, .int x)]) C hnL dX2_edition_21 rfl (by decide) rfl ?_
    refine e_aload_n (j := 1) C dX2_edition_22 rfl rfl ?_
    refine e_iload_n (j := 2) C dX2_edition_23 rfl rfl ?_
    refine e_put2 (k := 3) (ref := "ScripHollow") (ty := .int) C (by decide) rfl rfl (by decide +kernel) rfl rfl rfl mw_26 dX2_edition_24 ?_
    refine e_iload_n (j := 0) C dX2_edition_27 rfl rfl ?_
    exact e_iret C rfl (Nat.le_of_ble_eq_true rfl) (Nat.le_of_ble_eq_true rfl) dX2_edition_28 (pO.mk (by first | contradiction | (subst_vars; unfold o_edition; (repeat (first | rw [if_neg c_4])); (try rfl))))
  · exact e_throw (text := "not a row of unlike kinds") C th_IA mw_176 mw_177 (by decide) rfl rfl dX2_edition_7 dX2_edition_10 dX2_edition_11 dX2_edition_13 dX2_edition_16 (by decide) (Nat.le_of_ble_eq_true rfl) (Nat.le_of_ble_eq_true rfl) (Nat.le_of_ble_eq_true rfl) (Nat.le_of_ble_eq_true rfl) (Nat.le_of_ble_eq_true rfl) (xO.mk (by first | contradiction | (subst_vars; unfold o_edition; (repeat (first | rw [if_pos c_4])); (try rfl))))
def lead (M : Mem) : Nat → Int32
  | 0 => 0
  | j + 1 => if M (mO j) 0 = 0 then lead M j else if M (mO j) 2 = 0 then lead M j + (-1) else lead M j + 1
theorem lead_s (M : Mem) (j : Nat) : lead M (j + 1) = if M (mO j) 0 = 0 then lead M j else if M (mO j) 2 = 0 then lead M j + (-1) else lead M j + 1 := rfl
def o_can (M : Mem) (n : Nat) : Int32 := if lead M n ≤ 0 then 0 else 1
set_option maxRecDepth 100000 in
set_option maxHeartbeats 4000000 in
theorem c_X2_canStrike {l : Launch} (hl : l.stackTraces = false) {n : Nat} {ρ : Nat → Nat} {J : Nat → Int64} {M : Mem} (hn : n ≤ 10) : CtO l yX2_canStrike cX2_canStrike 4 (some .boolean) 3 0 0 n ρ J M [.ref (ρ 0)] (rI (o_can M n) M) := by
  refine CtO.of hl (by decide +kernel) (Nat.le_of_ble_eq_true rfl) (fun Ξ hnL C => ?_)
  show E Ξ n ρ J M 0 0 0 [(0, .ref (ρ 0))] []
  have loop : ∀ (f j : Nat), j + f = n → E Ξ n ρ J M 0 0 4 [(2, .int (nI j)), (1, .int (lead M j)), (0, .ref (ρ 0))] [] := by
    intro f
    induction f with
    | zero =>
      intro j hj
      have hjn : j = n := by omega
      subst hjn
      refine e_iload_n (j := 0) C dX2_canStrike_4 rfl rfl ?_
      refine e_aload_n (j := 2) C dX2_canStrike_5 rfl rfl ?_
      refine e_get2 (k := 0) (ref := "ScripHollow") C (by decide) rfl rfl mw_24 dX2_canStrike_6 ?_
      refine e_cV (i := 1) (nA := 0) (Cn := RJx4a65c) C (c_JL_size hl) rfl (cnt_fix (by decide)) (fun _ => rfl) rfl rfl mw_69 mw_66 mw_67 mw_68 mw_23 (by decide +kernel) (by decide) rfl rfl (Nat.le_of_ble_eq_true rfl) dX2_canStrike_9 (Nat.le_of_ble_eq_true rfl) (Nat.le_of_ble_eq_true rfl) ?_
      refine e_icmp_ge (tgt := 55) C dX2_canStrike_12 (by decide) (fun c_12 => ?_) (fun c_12 => absurd (nI_le (Nat.le_refl j) (by omega)) c_12)
      refine e_iload_n (j := 1) C dX2_canStrike_55 rfl rfl ?_
      refine e_if_le (tgt := 63) C dX2_canStrike_56 (by decide) (fun c_56 => ?_) (fun c_56 => ?_)
      · refine e_iconst (v := 0) C dX2_canStrike_63 (by decide) ?_
        exact e_zret C rfl rfl (Nat.le_of_ble_eq_true rfl) (Nat.le_of_ble_eq_true rfl) dX2_canStrike_64 (pO.mk (by unfold o_can; (repeat (first | rw [if_pos (by assumption)] | rw [if_neg (by assumption)]))))
      · refine e_iconst (v := 1) C dX2_canStrike_59 (by decide) ?_
        refine e_goto (tgt := 64) C dX2_canStrike_60 (by decide) ?_
        exact e_zret C rfl rfl (Nat.le_of_ble_eq_true rfl) (Nat.le_of_ble_eq_true rfl) dX2_canStrike_64 (pO.mk (by unfold o_can; (repeat (first | rw [if_pos (by assumption)] | rw [if_neg (by assumption)]))))
    | succ f ih =>
      intro j hjf
      have hj : j < n := by omega
      refine e_iload_n (j := 0) C dX2_canStrike_4 rfl rfl ?_
      refine e_aload_n (j := 2) C dX2_canStrike_5 rfl rfl ?_
      refine e_get2 (k := 0) (ref := "ScripHollow") C (by decide) rfl rfl mw_24 dX2_canStrike_6 ?_
      refine e_cV (i := 1) (nA := 0) (Cn := RJx4a65c) C (c_JL_size hl) rfl (cnt_fix (by decide)) (fun _ => rfl) rfl rfl mw_69 mw_66 mw_67 mw_68 mw_23 (by decide +kernel) (by decide) rfl rfl (Nat.le_of_ble_eq_true rfl) dX2_canStrike_9 (Nat.le_of_ble_eq_true rfl) (Nat.le_of_ble_eq_true rfl) ?_
      refine e_icmp_ge (tgt := 55) C dX2_canStrike_12 (by decide) (fun c_12 => absurd c_12 (nI_ge hj (by omega))) (fun c_12 => ?_)
      refine e_aload_n (j := 2) C dX2_canStrike_15 rfl rfl ?_
      refine e_get2 (k := 0) (ref := "ScripHollow") C (by decide) rfl rfl mw_24 dX2_canStrike_16 ?_
      refine e_iload_n (j := 0) C dX2_canStrike_19 rfl rfl ?_
      refine e_cV (i := 1) (nA := 1) (Cn := RJx4a65c) C (c_JL_get hl hj hn) rfl (cnt_fix (by decide)) (fun _ => rfl) rfl rfl mw_160 mw_157 mw_158 mw_159 mw_23 (by decide +kernel) (by decide) rfl rfl (Nat.le_of_ble_eq_true rfl) dX2_canStrike_20 (Nat.le_of_ble_eq_true rfl) (Nat.le_of_ble_eq_true rfl) ?_
      refine e_castM C hj mw_63 dX2_canStrike_23 ?_
      refine e_astore_n (ls2 := [(3, .ref (ρ (mO j))), (2, .int (nI j)), (1, .int (lead M j)), (0, .ref (ρ 0))]) C hnL dX2_canStrike_26 rfl (by decide) rfl ?_
      refine e_aload_n (j := 0) C dX2_canStrike_27 rfl rfl ?_
      refine e_get0 (k := 0) (kk0 := j) (ref := "ScripHollow$Miner") C hj (by decide) rfl rfl mw_181 dX2_canStrike_28 ?_
      refine e_if_eq (tgt := 49) C dX2_canStrike_31 (by decide) (fun c_31 => ?_) (fun c_31 => ?_)
      · obtain ⟨x2_49, ex2_49⟩ : ∃ z : Int32, z = (nI j) + 1 := ⟨_, rfl⟩
        refine e_iinc (j := 1) (v := x2_49) (ls2 := [(2, .int x2_49), (3, .ref (ρ (mO j))), (1, .int (lead M j)), (0, .ref (ρ 0))]) C hnL dX2_canStrike_49 rfl (by rw [ex2_49]; rfl) (by decide) rfl ?_
        refine e_goto (tgt := 4) C dX2_canStrike_52 (by decide) ?_
        subst ex2_49
        rw [nI_1]
        have ih2 := ih (j + 1) (by omega)
        rw [lead_s] at ih2
        (repeat (first | rw [if_pos (by assumption)] at ih2 | rw [if_neg (by assumption)] at ih2))
        exact e_sub [0, 2, 3] rfl ih2
      · refine e_iload_n (j := 2) C dX2_canStrike_34 rfl rfl ?_
        refine e_aload_n (j := 0) C dX2_canStrike_35 rfl rfl ?_
        refine e_get0 (k := 2) (kk0 := j) (ref := "ScripHollow$Miner") C hj (by decide) rfl rfl mw_373 dX2_canStrike_36 ?_
        refine e_if_eq (tgt := 46) C dX2_canStrike_39 (by decide) (fun c_39 => ?_) (fun c_39 => ?_)
        · refine e_iconst (v := (-1)) C dX2_canStrike_46 (by decide) ?_
          refine e_iadd C dX2_canStrike_47 ?_
          refine e_topi (fun x1_48 ex1_48 => ?_)
          refine e_istore_n (ls2 := [(1, .int x1_48), (3, .ref (ρ (mO j))), (2, .int (nI j)), (0, .ref (ρ 0))]) C hnL dX2_canStrike_48 rfl (by decide) rfl ?_
          obtain ⟨x2_49, ex2_49⟩ : ∃ z : Int32, z = (nI j) + 1 := ⟨_, rfl⟩
          refine e_iinc (j := 2) (v := x2_49) (ls2 := [(2, .int x2_49), (1, .int x1_48), (3, .ref (ρ (mO j))), (0, .ref (ρ 0))]) C hnL dX2_canStrike_49 rfl (by rw [ex2_49]; rfl) (by decide) rfl ?_
          refine e_goto (tgt := 4) C dX2_canStrike_52 (by decide) ?_
          subst ex2_49 ex1_48
          rw [nI_1]
          have ih2 := ih (j + 1) (by omega)
          rw [lead_s] at ih2
          (repeat (first | rw [if_pos (by assumption)] at ih2 | rw [if_neg (by assumption)] at ih2))
          exact e_sub [0, 1, 3] rfl ih2
        · refine e_iconst (v := 1) C dX2_canStrike_42 (by decide) ?_
          refine e_goto (tgt := 47) C dX2_canStrike_43 (by decide) ?_
          refine e_iadd C dX2_canStrike_47 ?_
          refine e_topi (fun x1_48 ex1_48 => ?_)
          refine e_istore_n (ls2 := [(1, .int x1_48), (3, .ref (ρ (mO j))), (2, .int (nI j)), (0, .ref (ρ 0))]) C hnL dX2_canStrike_48 rfl (by decide) rfl ?_
          obtain ⟨x2_49, ex2_49⟩ : ∃ z : Int32, z = (nI j) + 1 := ⟨_, rfl⟩
          refine e_iinc (j := 2) (v := x2_49) (ls2 := [(2, .int x2_49), (1, .int x1_48), (3, .ref (ρ (mO j))), (0, .ref (ρ 0))]) C hnL dX2_canStrike_49 rfl (by rw [ex2_49]; rfl) (by decide) rfl ?_
          refine e_goto (tgt := 4) C dX2_canStrike_52 (by decide) ?_
          subst ex2_49 ex1_48
          rw [nI_1]
          have ih2 := ih (j + 1) (by omega)
          rw [lead_s] at ih2
          (repeat (first | rw [if_pos (by assumption)] at ih2 | rw [if_neg (by assumption)] at ih2))
          exact e_sub [0, 1, 3] rfl ih2
  refine e_iconst (v := 0) C dX2_canStrike_0 (by decide) ?_
  refine e_istore_n (ls2 := [(1, .int 0), (0, .ref (ρ 0))]) C hnL dX2_canStrike_1 rfl (by decide) rfl ?_
  refine e_iconst (v := 0) C dX2_canStrike_2 (by decide) ?_
  refine e_istore_n (ls2 := [(2, .int 0), (1, .int 0), (0, .ref (ρ 0))]) C hnL dX2_canStrike_3 rfl (by decide) rfl ?_
  exact e_sub [0, 1, 2] rfl (loop n 0 (by omega))
def strM (M : Mem) : Mem := up M 0 14 (if M 0 14 = 0 then 1 else 0)
def o_strike (M : Mem) (n : Nat) : Out := if M 0 15 = 0 then (if M 0 14 = 0 then (if o_can M n = 0 then rX IS M else rI (strM M 0 14) (strM M)) else rI (strM M 0 14) (strM M)) else rX IS M
set_option maxRecDepth 100000 in
set_option maxHeartbeats 4000000 in
theorem c_X2_strike {l : Launch} (hl : l.stackTraces = false) {n : Nat} {ρ : Nat → Nat} {J : Nat → Int64} {M : Mem} (hn : n ≤ 10) : CtO l yX2_strike cX2_strike 1 (some .boolean) 6 1 6 n ρ J M [.ref (ρ 0)] (o_strike M n) := by
  refine CtO.of hl (by decide +kernel) (Nat.le_of_ble_eq_true rfl) (fun Ξ hnL C => ?_)
  show E Ξ n ρ J M 0 0 0 [(0, .ref (ρ 0))] []
  refine e_aload_n (j := 0) C dX2_strike_0 rfl rfl ?_
  refine e_get2 (k := 15) (ref := "ScripHollow") C (by decide) rfl rfl mw_144 dX2_strike_1 ?_
  refine e_if_ne (tgt := 21) C dX2_strike_4 (by decide) (fun c_4 => ?_) (fun c_4 => ?_)
  · exact e_throw (text := "no strike can begin") C th_IS mw_61 mw_62 (by decide) rfl rfl dX2_strike_21 dX2_strike_24 dX2_strike_25 dX2_strike_27 dX2_strike_30 (by decide) (Nat.le_of_ble_eq_true rfl) (Nat.le_of_ble_eq_true rfl) (Nat.le_of_ble_eq_true rfl) (Nat.le_of_ble_eq_true rfl) (Nat.le_of_ble_eq_true rfl) (xO.mk (by first | contradiction | (unfold o_strike; (repeat (first | rw [if_pos (by assumption)] | rw [if_neg (by assumption)])))))
  · refine e_aload_n (j := 0) C dX2_strike_7 rfl rfl ?_
    refine e_get2 (k := 14) (ref := "ScripHollow") C (by decide) rfl rfl mw_143 dX2_strike_8 ?_
    refine e_if_ne (tgt := 31) C dX2_strike_11 (by decide) (fun c_11 => ?_) (fun c_11 => ?_)
    · refine e_aload_n (j := 0) C dX2_strike_31 rfl rfl ?_
      refine e_aload_n (j := 0) C dX2_strike_32 rfl rfl ?_
      refine e_get2 (k := 14) (ref := "ScripHollow") C (by decide) rfl rfl mw_143 dX2_strike_33 ?_
      refine e_if_ne (tgt := 43) C dX2_strike_36 (by decide) (fun c_36 => ?_) (fun c_36 => ?_)
      · refine e_iconst (v := 0) C dX2_strike_43 (by decide) ?_
        refine e_put2 (k := 14) (ref := "ScripHollow") (ty := .boolean) C (by decide) rfl rfl (by decide +kernel) rfl rfl rfl mw_143 dX2_strike_44 ?_
        refine e_aload_n (j := 0) C dX2_strike_47 rfl rfl ?_
        refine e_get2 (k := 14) (ref := "ScripHollow") C (by decide) rfl rfl mw_143 dX2_strike_48 ?_
        exact e_zret C rfl (isB.nar (by rw [up_eq]; unfold upd; rw [if_pos rfl]; first | exact Or.inl rfl | exact Or.inr rfl)) (Nat.le_of_ble_eq_true rfl) (Nat.le_of_ble_eq_true rfl) dX2_strike_51 (pO.mk (by first | contradiction | (unfold o_strike strM; (repeat (first | rw [if_pos (by assumption)] | rw [if_neg (by assumption)])))))
      · refine e_iconst (v := 1) C dX2_strike_39 (by decide) ?_
        refine e_goto (tgt := 44) C dX2_strike_40 (by decide) ?_
        refine e_put2 (k := 14) (ref := "ScripHollow") (ty := .boolean) C (by decide) rfl rfl (by decide +kernel) rfl rfl rfl mw_143 dX2_strike_44 ?_
        refine e_aload_n (j := 0) C dX2_strike_47 rfl rfl ?_
        refine e_get2 (k := 14) (ref := "ScripHollow") C (by decide) rfl rfl mw_143 dX2_strike_48 ?_
        exact e_zret C rfl (isB.nar (by rw [up_eq]; unfold upd; rw [if_pos rfl]; first | exact Or.inl rfl | exact Or.inr rfl)) (Nat.le_of_ble_eq_true rfl) (Nat.le_of_ble_eq_true rfl) dX2_strike_51 (pO.mk (by first | contradiction | (unfold o_strike strM; (repeat (first | rw [if_pos (by assumption)] | rw [if_neg (by assumption)])))))
    · refine e_aload_n (j := 0) C dX2_strike_14 rfl rfl ?_
      refine e_cV (i := 0) (nA := 0) (Cn := RX2) C (c_X2_canStrike hl hn) rfl (cnt_fix (by decide)) (fun _ => rfl) rfl rfl mw_389 mw_386 mw_387 mw_388 mw_12 (by decide +kernel) (by decide) rfl rfl (Nat.le_of_ble_eq_true rfl) dX2_strike_15 (Nat.le_of_ble_eq_true rfl) (Nat.le_of_ble_eq_true rfl) ?_
      refine e_if_ne (tgt := 31) C dX2_strike_18 (by decide) (fun c_18 => ?_) (fun c_18 => ?_)
      · refine e_aload_n (j := 0) C dX2_strike_31 rfl rfl ?_
        refine e_aload_n (j := 0) C dX2_strike_32 rfl rfl ?_
        refine e_get2 (k := 14) (ref := "ScripHollow") C (by decide) rfl rfl mw_143 dX2_strike_33 ?_
        refine e_if_ne (tgt := 43) C dX2_strike_36 (by decide) (fun c_36 => ?_) (fun c_36 => ?_)
        · refine e_iconst (v := 0) C dX2_strike_43 (by decide) ?_
          refine e_put2 (k := 14) (ref := "ScripHollow") (ty := .boolean) C (by decide) rfl rfl (by decide +kernel) rfl rfl rfl mw_143 dX2_strike_44 ?_
          refine e_aload_n (j := 0) C dX2_strike_47 rfl rfl ?_
          refine e_get2 (k := 14) (ref := "ScripHollow") C (by decide) rfl rfl mw_143 dX2_strike_48 ?_
          exact e_zret C rfl (isB.nar (by rw [up_eq]; unfold upd; rw [if_pos rfl]; first | exact Or.inl rfl | exact Or.inr rfl)) (Nat.le_of_ble_eq_true rfl) (Nat.le_of_ble_eq_true rfl) dX2_strike_51 (pO.mk (by first | contradiction | (unfold o_strike strM; (repeat (first | rw [if_pos (by assumption)] | rw [if_neg (by assumption)])))))
        · refine e_iconst (v := 1) C dX2_strike_39 (by decide) ?_
          refine e_goto (tgt := 44) C dX2_strike_40 (by decide) ?_
          refine e_put2 (k := 14) (ref := "ScripHollow") (ty := .boolean) C (by decide) rfl rfl (by decide +kernel) rfl rfl rfl mw_143 dX2_strike_44 ?_
          refine e_aload_n (j := 0) C dX2_strike_47 rfl rfl ?_
          refine e_get2 (k := 14) (ref := "ScripHollow") C (by decide) rfl rfl mw_143 dX2_strike_48 ?_
          exact e_zret C rfl (isB.nar (by rw [up_eq]; unfold upd; rw [if_pos rfl]; first | exact Or.inl rfl | exact Or.inr rfl)) (Nat.le_of_ble_eq_true rfl) (Nat.le_of_ble_eq_true rfl) dX2_strike_51 (pO.mk (by first | contradiction | (unfold o_strike strM; (repeat (first | rw [if_pos (by assumption)] | rw [if_neg (by assumption)])))))
      · exact e_throw (text := "no strike can begin") C th_IS mw_61 mw_62 (by decide) rfl rfl dX2_strike_21 dX2_strike_24 dX2_strike_25 dX2_strike_27 dX2_strike_30 (by decide) (Nat.le_of_ble_eq_true rfl) (Nat.le_of_ble_eq_true rfl) (Nat.le_of_ble_eq_true rfl) (Nat.le_of_ble_eq_true rfl) (Nat.le_of_ble_eq_true rfl) (xO.mk (by first | contradiction | (unfold o_strike; (repeat (first | rw [if_pos (by assumption)] | rw [if_neg (by assumption)])))))
set_option maxRecDepth 100000 in
set_option maxHeartbeats 4000000 in
theorem c_X2_baskets_x {l : Launch} (hl : l.stackTraces = false) {n : Nat} {ρ : Nat → Nat} {J : Nat → Int64} {M : Mem} {x : Int32} (h : x < 0 ∨ nI n ≤ x) : CtO l yX2_baskets cX2_baskets 5 (some .int) 8 1 6 n ρ J M [.ref (ρ 0), .int x] (rX IX M) := by
  refine CtO.of hl (by decide +kernel) (Nat.le_of_ble_eq_true rfl) (fun Ξ hnL C => ?_)
  show E Ξ n ρ J M 0 0 0 [(0, .ref (ρ 0)), (1, .int x)] []
  refine e_aload_n (j := 0) C dX2_baskets_0 rfl rfl ?_
  refine e_iload_n (j := 1) C dX2_baskets_1 rfl rfl ?_
  exact e_cVx (i := 0) (nA := 1) (Cn := RX2) C (c_X2_minerAt_x hl h) rfl (cnt_fix (by decide)) (fun _ => rfl) rfl rfl mw_150 mw_147 mw_148 mw_149 mw_12 (by decide +kernel) (by decide) rfl rfl (Nat.le_of_ble_eq_true rfl) dX2_baskets_2 (Nat.le_of_ble_eq_true rfl) (Nat.le_of_ble_eq_true rfl) rfl
def bask (M : Mem) (k : Nat) : Nat → Int32
  | 0 => 0
  | g + 1 => bask M k g + sPrice M k g
def o_bask (M : Mem) (k : Nat) : Int32 := if bask M k 4 ≤ 0 then 0 else M (mO k) 9 / bask M k 4
set_option maxRecDepth 100000 in
set_option maxHeartbeats 4000000 in
theorem c_X2_baskets {l : Launch} (hl : l.stackTraces = false) {n : Nat} {ρ : Nat → Nat} {J : Nat → Int64} {M : Mem} {k : Nat} (hk : k < n) (hn : n ≤ 10) : CtO l yX2_baskets cX2_baskets 5 (some .int) 8 1 6 n ρ J M [.ref (ρ 0), .int (nI k)] (rI (o_bask M k) M) := by
  refine CtO.of hl (by decide +kernel) (Nat.le_of_ble_eq_true rfl) (fun Ξ hnL C => ?_)
  show E Ξ n ρ J M 0 0 0 [(0, .ref (ρ 0)), (1, .int (nI k))] []
  have loop : ∀ (f g : Nat), g + f = 4 → E Ξ n ρ J M 1 6 11 [(4, .int (nI g)), (3, .int (bask M k g)), (2, .ref (ρ (mO k))), (0, .ref (ρ 0)), (1, .int (nI k))] [] := by
    intro f
    induction f with
    | zero =>
      intro g hg4
      have hg5 : g = 4 := by omega
      subst hg5
      refine e_iload (j := 0) C dX2_baskets_11 rfl ?_
      refine e_iconst (v := 4) C dX2_baskets_13 (by decide) ?_
      refine e_icmp_ge (tgt := 33) C dX2_baskets_14 (by decide) (fun c_14 => ?_) (fun c_14 => absurd (show (4 : Int32) ≤ nI 4 by decide) c_14)
      refine e_iload_n (j := 1) C dX2_baskets_33 rfl rfl ?_
      refine e_if_le (tgt := 46) C dX2_baskets_34 (by decide) (fun c_34 => ?_) (fun c_34 => ?_)
      · refine e_iconst (v := 0) C dX2_baskets_46 (by decide) ?_
        exact e_iret C rfl (Nat.le_of_ble_eq_true rfl) (Nat.le_of_ble_eq_true rfl) dX2_baskets_47 (pO.mk (by unfold o_bask; (repeat (first | rw [if_pos (by assumption)] | rw [if_neg (by assumption)]))))
      · refine e_aload_n (j := 2) C dX2_baskets_37 rfl rfl ?_
        refine e_get0 (k := 9) (kk0 := k) (ref := "ScripHollow$Miner") C hk (by decide) rfl rfl mw_196 dX2_baskets_38 ?_
        refine e_iload_n (j := 1) C dX2_baskets_41 rfl rfl ?_
        refine e_idiv C dX2_baskets_42 (fun q => c_34 (by rw [q]; decide)) ?_
        refine e_goto (tgt := 47) C dX2_baskets_43 (by decide) ?_
        exact e_iret C rfl (Nat.le_of_ble_eq_true rfl) (Nat.le_of_ble_eq_true rfl) dX2_baskets_47 (pO.mk (by unfold o_bask; (repeat (first | rw [if_pos (by assumption)] | rw [if_neg (by assumption)]))))
    | succ f ih =>
      intro g hgf
      have hg : g < 4 := by omega
      refine e_iload (j := 0) C dX2_baskets_11 rfl ?_
      refine e_iconst (v := 4) C dX2_baskets_13 (by decide) ?_
      refine e_icmp_ge (tgt := 33) C dX2_baskets_14 (by decide) (fun c_14 => absurd c_14 (nI_ge (a := g) (b := 4) hg (by omega))) (fun c_14 => ?_)
      refine e_iload_n (j := 1) C dX2_baskets_17 rfl rfl ?_
      refine e_aload_n (j := 3) C dX2_baskets_18 rfl rfl ?_
      refine e_aload_n (j := 2) C dX2_baskets_19 rfl rfl ?_
      refine e_iload (j := 0) C dX2_baskets_20 rfl ?_
      refine e_cV (i := 0) (nA := 2) (Cn := RX2) C (c_X2_storePrice hl hk hg) rfl (cnt_fix (by decide)) (fun _ => rfl) rfl rfl mw_284 mw_281 mw_282 mw_283 mw_12 (by decide +kernel) (by decide) rfl rfl (Nat.le_of_ble_eq_true rfl) dX2_baskets_22 (Nat.le_of_ble_eq_true rfl) (Nat.le_of_ble_eq_true rfl) ?_
      refine e_iadd C dX2_baskets_25 ?_
      refine e_topi (fun x3_26 ex3_26 => ?_)
      refine e_istore_n (ls2 := [(3, .int x3_26), (4, .int (nI g)), (2, .ref (ρ (mO k))), (0, .ref (ρ 0)), (1, .int (nI k))]) C hnL dX2_baskets_26 rfl (by decide) rfl ?_
      obtain ⟨x4_27, ex4_27⟩ : ∃ z : Int32, z = (nI g) + 1 := ⟨_, rfl⟩
      refine e_iinc (j := 1) (v := x4_27) (ls2 := [(4, .int x4_27), (3, .int x3_26), (2, .ref (ρ (mO k))), (0, .ref (ρ 0)), (1, .int (nI k))]) C hnL dX2_baskets_27 rfl (by rw [ex4_27]; rfl) (by decide) rfl ?_
      refine e_goto (tgt := 11) C dX2_baskets_30 (by decide) ?_
      subst ex4_27 ex3_26
      rw [nI_1]
      exact e_sub [0, 1, 2, 3, 4] rfl (ih (g + 1) (by omega))
  refine e_aload_n (j := 0) C dX2_baskets_0 rfl rfl ?_
  refine e_iload_n (j := 1) C dX2_baskets_1 rfl rfl ?_
  refine e_cV (i := 0) (nA := 1) (Cn := RX2) C (c_X2_minerAt hl hk hn) rfl (cnt_fix (by decide)) (fun _ => rfl) rfl rfl mw_150 mw_147 mw_148 mw_149 mw_12 (by decide +kernel) (by decide) rfl rfl (Nat.le_of_ble_eq_true rfl) dX2_baskets_2 (Nat.le_of_ble_eq_true rfl) (Nat.le_of_ble_eq_true rfl) ?_
  refine e_astore_n (ls2 := [(2, .ref (ρ (mO k))), (0, .ref (ρ 0)), (1, .int (nI k))]) C hnL dX2_baskets_5 rfl (by decide) rfl ?_
  refine e_iconst (v := 0) C dX2_baskets_6 (by decide) ?_
  refine e_istore_n (ls2 := [(3, .int 0), (2, .ref (ρ (mO k))), (0, .ref (ρ 0)), (1, .int (nI k))]) C hnL dX2_baskets_7 rfl (by decide) rfl ?_
  refine e_iconst (v := 0) C dX2_baskets_8 (by decide) ?_
  refine e_istore (ls2 := [(4, .int 0), (3, .int 0), (2, .ref (ρ (mO k))), (0, .ref (ρ 0)), (1, .int (nI k))]) C hnL dX2_baskets_9 (by decide) rfl ?_
  exact e_sub [0, 1, 2, 3, 4] rfl (loop 4 0 rfl)
end
section
/-! Paydays. -/
def breachM (M : Mem) (k j : Nat) (v : Int32) : Mem := if M 0 12 = 0 then (if M 6 j = 0 then M else if v ≤ 0 then M else up (up M 0 13 (M 0 13 + 1)) (mO k) 8 (up M 0 13 (M 0 13 + 1) (mO k) 8 + v)) else M
def o_due (M : Mem) (k : Nat) (x : Int32) : Int32 := if x = 1 then M (mO k) 7 + (if M (mO k) 1 = 0 then 0 else M 2 1) else if x = 2 then M 2 2 else if x = 3 then M 2 3 else if x = 4 then M 2 4 else if x = 5 then M (mO k) 6 else 0
def o_pass (M : Mem) (x : Int32) : Int32 := if M 0 12 = 0 then 0 else if M 6 1 = 0 then 0 else if x < 3 then 0 else 1
set_option maxRecDepth 100000 in
set_option maxHeartbeats 4000000 in
theorem c_X2_breach {l : Launch} (hl : l.stackTraces = false) {n : Nat} {ρ : Nat → Nat} {J : Nat → Int64} {M : Mem} {k j : Nat} (hk : k < n) (hj : j < 3) {v : Int32} : CtO l yX2_breach cX2_breach 4 none 0 0 0 n ρ J M [.ref (ρ 0), .ref (ρ (mO k)), .int (nI j), .int v] (rV (breachM M k j v)) := by
  refine CtO.of hl (by decide +kernel) (Nat.le_of_ble_eq_true rfl) (fun Ξ hnL C => ?_)
  show E Ξ n ρ J M 0 0 0 [(0, .ref (ρ 0)), (1, .ref (ρ (mO k))), (2, .int (nI j)), (3, .int v)] []
  refine e_aload_n (j := 0) C dX2_breach_0 rfl rfl ?_
  refine e_get2 (k := 12) (ref := "ScripHollow") C (by decide) rfl rfl mw_224 dX2_breach_1 ?_
  refine e_if_ne (tgt := 40) C dX2_breach_4 (by decide) (fun c_4 => ?_) (fun c_4 => ?_)
  · exact e_vret C rfl (Nat.le_of_ble_eq_true rfl) (Nat.le_of_ble_eq_true rfl) dX2_breach_40 (pO.mk (by first | contradiction | (subst_vars; unfold breachM; (repeat (first | rw [if_neg c_4])); (try rfl))))
  · refine e_aload_n (j := 0) C dX2_breach_7 rfl rfl ?_
    refine e_get2 (k := 11) (ref := "ScripHollow") C (by decide) rfl rfl mw_37 dX2_breach_8 ?_
    refine e_iload_n (j := 2) C dX2_breach_11 rfl rfl ?_
    refine e_zaldN j C (cnt_fix (by decide)) (fun _ => rfl) rfl (by omega) (by decide) dX2_breach_12 ?_
    refine e_if_eq (tgt := 40) C dX2_breach_13 (by decide) (fun c_13 => ?_) (fun c_13 => ?_)
    · exact e_vret C rfl (Nat.le_of_ble_eq_true rfl) (Nat.le_of_ble_eq_true rfl) dX2_breach_40 (pO.mk (by first | contradiction | (subst_vars; unfold breachM; (repeat (first | rw [if_pos c_4] | rw [if_pos c_13])); (try rfl))))
    · refine e_iload_n (j := 3) C dX2_breach_16 rfl rfl ?_
      refine e_if_le (tgt := 40) C dX2_breach_17 (by decide) (fun c_17 => ?_) (fun c_17 => ?_)
      · exact e_vret C rfl (Nat.le_of_ble_eq_true rfl) (Nat.le_of_ble_eq_true rfl) dX2_breach_40 (pO.mk (by first | contradiction | (subst_vars; unfold breachM; (repeat (first | rw [if_pos c_4] | rw [if_neg c_13] | rw [if_pos c_17])); (try rfl))))
      · refine e_aload_n (j := 0) C dX2_breach_20 rfl rfl ?_
        refine e_dup C dX2_breach_21 rfl ?_
        refine e_get2 (k := 13) (ref := "ScripHollow") C (by decide) rfl rfl mw_234 dX2_breach_22 ?_
        refine e_iconst (v := 1) C dX2_breach_25 (by decide) ?_
        refine e_iadd C dX2_breach_26 ?_
        refine e_put2 (k := 13) (ref := "ScripHollow") (ty := .int) C (by decide) rfl rfl (by decide +kernel) rfl rfl rfl mw_234 dX2_breach_27 ?_
        refine e_aload_n (j := 1) C dX2_breach_30 rfl rfl ?_
        refine e_dup C dX2_breach_31 rfl ?_
        refine e_get0 (k := 8) (kk0 := k) (ref := "ScripHollow$Miner") C hk (by decide) rfl rfl mw_235 dX2_breach_32 ?_
        refine e_iload_n (j := 3) C dX2_breach_35 rfl rfl ?_
        refine e_iadd C dX2_breach_36 ?_
        refine e_put0 (k := 8) (kk0 := k) (ref := "ScripHollow$Miner") (ty := .int) C hk (by decide) rfl rfl (by decide +kernel) rfl rfl rfl mw_235 dX2_breach_37 ?_
        exact e_vret C rfl (Nat.le_of_ble_eq_true rfl) (Nat.le_of_ble_eq_true rfl) dX2_breach_40 (pO.mk (by first | contradiction | (subst_vars; unfold breachM; (repeat (first | rw [if_pos c_4] | rw [if_neg c_13] | rw [if_neg c_17])); (try rfl))))
set_option maxRecDepth 100000 in
set_option maxHeartbeats 4000000 in
theorem c_X2_due {l : Launch} (hl : l.stackTraces = false) {n : Nat} {ρ : Nat → Nat} {J : Nat → Int64} {M : Mem} {k : Nat} (hk : k < n) {x : Int32} : CtO l yX2_due cX2_due 3 (some .int) 0 0 0 n ρ J M [.ref (ρ 0), .ref (ρ (mO k)), .int x] (rI (o_due M k x) M) := by
  refine CtO.of hl (by decide +kernel) (Nat.le_of_ble_eq_true rfl) (fun Ξ hnL C => ?_)
  show E Ξ n ρ J M 0 0 0 [(0, .ref (ρ 0)), (1, .ref (ρ (mO k))), (2, .int x)] []
  by_cases h1 : x = 1
  · have hx9 : x.toInt = 1 := by rw [h1]; decide
    refine e_iload_n (j := 2) C dX2_due_0 rfl rfl ?_
    refine e_tswI (tgt := 36) (off := 35) C dX2_due_1 (by rw [hx9]; decide) (by rw [hx9]; decide) (by rw [hx9]; decide) (by decide) ?_
    refine e_aload_n (j := 1) C dX2_due_36 rfl rfl ?_
    refine e_get0 (k := 7) (kk0 := k) (ref := "ScripHollow$Miner") C hk (by decide) rfl rfl mw_202 dX2_due_37 ?_
    refine e_aload_n (j := 1) C dX2_due_40 rfl rfl ?_
    refine e_get0 (k := 1) (kk0 := k) (ref := "ScripHollow$Miner") C hk (by decide) rfl rfl mw_207 dX2_due_41 ?_
    refine e_if_eq (tgt := 56) C dX2_due_44 (by decide) (fun c_44 => ?_) (fun c_44 => ?_)
    · refine e_iconst (v := 0) C dX2_due_56 (by decide) ?_
      refine e_iadd C dX2_due_57 ?_
      exact e_iret C rfl (Nat.le_of_ble_eq_true rfl) (Nat.le_of_ble_eq_true rfl) dX2_due_58 (pO.mk (by unfold o_due; (repeat (first | rw [if_pos h1] | rw [if_pos c_44]))))
    · refine e_aload_n (j := 0) C dX2_due_47 rfl rfl ?_
      refine e_get2 (k := 4) (ref := "ScripHollow") C (by decide) rfl rfl mw_27 dX2_due_48 ?_
      refine e_iconst (v := 1) C dX2_due_51 (by decide) ?_
      refine e_ialdN 1 C (cnt_fix (by decide)) (fun _ => rfl) rfl (by decide) (by decide) dX2_due_52 ?_
      refine e_goto (tgt := 57) C dX2_due_53 (by decide) ?_
      refine e_iadd C dX2_due_57 ?_
      exact e_iret C rfl (Nat.le_of_ble_eq_true rfl) (Nat.le_of_ble_eq_true rfl) dX2_due_58 (pO.mk (by unfold o_due; (repeat (first | rw [if_pos h1] | rw [if_neg c_44]))))
  · by_cases h2 : x = 2
    · have hx9 : x.toInt = 2 := by rw [h2]; decide
      refine e_iload_n (j := 2) C dX2_due_0 rfl rfl ?_
      refine e_tswI (tgt := 59) (off := 58) C dX2_due_1 (by rw [hx9]; decide) (by rw [hx9]; decide) (by rw [hx9]; decide) (by decide) ?_
      refine e_aload_n (j := 0) C dX2_due_59 rfl rfl ?_
      refine e_get2 (k := 4) (ref := "ScripHollow") C (by decide) rfl rfl mw_27 dX2_due_60 ?_
      refine e_iconst (v := 2) C dX2_due_63 (by decide) ?_
      refine e_ialdN 2 C (cnt_fix (by decide)) (fun _ => rfl) rfl (by decide) (by decide) dX2_due_64 ?_
      exact e_iret C rfl (Nat.le_of_ble_eq_true rfl) (Nat.le_of_ble_eq_true rfl) dX2_due_65 (pO.mk (by unfold o_due; (repeat (first | rw [if_neg h1] | rw [if_pos h2]))))
    · by_cases h3 : x = 3
      · have hx9 : x.toInt = 3 := by rw [h3]; decide
        refine e_iload_n (j := 2) C dX2_due_0 rfl rfl ?_
        refine e_tswI (tgt := 66) (off := 65) C dX2_due_1 (by rw [hx9]; decide) (by rw [hx9]; decide) (by rw [hx9]; decide) (by decide) ?_
        refine e_aload_n (j := 0) C dX2_due_66 rfl rfl ?_
        refine e_get2 (k := 4) (ref := "ScripHollow") C (by decide) rfl rfl mw_27 dX2_due_67 ?_
        refine e_iconst (v := 3) C dX2_due_70 (by decide) ?_
        refine e_ialdN 3 C (cnt_fix (by decide)) (fun _ => rfl) rfl (by decide) (by decide) dX2_due_71 ?_
        exact e_iret C rfl (Nat.le_of_ble_eq_true rfl) (Nat.le_of_ble_eq_true rfl) dX2_due_72 (pO.mk (by unfold o_due; (repeat (first | rw [if_neg h1] | rw [if_neg h2] | rw [if_pos h3]))))
      · by_cases h4 : x = 4
        · have hx9 : x.toInt = 4 := by rw [h4]; decide
          refine e_iload_n (j := 2) C dX2_due_0 rfl rfl ?_
          refine e_tswI (tgt := 73) (off := 72) C dX2_due_1 (by rw [hx9]; decide) (by rw [hx9]; decide) (by rw [hx9]; decide) (by decide) ?_
          refine e_aload_n (j := 0) C dX2_due_73 rfl rfl ?_
          refine e_get2 (k := 4) (ref := "ScripHollow") C (by decide) rfl rfl mw_27 dX2_due_74 ?_
          refine e_iconst (v := 4) C dX2_due_77 (by decide) ?_
          refine e_ialdN 4 C (cnt_fix (by decide)) (fun _ => rfl) rfl (by decide) (by decide) dX2_due_78 ?_
          exact e_iret C rfl (Nat.le_of_ble_eq_true rfl) (Nat.le_of_ble_eq_true rfl) dX2_due_79 (pO.mk (by unfold o_due; (repeat (first | rw [if_neg h1] | rw [if_neg h2] | rw [if_neg h3] | rw [if_pos h4]))))
        · by_cases h5 : x = 5
          · have hx9 : x.toInt = 5 := by rw [h5]; decide
            refine e_iload_n (j := 2) C dX2_due_0 rfl rfl ?_
            refine e_tswI (tgt := 80) (off := 79) C dX2_due_1 (by rw [hx9]; decide) (by rw [hx9]; decide) (by rw [hx9]; decide) (by decide) ?_
            refine e_aload_n (j := 1) C dX2_due_80 rfl rfl ?_
            refine e_get0 (k := 6) (kk0 := k) (ref := "ScripHollow$Miner") C hk (by decide) rfl rfl mw_203 dX2_due_81 ?_
            exact e_iret C rfl (Nat.le_of_ble_eq_true rfl) (Nat.le_of_ble_eq_true rfl) dX2_due_84 (pO.mk (by unfold o_due; (repeat (first | rw [if_neg h1] | rw [if_neg h2] | rw [if_neg h3] | rw [if_neg h4] | rw [if_pos h5]))))
          · refine e_iload_n (j := 2) C dX2_due_0 rfl rfl ?_
            refine e_tswO (tgt := 85) C dX2_due_1 (sw15 h1 h2 h3 h4 h5) (by decide) ?_
            refine e_iconst (v := 0) C dX2_due_85 (by decide) ?_
            exact e_iret C rfl (Nat.le_of_ble_eq_true rfl) (Nat.le_of_ble_eq_true rfl) dX2_due_86 (pO.mk (by unfold o_due; (repeat (first | rw [if_neg h1] | rw [if_neg h2] | rw [if_neg h3] | rw [if_neg h4] | rw [if_neg h5]))))
set_option maxRecDepth 100000 in
set_option maxHeartbeats 4000000 in
theorem c_X2_isPassedBy {l : Launch} (hl : l.stackTraces = false) {n : Nat} {ρ : Nat → Nat} {J : Nat → Int64} {M : Mem} {x : Int32} : CtO l yX2_isPassedBy cX2_isPassedBy 2 (some .boolean) 0 0 0 n ρ J M [.ref (ρ 0), .int x] (rI (o_pass M x) M) := by
  refine CtO.of hl (by decide +kernel) (Nat.le_of_ble_eq_true rfl) (fun Ξ hnL C => ?_)
  show E Ξ n ρ J M 0 0 0 [(0, .ref (ρ 0)), (1, .int x)] []
  refine e_aload_n (j := 0) C dX2_isPassedBy_0 rfl rfl ?_
  refine e_get2 (k := 12) (ref := "ScripHollow") C (by decide) rfl rfl mw_224 dX2_isPassedBy_1 ?_
  refine e_if_eq (tgt := 25) C dX2_isPassedBy_4 (by decide) (fun c_4 => ?_) (fun c_4 => ?_)
  · refine e_iconst (v := 0) C dX2_isPassedBy_25 (by decide) ?_
    exact e_zret C rfl rfl (Nat.le_of_ble_eq_true rfl) (Nat.le_of_ble_eq_true rfl) dX2_isPassedBy_26 (pO.mk (by first | contradiction | (subst_vars; unfold o_pass; (repeat (first | rw [if_pos c_4])); (try rfl))))
  · refine e_aload_n (j := 0) C dX2_isPassedBy_7 rfl rfl ?_
    refine e_get2 (k := 11) (ref := "ScripHollow") C (by decide) rfl rfl mw_37 dX2_isPassedBy_8 ?_
    refine e_iconst (v := 1) C dX2_isPassedBy_11 (by decide) ?_
    refine e_zaldN 1 C (cnt_fix (by decide)) (fun _ => rfl) rfl (by decide) (by decide) dX2_isPassedBy_12 ?_
    refine e_if_eq (tgt := 25) C dX2_isPassedBy_13 (by decide) (fun c_13 => ?_) (fun c_13 => ?_)
    · refine e_iconst (v := 0) C dX2_isPassedBy_25 (by decide) ?_
      exact e_zret C rfl rfl (Nat.le_of_ble_eq_true rfl) (Nat.le_of_ble_eq_true rfl) dX2_isPassedBy_26 (pO.mk (by first | contradiction | (subst_vars; unfold o_pass; (repeat (first | rw [if_neg c_4] | rw [if_pos c_13])); (try rfl))))
    · refine e_iload_n (j := 1) C dX2_isPassedBy_16 rfl rfl ?_
      refine e_iconst (v := 3) C dX2_isPassedBy_17 (by decide) ?_
      refine e_icmp_lt (tgt := 25) C dX2_isPassedBy_18 (by decide) (fun c_18 => ?_) (fun c_18 => ?_)
      · refine e_iconst (v := 0) C dX2_isPassedBy_25 (by decide) ?_
        exact e_zret C rfl rfl (Nat.le_of_ble_eq_true rfl) (Nat.le_of_ble_eq_true rfl) dX2_isPassedBy_26 (pO.mk (by first | contradiction | (subst_vars; unfold o_pass; (repeat (first | rw [if_neg c_4] | rw [if_neg c_13] | rw [if_pos c_18])); (try rfl))))
      · refine e_iconst (v := 1) C dX2_isPassedBy_21 (by decide) ?_
        refine e_goto (tgt := 26) C dX2_isPassedBy_22 (by decide) ?_
        exact e_zret C rfl rfl (Nat.le_of_ble_eq_true rfl) (Nat.le_of_ble_eq_true rfl) dX2_isPassedBy_26 (pO.mk (by first | contradiction | (subst_vars; unfold o_pass; (repeat (first | rw [if_neg c_4] | rw [if_neg c_13] | rw [if_neg c_18])); (try rfl))))
def hd1 (M : Mem) (k : Nat) (v : Int32) : Mem := up M (mO k) 9 v
def hd2 (M : Mem) (k p : Nat) (v : Int32) : Mem := up (gain (hd1 M k v) k p v) 7 0 (gain (hd1 M k v) k p v 7 0 + v)
def handM (M : Mem) (k p : Nat) (v : Int32) : Mem := if hd1 M k v 0 12 = 0 then breachM (hd2 M k p v) k 0 v else if hd1 M k v 6 0 = 0 then breachM (hd2 M k p v) k 0 v else up (hd1 M k v) (mO k) 5 (hd1 M k v (mO k) 5 + v)
theorem ne_0O {k : Nat} : (0 : Nat) ≠ mO k := by unfold mO; omega
set_option maxRecDepth 100000 in
set_option maxHeartbeats 4000000 in
theorem c_X2_hand {l : Launch} (hl : l.stackTraces = false) {n : Nat} {ρ : Nat → Nat} {J : Nat → Int64} {M : Mem} {k p : Nat} (hk : k < n) (hp : p < 40) (hpd : M 0 6 = nI p) {v : Int32} : CtO l yX2_hand cX2_hand 3 none 1 0 0 n ρ J M [.ref (ρ 0), .ref (ρ (mO k)), .int v] (rV (handM M k p v)) := by
  refine CtO.of hl (by decide +kernel) (Nat.le_of_ble_eq_true rfl) (fun Ξ hnL C => ?_)
  show E Ξ n ρ J M 0 0 0 [(0, .ref (ρ 0)), (1, .ref (ρ (mO k))), (2, .int v)] []
  refine e_aload_n (j := 1) C dX2_hand_0 rfl rfl ?_
  refine e_iload_n (j := 2) C dX2_hand_1 rfl rfl ?_
  refine e_put0 (k := 9) (kk0 := k) (ref := "ScripHollow$Miner") (ty := .int) C hk (by decide) rfl rfl (by decide +kernel) rfl rfl rfl mw_196 dX2_hand_2 ?_
  refine e_mem (M' := hd1 M k v) rfl ?_
  refine e_aload_n (j := 0) C dX2_hand_5 rfl rfl ?_
  refine e_get2 (k := 12) (ref := "ScripHollow") C (by decide) rfl rfl mw_224 dX2_hand_6 ?_
  refine e_if_eq (tgt := 32) C dX2_hand_9 (by decide) (fun c_9 => ?_) (fun c_9 => ?_)
  · refine e_aload_n (j := 1) C dX2_hand_32 rfl rfl ?_
    refine e_aload_n (j := 0) C dX2_hand_33 rfl rfl ?_
    refine e_get2 (k := 6) (ref := "ScripHollow") C (by decide) rfl rfl mw_195 dX2_hand_34 ?_
    refine e_iload_n (j := 2) C dX2_hand_37 rfl rfl ?_
    rw [show hd1 M k v 0 6 = nI p by unfold hd1; rw [up_ne ne_0O]; exact hpd]
    refine e_cV (i := (mO k)) (nA := 2) (Cn := RX0) C (c_X0_gainScrip hl hk (i := p) hp) rfl (cnt_O hk) (fun cA => cell_O cA n ρ J k _) rfl rfl mw_244 mw_241 mw_242 mw_243 mw_65 (by decide +kernel) (by decide) rfl rfl (Nat.le_of_ble_eq_true rfl) dX2_hand_38 (Nat.le_of_ble_eq_true rfl) (Nat.le_of_ble_eq_true rfl) ?_
    refine e_aload_n (j := 0) C dX2_hand_41 rfl rfl ?_
    refine e_get2 (k := 17) (ref := "ScripHollow") C (by decide) rfl rfl mw_38 dX2_hand_42 ?_
    refine e_iconst (v := 0) C dX2_hand_45 (by decide) ?_
    refine e_dup2 C dX2_hand_46 rfl rfl ?_
    refine e_ialdN 0 C (cnt_fix (by decide)) (fun _ => rfl) rfl (by decide) (by decide) dX2_hand_47 ?_
    refine e_iload_n (j := 2) C dX2_hand_48 rfl rfl ?_
    refine e_iadd C dX2_hand_49 ?_
    refine e_iastN 0 C (cnt_fix (by decide)) (fun _ _ => rfl) rfl (by decide) (by decide) dX2_hand_50 ?_
    refine e_mem (M' := hd2 M k p v) rfl ?_
    refine e_aload_n (j := 0) C dX2_hand_51 rfl rfl ?_
    refine e_aload_n (j := 1) C dX2_hand_52 rfl rfl ?_
    refine e_iconst (v := 0) C dX2_hand_53 (by decide) ?_
    refine e_iload_n (j := 2) C dX2_hand_54 rfl rfl ?_
    refine e_cV (i := 0) (nA := 3) (Cn := RX2) C (c_X2_breach hl hk (j := 0) (by omega)) rfl (cnt_fix (by decide)) (fun _ => rfl) rfl rfl mw_233 mw_230 mw_231 mw_232 mw_12 (by decide +kernel) (by decide) rfl rfl (Nat.le_of_ble_eq_true rfl) dX2_hand_55 (Nat.le_of_ble_eq_true rfl) (Nat.le_of_ble_eq_true rfl) ?_
    exact e_vret C rfl (Nat.le_of_ble_eq_true rfl) (Nat.le_of_ble_eq_true rfl) dX2_hand_58 (pO.mk (by unfold handM; (repeat (first | rw [if_pos c_9]))))
  · refine e_aload_n (j := 0) C dX2_hand_12 rfl rfl ?_
    refine e_get2 (k := 11) (ref := "ScripHollow") C (by decide) rfl rfl mw_37 dX2_hand_13 ?_
    refine e_iconst (v := 0) C dX2_hand_16 (by decide) ?_
    refine e_zaldN 0 C (cnt_fix (by decide)) (fun _ => rfl) rfl (by decide) (by decide) dX2_hand_17 ?_
    refine e_if_eq (tgt := 32) C dX2_hand_18 (by decide) (fun c_18 => ?_) (fun c_18 => ?_)
    · refine e_aload_n (j := 1) C dX2_hand_32 rfl rfl ?_
      refine e_aload_n (j := 0) C dX2_hand_33 rfl rfl ?_
      refine e_get2 (k := 6) (ref := "ScripHollow") C (by decide) rfl rfl mw_195 dX2_hand_34 ?_
      refine e_iload_n (j := 2) C dX2_hand_37 rfl rfl ?_
      rw [show hd1 M k v 0 6 = nI p by unfold hd1; rw [up_ne ne_0O]; exact hpd]
      refine e_cV (i := (mO k)) (nA := 2) (Cn := RX0) C (c_X0_gainScrip hl hk (i := p) hp) rfl (cnt_O hk) (fun cA => cell_O cA n ρ J k _) rfl rfl mw_244 mw_241 mw_242 mw_243 mw_65 (by decide +kernel) (by decide) rfl rfl (Nat.le_of_ble_eq_true rfl) dX2_hand_38 (Nat.le_of_ble_eq_true rfl) (Nat.le_of_ble_eq_true rfl) ?_
      refine e_aload_n (j := 0) C dX2_hand_41 rfl rfl ?_
      refine e_get2 (k := 17) (ref := "ScripHollow") C (by decide) rfl rfl mw_38 dX2_hand_42 ?_
      refine e_iconst (v := 0) C dX2_hand_45 (by decide) ?_
      refine e_dup2 C dX2_hand_46 rfl rfl ?_
      refine e_ialdN 0 C (cnt_fix (by decide)) (fun _ => rfl) rfl (by decide) (by decide) dX2_hand_47 ?_
      refine e_iload_n (j := 2) C dX2_hand_48 rfl rfl ?_
      refine e_iadd C dX2_hand_49 ?_
      refine e_iastN 0 C (cnt_fix (by decide)) (fun _ _ => rfl) rfl (by decide) (by decide) dX2_hand_50 ?_
      refine e_mem (M' := hd2 M k p v) rfl ?_
      refine e_aload_n (j := 0) C dX2_hand_51 rfl rfl ?_
      refine e_aload_n (j := 1) C dX2_hand_52 rfl rfl ?_
      refine e_iconst (v := 0) C dX2_hand_53 (by decide) ?_
      refine e_iload_n (j := 2) C dX2_hand_54 rfl rfl ?_
      refine e_cV (i := 0) (nA := 3) (Cn := RX2) C (c_X2_breach hl hk (j := 0) (by omega)) rfl (cnt_fix (by decide)) (fun _ => rfl) rfl rfl mw_233 mw_230 mw_231 mw_232 mw_12 (by decide +kernel) (by decide) rfl rfl (Nat.le_of_ble_eq_true rfl) dX2_hand_55 (Nat.le_of_ble_eq_true rfl) (Nat.le_of_ble_eq_true rfl) ?_
      exact e_vret C rfl (Nat.le_of_ble_eq_true rfl) (Nat.le_of_ble_eq_true rfl) dX2_hand_58 (pO.mk (by unfold handM; (repeat (first | rw [if_neg c_9] | rw [if_pos c_18]))))
    · refine e_aload_n (j := 1) C dX2_hand_21 rfl rfl ?_
      refine e_dup C dX2_hand_22 rfl ?_
      refine e_get0 (k := 5) (kk0 := k) (ref := "ScripHollow$Miner") C hk (by decide) rfl rfl mw_240 dX2_hand_23 ?_
      refine e_iload_n (j := 2) C dX2_hand_26 rfl rfl ?_
      refine e_iadd C dX2_hand_27 ?_
      refine e_put0 (k := 5) (kk0 := k) (ref := "ScripHollow$Miner") (ty := .int) C hk (by decide) rfl rfl (by decide +kernel) rfl rfl rfl mw_240 dX2_hand_28 ?_
      exact e_vret C rfl (Nat.le_of_ble_eq_true rfl) (Nat.le_of_ble_eq_true rfl) dX2_hand_31 (pO.mk (by unfold handM; (repeat (first | rw [if_neg c_9] | rw [if_neg c_18]))))
def sl0 (M : Mem) (v : Int32) : Mem := up (up (up (up M 3 0 v) 3 1 0) 3 2 0) 3 3 0
def set0 (M : Mem) (k : Nat) : Mem := up (sl0 M (M (mO k) 4 * M 2 0 / 10)) (mO k) 4 0
def kind (M : Mem) (pl : Int32) : Int32 := M 0 3 / pl - M 0 3 / pl / 10 * 10
def stepM (M : Mem) (k : Nat) (pl : Int32) : Mem := if o_pass M (kind M pl) = 0 then tk3 M (kind M pl) (o_due M k (kind M pl)) else M
def set5 (M : Mem) (k : Nat) : Mem := stepM (stepM (stepM (stepM (stepM (set0 M k) k 10000) k 1000) k 100) k 10) k 1
def set6 (N M : Mem) (k : Nat) : Mem := up N (mO k) 7 (o_due M k 1 - N 3 1)
def set7 (N : Mem) (k : Nat) : Mem := up N (mO k) 6 (N (mO k) 6 - N 3 2)
def set8 (N : Mem) (k : Nat) : Mem := breachM N k 1 (N 3 3)
def set9 (N : Mem) (k p : Nat) : Mem := handM N k p (N 3 0)
def setF (N : Mem) (k : Nat) : Mem := if N 2 1 ≤ 0 then N else if N (mO k) 7 ≤ 3 * N 2 1 then N else up N (mO k) 1 0
def setM (M : Mem) (k p : Nat) : Mem := setF (set9 (set8 (set7 (set6 (set5 M k) M k) k) k) k p) k
theorem tk3_ne {M : Mem} {c v : Int32} {i : Nat} (h : i ≠ 3) : tk3 M c v i = M i := by
  unfold tk3 tk2 tk1 tk0
  split <;> split <;> split <;> simp only [up_ne h]
theorem stepM_ne {M : Mem} {k : Nat} {pl : Int32} {i : Nat} (h : i ≠ 3) : stepM M k pl i = M i := by
  unfold stepM
  split
  · exact tk3_ne h
  · rfl
theorem breachM_0 {M : Mem} {k j : Nat} {v : Int32} {s : Nat} (h : s ≠ 13) : breachM M k j v 0 s = M 0 s := by
  unfold breachM
  split
  · split
    · rfl
    · split
      · rfl
      · rw [up_ne ne_0O, up_eq]
        unfold upd
        rw [if_neg h]
  · rfl
theorem set5_0 {M : Mem} {k : Nat} : set5 M k 0 = M 0 := by
  unfold set5
  rw [stepM_ne (by decide), stepM_ne (by decide), stepM_ne (by decide), stepM_ne (by decide), stepM_ne (by decide)]
  unfold set0 sl0
  rw [up_ne ne_0O, up_ne (by decide), up_ne (by decide), up_ne (by decide), up_ne (by decide)]
theorem set8_06 {N M : Mem} {k : Nat} : set8 (set7 (set6 N M k) k) k 0 6 = N 0 6 := by
  unfold set8
  rw [breachM_0 (by decide)]
  unfold set7 set6
  rw [up_ne ne_0O, up_ne ne_0O]
end
section
/-! Settling, expiring. -/
set_option maxRecDepth 100000 in
set_option maxHeartbeats 4000000 in
theorem c_X2_settle {l : Launch} (hl : l.stackTraces = false) {n : Nat} {ρ : Nat → Nat} {J : Nat → Int64} {M : Mem} {k p : Nat} (hk : k < n) (hp : p < 40) (hpd : M 0 6 = nI p) : CtO l yX2_settle cX2_settle 5 none 2 0 0 n ρ J M [.ref (ρ 0), .ref (ρ (mO k))] (rV (setM M k p)) := by
  refine CtO.of hl (by decide +kernel) (Nat.le_of_ble_eq_true rfl) (fun Ξ hnL C => ?_)
  show E Ξ n ρ J M 0 0 0 [(0, .ref (ρ 0)), (1, .ref (ρ (mO k)))] []
  have loop : ∀ (N : Mem) (rd pl : Int32), ¬ pl = 0 → ¬ pl ≤ 0 → E Ξ n ρ J (stepM N k pl) 0 0 37 [(3, .int (pl / 10)), (2, .int rd), (0, .ref (ρ 0)), (1, .ref (ρ (mO k)))] [] → E Ξ n ρ J N 0 0 37 [(3, .int pl), (2, .int rd), (0, .ref (ρ 0)), (1, .ref (ρ (mO k)))] [] := by
    intro N rd pl hp0 hp1 hE
    refine e_iload_n (j := 0) C dX2_settle_37 rfl rfl ?_
    refine e_if_le (tgt := 85) C dX2_settle_38 (by decide) (fun c_38 => absurd c_38 hp1) (fun c_38 => ?_)
    refine e_aload_n (j := 2) C dX2_settle_41 rfl rfl ?_
    refine e_get2 (k := 3) (ref := "ScripHollow") C (by decide) rfl rfl mw_26 dX2_settle_42 ?_
    refine e_iload_n (j := 0) C dX2_settle_45 rfl rfl ?_
    refine e_idiv C dX2_settle_46 hp0 ?_
    refine e_bipush (v := 10) C dX2_settle_47 (by decide) ?_
    refine e_irem C dX2_settle_49 (by decide) ?_
    refine e_topi (fun x4_50 ex4_50 => ?_)
    refine e_istore (ls2 := [(4, .int x4_50), (3, .int pl), (2, .int rd), (0, .ref (ρ 0)), (1, .ref (ρ (mO k)))]) C hnL dX2_settle_50 (by decide) rfl ?_
    refine e_aload_n (j := 3) C dX2_settle_52 rfl rfl ?_
    refine e_iload (j := 0) C dX2_settle_53 rfl ?_
    refine e_cV (i := 0) (nA := 1) (Cn := RX2) C (c_X2_isPassedBy hl) rfl (cnt_fix (by decide)) (fun _ => rfl) rfl rfl mw_223 mw_220 mw_221 mw_222 mw_12 (by decide +kernel) (by decide) rfl rfl (Nat.le_of_ble_eq_true rfl) dX2_settle_55 (Nat.le_of_ble_eq_true rfl) (Nat.le_of_ble_eq_true rfl) ?_
    refine e_if_ne (tgt := 77) C dX2_settle_58 (by decide) (fun c_58 => ?_) (fun c_58 => ?_)
    · refine e_iload_n (j := 1) C dX2_settle_77 rfl rfl ?_
      refine e_bipush (v := 10) C dX2_settle_78 (by decide) ?_
      refine e_idiv C dX2_settle_80 (by decide) ?_
      refine e_topi (fun x3_81 ex3_81 => ?_)
      refine e_istore_n (ls2 := [(3, .int x3_81), (4, .int x4_50), (2, .int rd), (0, .ref (ρ 0)), (1, .ref (ρ (mO k)))]) C hnL dX2_settle_81 rfl (by decide) rfl ?_
      refine e_goto (tgt := 37) C dX2_settle_82 (by decide) ?_
      subst ex3_81 ex4_50
      first
        | exact e_sub [0, 2, 3, 4] rfl (e_mem (show N = stepM N k pl by unfold stepM kind; rw [if_neg (by assumption)]) hE)
        | exact e_sub [0, 2, 3, 4] rfl (e_mem (show tk3 N (kind N pl) (o_due N k (kind N pl)) = stepM N k pl by unfold stepM kind; rw [if_pos (by assumption)]) hE)
    · refine e_aload_n (j := 3) C dX2_settle_61 rfl rfl ?_
      refine e_get2 (k := 5) (ref := "ScripHollow") C (by decide) rfl rfl mw_31 dX2_settle_62 ?_
      refine e_iload (j := 0) C dX2_settle_65 rfl ?_
      refine e_aload_n (j := 3) C dX2_settle_67 rfl rfl ?_
      refine e_aload_n (j := 4) C dX2_settle_68 rfl rfl ?_
      refine e_iload (j := 0) C dX2_settle_69 rfl ?_
      refine e_cV (i := 0) (nA := 2) (Cn := RX2) C (c_X2_due hl hk) rfl (cnt_fix (by decide)) (fun _ => rfl) rfl rfl mw_211 mw_208 mw_209 mw_210 mw_12 (by decide +kernel) (by decide) rfl rfl (Nat.le_of_ble_eq_true rfl) dX2_settle_71 (Nat.le_of_ble_eq_true rfl) (Nat.le_of_ble_eq_true rfl) ?_
      refine e_cV (i := 3) (nA := 2) (Cn := RX1) C (c_X1_take hl) rfl (cnt_fix (by decide)) (fun _ => rfl) rfl rfl mw_228 mw_225 mw_226 mw_227 mw_30 (by decide +kernel) (by decide) rfl rfl (Nat.le_of_ble_eq_true rfl) dX2_settle_74 (Nat.le_of_ble_eq_true rfl) (Nat.le_of_ble_eq_true rfl) ?_
      refine e_iload_n (j := 1) C dX2_settle_77 rfl rfl ?_
      refine e_bipush (v := 10) C dX2_settle_78 (by decide) ?_
      refine e_idiv C dX2_settle_80 (by decide) ?_
      refine e_topi (fun x3_81 ex3_81 => ?_)
      refine e_istore_n (ls2 := [(3, .int x3_81), (4, .int x4_50), (2, .int rd), (0, .ref (ρ 0)), (1, .ref (ρ (mO k)))]) C hnL dX2_settle_81 rfl (by decide) rfl ?_
      refine e_goto (tgt := 37) C dX2_settle_82 (by decide) ?_
      subst ex3_81 ex4_50
      first
        | exact e_sub [0, 2, 3, 4] rfl (e_mem (show N = stepM N k pl by unfold stepM kind; rw [if_neg (by assumption)]) hE)
        | exact e_sub [0, 2, 3, 4] rfl (e_mem (show tk3 N (kind N pl) (o_due N k (kind N pl)) = stepM N k pl by unfold stepM kind; rw [if_pos (by assumption)]) hE)
  have tail : E Ξ n ρ J (set5 M k) 0 0 37 [(3, .int 0), (2, .int (o_due M k 1)), (0, .ref (ρ 0)), (1, .ref (ρ (mO k)))] [] := by
    generalize hN5 : set5 M k = N5
    refine e_iload_n (j := 0) C dX2_settle_37 rfl rfl ?_
    refine e_if_le (tgt := 85) C dX2_settle_38 (by decide) (fun c_38 => ?_) (fun c_38 => absurd (show (0 : Int32) ≤ 0 by decide) c_38)
    refine e_aload_n (j := 3) C dX2_settle_85 rfl rfl ?_
    refine e_iload_n (j := 1) C dX2_settle_86 rfl rfl ?_
    refine e_aload_n (j := 2) C dX2_settle_87 rfl rfl ?_
    refine e_get2 (k := 5) (ref := "ScripHollow") C (by decide) rfl rfl mw_31 dX2_settle_88 ?_
    refine e_get1 (k := 1) (ref := "ScripHollow$Slip") C (by decide) rfl rfl mw_201 dX2_settle_91 ?_
    refine e_isub C dX2_settle_94 ?_
    refine e_put0 (k := 7) (kk0 := k) (ref := "ScripHollow$Miner") (ty := .int) C hk (by decide) rfl rfl (by decide +kernel) rfl rfl rfl mw_202 dX2_settle_95 ?_
    refine e_mem (M' := set6 N5 M k) rfl ?_
    generalize hN6 : set6 N5 M k = N6
    refine e_aload_n (j := 3) C dX2_settle_98 rfl rfl ?_
    refine e_dup C dX2_settle_99 rfl ?_
    refine e_get0 (k := 6) (kk0 := k) (ref := "ScripHollow$Miner") C hk (by decide) rfl rfl mw_203 dX2_settle_100 ?_
    refine e_aload_n (j := 2) C dX2_settle_103 rfl rfl ?_
    refine e_get2 (k := 5) (ref := "ScripHollow") C (by decide) rfl rfl mw_31 dX2_settle_104 ?_
    refine e_get1 (k := 2) (ref := "ScripHollow$Slip") C (by decide) rfl rfl mw_204 dX2_settle_107 ?_
    refine e_isub C dX2_settle_110 ?_
    refine e_put0 (k := 6) (kk0 := k) (ref := "ScripHollow$Miner") (ty := .int) C hk (by decide) rfl rfl (by decide +kernel) rfl rfl rfl mw_203 dX2_settle_111 ?_
    refine e_mem (M' := set7 N6 k) rfl ?_
    generalize hN7 : set7 N6 k = N7
    refine e_aload_n (j := 2) C dX2_settle_114 rfl rfl ?_
    refine e_aload_n (j := 3) C dX2_settle_115 rfl rfl ?_
    refine e_iconst (v := 1) C dX2_settle_116 (by decide) ?_
    refine e_aload_n (j := 2) C dX2_settle_117 rfl rfl ?_
    refine e_get2 (k := 5) (ref := "ScripHollow") C (by decide) rfl rfl mw_31 dX2_settle_118 ?_
    refine e_get1 (k := 3) (ref := "ScripHollow$Slip") C (by decide) rfl rfl mw_205 dX2_settle_121 ?_
    refine e_cV (i := 0) (nA := 3) (Cn := RX2) C (c_X2_breach hl hk (j := 1) (by omega)) rfl (cnt_fix (by decide)) (fun _ => rfl) rfl rfl mw_233 mw_230 mw_231 mw_232 mw_12 (by decide +kernel) (by decide) rfl rfl (Nat.le_of_ble_eq_true rfl) dX2_settle_124 (Nat.le_of_ble_eq_true rfl) (Nat.le_of_ble_eq_true rfl) ?_
    refine e_mem (M' := set8 N7 k) rfl ?_
    generalize hN8 : set8 N7 k = N8
    have h86 : N8 0 6 = nI p := by rw [← hN8, ← hN7, ← hN6, set8_06, ← hN5, set5_0]; exact hpd
    refine e_aload_n (j := 2) C dX2_settle_127 rfl rfl ?_
    refine e_aload_n (j := 3) C dX2_settle_128 rfl rfl ?_
    refine e_aload_n (j := 2) C dX2_settle_129 rfl rfl ?_
    refine e_get2 (k := 5) (ref := "ScripHollow") C (by decide) rfl rfl mw_31 dX2_settle_130 ?_
    refine e_get1 (k := 0) (ref := "ScripHollow$Slip") C (by decide) rfl rfl mw_206 dX2_settle_133 ?_
    refine e_cV (i := 0) (nA := 2) (Cn := RX2) C (c_X2_hand hl hk hp h86) rfl (cnt_fix (by decide)) (fun _ => rfl) rfl rfl mw_239 mw_236 mw_237 mw_238 mw_12 (by decide +kernel) (by decide) rfl rfl (Nat.le_of_ble_eq_true rfl) dX2_settle_136 (Nat.le_of_ble_eq_true rfl) (Nat.le_of_ble_eq_true rfl) ?_
    refine e_mem (M' := set9 N8 k p) rfl ?_
    generalize hN9 : set9 N8 k p = N9
    have hM9 : setM M k p = setF N9 k := by unfold setM; rw [hN5, hN6, hN7, hN8, hN9]
    refine e_aload_n (j := 2) C dX2_settle_139 rfl rfl ?_
    refine e_get2 (k := 4) (ref := "ScripHollow") C (by decide) rfl rfl mw_27 dX2_settle_140 ?_
    refine e_iconst (v := 1) C dX2_settle_143 (by decide) ?_
    refine e_ialdN 1 C (cnt_fix (by decide)) (fun _ => rfl) rfl (by decide) (by decide) dX2_settle_144 ?_
    refine e_if_le (tgt := 168) C dX2_settle_145 (by decide) (fun c_145 => ?_) (fun c_145 => ?_)
    · exact e_vret C rfl (Nat.le_of_ble_eq_true rfl) (Nat.le_of_ble_eq_true rfl) dX2_settle_168 (pO.mk (by rw [hM9]; unfold setF; (repeat (first | rw [if_pos c_38] | rw [if_pos c_145]))))
    · refine e_aload_n (j := 3) C dX2_settle_148 rfl rfl ?_
      refine e_get0 (k := 7) (kk0 := k) (ref := "ScripHollow$Miner") C hk (by decide) rfl rfl mw_202 dX2_settle_149 ?_
      refine e_iconst (v := 3) C dX2_settle_152 (by decide) ?_
      refine e_aload_n (j := 2) C dX2_settle_153 rfl rfl ?_
      refine e_get2 (k := 4) (ref := "ScripHollow") C (by decide) rfl rfl mw_27 dX2_settle_154 ?_
      refine e_iconst (v := 1) C dX2_settle_157 (by decide) ?_
      refine e_ialdN 1 C (cnt_fix (by decide)) (fun _ => rfl) rfl (by decide) (by decide) dX2_settle_158 ?_
      refine e_imul C dX2_settle_159 ?_
      refine e_icmp_le (tgt := 168) C dX2_settle_160 (by decide) (fun c_160 => ?_) (fun c_160 => ?_)
      · exact e_vret C rfl (Nat.le_of_ble_eq_true rfl) (Nat.le_of_ble_eq_true rfl) dX2_settle_168 (pO.mk (by rw [hM9]; unfold setF; (repeat (first | rw [if_pos c_38] | rw [if_neg c_145] | rw [if_pos c_160]))))
      · refine e_aload_n (j := 3) C dX2_settle_163 rfl rfl ?_
        refine e_iconst (v := 0) C dX2_settle_164 (by decide) ?_
        refine e_put0 (k := 1) (kk0 := k) (ref := "ScripHollow$Miner") (ty := .boolean) C hk (by decide) rfl rfl (by decide +kernel) rfl rfl rfl mw_207 dX2_settle_165 ?_
        exact e_vret C rfl (Nat.le_of_ble_eq_true rfl) (Nat.le_of_ble_eq_true rfl) dX2_settle_168 (pO.mk (by rw [hM9]; unfold setF; (repeat (first | rw [if_pos c_38] | rw [if_neg c_145] | rw [if_neg c_160]))))
  refine e_aload_n (j := 0) C dX2_settle_0 rfl rfl ?_
  refine e_aload_n (j := 1) C dX2_settle_1 rfl rfl ?_
  refine e_iconst (v := 1) C dX2_settle_2 (by decide) ?_
  refine e_cV (i := 0) (nA := 2) (Cn := RX2) C (c_X2_due hl hk) rfl (cnt_fix (by decide)) (fun _ => rfl) rfl rfl mw_211 mw_208 mw_209 mw_210 mw_12 (by decide +kernel) (by decide) rfl rfl (Nat.le_of_ble_eq_true rfl) dX2_settle_3 (Nat.le_of_ble_eq_true rfl) (Nat.le_of_ble_eq_true rfl) ?_
  refine e_topi (fun x2_6 ex2_6 => ?_)
  refine e_istore_n (ls2 := [(2, .int x2_6), (0, .ref (ρ 0)), (1, .ref (ρ (mO k)))]) C hnL dX2_settle_6 rfl (by decide) rfl ?_
  refine e_aload_n (j := 1) C dX2_settle_7 rfl rfl ?_
  refine e_get2 (k := 5) (ref := "ScripHollow") C (by decide) rfl rfl mw_31 dX2_settle_8 ?_
  refine e_aload_n (j := 2) C dX2_settle_11 rfl rfl ?_
  refine e_get0 (k := 4) (kk0 := k) (ref := "ScripHollow$Miner") C hk (by decide) rfl rfl mw_145 dX2_settle_12 ?_
  refine e_aload_n (j := 1) C dX2_settle_15 rfl rfl ?_
  refine e_get2 (k := 4) (ref := "ScripHollow") C (by decide) rfl rfl mw_27 dX2_settle_16 ?_
  refine e_iconst (v := 0) C dX2_settle_19 (by decide) ?_
  refine e_ialdN 0 C (cnt_fix (by decide)) (fun _ => rfl) rfl (by decide) (by decide) dX2_settle_20 ?_
  refine e_imul C dX2_settle_21 ?_
  refine e_bipush (v := 10) C dX2_settle_22 (by decide) ?_
  refine e_idiv C dX2_settle_24 (by decide) ?_
  refine e_cV (i := 3) (nA := 1) (Cn := RX1) C (c_X1_open hl) rfl (cnt_fix (by decide)) (fun _ => rfl) rfl rfl mw_215 mw_212 mw_213 mw_214 mw_30 (by decide +kernel) (by decide) rfl rfl (Nat.le_of_ble_eq_true rfl) dX2_settle_25 (Nat.le_of_ble_eq_true rfl) (Nat.le_of_ble_eq_true rfl) ?_
  refine e_aload_n (j := 2) C dX2_settle_28 rfl rfl ?_
  refine e_iconst (v := 0) C dX2_settle_29 (by decide) ?_
  refine e_put0 (k := 4) (kk0 := k) (ref := "ScripHollow$Miner") (ty := .int) C hk (by decide) rfl rfl (by decide +kernel) rfl rfl rfl mw_145 dX2_settle_30 ?_
  refine e_mem (M' := set0 M k) rfl ?_
  refine e_sipush (v := 10000) C dX2_settle_33 (by decide) ?_
  refine e_istore_n (ls2 := [(3, .int 10000), (2, .int x2_6), (0, .ref (ρ 0)), (1, .ref (ρ (mO k)))]) C hnL dX2_settle_36 rfl (by decide) rfl ?_
  subst ex2_6
  refine e_sub [0, 1, 2, 3] rfl (loop _ _ _ (by decide) (by decide) ?_)
  rw [show (10000 : Int32) / 10 = 1000 by decide +kernel]
  refine loop _ _ _ (by decide) (by decide) ?_
  rw [show (1000 : Int32) / 10 = 100 by decide +kernel]
  refine loop _ _ _ (by decide) (by decide) ?_
  rw [show (100 : Int32) / 10 = 10 by decide +kernel]
  refine loop _ _ _ (by decide) (by decide) ?_
  rw [show (10 : Int32) / 10 = 1 by decide +kernel]
  refine loop _ _ _ (by decide) (by decide) ?_
  rw [show (1 : Int32) / 10 = 0 by decide +kernel]
  exact tail
def exM (M : Mem) (i : Nat) : Nat → Mem
  | 0 => M
  | j + 1 => up (lose (exM M i j) j i (exM M i j (mS j) i)) 7 3 (exM M i j 7 3 + mn (exM M i j (mS j) i) (exM M i j (mS j) i))
set_option maxRecDepth 100000 in
set_option maxHeartbeats 4000000 in
theorem c_X2_expire {l : Launch} (hl : l.stackTraces = false) {n : Nat} {ρ : Nat → Nat} {J : Nat → Int64} {M : Mem} (hn : n ≤ 10) {i : Nat} (hi : i < 40) : CtO l yX2_expire cX2_expire 4 none 3 0 0 n ρ J M [.ref (ρ 0), .int (nI i)] (rV (exM M i n)) := by
  refine CtO.of hl (by decide +kernel) (Nat.le_of_ble_eq_true rfl) (fun Ξ hnL C => ?_)
  show E Ξ n ρ J M 0 0 0 [(0, .ref (ρ 0)), (1, .int (nI i))] []
  have loop : ∀ (f j : Nat), j + f = n → E Ξ n ρ J (exM M i j) 0 0 2 [(2, .int (nI j)), (0, .ref (ρ 0)), (1, .int (nI i))] [] := by
    intro f
    induction f with
    | zero =>
      intro j hjf
      have hjn : j = n := by omega
      refine e_iload_n (j := 0) C dX2_expire_2 rfl rfl ?_
      refine e_aload_n (j := 1) C dX2_expire_3 rfl rfl ?_
      refine e_get2 (k := 0) (ref := "ScripHollow") C (by decide) rfl rfl mw_24 dX2_expire_4 ?_
      refine e_cV (i := 1) (nA := 0) (Cn := RJx4a65c) C (c_JL_size hl) rfl (cnt_fix (by decide)) (fun _ => rfl) rfl rfl mw_69 mw_66 mw_67 mw_68 mw_23 (by decide +kernel) (by decide) rfl rfl (Nat.le_of_ble_eq_true rfl) dX2_expire_7 (Nat.le_of_ble_eq_true rfl) (Nat.le_of_ble_eq_true rfl) ?_
      refine e_icmp_ge (tgt := 51) C dX2_expire_10 (by decide) (fun c_10 => ?_) (fun c_10 => absurd (nI_le (by omega) (by omega)) c_10)
      exact e_vret C rfl (Nat.le_of_ble_eq_true rfl) (Nat.le_of_ble_eq_true rfl) dX2_expire_51 (pO.mk (by rw [hjn]))
    | succ f ih =>
      intro j hjf
      have hj : j < n := by omega
      refine e_iload_n (j := 0) C dX2_expire_2 rfl rfl ?_
      refine e_aload_n (j := 1) C dX2_expire_3 rfl rfl ?_
      refine e_get2 (k := 0) (ref := "ScripHollow") C (by decide) rfl rfl mw_24 dX2_expire_4 ?_
      refine e_cV (i := 1) (nA := 0) (Cn := RJx4a65c) C (c_JL_size hl) rfl (cnt_fix (by decide)) (fun _ => rfl) rfl rfl mw_69 mw_66 mw_67 mw_68 mw_23 (by decide +kernel) (by decide) rfl rfl (Nat.le_of_ble_eq_true rfl) dX2_expire_7 (Nat.le_of_ble_eq_true rfl) (Nat.le_of_ble_eq_true rfl) ?_
      refine e_icmp_ge (tgt := 51) C dX2_expire_10 (by decide) (fun c_10 => absurd c_10 (nI_ge hj (by omega))) (fun c_10 => ?_)
      refine e_aload_n (j := 1) C dX2_expire_13 rfl rfl ?_
      refine e_get2 (k := 0) (ref := "ScripHollow") C (by decide) rfl rfl mw_24 dX2_expire_14 ?_
      refine e_iload_n (j := 0) C dX2_expire_17 rfl rfl ?_
      refine e_cV (i := 1) (nA := 1) (Cn := RJx4a65c) C (c_JL_get hl hj hn) rfl (cnt_fix (by decide)) (fun _ => rfl) rfl rfl mw_160 mw_157 mw_158 mw_159 mw_23 (by decide +kernel) (by decide) rfl rfl (Nat.le_of_ble_eq_true rfl) dX2_expire_18 (Nat.le_of_ble_eq_true rfl) (Nat.le_of_ble_eq_true rfl) ?_
      refine e_castM C hj mw_63 dX2_expire_21 ?_
      refine e_astore_n (ls2 := [(3, .ref (ρ (mO j))), (2, .int (nI j)), (0, .ref (ρ 0)), (1, .int (nI i))]) C hnL dX2_expire_24 rfl (by decide) rfl ?_
      refine e_aload_n (j := 2) C dX2_expire_25 rfl rfl ?_
      refine e_get2 (k := 17) (ref := "ScripHollow") C (by decide) rfl rfl mw_38 dX2_expire_26 ?_
      refine e_iconst (v := 3) C dX2_expire_29 (by decide) ?_
      refine e_dup2 C dX2_expire_30 rfl rfl ?_
      refine e_ialdN 3 C (cnt_fix (by decide)) (fun _ => rfl) rfl (by decide) (by decide) dX2_expire_31 ?_
      refine e_aload_n (j := 0) C dX2_expire_32 rfl rfl ?_
      refine e_iload_n (j := 3) C dX2_expire_33 rfl rfl ?_
      refine e_aload_n (j := 0) C dX2_expire_34 rfl rfl ?_
      refine e_get0 (k := 11) (kk0 := j) (ref := "ScripHollow$Miner") C hj (by decide) rfl rfl mw_250 dX2_expire_35 ?_
      refine e_iload_n (j := 3) C dX2_expire_38 rfl rfl ?_
      refine e_ialdN i C (cnt_S hj) (fun cA => cell_S cA n ρ J j _) rfl (by omega) (by decide) dX2_expire_39 ?_
      refine e_cV (i := (mO j)) (nA := 2) (Cn := RX0) C (c_X0_loseScrip hl hj hi) rfl (cnt_O hj) (fun cA => cell_O cA n ρ J j _) rfl rfl mw_254 mw_251 mw_252 mw_253 mw_65 (by decide +kernel) (by decide) rfl rfl (Nat.le_of_ble_eq_true rfl) dX2_expire_40 (Nat.le_of_ble_eq_true rfl) (Nat.le_of_ble_eq_true rfl) ?_
      refine e_iadd C dX2_expire_43 ?_
      refine e_iastN 3 C (cnt_fix (by decide)) (fun _ _ => rfl) rfl (by decide) (by decide) dX2_expire_44 ?_
      obtain ⟨x2_45, ex2_45⟩ : ∃ z : Int32, z = (nI j) + 1 := ⟨_, rfl⟩
      refine e_iinc (j := 1) (v := x2_45) (ls2 := [(2, .int x2_45), (3, .ref (ρ (mO j))), (0, .ref (ρ 0)), (1, .int (nI i))]) C hnL dX2_expire_45 rfl (by rw [ex2_45]; rfl) (by decide) rfl ?_
      refine e_goto (tgt := 2) C dX2_expire_48 (by decide) ?_
      subst ex2_45
      rw [nI_1]
      exact e_sub [0, 2, 3] rfl (ih (j + 1) (by omega))
  refine e_iconst (v := 0) C dX2_expire_0 (by decide) ?_
  refine e_istore_n (ls2 := [(2, .int 0), (0, .ref (ρ 0)), (1, .int (nI i))]) C hnL dX2_expire_1 rfl (by decide) rfl ?_
  exact e_sub [0, 1, 2] rfl (loop n 0 (by omega))
end
section
/-! Paydays, soup, closing, heirs, death: the loops over the miners. -/
theorem e_cnt {Ξ : CT} {n : Nat} {ρ : Nat → Nat} {J : Nat → Int64} {M : Mem} {a a' b b' pc : Nat} {ls : List (Nat × Value)} {st : List Value} (h1 : a = a') (h2 : b = b') (kk : E Ξ n ρ J M a' b' pc ls st) : E Ξ n ρ J M a b pc ls st := by subst h1; subst h2; exact kk
theorem gt4 : ∀ p : Nat, p < 41 → ∀ j : Nat, j < 41 → p < j + 4 → nI p - 4 < nI j := by decide +kernel
theorem le4 : ∀ p : Nat, p < 41 → ∀ j : Nat, j < 41 → j + 4 ≤ p → ¬ nI p - 4 < nI j := by decide +kernel
def payS (M : Mem) (p : Nat) : Nat → Mem × Int32
  | 0 => (M, 0)
  | j + 1 => if (payS M p j).1 (mO j) 0 = 0 then payS M p j else (setM (payS M p j).1 j p, (payS M p j).2 + setM (payS M p j).1 j p (mO j) 9)
theorem payS_s (M : Mem) (p j : Nat) : payS M p (j + 1) = if (payS M p j).1 (mO j) 0 = 0 then payS M p j else (setM (payS M p j).1 j p, (payS M p j).2 + setM (payS M p j).1 j p (mO j) 9) := rfl
def expS (M : Mem) (n : Nat) : Nat → Mem
  | 0 => M
  | i + 1 => exM (expS M n i) i n
def payE (M : Mem) (n p : Nat) : Mem := expS (payS M p n).1 n (p - 3)
def payF (M : Mem) (n p : Nat) : Mem := up (payE M n p) 0 6 (payE M n p 0 6 + 1)
def o_payday (M : Mem) (n p : Nat) : Out := if 40 ≤ M 0 6 then rX IS M else if M 0 15 = 0 then rI (payS M p n).2 (payF M n p) else rX IS M
theorem gain_0 {M : Mem} {k i : Nat} {v : Int32} : gain M k i v 0 = M 0 := by unfold gain; rw [up_ne ne_0O, up_ne (show (0 : Nat) ≠ mS k by unfold mS; omega)]
theorem lose_0 {M : Mem} {k i : Nat} {v : Int32} : lose M k i v 0 = M 0 := by unfold lose; rw [up_ne ne_0O, up_ne (show (0 : Nat) ≠ mS k by unfold mS; omega)]
theorem handM_06 {M : Mem} {k p : Nat} {v : Int32} : handM M k p v 0 6 = M 0 6 := by
  unfold handM
  have h1 : hd1 M k v 0 = M 0 := by unfold hd1; rw [up_ne ne_0O]
  have h2 : hd2 M k p v 0 = M 0 := by unfold hd2; rw [up_ne (by decide), gain_0, h1]
  split
  · rw [breachM_0 (by decide), h2]
  · split
    · rw [breachM_0 (by decide), h2]
    · rw [up_ne ne_0O, h1]
theorem setM_06 {M : Mem} {k p : Nat} : setM M k p 0 6 = M 0 6 := by
  have h : set9 (set8 (set7 (set6 (set5 M k) M k) k) k) k p 0 6 = M 0 6 := by unfold set9; rw [handM_06, set8_06, set5_0]
  unfold setM setF
  split
  · exact h
  · split
    · exact h
    · rw [up_ne ne_0O]; exact h
theorem payS_06 {M : Mem} {p : Nat} : ∀ j : Nat, (payS M p j).1 0 6 = M 0 6
  | 0 => rfl
  | j + 1 => by
    rw [payS_s]
    split
    · exact payS_06 j
    · exact setM_06.trans (payS_06 j)
theorem exM_06 {M : Mem} {i : Nat} : ∀ j : Nat, exM M i j 0 6 = M 0 6
  | 0 => rfl
  | j + 1 => by
    unfold exM
    rw [up_ne (by decide), lose_0]
    exact exM_06 j
theorem expS_06 {M : Mem} {n : Nat} : ∀ i : Nat, expS M n i 0 6 = M 0 6
  | 0 => rfl
  | i + 1 => by
    unfold expS
    rw [exM_06]
    exact expS_06 i
set_option maxRecDepth 100000 in
set_option maxHeartbeats 4000000 in
theorem c_X2_payday {l : Launch} (hl : l.stackTraces = false) {n : Nat} {ρ : Nat → Nat} {J : Nat → Int64} {M : Mem} (hn : n ≤ 10) {p : Nat} (hp : p ≤ 40) (hpd : M 0 6 = nI p) : CtO l yX2_payday cX2_payday 4 (some .int) 6 1 6 n ρ J M [.ref (ρ 0)] (o_payday M n p) := by
  refine CtO.of hl (by decide +kernel) (Nat.le_of_ble_eq_true rfl) (fun Ξ hnL C => ?_)
  show E Ξ n ρ J M 0 0 0 [(0, .ref (ρ 0))] []
  by_cases hz4 : 40 ≤ M 0 6
  · refine e_aload_n (j := 0) C dX2_payday_0 rfl rfl ?_
    refine e_get2 (k := 6) (ref := "ScripHollow") C (by decide) rfl rfl mw_195 dX2_payday_1 ?_
    refine e_bipush (v := 40) C dX2_payday_4 (by decide) ?_
    refine e_icmp_ge (tgt := 16) C dX2_payday_6 (by decide) (fun c_6 => ?_) (fun c_6 => absurd hz4 c_6)
    exact e_throw (text := "no payday can be held") C th_IS mw_61 mw_62 (by decide) rfl rfl dX2_payday_16 dX2_payday_19 dX2_payday_20 dX2_payday_22 dX2_payday_25 (by decide) (Nat.le_of_ble_eq_true rfl) (Nat.le_of_ble_eq_true rfl) (Nat.le_of_ble_eq_true rfl) (Nat.le_of_ble_eq_true rfl) (Nat.le_of_ble_eq_true rfl) (xO.mk (by unfold o_payday; rw [if_pos hz4]))
  · by_cases hz5 : M 0 15 = 0
    · have hp4 : p < 40 := by
        rcases Nat.lt_or_ge p 40 with z1 | z1
        · exact z1
        · exact absurd (show (40 : Int32) ≤ M 0 6 by rw [hpd]; exact nI_le (a := 40) z1 (by omega)) hz4
      have loop2 : ∀ (f j : Nat), j + f = p - 3 → E Ξ n ρ J (expS (payS M p n).1 n j) 0 0 80 [(2, .int (nI j)), (1, .int (payS M p n).2), (0, .ref (ρ 0))] [] := by
        intro f
        induction f with
        | zero =>
          intro j hjf
          have hjn : j = p - 3 := by omega
          have h6 : expS (payS M p n).1 n j 0 6 = nI p := (expS_06 j).trans ((payS_06 n).trans hpd)
          generalize hNE : expS (payS M p n).1 n j = NE at h6 ⊢
          refine e_iload_n (j := 0) C dX2_payday_80 rfl rfl ?_
          refine e_aload_n (j := 2) C dX2_payday_81 rfl rfl ?_
          refine e_get2 (k := 6) (ref := "ScripHollow") C (by decide) rfl rfl mw_195 dX2_payday_82 ?_
          refine e_iconst (v := 4) C dX2_payday_85 (by decide) ?_
          refine e_isub C dX2_payday_86 ?_
          refine e_icmp_gt (tgt := 101) C dX2_payday_87 (by decide) (fun c_87 => ?_) (fun c_87 => absurd (by rw [h6]; exact gt4 p (by omega) j (by omega) (by omega)) c_87)
          refine e_aload_n (j := 2) C dX2_payday_101 rfl rfl ?_
          refine e_dup C dX2_payday_102 rfl ?_
          refine e_get2 (k := 6) (ref := "ScripHollow") C (by decide) rfl rfl mw_195 dX2_payday_103 ?_
          refine e_iconst (v := 1) C dX2_payday_106 (by decide) ?_
          refine e_iadd C dX2_payday_107 ?_
          refine e_put2 (k := 6) (ref := "ScripHollow") (ty := .int) C (by decide) rfl rfl (by decide +kernel) rfl rfl rfl mw_195 dX2_payday_108 ?_
          refine e_iload_n (j := 1) C dX2_payday_111 rfl rfl ?_
          exact e_iret C rfl (Nat.le_of_ble_eq_true rfl) (Nat.le_of_ble_eq_true rfl) dX2_payday_112 (pO.mk (by unfold o_payday payF payE; rw [if_neg hz4, if_pos hz5, ← hjn, hNE]))
        | succ f ih =>
          intro j hjf
          have h6 : expS (payS M p n).1 n j 0 6 = nI p := (expS_06 j).trans ((payS_06 n).trans hpd)
          refine e_iload_n (j := 0) C dX2_payday_80 rfl rfl ?_
          refine e_aload_n (j := 2) C dX2_payday_81 rfl rfl ?_
          refine e_get2 (k := 6) (ref := "ScripHollow") C (by decide) rfl rfl mw_195 dX2_payday_82 ?_
          refine e_iconst (v := 4) C dX2_payday_85 (by decide) ?_
          refine e_isub C dX2_payday_86 ?_
          refine e_icmp_gt (tgt := 101) C dX2_payday_87 (by decide) (fun c_87 => absurd c_87 (by rw [h6]; exact le4 p (by omega) j (by omega) (by omega))) (fun c_87 => ?_)
          refine e_aload_n (j := 2) C dX2_payday_90 rfl rfl ?_
          refine e_iload_n (j := 0) C dX2_payday_91 rfl rfl ?_
          refine e_cV (i := 0) (nA := 1) (Cn := RX2) C (c_X2_expire hl hn (i := j) (by omega)) rfl (cnt_fix (by decide)) (fun _ => rfl) rfl rfl mw_249 mw_246 mw_247 mw_248 mw_12 (by decide +kernel) (by decide) rfl rfl (Nat.le_of_ble_eq_true rfl) dX2_payday_92 (Nat.le_of_ble_eq_true rfl) (Nat.le_of_ble_eq_true rfl) ?_
          obtain ⟨x2_95, ex2_95⟩ : ∃ z : Int32, z = (nI j) + 1 := ⟨_, rfl⟩
          refine e_iinc (j := 0) (v := x2_95) (ls2 := [(2, .int x2_95), (1, .int (payS M p n).2), (0, .ref (ρ 0))]) C hnL dX2_payday_95 rfl (by rw [ex2_95]; rfl) (by decide) rfl ?_
          refine e_goto (tgt := 80) C dX2_payday_98 (by decide) ?_
          subst ex2_95
          rw [nI_1]
          exact e_sub [0, 1, 2] rfl (ih (j + 1) (by omega))
      have loop : ∀ (f j : Nat), j + f = n → E Ξ n ρ J (payS M p j).1 0 0 30 [(2, .int (nI j)), (1, .int (payS M p j).2), (0, .ref (ρ 0))] [] := by
        intro f
        induction f with
        | zero =>
          intro j hjf
          have hjn : j = n := by omega
          refine e_iload_n (j := 0) C dX2_payday_30 rfl rfl ?_
          refine e_aload_n (j := 2) C dX2_payday_31 rfl rfl ?_
          refine e_get2 (k := 0) (ref := "ScripHollow") C (by decide) rfl rfl mw_24 dX2_payday_32 ?_
          refine e_cV (i := 1) (nA := 0) (Cn := RJx4a65c) C (c_JL_size hl) rfl (cnt_fix (by decide)) (fun _ => rfl) rfl rfl mw_69 mw_66 mw_67 mw_68 mw_23 (by decide +kernel) (by decide) rfl rfl (Nat.le_of_ble_eq_true rfl) dX2_payday_35 (Nat.le_of_ble_eq_true rfl) (Nat.le_of_ble_eq_true rfl) ?_
          refine e_icmp_ge (tgt := 78) C dX2_payday_38 (by decide) (fun c_38 => ?_) (fun c_38 => absurd (nI_le (by omega) (by omega)) c_38)
          refine e_iconst (v := 0) C dX2_payday_78 (by decide) ?_
          refine e_istore_n (ls2 := [(2, .int 0), (1, .int (payS M p j).2), (0, .ref (ρ 0))]) C hnL dX2_payday_79 rfl (by decide) rfl ?_
          rw [hjn]
          exact e_sub [0, 1, 2] rfl (loop2 (p - 3) 0 (by omega))
        | succ f ih =>
          intro j hjf
          have hj : j < n := by omega
          have ih2 := ih (j + 1) (by omega)
          rw [payS_s] at ih2
          by_cases hz6 : (payS M p j).1 (mO j) 0 = 0
          · rw [if_pos hz6] at ih2
            refine e_iload_n (j := 0) C dX2_payday_30 rfl rfl ?_
            refine e_aload_n (j := 2) C dX2_payday_31 rfl rfl ?_
            refine e_get2 (k := 0) (ref := "ScripHollow") C (by decide) rfl rfl mw_24 dX2_payday_32 ?_
            refine e_cV (i := 1) (nA := 0) (Cn := RJx4a65c) C (c_JL_size hl) rfl (cnt_fix (by decide)) (fun _ => rfl) rfl rfl mw_69 mw_66 mw_67 mw_68 mw_23 (by decide +kernel) (by decide) rfl rfl (Nat.le_of_ble_eq_true rfl) dX2_payday_35 (Nat.le_of_ble_eq_true rfl) (Nat.le_of_ble_eq_true rfl) ?_
            refine e_icmp_ge (tgt := 78) C dX2_payday_38 (by decide) (fun c_38 => absurd c_38 (nI_ge hj (by omega))) (fun c_38 => ?_)
            refine e_aload_n (j := 2) C dX2_payday_41 rfl rfl ?_
            refine e_get2 (k := 0) (ref := "ScripHollow") C (by decide) rfl rfl mw_24 dX2_payday_42 ?_
            refine e_iload_n (j := 0) C dX2_payday_45 rfl rfl ?_
            refine e_cV (i := 1) (nA := 1) (Cn := RJx4a65c) C (c_JL_get hl hj hn) rfl (cnt_fix (by decide)) (fun _ => rfl) rfl rfl mw_160 mw_157 mw_158 mw_159 mw_23 (by decide +kernel) (by decide) rfl rfl (Nat.le_of_ble_eq_true rfl) dX2_payday_46 (Nat.le_of_ble_eq_true rfl) (Nat.le_of_ble_eq_true rfl) ?_
            refine e_castM C hj mw_63 dX2_payday_49 ?_
            refine e_astore_n (ls2 := [(3, .ref (ρ (mO j))), (2, .int (nI j)), (1, .int (payS M p j).2), (0, .ref (ρ 0))]) C hnL dX2_payday_52 rfl (by decide) rfl ?_
            refine e_aload_n (j := 0) C dX2_payday_53 rfl rfl ?_
            refine e_get0 (k := 0) (kk0 := j) (ref := "ScripHollow$Miner") C hj (by decide) rfl rfl mw_181 dX2_payday_54 ?_
            refine e_if_eq (tgt := 72) C dX2_payday_57 (by decide) (fun c_57 => ?_) (fun c_57 => absurd hz6 c_57)
            obtain ⟨x2_72, ex2_72⟩ : ∃ z : Int32, z = (nI j) + 1 := ⟨_, rfl⟩
            refine e_iinc (j := 1) (v := x2_72) (ls2 := [(2, .int x2_72), (3, .ref (ρ (mO j))), (1, .int (payS M p j).2), (0, .ref (ρ 0))]) C hnL dX2_payday_72 rfl (by rw [ex2_72]; rfl) (by decide) rfl ?_
            refine e_goto (tgt := 30) C dX2_payday_75 (by decide) ?_
            subst ex2_72
            rw [nI_1]
            exact e_sub [0, 2, 3] rfl ih2
          · rw [if_neg hz6] at ih2
            refine e_iload_n (j := 0) C dX2_payday_30 rfl rfl ?_
            refine e_aload_n (j := 2) C dX2_payday_31 rfl rfl ?_
            refine e_get2 (k := 0) (ref := "ScripHollow") C (by decide) rfl rfl mw_24 dX2_payday_32 ?_
            refine e_cV (i := 1) (nA := 0) (Cn := RJx4a65c) C (c_JL_size hl) rfl (cnt_fix (by decide)) (fun _ => rfl) rfl rfl mw_69 mw_66 mw_67 mw_68 mw_23 (by decide +kernel) (by decide) rfl rfl (Nat.le_of_ble_eq_true rfl) dX2_payday_35 (Nat.le_of_ble_eq_true rfl) (Nat.le_of_ble_eq_true rfl) ?_
            refine e_icmp_ge (tgt := 78) C dX2_payday_38 (by decide) (fun c_38 => absurd c_38 (nI_ge hj (by omega))) (fun c_38 => ?_)
            refine e_aload_n (j := 2) C dX2_payday_41 rfl rfl ?_
            refine e_get2 (k := 0) (ref := "ScripHollow") C (by decide) rfl rfl mw_24 dX2_payday_42 ?_
            refine e_iload_n (j := 0) C dX2_payday_45 rfl rfl ?_
            refine e_cV (i := 1) (nA := 1) (Cn := RJx4a65c) C (c_JL_get hl hj hn) rfl (cnt_fix (by decide)) (fun _ => rfl) rfl rfl mw_160 mw_157 mw_158 mw_159 mw_23 (by decide +kernel) (by decide) rfl rfl (Nat.le_of_ble_eq_true rfl) dX2_payday_46 (Nat.le_of_ble_eq_true rfl) (Nat.le_of_ble_eq_true rfl) ?_
            refine e_castM C hj mw_63 dX2_payday_49 ?_
            refine e_astore_n (ls2 := [(3, .ref (ρ (mO j))), (2, .int (nI j)), (1, .int (payS M p j).2), (0, .ref (ρ 0))]) C hnL dX2_payday_52 rfl (by decide) rfl ?_
            refine e_aload_n (j := 0) C dX2_payday_53 rfl rfl ?_
            refine e_get0 (k := 0) (kk0 := j) (ref := "ScripHollow$Miner") C hj (by decide) rfl rfl mw_181 dX2_payday_54 ?_
            refine e_if_eq (tgt := 72) C dX2_payday_57 (by decide) (fun c_57 => absurd c_57 hz6) (fun c_57 => ?_)
            refine e_aload_n (j := 3) C dX2_payday_60 rfl rfl ?_
            refine e_aload_n (j := 0) C dX2_payday_61 rfl rfl ?_
            refine e_cV (i := 0) (nA := 1) (Cn := RX2) C (c_X2_settle hl hj hp4 ((payS_06 j).trans hpd)) rfl (cnt_fix (by decide)) (fun _ => rfl) rfl rfl mw_200 mw_197 mw_198 mw_199 mw_12 (by decide +kernel) (by decide) rfl rfl (Nat.le_of_ble_eq_true rfl) dX2_payday_62 (Nat.le_of_ble_eq_true rfl) (Nat.le_of_ble_eq_true rfl) ?_
            refine e_iload_n (j := 2) C dX2_payday_65 rfl rfl ?_
            refine e_aload_n (j := 0) C dX2_payday_66 rfl rfl ?_
            refine e_get0 (k := 9) (kk0 := j) (ref := "ScripHollow$Miner") C hj (by decide) rfl rfl mw_196 dX2_payday_67 ?_
            refine e_iadd C dX2_payday_70 ?_
            refine e_topi (fun x1_71 ex1_71 => ?_)
            refine e_istore_n (ls2 := [(1, .int x1_71), (3, .ref (ρ (mO j))), (2, .int (nI j)), (0, .ref (ρ 0))]) C hnL dX2_payday_71 rfl (by decide) rfl ?_
            obtain ⟨x2_72, ex2_72⟩ : ∃ z : Int32, z = (nI j) + 1 := ⟨_, rfl⟩
            refine e_iinc (j := 2) (v := x2_72) (ls2 := [(2, .int x2_72), (1, .int x1_71), (3, .ref (ρ (mO j))), (0, .ref (ρ 0))]) C hnL dX2_payday_72 rfl (by rw [ex2_72]; rfl) (by decide) rfl ?_
            refine e_goto (tgt := 30) C dX2_payday_75 (by decide) ?_
            subst ex2_72 ex1_71
            rw [nI_1]
            exact e_sub [0, 1, 3] rfl ih2
      refine e_aload_n (j := 0) C dX2_payday_0 rfl rfl ?_
      refine e_get2 (k := 6) (ref := "ScripHollow") C (by decide) rfl rfl mw_195 dX2_payday_1 ?_
      refine e_bipush (v := 40) C dX2_payday_4 (by decide) ?_
      refine e_icmp_ge (tgt := 16) C dX2_payday_6 (by decide) (fun c_6 => absurd c_6 hz4) (fun c_6 => ?_)
      refine e_aload_n (j := 0) C dX2_payday_9 rfl rfl ?_
      refine e_get2 (k := 15) (ref := "ScripHollow") C (by decide) rfl rfl mw_144 dX2_payday_10 ?_
      refine e_if_eq (tgt := 26) C dX2_payday_13 (by decide) (fun c_13 => ?_) (fun c_13 => absurd hz5 c_13)
      refine e_iconst (v := 0) C dX2_payday_26 (by decide) ?_
      refine e_istore_n (ls2 := [(1, .int 0), (0, .ref (ρ 0))]) C hnL dX2_payday_27 rfl (by decide) rfl ?_
      refine e_iconst (v := 0) C dX2_payday_28 (by decide) ?_
      refine e_istore_n (ls2 := [(2, .int 0), (1, .int 0), (0, .ref (ρ 0))]) C hnL dX2_payday_29 rfl (by decide) rfl ?_
      exact e_sub [0, 1, 2] rfl (loop n 0 (by omega))
    · skip
      refine e_aload_n (j := 0) C dX2_payday_0 rfl rfl ?_
      refine e_get2 (k := 6) (ref := "ScripHollow") C (by decide) rfl rfl mw_195 dX2_payday_1 ?_
      refine e_bipush (v := 40) C dX2_payday_4 (by decide) ?_
      refine e_icmp_ge (tgt := 16) C dX2_payday_6 (by decide) (fun c_6 => absurd c_6 hz4) (fun c_6 => ?_)
      refine e_aload_n (j := 0) C dX2_payday_9 rfl rfl ?_
      refine e_get2 (k := 15) (ref := "ScripHollow") C (by decide) rfl rfl mw_144 dX2_payday_10 ?_
      refine e_if_eq (tgt := 26) C dX2_payday_13 (by decide) (fun c_13 => absurd c_13 hz5) (fun c_13 => ?_)
      exact e_throw (text := "no payday can be held") C th_IS mw_61 mw_62 (by decide) rfl rfl dX2_payday_16 dX2_payday_19 dX2_payday_20 dX2_payday_22 dX2_payday_25 (by decide) (Nat.le_of_ble_eq_true rfl) (Nat.le_of_ble_eq_true rfl) (Nat.le_of_ble_eq_true rfl) (Nat.le_of_ble_eq_true rfl) (Nat.le_of_ble_eq_true rfl) (xO.mk (by unfold o_payday; rw [if_neg hz4, if_neg hz5]))
def hr (M : Mem) : Nat → Int32 → Int32
  | 0, _ => -1
  | f + 1, x => if x = -1 then -1 else if M (mO x.toNatClampNeg) 0 = 0 then hr M f (M (mO x.toNatClampNeg) 3) else x
theorem hr_s (M : Mem) (f : Nat) (x : Int32) : hr M (f + 1) x = if x = -1 then -1 else if M (mO x.toNatClampNeg) 0 = 0 then hr M f (M (mO x.toNatClampNeg) 3) else x := rfl
/-- a KIN told is none, or a miner -/
def kinOk (n : Nat) (x : Int32) : Prop := x = -1 ∨ ∃ j : Nat, j < n ∧ x = nI j
set_option maxRecDepth 100000 in
set_option maxHeartbeats 4000000 in
theorem c_X2_heirOf {l : Launch} (hl : l.stackTraces = false) {n : Nat} {ρ : Nat → Nat} {J : Nat → Int64} {M : Mem} {q : Nat} (hq : q < n) (hn : n ≤ 10) (hkin : ∀ k, k < n → kinOk n (M (mO k) 3)) : CtO l yX2_heirOf cX2_heirOf 5 (some .int) 8 10 60 n ρ J M [.ref (ρ 0), .ref (ρ (mO q))] (rI (hr M n (M (mO q) 3)) M) := by
  refine CtO.of hl (by decide +kernel) (Nat.le_of_ble_eq_true rfl) (fun Ξ hnL C => ?_)
  show E Ξ n ρ J M 0 0 0 [(0, .ref (ρ 0)), (1, .ref (ρ (mO q)))] []
  obtain ⟨R0, hR0⟩ : ∃ z, z = hr M n (M (mO q) 3) := ⟨_, rfl⟩
  rw [← hR0] at C
  have loop : ∀ (f u : Nat) (x : Int32), u + f = n → kinOk n x → R0 = hr M f x → E Ξ n ρ J M u (6 * u) 7 [(3, .int (nI u)), (2, .int x), (0, .ref (ρ 0)), (1, .ref (ρ (mO q)))] [] := by
    intro f
    induction f with
    | zero =>
      intro u x hu hx hR
      have hun : u = n := by omega
      refine e_iload_n (j := 0) C dX2_heirOf_7 rfl rfl ?_
      refine e_aload_n (j := 2) C dX2_heirOf_8 rfl rfl ?_
      refine e_get2 (k := 0) (ref := "ScripHollow") C (by decide) rfl rfl mw_24 dX2_heirOf_9 ?_
      refine e_cV (i := 1) (nA := 0) (Cn := RJx4a65c) C (c_JL_size hl) rfl (cnt_fix (by decide)) (fun _ => rfl) rfl rfl mw_69 mw_66 mw_67 mw_68 mw_23 (by decide +kernel) (by decide) rfl rfl (Nat.le_of_ble_eq_true rfl) dX2_heirOf_12 (by omega) (by omega) ?_
      refine e_icmp_ge (tgt := 52) C dX2_heirOf_15 (by decide) (fun c_15 => ?_) (fun c_15 => absurd (nI_le (by omega) (by omega)) c_15)
      refine e_iconst (v := (-1)) C dX2_heirOf_52 (by decide) ?_
      exact e_iret C rfl (by omega) (by omega) dX2_heirOf_53 (pO.mk (by rw [hR]; rfl))
    | succ f ih =>
      intro u x hu hx hR
      have hun : u < n := by omega
      rw [hr_s] at hR
      rcases hx with hx | ⟨j, hj, ej⟩
      · rw [if_pos hx] at hR
        refine e_iload_n (j := 0) C dX2_heirOf_7 rfl rfl ?_
        refine e_aload_n (j := 2) C dX2_heirOf_8 rfl rfl ?_
        refine e_get2 (k := 0) (ref := "ScripHollow") C (by decide) rfl rfl mw_24 dX2_heirOf_9 ?_
        refine e_cV (i := 1) (nA := 0) (Cn := RJx4a65c) C (c_JL_size hl) rfl (cnt_fix (by decide)) (fun _ => rfl) rfl rfl mw_69 mw_66 mw_67 mw_68 mw_23 (by decide +kernel) (by decide) rfl rfl (Nat.le_of_ble_eq_true rfl) dX2_heirOf_12 (by omega) (by omega) ?_
        refine e_icmp_ge (tgt := 52) C dX2_heirOf_15 (by decide) (fun c_15 => absurd c_15 (nI_ge hun (by omega))) (fun c_15 => ?_)
        refine e_iload_n (j := 1) C dX2_heirOf_18 rfl rfl ?_
        refine e_iconst (v := (-1)) C dX2_heirOf_19 (by decide) ?_
        refine e_icmp_eq (tgt := 52) C dX2_heirOf_20 (by decide) (fun c_20 => ?_) (fun c_20 => absurd hx c_20)
        refine e_iconst (v := (-1)) C dX2_heirOf_52 (by decide) ?_
        exact e_iret C rfl (by omega) (by omega) dX2_heirOf_53 (pO.mk (by rw [hR]))
      · subst ej
        have hne : ¬ nI j = -1 := fun z => nI_pos (n := j) (by omega) (by rw [z]; decide)
        rw [if_neg hne, nI_clamp (by omega)] at hR
        by_cases hz6 : M (mO j) 0 = 0
        · rw [if_pos hz6] at hR
          refine e_iload_n (j := 0) C dX2_heirOf_7 rfl rfl ?_
          refine e_aload_n (j := 2) C dX2_heirOf_8 rfl rfl ?_
          refine e_get2 (k := 0) (ref := "ScripHollow") C (by decide) rfl rfl mw_24 dX2_heirOf_9 ?_
          refine e_cV (i := 1) (nA := 0) (Cn := RJx4a65c) C (c_JL_size hl) rfl (cnt_fix (by decide)) (fun _ => rfl) rfl rfl mw_69 mw_66 mw_67 mw_68 mw_23 (by decide +kernel) (by decide) rfl rfl (Nat.le_of_ble_eq_true rfl) dX2_heirOf_12 (by omega) (by omega) ?_
          refine e_icmp_ge (tgt := 52) C dX2_heirOf_15 (by decide) (fun c_15 => absurd c_15 (nI_ge hun (by omega))) (fun c_15 => ?_)
          refine e_iload_n (j := 1) C dX2_heirOf_18 rfl rfl ?_
          refine e_iconst (v := (-1)) C dX2_heirOf_19 (by decide) ?_
          refine e_icmp_eq (tgt := 52) C dX2_heirOf_20 (by decide) (fun c_20 => absurd c_20 hne) (fun c_20 => ?_)
          refine e_aload_n (j := 2) C dX2_heirOf_23 rfl rfl ?_
          refine e_iload_n (j := 1) C dX2_heirOf_24 rfl rfl ?_
          refine e_cV (i := 0) (nA := 1) (Cn := RX2) C (c_X2_minerAt hl hj hn) rfl (cnt_fix (by decide)) (fun _ => rfl) rfl rfl mw_150 mw_147 mw_148 mw_149 mw_12 (by decide +kernel) (by decide) rfl rfl (Nat.le_of_ble_eq_true rfl) dX2_heirOf_25 (by omega) (by omega) ?_
          refine e_astore (ls2 := [(4, .ref (ρ (mO j))), (3, .int (nI u)), (2, .int (nI j)), (0, .ref (ρ 0)), (1, .ref (ρ (mO q)))]) C hnL dX2_heirOf_28 (by decide) rfl ?_
          refine e_aload (j := 0) C dX2_heirOf_30 rfl ?_
          refine e_get0 (k := 0) (kk0 := j) (ref := "ScripHollow$Miner") C hj (by decide) rfl rfl mw_181 dX2_heirOf_32 ?_
          refine e_if_eq (tgt := 40) C dX2_heirOf_35 (by decide) (fun c_35 => ?_) (fun c_35 => absurd hz6 c_35)
          refine e_aload (j := 0) C dX2_heirOf_40 rfl ?_
          refine e_get0 (k := 3) (kk0 := j) (ref := "ScripHollow$Miner") C hj (by decide) rfl rfl mw_378 dX2_heirOf_42 ?_
          refine e_topi (fun x2_45 ex2_45 => ?_)
          refine e_istore_n (ls2 := [(2, .int x2_45), (4, .ref (ρ (mO j))), (3, .int (nI u)), (0, .ref (ρ 0)), (1, .ref (ρ (mO q)))]) C hnL dX2_heirOf_45 rfl (by decide) rfl ?_
          obtain ⟨x3_46, ex3_46⟩ : ∃ z : Int32, z = (nI u) + 1 := ⟨_, rfl⟩
          refine e_iinc (j := 2) (v := x3_46) (ls2 := [(3, .int x3_46), (2, .int x2_45), (4, .ref (ρ (mO j))), (0, .ref (ρ 0)), (1, .ref (ρ (mO q)))]) C hnL dX2_heirOf_46 rfl (by rw [ex3_46]; rfl) (by decide) rfl ?_
          refine e_goto (tgt := 7) C dX2_heirOf_49 (by decide) ?_
          subst ex3_46 ex2_45
          rw [nI_1]
          exact e_sub [0, 1, 3, 4] rfl (e_cnt (by omega) (by omega) (ih (u + 1) _ (by omega) (hkin j hj) hR))
        · rw [if_neg hz6] at hR
          refine e_iload_n (j := 0) C dX2_heirOf_7 rfl rfl ?_
          refine e_aload_n (j := 2) C dX2_heirOf_8 rfl rfl ?_
          refine e_get2 (k := 0) (ref := "ScripHollow") C (by decide) rfl rfl mw_24 dX2_heirOf_9 ?_
          refine e_cV (i := 1) (nA := 0) (Cn := RJx4a65c) C (c_JL_size hl) rfl (cnt_fix (by decide)) (fun _ => rfl) rfl rfl mw_69 mw_66 mw_67 mw_68 mw_23 (by decide +kernel) (by decide) rfl rfl (Nat.le_of_ble_eq_true rfl) dX2_heirOf_12 (by omega) (by omega) ?_
          refine e_icmp_ge (tgt := 52) C dX2_heirOf_15 (by decide) (fun c_15 => absurd c_15 (nI_ge hun (by omega))) (fun c_15 => ?_)
          refine e_iload_n (j := 1) C dX2_heirOf_18 rfl rfl ?_
          refine e_iconst (v := (-1)) C dX2_heirOf_19 (by decide) ?_
          refine e_icmp_eq (tgt := 52) C dX2_heirOf_20 (by decide) (fun c_20 => absurd c_20 hne) (fun c_20 => ?_)
          refine e_aload_n (j := 2) C dX2_heirOf_23 rfl rfl ?_
          refine e_iload_n (j := 1) C dX2_heirOf_24 rfl rfl ?_
          refine e_cV (i := 0) (nA := 1) (Cn := RX2) C (c_X2_minerAt hl hj hn) rfl (cnt_fix (by decide)) (fun _ => rfl) rfl rfl mw_150 mw_147 mw_148 mw_149 mw_12 (by decide +kernel) (by decide) rfl rfl (Nat.le_of_ble_eq_true rfl) dX2_heirOf_25 (by omega) (by omega) ?_
          refine e_astore (ls2 := [(4, .ref (ρ (mO j))), (3, .int (nI u)), (2, .int (nI j)), (0, .ref (ρ 0)), (1, .ref (ρ (mO q)))]) C hnL dX2_heirOf_28 (by decide) rfl ?_
          refine e_aload (j := 0) C dX2_heirOf_30 rfl ?_
          refine e_get0 (k := 0) (kk0 := j) (ref := "ScripHollow$Miner") C hj (by decide) rfl rfl mw_181 dX2_heirOf_32 ?_
          refine e_if_eq (tgt := 40) C dX2_heirOf_35 (by decide) (fun c_35 => absurd c_35 hz6) (fun c_35 => ?_)
          refine e_iload_n (j := 2) C dX2_heirOf_38 rfl rfl ?_
          exact e_iret C rfl (by omega) (by omega) dX2_heirOf_39 (pO.mk (by rw [hR]))
  refine e_aload_n (j := 1) C dX2_heirOf_0 rfl rfl ?_
  refine e_get0 (k := 3) (kk0 := q) (ref := "ScripHollow$Miner") C hq (by decide) rfl rfl mw_378 dX2_heirOf_1 ?_
  refine e_topi (fun x2_4 ex2_4 => ?_)
  refine e_istore_n (ls2 := [(2, .int x2_4), (0, .ref (ρ 0)), (1, .ref (ρ (mO q)))]) C hnL dX2_heirOf_4 rfl (by decide) rfl ?_
  refine e_iconst (v := 0) C dX2_heirOf_5 (by decide) ?_
  refine e_istore_n (ls2 := [(3, .int 0), (2, .int x2_4), (0, .ref (ρ 0)), (1, .ref (ρ (mO q)))]) C hnL dX2_heirOf_6 rfl (by decide) rfl ?_
  subst ex2_4
  exact e_sub [0, 1, 2, 3] rfl (loop n 0 _ (by omega) (hkin q hq) hR0)
set_option maxRecDepth 100000 in
set_option maxHeartbeats 4000000 in
theorem c_X2_die_x {l : Launch} (hl : l.stackTraces = false) {n : Nat} {ρ : Nat → Nat} {J : Nat → Int64} {M : Mem} {x : Int32} (h : x < 0 ∨ nI n ≤ x) : CtO l yX2_die cX2_die 4 (some .int) 9 13 78 n ρ J M [.ref (ρ 0), .int x] (rX IX M) := by
  refine CtO.of hl (by decide +kernel) (Nat.le_of_ble_eq_true rfl) (fun Ξ hnL C => ?_)
  show E Ξ n ρ J M 0 0 0 [(0, .ref (ρ 0)), (1, .int x)] []
  refine e_aload_n (j := 0) C dX2_die_0 rfl rfl ?_
  refine e_iload_n (j := 1) C dX2_die_1 rfl rfl ?_
  exact e_cVx (i := 0) (nA := 1) (Cn := RX2) C (c_X2_minerAt_x hl h) rfl (cnt_fix (by decide)) (fun _ => rfl) rfl rfl mw_150 mw_147 mw_148 mw_149 mw_12 (by decide +kernel) (by decide) rfl rfl (Nat.le_of_ble_eq_true rfl) dX2_die_2 (Nat.le_of_ble_eq_true rfl) (Nat.le_of_ble_eq_true rfl) rfl
def di1 (M : Mem) (k : Nat) : Mem := up M (mO k) 0 0
def diH (M : Mem) (n k : Nat) : Int32 := hr (di1 M k) n (di1 M k (mO k) 3)
def diN (M : Mem) (k : Nat) : Mem := up (di1 M k) 7 4 (di1 M k 7 4 + sm (di1 M k (mS k)) 40)
def diS (M : Mem) (k j : Nat) : Mem := if M 6 2 = 0 then inh2 (di1 M k) j k else inh1 (di1 M k) j k
def o_die (M : Mem) (n k : Nat) : Out := if M (mO k) 0 = 0 then rX IS M else if diH M n k = -1 then rI (diH M n k) (lv2 (diN M k) k) else rI (diH M n k) (lv2 (diS M k (diH M n k).toNatClampNeg) k)
theorem hr_ok {M : Mem} {n : Nat} (hn : n ≤ 10) (hkin : ∀ k, k < n → kinOk n (M (mO k) 3)) : ∀ (f : Nat) (x : Int32), kinOk n x → kinOk n (hr M f x)
  | 0, _, _ => Or.inl rfl
  | f + 1, x, hx => by
    rw [hr_s]
    rcases hx with hx | ⟨j, hj, ej⟩
    · rw [if_pos hx]; exact Or.inl rfl
    · subst ej
      split
      · exact Or.inl rfl
      · rw [nI_clamp (by omega)]
        split
        · exact hr_ok hn hkin f _ (hkin j hj)
        · exact Or.inr ⟨j, hj, rfl⟩
theorem di1_kin {M : Mem} {n k : Nat} (hkin : ∀ k, k < n → kinOk n (M (mO k) 3)) : ∀ j, j < n → kinOk n (di1 M k (mO j) 3) := by
  intro j hj
  have e9 : di1 M k (mO j) 3 = M (mO j) 3 := by
    unfold di1
    by_cases e : mO j = mO k
    · rw [e, up_eq]; rfl
    · rw [up_ne e]
  rw [e9]
  exact hkin j hj
set_option maxRecDepth 100000 in
set_option maxHeartbeats 4000000 in
theorem c_X2_die {l : Launch} (hl : l.stackTraces = false) {n : Nat} {ρ : Nat → Nat} {J : Nat → Int64} {M : Mem} {k : Nat} (hk : k < n) (hn : n ≤ 10) (hkin : ∀ k, k < n → kinOk n (M (mO k) 3)) : CtO l yX2_die cX2_die 4 (some .int) 9 13 78 n ρ J M [.ref (ρ 0), .int (nI k)] (o_die M n k) := by
  refine CtO.of hl (by decide +kernel) (Nat.le_of_ble_eq_true rfl) (fun Ξ hnL C => ?_)
  show E Ξ n ρ J M 0 0 0 [(0, .ref (ρ 0)), (1, .int (nI k))] []
  by_cases h2 : M (mO k) 0 = 0
  · refine e_aload_n (j := 0) C dX2_die_0 rfl rfl ?_
    refine e_iload_n (j := 1) C dX2_die_1 rfl rfl ?_
    refine e_cV (i := 0) (nA := 1) (Cn := RX2) C (c_X2_minerAt hl hk hn) rfl (cnt_fix (by decide)) (fun _ => rfl) rfl rfl mw_150 mw_147 mw_148 mw_149 mw_12 (by decide +kernel) (by decide) rfl rfl (Nat.le_of_ble_eq_true rfl) dX2_die_2 (Nat.le_of_ble_eq_true rfl) (Nat.le_of_ble_eq_true rfl) ?_
    refine e_astore_n (ls2 := [(2, .ref (ρ (mO k))), (0, .ref (ρ 0)), (1, .int (nI k))]) C hnL dX2_die_5 rfl (by decide) rfl ?_
    refine e_aload_n (j := 0) C dX2_die_6 rfl rfl ?_
    exact e_cSx (nA := 1) C (c_X2_requireAlive_x hl hk h2) rfl mw_180 mw_178 mw_179 mw_12 (by decide +kernel) (by decide) rfl rfl (Nat.le_of_ble_eq_true rfl) dX2_die_7 (Nat.le_of_ble_eq_true rfl) (Nat.le_of_ble_eq_true rfl) (by unfold o_die; rw [if_pos h2])
  · obtain ⟨x9, hx9⟩ : ∃ z, z = diH M n k := ⟨_, rfl⟩
    rcases (show kinOk n (diH M n k) from hr_ok hn (di1_kin hkin) n _ (di1_kin hkin k hk)) with hz | ⟨j, hj, ej⟩
    · refine e_aload_n (j := 0) C dX2_die_0 rfl rfl ?_
      refine e_iload_n (j := 1) C dX2_die_1 rfl rfl ?_
      refine e_cV (i := 0) (nA := 1) (Cn := RX2) C (c_X2_minerAt hl hk hn) rfl (cnt_fix (by decide)) (fun _ => rfl) rfl rfl mw_150 mw_147 mw_148 mw_149 mw_12 (by decide +kernel) (by decide) rfl rfl (Nat.le_of_ble_eq_true rfl) dX2_die_2 (Nat.le_of_ble_eq_true rfl) (Nat.le_of_ble_eq_true rfl) ?_
      refine e_astore_n (ls2 := [(2, .ref (ρ (mO k))), (0, .ref (ρ 0)), (1, .int (nI k))]) C hnL dX2_die_5 rfl (by decide) rfl ?_
      refine e_aload_n (j := 0) C dX2_die_6 rfl rfl ?_
      refine e_cS (nA := 1) C (c_X2_requireAlive hl hk h2) rfl mw_180 mw_178 mw_179 mw_12 (by decide +kernel) (by decide) rfl rfl (Nat.le_of_ble_eq_true rfl) dX2_die_7 (Nat.le_of_ble_eq_true rfl) (Nat.le_of_ble_eq_true rfl) ?_
      refine e_aload_n (j := 0) C dX2_die_10 rfl rfl ?_
      refine e_iconst (v := 0) C dX2_die_11 (by decide) ?_
      refine e_put0 (k := 0) (kk0 := k) (ref := "ScripHollow$Miner") (ty := .boolean) C hk (by decide) rfl rfl (by decide +kernel) rfl rfl rfl mw_181 dX2_die_12 ?_
      refine e_aload_n (j := 1) C dX2_die_15 rfl rfl ?_
      refine e_aload_n (j := 0) C dX2_die_16 rfl rfl ?_
      refine e_cV (i := 0) (nA := 1) (Cn := RX2) C (c_X2_heirOf hl hk hn (di1_kin (M := M) (k := k) hkin)) rfl (cnt_fix (by decide)) (fun _ => rfl) rfl rfl mw_422 mw_419 mw_420 mw_421 mw_12 (by decide +kernel) (by decide) rfl rfl (Nat.le_of_ble_eq_true rfl) dX2_die_17 (Nat.le_of_ble_eq_true rfl) (Nat.le_of_ble_eq_true rfl) ?_
      refine e_topi (fun x3_20 ex3_20 => ?_)
      refine e_istore_n (ls2 := [(3, .int x3_20), (2, .ref (ρ (mO k))), (0, .ref (ρ 0)), (1, .int (nI k))]) C hnL dX2_die_20 rfl (by decide) rfl ?_
      refine e_iload_n (j := 0) C dX2_die_21 rfl rfl ?_
      refine e_iconst (v := (-1)) C dX2_die_22 (by decide) ?_
      refine e_icmp_ne (tgt := 42) C dX2_die_23 (by decide) (fun c_23 => absurd (by rw [ex3_20]; exact hz) c_23) (fun c_23 => ?_)
      refine e_aload_n (j := 2) C dX2_die_26 rfl rfl ?_
      refine e_get2 (k := 17) (ref := "ScripHollow") C (by decide) rfl rfl mw_38 dX2_die_27 ?_
      refine e_iconst (v := 4) C dX2_die_30 (by decide) ?_
      refine e_dup2 C dX2_die_31 rfl rfl ?_
      refine e_ialdN 4 C (cnt_fix (by decide)) (fun _ => rfl) rfl (by decide) (by decide) dX2_die_32 ?_
      refine e_aload_n (j := 1) C dX2_die_33 rfl rfl ?_
      refine e_cV (i := (mO k)) (nA := 0) (Cn := RX0) C (c_X0_allScrip hl hk) rfl (cnt_O hk) (fun cA => cell_O cA n ρ J k _) rfl rfl mw_297 mw_320 mw_295 mw_296 mw_65 (by decide +kernel) (by decide) rfl rfl (Nat.le_of_ble_eq_true rfl) dX2_die_34 (Nat.le_of_ble_eq_true rfl) (Nat.le_of_ble_eq_true rfl) ?_
      refine e_iadd C dX2_die_37 ?_
      refine e_iastN 4 C (cnt_fix (by decide)) (fun _ _ => rfl) rfl (by decide) (by decide) dX2_die_38 ?_
      refine e_goto (tgt := 65) C dX2_die_39 (by decide) ?_
      refine e_aload_n (j := 1) C dX2_die_65 rfl rfl ?_
      refine e_cV (i := (mO k)) (nA := 0) (Cn := RX0) C (c_X0_leaveAll hl hk) rfl (cnt_O hk) (fun cA => cell_O cA n ρ J k _) rfl rfl mw_433 mw_430 mw_431 mw_432 mw_65 (by decide +kernel) (by decide) rfl rfl (Nat.le_of_ble_eq_true rfl) dX2_die_66 (Nat.le_of_ble_eq_true rfl) (Nat.le_of_ble_eq_true rfl) ?_
      refine e_iload_n (j := 0) C dX2_die_69 rfl rfl ?_
      exact e_iret C rfl (Nat.le_of_ble_eq_true rfl) (Nat.le_of_ble_eq_true rfl) dX2_die_70 (pO.mk (by subst ex3_20; unfold o_die; rw [if_neg h2, if_pos hz]; rfl))
    · have hne : ¬ diH M n k = -1 := fun z => nI_pos (n := j) (by omega) (by rw [← ej, z]; decide)
      have hjt : (diH M n k).toNatClampNeg = j := by rw [ej]; exact nI_clamp (by omega)
      refine e_aload_n (j := 0) C dX2_die_0 rfl rfl ?_
      refine e_iload_n (j := 1) C dX2_die_1 rfl rfl ?_
      refine e_cV (i := 0) (nA := 1) (Cn := RX2) C (c_X2_minerAt hl hk hn) rfl (cnt_fix (by decide)) (fun _ => rfl) rfl rfl mw_150 mw_147 mw_148 mw_149 mw_12 (by decide +kernel) (by decide) rfl rfl (Nat.le_of_ble_eq_true rfl) dX2_die_2 (Nat.le_of_ble_eq_true rfl) (Nat.le_of_ble_eq_true rfl) ?_
      refine e_astore_n (ls2 := [(2, .ref (ρ (mO k))), (0, .ref (ρ 0)), (1, .int (nI k))]) C hnL dX2_die_5 rfl (by decide) rfl ?_
      refine e_aload_n (j := 0) C dX2_die_6 rfl rfl ?_
      refine e_cS (nA := 1) C (c_X2_requireAlive hl hk h2) rfl mw_180 mw_178 mw_179 mw_12 (by decide +kernel) (by decide) rfl rfl (Nat.le_of_ble_eq_true rfl) dX2_die_7 (Nat.le_of_ble_eq_true rfl) (Nat.le_of_ble_eq_true rfl) ?_
      refine e_aload_n (j := 0) C dX2_die_10 rfl rfl ?_
      refine e_iconst (v := 0) C dX2_die_11 (by decide) ?_
      refine e_put0 (k := 0) (kk0 := k) (ref := "ScripHollow$Miner") (ty := .boolean) C hk (by decide) rfl rfl (by decide +kernel) rfl rfl rfl mw_181 dX2_die_12 ?_
      refine e_aload_n (j := 1) C dX2_die_15 rfl rfl ?_
      refine e_aload_n (j := 0) C dX2_die_16 rfl rfl ?_
      refine e_cV (i := 0) (nA := 1) (Cn := RX2) C (c_X2_heirOf hl hk hn (di1_kin (M := M) (k := k) hkin)) rfl (cnt_fix (by decide)) (fun _ => rfl) rfl rfl mw_422 mw_419 mw_420 mw_421 mw_12 (by decide +kernel) (by decide) rfl rfl (Nat.le_of_ble_eq_true rfl) dX2_die_17 (Nat.le_of_ble_eq_true rfl) (Nat.le_of_ble_eq_true rfl) ?_
      refine e_topi (fun x3_20 ex3_20 => ?_)
      refine e_istore_n (ls2 := [(3, .int x3_20), (2, .ref (ρ (mO k))), (0, .ref (ρ 0)), (1, .int (nI k))]) C hnL dX2_die_20 rfl (by decide) rfl ?_
      refine e_iload_n (j := 0) C dX2_die_21 rfl rfl ?_
      refine e_iconst (v := (-1)) C dX2_die_22 (by decide) ?_
      refine e_icmp_ne (tgt := 42) C dX2_die_23 (by decide) (fun c_23 => ?_) (fun c_23 => absurd c_23 (by rw [ex3_20]; exact hne))
      refine e_aload_n (j := 2) C dX2_die_42 rfl rfl ?_
      refine e_iload_n (j := 0) C dX2_die_43 rfl rfl ?_
      rw [show x3_20 = nI j from ex3_20.trans ej]
      refine e_cV (i := 0) (nA := 1) (Cn := RX2) C (c_X2_minerAt hl hj hn) rfl (cnt_fix (by decide)) (fun _ => rfl) rfl rfl mw_150 mw_147 mw_148 mw_149 mw_12 (by decide +kernel) (by decide) rfl rfl (Nat.le_of_ble_eq_true rfl) dX2_die_44 (Nat.le_of_ble_eq_true rfl) (Nat.le_of_ble_eq_true rfl) ?_
      refine e_aload_n (j := 1) C dX2_die_47 rfl rfl ?_
      refine e_aload_n (j := 2) C dX2_die_48 rfl rfl ?_
      refine e_get2 (k := 11) (ref := "ScripHollow") C (by decide) rfl rfl mw_37 dX2_die_49 ?_
      refine e_iconst (v := 2) C dX2_die_52 (by decide) ?_
      refine e_zaldN 2 C (cnt_fix (by decide)) (fun _ => rfl) rfl (by decide) (by decide) dX2_die_53 ?_
      refine e_if_ne (tgt := 61) C dX2_die_54 (by decide) (fun c_54 => ?_) (fun c_54 => ?_)
      · refine e_iconst (v := 0) C dX2_die_61 (by decide) ?_
        refine e_cV (i := (mO j)) (nA := 2) (Cn := RX0) C (c_X0_inherit hl hj hk) rfl (cnt_O hj) (fun cA => cell_O cA n ρ J j _) rfl rfl mw_426 mw_423 mw_424 mw_425 mw_65 (by decide +kernel) (by decide) rfl rfl (Nat.le_of_ble_eq_true rfl) dX2_die_62 (Nat.le_of_ble_eq_true rfl) (Nat.le_of_ble_eq_true rfl) ?_
        refine e_aload_n (j := 1) C dX2_die_65 rfl rfl ?_
        refine e_cV (i := (mO k)) (nA := 0) (Cn := RX0) C (c_X0_leaveAll hl hk) rfl (cnt_O hk) (fun cA => cell_O cA n ρ J k _) rfl rfl mw_433 mw_430 mw_431 mw_432 mw_65 (by decide +kernel) (by decide) rfl rfl (Nat.le_of_ble_eq_true rfl) dX2_die_66 (Nat.le_of_ble_eq_true rfl) (Nat.le_of_ble_eq_true rfl) ?_
        refine e_iload_n (j := 0) C dX2_die_69 rfl rfl ?_
        exact e_iret C rfl (Nat.le_of_ble_eq_true rfl) (Nat.le_of_ble_eq_true rfl) dX2_die_70 (pO.mk (by subst ex3_20; rw [up_ne (show (6 : Nat) ≠ mO k by unfold mO; omega)] at c_54; unfold o_die; rw [if_neg h2, if_neg hne, hjt, ej]; unfold diS; first | (rw [if_pos c_54]; rfl) | (rw [if_neg c_54]; rfl)))
      · refine e_iconst (v := 1) C dX2_die_57 (by decide) ?_
        refine e_goto (tgt := 62) C dX2_die_58 (by decide) ?_
        refine e_cV (i := (mO j)) (nA := 2) (Cn := RX0) C (c_X0_inherit hl hj hk) rfl (cnt_O hj) (fun cA => cell_O cA n ρ J j _) rfl rfl mw_426 mw_423 mw_424 mw_425 mw_65 (by decide +kernel) (by decide) rfl rfl (Nat.le_of_ble_eq_true rfl) dX2_die_62 (Nat.le_of_ble_eq_true rfl) (Nat.le_of_ble_eq_true rfl) ?_
        refine e_aload_n (j := 1) C dX2_die_65 rfl rfl ?_
        refine e_cV (i := (mO k)) (nA := 0) (Cn := RX0) C (c_X0_leaveAll hl hk) rfl (cnt_O hk) (fun cA => cell_O cA n ρ J k _) rfl rfl mw_433 mw_430 mw_431 mw_432 mw_65 (by decide +kernel) (by decide) rfl rfl (Nat.le_of_ble_eq_true rfl) dX2_die_66 (Nat.le_of_ble_eq_true rfl) (Nat.le_of_ble_eq_true rfl) ?_
        refine e_iload_n (j := 0) C dX2_die_69 rfl rfl ?_
        exact e_iret C rfl (Nat.le_of_ble_eq_true rfl) (Nat.le_of_ble_eq_true rfl) dX2_die_70 (pO.mk (by subst ex3_20; rw [up_ne (show (6 : Nat) ≠ mO k by unfold mO; omega)] at c_54; unfold o_die; rw [if_neg h2, if_neg hne, hjt, ej]; unfold diS; first | (rw [if_pos c_54]; rfl) | (rw [if_neg c_54]; rfl)))
end
section
/-! Soup and closing. -/
abbrev mea (M : Mem) (j : Nat) : Int32 := M (mO j) 5 + sm (M (mS j)) 40
def pb (M : Mem) (s : Int32) : Nat → Int32 × Int32
  | 0 => (-1, 0)
  | j + 1 => if M (mO j) 0 = 0 then pb M s j else if s >>> (nI j &&& 31) &&& 1 = 0 then (if (pb M s j).1 = -1 then (nI j, mea M j) else if (pb M s j).2 ≤ mea M j then pb M s j else (nI j, mea M j)) else pb M s j
theorem pb_s (M : Mem) (s : Int32) (j : Nat) : pb M s (j + 1) = if M (mO j) 0 = 0 then pb M s j else if s >>> (nI j &&& 31) &&& 1 = 0 then (if (pb M s j).1 = -1 then (nI j, mea M j) else if (pb M s j).2 ≤ mea M j then pb M s j else (nI j, mea M j)) else pb M s j := rfl
set_option maxRecDepth 100000 in
set_option maxHeartbeats 4000000 in
theorem c_X2_poorestBut {l : Launch} (hl : l.stackTraces = false) {n : Nat} {ρ : Nat → Nat} {J : Nat → Int64} {M : Mem} (hn : n ≤ 10) {s : Int32} : CtO l yX2_poorestBut cX2_poorestBut 7 (some .int) 3 0 0 n ρ J M [.ref (ρ 0), .int s] (rI (pb M s n).1 M) := by
  refine CtO.of hl (by decide +kernel) (Nat.le_of_ble_eq_true rfl) (fun Ξ hnL C => ?_)
  show E Ξ n ρ J M 0 0 0 [(0, .ref (ρ 0)), (1, .int s)] []
  have loop : ∀ (f j : Nat) (a b : Int32), j + f = n → pb M s j = (a, b) → E Ξ n ρ J M 0 0 7 [(4, .int (nI j)), (3, .int b), (2, .int a), (0, .ref (ρ 0)), (1, .int s)] [] := by
    intro f
    induction f with
    | zero =>
      intro j a b hjf hab
      have hjn : j = n := by omega
      refine e_iload (j := 0) C dX2_poorestBut_7 rfl ?_
      refine e_aload_n (j := 3) C dX2_poorestBut_9 rfl rfl ?_
      refine e_get2 (k := 0) (ref := "ScripHollow") C (by decide) rfl rfl mw_24 dX2_poorestBut_10 ?_
      refine e_cV (i := 1) (nA := 0) (Cn := RJx4a65c) C (c_JL_size hl) rfl (cnt_fix (by decide)) (fun _ => rfl) rfl rfl mw_69 mw_66 mw_67 mw_68 mw_23 (by decide +kernel) (by decide) rfl rfl (Nat.le_of_ble_eq_true rfl) dX2_poorestBut_13 (Nat.le_of_ble_eq_true rfl) (Nat.le_of_ble_eq_true rfl) ?_
      refine e_icmp_ge (tgt := 91) C dX2_poorestBut_16 (by decide) (fun c_16 => ?_) (fun c_16 => absurd (nI_le (by omega) (by omega)) c_16)
      refine e_iload_n (j := 2) C dX2_poorestBut_91 rfl rfl ?_
      exact e_iret C rfl (Nat.le_of_ble_eq_true rfl) (Nat.le_of_ble_eq_true rfl) dX2_poorestBut_92 (pO.mk (by rw [← hjn, hab]))
    | succ f ih =>
      intro j a b hjf hab
      have hj : j < n := by omega
      have hps := pb_s M s j
      rw [hab] at hps
      dsimp only at hps
      refine e_iload (j := 0) C dX2_poorestBut_7 rfl ?_
      refine e_aload_n (j := 3) C dX2_poorestBut_9 rfl rfl ?_
      refine e_get2 (k := 0) (ref := "ScripHollow") C (by decide) rfl rfl mw_24 dX2_poorestBut_10 ?_
      refine e_cV (i := 1) (nA := 0) (Cn := RJx4a65c) C (c_JL_size hl) rfl (cnt_fix (by decide)) (fun _ => rfl) rfl rfl mw_69 mw_66 mw_67 mw_68 mw_23 (by decide +kernel) (by decide) rfl rfl (Nat.le_of_ble_eq_true rfl) dX2_poorestBut_13 (Nat.le_of_ble_eq_true rfl) (Nat.le_of_ble_eq_true rfl) ?_
      refine e_icmp_ge (tgt := 91) C dX2_poorestBut_16 (by decide) (fun c_16 => absurd c_16 (nI_ge hj (by omega))) (fun c_16 => ?_)
      refine e_aload_n (j := 3) C dX2_poorestBut_19 rfl rfl ?_
      refine e_get2 (k := 0) (ref := "ScripHollow") C (by decide) rfl rfl mw_24 dX2_poorestBut_20 ?_
      refine e_iload (j := 0) C dX2_poorestBut_23 rfl ?_
      refine e_cV (i := 1) (nA := 1) (Cn := RJx4a65c) C (c_JL_get hl hj hn) rfl (cnt_fix (by decide)) (fun _ => rfl) rfl rfl mw_160 mw_157 mw_158 mw_159 mw_23 (by decide +kernel) (by decide) rfl rfl (Nat.le_of_ble_eq_true rfl) dX2_poorestBut_25 (Nat.le_of_ble_eq_true rfl) (Nat.le_of_ble_eq_true rfl) ?_
      refine e_castM C hj mw_63 dX2_poorestBut_28 ?_
      refine e_astore (ls2 := [(5, .ref (ρ (mO j))), (4, .int (nI j)), (3, .int b), (2, .int a), (0, .ref (ρ 0)), (1, .int s)]) C hnL dX2_poorestBut_31 (by decide) rfl ?_
      refine e_aload (j := 0) C dX2_poorestBut_33 rfl ?_
      refine e_get0 (k := 0) (kk0 := j) (ref := "ScripHollow$Miner") C hj (by decide) rfl rfl mw_181 dX2_poorestBut_35 ?_
      refine e_if_eq (tgt := 54) C dX2_poorestBut_38 (by decide) (fun c_38 => ?_) (fun c_38 => ?_)
      · refine e_iconst (v := 0) C dX2_poorestBut_54 (by decide) ?_
        refine e_istore (ls2 := [(6, .int 0), (5, .ref (ρ (mO j))), (4, .int (nI j)), (3, .int b), (2, .int a), (0, .ref (ρ 0)), (1, .int s)]) C hnL dX2_poorestBut_55 (by decide) rfl ?_
        refine e_iload (j := 0) C dX2_poorestBut_57 rfl ?_
        refine e_if_eq (tgt := 85) C dX2_poorestBut_59 (by decide) (fun c_59 => ?_) (fun c_59 => absurd (by decide) c_59)
        obtain ⟨x4_85, ex4_85⟩ : ∃ z : Int32, z = (nI j) + 1 := ⟨_, rfl⟩
        refine e_iinc (j := 2) (v := x4_85) (ls2 := [(4, .int x4_85), (6, .int 0), (5, .ref (ρ (mO j))), (3, .int b), (2, .int a), (0, .ref (ρ 0)), (1, .int s)]) C hnL dX2_poorestBut_85 rfl (by rw [ex4_85]; rfl) (by decide) rfl ?_
        refine e_goto (tgt := 7) C dX2_poorestBut_88 (by decide) ?_
        subst ex4_85
        rw [nI_1]
        exact e_sub [0, 3, 4, 5, 6] rfl (ih (j + 1) _ _ (by omega) (by rw [hps]; (repeat (first | rw [if_neg c_16] | rw [if_pos c_38] | rw [if_pos c_59]))))
      · refine e_iload_n (j := 5) C dX2_poorestBut_41 rfl rfl ?_
        refine e_iload (j := 1) C dX2_poorestBut_42 rfl ?_
        refine e_ishr C dX2_poorestBut_44 ?_
        refine e_iconst (v := 1) C dX2_poorestBut_45 (by decide) ?_
        refine e_iand C dX2_poorestBut_46 ?_
        refine e_if_ne (tgt := 54) C dX2_poorestBut_47 (by decide) (fun c_47 => ?_) (fun c_47 => ?_)
        · refine e_iconst (v := 0) C dX2_poorestBut_54 (by decide) ?_
          refine e_istore (ls2 := [(6, .int 0), (5, .ref (ρ (mO j))), (4, .int (nI j)), (3, .int b), (2, .int a), (0, .ref (ρ 0)), (1, .int s)]) C hnL dX2_poorestBut_55 (by decide) rfl ?_
          refine e_iload (j := 0) C dX2_poorestBut_57 rfl ?_
          refine e_if_eq (tgt := 85) C dX2_poorestBut_59 (by decide) (fun c_59 => ?_) (fun c_59 => absurd (by decide) c_59)
          obtain ⟨x4_85, ex4_85⟩ : ∃ z : Int32, z = (nI j) + 1 := ⟨_, rfl⟩
          refine e_iinc (j := 2) (v := x4_85) (ls2 := [(4, .int x4_85), (6, .int 0), (5, .ref (ρ (mO j))), (3, .int b), (2, .int a), (0, .ref (ρ 0)), (1, .int s)]) C hnL dX2_poorestBut_85 rfl (by rw [ex4_85]; rfl) (by decide) rfl ?_
          refine e_goto (tgt := 7) C dX2_poorestBut_88 (by decide) ?_
          subst ex4_85
          rw [nI_1]
          exact e_sub [0, 3, 4, 5, 6] rfl (ih (j + 1) _ _ (by omega) (by rw [hps]; (repeat (first | rw [if_neg c_16] | rw [if_neg c_38] | rw [if_neg c_47] | rw [if_pos c_59]))))
        · refine e_iconst (v := 1) C dX2_poorestBut_50 (by decide) ?_
          refine e_goto (tgt := 55) C dX2_poorestBut_51 (by decide) ?_
          refine e_istore (ls2 := [(6, .int 1), (5, .ref (ρ (mO j))), (4, .int (nI j)), (3, .int b), (2, .int a), (0, .ref (ρ 0)), (1, .int s)]) C hnL dX2_poorestBut_55 (by decide) rfl ?_
          refine e_iload (j := 0) C dX2_poorestBut_57 rfl ?_
          refine e_if_eq (tgt := 85) C dX2_poorestBut_59 (by decide) (fun c_59 => absurd c_59 (by decide)) (fun c_59 => ?_)
          refine e_iload_n (j := 4) C dX2_poorestBut_62 rfl rfl ?_
          refine e_iconst (v := (-1)) C dX2_poorestBut_63 (by decide) ?_
          refine e_icmp_eq (tgt := 76) C dX2_poorestBut_64 (by decide) (fun c_64 => ?_) (fun c_64 => ?_)
          · refine e_iload (j := 2) C dX2_poorestBut_76 rfl ?_
            refine e_istore_n (ls2 := [(2, .int (nI j)), (6, .int 1), (5, .ref (ρ (mO j))), (4, .int (nI j)), (3, .int b), (0, .ref (ρ 0)), (1, .int s)]) C hnL dX2_poorestBut_78 rfl (by decide) rfl ?_
            refine e_aload (j := 2) C dX2_poorestBut_79 rfl ?_
            refine e_cV (i := (mO j)) (nA := 0) (Cn := RX0) C (c_X0_means hl hj) rfl (cnt_O hj) (fun cA => cell_O cA n ρ J j _) rfl rfl mw_292 mw_289 mw_290 mw_291 mw_65 (by decide +kernel) (by decide) rfl rfl (Nat.le_of_ble_eq_true rfl) dX2_poorestBut_81 (Nat.le_of_ble_eq_true rfl) (Nat.le_of_ble_eq_true rfl) ?_
            refine e_topi (fun x3_84 ex3_84 => ?_)
            refine e_istore_n (ls2 := [(3, .int x3_84), (2, .int (nI j)), (6, .int 1), (5, .ref (ρ (mO j))), (4, .int (nI j)), (0, .ref (ρ 0)), (1, .int s)]) C hnL dX2_poorestBut_84 rfl (by decide) rfl ?_
            obtain ⟨x4_85, ex4_85⟩ : ∃ z : Int32, z = (nI j) + 1 := ⟨_, rfl⟩
            refine e_iinc (j := 4) (v := x4_85) (ls2 := [(4, .int x4_85), (3, .int x3_84), (2, .int (nI j)), (6, .int 1), (5, .ref (ρ (mO j))), (0, .ref (ρ 0)), (1, .int s)]) C hnL dX2_poorestBut_85 rfl (by rw [ex4_85]; rfl) (by decide) rfl ?_
            refine e_goto (tgt := 7) C dX2_poorestBut_88 (by decide) ?_
            subst ex4_85 ex3_84
            rw [nI_1]
            exact e_sub [0, 1, 2, 5, 6] rfl (ih (j + 1) _ _ (by omega) (by rw [hps]; (repeat (first | rw [if_neg c_16] | rw [if_neg c_38] | rw [if_pos c_47] | rw [if_neg c_59] | rw [if_pos c_64]))))
          · refine e_aload (j := 1) C dX2_poorestBut_67 rfl ?_
            refine e_cV (i := (mO j)) (nA := 0) (Cn := RX0) C (c_X0_means hl hj) rfl (cnt_O hj) (fun cA => cell_O cA n ρ J j _) rfl rfl mw_292 mw_289 mw_290 mw_291 mw_65 (by decide +kernel) (by decide) rfl rfl (Nat.le_of_ble_eq_true rfl) dX2_poorestBut_69 (Nat.le_of_ble_eq_true rfl) (Nat.le_of_ble_eq_true rfl) ?_
            refine e_iload_n (j := 3) C dX2_poorestBut_72 rfl rfl ?_
            refine e_icmp_ge (tgt := 85) C dX2_poorestBut_73 (by decide) (fun c_73 => ?_) (fun c_73 => ?_)
            · obtain ⟨x4_85, ex4_85⟩ : ∃ z : Int32, z = (nI j) + 1 := ⟨_, rfl⟩
              refine e_iinc (j := 2) (v := x4_85) (ls2 := [(4, .int x4_85), (6, .int 1), (5, .ref (ρ (mO j))), (3, .int b), (2, .int a), (0, .ref (ρ 0)), (1, .int s)]) C hnL dX2_poorestBut_85 rfl (by rw [ex4_85]; rfl) (by decide) rfl ?_
              refine e_goto (tgt := 7) C dX2_poorestBut_88 (by decide) ?_
              subst ex4_85
              rw [nI_1]
              exact e_sub [0, 3, 4, 5, 6] rfl (ih (j + 1) _ _ (by omega) (by rw [hps]; (repeat (first | rw [if_neg c_16] | rw [if_neg c_38] | rw [if_pos c_47] | rw [if_neg c_59] | rw [if_neg c_64] | rw [if_pos c_73]))))
            · refine e_iload (j := 2) C dX2_poorestBut_76 rfl ?_
              refine e_istore_n (ls2 := [(2, .int (nI j)), (6, .int 1), (5, .ref (ρ (mO j))), (4, .int (nI j)), (3, .int b), (0, .ref (ρ 0)), (1, .int s)]) C hnL dX2_poorestBut_78 rfl (by decide) rfl ?_
              refine e_aload (j := 2) C dX2_poorestBut_79 rfl ?_
              refine e_cV (i := (mO j)) (nA := 0) (Cn := RX0) C (c_X0_means hl hj) rfl (cnt_O hj) (fun cA => cell_O cA n ρ J j _) rfl rfl mw_292 mw_289 mw_290 mw_291 mw_65 (by decide +kernel) (by decide) rfl rfl (Nat.le_of_ble_eq_true rfl) dX2_poorestBut_81 (Nat.le_of_ble_eq_true rfl) (Nat.le_of_ble_eq_true rfl) ?_
              refine e_topi (fun x3_84 ex3_84 => ?_)
              refine e_istore_n (ls2 := [(3, .int x3_84), (2, .int (nI j)), (6, .int 1), (5, .ref (ρ (mO j))), (4, .int (nI j)), (0, .ref (ρ 0)), (1, .int s)]) C hnL dX2_poorestBut_84 rfl (by decide) rfl ?_
              obtain ⟨x4_85, ex4_85⟩ : ∃ z : Int32, z = (nI j) + 1 := ⟨_, rfl⟩
              refine e_iinc (j := 4) (v := x4_85) (ls2 := [(4, .int x4_85), (3, .int x3_84), (2, .int (nI j)), (6, .int 1), (5, .ref (ρ (mO j))), (0, .ref (ρ 0)), (1, .int s)]) C hnL dX2_poorestBut_85 rfl (by rw [ex4_85]; rfl) (by decide) rfl ?_
              refine e_goto (tgt := 7) C dX2_poorestBut_88 (by decide) ?_
              subst ex4_85 ex3_84
              rw [nI_1]
              exact e_sub [0, 1, 2, 5, 6] rfl (ih (j + 1) _ _ (by omega) (by rw [hps]; (repeat (first | rw [if_neg c_16] | rw [if_neg c_38] | rw [if_pos c_47] | rw [if_neg c_59] | rw [if_neg c_64] | rw [if_neg c_73]))))
  refine e_iconst (v := (-1)) C dX2_poorestBut_0 (by decide) ?_
  refine e_istore_n (ls2 := [(2, .int (-1)), (0, .ref (ρ 0)), (1, .int s)]) C hnL dX2_poorestBut_1 rfl (by decide) rfl ?_
  refine e_iconst (v := 0) C dX2_poorestBut_2 (by decide) ?_
  refine e_istore_n (ls2 := [(3, .int 0), (2, .int (-1)), (0, .ref (ρ 0)), (1, .int s)]) C hnL dX2_poorestBut_3 rfl (by decide) rfl ?_
  refine e_iconst (v := 0) C dX2_poorestBut_4 (by decide) ?_
  refine e_istore (ls2 := [(4, .int 0), (3, .int 0), (2, .int (-1)), (0, .ref (ρ 0)), (1, .int s)]) C hnL dX2_poorestBut_5 (by decide) rfl ?_
  exact e_sub [0, 1, 2, 3, 4] rfl (loop n 0 (-1) 0 (by omega) rfl)
def sp (n : Nat) (M : Mem) (s : Int32) : Nat → Mem × Int32
  | 0 => (M, s)
  | f + 1 => if M 0 16 < 2 then (M, s) else if (pb M s n).1 = -1 then (M, s) else sp n (up M 0 16 (M 0 16 - 2)) (s ||| 1 <<< ((pb M s n).1 &&& 31)) f
theorem sp_s (n : Nat) (M : Mem) (s : Int32) (f : Nat) : sp n M s (f + 1) = if M 0 16 < 2 then (M, s) else if (pb M s n).1 = -1 then (M, s) else sp n (up M 0 16 (M 0 16 - 2)) (s ||| 1 <<< ((pb M s n).1 &&& 31)) f := rfl
def o_soup (M : Mem) (n : Nat) : Out := if M 0 14 = 0 then rX IS M else rI (sp n M 0 n).2 (sp n M 0 n).1
set_option maxRecDepth 100000 in
set_option maxHeartbeats 4000000 in
theorem c_X2_soup {l : Launch} (hl : l.stackTraces = false) {n : Nat} {ρ : Nat → Nat} {J : Nat → Int64} {M : Mem} (hn : n ≤ 10) : CtO l yX2_soup cX2_soup 4 (some .int) 6 1 6 n ρ J M [.ref (ρ 0)] (o_soup M n) := by
  refine CtO.of hl (by decide +kernel) (Nat.le_of_ble_eq_true rfl) (fun Ξ hnL C => ?_)
  show E Ξ n ρ J M 0 0 0 [(0, .ref (ρ 0))] []
  obtain ⟨R0, hR0⟩ : ∃ z, z = o_soup M n := ⟨_, rfl⟩
  rw [← hR0] at C
  by_cases h2 : M 0 14 = 0
  · refine e_aload_n (j := 0) C dX2_soup_0 rfl rfl ?_
    refine e_get2 (k := 14) (ref := "ScripHollow") C (by decide) rfl rfl mw_143 dX2_soup_1 ?_
    refine e_if_ne (tgt := 17) C dX2_soup_4 (by decide) (fun c_4 => absurd h2 c_4) (fun c_4 => ?_)
    exact e_throw (text := "there is no strike") C th_IS mw_61 mw_62 (by decide) rfl rfl dX2_soup_7 dX2_soup_10 dX2_soup_11 dX2_soup_13 dX2_soup_16 (by decide) (Nat.le_of_ble_eq_true rfl) (Nat.le_of_ble_eq_true rfl) (Nat.le_of_ble_eq_true rfl) (Nat.le_of_ble_eq_true rfl) (Nat.le_of_ble_eq_true rfl) (xO.mk (by rw [hR0]; unfold o_soup; rw [if_pos h2]))
  · have loop : ∀ (f u : Nat) (N : Mem) (s : Int32), u + f = n → R0 = rI (sp n N s f).2 (sp n N s f).1 → E Ξ n ρ J N 0 0 21 [(2, .int (nI u)), (1, .int s), (0, .ref (ρ 0))] [] := by
      intro f
      induction f with
      | zero =>
        intro u N s hu hR
        have hun : u = n := by omega
        refine e_iload_n (j := 0) C dX2_soup_21 rfl rfl ?_
        refine e_aload_n (j := 2) C dX2_soup_22 rfl rfl ?_
        refine e_get2 (k := 0) (ref := "ScripHollow") C (by decide) rfl rfl mw_24 dX2_soup_23 ?_
        refine e_cV (i := 1) (nA := 0) (Cn := RJx4a65c) C (c_JL_size hl) rfl (cnt_fix (by decide)) (fun _ => rfl) rfl rfl mw_69 mw_66 mw_67 mw_68 mw_23 (by decide +kernel) (by decide) rfl rfl (Nat.le_of_ble_eq_true rfl) dX2_soup_26 (Nat.le_of_ble_eq_true rfl) (Nat.le_of_ble_eq_true rfl) ?_
        refine e_icmp_ge (tgt := 76) C dX2_soup_29 (by decide) (fun c_29 => ?_) (fun c_29 => absurd (nI_le (by omega) (by omega)) c_29)
        refine e_iload_n (j := 1) C dX2_soup_76 rfl rfl ?_
        exact e_iret C rfl (Nat.le_of_ble_eq_true rfl) (Nat.le_of_ble_eq_true rfl) dX2_soup_77 (pO.mk (by rw [hR]; rfl))
      | succ f ih =>
        intro u N s hu hR
        have hun : u < n := by omega
        rw [sp_s] at hR
        refine e_iload_n (j := 0) C dX2_soup_21 rfl rfl ?_
        refine e_aload_n (j := 2) C dX2_soup_22 rfl rfl ?_
        refine e_get2 (k := 0) (ref := "ScripHollow") C (by decide) rfl rfl mw_24 dX2_soup_23 ?_
        refine e_cV (i := 1) (nA := 0) (Cn := RJx4a65c) C (c_JL_size hl) rfl (cnt_fix (by decide)) (fun _ => rfl) rfl rfl mw_69 mw_66 mw_67 mw_68 mw_23 (by decide +kernel) (by decide) rfl rfl (Nat.le_of_ble_eq_true rfl) dX2_soup_26 (Nat.le_of_ble_eq_true rfl) (Nat.le_of_ble_eq_true rfl) ?_
        refine e_icmp_ge (tgt := 76) C dX2_soup_29 (by decide) (fun c_29 => absurd c_29 (nI_ge hun (by omega))) (fun c_29 => ?_)
        refine e_aload_n (j := 2) C dX2_soup_32 rfl rfl ?_
        refine e_get2 (k := 16) (ref := "ScripHollow") C (by decide) rfl rfl mw_368 dX2_soup_33 ?_
        refine e_iconst (v := 2) C dX2_soup_36 (by decide) ?_
        refine e_icmp_lt (tgt := 76) C dX2_soup_37 (by decide) (fun c_37 => ?_) (fun c_37 => ?_)
        · refine e_iload_n (j := 1) C dX2_soup_76 rfl rfl ?_
          exact e_iret C rfl (Nat.le_of_ble_eq_true rfl) (Nat.le_of_ble_eq_true rfl) dX2_soup_77 (pO.mk (by rw [hR]; (try subst ex3_45); (repeat (first | rw [if_neg c_29] | rw [if_pos c_37]))))
        · refine e_aload_n (j := 2) C dX2_soup_40 rfl rfl ?_
          refine e_iload_n (j := 1) C dX2_soup_41 rfl rfl ?_
          refine e_cV (i := 0) (nA := 1) (Cn := RX2) C (c_X2_poorestBut hl hn) rfl (cnt_fix (by decide)) (fun _ => rfl) rfl rfl mw_397 mw_394 mw_395 mw_396 mw_12 (by decide +kernel) (by decide) rfl rfl (Nat.le_of_ble_eq_true rfl) dX2_soup_42 (Nat.le_of_ble_eq_true rfl) (Nat.le_of_ble_eq_true rfl) ?_
          refine e_topi (fun x3_45 ex3_45 => ?_)
          refine e_istore_n (ls2 := [(3, .int x3_45), (2, .int (nI u)), (1, .int s), (0, .ref (ρ 0))]) C hnL dX2_soup_45 rfl (by decide) rfl ?_
          refine e_iload_n (j := 0) C dX2_soup_46 rfl rfl ?_
          refine e_iconst (v := (-1)) C dX2_soup_47 (by decide) ?_
          refine e_icmp_ne (tgt := 54) C dX2_soup_48 (by decide) (fun c_48 => ?_) (fun c_48 => ?_)
          · refine e_aload_n (j := 3) C dX2_soup_54 rfl rfl ?_
            refine e_dup C dX2_soup_55 rfl ?_
            refine e_get2 (k := 16) (ref := "ScripHollow") C (by decide) rfl rfl mw_368 dX2_soup_56 ?_
            refine e_iconst (v := 2) C dX2_soup_59 (by decide) ?_
            refine e_isub C dX2_soup_60 ?_
            refine e_put2 (k := 16) (ref := "ScripHollow") (ty := .int) C (by decide) rfl rfl (by decide +kernel) rfl rfl rfl mw_368 dX2_soup_61 ?_
            refine e_iload_n (j := 2) C dX2_soup_64 rfl rfl ?_
            refine e_iconst (v := 1) C dX2_soup_65 (by decide) ?_
            refine e_iload_n (j := 0) C dX2_soup_66 rfl rfl ?_
            refine e_ishl C dX2_soup_67 ?_
            refine e_ior C dX2_soup_68 ?_
            refine e_topi (fun x1_69 ex1_69 => ?_)
            refine e_istore_n (ls2 := [(1, .int x1_69), (3, .int x3_45), (2, .int (nI u)), (0, .ref (ρ 0))]) C hnL dX2_soup_69 rfl (by decide) rfl ?_
            obtain ⟨x2_70, ex2_70⟩ : ∃ z : Int32, z = (nI u) + 1 := ⟨_, rfl⟩
            refine e_iinc (j := 2) (v := x2_70) (ls2 := [(2, .int x2_70), (1, .int x1_69), (3, .int x3_45), (0, .ref (ρ 0))]) C hnL dX2_soup_70 rfl (by rw [ex2_70]; rfl) (by decide) rfl ?_
            refine e_goto (tgt := 21) C dX2_soup_73 (by decide) ?_
            subst ex2_70 ex1_69 ex3_45
            rw [nI_1]
            exact e_sub [0, 1, 3] rfl (ih (u + 1) _ _ (by omega) (by rw [hR]; (repeat (first | rw [if_neg c_29] | rw [if_neg c_37] | rw [if_neg c_48]))))
          · refine e_goto (tgt := 76) C dX2_soup_51 (by decide) ?_
            refine e_iload_n (j := 2) C dX2_soup_76 rfl rfl ?_
            exact e_iret C rfl (Nat.le_of_ble_eq_true rfl) (Nat.le_of_ble_eq_true rfl) dX2_soup_77 (pO.mk (by rw [hR]; (try subst ex3_45); (repeat (first | rw [if_neg c_29] | rw [if_neg c_37] | rw [if_pos c_48]))))
    refine e_aload_n (j := 0) C dX2_soup_0 rfl rfl ?_
    refine e_get2 (k := 14) (ref := "ScripHollow") C (by decide) rfl rfl mw_143 dX2_soup_1 ?_
    refine e_if_ne (tgt := 17) C dX2_soup_4 (by decide) (fun c_4 => ?_) (fun c_4 => absurd c_4 h2)
    refine e_iconst (v := 0) C dX2_soup_17 (by decide) ?_
    refine e_istore_n (ls2 := [(1, .int 0), (0, .ref (ρ 0))]) C hnL dX2_soup_18 rfl (by decide) rfl ?_
    refine e_iconst (v := 0) C dX2_soup_19 (by decide) ?_
    refine e_istore_n (ls2 := [(2, .int 0), (1, .int 0), (0, .ref (ρ 0))]) C hnL dX2_soup_20 rfl (by decide) rfl ?_
    exact e_sub [0, 1, 2] rfl (loop n 0 M 0 (by omega) (by rw [hR0]; unfold o_soup; rw [if_neg h2]))
def tot (M : Mem) (i : Nat) : Nat → Int32
  | 0 => 0
  | j + 1 => tot M i j + M (mS j) i
def rdC (l m u : Int32) : Int32 := if m < u then (l.toInt64 * m.toInt64 / u.toInt64).toInt32 else l
def rd1 (M : Mem) (j i : Nat) : Mem := lose M j i (M (mS j) i)
def rd2 (M : Mem) (j i : Nat) (m u : Int32) : Mem := up (rd1 M j i) (mO j) 5 (rd1 M j i (mO j) 5 + rdC (mn (M (mS j) i) (M (mS j) i)) m u)
def rd (M : Mem) (i : Nat) (m u : Int32) : Nat → Mem × Int32
  | 0 => (M, 0)
  | j + 1 => (rd2 (rd M i m u j).1 j i m u, (rd M i m u j).2 + rdC (mn ((rd M i m u j).1 (mS j) i) ((rd M i m u j).1 (mS j) i)) m u)
theorem rd_s (M : Mem) (i : Nat) (m u : Int32) (j : Nat) : rd M i m u (j + 1) = (rd2 (rd M i m u j).1 j i m u, (rd M i m u j).2 + rdC (mn ((rd M i m u j).1 (mS j) i) ((rd M i m u j).1 (mS j) i)) m u) := rfl
def rdF (M : Mem) (i : Nat) (m : Int32) (n : Nat) : Mem := up (rd M i m (tot M i n) n).1 7 5 ((rd M i m (tot M i n) n).1 7 5 + tot M i n)
def redM (M : Mem) (i : Nat) (m : Int32) (n : Nat) : Mem × Int32 := if tot M i n ≤ 0 then (M, 0) else (rdF M i m n, (rd M i m (tot M i n) n).2)
theorem l0 {x : Int32} (h : ¬ x ≤ 0) : ¬ x.toInt64 = 0 := by
  intro e
  apply h
  have e2 := congrArg Int64.toInt e
  rw [Int32.toInt_toInt64] at e2
  have e3 : x = 0 := Int32.toInt_inj.mp e2
  rw [e3]
  decide
set_option maxRecDepth 100000 in
set_option maxHeartbeats 4000000 in
theorem c_X2_redeem {l : Launch} (hl : l.stackTraces = false) {n : Nat} {ρ : Nat → Nat} {J : Nat → Int64} {M : Mem} (hn : n ≤ 10) {i : Nat} (hi : i < 40) {m : Int32} : CtO l yX2_redeem cX2_redeem 9 (some .int) 3 0 0 n ρ J M [.ref (ρ 0), .int (nI i), .int m] (rI (redM M i m n).2 (redM M i m n).1) := by
  refine CtO.of hl (by decide +kernel) (Nat.le_of_ble_eq_true rfl) (fun Ξ hnL C => ?_)
  show E Ξ n ρ J M 0 0 0 [(0, .ref (ρ 0)), (1, .int (nI i)), (2, .int m)] []
  obtain ⟨R0, hR0⟩ : ∃ z, z = rI (redM M i m n).2 (redM M i m n).1 := ⟨_, rfl⟩
  rw [← hR0] at C
  have loop2 : ¬ tot M i n ≤ 0 → ∀ (f j : Nat) (N : Mem) (g : Int32), j + f = n → rd M i m (tot M i n) j = (N, g) → E Ξ n ρ J N 0 0 55 [(5, .int (nI j)), (4, .int g), (3, .int (tot M i n)), (0, .ref (ρ 0)), (1, .int (nI i)), (2, .int m)] [] := by
    intro hz f
    unfold redM rdF at hR0
    rw [if_neg hz] at hR0
    generalize hU : tot M i n = U at hz hR0
    induction f with
    | zero =>
      intro j N g hjf hN
      have hjn : j = n := by omega
      rw [← hjn, hN] at hR0
      dsimp only at hR0
      refine e_iload (j := 0) C dX2_redeem_55 rfl ?_
      refine e_aload_n (j := 3) C dX2_redeem_57 rfl rfl ?_
      refine e_get2 (k := 0) (ref := "ScripHollow") C (by decide) rfl rfl mw_24 dX2_redeem_58 ?_
      refine e_cV (i := 1) (nA := 0) (Cn := RJx4a65c) C (c_JL_size hl) rfl (cnt_fix (by decide)) (fun _ => rfl) rfl rfl mw_69 mw_66 mw_67 mw_68 mw_23 (by decide +kernel) (by decide) rfl rfl (Nat.le_of_ble_eq_true rfl) dX2_redeem_61 (Nat.le_of_ble_eq_true rfl) (Nat.le_of_ble_eq_true rfl) ?_
      refine e_icmp_ge (tgt := 143) C dX2_redeem_64 (by decide) (fun c_64 => ?_) (fun c_64 => absurd (nI_le (by omega) (by omega)) c_64)
      refine e_aload_n (j := 3) C dX2_redeem_143 rfl rfl ?_
      refine e_get2 (k := 17) (ref := "ScripHollow") C (by decide) rfl rfl mw_38 dX2_redeem_144 ?_
      refine e_iconst (v := 5) C dX2_redeem_147 (by decide) ?_
      refine e_dup2 C dX2_redeem_148 rfl rfl ?_
      refine e_ialdN 5 C (cnt_fix (by decide)) (fun _ => rfl) rfl (by decide) (by decide) dX2_redeem_149 ?_
      refine e_iload_n (j := 2) C dX2_redeem_150 rfl rfl ?_
      refine e_iadd C dX2_redeem_151 ?_
      refine e_iastN 5 C (cnt_fix (by decide)) (fun _ _ => rfl) rfl (by decide) (by decide) dX2_redeem_152 ?_
      refine e_iload (j := 1) C dX2_redeem_153 rfl ?_
      exact e_iret C rfl (Nat.le_of_ble_eq_true rfl) (Nat.le_of_ble_eq_true rfl) dX2_redeem_155 (pO.mk hR0)
    | succ f ih =>
      intro j N g hjf hN
      have hj : j < n := by omega
      have hps := rd_s M i m U j
      rw [hN] at hps
      dsimp only at hps
      unfold rd2 rdC at hps
      refine e_iload (j := 0) C dX2_redeem_55 rfl ?_
      refine e_aload_n (j := 3) C dX2_redeem_57 rfl rfl ?_
      refine e_get2 (k := 0) (ref := "ScripHollow") C (by decide) rfl rfl mw_24 dX2_redeem_58 ?_
      refine e_cV (i := 1) (nA := 0) (Cn := RJx4a65c) C (c_JL_size hl) rfl (cnt_fix (by decide)) (fun _ => rfl) rfl rfl mw_69 mw_66 mw_67 mw_68 mw_23 (by decide +kernel) (by decide) rfl rfl (Nat.le_of_ble_eq_true rfl) dX2_redeem_61 (Nat.le_of_ble_eq_true rfl) (Nat.le_of_ble_eq_true rfl) ?_
      refine e_icmp_ge (tgt := 143) C dX2_redeem_64 (by decide) (fun c_64 => absurd c_64 (nI_ge hj (by omega))) (fun c_64 => ?_)
      refine e_aload_n (j := 3) C dX2_redeem_67 rfl rfl ?_
      refine e_get2 (k := 0) (ref := "ScripHollow") C (by decide) rfl rfl mw_24 dX2_redeem_68 ?_
      refine e_iload (j := 0) C dX2_redeem_71 rfl ?_
      refine e_cV (i := 1) (nA := 1) (Cn := RJx4a65c) C (c_JL_get hl hj hn) rfl (cnt_fix (by decide)) (fun _ => rfl) rfl rfl mw_160 mw_157 mw_158 mw_159 mw_23 (by decide +kernel) (by decide) rfl rfl (Nat.le_of_ble_eq_true rfl) dX2_redeem_73 (Nat.le_of_ble_eq_true rfl) (Nat.le_of_ble_eq_true rfl) ?_
      refine e_castM C hj mw_63 dX2_redeem_76 ?_
      refine e_astore (ls2 := [(6, .ref (ρ (mO j))), (5, .int (nI j)), (4, .int g), (3, .int U), (0, .ref (ρ 0)), (1, .int (nI i)), (2, .int m)]) C hnL dX2_redeem_79 (by decide) rfl ?_
      refine e_aload (j := 0) C dX2_redeem_81 rfl ?_
      refine e_iload_n (j := 5) C dX2_redeem_83 rfl rfl ?_
      refine e_aload (j := 0) C dX2_redeem_84 rfl ?_
      refine e_get0 (k := 11) (kk0 := j) (ref := "ScripHollow$Miner") C hj (by decide) rfl rfl mw_250 dX2_redeem_86 ?_
      refine e_iload_n (j := 5) C dX2_redeem_89 rfl rfl ?_
      refine e_ialdN i C (cnt_S hj) (fun cA => cell_S cA n ρ J j _) rfl (by omega) (by decide) dX2_redeem_90 ?_
      refine e_cV (i := (mO j)) (nA := 2) (Cn := RX0) C (c_X0_loseScrip hl hj hi) rfl (cnt_O hj) (fun cA => cell_O cA n ρ J j _) rfl rfl mw_254 mw_251 mw_252 mw_253 mw_65 (by decide +kernel) (by decide) rfl rfl (Nat.le_of_ble_eq_true rfl) dX2_redeem_91 (Nat.le_of_ble_eq_true rfl) (Nat.le_of_ble_eq_true rfl) ?_
      refine e_mem (M' := rd1 N j i) rfl ?_
      refine e_topi (fun x7_94 ex7_94 => ?_)
      refine e_istore (ls2 := [(7, .int x7_94), (6, .ref (ρ (mO j))), (5, .int (nI j)), (4, .int g), (3, .int U), (0, .ref (ρ 0)), (1, .int (nI i)), (2, .int m)]) C hnL dX2_redeem_94 (by decide) rfl ?_
      refine e_iload_n (j := 7) C dX2_redeem_96 rfl rfl ?_
      refine e_iload_n (j := 4) C dX2_redeem_97 rfl rfl ?_
      refine e_icmp_lt (tgt := 106) C dX2_redeem_98 (by decide) (fun c_98 => ?_) (fun c_98 => ?_)
      · refine e_iload (j := 0) C dX2_redeem_106 rfl ?_
        refine e_i2l C dX2_redeem_108 ?_
        refine e_iload_n (j := 7) C dX2_redeem_109 rfl rfl ?_
        refine e_i2l C dX2_redeem_110 ?_
        refine e_lmul C dX2_redeem_111 ?_
        refine e_iload_n (j := 4) C dX2_redeem_112 rfl rfl ?_
        refine e_i2l C dX2_redeem_113 ?_
        refine e_ldiv C dX2_redeem_114 (l0 hz) ?_
        refine e_l2i C dX2_redeem_115 ?_
        refine e_topi (fun x8_116 ex8_116 => ?_)
        refine e_istore (ls2 := [(8, .int x8_116), (7, .int x7_94), (6, .ref (ρ (mO j))), (5, .int (nI j)), (4, .int g), (3, .int U), (0, .ref (ρ 0)), (1, .int (nI i)), (2, .int m)]) C hnL dX2_redeem_116 (by decide) rfl ?_
        refine e_aload (j := 2) C dX2_redeem_118 rfl ?_
        refine e_dup C dX2_redeem_120 rfl ?_
        refine e_get0 (k := 5) (kk0 := j) (ref := "ScripHollow$Miner") C hj (by decide) rfl rfl mw_240 dX2_redeem_121 ?_
        refine e_iload (j := 0) C dX2_redeem_124 rfl ?_
        refine e_iadd C dX2_redeem_126 ?_
        refine e_put0 (k := 5) (kk0 := j) (ref := "ScripHollow$Miner") (ty := .int) C hj (by decide) rfl rfl (by decide +kernel) rfl rfl rfl mw_240 dX2_redeem_127 ?_
        refine e_iload (j := 4) C dX2_redeem_130 rfl ?_
        refine e_iload (j := 0) C dX2_redeem_132 rfl ?_
        refine e_iadd C dX2_redeem_134 ?_
        refine e_topi (fun x4_135 ex4_135 => ?_)
        refine e_istore (ls2 := [(4, .int x4_135), (8, .int x8_116), (7, .int x7_94), (6, .ref (ρ (mO j))), (5, .int (nI j)), (3, .int U), (0, .ref (ρ 0)), (1, .int (nI i)), (2, .int m)]) C hnL dX2_redeem_135 (by decide) rfl ?_
        obtain ⟨x5_137, ex5_137⟩ : ∃ z : Int32, z = (nI j) + 1 := ⟨_, rfl⟩
        refine e_iinc (j := 4) (v := x5_137) (ls2 := [(5, .int x5_137), (4, .int x4_135), (8, .int x8_116), (7, .int x7_94), (6, .ref (ρ (mO j))), (3, .int U), (0, .ref (ρ 0)), (1, .int (nI i)), (2, .int m)]) C hnL dX2_redeem_137 rfl (by rw [ex5_137]; rfl) (by decide) rfl ?_
        refine e_goto (tgt := 55) C dX2_redeem_140 (by decide) ?_
        subst ex5_137 ex4_135 ex8_116 ex7_94
        rw [nI_1]
        exact e_sub [0, 1, 5, 6, 7, 8] rfl (ih (j + 1) _ _ (by omega) (by rw [hps]; (repeat (first | rw [if_neg c_64] | rw [if_pos c_98]))))
      · refine e_iload (j := 0) C dX2_redeem_101 rfl ?_
        refine e_goto (tgt := 116) C dX2_redeem_103 (by decide) ?_
        refine e_istore (ls2 := [(8, .int x7_94), (7, .int x7_94), (6, .ref (ρ (mO j))), (5, .int (nI j)), (4, .int g), (3, .int U), (0, .ref (ρ 0)), (1, .int (nI i)), (2, .int m)]) C hnL dX2_redeem_116 (by decide) rfl ?_
        refine e_aload (j := 2) C dX2_redeem_118 rfl ?_
        refine e_dup C dX2_redeem_120 rfl ?_
        refine e_get0 (k := 5) (kk0 := j) (ref := "ScripHollow$Miner") C hj (by decide) rfl rfl mw_240 dX2_redeem_121 ?_
        refine e_iload (j := 0) C dX2_redeem_124 rfl ?_
        refine e_iadd C dX2_redeem_126 ?_
        refine e_put0 (k := 5) (kk0 := j) (ref := "ScripHollow$Miner") (ty := .int) C hj (by decide) rfl rfl (by decide +kernel) rfl rfl rfl mw_240 dX2_redeem_127 ?_
        refine e_iload (j := 4) C dX2_redeem_130 rfl ?_
        refine e_iload (j := 0) C dX2_redeem_132 rfl ?_
        refine e_iadd C dX2_redeem_134 ?_
        refine e_topi (fun x4_135 ex4_135 => ?_)
        refine e_istore (ls2 := [(4, .int x4_135), (8, .int x7_94), (7, .int x7_94), (6, .ref (ρ (mO j))), (5, .int (nI j)), (3, .int U), (0, .ref (ρ 0)), (1, .int (nI i)), (2, .int m)]) C hnL dX2_redeem_135 (by decide) rfl ?_
        obtain ⟨x5_137, ex5_137⟩ : ∃ z : Int32, z = (nI j) + 1 := ⟨_, rfl⟩
        refine e_iinc (j := 4) (v := x5_137) (ls2 := [(5, .int x5_137), (4, .int x4_135), (8, .int x7_94), (7, .int x7_94), (6, .ref (ρ (mO j))), (3, .int U), (0, .ref (ρ 0)), (1, .int (nI i)), (2, .int m)]) C hnL dX2_redeem_137 rfl (by rw [ex5_137]; rfl) (by decide) rfl ?_
        refine e_goto (tgt := 55) C dX2_redeem_140 (by decide) ?_
        subst ex5_137 ex4_135 ex7_94
        rw [nI_1]
        exact e_sub [0, 1, 5, 6, 7, 8] rfl (ih (j + 1) _ _ (by omega) (by rw [hps]; (repeat (first | rw [if_neg c_64] | rw [if_neg c_98]))))
  have loop : ∀ (f j : Nat), j + f = n → E Ξ n ρ J M 0 0 5 [(4, .int (nI j)), (3, .int (tot M i j)), (0, .ref (ρ 0)), (1, .int (nI i)), (2, .int m)] [] := by
    intro f
    induction f with
    | zero =>
      intro j hjf
      have hjn : j = n := by omega
      rw [hjn]
      refine e_iload (j := 0) C dX2_redeem_5 rfl ?_
      refine e_aload_n (j := 2) C dX2_redeem_7 rfl rfl ?_
      refine e_get2 (k := 0) (ref := "ScripHollow") C (by decide) rfl rfl mw_24 dX2_redeem_8 ?_
      refine e_cV (i := 1) (nA := 0) (Cn := RJx4a65c) C (c_JL_size hl) rfl (cnt_fix (by decide)) (fun _ => rfl) rfl rfl mw_69 mw_66 mw_67 mw_68 mw_23 (by decide +kernel) (by decide) rfl rfl (Nat.le_of_ble_eq_true rfl) dX2_redeem_11 (Nat.le_of_ble_eq_true rfl) (Nat.le_of_ble_eq_true rfl) ?_
      refine e_icmp_ge (tgt := 43) C dX2_redeem_14 (by decide) (fun c_14 => ?_) (fun c_14 => absurd (nI_le (Nat.le_refl n) (by omega)) c_14)
      refine e_iload_n (j := 1) C dX2_redeem_43 rfl rfl ?_
      refine e_if_gt (tgt := 49) C dX2_redeem_44 (by decide) (fun c_44 => ?_) (fun c_44 => ?_)
      · refine e_iconst (v := 0) C dX2_redeem_49 (by decide) ?_
        refine e_istore (ls2 := [(4, .int 0), (3, .int (tot M i n)), (0, .ref (ρ 0)), (1, .int (nI i)), (2, .int m)]) C hnL dX2_redeem_50 (by decide) rfl ?_
        refine e_iconst (v := 0) C dX2_redeem_52 (by decide) ?_
        refine e_istore (ls2 := [(5, .int 0), (4, .int 0), (3, .int (tot M i n)), (0, .ref (ρ 0)), (1, .int (nI i)), (2, .int m)]) C hnL dX2_redeem_53 (by decide) rfl ?_
        exact e_sub [0, 1, 2, 3, 4, 5] rfl (loop2 (Int32.not_le.mpr c_44) n 0 M 0 (by omega) rfl)
      · refine e_iconst (v := 0) C dX2_redeem_47 (by decide) ?_
        exact e_iret C rfl (Nat.le_of_ble_eq_true rfl) (Nat.le_of_ble_eq_true rfl) dX2_redeem_48 (pO.mk (by rw [hR0]; unfold redM; rw [if_pos (Int32.not_lt.mp c_44)]))
    | succ f ih =>
      intro j hjf
      have hj : j < n := by omega
      refine e_iload (j := 0) C dX2_redeem_5 rfl ?_
      refine e_aload_n (j := 2) C dX2_redeem_7 rfl rfl ?_
      refine e_get2 (k := 0) (ref := "ScripHollow") C (by decide) rfl rfl mw_24 dX2_redeem_8 ?_
      refine e_cV (i := 1) (nA := 0) (Cn := RJx4a65c) C (c_JL_size hl) rfl (cnt_fix (by decide)) (fun _ => rfl) rfl rfl mw_69 mw_66 mw_67 mw_68 mw_23 (by decide +kernel) (by decide) rfl rfl (Nat.le_of_ble_eq_true rfl) dX2_redeem_11 (Nat.le_of_ble_eq_true rfl) (Nat.le_of_ble_eq_true rfl) ?_
      refine e_icmp_ge (tgt := 43) C dX2_redeem_14 (by decide) (fun c_14 => absurd c_14 (nI_ge hj (by omega))) (fun c_14 => ?_)
      refine e_iload_n (j := 1) C dX2_redeem_17 rfl rfl ?_
      refine e_aload_n (j := 2) C dX2_redeem_18 rfl rfl ?_
      refine e_get2 (k := 0) (ref := "ScripHollow") C (by decide) rfl rfl mw_24 dX2_redeem_19 ?_
      refine e_iload (j := 0) C dX2_redeem_22 rfl ?_
      refine e_cV (i := 1) (nA := 1) (Cn := RJx4a65c) C (c_JL_get hl hj hn) rfl (cnt_fix (by decide)) (fun _ => rfl) rfl rfl mw_160 mw_157 mw_158 mw_159 mw_23 (by decide +kernel) (by decide) rfl rfl (Nat.le_of_ble_eq_true rfl) dX2_redeem_24 (Nat.le_of_ble_eq_true rfl) (Nat.le_of_ble_eq_true rfl) ?_
      refine e_castM C hj mw_63 dX2_redeem_27 ?_
      refine e_get0 (k := 11) (kk0 := j) (ref := "ScripHollow$Miner") C hj (by decide) rfl rfl mw_250 dX2_redeem_30 ?_
      refine e_iload_n (j := 3) C dX2_redeem_33 rfl rfl ?_
      refine e_ialdN i C (cnt_S hj) (fun cA => cell_S cA n ρ J j _) rfl (by omega) (by decide) dX2_redeem_34 ?_
      refine e_iadd C dX2_redeem_35 ?_
      refine e_topi (fun x3_36 ex3_36 => ?_)
      refine e_istore_n (ls2 := [(3, .int x3_36), (4, .int (nI j)), (0, .ref (ρ 0)), (1, .int (nI i)), (2, .int m)]) C hnL dX2_redeem_36 rfl (by decide) rfl ?_
      obtain ⟨x4_37, ex4_37⟩ : ∃ z : Int32, z = (nI j) + 1 := ⟨_, rfl⟩
      refine e_iinc (j := 1) (v := x4_37) (ls2 := [(4, .int x4_37), (3, .int x3_36), (0, .ref (ρ 0)), (1, .int (nI i)), (2, .int m)]) C hnL dX2_redeem_37 rfl (by rw [ex4_37]; rfl) (by decide) rfl ?_
      refine e_goto (tgt := 5) C dX2_redeem_40 (by decide) ?_
      subst ex4_37 ex3_36
      rw [nI_1]
      exact e_sub [0, 1, 2, 3, 4] rfl (ih (j + 1) (by omega))
  refine e_iconst (v := 0) C dX2_redeem_0 (by decide) ?_
  refine e_istore_n (ls2 := [(3, .int 0), (0, .ref (ρ 0)), (1, .int (nI i)), (2, .int m)]) C hnL dX2_redeem_1 rfl (by decide) rfl ?_
  refine e_iconst (v := 0) C dX2_redeem_2 (by decide) ?_
  refine e_istore (ls2 := [(4, .int 0), (3, .int 0), (0, .ref (ρ 0)), (1, .int (nI i)), (2, .int m)]) C hnL dX2_redeem_3 (by decide) rfl ?_
  exact e_sub [0, 1, 2, 3, 4] rfl (loop n 0 (by omega))
def clS (n : Nat) (M : Mem) (m : Int32) : Nat → Mem × Int32
  | 0 => (M, m)
  | i + 1 => ((redM (clS n M m i).1 i (clS n M m i).2 n).1, (clS n M m i).2 - (redM (clS n M m i).1 i (clS n M m i).2 n).2)
theorem clS_s (n : Nat) (M : Mem) (m : Int32) (i : Nat) : clS n M m (i + 1) = ((redM (clS n M m i).1 i (clS n M m i).2 n).1, (clS n M m i).2 - (redM (clS n M m i).1 i (clS n M m i).2 n).2) := rfl
def clF (N : Mem) : Mem := up (up N 0 15 1) 0 14 0
def o_close (M : Mem) (n : Nat) (m : Int32) : Out := if m < 0 ∨ 100000 < m then rX IA M else if M 0 15 = 0 then rI (clS n M m 40).2 (clF (clS n M m 40).1) else rX IS M
set_option maxRecDepth 100000 in
set_option maxHeartbeats 4000000 in
theorem c_X2_close {l : Launch} (hl : l.stackTraces = false) {n : Nat} {ρ : Nat → Nat} {J : Nat → Int64} {M : Mem} (hn : n ≤ 10) {m : Int32} : CtO l yX2_close cX2_close 4 (some .int) 7 2 12 n ρ J M [.ref (ρ 0), .int m] (o_close M n m) := by
  refine CtO.of hl (by decide +kernel) (Nat.le_of_ble_eq_true rfl) (fun Ξ hnL C => ?_)
  show E Ξ n ρ J M 0 0 0 [(0, .ref (ρ 0)), (1, .int m)] []
  obtain ⟨R0, hR0⟩ : ∃ z, z = o_close M n m := ⟨_, rfl⟩
  rw [← hR0] at C
  unfold o_close at hR0
  by_cases h : m < 0 ∨ 100000 < m
  · refine e_iload_n (j := 1) C dX2_close_0 rfl rfl ?_
    refine e_iconst (v := 0) C dX2_close_1 (by decide) ?_
    refine e_ldc (v := 100000) C dX2_close_2 mw_319 ?_
    exact e_cSx (nA := 3) C (c_X2_requireRange_x hl h) rfl mw_175 mw_173 mw_174 mw_12 (by decide +kernel) (by decide) rfl rfl (Nat.le_of_ble_eq_true rfl) dX2_close_4 (Nat.le_of_ble_eq_true rfl) (Nat.le_of_ble_eq_true rfl) (by rw [hR0, if_pos h])
  · rw [if_neg h] at hR0
    by_cases h2 : M 0 15 = 0
    · rw [if_pos h2] at hR0
      have loop : ∀ (f j : Nat) (N : Mem) (g : Int32), j + f = 40 → clS n M m j = (N, g) → E Ξ n ρ J N 1 6 28 [(3, .int (nI j)), (2, .int g), (0, .ref (ρ 0)), (1, .int m)] [] := by
        intro f
        induction f with
        | zero =>
          intro j N g hjf hN
          have hjn : j = 40 := by omega
          rw [← hjn, hN] at hR0
          refine e_iload_n (j := 0) C dX2_close_28 rfl rfl ?_
          refine e_bipush (v := 40) C dX2_close_29 (by decide) ?_
          refine e_icmp_ge (tgt := 49) C dX2_close_31 (by decide) (fun c_31 => ?_) (fun c_31 => absurd (nI_le (a := 40) (b := j) (by omega) (by omega)) c_31)
          refine e_aload_n (j := 2) C dX2_close_49 rfl rfl ?_
          refine e_iconst (v := 1) C dX2_close_50 (by decide) ?_
          refine e_put2 (k := 15) (ref := "ScripHollow") (ty := .boolean) C (by decide) rfl rfl (by decide +kernel) rfl rfl rfl mw_144 dX2_close_51 ?_
          refine e_aload_n (j := 2) C dX2_close_54 rfl rfl ?_
          refine e_iconst (v := 0) C dX2_close_55 (by decide) ?_
          refine e_put2 (k := 14) (ref := "ScripHollow") (ty := .boolean) C (by decide) rfl rfl (by decide +kernel) rfl rfl rfl mw_143 dX2_close_56 ?_
          refine e_iload_n (j := 1) C dX2_close_59 rfl rfl ?_
          exact e_iret C rfl (Nat.le_of_ble_eq_true rfl) (Nat.le_of_ble_eq_true rfl) dX2_close_60 (pO.mk hR0)
        | succ f ih =>
          intro j N g hjf hN
          have hps := clS_s n M m j
          rw [hN] at hps
          refine e_iload_n (j := 0) C dX2_close_28 rfl rfl ?_
          refine e_bipush (v := 40) C dX2_close_29 (by decide) ?_
          refine e_icmp_ge (tgt := 49) C dX2_close_31 (by decide) (fun c_31 => absurd c_31 (nI_ge (a := j) (b := 40) (by omega) (by omega))) (fun c_31 => ?_)
          refine e_iload_n (j := 1) C dX2_close_34 rfl rfl ?_
          refine e_aload_n (j := 2) C dX2_close_35 rfl rfl ?_
          refine e_iload_n (j := 0) C dX2_close_36 rfl rfl ?_
          refine e_iload_n (j := 1) C dX2_close_37 rfl rfl ?_
          refine e_cV (i := 0) (nA := 2) (Cn := RX2) C (c_X2_redeem hl hn (i := j) (by omega)) rfl (cnt_fix (by decide)) (fun _ => rfl) rfl rfl mw_447 mw_444 mw_445 mw_446 mw_12 (by decide +kernel) (by decide) rfl rfl (Nat.le_of_ble_eq_true rfl) dX2_close_38 (Nat.le_of_ble_eq_true rfl) (Nat.le_of_ble_eq_true rfl) ?_
          refine e_isub C dX2_close_41 ?_
          refine e_topi (fun x2_42 ex2_42 => ?_)
          refine e_istore_n (ls2 := [(2, .int x2_42), (3, .int (nI j)), (0, .ref (ρ 0)), (1, .int m)]) C hnL dX2_close_42 rfl (by decide) rfl ?_
          obtain ⟨x3_43, ex3_43⟩ : ∃ z : Int32, z = (nI j) + 1 := ⟨_, rfl⟩
          refine e_iinc (j := 1) (v := x3_43) (ls2 := [(3, .int x3_43), (2, .int x2_42), (0, .ref (ρ 0)), (1, .int m)]) C hnL dX2_close_43 rfl (by rw [ex3_43]; rfl) (by decide) rfl ?_
          refine e_goto (tgt := 28) C dX2_close_46 (by decide) ?_
          subst ex3_43 ex2_42
          rw [nI_1]
          exact e_sub [0, 1, 2, 3] rfl (ih (j + 1) _ _ (by omega) hps)
      refine e_iload_n (j := 1) C dX2_close_0 rfl rfl ?_
      refine e_iconst (v := 0) C dX2_close_1 (by decide) ?_
      refine e_ldc (v := 100000) C dX2_close_2 mw_319 ?_
      refine e_cS (nA := 3) C (c_X2_requireRange hl (rng_ok h).1 (rng_ok h).2) rfl mw_175 mw_173 mw_174 mw_12 (by decide +kernel) (by decide) rfl rfl (Nat.le_of_ble_eq_true rfl) dX2_close_4 (Nat.le_of_ble_eq_true rfl) (Nat.le_of_ble_eq_true rfl) ?_
      refine e_aload_n (j := 0) C dX2_close_7 rfl rfl ?_
      refine e_get2 (k := 15) (ref := "ScripHollow") C (by decide) rfl rfl mw_144 dX2_close_8 ?_
      refine e_if_eq (tgt := 24) C dX2_close_11 (by decide) (fun c_11 => ?_) (fun c_11 => absurd h2 c_11)
      refine e_iload_n (j := 1) C dX2_close_24 rfl rfl ?_
      refine e_istore_n (ls2 := [(2, .int m), (0, .ref (ρ 0)), (1, .int m)]) C hnL dX2_close_25 rfl (by decide) rfl ?_
      refine e_iconst (v := 0) C dX2_close_26 (by decide) ?_
      refine e_istore_n (ls2 := [(3, .int 0), (2, .int m), (0, .ref (ρ 0)), (1, .int m)]) C hnL dX2_close_27 rfl (by decide) rfl ?_
      exact e_sub [0, 1, 2, 3] rfl (loop 40 0 M m (by omega) rfl)
    · rw [if_neg h2] at hR0
      refine e_iload_n (j := 1) C dX2_close_0 rfl rfl ?_
      refine e_iconst (v := 0) C dX2_close_1 (by decide) ?_
      refine e_ldc (v := 100000) C dX2_close_2 mw_319 ?_
      refine e_cS (nA := 3) C (c_X2_requireRange hl (rng_ok h).1 (rng_ok h).2) rfl mw_175 mw_173 mw_174 mw_12 (by decide +kernel) (by decide) rfl rfl (Nat.le_of_ble_eq_true rfl) dX2_close_4 (Nat.le_of_ble_eq_true rfl) (Nat.le_of_ble_eq_true rfl) ?_
      refine e_aload_n (j := 0) C dX2_close_7 rfl rfl ?_
      refine e_get2 (k := 15) (ref := "ScripHollow") C (by decide) rfl rfl mw_144 dX2_close_8 ?_
      refine e_if_eq (tgt := 24) C dX2_close_11 (by decide) (fun c_11 => absurd c_11 h2) (fun c_11 => ?_)
      exact e_throw (text := "the mine is closed") C th_IS mw_61 mw_62 (by decide) rfl rfl dX2_close_14 dX2_close_17 dX2_close_18 dX2_close_20 dX2_close_23 (by decide) (Nat.le_of_ble_eq_true rfl) (Nat.le_of_ble_eq_true rfl) (Nat.le_of_ble_eq_true rfl) (Nat.le_of_ble_eq_true rfl) (Nat.le_of_ble_eq_true rfl) (xO.mk hR0)
end
section
/-! Worlds of any shape: the judgement G, its context CB, its contracts CG. -/
abbrev Wd : Type := (Nat → ClassId) → va_W
abbrev EXT : Type := (Nat → Prop) → State → Heap → Prop
abbrev wsd (n : Nat) (ρ : Nat → Nat) (J : Nat → Int64) (M : Mem) : Wd := fun cA => ws cA n ρ J M
/-- what is carried through calls -/
def Carr (EX : EXT) : Prop := ∀ (A A' : Nat → Prop) (s U : State) (H0 H : Heap), s.WarmedH U.vm → EX A s H0 → (∀ a : Nat, a < H0.size → ¬ A a → H[a]? = H0[a]?) → (∀ q, A' q → A q) → EX A' U H
theorem carrGP : Carr GP := fun _ _ _ _ _ _ hW h hq hA => GP.warm hW h hq hA
def G (Ξ : CT) (w : Wd) (a b pc : Nat) (ls : List (Nat × Value)) (st : List Value) : Prop :=
  ∀ (H : Heap) (locs : List Loc) (lsA : Array Slot), va_P Ξ.2.2.1 vwCl (w Ξ.2.2.2.1) H → va_D Ξ.2.2.2.2.1 (w Ξ.2.2.2.1) → va_S Ξ.2.2.2.2.1 Ξ.2.2.2.2.2.1 H locs → lv_has lsA Ξ.2.2.2.2.2.2 ls → Ξ.1 H locs a b (F0 Ξ.2.1 pc lsA st)
/-- what stands throughout a walk, whatever its end -/
def CB (EX : EXT) (l : Launch) (R : Room) (cc : ByteArray) (own mn : String) (tb : List ExceptionTableEntry) (Ξ : CT) : Prop :=
  ∃ (p : Program) (e : Env) (s : State) (m : MethodId) (args : Array Value) (below : List Frame) (meth : Method) (c : Code) (D : va_G) (cA : Nat → ClassId) (A : Nat → Prop) (nL : Nat) (Z : State → Prop),
    Ξ = (fun H locs a b g => W p l e R s m args below meth c H locs a b Z g, m, D, cA, A, s.heap, nL) ∧
    p.tables.exec = Jvm.exec ∧ c.code = cc ∧ c.maxLocals = nL ∧ s.vm.findClass own = some m.cls ∧ meth.name = mn ∧ (∀ w ∈ GW, w.before args s = true) ∧ KK D cA s ∧ (∀ (A : Nat → Prop) (s : State) (H : Heap), EX A s H → GP A s H) ∧ EX A s s.heap ∧ c.exceptionTable.toList = tb ∧ (∀ q, s.heap.size ≤ q → A q) ∧ l.stackTraces = false
def Bg (D : va_G) (cA : Nat → ClassId) (A : Nat → Prop) (w : Wd) (t : State) : Prop := va_P D vwCl (w cA) t.heap ∧ va_D A (w cA)
def Qg (D : va_G) (cA : Nat → ClassId) (A : Nat → Prop) (post : Option Value → Wd → Prop) : Array Value → State → Outcome → State → Prop := fun _ st o t => (∃ (v : Option Value) (w : Wd), o = .returned v ∧ post v w ∧ Bg D cA A w t) ∧ va_F A st t
def Xg (D : va_G) (cA : Nat → ClassId) (A : Nat → Prop) (exc : String → Wd → Prop) : String → State → State → Prop := fun Ex st t => (∃ w : Wd, exc Ex w ∧ Bg D cA A w t) ∧ va_F A st t
/-- .. with the end of a method -/
def CQ (EX : EXT) (l : Launch) (R : Room) (cc : ByteArray) (own mn : String) (ret : Option FieldType) (mc ms : Nat) (tb : List ExceptionTableEntry) (post : Option Value → Wd → Prop) (exc : String → Wd → Prop) (Ξ : CT) : Prop :=
  ∃ (p : Program) (e : Env) (s : State) (m : MethodId) (args : Array Value) (below : List Frame) (meth : Method) (c : Code) (D : va_G) (cA : Nat → ClassId) (A : Nat → Prop) (nL : Nat),
    Ξ = (fun H locs a b g => W p l e R s m args below meth c H locs a b (vx_MQ below (Qg D cA A post) (Xg D cA A exc) args s mc ms A) g, m, D, cA, A, s.heap, nL) ∧
    p.tables.exec = Jvm.exec ∧ c.code = cc ∧ c.maxLocals = nL ∧ s.vm.findClass own = some m.cls ∧ meth.name = mn ∧ (∀ w ∈ GW, w.before args s = true) ∧ KK D cA s ∧ (∀ (A : Nat → Prop) (s : State) (H : Heap), EX A s H → GP A s H) ∧ EX A s s.heap ∧ meth.sig.returnType = ret ∧ meth.locks = false ∧ c.exceptionTable.toList = tb ∧ (∀ q, s.heap.size ≤ q → A q) ∧ l.stackTraces = false
theorem CQ.b {EX : EXT} {l : Launch} {R : Room} {cc : ByteArray} {own mn : String} {ret : Option FieldType} {mc ms : Nat} {tb : List ExceptionTableEntry} {post : Option Value → Wd → Prop} {exc : String → Wd → Prop} {Ξ : CT} (C : CQ EX l R cc own mn ret mc ms tb post exc Ξ) : CB EX l R cc own mn tb Ξ := by
  obtain ⟨p, e, s, m, args, below, meth, c, D, cA, A, nL, rfl, hx, hb, hml, hown, hmn, hts, hK, hG, hE, hr, hlk, htb, hA, hst⟩ := C
  exact ⟨p, e, s, m, args, below, meth, c, D, cA, A, nL, _, rfl, hx, hb, hml, hown, hmn, hts, hK, hG, hE, htb, hA, hst⟩
/-- a contract over worlds -/
def CG (EX : EXT) (l : Launch) (y : MethodName) (WL : List Cond) (h mc ms : Nat) (w : Wd) (As : List Value) (post : Option Value → Wd → Prop) (exc : String → Wd → Prop) : Prop :=
  ∀ (D : va_G) (cA : Nat → ClassId) (sz : Nat), ∃ (Q : Array Value → State → Outcome → State → Prop) (X : String → State → State → Prop),
    vx_Met l y WL (rmm h mc ms) (va_Pc As (fun U => U.heap.size = sz ∧ va_P D vwCl (w cA) U.heap ∧ va_D (fun _ => True) (w cA) ∧ KK D cA U ∧ EX (va_A (w cA) sz) U U.heap)) Q X mc ms (va_A (w cA) sz) ∧
    (∀ (aa : Array Value) (st : State) (v : Option Value) (t : State), Q aa st (.returned v) t → (∃ w' : Wd, post v w' ∧ Bg D cA (va_A (w cA) sz) w' t) ∧ va_F (va_A (w cA) sz) st t) ∧
    (∀ (Ex : String) (st t : State), X Ex st t → (∃ w' : Wd, exc Ex w' ∧ Bg D cA (va_A (w cA) sz) w' t) ∧ va_F (va_A (w cA) sz) st t)
theorem Ct.g {l : Launch} {y : MethodName} {W : List Cond} {h mc ms n : Nat} {ρ : Nat → Nat} {J : Nat → Int64} {M : Mem} {As : List Value} {post : Option Value → St → Prop} {exc : String → St → Prop} (hc : Ct l y W h mc ms n ρ J M As post exc) :
    CG GP l y W h mc ms (wsd n ρ J M) As (fun v w => ∃ u : St, post v u ∧ w = wsd u.1 u.2.1 u.2.2.1 u.2.2.2) (fun Ex w => ∃ u : St, exc Ex u ∧ w = wsd u.1 u.2.1 u.2.2.1 u.2.2.2) := by
  intro D cA sz
  refine ⟨_, _, hc D cA sz, ?_, ?_⟩
  · rintro aa st v t ⟨⟨v2, u, hv, hp, hB⟩, hF⟩
    cases hv
    exact ⟨⟨_, ⟨u, hp, rfl⟩, hB⟩, hF⟩
  · rintro Ex st t ⟨⟨u, hp, hB⟩, hF⟩
    exact ⟨⟨_, ⟨u, hp, rfl⟩, hB⟩, hF⟩
theorem CtO.g {l : Launch} {y : MethodName} {cy : ByteArray} {maxL : Nat} {ry : Option FieldType} {h mc ms n : Nat} {ρ : Nat → Nat} {J : Nat → Int64} {M : Mem} {As : List Value} {o : Out} (hc : CtO l y cy maxL ry h mc ms n ρ J M As o) :
    CG GP l y (Cond.code y cy maxL ry :: GW) h mc ms (wsd n ρ J M) As (fun v w => o.1 = .inr v ∧ w = wsd n ρ J o.2) (fun Ex w => o.1 = .inl Ex ∧ w = wsd n ρ J o.2) := by
  intro D cA sz
  obtain ⟨Q, X, h1, h2, h3⟩ := Ct.g hc D cA sz
  refine ⟨Q, X, h1, fun aa st v t q => ?_, fun Ex st t q => ?_⟩
  · obtain ⟨⟨w', ⟨u, ⟨hu, ho⟩, hw⟩, hB⟩, hF⟩ := h2 aa st v t q
    subst hu
    exact ⟨⟨w', ⟨ho, hw⟩, hB⟩, hF⟩
  · obtain ⟨⟨w', ⟨u, ⟨hu, ho⟩, hw⟩, hB⟩, hF⟩ := h3 Ex st t q
    subst hu
    exact ⟨⟨w', ⟨ho, hw⟩, hB⟩, hF⟩
/-- a contract out of a walk -/
theorem CG.of {EX : EXT} {l : Launch} {y : MethodName} {h mc ms : Nat} {w : Wd} {As : List Value} {post : Option Value → Wd → Prop} {exc : String → Wd → Prop} {cc : ByteArray} {maxL : Nat} {ret : Option FieldType}
    (hEX : ∀ (A : Nat → Prop) (s : State) (H : Heap), EX A s H → GP A s H) (hl : l.stackTraces = false) (hy : plainName y.cls = true) (hlen : (lg_sl As).length ≤ maxL)
    (body : ∀ Ξ : CT, Ξ.2.2.2.2.2.2 = maxL → CQ EX l (rmm h mc ms) cc y.cls y.name ret mc ms [] post exc Ξ → G Ξ w 0 0 0 (lv_args 0 As) []) : CG EX l y (Cond.code y cc maxL ret :: GW) h mc ms w As post exc := by
  intro D cA sz
  refine ⟨Qg D cA (va_A (w cA) sz) post, Xg D cA (va_A (w cA) sz) exc, ?_, ?_, fun Ex st t q => q⟩
  rotate_left
  · rintro aa st v t ⟨⟨v2, u, hv, hp, hB⟩, hF⟩
    cases hv
    exact ⟨⟨_, hp, hB⟩, hF⟩
  refine vx_ofW (cc := cc) (maxL := maxL) (ret := ret) hy rfl ?_
  intro p e s m args below meth c s₁ B hml htb hv
  obtain ⟨rfl, hsz, hP, hD0, hK, hE⟩ := hv
  have hts := atoms_spec (ws := Cond.code y cc maxL ret :: GW) B.pre
  have hown : s.vm.findClass y.cls = some m.cls := findClass_of_methodNamed B.named
  subst hsz
  have htb' : c.exceptionTable.toList = [] := by
    cases hq : c.exceptionTable.toList with
    | nil => rfl
    | cons x t => exact absurd (htb x (by rw [hq]; exact List.mem_cons_self)) id
  have hC : CQ EX l (rmm h mc ms) cc y.cls y.name ret mc ms [] post exc (fun H locs a b g => W p l e (rmm h mc ms) s m As.toArray below meth c H locs a b (vx_MQ below (Qg D cA (va_A (w cA) s.heap.size) post) (Xg D cA (va_A (w cA) s.heap.size) exc) As.toArray s mc ms (va_A (w cA) s.heap.size)) g, m, D, cA, va_A (w cA) s.heap.size, s.heap, maxL) :=
    ⟨p, e, s, m, As.toArray, below, meth, c, D, cA, va_A (w cA) s.heap.size, maxL, rfl, B.exec, B.bytes, hml, hown, (name_of_methodNamed B.named B.method).1, (fun w hwG => hts w (List.mem_cons_of_mem _ hwG)), hK, hEX, hE, B.returns, B.notSynchronized, htb', (fun q hq => Or.inr hq), hl⟩
  have hE := body _ rfl hC
  have hl0 := lv_entry As (n := maxL) hlen
  rw [lg_entry_eq]
  exact hE s.heap [] _ hP hD0.self va_S.rf hl0
/-- .. with handlers -/
theorem CG.ofH {EX : EXT} {l : Launch} {y : MethodName} {h mc ms : Nat} {w : Wd} {As : List Value} {post : Option Value → Wd → Prop} {exc : String → Wd → Prop} {cc : ByteArray} {maxL : Nat} {ret : Option FieldType} {hh : List (Nat × Nat × Nat × Nat)}
    (hEX : ∀ (A : Nat → Prop) (s : State) (H : Heap), EX A s H → GP A s H) (hl : l.stackTraces = false) (hy : plainName y.cls = true) (hlen : (lg_sl As).length ≤ maxL)
    (body : ∀ Ξ : CT, Ξ.2.2.2.2.2.2 = maxL → CQ EX l (rmm h mc ms) cc y.cls y.name ret mc ms (tableOf hh) post exc Ξ → G Ξ w 0 0 0 (lv_args 0 As) []) : CG EX l y (Cond.codeWith y cc maxL ret hh :: GW) h mc ms w As post exc := by
  intro D cA sz
  refine ⟨Qg D cA (va_A (w cA) sz) post, Xg D cA (va_A (w cA) sz) exc, ?_, ?_, fun Ex st t q => q⟩
  rotate_left
  · rintro aa st v t ⟨⟨v2, u, hv, hp, hB⟩, hF⟩
    cases hv
    exact ⟨⟨_, hp, hB⟩, hF⟩
  refine vx_ofWH (cc := cc) (maxL := maxL) (ret := ret) (hh := hh) hy rfl ?_
  intro p e s m args below meth c s₁ B hml hv
  obtain ⟨rfl, hsz, hP, hD0, hK, hE⟩ := hv
  have hts := atoms_spec (ws := Cond.codeWith y cc maxL ret hh :: GW) B.pre
  have hown : s.vm.findClass y.cls = some m.cls := findClass_of_methodNamed B.named
  subst hsz
  have htb' : c.exceptionTable.toList = tableOf hh := vx_table (x := y) B (hts _ List.mem_cons_self)
  have hC : CQ EX l (rmm h mc ms) cc y.cls y.name ret mc ms (tableOf hh) post exc (fun H locs a b g => W p l e (rmm h mc ms) s m As.toArray below meth c H locs a b (vx_MQ below (Qg D cA (va_A (w cA) s.heap.size) post) (Xg D cA (va_A (w cA) s.heap.size) exc) As.toArray s mc ms (va_A (w cA) s.heap.size)) g, m, D, cA, va_A (w cA) s.heap.size, s.heap, maxL) :=
    ⟨p, e, s, m, As.toArray, below, meth, c, D, cA, va_A (w cA) s.heap.size, maxL, rfl, B.exec, B.bytes, hml, hown, (name_of_methodNamed B.named B.method).1, (fun w hwG => hts w (List.mem_cons_of_mem _ hwG)), hK, hEX, hE, B.returns, B.notSynchronized, htb', (fun q hq => Or.inr hq), hl⟩
  have hE := body _ rfl hC
  have hl0 := lv_entry As (n := maxL) hlen
  rw [lg_entry_eq]
  exact hE s.heap [] _ hP hD0.self va_S.rf hl0
section GRows
variable {EX : EXT} {l : Launch} {R : Room} {cc : ByteArray} {own mn : String} {ret : Option FieldType} {mc ms : Nat} {tb : List ExceptionTableEntry} {post : Option Value → Wd → Prop} {exc : String → Wd → Prop} {Ξ : CT}
variable {w : Wd} {a b pc : Nat} {ls ls2 : List (Nat × Value)} {st : List Value}
theorem g_topi {x : Int32} (h : ∀ y : Int32, y = x → G Ξ w a b pc ls (.int y :: st)) : G Ξ w a b pc ls (.int x :: st) := h x rfl
theorem g_topl {z : Int64} (h : ∀ y : Int64, y = z → G Ξ w a b pc ls (.long y :: st)) : G Ξ w a b pc ls (.long z :: st) := h z rfl
theorem g_w {w' : Wd} (h : w = w') (k : G Ξ w' a b pc ls st) : G Ξ w a b pc ls st := h ▸ k
theorem g_cnt {a' b' : Nat} (h1 : a = a') (h2 : b = b') (k : G Ξ w a' b' pc ls st) : G Ξ w a b pc ls st := by subst h1; subst h2; exact k
theorem g_iconst {k : Int} {v : Int32} (C : CB EX l R cc own mn tb Ξ) (d : decode cc pc = .ok (.iconst k, 1)) (hv : Int32.ofInt k = v) (kk : G Ξ w a b (pc + 1) ls (.int v :: st)) : G Ξ w a b pc ls st := by
  obtain ⟨p, e, s, m, args, below, meth, c, D, cA, A, nL, Z, rfl, hx, hb, hml, hown, hmn, hts, hK, hG, hE, htb, hA, hst⟩ := C
  intro H locs lsA hP hD hS hl
  exact lv_iconst hx hb d hv (kk H locs lsA hP hD hS hl)
theorem g_bipush {k : Int} {v : Int32} (C : CB EX l R cc own mn tb Ξ) (d : decode cc pc = .ok (.bipush k, 2)) (hv : (Int8.ofInt k).toInt32 = v) (kk : G Ξ w a b (pc + 2) ls (.int v :: st)) : G Ξ w a b pc ls st := by
  obtain ⟨p, e, s, m, args, below, meth, c, D, cA, A, nL, Z, rfl, hx, hb, hml, hown, hmn, hts, hK, hG, hE, htb, hA, hst⟩ := C
  intro H locs lsA hP hD hS hl
  exact lv_bipush hx hb d hv (kk H locs lsA hP hD hS hl)
theorem g_sipush {k : Int} {v : Int32} (C : CB EX l R cc own mn tb Ξ) (d : decode cc pc = .ok (.sipush k, 3)) (hv : (Int16.ofInt k).toInt32 = v) (kk : G Ξ w a b (pc + 3) ls (.int v :: st)) : G Ξ w a b pc ls st := by
  obtain ⟨p, e, s, m, args, below, meth, c, D, cA, A, nL, Z, rfl, hx, hb, hml, hown, hmn, hts, hK, hG, hE, htb, hA, hst⟩ := C
  intro H locs lsA hP hD hS hl
  exact lv_sipush hx hb d hv (kk H locs lsA hP hD hS hl)
theorem g_lconst {k : Fin 2} {v : Int64} (C : CB EX l R cc own mn tb Ξ) (d : decode cc pc = .ok (.lconst k, 1)) (hv : Int64.ofNat (k : Nat) = v) (kk : G Ξ w a b (pc + 1) ls (.long v :: st)) : G Ξ w a b pc ls st := by
  obtain ⟨p, e, s, m, args, below, meth, c, D, cA, A, nL, Z, rfl, hx, hb, hml, hown, hmn, hts, hK, hG, hE, htb, hA, hst⟩ := C
  intro H locs lsA hP hD hS hl
  exact lv_lconst hx hb d hv (kk H locs lsA hP hD hS hl)
theorem g_iload_n {k : Fin 4} {i j : Nat} {x : Int32} (C : CB EX l R cc own mn tb Ξ) (d : decode cc pc = .ok (.iload_n k, 1)) (hi : (k : Nat) = i) (h : ls[j]? = some (i, .int x)) (kk : G Ξ w a b (pc + 1) ls (.int x :: st)) : G Ξ w a b pc ls st := by
  obtain ⟨p, e, s, m, args, below, meth, c, D, cA, A, nL, Z, rfl, hx, hb, hml, hown, hmn, hts, hK, hG, hE, htb, hA, hst⟩ := C
  intro H locs lsA hP hD hS hl
  exact lv_iload_n hx hb d hi (lv_at hl j h) (kk H locs lsA hP hD hS hl)
theorem g_iload {i j : Nat} {x : Int32} (C : CB EX l R cc own mn tb Ξ) (d : decode cc pc = .ok (.iload i, 2)) (h : ls[j]? = some (i, .int x)) (kk : G Ξ w a b (pc + 2) ls (.int x :: st)) : G Ξ w a b pc ls st := by
  obtain ⟨p, e, s, m, args, below, meth, c, D, cA, A, nL, Z, rfl, hx, hb, hml, hown, hmn, hts, hK, hG, hE, htb, hA, hst⟩ := C
  intro H locs lsA hP hD hS hl
  exact lv_iload hx hb d (lv_at hl j h) (kk H locs lsA hP hD hS hl)
theorem g_lload_n {k : Fin 4} {i j : Nat} {x : Int64} (C : CB EX l R cc own mn tb Ξ) (d : decode cc pc = .ok (.lload_n k, 1)) (hi : (k : Nat) = i) (h : ls[j]? = some (i, .long x)) (kk : G Ξ w a b (pc + 1) ls (.long x :: st)) : G Ξ w a b pc ls st := by
  obtain ⟨p, e, s, m, args, below, meth, c, D, cA, A, nL, Z, rfl, hx, hb, hml, hown, hmn, hts, hK, hG, hE, htb, hA, hst⟩ := C
  intro H locs lsA hP hD hS hl
  exact lv_lload_n hx hb d hi (lv_at hl j h) (kk H locs lsA hP hD hS hl)
theorem g_lload {i j : Nat} {x : Int64} (C : CB EX l R cc own mn tb Ξ) (d : decode cc pc = .ok (.lload i, 2)) (h : ls[j]? = some (i, .long x)) (kk : G Ξ w a b (pc + 2) ls (.long x :: st)) : G Ξ w a b pc ls st := by
  obtain ⟨p, e, s, m, args, below, meth, c, D, cA, A, nL, Z, rfl, hx, hb, hml, hown, hmn, hts, hK, hG, hE, htb, hA, hst⟩ := C
  intro H locs lsA hP hD hS hl
  exact lv_lload hx hb d (lv_at hl j h) (kk H locs lsA hP hD hS hl)
theorem g_aload_n {k : Fin 4} {i j : Nat} {x : Nat} (C : CB EX l R cc own mn tb Ξ) (d : decode cc pc = .ok (.aload_n k, 1)) (hi : (k : Nat) = i) (h : ls[j]? = some (i, .ref x)) (kk : G Ξ w a b (pc + 1) ls (.ref x :: st)) : G Ξ w a b pc ls st := by
  obtain ⟨p, e, s, m, args, below, meth, c, D, cA, A, nL, Z, rfl, hx, hb, hml, hown, hmn, hts, hK, hG, hE, htb, hA, hst⟩ := C
  intro H locs lsA hP hD hS hl
  exact lv_aload_n hx hb d hi (lv_at hl j h) (kk H locs lsA hP hD hS hl)
theorem g_aload {i j : Nat} {x : Nat} (C : CB EX l R cc own mn tb Ξ) (d : decode cc pc = .ok (.aload i, 2)) (h : ls[j]? = some (i, .ref x)) (kk : G Ξ w a b (pc + 2) ls (.ref x :: st)) : G Ξ w a b pc ls st := by
  obtain ⟨p, e, s, m, args, below, meth, c, D, cA, A, nL, Z, rfl, hx, hb, hml, hown, hmn, hts, hK, hG, hE, htb, hA, hst⟩ := C
  intro H locs lsA hP hD hS hl
  exact lv_aload hx hb d (lv_at hl j h) (kk H locs lsA hP hD hS hl)
theorem g_istore_n {k : Fin 4} {i nL0 : Nat} {x : Int32} (C : CB EX l R cc own mn tb Ξ) (hnL : Ξ.2.2.2.2.2.2 = nL0) (d : decode cc pc = .ok (.istore_n k, 1)) (hi : (k : Nat) = i) (hn : i < nL0) (hf : (i, Value.int x) :: ls.filter (fun q => !(q.1 == i) && !(q.1 + 1 == i && q.2.category == 2)) = ls2) (kk : G Ξ w a b (pc + 1) ls2 st) : G Ξ w a b pc ls (.int x :: st) := by
  obtain ⟨p, e, s, m, args, below, meth, c, D, cA, A, nL, Z, rfl, hx, hb, hml, hown, hmn, hts, hK, hG, hE, htb, hA, hst⟩ := C
  intro H locs lsA hP hD hS hl
  subst hnL
  exact lv_istore_n hx hb d hi hl hn hf (fun ls2 hl => kk H locs ls2 hP hD hS hl)
theorem g_istore {i nL0 : Nat} {x : Int32} (C : CB EX l R cc own mn tb Ξ) (hnL : Ξ.2.2.2.2.2.2 = nL0) (d : decode cc pc = .ok (.istore i, 2)) (hn : i < nL0) (hf : (i, Value.int x) :: ls.filter (fun q => !(q.1 == i) && !(q.1 + 1 == i && q.2.category == 2)) = ls2) (kk : G Ξ w a b (pc + 2) ls2 st) : G Ξ w a b pc ls (.int x :: st) := by
  obtain ⟨p, e, s, m, args, below, meth, c, D, cA, A, nL, Z, rfl, hx, hb, hml, hown, hmn, hts, hK, hG, hE, htb, hA, hst⟩ := C
  intro H locs lsA hP hD hS hl
  subst hnL
  exact lv_istore hx hb d hl hn hf (fun ls2 hl => kk H locs ls2 hP hD hS hl)
theorem g_astore_n {k : Fin 4} {i nL0 : Nat} {x : Nat} (C : CB EX l R cc own mn tb Ξ) (hnL : Ξ.2.2.2.2.2.2 = nL0) (d : decode cc pc = .ok (.astore_n k, 1)) (hi : (k : Nat) = i) (hn : i < nL0) (hf : (i, Value.ref x) :: ls.filter (fun q => !(q.1 == i) && !(q.1 + 1 == i && q.2.category == 2)) = ls2) (kk : G Ξ w a b (pc + 1) ls2 st) : G Ξ w a b pc ls (.ref x :: st) := by
  obtain ⟨p, e, s, m, args, below, meth, c, D, cA, A, nL, Z, rfl, hx, hb, hml, hown, hmn, hts, hK, hG, hE, htb, hA, hst⟩ := C
  intro H locs lsA hP hD hS hl
  subst hnL
  exact lv_astore_n hx hb d hi hl hn hf (fun ls2 hl => kk H locs ls2 hP hD hS hl)
theorem g_astore {i nL0 : Nat} {x : Nat} (C : CB EX l R cc own mn tb Ξ) (hnL : Ξ.2.2.2.2.2.2 = nL0) (d : decode cc pc = .ok (.astore i, 2)) (hn : i < nL0) (hf : (i, Value.ref x) :: ls.filter (fun q => !(q.1 == i) && !(q.1 + 1 == i && q.2.category == 2)) = ls2) (kk : G Ξ w a b (pc + 2) ls2 st) : G Ξ w a b pc ls (.ref x :: st) := by
  obtain ⟨p, e, s, m, args, below, meth, c, D, cA, A, nL, Z, rfl, hx, hb, hml, hown, hmn, hts, hK, hG, hE, htb, hA, hst⟩ := C
  intro H locs lsA hP hD hS hl
  subst hnL
  exact lv_astore hx hb d hl hn hf (fun ls2 hl => kk H locs ls2 hP hD hS hl)
theorem g_lstore_n {k : Fin 4} {i nL0 : Nat} {x : Int64} (C : CB EX l R cc own mn tb Ξ) (hnL : Ξ.2.2.2.2.2.2 = nL0) (d : decode cc pc = .ok (.lstore_n k, 1)) (hi : (k : Nat) = i) (hn : i + 1 < nL0) (hf : (i, Value.long x) :: ls.filter (fun q => !(q.1 == i) && (!(q.1 == i + 1) && !(q.1 + 1 == i && q.2.category == 2))) = ls2) (kk : G Ξ w a b (pc + 1) ls2 st) : G Ξ w a b pc ls (.long x :: st) := by
  obtain ⟨p, e, s, m, args, below, meth, c, D, cA, A, nL, Z, rfl, hx, hb, hml, hown, hmn, hts, hK, hG, hE, htb, hA, hst⟩ := C
  intro H locs lsA hP hD hS hl
  subst hnL
  exact lv_lstore_n hx hb d hi hl hn hf (fun ls2 hl => kk H locs ls2 hP hD hS hl)
theorem g_lstore {i nL0 : Nat} {x : Int64} (C : CB EX l R cc own mn tb Ξ) (hnL : Ξ.2.2.2.2.2.2 = nL0) (d : decode cc pc = .ok (.lstore i, 2)) (hn : i + 1 < nL0) (hf : (i, Value.long x) :: ls.filter (fun q => !(q.1 == i) && (!(q.1 == i + 1) && !(q.1 + 1 == i && q.2.category == 2))) = ls2) (kk : G Ξ w a b (pc + 2) ls2 st) : G Ξ w a b pc ls (.long x :: st) := by
  obtain ⟨p, e, s, m, args, below, meth, c, D, cA, A, nL, Z, rfl, hx, hb, hml, hown, hmn, hts, hK, hG, hE, htb, hA, hst⟩ := C
  intro H locs lsA hP hD hS hl
  subst hnL
  exact lv_lstore hx hb d hl hn hf (fun ls2 hl => kk H locs ls2 hP hD hS hl)
theorem g_iinc {i j nL0 : Nat} {k : Int} {x v : Int32} (C : CB EX l R cc own mn tb Ξ) (hnL : Ξ.2.2.2.2.2.2 = nL0) (d : decode cc pc = .ok (.iinc i k, 3)) (h : ls[j]? = some (i, .int x)) (hv : x + Int32.ofInt k = v) (hn : i < nL0) (hf : (i, Value.int v) :: ls.filter (fun q => !(q.1 == i) && !(q.1 + 1 == i && q.2.category == 2)) = ls2) (kk : G Ξ w a b (pc + 3) ls2 st) : G Ξ w a b pc ls st := by
  obtain ⟨p, e, s, m, args, below, meth, c, D, cA, A, nL, Z, rfl, hx, hb, hml, hown, hmn, hts, hK, hG, hE, htb, hA, hst⟩ := C
  intro H locs lsA hP hD hS hl
  subst hnL
  exact lv_iinc hx hb d hl h hv hn hf (fun ls2 hl => kk H locs ls2 hP hD hS hl)
theorem g_iadd {x y : Int32} (C : CB EX l R cc own mn tb Ξ) (d : decode cc pc = .ok (.iadd, 1)) (kk : G Ξ w a b (pc + 1) ls (.int (x + y) :: st)) : G Ξ w a b pc ls (.int y :: .int x :: st) := by
  obtain ⟨p, e, s, m, args, below, meth, c, D, cA, A, nL, Z, rfl, hx, hb, hml, hown, hmn, hts, hK, hG, hE, htb, hA, hst⟩ := C
  intro H locs lsA hP hD hS hl
  exact lv_iadd hx hb d (kk H locs lsA hP hD hS hl)
theorem g_isub {x y : Int32} (C : CB EX l R cc own mn tb Ξ) (d : decode cc pc = .ok (.isub, 1)) (kk : G Ξ w a b (pc + 1) ls (.int (x - y) :: st)) : G Ξ w a b pc ls (.int y :: .int x :: st) := by
  obtain ⟨p, e, s, m, args, below, meth, c, D, cA, A, nL, Z, rfl, hx, hb, hml, hown, hmn, hts, hK, hG, hE, htb, hA, hst⟩ := C
  intro H locs lsA hP hD hS hl
  exact lv_isub hx hb d (kk H locs lsA hP hD hS hl)
theorem g_imul {x y : Int32} (C : CB EX l R cc own mn tb Ξ) (d : decode cc pc = .ok (.imul, 1)) (kk : G Ξ w a b (pc + 1) ls (.int (x * y) :: st)) : G Ξ w a b pc ls (.int y :: .int x :: st) := by
  obtain ⟨p, e, s, m, args, below, meth, c, D, cA, A, nL, Z, rfl, hx, hb, hml, hown, hmn, hts, hK, hG, hE, htb, hA, hst⟩ := C
  intro H locs lsA hP hD hS hl
  exact lv_imul hx hb d (kk H locs lsA hP hD hS hl)
theorem g_iand {x y : Int32} (C : CB EX l R cc own mn tb Ξ) (d : decode cc pc = .ok (.iand, 1)) (kk : G Ξ w a b (pc + 1) ls (.int (x &&& y) :: st)) : G Ξ w a b pc ls (.int y :: .int x :: st) := by
  obtain ⟨p, e, s, m, args, below, meth, c, D, cA, A, nL, Z, rfl, hx, hb, hml, hown, hmn, hts, hK, hG, hE, htb, hA, hst⟩ := C
  intro H locs lsA hP hD hS hl
  exact lv_iand hx hb d (kk H locs lsA hP hD hS hl)
theorem g_ior {x y : Int32} (C : CB EX l R cc own mn tb Ξ) (d : decode cc pc = .ok (.ior, 1)) (kk : G Ξ w a b (pc + 1) ls (.int (x ||| y) :: st)) : G Ξ w a b pc ls (.int y :: .int x :: st) := by
  obtain ⟨p, e, s, m, args, below, meth, c, D, cA, A, nL, Z, rfl, hx, hb, hml, hown, hmn, hts, hK, hG, hE, htb, hA, hst⟩ := C
  intro H locs lsA hP hD hS hl
  exact lv_ior hx hb d (kk H locs lsA hP hD hS hl)
theorem g_ishl {x y : Int32} (C : CB EX l R cc own mn tb Ξ) (d : decode cc pc = .ok (.ishl, 1)) (kk : G Ξ w a b (pc + 1) ls (.int (x <<< (y &&& 31)) :: st)) : G Ξ w a b pc ls (.int y :: .int x :: st) := by
  obtain ⟨p, e, s, m, args, below, meth, c, D, cA, A, nL, Z, rfl, hx, hb, hml, hown, hmn, hts, hK, hG, hE, htb, hA, hst⟩ := C
  intro H locs lsA hP hD hS hl
  exact lv_ishl hx hb d (kk H locs lsA hP hD hS hl)
theorem g_ishr {x y : Int32} (C : CB EX l R cc own mn tb Ξ) (d : decode cc pc = .ok (.ishr, 1)) (kk : G Ξ w a b (pc + 1) ls (.int (x >>> (y &&& 31)) :: st)) : G Ξ w a b pc ls (.int y :: .int x :: st) := by
  obtain ⟨p, e, s, m, args, below, meth, c, D, cA, A, nL, Z, rfl, hx, hb, hml, hown, hmn, hts, hK, hG, hE, htb, hA, hst⟩ := C
  intro H locs lsA hP hD hS hl
  exact lv_ishr hx hb d (kk H locs lsA hP hD hS hl)
theorem g_idiv {x y : Int32} (C : CB EX l R cc own mn tb Ξ) (d : decode cc pc = .ok (.idiv, 1)) (hne : ¬ y = 0) (kk : G Ξ w a b (pc + 1) ls (.int (x / y) :: st)) : G Ξ w a b pc ls (.int y :: .int x :: st) := by
  obtain ⟨p, e, s, m, args, below, meth, c, D, cA, A, nL, Z, rfl, hx, hb, hml, hown, hmn, hts, hK, hG, hE, htb, hA, hst⟩ := C
  intro H locs lsA hP hD hS hl
  exact lv_idiv hx hb d hne (kk H locs lsA hP hD hS hl)
theorem g_irem {x y : Int32} (C : CB EX l R cc own mn tb Ξ) (d : decode cc pc = .ok (.irem, 1)) (hne : ¬ y = 0) (kk : G Ξ w a b (pc + 1) ls (.int (x - x / y * y) :: st)) : G Ξ w a b pc ls (.int y :: .int x :: st) := by
  obtain ⟨p, e, s, m, args, below, meth, c, D, cA, A, nL, Z, rfl, hx, hb, hml, hown, hmn, hts, hK, hG, hE, htb, hA, hst⟩ := C
  intro H locs lsA hP hD hS hl
  exact lv_irem hx hb d hne (kk H locs lsA hP hD hS hl)
theorem g_ladd {x y : Int64} (C : CB EX l R cc own mn tb Ξ) (d : decode cc pc = .ok (.ladd, 1)) (kk : G Ξ w a b (pc + 1) ls (.long (x + y) :: st)) : G Ξ w a b pc ls (.long y :: .long x :: st) := by
  obtain ⟨p, e, s, m, args, below, meth, c, D, cA, A, nL, Z, rfl, hx, hb, hml, hown, hmn, hts, hK, hG, hE, htb, hA, hst⟩ := C
  intro H locs lsA hP hD hS hl
  exact lv_ladd hx hb d (kk H locs lsA hP hD hS hl)
theorem g_lmul {x y : Int64} (C : CB EX l R cc own mn tb Ξ) (d : decode cc pc = .ok (.lmul, 1)) (kk : G Ξ w a b (pc + 1) ls (.long (x * y) :: st)) : G Ξ w a b pc ls (.long y :: .long x :: st) := by
  obtain ⟨p, e, s, m, args, below, meth, c, D, cA, A, nL, Z, rfl, hx, hb, hml, hown, hmn, hts, hK, hG, hE, htb, hA, hst⟩ := C
  intro H locs lsA hP hD hS hl
  exact lv_lmul hx hb d (kk H locs lsA hP hD hS hl)
theorem g_ldiv {x y : Int64} (C : CB EX l R cc own mn tb Ξ) (d : decode cc pc = .ok (.ldiv, 1)) (hne : ¬ y = 0) (kk : G Ξ w a b (pc + 1) ls (.long (x / y) :: st)) : G Ξ w a b pc ls (.long y :: .long x :: st) := by
  obtain ⟨p, e, s, m, args, below, meth, c, D, cA, A, nL, Z, rfl, hx, hb, hml, hown, hmn, hts, hK, hG, hE, htb, hA, hst⟩ := C
  intro H locs lsA hP hD hS hl
  exact lv_ldiv hx hb d hne (kk H locs lsA hP hD hS hl)
theorem g_lcmp {x y : Int64} (C : CB EX l R cc own mn tb Ξ) (d : decode cc pc = .ok (.lcmp, 1)) (kk : G Ξ w a b (pc + 1) ls (.int (lg_cmp x y) :: st)) : G Ξ w a b pc ls (.long y :: .long x :: st) := by
  obtain ⟨p, e, s, m, args, below, meth, c, D, cA, A, nL, Z, rfl, hx, hb, hml, hown, hmn, hts, hK, hG, hE, htb, hA, hst⟩ := C
  intro H locs lsA hP hD hS hl
  exact W.lcmp hx hb d (kk H locs lsA hP hD hS hl)
theorem g_i2l {x : Int32} (C : CB EX l R cc own mn tb Ξ) (d : decode cc pc = .ok (.i2l, 1)) (kk : G Ξ w a b (pc + 1) ls (.long x.toInt64 :: st)) : G Ξ w a b pc ls (.int x :: st) := by
  obtain ⟨p, e, s, m, args, below, meth, c, D, cA, A, nL, Z, rfl, hx, hb, hml, hown, hmn, hts, hK, hG, hE, htb, hA, hst⟩ := C
  intro H locs lsA hP hD hS hl
  exact lv_i2l hx hb d rfl (kk H locs lsA hP hD hS hl)
theorem g_l2i {x : Int64} (C : CB EX l R cc own mn tb Ξ) (d : decode cc pc = .ok (.l2i, 1)) (kk : G Ξ w a b (pc + 1) ls (.int x.toInt32 :: st)) : G Ξ w a b pc ls (.long x :: st) := by
  obtain ⟨p, e, s, m, args, below, meth, c, D, cA, A, nL, Z, rfl, hx, hb, hml, hown, hmn, hts, hK, hG, hE, htb, hA, hst⟩ := C
  intro H locs lsA hP hD hS hl
  exact lv_l2i hx hb d rfl (kk H locs lsA hP hD hS hl)
theorem g_dup {v : Value} (C : CB EX l R cc own mn tb Ξ) (d : decode cc pc = .ok (.dup, 1)) (hv : v.category = 1) (kk : G Ξ w a b (pc + 1) ls (v :: v :: st)) : G Ξ w a b pc ls (v :: st) := by
  obtain ⟨p, e, s, m, args, below, meth, c, D, cA, A, nL, Z, rfl, hx, hb, hml, hown, hmn, hts, hK, hG, hE, htb, hA, hst⟩ := C
  intro H locs lsA hP hD hS hl
  exact lv_dup hx hb d hv (kk H locs lsA hP hD hS hl)
theorem g_pop {v : Value} (C : CB EX l R cc own mn tb Ξ) (d : decode cc pc = .ok (.pop, 1)) (hv : v.category = 1) (kk : G Ξ w a b (pc + 1) ls st) : G Ξ w a b pc ls (v :: st) := by
  obtain ⟨p, e, s, m, args, below, meth, c, D, cA, A, nL, Z, rfl, hx, hb, hml, hown, hmn, hts, hK, hG, hE, htb, hA, hst⟩ := C
  intro H locs lsA hP hD hS hl
  exact lv_pop hx hb d hv (kk H locs lsA hP hD hS hl)
theorem g_dup2 {v v2 : Value} (C : CB EX l R cc own mn tb Ξ) (d : decode cc pc = .ok (.dup2, 1)) (hv : v.category = 1) (hw : v2.category = 1) (kk : G Ξ w a b (pc + 1) ls (v :: v2 :: v :: v2 :: st)) : G Ξ w a b pc ls (v :: v2 :: st) := by
  obtain ⟨p, e, s, m, args, below, meth, c, D, cA, A, nL, Z, rfl, hx, hb, hml, hown, hmn, hts, hK, hG, hE, htb, hA, hst⟩ := C
  intro H locs lsA hP hD hS hl
  exact lv_dup2_11 hx hb d hv hw (kk H locs lsA hP hD hS hl)
theorem g_if_eq {x : Int32} {off : Int} {tgt : Nat} (C : CB EX l R cc own mn tb Ξ) (d : decode cc pc = .ok (.ifCond .eq off, 3)) (ht : (pc : Int) + off = (tgt : Int)) (kt : (x = 0) → G Ξ w a b tgt ls st) (kf : ¬ (x = 0) → G Ξ w a b (pc + 3) ls st) : G Ξ w a b pc ls (.int x :: st) := by
  obtain ⟨p, e, s, m, args, below, meth, c, D, cA, A, nL, Z, rfl, hx, hb, hml, hown, hmn, hts, hK, hG, hE, htb, hA, hst⟩ := C
  intro H locs lsA hP hD hS hl
  exact lv_if_eq hx hb d ht (fun q => kt q H locs lsA hP hD hS hl) (fun q => kf q H locs lsA hP hD hS hl)
theorem g_icmp_eq {x y : Int32} {off : Int} {tgt : Nat} (C : CB EX l R cc own mn tb Ξ) (d : decode cc pc = .ok (.if_icmp .eq off, 3)) (ht : (pc : Int) + off = (tgt : Int)) (kt : (x = y) → G Ξ w a b tgt ls st) (kf : ¬ (x = y) → G Ξ w a b (pc + 3) ls st) : G Ξ w a b pc ls (.int y :: .int x :: st) := by
  obtain ⟨p, e, s, m, args, below, meth, c, D, cA, A, nL, Z, rfl, hx, hb, hml, hown, hmn, hts, hK, hG, hE, htb, hA, hst⟩ := C
  intro H locs lsA hP hD hS hl
  exact lv_icmp_eq hx hb d ht (fun q => kt q H locs lsA hP hD hS hl) (fun q => kf q H locs lsA hP hD hS hl)
theorem g_if_ne {x : Int32} {off : Int} {tgt : Nat} (C : CB EX l R cc own mn tb Ξ) (d : decode cc pc = .ok (.ifCond .ne off, 3)) (ht : (pc : Int) + off = (tgt : Int)) (kt : (¬ x = 0) → G Ξ w a b tgt ls st) (kf : (x = 0) → G Ξ w a b (pc + 3) ls st) : G Ξ w a b pc ls (.int x :: st) := by
  obtain ⟨p, e, s, m, args, below, meth, c, D, cA, A, nL, Z, rfl, hx, hb, hml, hown, hmn, hts, hK, hG, hE, htb, hA, hst⟩ := C
  intro H locs lsA hP hD hS hl
  exact lv_if_ne hx hb d ht (fun q => kt q H locs lsA hP hD hS hl) (fun q => kf q H locs lsA hP hD hS hl)
theorem g_icmp_ne {x y : Int32} {off : Int} {tgt : Nat} (C : CB EX l R cc own mn tb Ξ) (d : decode cc pc = .ok (.if_icmp .ne off, 3)) (ht : (pc : Int) + off = (tgt : Int)) (kt : (¬ x = y) → G Ξ w a b tgt ls st) (kf : (x = y) → G Ξ w a b (pc + 3) ls st) : G Ξ w a b pc ls (.int y :: .int x :: st) := by
  obtain ⟨p, e, s, m, args, below, meth, c, D, cA, A, nL, Z, rfl, hx, hb, hml, hown, hmn, hts, hK, hG, hE, htb, hA, hst⟩ := C
  intro H locs lsA hP hD hS hl
  exact lv_icmp_ne hx hb d ht (fun q => kt q H locs lsA hP hD hS hl) (fun q => kf q H locs lsA hP hD hS hl)
theorem g_if_lt {x : Int32} {off : Int} {tgt : Nat} (C : CB EX l R cc own mn tb Ξ) (d : decode cc pc = .ok (.ifCond .lt off, 3)) (ht : (pc : Int) + off = (tgt : Int)) (kt : (x < 0) → G Ξ w a b tgt ls st) (kf : ¬ (x < 0) → G Ξ w a b (pc + 3) ls st) : G Ξ w a b pc ls (.int x :: st) := by
  obtain ⟨p, e, s, m, args, below, meth, c, D, cA, A, nL, Z, rfl, hx, hb, hml, hown, hmn, hts, hK, hG, hE, htb, hA, hst⟩ := C
  intro H locs lsA hP hD hS hl
  exact lv_if_lt hx hb d ht (fun q => kt q H locs lsA hP hD hS hl) (fun q => kf q H locs lsA hP hD hS hl)
theorem g_icmp_lt {x y : Int32} {off : Int} {tgt : Nat} (C : CB EX l R cc own mn tb Ξ) (d : decode cc pc = .ok (.if_icmp .lt off, 3)) (ht : (pc : Int) + off = (tgt : Int)) (kt : (x < y) → G Ξ w a b tgt ls st) (kf : ¬ (x < y) → G Ξ w a b (pc + 3) ls st) : G Ξ w a b pc ls (.int y :: .int x :: st) := by
  obtain ⟨p, e, s, m, args, below, meth, c, D, cA, A, nL, Z, rfl, hx, hb, hml, hown, hmn, hts, hK, hG, hE, htb, hA, hst⟩ := C
  intro H locs lsA hP hD hS hl
  exact lv_icmp_lt hx hb d ht (fun q => kt q H locs lsA hP hD hS hl) (fun q => kf q H locs lsA hP hD hS hl)
theorem g_if_ge {x : Int32} {off : Int} {tgt : Nat} (C : CB EX l R cc own mn tb Ξ) (d : decode cc pc = .ok (.ifCond .ge off, 3)) (ht : (pc : Int) + off = (tgt : Int)) (kt : (0 ≤ x) → G Ξ w a b tgt ls st) (kf : ¬ (0 ≤ x) → G Ξ w a b (pc + 3) ls st) : G Ξ w a b pc ls (.int x :: st) := by
  obtain ⟨p, e, s, m, args, below, meth, c, D, cA, A, nL, Z, rfl, hx, hb, hml, hown, hmn, hts, hK, hG, hE, htb, hA, hst⟩ := C
  intro H locs lsA hP hD hS hl
  exact lv_if_ge hx hb d ht (fun q => kt q H locs lsA hP hD hS hl) (fun q => kf q H locs lsA hP hD hS hl)
theorem g_icmp_ge {x y : Int32} {off : Int} {tgt : Nat} (C : CB EX l R cc own mn tb Ξ) (d : decode cc pc = .ok (.if_icmp .ge off, 3)) (ht : (pc : Int) + off = (tgt : Int)) (kt : (y ≤ x) → G Ξ w a b tgt ls st) (kf : ¬ (y ≤ x) → G Ξ w a b (pc + 3) ls st) : G Ξ w a b pc ls (.int y :: .int x :: st) := by
  obtain ⟨p, e, s, m, args, below, meth, c, D, cA, A, nL, Z, rfl, hx, hb, hml, hown, hmn, hts, hK, hG, hE, htb, hA, hst⟩ := C
  intro H locs lsA hP hD hS hl
  exact lv_icmp_ge hx hb d ht (fun q => kt q H locs lsA hP hD hS hl) (fun q => kf q H locs lsA hP hD hS hl)
theorem g_if_gt {x : Int32} {off : Int} {tgt : Nat} (C : CB EX l R cc own mn tb Ξ) (d : decode cc pc = .ok (.ifCond .gt off, 3)) (ht : (pc : Int) + off = (tgt : Int)) (kt : (0 < x) → G Ξ w a b tgt ls st) (kf : ¬ (0 < x) → G Ξ w a b (pc + 3) ls st) : G Ξ w a b pc ls (.int x :: st) := by
  obtain ⟨p, e, s, m, args, below, meth, c, D, cA, A, nL, Z, rfl, hx, hb, hml, hown, hmn, hts, hK, hG, hE, htb, hA, hst⟩ := C
  intro H locs lsA hP hD hS hl
  exact lv_if_gt hx hb d ht (fun q => kt q H locs lsA hP hD hS hl) (fun q => kf q H locs lsA hP hD hS hl)
theorem g_icmp_gt {x y : Int32} {off : Int} {tgt : Nat} (C : CB EX l R cc own mn tb Ξ) (d : decode cc pc = .ok (.if_icmp .gt off, 3)) (ht : (pc : Int) + off = (tgt : Int)) (kt : (y < x) → G Ξ w a b tgt ls st) (kf : ¬ (y < x) → G Ξ w a b (pc + 3) ls st) : G Ξ w a b pc ls (.int y :: .int x :: st) := by
  obtain ⟨p, e, s, m, args, below, meth, c, D, cA, A, nL, Z, rfl, hx, hb, hml, hown, hmn, hts, hK, hG, hE, htb, hA, hst⟩ := C
  intro H locs lsA hP hD hS hl
  exact lv_icmp_gt hx hb d ht (fun q => kt q H locs lsA hP hD hS hl) (fun q => kf q H locs lsA hP hD hS hl)
theorem g_if_le {x : Int32} {off : Int} {tgt : Nat} (C : CB EX l R cc own mn tb Ξ) (d : decode cc pc = .ok (.ifCond .le off, 3)) (ht : (pc : Int) + off = (tgt : Int)) (kt : (x ≤ 0) → G Ξ w a b tgt ls st) (kf : ¬ (x ≤ 0) → G Ξ w a b (pc + 3) ls st) : G Ξ w a b pc ls (.int x :: st) := by
  obtain ⟨p, e, s, m, args, below, meth, c, D, cA, A, nL, Z, rfl, hx, hb, hml, hown, hmn, hts, hK, hG, hE, htb, hA, hst⟩ := C
  intro H locs lsA hP hD hS hl
  exact lv_if_le hx hb d ht (fun q => kt q H locs lsA hP hD hS hl) (fun q => kf q H locs lsA hP hD hS hl)
theorem g_icmp_le {x y : Int32} {off : Int} {tgt : Nat} (C : CB EX l R cc own mn tb Ξ) (d : decode cc pc = .ok (.if_icmp .le off, 3)) (ht : (pc : Int) + off = (tgt : Int)) (kt : (x ≤ y) → G Ξ w a b tgt ls st) (kf : ¬ (x ≤ y) → G Ξ w a b (pc + 3) ls st) : G Ξ w a b pc ls (.int y :: .int x :: st) := by
  obtain ⟨p, e, s, m, args, below, meth, c, D, cA, A, nL, Z, rfl, hx, hb, hml, hown, hmn, hts, hK, hG, hE, htb, hA, hst⟩ := C
  intro H locs lsA hP hD hS hl
  exact lv_icmp_le hx hb d ht (fun q => kt q H locs lsA hP hD hS hl) (fun q => kf q H locs lsA hP hD hS hl)
theorem g_goto {off : Int} {tgt : Nat} (C : CB EX l R cc own mn tb Ξ) (d : decode cc pc = .ok (.goto off, 3)) (ht : (pc : Int) + off = (tgt : Int)) (kk : G Ξ w a b tgt ls st) : G Ξ w a b pc ls st := by
  obtain ⟨p, e, s, m, args, below, meth, c, D, cA, A, nL, Z, rfl, hx, hb, hml, hown, hmn, hts, hK, hG, hE, htb, hA, hst⟩ := C
  intro H locs lsA hP hD hS hl
  exact lv_goto hx hb d ht (kk H locs lsA hP hD hS hl)
theorem g_ldc {i : Nat} {v : Int32} (C : CB EX l R cc own mn tb Ξ) (d : decode cc pc = .ok (.ldc i, 2)) (hw : Cond.constant own i v ∈ GW) (kk : G Ξ w a b (pc + 2) ls (.int v :: st)) : G Ξ w a b pc ls st := by
  obtain ⟨p, e, s, m, args, below, meth, c, D, cA, A, nL, Z, rfl, hx, hb, hml, hown, hmn, hts, hK, hG, hE, htb, hA, hst⟩ := C
  intro H locs lsA hP hD hS hl
  exact lv_ldc hx hb hown (hts _ hw) d (kk H locs lsA hP hD hS hl)
theorem g_ldc2 {i : Nat} {v : Int64} (C : CB EX l R cc own mn tb Ξ) (d : decode cc pc = .ok (.ldc2_w i, 3)) (hw : Cond.constantLong own i v ∈ GW) (kk : G Ξ w a b (pc + 3) ls (.long v :: st)) : G Ξ w a b pc ls st := by
  obtain ⟨p, e, s, m, args, below, meth, c, D, cA, A, nL, Z, rfl, hx, hb, hml, hown, hmn, hts, hK, hG, hE, htb, hA, hst⟩ := C
  intro H locs lsA hP hD hS hl
  exact lv_ldc2 hx hb hown (hts _ hw) d (kk H locs lsA hP hD hS hl)
theorem g_dupx1 {va vb : Value} (C : CB EX l R cc own mn tb Ξ) (d : decode cc pc = .ok (.dup_x1, 1)) (hva : va.category = 1) (hvb : vb.category = 1) (kk : G Ξ w a b (pc + 1) ls (va :: vb :: va :: st)) : G Ξ w a b pc ls (va :: vb :: st) := by
  obtain ⟨p, e, s, m, args, below, meth, c, D, cA, A, nL, Z, rfl, hx, hb, hml, hown, hmn, hts, hK, hG, hE, htb, hA, hst⟩ := C
  intro H locs lsA hP hD hS hl
  exact lv_dup_x1 hx hb d hva hvb (kk H locs lsA hP hD hS hl)
theorem g_get {C0 : String} {T : u_T} {N ci idx q : Nat} {ref : String} {v : Value} {fs : List Value} (i k : Nat) (C : CB EX l R cc own mn tb Ξ) (he : ∀ cA, (w cA)[i]? = some (q, .inr (ci, fs))) (hc : vwCl[ci]? = some (C0, T, N)) (hin : ∀ w ∈ u_ws C0 T N, w ∈ GW) (hk : k < N) (hsame : ref = (T k).1) (hv : fs[k]? = some v) (hw : Cond.fieldLink own idx ref (T k).2.1 (T k).2.2.1 ∈ GW) (d : decode cc pc = .ok (.getfield idx, 3)) (kk : G Ξ w a b (pc + 3) ls (v :: st)) : G Ξ w a b pc ls (.ref q :: st) := by
  obtain ⟨p, e, s, m, args, below, meth, c, D, cA, A, nL, Z, rfl, hx, hb, hml, hown, hmn, hts, hK, hG, hE, htb, hA, hst⟩ := C
  intro H locs lsA hP hD hS hl
  exact va_get (D := D) (ci := ci) (v := v) (C := C0) (T := T) (N := N) hx hb hts hin hown hK hP i (he cA) hc k hk (hts _ hw) (fun z h9 => hsame ▸ h9) hv d (kk H locs lsA hP hD hS hl)
theorem g_put {C0 : String} {T : u_T} {N ci idx q : Nat} {ref : String} {v : Value} {fs : List Value} {ty0 : Nat → FieldType} {ty : FieldType} (i k : Nat) (C : CB EX l R cc own mn tb Ξ) (he : ∀ cA, (w cA)[i]? = some (q, .inr (ci, fs))) (hc : vwCl[ci]? = some (C0, T, N)) (hin : ∀ w ∈ u_ws C0 T N, w ∈ GW) (hty : ∀ k, k < N → parseFieldDescriptor (T k).2.2.1 = some (ty0 k)) (hnm : ∀ a, a < N → ∀ b, b < N → a ≠ b → (T a).2.1 ≠ (T b).2.1) (hk : k < N) (hsame : ref = (T k).1) (hfin : (T k).2.2.2 = false) (hd : parseFieldDescriptor (T k).2.2.1 = some ty) (hn : narrow ty v = v) (hfit : fits ty v = true) (hlen : k < fs.length) (hw : Cond.fieldLink own idx ref (T k).2.1 (T k).2.2.1 ∈ GW) (d : decode cc pc = .ok (.putfield idx, 3)) (kk : G Ξ (fun cA => (w cA).set i (q, .inr (ci, fs.set k v))) a b (pc + 3) ls st) : G Ξ w a b pc ls (v :: .ref q :: st) := by
  obtain ⟨p, e, s, m, args, below, meth, c, D, cA, A, nL, Z, rfl, hx, hb, hml, hown, hmn, hts, hK, hG, hE, htb, hA, hst⟩ := C
  intro H locs lsA hP hD hS hl
  exact va_put (D := D) (ci := ci) (v := v) (ty := ty) (C := C0) (T := T) (N := N) hx hb hts hin ty0 hty hnm hown hK hP hD hS i (he cA) hc k hk (hts _ hw) (fun z h9 => hsame ▸ h9) hfin hd hn hfit hlen d (fun H1 locs1 hP hD hS => kk H1 locs1 lsA hP hD hS hl)
theorem g_putF {C0 : String} {T : u_T} {N ci idx q : Nat} {ref : String} {v : Value} {fs : List Value} {ty0 : Nat → FieldType} {ty : FieldType} (i k : Nat) (C : CB EX l R cc own mn tb Ξ) (hin2 : mn = "<init>") (hdecl : (T k).1 = own) (he : ∀ cA, (w cA)[i]? = some (q, .inr (ci, fs))) (hc : vwCl[ci]? = some (C0, T, N)) (hin : ∀ w ∈ u_ws C0 T N, w ∈ GW) (hty : ∀ k, k < N → parseFieldDescriptor (T k).2.2.1 = some (ty0 k)) (hnm : ∀ a, a < N → ∀ b, b < N → a ≠ b → (T a).2.1 ≠ (T b).2.1) (hk : k < N) (hsame : ref = (T k).1) (hfin : (T k).2.2.2 = true) (hd : parseFieldDescriptor (T k).2.2.1 = some ty) (hn : narrow ty v = v) (hfit : fits ty v = true) (hlen : k < fs.length) (hw : Cond.fieldLink own idx ref (T k).2.1 (T k).2.2.1 ∈ GW) (d : decode cc pc = .ok (.putfield idx, 3)) (kk : G Ξ (fun cA => (w cA).set i (q, .inr (ci, fs.set k v))) a b (pc + 3) ls st) : G Ξ w a b pc ls (v :: .ref q :: st) := by
  obtain ⟨p, e, s, m, args, below, meth, c, D, cA, A, nL, Z, rfl, hx, hb, hml, hown, hmn, hts, hK, hG, hE, htb, hA, hst⟩ := C
  intro H locs lsA hP hD hS hl
  exact va_putF (D := D) (ci := ci) (v := v) (ty := ty) (C := C0) (T := T) (N := N) hx hb hts hin ty0 hty hnm hown hK hP hD hS i (he cA) hc k hk (hts _ hw) (fun z h9 => hsame ▸ h9) hfin (hmn.trans hin2) hdecl hd hn hfit hlen d (fun H1 locs1 hP hD hS => kk H1 locs1 lsA hP hD hS hl)
theorem g_new {C0 : String} {T : u_T} {N ci idx : Nat} {fs : List Value} {ty : Nat → FieldType} (C : CB EX l R cc own mn tb Ξ) (hin : ∀ w ∈ u_ws C0 T N, w ∈ GW) (hty : ∀ k, k < N → parseFieldDescriptor (T k).2.2.1 = some (ty k)) (hcl : Cond.classLink own idx C0 ∈ GW) (hinst : Cond.instantiable C0 N ∈ GW) (hini : Cond.initialized C0 ∈ GW) (hc : vwCl[ci]? = some (C0, T, N)) (hfs : ∀ j, j < N → defaultValue (ty j) = vp_V fs j) (hcells : a + 1 ≤ R.cells) (hslots : b + N ≤ R.slots) (d : decode cc pc = .ok (.new idx, 3)) (kk : ∀ q : Nat, G Ξ (fun cA => w cA ++ [(q, .inr (ci, fs))]) (a + 1) (b + N) (pc + 3) ls (.ref q :: st)) : G Ξ w a b pc ls st := by
  obtain ⟨p, e, s, m, args, below, meth, c, D, cA, A, nL, Z, rfl, hx, hb, hml, hown, hmn, hts, hK, hG, hE, htb, hA, hst⟩ := C
  intro H locs lsA hP hD hS hl
  exact va_new (ci := ci) (fs := fs) (C := C0) (T := T) (N := N) hx hb hts hin ty hty hown (hts _ hcl) (hts _ hinst) (hts _ hini) hK hP hD hS hA hc hfs hcells hslots d (fun q H1 hP hD hS => kk q H1 locs lsA hP hD hS hl)
theorem g_newi {x : Int32} {N : Nat} (C : CB EX l R cc own mn tb Ξ) (harr : Cond.arrayClass .int ∈ GW) (hn : ¬ x < 0) (hN : x.toNatClampNeg = N) (hbytes : N * componentBytes .int ≤ 536870912) (hcells : a + 1 ≤ R.cells) (hslots : b + N ≤ R.slots) (d : decode cc pc = .ok (.newarray .int, 2)) (kk : ∀ q : Nat, G Ξ (fun cA => w cA ++ [(q, .inl (cA 0, N, .inl (fun _ => 0)))]) (a + 1) (b + N) (pc + 2) ls (.ref q :: st)) : G Ξ w a b pc ls (.int x :: st) := by
  obtain ⟨p, e, s, m, args, below, meth, c, D, cA, A, nL, Z, rfl, hx, hb, hml, hown, hmn, hts, hK, hG, hE, htb, hA, hst⟩ := C
  intro H locs lsA hP hD hS hl
  refine va_newa (atype := .int) (a0 := (N, .inl (fun _ => 0))) hx hb (hts _ harr) rfl hK hP hD hS hA (fun _ => rfl) hn hN hbytes hcells hslots d (fun q cA2 H1 hK2 hP hD hS => ?_)
  have h1 := (hK2.2 4 (cA2, .int) rfl).2
  have h2 := (hK.2 0 (cA 0, .int) rfl).2
  have h3 : cA2 = cA 0 := Option.some.inj (Eq.trans (Eq.symm h1) h2)
  subst h3
  exact kk q H1 locs lsA hP hD hS hl
theorem g_newz {x : Int32} {N : Nat} (C : CB EX l R cc own mn tb Ξ) (harr : Cond.arrayClass .boolean ∈ GW) (hn : ¬ x < 0) (hN : x.toNatClampNeg = N) (hbytes : N * componentBytes .boolean ≤ 536870912) (hcells : a + 1 ≤ R.cells) (hslots : b + N ≤ R.slots) (d : decode cc pc = .ok (.newarray .boolean, 2)) (kk : ∀ q : Nat, G Ξ (fun cA => w cA ++ [(q, .inl (cA 1, N, .inl (fun _ => 0)))]) (a + 1) (b + N) (pc + 2) ls (.ref q :: st)) : G Ξ w a b pc ls (.int x :: st) := by
  obtain ⟨p, e, s, m, args, below, meth, c, D, cA, A, nL, Z, rfl, hx, hb, hml, hown, hmn, hts, hK, hG, hE, htb, hA, hst⟩ := C
  intro H locs lsA hP hD hS hl
  refine va_newa (atype := .boolean) (a0 := (N, .inl (fun _ => 0))) hx hb (hts _ harr) rfl hK hP hD hS hA (fun _ => rfl) hn hN hbytes hcells hslots d (fun q cA2 H1 hK2 hP hD hS => ?_)
  have h1 := (hK2.2 4 (cA2, .boolean) rfl).2
  have h2 := (hK.2 1 (cA 1, .boolean) rfl).2
  have h3 : cA2 = cA 1 := Option.some.inj (Eq.trans (Eq.symm h1) h2)
  subst h3
  exact kk q H1 locs lsA hP hD hS hl
theorem g_iast {q N : Nat} {f : Nat → Int32} {x v : Int32} (i : Nat) (C : CB EX l R cc own mn tb Ξ) (he : ∀ cA, (w cA)[i]? = some (q, .inl (cA 0, N, .inl f))) (hin : vp_in x N) (d : decode cc pc = .ok (.iastore, 1)) (kk : G Ξ (fun cA => (w cA).set i (q, .inl (cA 0, N, .inl (upd f x.toNatClampNeg v)))) a b (pc + 1) ls st) : G Ξ w a b pc ls (.int v :: .int x :: .ref q :: st) := by
  obtain ⟨p, e, s, m, args, below, meth, c, D, cA, A, nL, Z, rfl, hx, hb, hml, hown, hmn, hts, hK, hG, hE, htb, hA, hst⟩ := C
  intro H locs lsA hP hD hS hl
  exact va_iast hx hb hK hP hD hS i 0 (he cA) rfl hin d (fun H1 locs1 hP hD hS => kk H1 locs1 lsA hP hD hS hl)
theorem g_alen {q N : Nat} {g : (Nat → Int32) ⊕ (Nat → Int64) ⊕ (Nat → UInt32) ⊕ (Nat → UInt64) ⊕ (Nat → Option Nat)} {v : Int32} (i t : Nat) {ty : FieldType} (C : CB EX l R cc own mn tb Ξ) (he : ∀ cA, (w cA)[i]? = some (q, .inl (cA t, N, g))) (ht : ∀ cA, (tysA cA)[t]? = some (cA t, ty)) (hv : Int32.ofNat N = v) (d : decode cc pc = .ok (.arraylength, 1)) (kk : G Ξ w a b (pc + 1) ls (.int v :: st)) : G Ξ w a b pc ls (.ref q :: st) := by
  obtain ⟨p, e, s, m, args, below, meth, c, D, cA, A, nL, Z, rfl, hx, hb, hml, hown, hmn, hts, hK, hG, hE, htb, hA, hst⟩ := C
  intro H locs lsA hP hD hS hl
  exact va_alen hx hb hK hP i t (he cA) (ht cA) hv d (kk H locs lsA hP hD hS hl)
theorem g_obj {q idx n0 : Nat} (C : CB EX l R cc own mn tb Ξ) (hn0 : Ξ.2.2.2.2.2.2 = n0) (hw : Cond.methodLink own idx objectInit ∈ GW) (h1 : Cond.instanceMethod objectInit ∈ GW) (h2 : Cond.code objectInit ⟨#[0xb1]⟩ 1 none ∈ GW) (hf : 1 ≤ R.frames) (hlo : (st.map fun v => v.category).sum + 12 ≤ R.locals) (d : decode cc pc = .ok (.invokespecial idx, 3)) (kk : G Ξ w a b (pc + 3) ls st) : G Ξ w a b pc ls (.ref q :: st) := by
  obtain ⟨p, e, s, m, args, below, meth, c, D, cA, A, nL, Z, rfl, hx, hb, hml, hown, hmn, hts, hK, hG, hE, htb, hA, hst⟩ := C
  intro H locs lsA hP hD hS hl
  exact W.objInit (g := F0 m pc lsA (.ref q :: st)) (a := q) (rest := st) hx hb hown (hts _ hw) (hts _ h1) (hts _ h2) rfl (by rw [hml]; exact hl.1) rfl d hf (by show 2 * 0 + _ + 12 ≤ _; omega) (W.eq (g2 := F0 m (pc + 3) lsA st) rfl (kk H locs lsA hP hD hS hl))
theorem g_max {idx : Nat} {x y : Int32} (C : CB EX l R cc own mn tb Ξ) (hw : Cond.methodLink own idx Lib.Math.max.name ∈ GW) (hw2 : Cond.static Lib.Math.max.name ∈ GW) (hw3 : Cond.initialized "java/lang/Math" ∈ GW) (hw4 : Cond.code Lib.Math.max.name Lib.Math.max.code 2 (some .int) ∈ GW) (hf : 1 ≤ R.frames) (hlo : (st.map fun v => v.category).sum + 13 ≤ R.locals) (hca : a ≤ R.cells) (hcb : b ≤ R.slots) (d : decode cc pc = .ok (.invokestatic idx, 3)) (kk : G Ξ w a b (pc + 3) ls (.int (if x < y then y else x) :: st)) : G Ξ w a b pc ls (.int y :: .int x :: st) := by
  obtain ⟨p, e, s, m, args, below, meth, c, D, cA, A, nL, Z, rfl, hx, hb, hml, hown, hmn, hts, hK, hG, hE, htb, hA, hst⟩ := C
  intro H locs lsA hP hD hS hl
  exact va_mmax hx hb (hml.trans hl.1.symm) hown (hts _ hw) (hts _ hw2) (hts _ hw3) (hts _ hw4) hf hlo hca hcb d (kk H locs lsA hP hD hS hl)
theorem g_acmp_eq {x y : Nat} {off : Int} {tgt : Nat} (C : CB EX l R cc own mn tb Ξ) (d : decode cc pc = .ok (.if_acmp .eq off, 3)) (ht : (pc : Int) + off = (tgt : Int)) (hxy : x = y) (kt : G Ξ w a b tgt ls st) : G Ξ w a b pc ls (.ref y :: .ref x :: st) := by
  obtain ⟨p, e, s, m, args, below, meth, c, D, cA, A, nL, Z, rfl, hx, hb, hml, hown, hmn, hts, hK, hG, hE, htb, hA, hst⟩ := C
  intro H locs lsA hP hD hS hl
  exact lv_acmp_eq (rx := some x) (ry := some y) hx hb d ht (fun _ => kt H locs lsA hP hD hS hl) (fun h => absurd (congrArg some hxy) h)
theorem g_iret {x : Int32} (C : CQ EX l R cc own mn ret mc ms tb post exc Ξ) (hret : ret = some .int) (hca : a ≤ mc) (hcb : b ≤ ms) (d : decode cc pc = .ok (.ireturn, 1)) (hp : post (some (.int x)) w) : G Ξ w a b pc ls [.int x] := by
  obtain ⟨p, e, s, m, args, below, meth, c, D, cA, A, nL, rfl, hx, hb, hml, hown, hmn, hts, hK, hG, hE, hr, hlk, htb, hA, hst⟩ := C
  intro H locs lsA hP hD hS hl
  refine W.widen (k := mc) (n := ms) hca hcb (vx_ret ?_)
  exact W.iret hx hb (hr.trans hret) (fun t ht hW => ⟨⟨_, w, rfl, hp, by rw [ht]; exact hP, hD⟩, hS.F ht⟩) hS.2.2 d hlk
theorem g_zret {x : Int32} (C : CQ EX l R cc own mn ret mc ms tb post exc Ξ) (hret : ret = some .boolean) (hn : narrow .boolean (.int x) = .int x) (hca : a ≤ mc) (hcb : b ≤ ms) (d : decode cc pc = .ok (.ireturn, 1)) (hp : post (some (.int x)) w) : G Ξ w a b pc ls [.int x] := by
  obtain ⟨p, e, s, m, args, below, meth, c, D, cA, A, nL, rfl, hx, hb, hml, hown, hmn, hts, hK, hG, hE, hr, hlk, htb, hA, hst⟩ := C
  intro H locs lsA hP hD hS hl
  refine W.widen (k := mc) (n := ms) hca hcb (vx_ret ?_)
  exact W.zret hx hb (hr.trans hret) hn (fun t ht hW => ⟨⟨_, w, rfl, hp, by rw [ht]; exact hP, hD⟩, hS.F ht⟩) hS.2.2 d hlk
theorem g_vret (C : CQ EX l R cc own mn ret mc ms tb post exc Ξ) (hret : ret = none) (hca : a ≤ mc) (hcb : b ≤ ms) (d : decode cc pc = .ok (.return_, 1)) (hp : post none w) : G Ξ w a b pc ls [] := by
  obtain ⟨p, e, s, m, args, below, meth, c, D, cA, A, nL, rfl, hx, hb, hml, hown, hmn, hts, hK, hG, hE, hr, hlk, htb, hA, hst⟩ := C
  intro H locs lsA hP hD hS hl
  refine W.widen (k := mc) (n := ms) hca hcb (vx_ret ?_)
  exact W.vret hx hb (hr.trans hret) (fun t ht hW => ⟨⟨_, w, rfl, hp, by rw [ht]; exact hP, hD⟩, hS.F ht⟩) hS.2.2 d hlk
theorem g_aret {q : Nat} {fy : FieldType} (C : CQ EX l R cc own mn ret mc ms tb post exc Ξ) (hret : ret = some fy) (hfy : (∃ cn, fy = .object cn) ∨ ∃ t, fy = .array t) (hca : a ≤ mc) (hcb : b ≤ ms) (d : decode cc pc = .ok (.areturn, 1)) (hp : post (some (.ref q)) w) : G Ξ w a b pc ls [.ref q] := by
  obtain ⟨p, e, s, m, args, below, meth, c, D, cA, A, nL, rfl, hx, hb, hml, hown, hmn, hts, hK, hG, hE, hr, hlk, htb, hA, hst⟩ := C
  intro H locs lsA hP hD hS hl
  refine W.widen (k := mc) (n := ms) hca hcb (vx_ret ?_)
  exact W.aret hx hb (hr.trans hret) hfy (Or.inr ⟨_, rfl⟩) (fun t ht hW => ⟨⟨_, w, rfl, hp, by rw [ht]; exact hP, hD⟩, hS.F ht⟩) hS.2.2 d hlk
end GRows
end
section
/-! ===== BEGIN a constructor that throws (launches without stack traces) ===== -/
section VXIA
variable {p : Program} {l : Launch} {e : Env} {R : Room} {s : State} {m : MethodId} {args : Array Value} {below : List Frame} {meth : Method} {c : Code} {T : State} {locs : List Loc} {cells slots : Nat}
theorem vx_callI (X : Stand p l e R s m args below meth c T locs cells slots) (hexec : p.tables.exec = Jvm.exec) {own : String} {index : Nat} {y : MethodName} {bytes : ByteArray} {maxL : Nat}
    (hown : s.vm.findClass own = some m.cls) (hy1 : y.name = "<init>") (hlink : (Cond.methodLink own index y).before args s = true) (hinst : (Cond.instanceMethod y).before args s = true)
    (hcode : (Cond.code y bytes maxL none).before args s = true) (hy : y.cls ≠ "java/lang/invoke/MethodHandle" ∧ y.cls ≠ "java/lang/invoke/VarHandle")
    {W9 : Nat} {Pre : Pt → Array Value → Prop} {Post : Pt → Array Value → Option Value → Pt → Prop} {PostX : Pt → Array Value → Addr → Pt → Prop} (hK : vx_Back l R p e below s args y 3 W9 Pre Post PostX)
    {g : JFrame} (hg : g.method = m) (hsize : g.locals.size = c.maxLocals) {a : Addr} {argsL rest : List Value} (hlen : ∀ sig, parseMethodDescriptor y.desc = some sig → argsL.length = sig.parameters.length)
    (hstack : g.stack = argsL.reverse ++ .ref a :: rest) (hW : 2 * g.monitorRoom + (rest.map fun v => v.category).sum ≤ W9) (hdg : decode c.code g.pc = .ok (.invokespecial index, 3))
    (hpre : ∀ vm₁, s.WarmedH vm₁ → Pre ⟨T.setVm vm₁, locs, cells, slots⟩ (Value.ref a :: argsL).toArray) :
    (∃ (v : Option Value) (vm₁ : Vm) (B : Pt), s.WarmedH vm₁ ∧ Stand p l e R s m args below meth c B.U B.locs B.cells B.slots ∧ Post ⟨T.setVm vm₁, locs, cells, slots⟩ (Value.ref a :: argsL).toArray v B ∧
      ∀ target, Steps p.tables e below (B.U.setTop { g with pc := g.pc + 3, stack := v.toList ++ rest }) target → Steps p.tables e below (T.setTop g) target) ∨
    (∃ (q : Addr) (vm₁ : Vm) (B : Pt), s.WarmedH vm₁ ∧ Stand p l e R s m args below meth c B.U B.locs B.cells B.slots ∧ PostX ⟨T.setVm vm₁, locs, cells, slots⟩ (Value.ref a :: argsL).toArray q B ∧
      Steps p.tables e below (T.setTop g) ((B.U.setTop { g with stack := rest }).pushFrame (.throwing q))) := by
  subst hg
  have hpl : e.platform.magicAccessors = ({} : Platform).magicAccessors := by rw [X.admits.platform]
  obtain ⟨mk, methM, cM, kP, vm₁, hnamed, hmethM, hcodeM, -, hlocalsM, -, hkP, -, hW₁, hstep₁⟩ := Steps.initColdArgs (e := e) X.here hexec X.warmed hpl hown hy1 hy hlink hinst hcode (f := g) rfl hlen hstack hdg
  have X₁ := X.noted hW₁
  rcases hK g.method meth c ⟨T.setVm vm₁, locs, cells, slots⟩ { g with stack := rest } (.invokespecial index) mk (Value.ref a :: argsL).toArray X₁ rfl hsize hdg hW (X₁.named hnamed) (hpre vm₁ X₁.warmed) with ⟨v, B, X', hpost, hsteps⟩ | ⟨q, B, X', hpost, hsteps⟩
  · exact Or.inl ⟨v, vm₁, B, X₁.warmed, X', hpost, fun target h => hstep₁ _ fun acts => by rw [doInvoke_state]; exact hsteps.trans h⟩
  · exact Or.inr ⟨q, vm₁, B, X₁.warmed, X', hpost, hstep₁ _ fun acts => by rw [doInvoke_state]; exact hsteps⟩
end VXIA
section VXIB
variable {p : Program} {l : Launch} {e : Env} {R : Room} {s : State} {m : MethodId} {args : Array Value} {below : List Frame} {meth : Method} {c : Code} {H : Heap} {locs : List Loc} {cells slots : Nat}
variable {y : MethodName} {bytes cc : ByteArray} {maxL nL mc ms n index : Nat} {ret : Option FieldType} {ws : List Cond} {rm : Room} {Pc : Array Value → State → Prop} {Qc : Array Value → State → Outcome → State → Prop} {XC : String → State → State → Prop} {free : Addr → Prop} {Ts : List Cond} {own C : String} {b : Addr} {As rest : List Value} {g : JFrame}
theorem vx_runI (S : CallFix p m c cc nL s args Ts own) (hM : vx_Met l y ws rm Pc Qc XC mc ms free) (cw : CallB R s args own index y bytes maxL none ws rm mc ms n ∧ y.name = "<init>" ∧ (Cond.instanceMethod y).before args s = true) (hp : PreS s H Pc (.ref b :: As))
    (hg : g.method = m) (hn : As.length = n) (hsize : g.locals.size = nL) (hstack : g.stack = As.reverse ++ .ref b :: rest) (hW : 2 * g.monitorRoom + (rest.map fun v => v.category).sum ≤ 8) (hdg : decode cc g.pc = .ok (.invokespecial index, 3)) (hf : cells + mc ≤ R.cells ∧ slots + ms ≤ R.slots) :
    vx_Run p l e R s m args below meth c H locs cells slots mc ms g rest (Qc (Value.ref b :: As).toArray) XC free := by
  have hK : vx_Back l R p e below s args y 3 8 (PreOf R mc ms Pc) (PostOf Qc mc ms free) (vx_Post XC mc ms free) := vx_callBack cw.1 hM hp.1
  obtain ⟨⟨-, -, -, -, -, -, hcode, -, hy, hlen, hl⟩, hy1, hin⟩ := cw
  obtain ⟨hx, hb, hml, ho, -⟩ := S
  have hPc := hp.2
  intro T hT X
  rcases vx_callI X hx (bytes := bytes) (maxL := maxL) ho hy1 hl hin hcode hy hK hg (hsize.trans hml.symm) (a := b) (argsL := As) (rest := rest) (fun sig h => hn.trans (hlen sig h)) hstack hW (by rw [hb]; exact hdg)
    (fun vm₁ hW₁ => ⟨hf.1, hf.2, hPc (T.setVm vm₁) hT hW₁⟩) with ⟨v, vm₁, ⟨U', l2, c2, s2⟩, hW₁, X', ⟨g', mk, t, L, e1, e2, hq, h1, hL, h2, h3⟩, st⟩ | ⟨q, vm₁, ⟨U', l2, c2, s2⟩, hW₁, X', ⟨g', mk, t, L, E, ce, e1, e2, hq, hce, hcv, hcl, h1, hL, h2, h3⟩, st⟩
  · dsimp only [Pt.U, Pt.locs, Pt.cells, Pt.slots] at X' e1 e2 h1 h2 h3 st
    subst h1; subst h2; subst h3
    exact Or.inl ⟨v, (T.setVm vm₁).calling g' mk (Value.ref b :: As).toArray, t, U', L, hT, X', hL, e1, e2, hq, st⟩
  · dsimp only [Pt.U, Pt.locs, Pt.cells, Pt.slots] at X' e1 e2 h1 h2 h3 st hcl
    subst h1; subst h2; subst h3
    exact Or.inr ⟨q, (T.setVm vm₁).calling g' mk (Value.ref b :: As).toArray, t, U', L, E, ce, hT, X', hL, e1, e2, hq, hce, hcv, vx_cls hW₁ hcl, st⟩
end VXIB
/-! ===== END ===== -/
/-! ===== BEGIN a private constructor of a nest mate that throws ===== -/
section VXIC
variable {p : Program} {l : Launch} {e : Env} {R : Room} {s : State} {m : MethodId} {args : Array Value} {below : List Frame} {meth : Method} {c : Code} {T : State} {locs : List Loc} {cells slots : Nat}
theorem vx_callIN (X : Stand p l e R s m args below meth c T locs cells slots) (hexec : p.tables.exec = Jvm.exec) {own : String} {index : Nat} {host : String} {y : MethodName} {bytes : ByteArray} {maxL : Nat}
    (hown : s.vm.findClass own = some m.cls) (hy1 : y.name = "<init>") (hlink : (Cond.methodLinkNest own index y host).before args s = true) (hinst : (Cond.instanceMethod y).before args s = true)
    (hcode : (Cond.code y bytes maxL none).before args s = true) (hy : y.cls ≠ "java/lang/invoke/MethodHandle" ∧ y.cls ≠ "java/lang/invoke/VarHandle")
    {W9 : Nat} {Pre : Pt → Array Value → Prop} {Post : Pt → Array Value → Option Value → Pt → Prop} {PostX : Pt → Array Value → Addr → Pt → Prop} (hK : vx_Back l R p e below s args y 3 W9 Pre Post PostX)
    {g : JFrame} (hg : g.method = m) (hsize : g.locals.size = c.maxLocals) {a : Addr} {argsL rest : List Value} (hlen : ∀ sig, parseMethodDescriptor y.desc = some sig → argsL.length = sig.parameters.length)
    (hstack : g.stack = argsL.reverse ++ .ref a :: rest) (hW : 2 * g.monitorRoom + (rest.map fun v => v.category).sum ≤ W9) (hdg : decode c.code g.pc = .ok (.invokespecial index, 3))
    (hpre : ∀ vm₁, s.WarmedH vm₁ → Pre ⟨T.setVm vm₁, locs, cells, slots⟩ (Value.ref a :: argsL).toArray) :
    (∃ (v : Option Value) (vm₁ : Vm) (B : Pt), s.WarmedH vm₁ ∧ Stand p l e R s m args below meth c B.U B.locs B.cells B.slots ∧ Post ⟨T.setVm vm₁, locs, cells, slots⟩ (Value.ref a :: argsL).toArray v B ∧
      ∀ target, Steps p.tables e below (B.U.setTop { g with pc := g.pc + 3, stack := v.toList ++ rest }) target → Steps p.tables e below (T.setTop g) target) ∨
    (∃ (q : Addr) (vm₁ : Vm) (B : Pt), s.WarmedH vm₁ ∧ Stand p l e R s m args below meth c B.U B.locs B.cells B.slots ∧ PostX ⟨T.setVm vm₁, locs, cells, slots⟩ (Value.ref a :: argsL).toArray q B ∧
      Steps p.tables e below (T.setTop g) ((B.U.setTop { g with stack := rest }).pushFrame (.throwing q))) := by
  subst hg
  have hpl : e.platform.magicAccessors = ({} : Platform).magicAccessors := by rw [X.admits.platform]
  obtain ⟨mk, methM, cM, kP, vm₁, hnamed, hmethM, hcodeM, -, hlocalsM, -, hkP, -, hW₁, hstep₁⟩ := Steps.initColdArgsNest (e := e) X.here hexec X.warmed hpl hown hy1 hy hlink hinst hcode (f := g) rfl hlen hstack hdg
  have X₁ := X.noted hW₁
  rcases hK g.method meth c ⟨T.setVm vm₁, locs, cells, slots⟩ { g with stack := rest } (.invokespecial index) mk (Value.ref a :: argsL).toArray X₁ rfl hsize hdg hW (X₁.named hnamed) (hpre vm₁ X₁.warmed) with ⟨v, B, X', hpost, hsteps⟩ | ⟨q, B, X', hpost, hsteps⟩
  · exact Or.inl ⟨v, vm₁, B, X₁.warmed, X', hpost, fun target h => hstep₁ _ fun acts => by rw [doInvoke_state]; exact hsteps.trans h⟩
  · exact Or.inr ⟨q, vm₁, B, X₁.warmed, X', hpost, hstep₁ _ fun acts => by rw [doInvoke_state]; exact hsteps⟩
end VXIC
section VXID
variable {p : Program} {l : Launch} {e : Env} {R : Room} {s : State} {m : MethodId} {args : Array Value} {below : List Frame} {meth : Method} {c : Code} {H : Heap} {locs : List Loc} {cells slots : Nat}
theorem vx_runIN {y : MethodName} {bytes cc : ByteArray} {maxL nL mc ms n index : Nat} {ws : List Cond} {rm : Room} {Pc : Array Value → State → Prop} {Qc : Array Value → State → Outcome → State → Prop} {XC : String → State → State → Prop} {free : Addr → Prop} {Ts : List Cond} {own host : String} {b : Addr} {As rest : List Value} {g : JFrame}
    (S : CallFix p m c cc nL s args Ts own) (hM : vx_Met l y ws rm Pc Qc XC mc ms free) (cw : va_CN R s args own index y host bytes maxL none ws rm mc ms n ∧ y.name = "<init>" ∧ (Cond.instanceMethod y).before args s = true) (hp : PreS s H Pc (.ref b :: As))
    (hg : g.method = m) (hn : As.length = n) (hsize : g.locals.size = nL) (hstack : g.stack = As.reverse ++ .ref b :: rest) (hW : 2 * g.monitorRoom + (rest.map fun v => v.category).sum ≤ 8) (hdg : decode cc g.pc = .ok (.invokespecial index, 3)) (hf : cells + mc ≤ R.cells ∧ slots + ms ≤ R.slots) :
    vx_Run p l e R s m args below meth c H locs cells slots mc ms g rest (Qc (Value.ref b :: As).toArray) XC free := by
  obtain ⟨⟨⟨hrc, hrs, hfr, hlo, hws, hcw⟩, hcode, hini, hy, hlen, hl⟩, hx1, hx2⟩ := cw
  have hK : vx_Back l R p e below s args y 3 8 (PreOf R mc ms Pc) (PostOf Qc mc ms free) (vx_Post XC mc ms free) := vx_back (bytes := bytes) (maxL := maxL) (ret := none) hM hp.1 hrc hrs hfr hlo hws hcw (fun a' U hW => word_at hW (Or.inl (by first | rfl | simp [Cond.onTables, Cond.keeps, Cond.steady])) hini)
  obtain ⟨hx, hb, hml, ho, -⟩ := S
  have hPc := hp.2
  intro T hT X
  rcases vx_callIN X hx (bytes := bytes) (maxL := maxL) ho hx1 hl hx2 hcode hy hK hg (hsize.trans hml.symm) (a := b) (argsL := As) (rest := rest) (fun sig h => hn.trans (hlen sig h)) hstack hW (by rw [hb]; exact hdg)
    (fun vm₁ hW₁ => ⟨hf.1, hf.2, hPc (T.setVm vm₁) hT hW₁⟩) with ⟨v, vm₁, ⟨U', l2, c2, s2⟩, hW₁, X', ⟨g', mk, t, L, e1, e2, hq, h1, hL, h2, h3⟩, st⟩ | ⟨q, vm₁, ⟨U', l2, c2, s2⟩, hW₁, X', ⟨g', mk, t, L, E, ce, e1, e2, hq, hce, hcv, hcl, h1, hL, h2, h3⟩, st⟩
  · dsimp only [Pt.U, Pt.locs, Pt.cells, Pt.slots] at X' e1 e2 h1 h2 h3 st
    subst h1; subst h2; subst h3
    exact Or.inl ⟨v, (T.setVm vm₁).calling g' mk (Value.ref b :: As).toArray, t, U', L, hT, X', hL, e1, e2, hq, st⟩
  · dsimp only [Pt.U, Pt.locs, Pt.cells, Pt.slots] at X' e1 e2 h1 h2 h3 st hcl
    subst h1; subst h2; subst h3
    exact Or.inr ⟨q, (T.setVm vm₁).calling g' mk (Value.ref b :: As).toArray, t, U', L, E, ce, hT, X', hL, e1, e2, hq, hce, hcv, vx_cls hW₁ hcl, st⟩
end VXID
/-! ===== END ===== -/
end
section
/-! The bundle of what is carried, and calls between worlds. -/
abbrev eN : String := "DEFAULTCAPACITY_EMPTY_ELEMENTDATA"
abbrev eD : String := "[Ljava/lang/Object;"
abbrev tO : FieldType := .object "java/lang/Object"
def EXe (e : Nat) : EXT := fun A s H => GP A s H ∧ va_Nc IA IX s ∧ va_Nc IS IX s ∧ va_Nc IS IA s ∧ va_Nw (.methodLinkNest RX2 66 yX0_init RX2) s ∧ va_Nw (.methodLinkNest RX2 29 yX1_init RX2) s ∧ va_Nw (.castable RX0 "java/lang/Object") s ∧ va_AO "java/lang/Object" s ∧ va_Z RJx4a65c eN eD (.ref e) A s H ∧ ¬ A e ∧ ∃ cE : Cell, H[e]? = some cE ∧ s.isArrayOf cE tO ∧ cE.slots.size.toInt32 = 0
theorem EXe.gp {e : Nat} : ∀ (A : Nat → Prop) (s : State) (H : Heap), EXe e A s H → GP A s H := fun _ _ _ h => h.1
theorem EXe.carr {e : Nat} : Carr (EXe e) := by
  rintro A A' s U H0 H hW ⟨h1, h2, h3, h4, h5, h6, h7, h8, h9, h10, cE, h11, h12, h13⟩ hq hA
  refine ⟨GP.warm hW h1 hq hA, va_Nc.moved hW.alike h2, va_Nc.moved hW.alike h3, va_Nc.moved hW.alike h4, va_Nw.warmM hW h5, va_Nw.warmM hW h6, va_Nw.warmC hW h7, va_AO.moved hW.alike h8, va_Z.moved hW.alike ((h9.kept hq).narrow hA), fun q => h10 (hA e q), cE, ?_, State.isArrayOf_alike hW.alike h12, h13⟩
  rw [hq e (Array.getElem?_eq_some_iff.mp h11).1 h10]
  exact h11
theorem Carr.blind {EX : EXT} (h : Carr EX) {A : Nat → Prop} {U : State} {H : Heap} {g : JFrame} {mk : MethodId} {a : Array Value} (q : EX A U H) : EX A (U.calling g mk a) H := h A A U (U.calling g mk a) H H (State.WarmedH.refl U) q (fun _ _ _ => rfl) (fun _ z => z)
theorem gao_sub {w : va_W} {A : Nat → Prop} {H0 H : Heap} {locs : List Loc} (hD : va_D A w) (hS : va_S A H0 H locs) (hA : ∀ q, H0.size ≤ q → A q) : ∀ q, va_A w H.size q → A q := by
  intro q h
  rcases h with ⟨k, e, h⟩ | h
  · exact hD.2 k _ h
  · exact hA q (Nat.le_trans hS.1 h)
theorem gpre_blind {EX : EXT} (hc : Carr EX) {w : va_W} {D : va_G} {cA : Nat → ClassId} {sz : Nat} {As : List Value} : FrameBlind (va_Pc As (fun U => U.heap.size = sz ∧ va_P D vwCl w U.heap ∧ va_D (fun _ => True) w ∧ KK D cA U ∧ EX (va_A w sz) U U.heap)) := by
  rintro aa U g mk ⟨h1, h2, h3, h4, h5, h6⟩
  exact ⟨h1, h2, h3, h4, h5.blind, hc.blind h6⟩
theorem gpre_at {EX EX' : EXT} (hc : Carr EX') (hsub : ∀ (A : Nat → Prop) (s : State) (H : Heap), EX A s H → EX' A s H) {w : va_W} {D : va_G} {cA : Nat → ClassId} {A : Nat → Prop} {As : List Value} {s : State} {H : Heap} {locs : List Loc} (hP : va_P D vwCl w H) (hD : va_D A w) (hS : va_S A s.heap H locs) (hA : ∀ q, s.heap.size ≤ q → A q) (hK : KK D cA s) (hG : EX A s s.heap) :
    ∀ U : State, U.heap = H → s.WarmedH U.vm → va_Pc As (fun U => U.heap.size = H.size ∧ va_P D vwCl w U.heap ∧ va_D (fun _ => True) w ∧ KK D cA U ∧ EX' (va_A w H.size) U U.heap) As.toArray U := by
  intro U hU hW
  refine ⟨rfl, by rw [hU], by rw [hU]; exact hP, hD.weaken (fun _ _ _ _ => trivial), va_K.moved hW.alike hK, ?_⟩
  rw [hU]
  exact hc _ _ _ _ _ _ hW (hsub _ _ _ hG) hS.2.1 (gao_sub hD hS hA)
section GCalls
variable {EX EX' : EXT} {l : Launch} {R : Room} {cc : ByteArray} {own mn : String} {ret : Option FieldType} {mc ms : Nat} {tb : List ExceptionTableEntry} {Ξ : CT}
variable {w : Wd} {a b pc : Nat} {ls ls2 : List (Nat × Value)} {st stk : List Value}
/-- a throw by Ex at pc, caught in this method: where it goes on -/
def Hd (EX : EXT) (own : String) (tb : List ExceptionTableEntry) (Ξ : CT) (w : Wd) (a b pc : Nat) (ls : List (Nat × Value)) (Ex : String) : Prop :=
  ∃ (pre : List ExceptionTableEntry) (x : ExceptionTableEntry) (suf : List ExceptionTableEntry) (name : String), tb = pre ++ x :: suf ∧ (∀ z ∈ pre, covers z pc = false ∨ (z.catchType ≠ 0 ∧ ∃ nm : String, Cond.classLink own z.catchType nm ∈ GW ∧ ∀ (A : Nat → Prop) (s : State) (H : Heap), EX A s H → va_Nc Ex nm s)) ∧
    covers x pc = true ∧ x.catchType ≠ 0 ∧ Cond.classLink own x.catchType name ∈ GW ∧ Cond.castable Ex name ∈ NGw ∧ ∀ q9 : Nat, G Ξ w a b x.handlerPc ls [.ref q9]
theorem vx_callG {p : Program} {e : Env} {s : State} {m : MethodId} {args : Array Value} {below : List Frame} {meth : Method} {c : Code} {H : Heap} {locs : List Loc} {cells slots mc ms : Nat} {Q : State → Prop} {A0 A1 : Nat → Prop} {H0 : Heap} {ls : Array Slot} {st0 rest : List Value} {D : va_G} {cA : Nat → ClassId} {post : Option Value → Wd → Prop} {exc : String → Wd → Prop} {Qa : State → Outcome → State → Prop} {X : String → State → State → Prop}
    (hr : vx_Run p l e R s m args below meth c H locs cells slots mc ms (F0 m pc ls st0) rest Qa X A1) (hS : va_S A0 H0 H locs) (hA : ∀ q, A1 q → A0 q)
    (hq : ∀ (st : State) (v : Option Value) (t : State), Qa st (.returned v) t → (∃ w' : Wd, post v w' ∧ Bg D cA A1 w' t) ∧ va_F A1 st t) (hxx : ∀ (Ex : String) (st t : State), X Ex st t → (∃ w' : Wd, exc Ex w' ∧ Bg D cA A1 w' t) ∧ va_F A1 st t)
    (kx : ∀ (Ex : String) (ce : Cell) (q9 : Addr) (u : Wd) (t : State) (H1 : Heap) (locs1 : List Loc), t.heap = H1 → exc Ex u → Bg D cA A1 u t → va_S A0 H0 H1 locs1 → H1[q9]? = some ce → ce.vm = .none → s.vm.findClass Ex = some ce.cls → vx_W p l e R s m args below meth c H1 locs1 (cells + mc) (slots + ms) Q (F0 m pc ls rest) q9)
    (kk : ∀ (v : Option Value) (u : Wd) (t : State) (H1 : Heap) (locs1 : List Loc), t.heap = H1 → post v u → Bg D cA A1 u t → va_S A0 H0 H1 locs1 → W p l e R s m args below meth c H1 locs1 (cells + mc) (slots + ms) Q (F0 m (pc + 3) ls (v.toList ++ rest))) : W p l e R s m args below meth c H locs cells slots Q (F0 m pc ls st0) := by
  intro T hT X
  rcases hr T hT X with ⟨v, st₀, t, T', L, h0, X', hL, e1, e2, hQ, st⟩ | ⟨q, st₀, t, T', L, Ex, ce, h0, X', hL, e1, e2, hX, hce, hcv, hcl, st⟩
  · obtain ⟨⟨u, hp, hb⟩, hF⟩ := hq _ _ _ hQ
    obtain ⟨k1, k2, k3⟩ := vx_keep h0 e1 hS (fun q _ h => hA q h) hA hL hF
    obtain ⟨t2, a1, b1⟩ := kk v u t T'.heap (locs ++ L) e1.symm hp hb k3 T' rfl X'
    exact ⟨t2, st t2 a1, b1⟩
  · obtain ⟨⟨u, hp, hb⟩, hF⟩ := hxx _ _ _ hX
    obtain ⟨k1, k2, k3⟩ := vx_keep h0 e1 hS (fun q _ h => hA q h) hA hL hF
    obtain ⟨t2, a1, b1⟩ := kx Ex ce q u t T'.heap (locs ++ L) e1.symm hp hb k3 (by rw [e1]; exact hce) hcv hcl T' rfl X'
    exact ⟨t2, st.trans a1, b1⟩
theorem g_callV {y : MethodName} {cy : ByteArray} {maxL : Nat} {ry : Option FieldType} {h mc' ms' idx nA : Nat} {As : List Value} {post' : Option Value → Wd → Prop} {exc' : String → Wd → Prop} {q i ci : Nat} {Cn : String} {qc : vw_C} {fs : List Value} (C : CB EX l R cc own mn tb Ξ) (hc : CG EX' l y (Cond.code y cy maxL ry :: GW) h mc' ms' w (.ref q :: As) post' exc') (hsub : ∀ (A : Nat → Prop) (s : State) (H : Heap), EX A s H → EX' A s H) (hcar' : Carr EX') (he : ∀ cA, (w cA)[i]? = some (q, .inr (ci, fs))) (hcl : vwCl[ci]? = some qc) (hqc : qc.1 = Cn) (hcode : Cond.code y cy maxL ry ∈ GW) (hlink : Cond.methodLink own idx y ∈ GW) (hinst : Cond.instanceMethod y ∈ GW) (hsel : Cond.selects Cn y y ∈ GW) (hinit : Cond.initialized y.cls ∈ GW)
    (hd : y.cls ≠ "java/lang/invoke/MethodHandle" ∧ y.cls ≠ "java/lang/invoke/VarHandle" ∧ (parseMethodDescriptor y.desc).map (fun d => d.parameters.length) = some nA)
    (hR : h + 1 ≤ R.frames ∧ 8 + (maxL + 11) + (30 * h + 60) ≤ R.locals) (hAs : As.length = nA) (hstk : stk = As.reverse ++ .ref q :: st) (hcat : (st.map fun v => v.category).sum ≤ 8)
    (d : decode cc pc = .ok (.invokevirtual idx, 3)) (hrc : a + mc' ≤ R.cells ∧ b + ms' ≤ R.slots)
    (kx : ∀ (Ex : String) (u : Wd), exc' Ex u → Hd EX own tb Ξ u (a + mc') (b + ms') pc ls Ex) (kk : ∀ (v : Option Value) (u : Wd), post' v u → G Ξ u (a + mc') (b + ms') (pc + 3) ls (v.toList ++ st)) : G Ξ w a b pc ls stk := by
  obtain ⟨p, e, s, m, args, below, meth, c, D, cA, A, nL, Z, rfl, hx, hb, hml, hown, hmn, hts, hK, hG, hE, htb, hA, hst⟩ := C
  intro H locs lsA hP hD hS hl
  subst hstk
  subst hqc
  have cw : CallB R s args own idx y cy maxL ry (Cond.code y cy maxL ry :: GW) (rmm h mc' ms') mc' ms' nA := callB_of nA hts (gw_good hcode) rfl rfl rfl (hts _ hinit) (hts _ hlink) hd hR
  obtain ⟨Qc, Xc, hM, hq, hxx⟩ := hc D cA H.size
  refine vx_callG (D := D) (cA := cA) (vx_runV (As := As) (rest := st) ⟨hx, hb, hml, hown, hts⟩ hM ⟨cw, hts _ hinst, hts _ hsel⟩ ⟨gpre_blind hcar', va_recv hK hP hcl (he cA), gpre_at hcar' hsub hP hD hS hA hK hE⟩ rfl hAs hl.1 rfl (lv_room hcat) d hrc) hS (gao_sub hD hS hA) (fun st v t h => hq _ st v t h) hxx ?_ ?_
  · intro Ex ce q9 u t H1 locs1 ht he2 hBw hS1 h1 h2 h3
    obtain ⟨pre, x, suf, name, e1, e2, e3, e4, e5, e6, e7⟩ := kx Ex u he2
    refine vx_catch (name := name) hown pre x suf (htb.trans e1) (fun z hz => ?_) e3 e4 (hts _ e5) ?_ h1 h2 h3 (e7 q9 H1 locs1 lsA (by rw [← ht]; exact hBw.1) (hBw.2.weaken (fun _ q _ h => gao_sub hD hS hA q.1 h)) hS1 hl)
    · rcases e2 z hz with z1 | ⟨z1, nm, z2, z3⟩
      · exact Or.inl z1
      · exact Or.inr ⟨z1, nm, hts _ z2, z3 _ _ _ hE⟩
    · exact va_Nw.use rfl ((hG _ _ _ hE).1 _ e6)
  · intro v u t H1 locs1 ht hp hBw hS1
    exact kk v u hp H1 locs1 lsA (by rw [← ht]; exact hBw.1) (hBw.2.weaken (fun _ q _ h => gao_sub hD hS hA q.1 h)) hS1 hl
theorem g_callS {y : MethodName} {cy : ByteArray} {maxL : Nat} {ry : Option FieldType} {h mc' ms' idx nA : Nat} {As : List Value} {post' : Option Value → Wd → Prop} {exc' : String → Wd → Prop}  (C : CB EX l R cc own mn tb Ξ) (hc : CG EX' l y (Cond.code y cy maxL ry :: GW) h mc' ms' w As post' exc') (hsub : ∀ (A : Nat → Prop) (s : State) (H : Heap), EX A s H → EX' A s H) (hcar' : Carr EX') (hcode : Cond.code y cy maxL ry ∈ GW) (hlink : Cond.methodLink own idx y ∈ GW) (hstat : Cond.static y ∈ GW) (hinit : Cond.initialized y.cls ∈ GW)
    (hd : y.cls ≠ "java/lang/invoke/MethodHandle" ∧ y.cls ≠ "java/lang/invoke/VarHandle" ∧ (parseMethodDescriptor y.desc).map (fun d => d.parameters.length) = some nA)
    (hR : h + 1 ≤ R.frames ∧ 8 + (maxL + 11) + (30 * h + 60) ≤ R.locals) (hAs : As.length = nA) (hstk : stk = As.reverse ++ st) (hcat : (st.map fun v => v.category).sum ≤ 8)
    (d : decode cc pc = .ok (.invokestatic idx, 3)) (hrc : a + mc' ≤ R.cells ∧ b + ms' ≤ R.slots)
    (kx : ∀ (Ex : String) (u : Wd), exc' Ex u → Hd EX own tb Ξ u (a + mc') (b + ms') pc ls Ex) (kk : ∀ (v : Option Value) (u : Wd), post' v u → G Ξ u (a + mc') (b + ms') (pc + 3) ls (v.toList ++ st)) : G Ξ w a b pc ls stk := by
  obtain ⟨p, e, s, m, args, below, meth, c, D, cA, A, nL, Z, rfl, hx, hb, hml, hown, hmn, hts, hK, hG, hE, htb, hA, hst⟩ := C
  intro H locs lsA hP hD hS hl
  subst hstk
  have cw : CallB R s args own idx y cy maxL ry (Cond.code y cy maxL ry :: GW) (rmm h mc' ms') mc' ms' nA := callB_of nA hts (gw_good hcode) rfl rfl rfl (hts _ hinit) (hts _ hlink) hd hR
  obtain ⟨Qc, Xc, hM, hq, hxx⟩ := hc D cA H.size
  refine vx_callG (D := D) (cA := cA) (vx_runS (As := As) (rest := st) ⟨hx, hb, hml, hown, hts⟩ hM ⟨cw, hts _ hstat⟩ ⟨gpre_blind hcar', gpre_at hcar' hsub hP hD hS hA hK hE⟩ rfl hAs hl.1 rfl (lv_room hcat) d hrc) hS (gao_sub hD hS hA) (fun st v t h => hq _ st v t h) hxx ?_ ?_
  · intro Ex ce q9 u t H1 locs1 ht he2 hBw hS1 h1 h2 h3
    obtain ⟨pre, x, suf, name, e1, e2, e3, e4, e5, e6, e7⟩ := kx Ex u he2
    refine vx_catch (name := name) hown pre x suf (htb.trans e1) (fun z hz => ?_) e3 e4 (hts _ e5) ?_ h1 h2 h3 (e7 q9 H1 locs1 lsA (by rw [← ht]; exact hBw.1) (hBw.2.weaken (fun _ q _ h => gao_sub hD hS hA q.1 h)) hS1 hl)
    · rcases e2 z hz with z1 | ⟨z1, nm, z2, z3⟩
      · exact Or.inl z1
      · exact Or.inr ⟨z1, nm, hts _ z2, z3 _ _ _ hE⟩
    · exact va_Nw.use rfl ((hG _ _ _ hE).1 _ e6)
  · intro v u t H1 locs1 ht hp hBw hS1
    exact kk v u hp H1 locs1 lsA (by rw [← ht]; exact hBw.1) (hBw.2.weaken (fun _ q _ h => gao_sub hD hS hA q.1 h)) hS1 hl
theorem g_callI {y : MethodName} {cy : ByteArray} {maxL : Nat} {h mc' ms' idx nA : Nat} {As : List Value} {post' : Option Value → Wd → Prop} {exc' : String → Wd → Prop} {q : Nat} (C : CB EX l R cc own mn tb Ξ) (hc : CG EX' l y (Cond.code y cy maxL none :: GW) h mc' ms' w (.ref q :: As) post' exc') (hsub : ∀ (A : Nat → Prop) (s : State) (H : Heap), EX A s H → EX' A s H) (hcar' : Carr EX') (hcode : Cond.code y cy maxL none ∈ GW) (hlink : Cond.methodLink own idx y ∈ GW) (hinst : Cond.instanceMethod y ∈ GW) (hnm : y.name = "<init>") (hinit : Cond.initialized y.cls ∈ GW)
    (hd : y.cls ≠ "java/lang/invoke/MethodHandle" ∧ y.cls ≠ "java/lang/invoke/VarHandle" ∧ (parseMethodDescriptor y.desc).map (fun d => d.parameters.length) = some nA)
    (hR : h + 1 ≤ R.frames ∧ 8 + (maxL + 11) + (30 * h + 60) ≤ R.locals) (hAs : As.length = nA) (hstk : stk = As.reverse ++ .ref q :: st) (hcat : (st.map fun v => v.category).sum ≤ 8)
    (d : decode cc pc = .ok (.invokespecial idx, 3)) (hrc : a + mc' ≤ R.cells ∧ b + ms' ≤ R.slots)
    (kx : ∀ (Ex : String) (u : Wd), exc' Ex u → Hd EX own tb Ξ u (a + mc') (b + ms') pc ls Ex) (kk : ∀ (v : Option Value) (u : Wd), post' v u → G Ξ u (a + mc') (b + ms') (pc + 3) ls (v.toList ++ st)) : G Ξ w a b pc ls stk := by
  obtain ⟨p, e, s, m, args, below, meth, c, D, cA, A, nL, Z, rfl, hx, hb, hml, hown, hmn, hts, hK, hG, hE, htb, hA, hst⟩ := C
  intro H locs lsA hP hD hS hl
  subst hstk
  have cw : CallB R s args own idx y cy maxL none (Cond.code y cy maxL none :: GW) (rmm h mc' ms') mc' ms' nA := callB_of nA hts (gw_good hcode) rfl rfl rfl (hts _ hinit) (hts _ hlink) hd hR
  obtain ⟨Qc, Xc, hM, hq, hxx⟩ := hc D cA H.size
  refine vx_callG (D := D) (cA := cA) (vx_runI (As := As) (rest := st) ⟨hx, hb, hml, hown, hts⟩ hM ⟨cw, hnm, hts _ hinst⟩ ⟨gpre_blind hcar', gpre_at hcar' hsub hP hD hS hA hK hE⟩ rfl hAs hl.1 rfl (lv_room hcat) d hrc) hS (gao_sub hD hS hA) (fun st v t h => hq _ st v t h) hxx ?_ ?_
  · intro Ex ce q9 u t H1 locs1 ht he2 hBw hS1 h1 h2 h3
    obtain ⟨pre, x, suf, name, e1, e2, e3, e4, e5, e6, e7⟩ := kx Ex u he2
    refine vx_catch (name := name) hown pre x suf (htb.trans e1) (fun z hz => ?_) e3 e4 (hts _ e5) ?_ h1 h2 h3 (e7 q9 H1 locs1 lsA (by rw [← ht]; exact hBw.1) (hBw.2.weaken (fun _ q _ h => gao_sub hD hS hA q.1 h)) hS1 hl)
    · rcases e2 z hz with z1 | ⟨z1, nm, z2, z3⟩
      · exact Or.inl z1
      · exact Or.inr ⟨z1, nm, hts _ z2, z3 _ _ _ hE⟩
    · exact va_Nw.use rfl ((hG _ _ _ hE).1 _ e6)
  · intro v u t H1 locs1 ht hp hBw hS1
    exact kk v u hp H1 locs1 lsA (by rw [← ht]; exact hBw.1) (hBw.2.weaken (fun _ q _ h => gao_sub hD hS hA q.1 h)) hS1 hl
theorem g_callIN {y : MethodName} {cy : ByteArray} {maxL : Nat} {h mc' ms' idx nA : Nat} {As : List Value} {post' : Option Value → Wd → Prop} {exc' : String → Wd → Prop} {q : Nat} {host : String} (C : CB EX l R cc own mn tb Ξ) (hc : CG EX' l y (Cond.code y cy maxL none :: GW) h mc' ms' w (.ref q :: As) post' exc') (hsub : ∀ (A : Nat → Prop) (s : State) (H : Heap), EX A s H → EX' A s H) (hcar' : Carr EX') (hcode : Cond.code y cy maxL none ∈ GW) (hlink : ∀ (A : Nat → Prop) (s : State) (H : Heap), EX A s H → va_Nw (.methodLinkNest own idx y host) s) (hinst : Cond.instanceMethod y ∈ GW) (hnm : y.name = "<init>") (hinit : Cond.initialized y.cls ∈ GW)
    (hd : y.cls ≠ "java/lang/invoke/MethodHandle" ∧ y.cls ≠ "java/lang/invoke/VarHandle" ∧ (parseMethodDescriptor y.desc).map (fun d => d.parameters.length) = some nA)
    (hR : h + 1 ≤ R.frames ∧ 8 + (maxL + 11) + (30 * h + 60) ≤ R.locals) (hAs : As.length = nA) (hstk : stk = As.reverse ++ .ref q :: st) (hcat : (st.map fun v => v.category).sum ≤ 8)
    (d : decode cc pc = .ok (.invokespecial idx, 3)) (hrc : a + mc' ≤ R.cells ∧ b + ms' ≤ R.slots)
    (kx : ∀ (Ex : String) (u : Wd), exc' Ex u → Hd EX own tb Ξ u (a + mc') (b + ms') pc ls Ex) (kk : ∀ (v : Option Value) (u : Wd), post' v u → G Ξ u (a + mc') (b + ms') (pc + 3) ls (v.toList ++ st)) : G Ξ w a b pc ls stk := by
  obtain ⟨p, e, s, m, args, below, meth, c, D, cA, A, nL, Z, rfl, hx, hb, hml, hown, hmn, hts, hK, hG, hE, htb, hA, hst⟩ := C
  intro H locs lsA hP hD hS hl
  subst hstk
  have cw : va_CN R s args own idx y host cy maxL none (Cond.code y cy maxL none :: GW) (rmm h mc' ms') mc' ms' nA := va_cnB nA hts (gw_good hcode) rfl rfl rfl (hlink _ _ _ hE) (hts _ hinit) hd hR
  obtain ⟨Qc, Xc, hM, hq, hxx⟩ := hc D cA H.size
  refine vx_callG (D := D) (cA := cA) (vx_runIN (As := As) (rest := st) ⟨hx, hb, hml, hown, hts⟩ hM ⟨cw, hnm, hts _ hinst⟩ ⟨gpre_blind hcar', gpre_at hcar' hsub hP hD hS hA hK hE⟩ rfl hAs hl.1 rfl (lv_room hcat) d hrc) hS (gao_sub hD hS hA) (fun st v t h => hq _ st v t h) hxx ?_ ?_
  · intro Ex ce q9 u t H1 locs1 ht he2 hBw hS1 h1 h2 h3
    obtain ⟨pre, x, suf, name, e1, e2, e3, e4, e5, e6, e7⟩ := kx Ex u he2
    refine vx_catch (name := name) hown pre x suf (htb.trans e1) (fun z hz => ?_) e3 e4 (hts _ e5) ?_ h1 h2 h3 (e7 q9 H1 locs1 lsA (by rw [← ht]; exact hBw.1) (hBw.2.weaken (fun _ q _ h => gao_sub hD hS hA q.1 h)) hS1 hl)
    · rcases e2 z hz with z1 | ⟨z1, nm, z2, z3⟩
      · exact Or.inl z1
      · exact Or.inr ⟨z1, nm, hts _ z2, z3 _ _ _ hE⟩
    · exact va_Nw.use rfl ((hG _ _ _ hE).1 _ e6)
  · intro v u t H1 locs1 ht hp hBw hS1
    exact kk v u hp H1 locs1 lsA (by rw [← ht]; exact hBw.1) (hBw.2.weaken (fun _ q _ h => gao_sub hD hS hA q.1 h)) hS1 hl
theorem g_callSX {y : MethodName} {cy : ByteArray} {maxL : Nat} {ry : Option FieldType} {h mc' ms' idx nA : Nat} {As : List Value} {post' : Option Value → Wd → Prop} {exc' : String → Wd → Prop} {hh : List (Nat × Nat × Nat × Nat)} (C : CB EX l R cc own mn tb Ξ) (hc : CG EX' l y (Cond.codeWith y cy maxL ry hh :: GW) h mc' ms' w As post' exc') (hsub : ∀ (A : Nat → Prop) (s : State) (H : Heap), EX A s H → EX' A s H) (hcar' : Carr EX') (hcode : GoodIn GW (va_wsS own idx y (Cond.codeWith y cy maxL ry hh :: GW))) (hinit : Cond.initialized y.cls ∈ GW)
    (hd : y.cls ≠ "java/lang/invoke/MethodHandle" ∧ y.cls ≠ "java/lang/invoke/VarHandle" ∧ (parseMethodDescriptor y.desc).map (fun d => d.parameters.length) = some nA)
    (hR : h + 1 ≤ R.frames ∧ 8 + (maxL + 11) + (30 * h + 60) ≤ R.locals) (hAs : As.length = nA) (hstk : stk = As.reverse ++ st) (hcat : (st.map fun v => v.category).sum ≤ 8)
    (d : decode cc pc = .ok (.invokestatic idx, 3)) (hrc : a + mc' ≤ R.cells ∧ b + ms' ≤ R.slots)
    (kx : ∀ (Ex : String) (u : Wd), exc' Ex u → Hd EX own tb Ξ u (a + mc') (b + ms') pc ls Ex) (kk : ∀ (v : Option Value) (u : Wd), post' v u → G Ξ u (a + mc') (b + ms') (pc + 3) ls (v.toList ++ st)) : G Ξ w a b pc ls stk := by
  obtain ⟨p, e, s, m, args, below, meth, c, D, cA, A, nL, Z, rfl, hx, hb, hml, hown, hmn, hts, hK, hG, hE, htb, hA, hst⟩ := C
  intro H locs lsA hP hD hS hl
  subst hstk
  have cw : vx_CSW R s args own idx y cy maxL ry hh (Cond.codeWith y cy maxL ry hh :: GW) (rmm h mc' ms') mc' ms' nA := vx_cwSW nA hts hcode rfl rfl rfl hd hR
  obtain ⟨Qc, Xc, hM, hq, hxx⟩ := hc D cA H.size
  refine vx_callG (D := D) (cA := cA) (vx_runSX (As := As) (rest := st) ⟨hx, hb, hml, hown, hts⟩ hM cw ⟨gpre_blind hcar', gpre_at hcar' hsub hP hD hS hA hK hE⟩ rfl hAs hl.1 rfl (lv_room hcat) d hrc) hS (gao_sub hD hS hA) (fun st v t h => hq _ st v t h) hxx ?_ ?_
  · intro Ex ce q9 u t H1 locs1 ht he2 hBw hS1 h1 h2 h3
    obtain ⟨pre, x, suf, name, e1, e2, e3, e4, e5, e6, e7⟩ := kx Ex u he2
    refine vx_catch (name := name) hown pre x suf (htb.trans e1) (fun z hz => ?_) e3 e4 (hts _ e5) ?_ h1 h2 h3 (e7 q9 H1 locs1 lsA (by rw [← ht]; exact hBw.1) (hBw.2.weaken (fun _ q _ h => gao_sub hD hS hA q.1 h)) hS1 hl)
    · rcases e2 z hz with z1 | ⟨z1, nm, z2, z3⟩
      · exact Or.inl z1
      · exact Or.inr ⟨z1, nm, hts _ z2, z3 _ _ _ hE⟩
    · exact va_Nw.use rfl ((hG _ _ _ hE).1 _ e6)
  · intro v u t H1 locs1 ht hp hBw hS1
    exact kk v u hp H1 locs1 lsA (by rw [← ht]; exact hBw.1) (hBw.2.weaken (fun _ q _ h => gao_sub hD hS hA q.1 h)) hS1 hl
end GCalls
end
section
/-! The constructors. -/
section GE
variable {l : Launch} {R : Room} {cc : ByteArray} {own mn : String} {tb : List ExceptionTableEntry} {Ξ : CT}
variable {w : Wd} {a b pc e : Nat} {ls : List (Nat × Value)} {st : List Value}
theorem g_getsE {idx : Nat} (C : CB (EXe e) l R cc own mn tb Ξ) (hw : Cond.fieldLink own idx RJx4a65c eN eD ∈ GW) (d : decode cc pc = .ok (.getstatic idx, 3)) (kk : G Ξ w a b (pc + 3) ls (.ref e :: st)) : G Ξ w a b pc ls st := by
  obtain ⟨p, e9, s, m, args, below, meth, c, D, cA, A, nL, Z, rfl, hx, hb, hml, hown, hmn, hts, hK, hG, hE, htb, hA, hst⟩ := C
  intro H locs lsA hP hD hS hl
  obtain ⟨h1, h2, h3, h4, h5, h6, h7, h8, h9, h10, cE, h11, h12, h13⟩ := hE
  exact va_gets (C := RJx4a65c) (n := eN) (d := eD) hx hb h9 hS hown (hts _ hw) (fun x h => h) d (kk H locs lsA hP hD hS hl)
theorem g_alenE (C : CB (EXe e) l R cc own mn tb Ξ) (d : decode cc pc = .ok (.arraylength, 1)) (kk : G Ξ w a b (pc + 1) ls (.int 0 :: st)) : G Ξ w a b pc ls (.ref e :: st) := by
  obtain ⟨p, e9, s, m, args, below, meth, c, D, cA, A, nL, Z, rfl, hx, hb, hml, hown, hmn, hts, hK, hG, hE, htb, hA, hst⟩ := C
  intro H locs lsA hP hD hS hl
  obtain ⟨h1, h2, h3, h4, h5, h6, h7, h8, h9, h10, cE, h11, h12, h13⟩ := hE
  exact W.alen (n := 0) (g := F0 m pc lsA (.ref e :: st)) (rest := st) hx hb ((hS.2.1 e (Array.getElem?_eq_some_iff.mp h11).1 h10).trans h11) h12 h13 rfl rfl d (kk H locs lsA hP hD hS hl)
theorem g_anew {idx : Nat} {x : Int32} {N : Nat} (C : CB (EXe e) l R cc own mn tb Ξ) (hw : Cond.classLink own idx "java/lang/Object" ∈ GW) (hn : ¬ x < 0) (hN : x.toNatClampNeg = N) (hbytes : N * 4 ≤ 536870912) (hcells : a + 1 ≤ R.cells) (hslots : b + N ≤ R.slots) (d : decode cc pc = .ok (.anewarray idx, 3)) (kk : ∀ q : Nat, G Ξ (fun cA => w cA ++ [(q, .inl (cA 3, N, .inr (.inr (.inr (.inr (fun _ => none))))))]) (a + 1) (b + N) (pc + 3) ls (.ref q :: st)) : G Ξ w a b pc ls (.int x :: st) := by
  obtain ⟨p, e9, s, m, args, below, meth, c, D, cA, A, nL, Z, rfl, hx, hb, hml, hown, hmn, hts, hK, hG, hE, htb, hA, hst⟩ := C
  intro H locs lsA hP hD hS hl
  obtain ⟨h1, h2, h3, h4, h5, h6, h7, h8, h9, h10, cE, h11, h12, h13⟩ := hE
  refine va_newq hx hb hown (hts _ hw) h8 hK hP hD hS hA hn hN hbytes hcells hslots d (fun q cA2 H1 hK2 hP hD hS => ?_)
  obtain ⟨kA, comp, u1, u2, u3, u4⟩ := (hK2.2 4 (cA2, tO) rfl).2
  obtain ⟨kA', comp', v1, v2, v3, v4⟩ := (hK.2 3 (cA 3, tO) rfl).2
  have h3 : cA2 = cA 3 := Option.some.inj (Eq.trans (Eq.symm u4) v4)
  subst h3
  exact kk q H1 locs lsA hP hD hS hl
theorem g_aast {q N v : Nat} {f : Nat → Option Nat} {x : Int32} {fs : List Value} (i j : Nat) (C : CB (EXe e) l R cc own mn tb Ξ) (he : ∀ cA, (w cA)[i]? = some (q, .inl (cA 3, N, .inr (.inr (.inr (.inr f)))))) (hv : ∀ cA, (w cA)[j]? = some (v, .inr (1, fs))) (hin : vp_in x N) (d : decode cc pc = .ok (.aastore, 1))
    (kk : G Ξ (fun cA => (w cA).set i (q, .inl (cA 3, N, .inr (.inr (.inr (.inr (va_up f x.toNatClampNeg (some v)))))))) a b (pc + 1) ls st) : G Ξ w a b pc ls (.ref v :: .int x :: .ref q :: st) := by
  obtain ⟨p, e9, s, m, args, below, meth, c, D, cA, A, nL, Z, rfl, hx, hb, hml, hown, hmn, hts, hK, hG, hE, htb, hA, hst⟩ := C
  intro H locs lsA hP hD hS hl
  obtain ⟨h1, h2, h3, h4, h5, h6, h7, h8, h9, h10, cE, h11, h12, h13⟩ := hE
  exact va_astqO (E := "java/lang/Object") hx hb hK hP hD hS i 3 j 1 (he cA) rfl h7 (hv cA) rfl hin d (fun H1 locs1 hP hD hS => kk H1 locs1 lsA hP hD hS hl)
theorem px_at {α : Type} {pre t : List α} {x : α} {N : Nat} (h : pre.length = N) : (pre ++ x :: t)[N]? = some x := by
  rw [List.getElem?_append_right (by omega), h, Nat.sub_self]; rfl
theorem px_set {α : Type} {pre t : List α} {x y : α} {N : Nat} (h : pre.length = N) : (pre ++ x :: t).set N y = pre ++ y :: t := by
  rw [List.set_append_right _ _ (by omega), h, Nat.sub_self]; rfl
end GE
theorem c_Jxa {l : Launch} (hl : l.stackTraces = false) {e q : Nat} {w : Wd} : CG (EXe e) l yJxa1e45_init_da8c8 (Cond.code yJxa1e45_init_da8c8 cJxa1e45_init_da8c8 1 none :: GW) 1 0 0 w [.ref q] (fun v w2 => v = none ∧ w2 = w) (fun _ _ => False) := by
  refine CG.of EXe.gp hl (by decide +kernel) (Nat.le_of_ble_eq_true rfl) (fun Ξ hnL C => ?_)
  show G Ξ w 0 0 0 [(0, .ref q)] []
  have B := C.b
  refine g_aload_n (j := 0) B dJxa1e45_init_da8c8_0 rfl rfl ?_
  refine g_obj B hnL mw_53 mw_19 mw_20 (Nat.le_of_ble_eq_true rfl) (Nat.le_of_ble_eq_true rfl) dJxa1e45_init_da8c8_1 ?_
  exact g_vret C rfl (Nat.le_of_ble_eq_true rfl) (Nat.le_of_ble_eq_true rfl) dJxa1e45_init_da8c8_4 ⟨rfl, rfl⟩
theorem c_X1_init {l : Launch} (hl : l.stackTraces = false) {e q : Nat} {w : Wd} : CG (EXe e) l yX1_init (Cond.code yX1_init cX1_init 1 none :: GW) 1 0 0 w [.ref q] (fun v w2 => v = none ∧ w2 = w) (fun _ _ => False) := by
  refine CG.of EXe.gp hl (by decide +kernel) (Nat.le_of_ble_eq_true rfl) (fun Ξ hnL C => ?_)
  show G Ξ w 0 0 0 [(0, .ref q)] []
  have B := C.b
  refine g_aload_n (j := 0) B dX1_init_0 rfl rfl ?_
  refine g_obj B hnL mw_56 mw_19 mw_20 (Nat.le_of_ble_eq_true rfl) (Nat.le_of_ble_eq_true rfl) dX1_init_1 ?_
  exact g_vret C rfl (Nat.le_of_ble_eq_true rfl) (Nat.le_of_ble_eq_true rfl) dX1_init_4 ⟨rfl, rfl⟩
theorem c_Jxc {l : Launch} (hl : l.stackTraces = false) {e q : Nat} {pre : Wd} {N : Nat} (hN : ∀ cA, (pre cA).length = N) : CG (EXe e) l yJxc12de_init_da8c8 (Cond.code yJxc12de_init_da8c8 cJxc12de_init_da8c8 1 none :: GW) 2 0 0 (fun cA => pre cA ++ [(q, .inr (0, [.int 0, .null, .int 0]))]) [.ref q] (fun v w2 => v = none ∧ w2 = fun cA => pre cA ++ [(q, .inr (0, [.int 0, .null, .int 0]))]) (fun _ _ => False) := by
  refine CG.of EXe.gp hl (by decide +kernel) (Nat.le_of_ble_eq_true rfl) (fun Ξ hnL C => ?_)
  show G Ξ (fun cA => pre cA ++ [(q, .inr (0, [.int 0, .null, .int 0]))]) 0 0 0 [(0, .ref q)] []
  have B := C.b
  refine g_aload_n (j := 0) B dJxc12de_init_da8c8_0 rfl rfl ?_
  refine g_callI (nA := 0) (As := []) B (c_Jxa hl) (fun _ _ _ h => h) EXe.carr mw_52 mw_49 mw_50 rfl mw_51 (by decide +kernel) (by decide) rfl rfl (by decide) dJxc12de_init_da8c8_1 ⟨Nat.le_of_ble_eq_true rfl, Nat.le_of_ble_eq_true rfl⟩ (fun _ _ h => h.elim) (fun v u hvu => ?_)
  obtain ⟨rfl, rfl⟩ := hvu
  refine g_aload_n (j := 0) B dJxc12de_init_da8c8_4 rfl rfl ?_
  refine g_iconst (v := 0) B dJxc12de_init_da8c8_5 (by decide) ?_
  refine g_put (C0 := RJx4a65c) (T := TJx4a65c) (N := 3) (ci := 0) (ref := (TJx4a65c 0).1) (ty := .int) N 0 B (fun cA => px_at (hN cA)) rfl inlJx4a65c tyJx4a65c_ok nmJx4a65c (by decide) rfl rfl (by decide +kernel) rfl rfl (Nat.le_of_ble_eq_true rfl) mw_48 dJxc12de_init_da8c8_6 ?_
  refine g_w (w' := (fun cA => pre cA ++ [(q, .inr (0, [.int 0, .null, .int 0]))])) (funext fun cA => px_set (hN cA)) ?_
  exact g_vret C rfl (Nat.le_of_ble_eq_true rfl) (Nat.le_of_ble_eq_true rfl) dJxc12de_init_da8c8_9 ⟨rfl, rfl⟩
theorem c_JL_init {l : Launch} (hl : l.stackTraces = false) {e q : Nat} {pre : Wd} {N : Nat} (hN : ∀ cA, (pre cA).length = N) : CG (EXe e) l yJx4a65c_init_da8c8 (Cond.code yJx4a65c_init_da8c8 cJx4a65c_init_da8c8 1 none :: GW) 3 0 0 (fun cA => pre cA ++ [(q, .inr (0, [.int 0, .null, .int 0]))]) [.ref q] (fun v w2 => v = none ∧ w2 = fun cA => pre cA ++ [(q, .inr (0, [.int 0, .ref e, .int 0]))]) (fun _ _ => False) := by
  refine CG.of EXe.gp hl (by decide +kernel) (Nat.le_of_ble_eq_true rfl) (fun Ξ hnL C => ?_)
  show G Ξ (fun cA => pre cA ++ [(q, .inr (0, [.int 0, .null, .int 0]))]) 0 0 0 [(0, .ref q)] []
  have B := C.b
  refine g_aload_n (j := 0) B dJx4a65c_init_da8c8_0 rfl rfl ?_
  refine g_callI (nA := 0) (As := []) B (c_Jxc hl hN) (fun _ _ _ h => h) EXe.carr mw_47 mw_44 mw_45 rfl mw_46 (by decide +kernel) (by decide) rfl rfl (by decide) dJx4a65c_init_da8c8_1 ⟨Nat.le_of_ble_eq_true rfl, Nat.le_of_ble_eq_true rfl⟩ (fun _ _ h => h.elim) (fun v u hvu => ?_)
  obtain ⟨rfl, rfl⟩ := hvu
  refine g_aload_n (j := 0) B dJx4a65c_init_da8c8_4 rfl rfl ?_
  refine g_getsE B mw_42 dJx4a65c_init_da8c8_5 ?_
  refine g_put (C0 := RJx4a65c) (T := TJx4a65c) (N := 3) (ci := 0) (ref := (TJx4a65c 1).1) (ty := .array (.object "java/lang/Object")) N 1 B (fun cA => px_at (hN cA)) rfl inlJx4a65c tyJx4a65c_ok nmJx4a65c (by decide) rfl rfl (by decide +kernel) rfl rfl (Nat.le_of_ble_eq_true rfl) mw_43 dJx4a65c_init_da8c8_8 ?_
  refine g_w (w' := (fun cA => pre cA ++ [(q, .inr (0, [.int 0, .ref e, .int 0]))])) (funext fun cA => px_set (hN cA)) ?_
  exact g_vret C rfl (Nat.le_of_ble_eq_true rfl) (Nat.le_of_ble_eq_true rfl) dJx4a65c_init_da8c8_11 ⟨rfl, rfl⟩
theorem c_X0_init {l : Launch} (hl : l.stackTraces = false) {e q : Nat} {pre : Wd} {N : Nat} (hN : ∀ cA, (pre cA).length = N) : CG (EXe e) l yX0_init (Cond.code yX0_init cX0_init 1 none :: GW) 1 2 44 (fun cA => pre cA ++ [(q, .inr (1, [.int 0, .int 0, .int 0, .int 0, .int 0, .int 0, .int 0, .int 0, .int 0, .int 0, .null, .null, .int 0, .int 0]))]) [.ref q] (fun v w2 => v = none ∧ ∃ g s : Nat, w2 = (fun cA => pre cA ++ [(q, .inr (1, [.int 1, .int 1, .int 0, .int (-1), .int 0, .int 0, .int 0, .int 0, .int 0, .int 0, .ref g, .ref s, .int 0, .int 0])), (g, .inl (cA 0, 4, .inl (fun _ => 0))), (s, .inl (cA 0, 40, .inl (fun _ => 0)))])) (fun _ _ => False) := by
  refine CG.of EXe.gp hl (by decide +kernel) (Nat.le_of_ble_eq_true rfl) (fun Ξ hnL C => ?_)
  show G Ξ (fun cA => pre cA ++ [(q, .inr (1, [.int 0, .int 0, .int 0, .int 0, .int 0, .int 0, .int 0, .int 0, .int 0, .int 0, .null, .null, .int 0, .int 0]))]) 0 0 0 [(0, .ref q)] []
  have B := C.b
  refine g_aload_n (j := 0) B dX0_init_0 rfl rfl ?_
  refine g_obj B hnL mw_73 mw_19 mw_20 (Nat.le_of_ble_eq_true rfl) (Nat.le_of_ble_eq_true rfl) dX0_init_1 ?_
  refine g_aload_n (j := 0) B dX0_init_4 rfl rfl ?_
  refine g_iconst (v := 1) B dX0_init_5 (by decide) ?_
  refine g_put (C0 := RX0) (T := TX0) (N := 14) (ci := 1) (ref := (TX0 0).1) (ty := .boolean) N 0 B (fun cA => px_at (hN cA)) rfl inlX0 tyX0_ok nmX0 (by decide) rfl rfl (by decide +kernel) rfl rfl (Nat.le_of_ble_eq_true rfl) mw_74 dX0_init_6 ?_
  refine g_w (w' := (fun cA => pre cA ++ [(q, .inr (1, [.int 1, .int 0, .int 0, .int 0, .int 0, .int 0, .int 0, .int 0, .int 0, .int 0, .null, .null, .int 0, .int 0]))])) (funext fun cA => px_set (hN cA)) ?_
  refine g_aload_n (j := 0) B dX0_init_9 rfl rfl ?_
  refine g_iconst (v := 1) B dX0_init_10 (by decide) ?_
  refine g_put (C0 := RX0) (T := TX0) (N := 14) (ci := 1) (ref := (TX0 1).1) (ty := .boolean) N 1 B (fun cA => px_at (hN cA)) rfl inlX0 tyX0_ok nmX0 (by decide) rfl rfl (by decide +kernel) rfl rfl (Nat.le_of_ble_eq_true rfl) mw_75 dX0_init_11 ?_
  refine g_w (w' := (fun cA => pre cA ++ [(q, .inr (1, [.int 1, .int 1, .int 0, .int 0, .int 0, .int 0, .int 0, .int 0, .int 0, .int 0, .null, .null, .int 0, .int 0]))])) (funext fun cA => px_set (hN cA)) ?_
  refine g_aload_n (j := 0) B dX0_init_14 rfl rfl ?_
  refine g_iconst (v := -1) B dX0_init_15 (by decide) ?_
  refine g_put (C0 := RX0) (T := TX0) (N := 14) (ci := 1) (ref := (TX0 3).1) (ty := .int) N 3 B (fun cA => px_at (hN cA)) rfl inlX0 tyX0_ok nmX0 (by decide) rfl rfl (by decide +kernel) rfl rfl (Nat.le_of_ble_eq_true rfl) mw_76 dX0_init_16 ?_
  refine g_w (w' := (fun cA => pre cA ++ [(q, .inr (1, [.int 1, .int 1, .int 0, .int (-1), .int 0, .int 0, .int 0, .int 0, .int 0, .int 0, .null, .null, .int 0, .int 0]))])) (funext fun cA => px_set (hN cA)) ?_
  refine g_aload_n (j := 0) B dX0_init_19 rfl rfl ?_
  refine g_iconst (v := 4) B dX0_init_20 (by decide) ?_
  refine g_newi (N := 4) B mw_13 (by decide) rfl (Nat.le_of_ble_eq_true rfl) (Nat.le_of_ble_eq_true rfl) (Nat.le_of_ble_eq_true rfl) dX0_init_21 (fun g => ?_)
  refine g_w (w' := (fun cA => pre cA ++ [(q, .inr (1, [.int 1, .int 1, .int 0, .int (-1), .int 0, .int 0, .int 0, .int 0, .int 0, .int 0, .null, .null, .int 0, .int 0])), (g, .inl (cA 0, 4, .inl (fun _ => 0)))])) (funext fun cA => List.append_assoc _ _ _) ?_
  refine g_putF (C0 := RX0) (T := TX0) (N := 14) (ci := 1) (ref := (TX0 10).1) (ty := .array .int) N 10 B rfl rfl (fun cA => px_at (hN cA)) rfl inlX0 tyX0_ok nmX0 (by decide) rfl rfl (by decide +kernel) rfl rfl (Nat.le_of_ble_eq_true rfl) mw_77 dX0_init_23 ?_
  refine g_w (w' := (fun cA => pre cA ++ [(q, .inr (1, [.int 1, .int 1, .int 0, .int (-1), .int 0, .int 0, .int 0, .int 0, .int 0, .int 0, .ref g, .null, .int 0, .int 0])), (g, .inl (cA 0, 4, .inl (fun _ => 0)))])) (funext fun cA => px_set (hN cA)) ?_
  refine g_aload_n (j := 0) B dX0_init_26 rfl rfl ?_
  refine g_bipush (v := 40) B dX0_init_27 (by decide) ?_
  refine g_newi (N := 40) B mw_13 (by decide) rfl (Nat.le_of_ble_eq_true rfl) (Nat.le_of_ble_eq_true rfl) (Nat.le_of_ble_eq_true rfl) dX0_init_29 (fun s => ?_)
  refine g_w (w' := (fun cA => pre cA ++ [(q, .inr (1, [.int 1, .int 1, .int 0, .int (-1), .int 0, .int 0, .int 0, .int 0, .int 0, .int 0, .ref g, .null, .int 0, .int 0])), (g, .inl (cA 0, 4, .inl (fun _ => 0))), (s, .inl (cA 0, 40, .inl (fun _ => 0)))])) (funext fun cA => List.append_assoc _ _ _) ?_
  refine g_putF (C0 := RX0) (T := TX0) (N := 14) (ci := 1) (ref := (TX0 11).1) (ty := .array .int) N 11 B rfl rfl (fun cA => px_at (hN cA)) rfl inlX0 tyX0_ok nmX0 (by decide) rfl rfl (by decide +kernel) rfl rfl (Nat.le_of_ble_eq_true rfl) mw_78 dX0_init_31 ?_
  refine g_w (w' := (fun cA => pre cA ++ [(q, .inr (1, [.int 1, .int 1, .int 0, .int (-1), .int 0, .int 0, .int 0, .int 0, .int 0, .int 0, .ref g, .ref s, .int 0, .int 0])), (g, .inl (cA 0, 4, .inl (fun _ => 0))), (s, .inl (cA 0, 40, .inl (fun _ => 0)))])) (funext fun cA => px_set (hN cA)) ?_
  exact g_vret C rfl (Nat.le_of_ble_eq_true rfl) (Nat.le_of_ble_eq_true rfl) dX0_init_34 ⟨rfl, g, s, rfl⟩
end
section
/-! The class's constructor. -/
set_option maxRecDepth 100000 in
set_option maxHeartbeats 4000000 in
theorem c_X2_init {l : Launch} (hl : l.stackTraces = false) {e q : Nat}  : CG (EXe e) l yX2_init (Cond.code yX2_init cX2_init 1 none :: GW) 4 7 29 (fun cA => [(q, .inr (3, [.null, .int 0, .int 0, .int 0, .null, .null, .int 0, .null, .null, .int 0, .int 0, .null, .int 0, .int 0, .int 0, .int 0, .int 0, .null]))]) [.ref q] (fun v w2 => v = none ∧ ∃ q1 q2 q3 q4 q5 q6 q7 : Nat, w2 = (fun cA => [(q, .inr (3, [.ref q1, .int 10, .int 0, .int 12345, .ref q2, .ref q3, .int 0, .ref q4, .ref q5, .int 200, .int 20, .ref q6, .int 0, .int 0, .int 0, .int 0, .int 0, .ref q7])), (q1, .inr (0, [.int 0, .ref e, .int 0])), (q2, .inl (cA 0, 5, .inl (upd (upd (upd (upd (upd (fun _ => 0) 0 10) 1 20) 2 0) 3 0) 4 0))), (q3, .inr (2, [.int 0, .int 0, .int 0, .int 0])), (q4, .inl (cA 0, 4, .inl (upd (upd (upd (upd (fun _ => 0) 0 10) 1 10) 2 10) 3 10))), (q5, .inl (cA 0, 4, .inl (upd (upd (upd (upd (fun _ => 0) 0 10) 1 10) 2 10) 3 10))), (q6, .inl (cA 1, 3, .inl (fun _ => 0))), (q7, .inl (cA 0, 6, .inl (fun _ => 0)))])) (fun _ _ => False) := by
  refine CG.of EXe.gp hl (by decide +kernel) (Nat.le_of_ble_eq_true rfl) (fun Ξ hnL C => ?_)
  show G Ξ (fun cA => [(q, .inr (3, [.null, .int 0, .int 0, .int 0, .null, .null, .int 0, .null, .null, .int 0, .int 0, .null, .int 0, .int 0, .int 0, .int 0, .int 0, .null]))]) 0 0 0 [(0, .ref q)] []
  have B := C.b
  refine g_aload_n (j := 0) B dX2_init_0 rfl rfl ?_
  refine g_obj B hnL mw_18 mw_19 mw_20 (Nat.le_of_ble_eq_true rfl) (Nat.le_of_ble_eq_true rfl) dX2_init_1 ?_
  refine g_aload_n (j := 0) B dX2_init_4 rfl rfl ?_
  refine g_new (ci := 0) (fs := [.int 0, .null, .int 0]) (C0 := RJx4a65c) (T := TJx4a65c) (N := 3) B inlJx4a65c tyJx4a65c_ok mw_21 mw_22 mw_23 rfl (by decide +kernel) (Nat.le_of_ble_eq_true rfl) (Nat.le_of_ble_eq_true rfl) dX2_init_5 (fun q1 => ?_)
  refine g_w (w' := (fun cA => [(q, .inr (3, [.null, .int 0, .int 0, .int 0, .null, .null, .int 0, .null, .null, .int 0, .int 0, .null, .int 0, .int 0, .int 0, .int 0, .int 0, .null])), (q1, .inr (0, [.int 0, .null, .int 0]))])) rfl ?_
  refine g_dup B dX2_init_8 rfl ?_
  refine g_w (w' := fun cA => [(q, .inr (3, [.null, .int 0, .int 0, .int 0, .null, .null, .int 0, .null, .null, .int 0, .int 0, .null, .int 0, .int 0, .int 0, .int 0, .int 0, .null]))] ++ [(q1, .inr (0, [.int 0, .null, .int 0]))]) rfl ?_
  refine g_callI (nA := 0) (As := []) B (c_JL_init (pre := fun cA => [(q, .inr (3, [.null, .int 0, .int 0, .int 0, .null, .null, .int 0, .null, .null, .int 0, .int 0, .null, .int 0, .int 0, .int 0, .int 0, .int 0, .null]))]) (N := 1) hl (fun _ => rfl)) (fun _ _ _ h => h) EXe.carr mw_41 mw_39 mw_40 rfl mw_23 (by decide +kernel) (by decide) rfl rfl (Nat.le_of_ble_eq_true rfl) dX2_init_9 ⟨Nat.le_of_ble_eq_true rfl, Nat.le_of_ble_eq_true rfl⟩ (fun _ _ h => h.elim) (fun v u hvu => ?_)
  obtain ⟨rfl, rfl⟩ := hvu
  refine g_w (w' := (fun cA => [(q, .inr (3, [.null, .int 0, .int 0, .int 0, .null, .null, .int 0, .null, .null, .int 0, .int 0, .null, .int 0, .int 0, .int 0, .int 0, .int 0, .null])), (q1, .inr (0, [.int 0, .ref e, .int 0]))])) rfl ?_
  refine g_putF (C0 := RX2) (T := TX2) (N := 18) (ci := 3) (ref := (TX2 0).1) (ty := .object "java/util/ArrayList") 0 0 B rfl rfl (fun _ => rfl) rfl inlX2 tyX2_ok nmX2 (by decide) rfl rfl (by decide +kernel) rfl rfl (Nat.le_of_ble_eq_true rfl) mw_24 dX2_init_12 ?_
  refine g_w (w' := (fun cA => [(q, .inr (3, [.ref q1, .int 0, .int 0, .int 0, .null, .null, .int 0, .null, .null, .int 0, .int 0, .null, .int 0, .int 0, .int 0, .int 0, .int 0, .null])), (q1, .inr (0, [.int 0, .ref e, .int 0]))])) rfl ?_
  refine g_aload_n (j := 0) B dX2_init_15 rfl rfl ?_
  refine g_bipush (v := 10) B dX2_init_16 (by decide) ?_
  refine g_put (C0 := RX2) (T := TX2) (N := 18) (ci := 3) (ref := (TX2 1).1) (ty := .int) 0 1 B (fun _ => rfl) rfl inlX2 tyX2_ok nmX2 (by decide) rfl rfl (by decide +kernel) rfl rfl (Nat.le_of_ble_eq_true rfl) mw_25 dX2_init_18 ?_
  refine g_w (w' := (fun cA => [(q, .inr (3, [.ref q1, .int 10, .int 0, .int 0, .null, .null, .int 0, .null, .null, .int 0, .int 0, .null, .int 0, .int 0, .int 0, .int 0, .int 0, .null])), (q1, .inr (0, [.int 0, .ref e, .int 0]))])) rfl ?_
  refine g_aload_n (j := 0) B dX2_init_21 rfl rfl ?_
  refine g_sipush (v := 12345) B dX2_init_22 (by decide) ?_
  refine g_put (C0 := RX2) (T := TX2) (N := 18) (ci := 3) (ref := (TX2 3).1) (ty := .int) 0 3 B (fun _ => rfl) rfl inlX2 tyX2_ok nmX2 (by decide) rfl rfl (by decide +kernel) rfl rfl (Nat.le_of_ble_eq_true rfl) mw_26 dX2_init_25 ?_
  refine g_w (w' := (fun cA => [(q, .inr (3, [.ref q1, .int 10, .int 0, .int 12345, .null, .null, .int 0, .null, .null, .int 0, .int 0, .null, .int 0, .int 0, .int 0, .int 0, .int 0, .null])), (q1, .inr (0, [.int 0, .ref e, .int 0]))])) rfl ?_
  refine g_aload_n (j := 0) B dX2_init_28 rfl rfl ?_
  refine g_iconst (v := 5) B dX2_init_29 (by decide) ?_
  refine g_newi (N := 5) B mw_13 (by decide) rfl (Nat.le_of_ble_eq_true rfl) (Nat.le_of_ble_eq_true rfl) (Nat.le_of_ble_eq_true rfl) dX2_init_30 (fun q2 => ?_)
  refine g_w (w' := (fun cA => [(q, .inr (3, [.ref q1, .int 10, .int 0, .int 12345, .null, .null, .int 0, .null, .null, .int 0, .int 0, .null, .int 0, .int 0, .int 0, .int 0, .int 0, .null])), (q1, .inr (0, [.int 0, .ref e, .int 0])), (q2, .inl (cA 0, 5, .inl (fun _ => 0)))])) rfl ?_
  refine g_dup B dX2_init_32 rfl ?_
  refine g_iconst (v := 0) B dX2_init_33 (by decide) ?_
  refine g_bipush (v := 10) B dX2_init_34 (by decide) ?_
  refine g_iast (N := 5) 2 B (fun _ => rfl) (vp_in_nI (n := 0) (by decide) (by decide)) dX2_init_36 ?_
  refine g_w (w' := (fun cA => [(q, .inr (3, [.ref q1, .int 10, .int 0, .int 12345, .null, .null, .int 0, .null, .null, .int 0, .int 0, .null, .int 0, .int 0, .int 0, .int 0, .int 0, .null])), (q1, .inr (0, [.int 0, .ref e, .int 0])), (q2, .inl (cA 0, 5, .inl (upd (fun _ => 0) 0 10)))])) rfl ?_
  refine g_dup B dX2_init_37 rfl ?_
  refine g_iconst (v := 1) B dX2_init_38 (by decide) ?_
  refine g_bipush (v := 20) B dX2_init_39 (by decide) ?_
  refine g_iast (N := 5) 2 B (fun _ => rfl) (vp_in_nI (n := 1) (by decide) (by decide)) dX2_init_41 ?_
  refine g_w (w' := (fun cA => [(q, .inr (3, [.ref q1, .int 10, .int 0, .int 12345, .null, .null, .int 0, .null, .null, .int 0, .int 0, .null, .int 0, .int 0, .int 0, .int 0, .int 0, .null])), (q1, .inr (0, [.int 0, .ref e, .int 0])), (q2, .inl (cA 0, 5, .inl (upd (upd (fun _ => 0) 0 10) 1 20)))])) rfl ?_
  refine g_dup B dX2_init_42 rfl ?_
  refine g_iconst (v := 2) B dX2_init_43 (by decide) ?_
  refine g_iconst (v := 0) B dX2_init_44 (by decide) ?_
  refine g_iast (N := 5) 2 B (fun _ => rfl) (vp_in_nI (n := 2) (by decide) (by decide)) dX2_init_45 ?_
  refine g_w (w' := (fun cA => [(q, .inr (3, [.ref q1, .int 10, .int 0, .int 12345, .null, .null, .int 0, .null, .null, .int 0, .int 0, .null, .int 0, .int 0, .int 0, .int 0, .int 0, .null])), (q1, .inr (0, [.int 0, .ref e, .int 0])), (q2, .inl (cA 0, 5, .inl (upd (upd (upd (fun _ => 0) 0 10) 1 20) 2 0)))])) rfl ?_
  refine g_dup B dX2_init_46 rfl ?_
  refine g_iconst (v := 3) B dX2_init_47 (by decide) ?_
  refine g_iconst (v := 0) B dX2_init_48 (by decide) ?_
  refine g_iast (N := 5) 2 B (fun _ => rfl) (vp_in_nI (n := 3) (by decide) (by decide)) dX2_init_49 ?_
  refine g_w (w' := (fun cA => [(q, .inr (3, [.ref q1, .int 10, .int 0, .int 12345, .null, .null, .int 0, .null, .null, .int 0, .int 0, .null, .int 0, .int 0, .int 0, .int 0, .int 0, .null])), (q1, .inr (0, [.int 0, .ref e, .int 0])), (q2, .inl (cA 0, 5, .inl (upd (upd (upd (upd (fun _ => 0) 0 10) 1 20) 2 0) 3 0)))])) rfl ?_
  refine g_dup B dX2_init_50 rfl ?_
  refine g_iconst (v := 4) B dX2_init_51 (by decide) ?_
  refine g_iconst (v := 0) B dX2_init_52 (by decide) ?_
  refine g_iast (N := 5) 2 B (fun _ => rfl) (vp_in_nI (n := 4) (by decide) (by decide)) dX2_init_53 ?_
  refine g_w (w' := (fun cA => [(q, .inr (3, [.ref q1, .int 10, .int 0, .int 12345, .null, .null, .int 0, .null, .null, .int 0, .int 0, .null, .int 0, .int 0, .int 0, .int 0, .int 0, .null])), (q1, .inr (0, [.int 0, .ref e, .int 0])), (q2, .inl (cA 0, 5, .inl (upd (upd (upd (upd (upd (fun _ => 0) 0 10) 1 20) 2 0) 3 0) 4 0)))])) rfl ?_
  refine g_putF (C0 := RX2) (T := TX2) (N := 18) (ci := 3) (ref := (TX2 4).1) (ty := .array .int) 0 4 B rfl rfl (fun _ => rfl) rfl inlX2 tyX2_ok nmX2 (by decide) rfl rfl (by decide +kernel) rfl rfl (Nat.le_of_ble_eq_true rfl) mw_27 dX2_init_54 ?_
  refine g_w (w' := (fun cA => [(q, .inr (3, [.ref q1, .int 10, .int 0, .int 12345, .ref q2, .null, .int 0, .null, .null, .int 0, .int 0, .null, .int 0, .int 0, .int 0, .int 0, .int 0, .null])), (q1, .inr (0, [.int 0, .ref e, .int 0])), (q2, .inl (cA 0, 5, .inl (upd (upd (upd (upd (upd (fun _ => 0) 0 10) 1 20) 2 0) 3 0) 4 0)))])) rfl ?_
  refine g_aload_n (j := 0) B dX2_init_57 rfl rfl ?_
  refine g_new (ci := 2) (fs := [.int 0, .int 0, .int 0, .int 0]) (C0 := RX1) (T := TX1) (N := 4) B inlX1 tyX1_ok mw_28 mw_29 mw_30 rfl (by decide +kernel) (Nat.le_of_ble_eq_true rfl) (Nat.le_of_ble_eq_true rfl) dX2_init_58 (fun q3 => ?_)
  refine g_w (w' := (fun cA => [(q, .inr (3, [.ref q1, .int 10, .int 0, .int 12345, .ref q2, .null, .int 0, .null, .null, .int 0, .int 0, .null, .int 0, .int 0, .int 0, .int 0, .int 0, .null])), (q1, .inr (0, [.int 0, .ref e, .int 0])), (q2, .inl (cA 0, 5, .inl (upd (upd (upd (upd (upd (fun _ => 0) 0 10) 1 20) 2 0) 3 0) 4 0))), (q3, .inr (2, [.int 0, .int 0, .int 0, .int 0]))])) rfl ?_
  refine g_dup B dX2_init_61 rfl ?_
  refine g_callIN (nA := 0) (As := []) (host := RX2) B (c_X1_init hl) (fun _ _ _ h => h) EXe.carr mw_55 (fun A s H h => h.2.2.2.2.2.1) mw_54 rfl mw_30 (by decide +kernel) (by decide) rfl rfl (Nat.le_of_ble_eq_true rfl) dX2_init_62 ⟨Nat.le_of_ble_eq_true rfl, Nat.le_of_ble_eq_true rfl⟩ (fun _ _ h => h.elim) (fun v u hvu => ?_)
  obtain ⟨rfl, rfl⟩ := hvu
  refine g_putF (C0 := RX2) (T := TX2) (N := 18) (ci := 3) (ref := (TX2 5).1) (ty := .object "ScripHollow$Slip") 0 5 B rfl rfl (fun _ => rfl) rfl inlX2 tyX2_ok nmX2 (by decide) rfl rfl (by decide +kernel) rfl rfl (Nat.le_of_ble_eq_true rfl) mw_31 dX2_init_65 ?_
  refine g_w (w' := (fun cA => [(q, .inr (3, [.ref q1, .int 10, .int 0, .int 12345, .ref q2, .ref q3, .int 0, .null, .null, .int 0, .int 0, .null, .int 0, .int 0, .int 0, .int 0, .int 0, .null])), (q1, .inr (0, [.int 0, .ref e, .int 0])), (q2, .inl (cA 0, 5, .inl (upd (upd (upd (upd (upd (fun _ => 0) 0 10) 1 20) 2 0) 3 0) 4 0))), (q3, .inr (2, [.int 0, .int 0, .int 0, .int 0]))])) rfl ?_
  refine g_aload_n (j := 0) B dX2_init_68 rfl rfl ?_
  refine g_iconst (v := 4) B dX2_init_69 (by decide) ?_
  refine g_newi (N := 4) B mw_13 (by decide) rfl (Nat.le_of_ble_eq_true rfl) (Nat.le_of_ble_eq_true rfl) (Nat.le_of_ble_eq_true rfl) dX2_init_70 (fun q4 => ?_)
  refine g_w (w' := (fun cA => [(q, .inr (3, [.ref q1, .int 10, .int 0, .int 12345, .ref q2, .ref q3, .int 0, .null, .null, .int 0, .int 0, .null, .int 0, .int 0, .int 0, .int 0, .int 0, .null])), (q1, .inr (0, [.int 0, .ref e, .int 0])), (q2, .inl (cA 0, 5, .inl (upd (upd (upd (upd (upd (fun _ => 0) 0 10) 1 20) 2 0) 3 0) 4 0))), (q3, .inr (2, [.int 0, .int 0, .int 0, .int 0])), (q4, .inl (cA 0, 4, .inl (fun _ => 0)))])) rfl ?_
  refine g_dup B dX2_init_72 rfl ?_
  refine g_iconst (v := 0) B dX2_init_73 (by decide) ?_
  refine g_bipush (v := 10) B dX2_init_74 (by decide) ?_
  refine g_iast (N := 4) 4 B (fun _ => rfl) (vp_in_nI (n := 0) (by decide) (by decide)) dX2_init_76 ?_
  refine g_w (w' := (fun cA => [(q, .inr (3, [.ref q1, .int 10, .int 0, .int 12345, .ref q2, .ref q3, .int 0, .null, .null, .int 0, .int 0, .null, .int 0, .int 0, .int 0, .int 0, .int 0, .null])), (q1, .inr (0, [.int 0, .ref e, .int 0])), (q2, .inl (cA 0, 5, .inl (upd (upd (upd (upd (upd (fun _ => 0) 0 10) 1 20) 2 0) 3 0) 4 0))), (q3, .inr (2, [.int 0, .int 0, .int 0, .int 0])), (q4, .inl (cA 0, 4, .inl (upd (fun _ => 0) 0 10)))])) rfl ?_
  refine g_dup B dX2_init_77 rfl ?_
  refine g_iconst (v := 1) B dX2_init_78 (by decide) ?_
  refine g_bipush (v := 10) B dX2_init_79 (by decide) ?_
  refine g_iast (N := 4) 4 B (fun _ => rfl) (vp_in_nI (n := 1) (by decide) (by decide)) dX2_init_81 ?_
  refine g_w (w' := (fun cA => [(q, .inr (3, [.ref q1, .int 10, .int 0, .int 12345, .ref q2, .ref q3, .int 0, .null, .null, .int 0, .int 0, .null, .int 0, .int 0, .int 0, .int 0, .int 0, .null])), (q1, .inr (0, [.int 0, .ref e, .int 0])), (q2, .inl (cA 0, 5, .inl (upd (upd (upd (upd (upd (fun _ => 0) 0 10) 1 20) 2 0) 3 0) 4 0))), (q3, .inr (2, [.int 0, .int 0, .int 0, .int 0])), (q4, .inl (cA 0, 4, .inl (upd (upd (fun _ => 0) 0 10) 1 10)))])) rfl ?_
  refine g_dup B dX2_init_82 rfl ?_
  refine g_iconst (v := 2) B dX2_init_83 (by decide) ?_
  refine g_bipush (v := 10) B dX2_init_84 (by decide) ?_
  refine g_iast (N := 4) 4 B (fun _ => rfl) (vp_in_nI (n := 2) (by decide) (by decide)) dX2_init_86 ?_
  refine g_w (w' := (fun cA => [(q, .inr (3, [.ref q1, .int 10, .int 0, .int 12345, .ref q2, .ref q3, .int 0, .null, .null, .int 0, .int 0, .null, .int 0, .int 0, .int 0, .int 0, .int 0, .null])), (q1, .inr (0, [.int 0, .ref e, .int 0])), (q2, .inl (cA 0, 5, .inl (upd (upd (upd (upd (upd (fun _ => 0) 0 10) 1 20) 2 0) 3 0) 4 0))), (q3, .inr (2, [.int 0, .int 0, .int 0, .int 0])), (q4, .inl (cA 0, 4, .inl (upd (upd (upd (fun _ => 0) 0 10) 1 10) 2 10)))])) rfl ?_
  refine g_dup B dX2_init_87 rfl ?_
  refine g_iconst (v := 3) B dX2_init_88 (by decide) ?_
  refine g_bipush (v := 10) B dX2_init_89 (by decide) ?_
  refine g_iast (N := 4) 4 B (fun _ => rfl) (vp_in_nI (n := 3) (by decide) (by decide)) dX2_init_91 ?_
  refine g_w (w' := (fun cA => [(q, .inr (3, [.ref q1, .int 10, .int 0, .int 12345, .ref q2, .ref q3, .int 0, .null, .null, .int 0, .int 0, .null, .int 0, .int 0, .int 0, .int 0, .int 0, .null])), (q1, .inr (0, [.int 0, .ref e, .int 0])), (q2, .inl (cA 0, 5, .inl (upd (upd (upd (upd (upd (fun _ => 0) 0 10) 1 20) 2 0) 3 0) 4 0))), (q3, .inr (2, [.int 0, .int 0, .int 0, .int 0])), (q4, .inl (cA 0, 4, .inl (upd (upd (upd (upd (fun _ => 0) 0 10) 1 10) 2 10) 3 10)))])) rfl ?_
  refine g_putF (C0 := RX2) (T := TX2) (N := 18) (ci := 3) (ref := (TX2 7).1) (ty := .array .int) 0 7 B rfl rfl (fun _ => rfl) rfl inlX2 tyX2_ok nmX2 (by decide) rfl rfl (by decide +kernel) rfl rfl (Nat.le_of_ble_eq_true rfl) mw_32 dX2_init_92 ?_
  refine g_w (w' := (fun cA => [(q, .inr (3, [.ref q1, .int 10, .int 0, .int 12345, .ref q2, .ref q3, .int 0, .ref q4, .null, .int 0, .int 0, .null, .int 0, .int 0, .int 0, .int 0, .int 0, .null])), (q1, .inr (0, [.int 0, .ref e, .int 0])), (q2, .inl (cA 0, 5, .inl (upd (upd (upd (upd (upd (fun _ => 0) 0 10) 1 20) 2 0) 3 0) 4 0))), (q3, .inr (2, [.int 0, .int 0, .int 0, .int 0])), (q4, .inl (cA 0, 4, .inl (upd (upd (upd (upd (fun _ => 0) 0 10) 1 10) 2 10) 3 10)))])) rfl ?_
  refine g_aload_n (j := 0) B dX2_init_95 rfl rfl ?_
  refine g_iconst (v := 4) B dX2_init_96 (by decide) ?_
  refine g_newi (N := 4) B mw_13 (by decide) rfl (Nat.le_of_ble_eq_true rfl) (Nat.le_of_ble_eq_true rfl) (Nat.le_of_ble_eq_true rfl) dX2_init_97 (fun q5 => ?_)
  refine g_w (w' := (fun cA => [(q, .inr (3, [.ref q1, .int 10, .int 0, .int 12345, .ref q2, .ref q3, .int 0, .ref q4, .null, .int 0, .int 0, .null, .int 0, .int 0, .int 0, .int 0, .int 0, .null])), (q1, .inr (0, [.int 0, .ref e, .int 0])), (q2, .inl (cA 0, 5, .inl (upd (upd (upd (upd (upd (fun _ => 0) 0 10) 1 20) 2 0) 3 0) 4 0))), (q3, .inr (2, [.int 0, .int 0, .int 0, .int 0])), (q4, .inl (cA 0, 4, .inl (upd (upd (upd (upd (fun _ => 0) 0 10) 1 10) 2 10) 3 10))), (q5, .inl (cA 0, 4, .inl (fun _ => 0)))])) rfl ?_
  refine g_dup B dX2_init_99 rfl ?_
  refine g_iconst (v := 0) B dX2_init_100 (by decide) ?_
  refine g_bipush (v := 10) B dX2_init_101 (by decide) ?_
  refine g_iast (N := 4) 5 B (fun _ => rfl) (vp_in_nI (n := 0) (by decide) (by decide)) dX2_init_103 ?_
  refine g_w (w' := (fun cA => [(q, .inr (3, [.ref q1, .int 10, .int 0, .int 12345, .ref q2, .ref q3, .int 0, .ref q4, .null, .int 0, .int 0, .null, .int 0, .int 0, .int 0, .int 0, .int 0, .null])), (q1, .inr (0, [.int 0, .ref e, .int 0])), (q2, .inl (cA 0, 5, .inl (upd (upd (upd (upd (upd (fun _ => 0) 0 10) 1 20) 2 0) 3 0) 4 0))), (q3, .inr (2, [.int 0, .int 0, .int 0, .int 0])), (q4, .inl (cA 0, 4, .inl (upd (upd (upd (upd (fun _ => 0) 0 10) 1 10) 2 10) 3 10))), (q5, .inl (cA 0, 4, .inl (upd (fun _ => 0) 0 10)))])) rfl ?_
  refine g_dup B dX2_init_104 rfl ?_
  refine g_iconst (v := 1) B dX2_init_105 (by decide) ?_
  refine g_bipush (v := 10) B dX2_init_106 (by decide) ?_
  refine g_iast (N := 4) 5 B (fun _ => rfl) (vp_in_nI (n := 1) (by decide) (by decide)) dX2_init_108 ?_
  refine g_w (w' := (fun cA => [(q, .inr (3, [.ref q1, .int 10, .int 0, .int 12345, .ref q2, .ref q3, .int 0, .ref q4, .null, .int 0, .int 0, .null, .int 0, .int 0, .int 0, .int 0, .int 0, .null])), (q1, .inr (0, [.int 0, .ref e, .int 0])), (q2, .inl (cA 0, 5, .inl (upd (upd (upd (upd (upd (fun _ => 0) 0 10) 1 20) 2 0) 3 0) 4 0))), (q3, .inr (2, [.int 0, .int 0, .int 0, .int 0])), (q4, .inl (cA 0, 4, .inl (upd (upd (upd (upd (fun _ => 0) 0 10) 1 10) 2 10) 3 10))), (q5, .inl (cA 0, 4, .inl (upd (upd (fun _ => 0) 0 10) 1 10)))])) rfl ?_
  refine g_dup B dX2_init_109 rfl ?_
  refine g_iconst (v := 2) B dX2_init_110 (by decide) ?_
  refine g_bipush (v := 10) B dX2_init_111 (by decide) ?_
  refine g_iast (N := 4) 5 B (fun _ => rfl) (vp_in_nI (n := 2) (by decide) (by decide)) dX2_init_113 ?_
  refine g_w (w' := (fun cA => [(q, .inr (3, [.ref q1, .int 10, .int 0, .int 12345, .ref q2, .ref q3, .int 0, .ref q4, .null, .int 0, .int 0, .null, .int 0, .int 0, .int 0, .int 0, .int 0, .null])), (q1, .inr (0, [.int 0, .ref e, .int 0])), (q2, .inl (cA 0, 5, .inl (upd (upd (upd (upd (upd (fun _ => 0) 0 10) 1 20) 2 0) 3 0) 4 0))), (q3, .inr (2, [.int 0, .int 0, .int 0, .int 0])), (q4, .inl (cA 0, 4, .inl (upd (upd (upd (upd (fun _ => 0) 0 10) 1 10) 2 10) 3 10))), (q5, .inl (cA 0, 4, .inl (upd (upd (upd (fun _ => 0) 0 10) 1 10) 2 10)))])) rfl ?_
  refine g_dup B dX2_init_114 rfl ?_
  refine g_iconst (v := 3) B dX2_init_115 (by decide) ?_
  refine g_bipush (v := 10) B dX2_init_116 (by decide) ?_
  refine g_iast (N := 4) 5 B (fun _ => rfl) (vp_in_nI (n := 3) (by decide) (by decide)) dX2_init_118 ?_
  refine g_w (w' := (fun cA => [(q, .inr (3, [.ref q1, .int 10, .int 0, .int 12345, .ref q2, .ref q3, .int 0, .ref q4, .null, .int 0, .int 0, .null, .int 0, .int 0, .int 0, .int 0, .int 0, .null])), (q1, .inr (0, [.int 0, .ref e, .int 0])), (q2, .inl (cA 0, 5, .inl (upd (upd (upd (upd (upd (fun _ => 0) 0 10) 1 20) 2 0) 3 0) 4 0))), (q3, .inr (2, [.int 0, .int 0, .int 0, .int 0])), (q4, .inl (cA 0, 4, .inl (upd (upd (upd (upd (fun _ => 0) 0 10) 1 10) 2 10) 3 10))), (q5, .inl (cA 0, 4, .inl (upd (upd (upd (upd (fun _ => 0) 0 10) 1 10) 2 10) 3 10)))])) rfl ?_
  refine g_putF (C0 := RX2) (T := TX2) (N := 18) (ci := 3) (ref := (TX2 8).1) (ty := .array .int) 0 8 B rfl rfl (fun _ => rfl) rfl inlX2 tyX2_ok nmX2 (by decide) rfl rfl (by decide +kernel) rfl rfl (Nat.le_of_ble_eq_true rfl) mw_33 dX2_init_119 ?_
  refine g_w (w' := (fun cA => [(q, .inr (3, [.ref q1, .int 10, .int 0, .int 12345, .ref q2, .ref q3, .int 0, .ref q4, .ref q5, .int 0, .int 0, .null, .int 0, .int 0, .int 0, .int 0, .int 0, .null])), (q1, .inr (0, [.int 0, .ref e, .int 0])), (q2, .inl (cA 0, 5, .inl (upd (upd (upd (upd (upd (fun _ => 0) 0 10) 1 20) 2 0) 3 0) 4 0))), (q3, .inr (2, [.int 0, .int 0, .int 0, .int 0])), (q4, .inl (cA 0, 4, .inl (upd (upd (upd (upd (fun _ => 0) 0 10) 1 10) 2 10) 3 10))), (q5, .inl (cA 0, 4, .inl (upd (upd (upd (upd (fun _ => 0) 0 10) 1 10) 2 10) 3 10)))])) rfl ?_
  refine g_aload_n (j := 0) B dX2_init_122 rfl rfl ?_
  refine g_sipush (v := 200) B dX2_init_123 (by decide) ?_
  refine g_put (C0 := RX2) (T := TX2) (N := 18) (ci := 3) (ref := (TX2 9).1) (ty := .int) 0 9 B (fun _ => rfl) rfl inlX2 tyX2_ok nmX2 (by decide) rfl rfl (by decide +kernel) rfl rfl (Nat.le_of_ble_eq_true rfl) mw_34 dX2_init_126 ?_
  refine g_w (w' := (fun cA => [(q, .inr (3, [.ref q1, .int 10, .int 0, .int 12345, .ref q2, .ref q3, .int 0, .ref q4, .ref q5, .int 200, .int 0, .null, .int 0, .int 0, .int 0, .int 0, .int 0, .null])), (q1, .inr (0, [.int 0, .ref e, .int 0])), (q2, .inl (cA 0, 5, .inl (upd (upd (upd (upd (upd (fun _ => 0) 0 10) 1 20) 2 0) 3 0) 4 0))), (q3, .inr (2, [.int 0, .int 0, .int 0, .int 0])), (q4, .inl (cA 0, 4, .inl (upd (upd (upd (upd (fun _ => 0) 0 10) 1 10) 2 10) 3 10))), (q5, .inl (cA 0, 4, .inl (upd (upd (upd (upd (fun _ => 0) 0 10) 1 10) 2 10) 3 10)))])) rfl ?_
  refine g_aload_n (j := 0) B dX2_init_129 rfl rfl ?_
  refine g_bipush (v := 20) B dX2_init_130 (by decide) ?_
  refine g_put (C0 := RX2) (T := TX2) (N := 18) (ci := 3) (ref := (TX2 10).1) (ty := .int) 0 10 B (fun _ => rfl) rfl inlX2 tyX2_ok nmX2 (by decide) rfl rfl (by decide +kernel) rfl rfl (Nat.le_of_ble_eq_true rfl) mw_35 dX2_init_132 ?_
  refine g_w (w' := (fun cA => [(q, .inr (3, [.ref q1, .int 10, .int 0, .int 12345, .ref q2, .ref q3, .int 0, .ref q4, .ref q5, .int 200, .int 20, .null, .int 0, .int 0, .int 0, .int 0, .int 0, .null])), (q1, .inr (0, [.int 0, .ref e, .int 0])), (q2, .inl (cA 0, 5, .inl (upd (upd (upd (upd (upd (fun _ => 0) 0 10) 1 20) 2 0) 3 0) 4 0))), (q3, .inr (2, [.int 0, .int 0, .int 0, .int 0])), (q4, .inl (cA 0, 4, .inl (upd (upd (upd (upd (fun _ => 0) 0 10) 1 10) 2 10) 3 10))), (q5, .inl (cA 0, 4, .inl (upd (upd (upd (upd (fun _ => 0) 0 10) 1 10) 2 10) 3 10)))])) rfl ?_
  refine g_aload_n (j := 0) B dX2_init_135 rfl rfl ?_
  refine g_iconst (v := 3) B dX2_init_136 (by decide) ?_
  refine g_newz (N := 3) B mw_36 (by decide) rfl (Nat.le_of_ble_eq_true rfl) (Nat.le_of_ble_eq_true rfl) (Nat.le_of_ble_eq_true rfl) dX2_init_137 (fun q6 => ?_)
  refine g_w (w' := (fun cA => [(q, .inr (3, [.ref q1, .int 10, .int 0, .int 12345, .ref q2, .ref q3, .int 0, .ref q4, .ref q5, .int 200, .int 20, .null, .int 0, .int 0, .int 0, .int 0, .int 0, .null])), (q1, .inr (0, [.int 0, .ref e, .int 0])), (q2, .inl (cA 0, 5, .inl (upd (upd (upd (upd (upd (fun _ => 0) 0 10) 1 20) 2 0) 3 0) 4 0))), (q3, .inr (2, [.int 0, .int 0, .int 0, .int 0])), (q4, .inl (cA 0, 4, .inl (upd (upd (upd (upd (fun _ => 0) 0 10) 1 10) 2 10) 3 10))), (q5, .inl (cA 0, 4, .inl (upd (upd (upd (upd (fun _ => 0) 0 10) 1 10) 2 10) 3 10))), (q6, .inl (cA 1, 3, .inl (fun _ => 0)))])) rfl ?_
  refine g_putF (C0 := RX2) (T := TX2) (N := 18) (ci := 3) (ref := (TX2 11).1) (ty := .array .boolean) 0 11 B rfl rfl (fun _ => rfl) rfl inlX2 tyX2_ok nmX2 (by decide) rfl rfl (by decide +kernel) rfl rfl (Nat.le_of_ble_eq_true rfl) mw_37 dX2_init_139 ?_
  refine g_w (w' := (fun cA => [(q, .inr (3, [.ref q1, .int 10, .int 0, .int 12345, .ref q2, .ref q3, .int 0, .ref q4, .ref q5, .int 200, .int 20, .ref q6, .int 0, .int 0, .int 0, .int 0, .int 0, .null])), (q1, .inr (0, [.int 0, .ref e, .int 0])), (q2, .inl (cA 0, 5, .inl (upd (upd (upd (upd (upd (fun _ => 0) 0 10) 1 20) 2 0) 3 0) 4 0))), (q3, .inr (2, [.int 0, .int 0, .int 0, .int 0])), (q4, .inl (cA 0, 4, .inl (upd (upd (upd (upd (fun _ => 0) 0 10) 1 10) 2 10) 3 10))), (q5, .inl (cA 0, 4, .inl (upd (upd (upd (upd (fun _ => 0) 0 10) 1 10) 2 10) 3 10))), (q6, .inl (cA 1, 3, .inl (fun _ => 0)))])) rfl ?_
  refine g_aload_n (j := 0) B dX2_init_142 rfl rfl ?_
  refine g_bipush (v := 6) B dX2_init_143 (by decide) ?_
  refine g_newi (N := 6) B mw_13 (by decide) rfl (Nat.le_of_ble_eq_true rfl) (Nat.le_of_ble_eq_true rfl) (Nat.le_of_ble_eq_true rfl) dX2_init_145 (fun q7 => ?_)
  refine g_w (w' := (fun cA => [(q, .inr (3, [.ref q1, .int 10, .int 0, .int 12345, .ref q2, .ref q3, .int 0, .ref q4, .ref q5, .int 200, .int 20, .ref q6, .int 0, .int 0, .int 0, .int 0, .int 0, .null])), (q1, .inr (0, [.int 0, .ref e, .int 0])), (q2, .inl (cA 0, 5, .inl (upd (upd (upd (upd (upd (fun _ => 0) 0 10) 1 20) 2 0) 3 0) 4 0))), (q3, .inr (2, [.int 0, .int 0, .int 0, .int 0])), (q4, .inl (cA 0, 4, .inl (upd (upd (upd (upd (fun _ => 0) 0 10) 1 10) 2 10) 3 10))), (q5, .inl (cA 0, 4, .inl (upd (upd (upd (upd (fun _ => 0) 0 10) 1 10) 2 10) 3 10))), (q6, .inl (cA 1, 3, .inl (fun _ => 0))), (q7, .inl (cA 0, 6, .inl (fun _ => 0)))])) rfl ?_
  refine g_putF (C0 := RX2) (T := TX2) (N := 18) (ci := 3) (ref := (TX2 17).1) (ty := .array .int) 0 17 B rfl rfl (fun _ => rfl) rfl inlX2 tyX2_ok nmX2 (by decide) rfl rfl (by decide +kernel) rfl rfl (Nat.le_of_ble_eq_true rfl) mw_38 dX2_init_147 ?_
  refine g_w (w' := (fun cA => [(q, .inr (3, [.ref q1, .int 10, .int 0, .int 12345, .ref q2, .ref q3, .int 0, .ref q4, .ref q5, .int 200, .int 20, .ref q6, .int 0, .int 0, .int 0, .int 0, .int 0, .ref q7])), (q1, .inr (0, [.int 0, .ref e, .int 0])), (q2, .inl (cA 0, 5, .inl (upd (upd (upd (upd (upd (fun _ => 0) 0 10) 1 20) 2 0) 3 0) 4 0))), (q3, .inr (2, [.int 0, .int 0, .int 0, .int 0])), (q4, .inl (cA 0, 4, .inl (upd (upd (upd (upd (fun _ => 0) 0 10) 1 10) 2 10) 3 10))), (q5, .inl (cA 0, 4, .inl (upd (upd (upd (upd (fun _ => 0) 0 10) 1 10) 2 10) 3 10))), (q6, .inl (cA 1, 3, .inl (fun _ => 0))), (q7, .inl (cA 0, 6, .inl (fun _ => 0)))])) rfl ?_
  exact g_vret C rfl (Nat.le_of_ble_eq_true rfl) (Nat.le_of_ble_eq_true rfl) dX2_init_150 ⟨rfl, q1, q2, q3, q4, q5, q6, q7, rfl⟩
end
section
/-! ArrayList.add, the class's miner(). -/
section GS
variable {EX : EXT} {l : Launch} {R : Room} {cc : ByteArray} {own mn : String} {tb : List ExceptionTableEntry} {Ξ : CT}
variable {w : Wd} {a b pc : Nat} {ls : List (Nat × Value)} {st : List Value}
theorem g_getS {C0 : String} {T : u_T} {N ci idx q : Nat} {ref : String} {v : Value} {fs : List Value} (i k : Nat) (C : CB EX l R cc own mn tb Ξ) (he : ∀ cA, (w cA)[i]? = some (q, .inr (ci, fs))) (hc : vwCl[ci]? = some (C0, T, N)) (hin : ∀ w ∈ u_ws C0 T N, w ∈ GW) (hk : k < N) (hsame : Cond.sameField ref (T k).1 (T k).2.1 (T k).2.2.1 ∈ GW) (hv : fs[k]? = some v) (hw : Cond.fieldLink own idx ref (T k).2.1 (T k).2.2.1 ∈ GW) (d : decode cc pc = .ok (.getfield idx, 3)) (kk : G Ξ w a b (pc + 3) ls (v :: st)) : G Ξ w a b pc ls (.ref q :: st) := by
  obtain ⟨p, e, s, m, args, below, meth, c, D, cA, A, nL, Z, rfl, hx, hb, hml, hown, hmn, hts, hK, hG, hE, htb, hA, hst⟩ := C
  intro H locs lsA hP hD hS hl
  exact va_get (D := D) (ci := ci) (v := v) (C := C0) (T := T) (N := N) hx hb hts hin hown hK hP i (he cA) hc k hk (hts _ hw) (fun x h9 => u_same (hts _ hsame) x h9) hv d (kk H locs lsA hP hD hS hl)
theorem g_putS {C0 : String} {T : u_T} {N ci idx q : Nat} {ref : String} {v : Value} {fs : List Value} {ty0 : Nat → FieldType} {ty : FieldType} (i k : Nat) (C : CB EX l R cc own mn tb Ξ) (he : ∀ cA, (w cA)[i]? = some (q, .inr (ci, fs))) (hc : vwCl[ci]? = some (C0, T, N)) (hin : ∀ w ∈ u_ws C0 T N, w ∈ GW) (hty : ∀ k, k < N → parseFieldDescriptor (T k).2.2.1 = some (ty0 k)) (hnm : ∀ a, a < N → ∀ b, b < N → a ≠ b → (T a).2.1 ≠ (T b).2.1) (hk : k < N) (hsame : Cond.sameField ref (T k).1 (T k).2.1 (T k).2.2.1 ∈ GW) (hfin : (T k).2.2.2 = false) (hd : parseFieldDescriptor (T k).2.2.1 = some ty) (hn : narrow ty v = v) (hfit : fits ty v = true) (hlen : k < fs.length) (hw : Cond.fieldLink own idx ref (T k).2.1 (T k).2.2.1 ∈ GW) (d : decode cc pc = .ok (.putfield idx, 3)) (kk : G Ξ (fun cA => (w cA).set i (q, .inr (ci, fs.set k v))) a b (pc + 3) ls st) : G Ξ w a b pc ls (v :: .ref q :: st) := by
  obtain ⟨p, e, s, m, args, below, meth, c, D, cA, A, nL, Z, rfl, hx, hb, hml, hown, hmn, hts, hK, hG, hE, htb, hA, hst⟩ := C
  intro H locs lsA hP hD hS hl
  exact va_put (D := D) (ci := ci) (v := v) (ty := ty) (C := C0) (T := T) (N := N) hx hb hts hin ty0 hty hnm hown hK hP hD hS i (he cA) hc k hk (hts _ hw) (fun x h9 => u_same (hts _ hsame) x h9) hfin hd hn hfit hlen d (fun H1 locs1 hP hD hS => kk H1 locs1 lsA hP hD hS hl)
theorem fm_of {α : Type} {is : List Nat} {w w2 : List α} (h : is.map (fun i => w[i]?) = w2.map some) : is.filterMap (fun i => w[i]?) = w2 := by
  have h1 : is.filterMap (fun i => w[i]?) = (is.map (fun i => w[i]?)).filterMap id := by rw [List.filterMap_map]; rfl
  rw [h1, h, List.filterMap_map]
  exact List.filterMap_some
theorem g_perm {w2 : Wd} (is : List Nat) (hn : va_nd is = true) (h : ∀ cA, is.map (fun i => (w cA)[i]?) = (w2 cA).map some) (k : G Ξ w2 a b pc ls st) : G Ξ w a b pc ls st := by
  intro H locs lsA hP hD hS hl
  exact k H locs lsA (hP.sub is (fm_of (h _))) (hD.sub is hn (h _)) hS hl
end GS
abbrev emp10 (ea : Nat) (cA : Nat → ClassId) : Nat × va_E := (ea, .inl (cA 3, 10, .inr (.inr (.inr (.inr (fun _ => none))))))
theorem c_JL_grow1 {l : Launch} (hl : l.stackTraces = false) {e r : Nat} {mv : Int32} {w : Wd} (h1 : ∀ cA, (w cA)[1]? = some (r, .inr (0, [.int mv, .ref e, .int 0]))) : CG (EXe e) l yJx4a65c_grow_92f84 (Cond.code yJx4a65c_grow_92f84 cJx4a65c_grow_92f84 4 (some (.array (.object "java/lang/Object"))) :: GW) 1 1 10 w [.ref r, .int 1] (fun v w2 => ∃ ea : Nat, v = some (.ref ea) ∧ w2 = fun cA => (w cA ++ [emp10 ea cA]).set 1 (r, .inr (0, [.int mv, .ref ea, .int 0]))) (fun _ _ => False) := by
  refine CG.of EXe.gp hl (by decide +kernel) (Nat.le_of_ble_eq_true rfl) (fun Ξ hnL C => ?_)
  show G Ξ w 0 0 0 [(0, .ref r), (1, .int 1)] []
  have B := C.b
  have h2 : ∀ (ea : Nat) (cA : Nat → ClassId), (w cA ++ [emp10 ea cA])[1]? = some (r, .inr (0, [.int mv, .ref e, .int 0])) := fun ea cA => by
    rw [List.getElem?_append_left (List.getElem?_eq_some_iff.mp (h1 cA)).1]; exact h1 cA
  refine g_aload_n (j := 0) B dJx4a65c_grow_92f84_0 rfl rfl ?_
  refine g_get (C0 := RJx4a65c) (T := TJx4a65c) (N := 3) (ci := 0) (ref := (TJx4a65c 1).1) 1 1 B h1 rfl inlJx4a65c (by decide) rfl rfl mw_43 dJx4a65c_grow_92f84_1 ?_
  refine g_alenE B dJx4a65c_grow_92f84_4 ?_
  refine g_istore_n (ls2 := [(2, .int 0), (0, .ref r), (1, .int 1)]) B hnL dJx4a65c_grow_92f84_5 rfl (by decide) rfl ?_
  refine g_iload_n (j := 0) B dJx4a65c_grow_92f84_6 rfl rfl ?_
  refine g_if_gt (tgt := 20) B dJx4a65c_grow_92f84_7 (by decide) (fun c => absurd c (by decide)) (fun _ => ?_)
  refine g_aload_n (j := 1) B dJx4a65c_grow_92f84_10 rfl rfl ?_
  refine g_get (C0 := RJx4a65c) (T := TJx4a65c) (N := 3) (ci := 0) (ref := (TJx4a65c 1).1) 1 1 B h1 rfl inlJx4a65c (by decide) rfl rfl mw_43 dJx4a65c_grow_92f84_11 ?_
  refine g_getsE B mw_42 dJx4a65c_grow_92f84_14 ?_
  refine g_acmp_eq (tgt := 45) B dJx4a65c_grow_92f84_17 (by decide) rfl ?_
  refine g_aload_n (j := 1) B dJx4a65c_grow_92f84_45 rfl rfl ?_
  refine g_bipush (v := 10) B dJx4a65c_grow_92f84_46 (by decide) ?_
  refine g_iload_n (j := 2) B dJx4a65c_grow_92f84_48 rfl rfl ?_
  refine g_max B mw_97 mw_98 mw_99 mw_100 (Nat.le_of_ble_eq_true rfl) (Nat.le_of_ble_eq_true rfl) (Nat.le_of_ble_eq_true rfl) (Nat.le_of_ble_eq_true rfl) dJx4a65c_grow_92f84_49 ?_
  rw [if_neg (show ¬ (10 : Int32) < 1 by decide)]
  refine g_anew (N := 10) B mw_101 (by decide) rfl (Nat.le_of_ble_eq_true rfl) (Nat.le_of_ble_eq_true rfl) (Nat.le_of_ble_eq_true rfl) dJx4a65c_grow_92f84_52 (fun ea => ?_)
  refine g_dupx1 B dJx4a65c_grow_92f84_55 rfl rfl ?_
  refine g_put (C0 := RJx4a65c) (T := TJx4a65c) (N := 3) (ci := 0) (ref := (TJx4a65c 1).1) (ty := .array (.object "java/lang/Object")) 1 1 B (h2 ea) rfl inlJx4a65c tyJx4a65c_ok nmJx4a65c (by decide) rfl rfl (by decide +kernel) rfl rfl (Nat.le_of_ble_eq_true rfl) mw_43 dJx4a65c_grow_92f84_56 ?_
  exact g_aret C rfl (Or.inr ⟨_, rfl⟩) (Nat.le_of_ble_eq_true rfl) (Nat.le_of_ble_eq_true rfl) dJx4a65c_grow_92f84_59 ⟨ea, rfl, rfl⟩
theorem c_JL_grow0 {l : Launch} (hl : l.stackTraces = false) {e r : Nat} {mv : Int32} {w : Wd} (h1 : ∀ cA, (w cA)[1]? = some (r, .inr (0, [.int mv, .ref e, .int 0]))) : CG (EXe e) l yJx4a65c_grow_d5877 (Cond.code yJx4a65c_grow_d5877 cJx4a65c_grow_d5877 1 (some (.array (.object "java/lang/Object"))) :: GW) 2 1 10 w [.ref r] (fun v w2 => ∃ ea : Nat, v = some (.ref ea) ∧ w2 = fun cA => (w cA ++ [emp10 ea cA]).set 1 (r, .inr (0, [.int mv, .ref ea, .int 0]))) (fun _ _ => False) := by
  refine CG.of EXe.gp hl (by decide +kernel) (Nat.le_of_ble_eq_true rfl) (fun Ξ hnL C => ?_)
  show G Ξ w 0 0 0 [(0, .ref r)] []
  have B := C.b
  refine g_aload_n (j := 0) B dJx4a65c_grow_d5877_0 rfl rfl ?_
  refine g_aload_n (j := 0) B dJx4a65c_grow_d5877_1 rfl rfl ?_
  refine g_get (C0 := RJx4a65c) (T := TJx4a65c) (N := 3) (ci := 0) (ref := (TJx4a65c 2).1) 1 2 B h1 rfl inlJx4a65c (by decide) rfl rfl mw_70 dJx4a65c_grow_d5877_2 ?_
  refine g_iconst (v := 1) B dJx4a65c_grow_d5877_5 (by decide) ?_
  refine g_iadd B dJx4a65c_grow_d5877_6 ?_
  rw [show (0 : Int32) + 1 = 1 from rfl]
  refine g_callV (i := 1) (ci := 0) (nA := 1) (Cn := RJx4a65c) (As := [.int 1]) B (c_JL_grow1 hl h1) (fun _ _ _ h => h) EXe.carr h1 rfl rfl mw_96 mw_93 mw_94 mw_95 mw_23 (by decide +kernel) (by decide) rfl rfl (Nat.le_of_ble_eq_true rfl) dJx4a65c_grow_d5877_7 ⟨Nat.le_of_ble_eq_true rfl, Nat.le_of_ble_eq_true rfl⟩ (fun _ _ h => h.elim) (fun v u hvu => ?_)
  obtain ⟨ea, rfl, rfl⟩ := hvu
  exact g_aret C rfl (Or.inr ⟨_, rfl⟩) (Nat.le_of_ble_eq_true rfl) (Nat.le_of_ble_eq_true rfl) dJx4a65c_grow_d5877_10 ⟨ea, rfl, rfl⟩
/-- the list's row of ten with one more -/
def rowUp (ea : Nat) (f : Nat → Option Nat) (n q : Nat) (cA : Nat → ClassId) : Nat × va_E := (ea, .inl (cA 3, 10, .inr (.inr (.inr (.inr (va_up f n (some q)))))))
theorem c_JL_adda {l : Launch} (hl : l.stackTraces = false) {e r q ea j n : Nat} {mv : Int32} {w : Wd} {fs : List Value} {f : Nat → Option Nat} (hn : n < 10) (h1 : ∀ cA, (w cA)[1]? = some (r, .inr (0, [.int mv, .ref ea, .int (nI n)]))) (h27 : ∀ cA, (w cA)[12]? = some (ea, .inl (cA 3, 10, .inr (.inr (.inr (.inr f)))))) (hj : ∀ cA, (w cA)[j]? = some (q, .inr (1, fs))) (hj27 : j ≠ 12) (hj1 : j ≠ 1) :
    CG (EXe e) l yJx4a65c_add_72be8 (Cond.code yJx4a65c_add_72be8 cJx4a65c_add_72be8 4 none :: GW) 3 1 10 w [.ref r, .ref q, .ref ea, .int (nI n)] (fun v w2 => v = none ∧ w2 = fun cA => ((w cA).set 12 (rowUp ea f n q cA)).set 1 (r, .inr (0, [.int mv, .ref ea, .int (nI (n + 1))]))) (fun _ _ => False) := by
  refine CG.of EXe.gp hl (by decide +kernel) (Nat.le_of_ble_eq_true rfl) (fun Ξ hnL C => ?_)
  show G Ξ w 0 0 0 [(0, .ref r), (1, .ref q), (2, .ref ea), (3, .int (nI n))] []
  have B := C.b
  have h1b : ∀ cA, ((w cA).set 12 (rowUp ea f n q cA))[1]? = some (r, .inr (0, [.int mv, .ref ea, .int (nI n)])) := fun cA => by
    rw [List.getElem?_set_ne (by decide)]; exact h1 cA
  refine g_iload_n (j := 3) B dJx4a65c_add_72be8_0 rfl rfl ?_
  refine g_aload_n (j := 2) B dJx4a65c_add_72be8_1 rfl rfl ?_
  refine g_alen (N := 10) (v := 10) (ty := tO) 12 3 B h27 (fun _ => rfl) (by decide) dJx4a65c_add_72be8_2 ?_
  refine g_icmp_ne (tgt := 11) B dJx4a65c_add_72be8_3 (by decide) (fun _ => ?_) (fun h => absurd h (fun h9 => absurd ((nI_eq (a := n) (b := 10) (by omega) (by omega)).mp h9) (by omega)))
  refine g_aload_n (j := 2) B dJx4a65c_add_72be8_11 rfl rfl ?_
  refine g_iload_n (j := 3) B dJx4a65c_add_72be8_12 rfl rfl ?_
  refine g_aload_n (j := 1) B dJx4a65c_add_72be8_13 rfl rfl ?_
  refine g_aast 12 j B h27 hj (vp_in_nI hn (by decide)) dJx4a65c_add_72be8_14 ?_
  refine g_w (w' := fun cA => (w cA).set 12 (rowUp ea f n q cA)) (by rw [nI_clamp (by omega)]; rfl) ?_
  refine g_aload_n (j := 0) B dJx4a65c_add_72be8_15 rfl rfl ?_
  refine g_iload_n (j := 3) B dJx4a65c_add_72be8_16 rfl rfl ?_
  refine g_iconst (v := 1) B dJx4a65c_add_72be8_17 (by decide) ?_
  refine g_iadd B dJx4a65c_add_72be8_18 ?_
  rw [nI_1]
  refine g_put (C0 := RJx4a65c) (T := TJx4a65c) (N := 3) (ci := 0) (ref := (TJx4a65c 2).1) (ty := .int) 1 2 B h1b rfl inlJx4a65c tyJx4a65c_ok nmJx4a65c (by decide) rfl rfl (by decide +kernel) rfl rfl (Nat.le_of_ble_eq_true rfl) mw_70 dJx4a65c_add_72be8_19 ?_
  exact g_vret C rfl (Nat.le_of_ble_eq_true rfl) (Nat.le_of_ble_eq_true rfl) dJx4a65c_add_72be8_22 ⟨rfl, rfl⟩
theorem c_JL_addb {l : Launch} (hl : l.stackTraces = false) {e r q j M0 : Nat} {mv : Int32} {w : Wd} {fs : List Value} (h1 : ∀ cA, (w cA)[1]? = some (r, .inr (0, [.int mv, .ref e, .int (nI 0)]))) (hj : ∀ cA, (w cA)[j]? = some (q, .inr (1, fs))) (hj1 : j ≠ 1) (hM : ∀ cA, (w cA).length = M0) (hM1 : 1 < M0) :
    CG (EXe e) l yJx4a65c_add_72be8 (Cond.code yJx4a65c_add_72be8 cJx4a65c_add_72be8 4 none :: GW) 3 1 10 w [.ref r, .ref q, .ref e, .int (nI 0)] (fun v w2 => v = none ∧ ∃ ea : Nat, w2 = fun cA => (((w cA).set 1 (r, .inr (0, [.int mv, .ref ea, .int (nI 1)]))) ++ [rowUp ea (fun _ => none) 0 q cA])) (fun _ _ => False) := by
  refine CG.of EXe.gp hl (by decide +kernel) (Nat.le_of_ble_eq_true rfl) (fun Ξ hnL C => ?_)
  show G Ξ w 0 0 0 [(0, .ref r), (1, .ref q), (2, .ref e), (3, .int (nI 0))] []
  have B := C.b
  have h1 : ∀ cA, (w cA)[1]? = some (r, .inr (0, [.int mv, .ref e, .int 0])) := h1
  refine g_iload_n (j := 3) B dJx4a65c_add_72be8_0 rfl rfl ?_
  refine g_aload_n (j := 2) B dJx4a65c_add_72be8_1 rfl rfl ?_
  refine g_alenE B dJx4a65c_add_72be8_2 ?_
  refine g_icmp_ne (tgt := 11) B dJx4a65c_add_72be8_3 (by decide) (fun h => absurd rfl h) (fun _ => ?_)
  refine g_aload_n (j := 0) B dJx4a65c_add_72be8_6 rfl rfl ?_
  refine g_callV (i := 1) (ci := 0) (nA := 0) (Cn := RJx4a65c) (As := []) B (c_JL_grow0 hl h1) (fun _ _ _ h => h) EXe.carr h1 rfl rfl mw_92 mw_89 mw_90 mw_91 mw_23 (by decide +kernel) (by decide) rfl rfl (Nat.le_of_ble_eq_true rfl) dJx4a65c_add_72be8_7 ⟨Nat.le_of_ble_eq_true rfl, Nat.le_of_ble_eq_true rfl⟩ (fun _ _ h => h.elim) (fun v u hvu => ?_)
  obtain ⟨ea, rfl, rfl⟩ := hvu
  refine g_w (w' := fun cA => ((w cA).set 1 (r, .inr (0, [.int mv, .ref ea, .int 0]))) ++ [emp10 ea cA]) (funext fun cA => List.set_append_left _ _ (by rw [hM cA]; exact hM1)) ?_
  refine g_astore_n (ls2 := [(2, .ref ea), (0, .ref r), (1, .ref q), (3, .int (nI 0))]) B hnL dJx4a65c_add_72be8_10 rfl (by decide) rfl ?_
  refine g_aload_n (j := 0) B dJx4a65c_add_72be8_11 rfl rfl ?_
  refine g_iload_n (j := 3) B dJx4a65c_add_72be8_12 rfl rfl ?_
  refine g_aload_n (j := 2) B dJx4a65c_add_72be8_13 rfl rfl ?_
  have hL : ∀ cA, ((w cA).set 1 (r, .inr (0, [.int mv, .ref ea, .int 0]))).length = M0 := fun cA => by rw [List.length_set]; exact hM cA
  have hj2 : ∀ cA, (((w cA).set 1 (r, .inr (0, [.int mv, .ref ea, .int 0]))) ++ [emp10 ea cA])[j]? = some (q, .inr (1, fs)) := fun cA => by
    rw [List.getElem?_append_left (by rw [List.length_set]; exact (List.getElem?_eq_some_iff.mp (hj cA)).1), List.getElem?_set_ne (fun z => hj1 z.symm)]; exact hj cA
  refine g_aast M0 j B (fun cA => px_at (hL cA)) hj2 (vp_in_nI (n := 0) (N := 10) (by decide) (by decide)) dJx4a65c_add_72be8_14 ?_
  refine g_w (w' := fun cA => ((w cA).set 1 (r, .inr (0, [.int mv, .ref ea, .int 0]))) ++ [rowUp ea (fun _ => none) 0 q cA]) (funext fun cA => px_set (hL cA)) ?_
  refine g_aload_n (j := 1) B dJx4a65c_add_72be8_15 rfl rfl ?_
  refine g_iload_n (j := 3) B dJx4a65c_add_72be8_16 rfl rfl ?_
  refine g_iconst (v := 1) B dJx4a65c_add_72be8_17 (by decide) ?_
  refine g_iadd B dJx4a65c_add_72be8_18 ?_
  rw [nI_1]
  have h1b : ∀ cA, (((w cA).set 1 (r, .inr (0, [.int mv, .ref ea, .int 0]))) ++ [rowUp ea (fun _ => none) 0 q cA])[1]? = some (r, .inr (0, [.int mv, .ref ea, .int 0])) := fun cA => by
    rw [List.getElem?_append_left (by rw [hL cA]; exact hM1), List.getElem?_set_self (by rw [hM cA]; exact hM1)]
  refine g_put (C0 := RJx4a65c) (T := TJx4a65c) (N := 3) (ci := 0) (ref := (TJx4a65c 2).1) (ty := .int) 1 2 B h1b rfl inlJx4a65c tyJx4a65c_ok nmJx4a65c (by decide) rfl rfl (by decide +kernel) rfl rfl (Nat.le_of_ble_eq_true rfl) mw_70 dJx4a65c_add_72be8_19 ?_
  refine g_w (w' := fun cA => ((w cA).set 1 (r, .inr (0, [.int mv, .ref ea, .int (nI 1)]))) ++ [rowUp ea (fun _ => none) 0 q cA]) (funext fun cA => by rw [List.set_append_left _ _ (by rw [hL cA]; exact hM1), List.set_set]; rfl) ?_
  exact g_vret C rfl (Nat.le_of_ble_eq_true rfl) (Nat.le_of_ble_eq_true rfl) dJx4a65c_add_72be8_22 ⟨rfl, ea, rfl⟩
theorem c_JL_add {l : Launch} (hl : l.stackTraces = false) {e r q ea j n : Nat} {mv : Int32} {w : Wd} {fs : List Value} {f : Nat → Option Nat} (hn : n < 10) (h1 : ∀ cA, (w cA)[1]? = some (r, .inr (0, [.int mv, .ref ea, .int (nI n)]))) (h27 : ∀ cA, (w cA)[12]? = some (ea, .inl (cA 3, 10, .inr (.inr (.inr (.inr f)))))) (hj : ∀ cA, (w cA)[j]? = some (q, .inr (1, fs))) (hj27 : j ≠ 12) (hj1 : j ≠ 1) :
    CG (EXe e) l yJx4a65c_add_9ea2d (Cond.code yJx4a65c_add_9ea2d cJx4a65c_add_9ea2d 2 (some .boolean) :: GW) 4 1 10 w [.ref r, .ref q] (fun v w2 => v = some (.int 1) ∧ w2 = fun cA => ((w cA).set 12 (rowUp ea f n q cA)).set 1 (r, .inr (0, [.int (mv + 1), .ref ea, .int (nI (n + 1))]))) (fun _ _ => False) := by
  refine CG.of EXe.gp hl (by decide +kernel) (Nat.le_of_ble_eq_true rfl) (fun Ξ hnL C => ?_)
  show G Ξ w 0 0 0 [(0, .ref r), (1, .ref q)] []
  have B := C.b
  have hl1 : ∀ cA, 1 < (w cA).length := fun cA => (List.getElem?_eq_some_iff.mp (h1 cA)).1
  have h1b : ∀ cA, ((w cA).set 1 (r, .inr (0, [.int (mv + 1), .ref ea, .int (nI n)])))[1]? = some (r, .inr (0, [.int (mv + 1), .ref ea, .int (nI n)])) := fun cA => List.getElem?_set_self (hl1 cA)
  have hjb : ∀ cA, ((w cA).set 1 (r, .inr (0, [.int (mv + 1), .ref ea, .int (nI n)])))[j]? = some (q, .inr (1, fs)) := fun cA => by rw [List.getElem?_set_ne (fun z => hj1 z.symm)]; exact hj cA
  refine g_aload_n (j := 0) B dJx4a65c_add_9ea2d_0 rfl rfl ?_
  refine g_dup B dJx4a65c_add_9ea2d_1 rfl ?_
  refine g_getS (C0 := RJx4a65c) (T := TJx4a65c) (N := 3) (ci := 0) (ref := "java/util/ArrayList") 1 0 B h1 rfl inlJx4a65c (by decide) mw_84 rfl mw_83 dJx4a65c_add_9ea2d_2 ?_
  refine g_iconst (v := 1) B dJx4a65c_add_9ea2d_5 (by decide) ?_
  refine g_iadd B dJx4a65c_add_9ea2d_6 ?_
  refine g_putS (C0 := RJx4a65c) (T := TJx4a65c) (N := 3) (ci := 0) (ref := "java/util/ArrayList") (ty := .int) 1 0 B h1 rfl inlJx4a65c tyJx4a65c_ok nmJx4a65c (by decide) mw_84 rfl (by decide +kernel) rfl rfl (Nat.le_of_ble_eq_true rfl) mw_83 dJx4a65c_add_9ea2d_7 ?_
  refine g_w (w' := (fun cA => (w cA).set 1 (r, .inr (0, [.int (mv + 1), .ref ea, .int (nI n)])))) rfl ?_
  refine g_aload_n (j := 0) B dJx4a65c_add_9ea2d_10 rfl rfl ?_
  refine g_aload_n (j := 1) B dJx4a65c_add_9ea2d_11 rfl rfl ?_
  refine g_aload_n (j := 0) B dJx4a65c_add_9ea2d_12 rfl rfl ?_
  refine g_get (C0 := RJx4a65c) (T := TJx4a65c) (N := 3) (ci := 0) (ref := (TJx4a65c 1).1) 1 1 B h1b rfl inlJx4a65c (by decide) rfl rfl mw_43 dJx4a65c_add_9ea2d_13 ?_
  refine g_aload_n (j := 0) B dJx4a65c_add_9ea2d_16 rfl rfl ?_
  refine g_get (C0 := RJx4a65c) (T := TJx4a65c) (N := 3) (ci := 0) (ref := (TJx4a65c 2).1) 1 2 B h1b rfl inlJx4a65c (by decide) rfl rfl mw_70 dJx4a65c_add_9ea2d_17 ?_
  refine g_callV (i := 1) (ci := 0) (nA := 3) (Cn := RJx4a65c) (As := [.ref q, .ref ea, .int (nI n)]) B (c_JL_adda hl hn h1b (fun cA => by rw [List.getElem?_set_ne (by decide)]; exact h27 cA) hjb hj27 hj1) (fun _ _ _ h => h) EXe.carr h1b rfl rfl mw_88 mw_85 mw_86 mw_87 mw_23 (by decide +kernel) (by decide) rfl rfl (Nat.le_of_ble_eq_true rfl) dJx4a65c_add_9ea2d_20 ⟨Nat.le_of_ble_eq_true rfl, Nat.le_of_ble_eq_true rfl⟩ (fun _ _ h => h.elim) (fun v u hvu => ?_)
  obtain ⟨rfl, rfl⟩ := hvu
  refine g_iconst (v := 1) B dJx4a65c_add_9ea2d_23 (by decide) ?_
  refine g_w (w' := fun cA => ((w cA).set 12 (rowUp ea f n q cA)).set 1 (r, .inr (0, [.int (mv + 1), .ref ea, .int (nI (n + 1))]))) (funext fun cA => by rw [List.set_comm _ _ (show (1 : Nat) ≠ 12 by decide), List.set_set]) ?_
  exact g_zret C rfl rfl (Nat.le_of_ble_eq_true rfl) (Nat.le_of_ble_eq_true rfl) dJx4a65c_add_9ea2d_24 ⟨rfl, rfl⟩
theorem c_JL_add0 {l : Launch} (hl : l.stackTraces = false) {e r q j M0 : Nat} {mv : Int32} {w : Wd} {fs : List Value} (h1 : ∀ cA, (w cA)[1]? = some (r, .inr (0, [.int mv, .ref e, .int (nI 0)]))) (hj : ∀ cA, (w cA)[j]? = some (q, .inr (1, fs))) (hj1 : j ≠ 1) (hM : ∀ cA, (w cA).length = M0) (hM1 : 1 < M0) :
    CG (EXe e) l yJx4a65c_add_9ea2d (Cond.code yJx4a65c_add_9ea2d cJx4a65c_add_9ea2d 2 (some .boolean) :: GW) 4 1 10 w [.ref r, .ref q] (fun v w2 => v = some (.int 1) ∧ ∃ ea : Nat, w2 = fun cA => (((w cA).set 1 (r, .inr (0, [.int (mv + 1), .ref ea, .int (nI 1)]))) ++ [rowUp ea (fun _ => none) 0 q cA])) (fun _ _ => False) := by
  refine CG.of EXe.gp hl (by decide +kernel) (Nat.le_of_ble_eq_true rfl) (fun Ξ hnL C => ?_)
  show G Ξ w 0 0 0 [(0, .ref r), (1, .ref q)] []
  have B := C.b
  have hl1 : ∀ cA, 1 < (w cA).length := fun cA => (List.getElem?_eq_some_iff.mp (h1 cA)).1
  have h1b : ∀ cA, ((w cA).set 1 (r, .inr (0, [.int (mv + 1), .ref e, .int (nI 0)])))[1]? = some (r, .inr (0, [.int (mv + 1), .ref e, .int (nI 0)])) := fun cA => List.getElem?_set_self (hl1 cA)
  have hjb : ∀ cA, ((w cA).set 1 (r, .inr (0, [.int (mv + 1), .ref e, .int (nI 0)])))[j]? = some (q, .inr (1, fs)) := fun cA => by rw [List.getElem?_set_ne (fun z => hj1 z.symm)]; exact hj cA
  refine g_aload_n (j := 0) B dJx4a65c_add_9ea2d_0 rfl rfl ?_
  refine g_dup B dJx4a65c_add_9ea2d_1 rfl ?_
  refine g_getS (C0 := RJx4a65c) (T := TJx4a65c) (N := 3) (ci := 0) (ref := "java/util/ArrayList") 1 0 B h1 rfl inlJx4a65c (by decide) mw_84 rfl mw_83 dJx4a65c_add_9ea2d_2 ?_
  refine g_iconst (v := 1) B dJx4a65c_add_9ea2d_5 (by decide) ?_
  refine g_iadd B dJx4a65c_add_9ea2d_6 ?_
  refine g_putS (C0 := RJx4a65c) (T := TJx4a65c) (N := 3) (ci := 0) (ref := "java/util/ArrayList") (ty := .int) 1 0 B h1 rfl inlJx4a65c tyJx4a65c_ok nmJx4a65c (by decide) mw_84 rfl (by decide +kernel) rfl rfl (Nat.le_of_ble_eq_true rfl) mw_83 dJx4a65c_add_9ea2d_7 ?_
  refine g_w (w' := (fun cA => (w cA).set 1 (r, .inr (0, [.int (mv + 1), .ref e, .int (nI 0)])))) rfl ?_
  refine g_aload_n (j := 0) B dJx4a65c_add_9ea2d_10 rfl rfl ?_
  refine g_aload_n (j := 1) B dJx4a65c_add_9ea2d_11 rfl rfl ?_
  refine g_aload_n (j := 0) B dJx4a65c_add_9ea2d_12 rfl rfl ?_
  refine g_get (C0 := RJx4a65c) (T := TJx4a65c) (N := 3) (ci := 0) (ref := (TJx4a65c 1).1) 1 1 B h1b rfl inlJx4a65c (by decide) rfl rfl mw_43 dJx4a65c_add_9ea2d_13 ?_
  refine g_aload_n (j := 0) B dJx4a65c_add_9ea2d_16 rfl rfl ?_
  refine g_get (C0 := RJx4a65c) (T := TJx4a65c) (N := 3) (ci := 0) (ref := (TJx4a65c 2).1) 1 2 B h1b rfl inlJx4a65c (by decide) rfl rfl mw_70 dJx4a65c_add_9ea2d_17 ?_
  refine g_callV (i := 1) (ci := 0) (nA := 3) (Cn := RJx4a65c) (As := [.ref q, .ref e, .int (nI 0)]) B (c_JL_addb hl h1b hjb hj1 (fun cA => by rw [List.length_set]; exact hM cA) hM1) (fun _ _ _ h => h) EXe.carr h1b rfl rfl mw_88 mw_85 mw_86 mw_87 mw_23 (by decide +kernel) (by decide) rfl rfl (Nat.le_of_ble_eq_true rfl) dJx4a65c_add_9ea2d_20 ⟨Nat.le_of_ble_eq_true rfl, Nat.le_of_ble_eq_true rfl⟩ (fun _ _ h => h.elim) (fun v u hvu => ?_)
  obtain ⟨rfl, ea, rfl⟩ := hvu
  refine g_iconst (v := 1) B dJx4a65c_add_9ea2d_23 (by decide) ?_
  refine g_w (w' := fun cA => ((w cA).set 1 (r, .inr (0, [.int (mv + 1), .ref ea, .int (nI 1)]))) ++ [rowUp ea (fun _ => none) 0 q cA]) (funext fun cA => by rw [List.set_set]) ?_
  exact g_zret C rfl rfl (Nat.le_of_ble_eq_true rfl) (Nat.le_of_ble_eq_true rfl) dJx4a65c_add_9ea2d_24 ⟨rfl, ea, rfl⟩
end
section
/-! The class's miner(): a new miner in the world. -/
section GT
variable {EX : EXT} {l : Launch} {R : Room} {cc : ByteArray} {mn : String} {ret : Option FieldType} {mc ms : Nat} {post : Option Value → Wd → Prop} {exc : String → Wd → Prop} {Ξ : CT}
variable {w : Wd} {a b pc : Nat} {ls : List (Nat × Value)} {st : List Value}
theorem g_throw {cls text : String} {ik is ic : Nat} (C : CQ EX l R cc RX2 mn ret mc ms [] post exc Ξ) (th : Thr ic cls) (hk : Cond.classLink RX2 ik cls ∈ GW) (hi : Cond.initialized cls ∈ GW) (hstr : (is, text) ∈ strs) (hkg : vx_ot (Cond.classLink RX2 ik cls) = true) (hig : vx_ot (Cond.initialized cls) = true)
    (d0 : decode cc pc = .ok (.new ik, 3)) (d3 : decode cc (pc + 3) = .ok (.dup, 1)) (d4 : decode cc (pc + 4) = .ok (.ldc is, 2)) (d6 : decode cc (pc + 6) = .ok (.invokespecial ic, 3)) (d9 : decode cc (pc + 9) = .ok (.athrow, 1))
    (hf : 5 < R.frames) (hlo : (st.map fun v => v.category).sum + 82 ≤ R.locals) (hrc : a + 1 ≤ R.cells) (hrs : b + 6 ≤ R.slots) (hca : a + 1 ≤ mc) (hcb : b + 6 ≤ ms) (hp : exc cls w) : G Ξ w a b pc ls st := by
  obtain ⟨p, e, s, m, args, below, meth, c, D, cA, A, nL, rfl, hx, hb, hml, hown, hmn, hts, hK, hEG, hE, hr, hlk, htb, hA, hst⟩ := C
  have hG := hEG _ _ _ hE
  intro H locs lsA hP hD hS hl
  obtain ⟨sa, hsa⟩ := hG.2.1 _ hstr
  obtain ⟨t1, t2, t3, t4⟩ := th
  refine vx_throwS (names := ["java/lang/RuntimeException", "java/lang/Exception"]) hx hb hst hown t4 (fun q hq => ?_) (hts _ hk) (hts _ hi) hsa
    (vx_hat (B := NGw) (fun w hw => hts _ (t1 w hw)) t2 (fun w hw => ?_)) (fun w hw => ?_) hG.2.2.1 hG.2.2.2 hS (hl.1.trans hml.symm) d0 d3 d4 d6 d9 (fun x hxx => by rw [htb] at hxx; cases hxx) hf hlo hrc hrs hlk (fun t hal hsz hkp => ?_) hS.2.2 hca hcb
  · simp only [List.mem_cons, List.not_mem_nil, or_false] at hq
    rcases hq with rfl | rfl <;> decide +kernel
  · have h0 := hG.1 w hw
    simp only [NGw, List.mem_cons, List.not_mem_nil, or_false] at hw
    rcases hw with rfl | rfl | rfl | rfl | rfl | rfl <;> exact va_Nw.use rfl h0
  · rcases List.mem_cons.mp hw with rfl | hw
    · exact hkg
    · rcases List.mem_cons.mp hw with rfl | hw
      · exact hig
      · exact t3 w hw
  · exact ⟨⟨w, hp, va_P.kept hP (fun k q hk => hkp q.1 ((hP k q hk).lt)), hD⟩, Nat.le_trans hS.1 hsz, fun q h1 h2 => (hkp q (Nat.lt_of_lt_of_le h1 hS.1)).trans (hS.2.1 q h1 h2)⟩
end GT
def fz0 : Nat → Int32 := fun k => if k = 0 then 1 else if k = 1 then 1 else if k = 3 then -1 else 0
def newM (M : Mem) (n : Nat) : Mem := up1 (up1 (up1 (up M 1 0 (M 1 0 + 1)) (mO n) fz0) (mG n) (fun _ => 0)) (mS n) (fun _ => 0)
def rq (ρ : Nat → Nat) (n q g s : Nat) : Nat → Nat := fun i => if i = mO n then q else if i = mG n then g else if i = mS n then s else ρ i
theorem rq_lt {ρ : Nat → Nat} {n q g s i : Nat} (h : i < 28 + 3 * n) : rq ρ n q g s i = ρ i := by
  unfold rq mO mG mS
  rw [if_neg (by omega), if_neg (by omega), if_neg (by omega)]
theorem rq_O {ρ : Nat → Nat} {n q g s : Nat} : rq ρ n q g s (mO n) = q := by unfold rq; rw [if_pos rfl]
theorem rq_G {ρ : Nat → Nat} {n q g s : Nat} : rq ρ n q g s (mG n) = g := by unfold rq mO mG; rw [if_neg (by omega), if_pos rfl]
theorem rq_S {ρ : Nat → Nat} {n q g s : Nat} : rq ρ n q g s (mS n) = s := by unfold rq mO mG mS; rw [if_neg (by omega), if_neg (by omega), if_pos rfl]
theorem newM_lt {M : Mem} {n i : Nat} (h : i < 28 + 3 * n) (h1 : i ≠ 1) : newM M n i = M i := by
  unfold newM up up1 mO mG mS
  rw [if_neg (by omega), if_neg (by omega), if_neg (by omega), if_neg h1]
theorem newM_1 {M : Mem} {n : Nat} : newM M n 1 = upd (M 1) 0 (M 1 0 + 1) := by
  unfold newM up up1 mO mG mS
  rw [if_neg (by omega), if_neg (by omega), if_neg (by omega), if_pos rfl]
theorem newM_O {M : Mem} {n : Nat} : newM M n (mO n) = fz0 := by
  unfold newM up1 mO mG mS
  rw [if_neg (by omega), if_neg (by omega), if_pos rfl]
theorem newM_G {M : Mem} {n : Nat} : newM M n (mG n) = fun _ => 0 := by
  unfold newM up1 mG mS
  rw [if_neg (by omega), if_pos rfl]
theorem newM_S {M : Mem} {n : Nat} : newM M n (mS n) = fun _ => 0 := by
  unfold newM up1
  rw [if_pos rfl]
theorem cell_same {cA : Nat → ClassId} {n : Nat} {ρ ρ' : Nat → Nat} {J : Nat → Int64} (h : ∀ i, i < 28 + 3 * n → ρ' i = ρ i) (i : Nat) (hi : i < 28 + 3 * n) (h1 : i ≠ 1) (h27 : i ≠ 27) (f : Nat → Int32) : cellOf cA (n + 1) ρ' J i f = cellOf cA n ρ J i f := by
  match i, hi, h1, h27 with
  | 0, _, _, _ =>
    show (Sum.inr (3, fs2 ρ' f) : va_E) = .inr (3, fs2 ρ f)
    unfold fs2
    rw [h 1 (by omega), h 2 (by omega), h 3 (by omega), h 4 (by omega), h 5 (by omega), h 6 (by omega), h 7 (by omega)]
  | 1, _, h1, _ => exact absurd rfl h1
  | 2, _, _, _ => rfl
  | 3, _, _, _ => rfl
  | 4, _, _, _ => rfl
  | 5, _, _, _ => rfl
  | 6, _, _, _ => rfl
  | 7, _, _, _ => rfl
  | 8, _, _, _ => rfl
  | 9, _, _, _ => rfl
  | 10, _, _, _ => rfl
  | 11, _, _, _ => rfl
  | 12, _, _, _ => rfl
  | 13, _, _, _ => rfl
  | 14, _, _, _ => rfl
  | 15, _, _, _ => rfl
  | 16, _, _, _ => rfl
  | 17, _, _, _ => rfl
  | 18, _, _, _ => rfl
  | 19, _, _, _ => rfl
  | 20, _, _, _ => rfl
  | 21, _, _, _ => rfl
  | 22, _, _, _ => rfl
  | 23, _, _, _ => rfl
  | 24, _, _, _ => rfl
  | 25, _, _, _ => rfl
  | 26, _, _, _ => rfl
  | 27, _, _, h27 => exact absurd rfl h27
  | k + 28, hi, _, _ =>
    show (if k % 3 = 0 then (Sum.inr (1, fs0 ρ' (k / 3) f) : va_E) else if k % 3 = 1 then .inl (cA 0, 4, .inl f) else .inl (cA 0, 40, .inl f)) = if k % 3 = 0 then (Sum.inr (1, fs0 ρ (k / 3) f) : va_E) else if k % 3 = 1 then .inl (cA 0, 4, .inl f) else .inl (cA 0, 40, .inl f)
    have e : fs0 ρ' (k / 3) f = fs0 ρ (k / 3) f := by
      unfold fs0
      rw [h (mG (k / 3)) (by unfold mG; omega), h (mS (k / 3)) (by unfold mS; omega)]
    rw [e]
theorem mrow {ρ ρ' : Nat → Nat} {n q : Nat} (h : ∀ i, i < 28 + 3 * n → i ≠ 27 → ρ' i = ρ i) (hq : ρ' (mO n) = q) : va_up (minersAt n ρ) n (some q) = minersAt (n + 1) ρ' := by
  funext j
  unfold va_up minersAt
  by_cases e : j = n
  · subst e
    rw [if_pos rfl, if_pos (Nat.lt_succ_self j), hq]
  · rw [if_neg e]
    by_cases h2 : j < n
    · rw [if_pos h2, if_pos (by omega), h (mO j) (by unfold mO; omega) (by unfold mO; omega)]
    · rw [if_neg h2, if_neg (by omega)]
theorem ws_more {cA : Nat → ClassId} {n : Nat} {ρ : Nat → Nat} {J : Nat → Int64} {M : Mem} {q g s : Nat} (hn : 0 < n) :
    ((ws cA n ρ J M ++ ([(q, .inr (1, [.int 1, .int 1, .int 0, .int (-1), .int 0, .int 0, .int 0, .int 0, .int 0, .int 0, .ref g, .ref s, .int 0, .int 0])), (g, .inl (cA 0, 4, .inl (fun _ => 0))), (s, .inl (cA 0, 40, .inl (fun _ => 0)))] : va_W)).set 12 (rowUp (ρ 27) (minersAt n ρ) n q cA)).set 1 (ρ 1, .inr (0, [.int (M 1 0 + 1), .ref (ρ 27), .int (nI (n + 1))])) = ws cA (n + 1) (rq ρ n q g s) J (newM M n) := by
  have hc : cnt n = 13 + 3 * n := by unfold cnt; rw [if_neg (by omega)]
  have hc2 : cnt (n + 1) = 16 + 3 * n := by unfold cnt; rw [if_neg (by omega)]; omega
  have hlen : (ws cA n ρ J M).length = 13 + 3 * n := by rw [ws_len, hc]
  apply List.ext_getElem?
  intro i
  by_cases e1 : i = 1
  · subst e1
    rw [List.getElem?_set_self (by rw [List.length_set, List.length_append, hlen]; show 1 < 13 + 3 * n + 3; omega), ws_pl (by rw [hc2]; omega), show idn 1 = 1 from rfl, newM_1, rq_lt (by omega)]
    show some (ρ 1, (Sum.inr (0, [.int (M 1 0 + 1), .ref (ρ 27), .int (nI (n + 1))]) : va_E)) = some (ρ 1, .inr (0, fsL (n + 1) (rq ρ n q g s) (upd (M 1) 0 (M 1 0 + 1))))
    unfold fsL
    rw [rq_lt (by omega)]
    rfl
  rw [List.getElem?_set_ne (fun z => e1 z.symm)]
  by_cases e2 : i = 12
  · subst e2
    rw [List.getElem?_set_self (by rw [List.length_append, hlen]; show 12 < 13 + 3 * n + 3; omega), ws_pl (by rw [hc2]; omega), show idn 12 = 27 from rfl, rq_lt (by omega)]
    show some (rowUp (ρ 27) (minersAt n ρ) n q cA) = some (ρ 27, .inl (cA 3, 10, .inr (.inr (.inr (.inr (minersAt (n + 1) (rq ρ n q g s)))))))
    unfold rowUp
    rw [mrow (fun i h _ => rq_lt h) rq_O]
  rw [List.getElem?_set_ne (fun z => e2 z.symm)]
  by_cases e3 : i < 13 + 3 * n
  · have d1 : idn i < 28 + 3 * n := by unfold idn; (repeat' split) <;> omega
    have d2 : idn i ≠ 1 := fun z => e1 (idn_inj (j := 1) z)
    have d3 : idn i ≠ 27 := fun z => e2 (idn_inj (j := 12) z)
    rw [List.getElem?_append_left (by rw [hlen]; exact e3), ws_pl (by rw [hc]; exact e3), ws_pl (by rw [hc2]; omega), newM_lt d1 d2, rq_lt d1, cell_same (fun i h => rq_lt h) (idn i) d1 d2 d3]
  · rw [List.getElem?_append_right (by rw [hlen]; omega), hlen]
    by_cases e4 : i = 13 + 3 * n
    · subst e4
      have e : idn (13 + 3 * n) = mO n := by unfold idn mO; (repeat' split) <;> omega
      rw [ws_pl (by rw [hc2]; omega), e, newM_O, rq_O, cell_O, show 13 + 3 * n - (13 + 3 * n) = 0 by omega]
      unfold fs0
      rw [rq_G, rq_S]
      rfl
    by_cases e5 : i = 14 + 3 * n
    · subst e5
      have e : idn (14 + 3 * n) = mG n := by unfold idn mG; (repeat' split) <;> omega
      rw [ws_pl (by rw [hc2]; omega), e, newM_G, rq_G, cell_G, show 14 + 3 * n - (13 + 3 * n) = 1 by omega]
      rfl
    by_cases e6 : i = 15 + 3 * n
    · subst e6
      have e : idn (15 + 3 * n) = mS n := by unfold idn mS; (repeat' split) <;> omega
      rw [ws_pl (by rw [hc2]; omega), e, newM_S, rq_S, cell_S, show 15 + 3 * n - (13 + 3 * n) = 2 by omega]
      rfl
    rw [List.getElem?_eq_none (by show 3 ≤ _; omega), List.getElem?_eq_none (by rw [ws_len, hc2]; omega)]
def rq0 (ρ : Nat → Nat) (q g s r : Nat) : Nat → Nat := fun i => if i = 27 then r else rq ρ 0 q g s i
theorem ws_first {cA : Nat → ClassId} {ρ : Nat → Nat} {J : Nat → Int64} {M : Mem} {q g s r : Nat} :
    ([0, 1, 2, 3, 4, 5, 6, 7, 8, 9, 10, 11, 15, 12, 13, 14] : List Nat).map (fun i => (((ws cA 0 ρ J M ++ ([(q, .inr (1, [.int 1, .int 1, .int 0, .int (-1), .int 0, .int 0, .int 0, .int 0, .int 0, .int 0, .ref g, .ref s, .int 0, .int 0])), (g, .inl (cA 0, 4, .inl (fun _ => 0))), (s, .inl (cA 0, 40, .inl (fun _ => 0)))] : va_W)).set 1 (ρ 1, .inr (0, [.int (M 1 0 + 1), .ref r, .int (nI 1)]))) ++ [rowUp r (fun _ => none) 0 q cA])[i]?) = (ws cA 1 (rq0 ρ q g s r) J (newM M 0)).map some := by
  have hrow : va_up (fun _ => none) 0 (some q) = minersAt 1 (rq0 ρ q g s r) := by
    have h := mrow (ρ := ρ) (ρ' := rq0 ρ q g s r) (n := 0) (q := q) (fun i h1 h2 => by unfold rq0; rw [if_neg h2, rq_lt h1]) (by unfold rq0 mO; rw [if_neg (by decide)]; exact rq_O)
    rw [← h]
    congr 1
  unfold rowUp
  rw [hrow]
  rfl
set_option maxRecDepth 100000 in
theorem c_X2_miner_x {l : Launch} (hl : l.stackTraces = false) {e : Nat} {ρ : Nat → Nat} {J : Nat → Int64} {M : Mem} : CG (EXe e) l yX2_miner (Cond.code yX2_miner cX2_miner 1 (some .int) :: GW) 6 1 6 (wsd 10 ρ J M) [.ref (ρ 0)] (fun _ _ => False) (fun Ex w2 => Ex = IS ∧ w2 = wsd 10 ρ J M) := by
  refine CG.of EXe.gp hl (by decide +kernel) (Nat.le_of_ble_eq_true rfl) (fun Ξ hnL C => ?_)
  show G Ξ (wsd 10 ρ J M) 0 0 0 [(0, .ref (ρ 0))] []
  have B := C.b
  refine g_aload_n (j := 0) B dX2_miner_0 rfl rfl ?_
  refine g_get (C0 := RX2) (T := TX2) (N := 18) (ci := 3) (ref := (TX2 0).1) (q := ρ 0) 0 0 B (fun cA => ws_at (i := 0) (cnt_fix (by decide))) rfl inlX2 (by decide) rfl rfl mw_24 dX2_miner_1 ?_
  refine g_callV (i := 1) (ci := 0) (nA := 0) (Cn := RJx4a65c) (As := []) B (CtO.g (c_JL_size hl)) EXe.gp carrGP (fun cA => ws_at (i := 1) (cnt_fix (by decide))) rfl rfl mw_69 mw_66 mw_67 mw_68 mw_23 (by decide +kernel) (by decide) rfl rfl (Nat.le_of_ble_eq_true rfl) dX2_miner_4 ⟨Nat.le_of_ble_eq_true rfl, Nat.le_of_ble_eq_true rfl⟩ (fun _ _ h => absurd h.1 (fun z => by cases z)) (fun v u hvu => ?_)
  obtain ⟨hv, rfl⟩ := hvu
  cases hv
  refine g_bipush (v := 10) B dX2_miner_7 (by decide) ?_
  refine g_icmp_lt (tgt := 22) B dX2_miner_9 (by decide) (fun c => absurd c (by decide)) (fun _ => ?_)
  exact g_throw (text := "there are 10 miners") C th_IS mw_61 mw_62 (by decide) rfl rfl dX2_miner_12 dX2_miner_15 dX2_miner_16 dX2_miner_18 dX2_miner_21 (Nat.le_of_ble_eq_true rfl) (Nat.le_of_ble_eq_true rfl) (Nat.le_of_ble_eq_true rfl) (Nat.le_of_ble_eq_true rfl) (Nat.le_of_ble_eq_true rfl) (Nat.le_of_ble_eq_true rfl) ⟨rfl, rfl⟩
set_option maxRecDepth 100000 in
theorem c_X2_miner {l : Launch} (hl : l.stackTraces = false) {e n : Nat} (hn : n < 10) {ρ : Nat → Nat} {J : Nat → Int64} {M : Mem} (hρ : n = 0 → ρ 27 = e) : CG (EXe e) l yX2_miner (Cond.code yX2_miner cX2_miner 1 (some .int) :: GW) 6 4 68 (wsd n ρ J M) [.ref (ρ 0)] (fun v w2 => v = some (.int (nI n)) ∧ ∃ ρ' : Nat → Nat, (∀ i, i < 27 → ρ' i = ρ i) ∧ w2 = wsd (n + 1) ρ' J (newM M n)) (fun _ _ => False) := by
  refine CG.of EXe.gp hl (by decide +kernel) (Nat.le_of_ble_eq_true rfl) (fun Ξ hnL C => ?_)
  show G Ξ (wsd n ρ J M) 0 0 0 [(0, .ref (ρ 0))] []
  have B := C.b
  refine g_aload_n (j := 0) B dX2_miner_0 rfl rfl ?_
  refine g_get (C0 := RX2) (T := TX2) (N := 18) (ci := 3) (ref := (TX2 0).1) (q := ρ 0) 0 0 B (fun cA => ws_at (i := 0) (cnt_fix (by decide))) rfl inlX2 (by decide) rfl rfl mw_24 dX2_miner_1 ?_
  refine g_callV (i := 1) (ci := 0) (nA := 0) (Cn := RJx4a65c) (As := []) B (CtO.g (c_JL_size hl)) EXe.gp carrGP (fun cA => ws_at (i := 1) (cnt_fix (by decide))) rfl rfl mw_69 mw_66 mw_67 mw_68 mw_23 (by decide +kernel) (by decide) rfl rfl (Nat.le_of_ble_eq_true rfl) dX2_miner_4 ⟨Nat.le_of_ble_eq_true rfl, Nat.le_of_ble_eq_true rfl⟩ (fun _ _ h => absurd h.1 (fun z => by cases z)) (fun v u hvu => ?_)
  obtain ⟨hv, rfl⟩ := hvu
  cases hv
  refine g_bipush (v := 10) B dX2_miner_7 (by decide) ?_
  refine g_icmp_lt (tgt := 22) B dX2_miner_9 (by decide) (fun _ => ?_) (fun c => absurd (nI_lt (b := 10) hn (by decide)) c)
  refine g_aload_n (j := 0) B dX2_miner_22 rfl rfl ?_
  refine g_get (C0 := RX2) (T := TX2) (N := 18) (ci := 3) (ref := (TX2 0).1) (q := ρ 0) 0 0 B (fun cA => ws_at (i := 0) (cnt_fix (by decide))) rfl inlX2 (by decide) rfl rfl mw_24 dX2_miner_23 ?_
  refine g_new (ci := 1) (fs := [.int 0, .int 0, .int 0, .int 0, .int 0, .int 0, .int 0, .int 0, .int 0, .int 0, .null, .null, .int 0, .int 0]) (C0 := RX0) (T := TX0) (N := 14) B inlX0 tyX0_ok mw_63 mw_64 mw_65 rfl (by decide +kernel) (Nat.le_of_ble_eq_true rfl) (Nat.le_of_ble_eq_true rfl) dX2_miner_26 (fun q => ?_)
  refine g_dup B dX2_miner_29 rfl ?_
  have hN : ∀ cA, (wsd n ρ J M cA).length = cnt n := fun cA => by show (ws cA n ρ J M).length = cnt n; exact ws_len
  refine g_callIN (nA := 0) (As := []) (host := RX2) B (c_X0_init hl hN) (fun _ _ _ h => h) EXe.carr mw_72 (fun A s H h => h.2.2.2.2.1) mw_71 rfl mw_65 (by decide +kernel) (by decide) rfl rfl (Nat.le_of_ble_eq_true rfl) dX2_miner_30 ⟨Nat.le_of_ble_eq_true rfl, Nat.le_of_ble_eq_true rfl⟩ (fun _ _ h => h.elim) (fun v u hvu => ?_)
  obtain ⟨rfl, g, s, rfl⟩ := hvu
  have h1 : ∀ cA, (wsd n ρ J M cA ++ ([(q, .inr (1, [.int 1, .int 1, .int 0, .int (-1), .int 0, .int 0, .int 0, .int 0, .int 0, .int 0, .ref g, .ref s, .int 0, .int 0])), (g, .inl (cA 0, 4, .inl (fun _ => 0))), (s, .inl (cA 0, 40, .inl (fun _ => 0)))] : va_W))[1]? = some (ρ 1, .inr (0, [.int (M 1 0), .ref (ρ 27), .int (nI n)])) := fun cA => by
    rw [List.getElem?_append_left (by rw [hN cA]; unfold cnt; split <;> omega)]; exact ws_at (i := 1) (cnt_fix (by decide))
  have hj : ∀ cA, (wsd n ρ J M cA ++ ([(q, .inr (1, [.int 1, .int 1, .int 0, .int (-1), .int 0, .int 0, .int 0, .int 0, .int 0, .int 0, .ref g, .ref s, .int 0, .int 0])), (g, .inl (cA 0, 4, .inl (fun _ => 0))), (s, .inl (cA 0, 40, .inl (fun _ => 0)))] : va_W))[cnt n]? = some (q, .inr (1, [.int 1, .int 1, .int 0, .int (-1), .int 0, .int 0, .int 0, .int 0, .int 0, .int 0, .ref g, .ref s, .int 0, .int 0])) := fun cA => px_at (hN cA)
  rcases Nat.eq_zero_or_pos n with h0 | h0
  · subst h0
    have he := hρ rfl
    subst he
    refine g_callV (i := 1) (ci := 0) (nA := 1) (Cn := RJx4a65c) (As := [.ref q]) B (c_JL_add0 (M0 := 15) hl h1 hj (by decide) (fun cA => by rw [List.length_append, hN cA]; rfl) (by decide)) (fun _ _ _ h => h) EXe.carr h1 rfl rfl mw_82 mw_79 mw_80 mw_81 mw_23 (by decide +kernel) (by decide) rfl rfl (Nat.le_of_ble_eq_true rfl) dX2_miner_33 ⟨Nat.le_of_ble_eq_true rfl, Nat.le_of_ble_eq_true rfl⟩ (fun _ _ h => h.elim) (fun v u hvu => ?_)
    obtain ⟨rfl, ea, rfl⟩ := hvu
    refine g_perm (w2 := wsd 1 (rq0 ρ q g s ea) J (newM M 0)) _ (by decide) (fun cA => ws_first) ?_
    refine g_pop B dX2_miner_36 rfl ?_
    refine g_aload_n (j := 0) B dX2_miner_37 rfl rfl ?_
    rw [show ρ 0 = (rq0 ρ q g s ea) 0 from rfl]
    refine g_get (C0 := RX2) (T := TX2) (N := 18) (ci := 3) (ref := (TX2 0).1) (q := (rq0 ρ q g s ea) 0) 0 0 B (fun cA => ws_at (i := 0) (cnt_fix (by decide))) rfl inlX2 (by decide) rfl rfl mw_24 dX2_miner_38 ?_
    refine g_callV (i := 1) (ci := 0) (nA := 0) (Cn := RJx4a65c) (As := []) B (CtO.g (c_JL_size hl)) EXe.gp carrGP (fun cA => ws_at (i := 1) (cnt_fix (by decide))) rfl rfl mw_69 mw_66 mw_67 mw_68 mw_23 (by decide +kernel) (by decide) rfl rfl (Nat.le_of_ble_eq_true rfl) dX2_miner_41 ⟨Nat.le_of_ble_eq_true rfl, Nat.le_of_ble_eq_true rfl⟩ (fun _ _ h => absurd h.1 (fun z => by cases z)) (fun v u hvu => ?_)
    obtain ⟨hv, rfl⟩ := hvu
    cases hv
    refine g_iconst (v := 1) B dX2_miner_44 (by decide) ?_
    refine g_isub B dX2_miner_45 ?_
    rw [nI_pred]
    exact g_iret C rfl (Nat.le_of_ble_eq_true rfl) (Nat.le_of_ble_eq_true rfl) dX2_miner_46 ⟨rfl, rq0 ρ q g s ea, fun i hi => by unfold rq0; rw [if_neg (by omega), rq_lt (by omega)], rfl⟩
  · have h27 : ∀ cA, (wsd n ρ J M cA ++ ([(q, .inr (1, [.int 1, .int 1, .int 0, .int (-1), .int 0, .int 0, .int 0, .int 0, .int 0, .int 0, .ref g, .ref s, .int 0, .int 0])), (g, .inl (cA 0, 4, .inl (fun _ => 0))), (s, .inl (cA 0, 40, .inl (fun _ => 0)))] : va_W))[12]? = some (ρ 27, .inl (cA 3, 10, .inr (.inr (.inr (.inr (minersAt n ρ)))))) := fun cA => by
      rw [List.getElem?_append_left (by rw [hN cA]; unfold cnt; split <;> omega)]; exact ws_at (cnt_ea h0)
    refine g_callV (i := 1) (ci := 0) (nA := 1) (Cn := RJx4a65c) (As := [.ref q]) B (c_JL_add hl hn h1 h27 hj (by unfold cnt; rw [if_neg (by omega)]; omega) (by unfold cnt; rw [if_neg (by omega)]; omega)) (fun _ _ _ h => h) EXe.carr h1 rfl rfl mw_82 mw_79 mw_80 mw_81 mw_23 (by decide +kernel) (by decide) rfl rfl (Nat.le_of_ble_eq_true rfl) dX2_miner_33 ⟨Nat.le_of_ble_eq_true rfl, Nat.le_of_ble_eq_true rfl⟩ (fun _ _ h => h.elim) (fun v u hvu => ?_)
    obtain ⟨rfl, rfl⟩ := hvu
    refine g_w (w' := wsd (n + 1) (rq ρ n q g s) J (newM M n)) (funext fun cA => ws_more h0) ?_
    refine g_pop B dX2_miner_36 rfl ?_
    refine g_aload_n (j := 0) B dX2_miner_37 rfl rfl ?_
    rw [show ρ 0 = (rq ρ n q g s) 0 from (rq_lt (by omega)).symm]
    refine g_get (C0 := RX2) (T := TX2) (N := 18) (ci := 3) (ref := (TX2 0).1) (q := (rq ρ n q g s) 0) 0 0 B (fun cA => ws_at (i := 0) (cnt_fix (by decide))) rfl inlX2 (by decide) rfl rfl mw_24 dX2_miner_38 ?_
    refine g_callV (i := 1) (ci := 0) (nA := 0) (Cn := RJx4a65c) (As := []) B (CtO.g (c_JL_size hl)) EXe.gp carrGP (fun cA => ws_at (i := 1) (cnt_fix (by decide))) rfl rfl mw_69 mw_66 mw_67 mw_68 mw_23 (by decide +kernel) (by decide) rfl rfl (Nat.le_of_ble_eq_true rfl) dX2_miner_41 ⟨Nat.le_of_ble_eq_true rfl, Nat.le_of_ble_eq_true rfl⟩ (fun _ _ h => absurd h.1 (fun z => by cases z)) (fun v u hvu => ?_)
    obtain ⟨hv, rfl⟩ := hvu
    cases hv
    refine g_iconst (v := 1) B dX2_miner_44 (by decide) ?_
    refine g_isub B dX2_miner_45 ?_
    rw [nI_pred]
    exact g_iret C rfl (Nat.le_of_ble_eq_true rfl) (Nat.le_of_ble_eq_true rfl) dX2_miner_46 ⟨rfl, rq ρ n q g s, fun i hi => rq_lt (by omega), rfl⟩
end
