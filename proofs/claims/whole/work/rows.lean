section
-- ===== PART A: goes FIRST, ahead of the names: the tables' words, and 'selects' of the private methods out of them =====
/-- a private method of a class that the tables say can be made, by its rows of tables_1 -/
def lw_okq (q : MethodName × Nat) : Prop := (q.1.cls ≠ "java/lang/invoke/MethodHandle" ∧ q.1.cls ≠ "java/lang/invoke/VarHandle") ∧ Cond.instantiable q.1.cls q.2 ∈ tables_1 ∧ Cond.privateMethod q.1 ∈ tables_1 ∧ Cond.instanceMethod q.1 ∈ tables_1
theorem lw_p0 : lw_okq (⟨"java/lang/Throwable", "fillInStackTrace", "(I)Ljava/lang/Throwable;"⟩, 6) := ⟨⟨by decide +kernel, by decide +kernel⟩, List.mem_of_getElem? (i := 197) (by decide +kernel), List.mem_of_getElem? (i := 195) (by decide +kernel), List.mem_of_getElem? (i := 196) (by decide +kernel)⟩
theorem lw_p1 : lw_okq (⟨"java/util/ArrayList", "add", "(Ljava/lang/Object;[Ljava/lang/Object;I)V"⟩, 3) := ⟨⟨by decide +kernel, by decide +kernel⟩, List.mem_of_getElem? (i := 29) (by decide +kernel), List.mem_of_getElem? (i := 291) (by decide +kernel), List.mem_of_getElem? (i := 292) (by decide +kernel)⟩
theorem lw_p2 : lw_okq (⟨"java/util/ArrayList", "grow", "()[Ljava/lang/Object;"⟩, 3) := ⟨⟨by decide +kernel, by decide +kernel⟩, List.mem_of_getElem? (i := 29) (by decide +kernel), List.mem_of_getElem? (i := 295) (by decide +kernel), List.mem_of_getElem? (i := 296) (by decide +kernel)⟩
theorem lw_p3 : lw_okq (⟨"java/util/ArrayList", "grow", "(I)[Ljava/lang/Object;"⟩, 3) := ⟨⟨by decide +kernel, by decide +kernel⟩, List.mem_of_getElem? (i := 29) (by decide +kernel), List.mem_of_getElem? (i := 299) (by decide +kernel), List.mem_of_getElem? (i := 300) (by decide +kernel)⟩
theorem lw_p4 : lw_okq (⟨"ScripHollow", "minerAt", "(I)LScripHollow$Miner;"⟩, 18) := ⟨⟨by decide +kernel, by decide +kernel⟩, List.mem_of_getElem? (i := 21) (by decide +kernel), List.mem_of_getElem? (i := 351) (by decide +kernel), List.mem_of_getElem? (i := 352) (by decide +kernel)⟩
theorem lw_p5 : lw_okq (⟨"ScripHollow", "settle", "(LScripHollow$Miner;)V"⟩, 18) := ⟨⟨by decide +kernel, by decide +kernel⟩, List.mem_of_getElem? (i := 21) (by decide +kernel), List.mem_of_getElem? (i := 453) (by decide +kernel), List.mem_of_getElem? (i := 454) (by decide +kernel)⟩
theorem lw_p6 : lw_okq (⟨"ScripHollow", "due", "(LScripHollow$Miner;I)I"⟩, 18) := ⟨⟨by decide +kernel, by decide +kernel⟩, List.mem_of_getElem? (i := 21) (by decide +kernel), List.mem_of_getElem? (i := 457) (by decide +kernel), List.mem_of_getElem? (i := 458) (by decide +kernel)⟩
theorem lw_p7 : lw_okq (⟨"ScripHollow", "isPassedBy", "(I)Z"⟩, 18) := ⟨⟨by decide +kernel, by decide +kernel⟩, List.mem_of_getElem? (i := 21) (by decide +kernel), List.mem_of_getElem? (i := 465) (by decide +kernel), List.mem_of_getElem? (i := 466) (by decide +kernel)⟩
theorem lw_p8 : lw_okq (⟨"ScripHollow", "breach", "(LScripHollow$Miner;II)V"⟩, 18) := ⟨⟨by decide +kernel, by decide +kernel⟩, List.mem_of_getElem? (i := 21) (by decide +kernel), List.mem_of_getElem? (i := 474) (by decide +kernel), List.mem_of_getElem? (i := 475) (by decide +kernel)⟩
theorem lw_p9 : lw_okq (⟨"ScripHollow", "hand", "(LScripHollow$Miner;I)V"⟩, 18) := ⟨⟨by decide +kernel, by decide +kernel⟩, List.mem_of_getElem? (i := 21) (by decide +kernel), List.mem_of_getElem? (i := 478) (by decide +kernel), List.mem_of_getElem? (i := 479) (by decide +kernel)⟩
theorem lw_p10 : lw_okq (⟨"ScripHollow", "expire", "(I)V"⟩, 18) := ⟨⟨by decide +kernel, by decide +kernel⟩, List.mem_of_getElem? (i := 21) (by decide +kernel), List.mem_of_getElem? (i := 486) (by decide +kernel), List.mem_of_getElem? (i := 487) (by decide +kernel)⟩
theorem lw_p11 : lw_okq (⟨"ScripHollow", "storePrice", "(LScripHollow$Miner;I)I"⟩, 18) := ⟨⟨by decide +kernel, by decide +kernel⟩, List.mem_of_getElem? (i := 21) (by decide +kernel), List.mem_of_getElem? (i := 520) (by decide +kernel), List.mem_of_getElem? (i := 521) (by decide +kernel)⟩
theorem lw_p12 : lw_okq (⟨"ScripHollow", "refusal", "(LScripHollow$Miner;I)I"⟩, 18) := ⟨⟨by decide +kernel, by decide +kernel⟩, List.mem_of_getElem? (i := 21) (by decide +kernel), List.mem_of_getElem? (i := 538) (by decide +kernel), List.mem_of_getElem? (i := 539) (by decide +kernel)⟩
theorem lw_p13 : lw_okq (⟨"ScripHollow", "heirOf", "(LScripHollow$Miner;)I"⟩, 18) := ⟨⟨by decide +kernel, by decide +kernel⟩, List.mem_of_getElem? (i := 21) (by decide +kernel), List.mem_of_getElem? (i := 603) (by decide +kernel), List.mem_of_getElem? (i := 604) (by decide +kernel)⟩
theorem lw_p14 : lw_okq (⟨"ScripHollow", "canStrike", "()Z"⟩, 18) := ⟨⟨by decide +kernel, by decide +kernel⟩, List.mem_of_getElem? (i := 21) (by decide +kernel), List.mem_of_getElem? (i := 631) (by decide +kernel), List.mem_of_getElem? (i := 632) (by decide +kernel)⟩
theorem lw_p15 : lw_okq (⟨"ScripHollow", "poorestBut", "(I)I"⟩, 18) := ⟨⟨by decide +kernel, by decide +kernel⟩, List.mem_of_getElem? (i := 21) (by decide +kernel), List.mem_of_getElem? (i := 651) (by decide +kernel), List.mem_of_getElem? (i := 652) (by decide +kernel)⟩
def lw_privs_1 : List (MethodName × Nat) := [(⟨"java/lang/Throwable", "fillInStackTrace", "(I)Ljava/lang/Throwable;"⟩, 6), (⟨"java/util/ArrayList", "add", "(Ljava/lang/Object;[Ljava/lang/Object;I)V"⟩, 3), (⟨"java/util/ArrayList", "grow", "()[Ljava/lang/Object;"⟩, 3), (⟨"java/util/ArrayList", "grow", "(I)[Ljava/lang/Object;"⟩, 3), (⟨"ScripHollow", "minerAt", "(I)LScripHollow$Miner;"⟩, 18), (⟨"ScripHollow", "settle", "(LScripHollow$Miner;)V"⟩, 18), (⟨"ScripHollow", "due", "(LScripHollow$Miner;I)I"⟩, 18), (⟨"ScripHollow", "isPassedBy", "(I)Z"⟩, 18), (⟨"ScripHollow", "breach", "(LScripHollow$Miner;II)V"⟩, 18), (⟨"ScripHollow", "hand", "(LScripHollow$Miner;I)V"⟩, 18), (⟨"ScripHollow", "expire", "(I)V"⟩, 18), (⟨"ScripHollow", "storePrice", "(LScripHollow$Miner;I)I"⟩, 18), (⟨"ScripHollow", "refusal", "(LScripHollow$Miner;I)I"⟩, 18), (⟨"ScripHollow", "heirOf", "(LScripHollow$Miner;)I"⟩, 18), (⟨"ScripHollow", "canStrike", "()Z"⟩, 18), (⟨"ScripHollow", "poorestBut", "(I)I"⟩, 18)]
theorem lw_r1 : ∀ q ∈ lw_privs_1, lw_okq q := List.forall_mem_cons.mpr ⟨lw_p0, List.forall_mem_cons.mpr ⟨lw_p1, List.forall_mem_cons.mpr ⟨lw_p2, List.forall_mem_cons.mpr ⟨lw_p3, List.forall_mem_cons.mpr ⟨lw_p4, List.forall_mem_cons.mpr ⟨lw_p5, List.forall_mem_cons.mpr ⟨lw_p6, List.forall_mem_cons.mpr ⟨lw_p7, List.forall_mem_cons.mpr ⟨lw_p8, List.forall_mem_cons.mpr ⟨lw_p9, List.forall_mem_cons.mpr ⟨lw_p10, List.forall_mem_cons.mpr ⟨lw_p11, List.forall_mem_cons.mpr ⟨lw_p12, List.forall_mem_cons.mpr ⟨lw_p13, List.forall_mem_cons.mpr ⟨lw_p14, List.forall_mem_cons.mpr ⟨lw_p15, fun _ h => absurd h List.not_mem_nil⟩⟩⟩⟩⟩⟩⟩⟩⟩⟩⟩⟩⟩⟩⟩⟩
theorem lw_p16 : lw_okq (⟨"ScripHollow", "redeem", "(II)I"⟩, 18) := ⟨⟨by decide +kernel, by decide +kernel⟩, List.mem_of_getElem? (i := 21) (by decide +kernel), List.mem_of_getElem? (i := 663) (by decide +kernel), List.mem_of_getElem? (i := 664) (by decide +kernel)⟩
theorem lw_p17 : lw_okq (⟨"ScripHollowModel", "goes", "(ZZZ)Z"⟩, 30) := ⟨⟨by decide +kernel, by decide +kernel⟩, List.mem_of_getElem? (i := 710) (by decide +kernel), List.mem_of_getElem? (i := 815) (by decide +kernel), List.mem_of_getElem? (i := 816) (by decide +kernel)⟩
theorem lw_p18 : lw_okq (⟨"ScripHollowModel", "isMiner", "(I)Z"⟩, 30) := ⟨⟨by decide +kernel, by decide +kernel⟩, List.mem_of_getElem? (i := 710) (by decide +kernel), List.mem_of_getElem? (i := 823) (by decide +kernel), List.mem_of_getElem? (i := 824) (by decide +kernel)⟩
theorem lw_p19 : lw_okq (⟨"ScripHollowModel", "isAlive", "(I)Z"⟩, 30) := ⟨⟨by decide +kernel, by decide +kernel⟩, List.mem_of_getElem? (i := 710) (by decide +kernel), List.mem_of_getElem? (i := 842) (by decide +kernel), List.mem_of_getElem? (i := 843) (by decide +kernel)⟩
theorem lw_p20 : lw_okq (⟨"ScripHollowModel", "pays", "(I)I"⟩, 30) := ⟨⟨by decide +kernel, by decide +kernel⟩, List.mem_of_getElem? (i := 710) (by decide +kernel), List.mem_of_getElem? (i := 861) (by decide +kernel), List.mem_of_getElem? (i := 862) (by decide +kernel)⟩
theorem lw_p21 : lw_okq (⟨"ScripHollowModel", "isSpared", "()Z"⟩, 30) := ⟨⟨by decide +kernel, by decide +kernel⟩, List.mem_of_getElem? (i := 710) (by decide +kernel), List.mem_of_getElem? (i := 866) (by decide +kernel), List.mem_of_getElem? (i := 867) (by decide +kernel)⟩
theorem lw_p22 : lw_okq (⟨"ScripHollowModel", "breaks", "(II)V"⟩, 30) := ⟨⟨by decide +kernel, by decide +kernel⟩, List.mem_of_getElem? (i := 710) (by decide +kernel), List.mem_of_getElem? (i := 870) (by decide +kernel), List.mem_of_getElem? (i := 871) (by decide +kernel)⟩
theorem lw_p23 : lw_okq (⟨"ScripHollowModel", "raisedFor", "(II)I"⟩, 30) := ⟨⟨by decide +kernel, by decide +kernel⟩, List.mem_of_getElem? (i := 710) (by decide +kernel), List.mem_of_getElem? (i := 889) (by decide +kernel), List.mem_of_getElem? (i := 890) (by decide +kernel)⟩
theorem lw_p24 : lw_okq (⟨"ScripHollowModel", "reason", "(III)I"⟩, 30) := ⟨⟨by decide +kernel, by decide +kernel⟩, List.mem_of_getElem? (i := 710) (by decide +kernel), List.mem_of_getElem? (i := 902) (by decide +kernel), List.mem_of_getElem? (i := 903) (by decide +kernel)⟩
theorem lw_p25 : lw_okq (⟨"ScripHollowModel", "lacks", "(II)I"⟩, 30) := ⟨⟨by decide +kernel, by decide +kernel⟩, List.mem_of_getElem? (i := 710) (by decide +kernel), List.mem_of_getElem? (i := 906) (by decide +kernel), List.mem_of_getElem? (i := 907) (by decide +kernel)⟩
theorem lw_p26 : lw_okq (⟨"ScripHollowModel", "scripOf", "(I)I"⟩, 30) := ⟨⟨by decide +kernel, by decide +kernel⟩, List.mem_of_getElem? (i := 710) (by decide +kernel), List.mem_of_getElem? (i := 910) (by decide +kernel), List.mem_of_getElem? (i := 911) (by decide +kernel)⟩
theorem lw_p27 : lw_okq (⟨"ScripHollowModel", "takes", "(II)I"⟩, 30) := ⟨⟨by decide +kernel, by decide +kernel⟩, List.mem_of_getElem? (i := 710) (by decide +kernel), List.mem_of_getElem? (i := 918) (by decide +kernel), List.mem_of_getElem? (i := 919) (by decide +kernel)⟩
theorem lw_p28 : lw_okq (⟨"ScripHollowModel", "heirOf", "(I)I"⟩, 30) := ⟨⟨by decide +kernel, by decide +kernel⟩, List.mem_of_getElem? (i := 710) (by decide +kernel), List.mem_of_getElem? (i := 951) (by decide +kernel), List.mem_of_getElem? (i := 952) (by decide +kernel)⟩
theorem lw_p29 : lw_okq (⟨"ScripHollowModel", "leaves", "(II)V"⟩, 30) := ⟨⟨by decide +kernel, by decide +kernel⟩, List.mem_of_getElem? (i := 710) (by decide +kernel), List.mem_of_getElem? (i := 955) (by decide +kernel), List.mem_of_getElem? (i := 956) (by decide +kernel)⟩
theorem lw_p30 : lw_okq (⟨"ScripHollowModel", "redeems", "(II)I"⟩, 30) := ⟨⟨by decide +kernel, by decide +kernel⟩, List.mem_of_getElem? (i := 710) (by decide +kernel), List.mem_of_getElem? (i := 979) (by decide +kernel), List.mem_of_getElem? (i := 980) (by decide +kernel)⟩
def lw_privs_2 : List (MethodName × Nat) := [(⟨"ScripHollow", "redeem", "(II)I"⟩, 18), (⟨"ScripHollowModel", "goes", "(ZZZ)Z"⟩, 30), (⟨"ScripHollowModel", "isMiner", "(I)Z"⟩, 30), (⟨"ScripHollowModel", "isAlive", "(I)Z"⟩, 30), (⟨"ScripHollowModel", "pays", "(I)I"⟩, 30), (⟨"ScripHollowModel", "isSpared", "()Z"⟩, 30), (⟨"ScripHollowModel", "breaks", "(II)V"⟩, 30), (⟨"ScripHollowModel", "raisedFor", "(II)I"⟩, 30), (⟨"ScripHollowModel", "reason", "(III)I"⟩, 30), (⟨"ScripHollowModel", "lacks", "(II)I"⟩, 30), (⟨"ScripHollowModel", "scripOf", "(I)I"⟩, 30), (⟨"ScripHollowModel", "takes", "(II)I"⟩, 30), (⟨"ScripHollowModel", "heirOf", "(I)I"⟩, 30), (⟨"ScripHollowModel", "leaves", "(II)V"⟩, 30), (⟨"ScripHollowModel", "redeems", "(II)I"⟩, 30)]
theorem lw_r2 : ∀ q ∈ lw_privs_2, lw_okq q := List.forall_mem_cons.mpr ⟨lw_p16, List.forall_mem_cons.mpr ⟨lw_p17, List.forall_mem_cons.mpr ⟨lw_p18, List.forall_mem_cons.mpr ⟨lw_p19, List.forall_mem_cons.mpr ⟨lw_p20, List.forall_mem_cons.mpr ⟨lw_p21, List.forall_mem_cons.mpr ⟨lw_p22, List.forall_mem_cons.mpr ⟨lw_p23, List.forall_mem_cons.mpr ⟨lw_p24, List.forall_mem_cons.mpr ⟨lw_p25, List.forall_mem_cons.mpr ⟨lw_p26, List.forall_mem_cons.mpr ⟨lw_p27, List.forall_mem_cons.mpr ⟨lw_p28, List.forall_mem_cons.mpr ⟨lw_p29, List.forall_mem_cons.mpr ⟨lw_p30, fun _ h => absurd h List.not_mem_nil⟩⟩⟩⟩⟩⟩⟩⟩⟩⟩⟩⟩⟩⟩⟩
def lw_privs : List (MethodName × Nat) := lw_privs_1 ++ (lw_privs_2)
def lw_tbl : List Cond := k2_sels lw_privs ++ tables_1
theorem lw_privs_ok : ∀ q ∈ lw_privs, lw_okq q := by
  show ∀ q ∈ lw_privs_1 ++ (lw_privs_2), lw_okq q
  exact List.forall_mem_append.mpr ⟨lw_r1, lw_r2⟩
/-! ===== BEGIN words of one list among another's, by their places ===== -/
theorem goodIn_r {big : List Cond} (ws : List Cond) (ps : List Nat) (hp : ws = ps.filterMap (fun i => big[i]?)) (h : ws.all goodWord = true) : GoodIn big ws := by
  intro w hw
  have h1 := List.all_eq_true.mp h w hw
  rw [hp] at hw
  obtain ⟨i, -, hi⟩ := List.mem_filterMap.mp hw
  have hm : w ∈ big := by first | exact List.mem_of_getElem? hi | exact List.getElem?_mem hi
  exact ⟨hm, good_of_word h1⟩
theorem goodIn_app {big a b : List Cond} (ha : GoodIn big a) (hb : GoodIn big b) : GoodIn big (a ++ b) := fun w h => (List.mem_append.mp h).elim (ha w) (hb w)
theorem goodIn_ca {big a b : List Cond} {c : Cond} (ha : GoodIn big (c :: a)) (hb : GoodIn big b) : GoodIn big (c :: (a ++ b)) := fun w h => (List.mem_cons.mp h).elim (fun e => ha w (List.mem_cons.mpr (Or.inl e))) (fun h => (List.mem_append.mp h).elim (fun h => ha w (List.mem_cons.mpr (Or.inr h))) (hb w))
theorem goodIn_sub {big ws : List Cond} (hm : ∀ w ∈ ws, w ∈ big) (h : ws.all goodWord = true) : GoodIn big ws := fun w hw => ⟨hm w hw, good_of_word (List.all_eq_true.mp h w hw)⟩
/-! ===== END ===== -/

/-! ===== BEGIN exceptions that leave a method, and their catching by the caller (launches without stack traces) ===== -/
section VXA
/-! The laws vx_back, vx_callV, vx_callS, vx_callSW, vx_throw0, vx_throwS follow proofs of the library, with one case more: JvmDerived/Free/Laws.lean (Back.of_free), Shelf42/LK1.lean (callV, callS), Shelf/KitTraced.lean (throwNew0V, throwNewS). -/
/-- where a method has thrown q: the class by its name, the cell, what was written, the world -/
def vx_T (XC : String → State → State → Prop) (st : State) (q : Addr) (t : State) (mc ms : Nat) (free : Addr → Prop) : Prop :=
  ∃ (E : String) (ce : Cell) (L : List Loc), XC E st t ∧ t.heap[q]? = some ce ∧ ce.vm = .none ∧ st.vm.findClass E = some ce.cls ∧ st.WarmedH t.vm ∧ st.sameButNew ({ t with vm := st.vm } : State) L mc ms ∧ ∀ z ∈ L, free z.base
def vx_Q (Qc : Array Value → State → Outcome → State → Prop) (XC : String → State → State → Prop) (mc ms : Nat) (free : Addr → Prop) : Array Value → State → Outcome → State → Prop := fun a st o t =>
  (Qc a st o t ∧ ∃ L, FrameEnd st o t L mc ms ∧ ∀ q ∈ L, free q.base) ∨ ∃ q, o = .threw q ∧ vx_T XC st q t mc ms free
/-- a callee that returns or throws -/
def vx_Met (l : Launch) (y : MethodName) (ws : List Cond) (rm : Room) (Pc : Array Value → State → Prop) (Qc : Array Value → State → Outcome → State → Prop) (XC : String → State → State → Prop) (mc ms : Nat) (free : Addr → Prop) : Prop :=
  MetFree l y (headSpec ws rm) Pc (fun _ _ _ _ _ => True) (vx_Q Qc XC mc ms free)
def vx_Post (XC : String → State → State → Prop) (mc ms : Nat) (free : Addr → Prop) : Pt → Array Value → Addr → Pt → Prop := fun A a q B =>
  ∃ (g : JFrame) (mk : MethodId) (t : State) (L : List Loc) (E : String) (ce : Cell), B.U.heap = t.heap ∧ B.U.vm = t.vm ∧ XC E (A.U.calling g mk a) t ∧ t.heap[q]? = some ce ∧ ce.vm = .none ∧ A.U.vm.findClass E = some ce.cls ∧ B.locs = A.locs ++ L ∧ (∀ z ∈ L, free z.base) ∧ B.cells = A.cells + mc ∧ B.slots = A.slots + ms
def vx_Back (l : Launch) (R : Room) (p : Program) (e : Env) (below : List Frame) (s : State) (sargs : Array Value) (y : MethodName) (len W9 : Nat)
    (Pre : Pt → Array Value → Prop) (Post : Pt → Array Value → Option Value → Pt → Prop) (PostX : Pt → Array Value → Addr → Pt → Prop) : Prop :=
  ∀ (m : MethodId) (meth : Method) (c : Code) (A : Pt) (g : JFrame) (ig : Instr) (mk : MethodId) (a : Array Value),
    Stand p l e R s m sargs below meth c A.U A.locs A.cells A.slots → g.method = m → g.locals.size = c.maxLocals → decode c.code g.pc = .ok (ig, len) →
    2 * g.monitorRoom + (g.stack.map fun v => v.category).sum ≤ W9 → A.U.methodNamed? y = some mk → Pre A a →
    (∃ (v : Option Value) (B : Pt), Stand p l e R s m sargs below meth c B.U B.locs B.cells B.slots ∧ Post A a v B ∧
      Steps p.tables e below (doInvoke e (A.U.setTop g) [] mk a).1 (B.U.setTop { g with pc := g.pc + len, stack := v.toList ++ g.stack })) ∨
    (∃ (q : Addr) (B : Pt), Stand p l e R s m sargs below meth c B.U B.locs B.cells B.slots ∧ PostX A a q B ∧
      Steps p.tables e below (doInvoke e (A.U.setTop g) [] mk a).1 ((B.U.setTop g).pushFrame (.throwing q)))
section Payer
variable {l : Launch} {R : Room} {p : Program} {e : Env} {below : List Frame} {s : State} {sargs : Array Value} {y : MethodName} {len W9 : Nat}
theorem vx_back {ws : List Cond} {rm : Room} {Pc : Array Value → State → Prop} {Qc : Array Value → State → Outcome → State → Prop} {XC : String → State → State → Prop} {mc ms : Nat} {free : Addr → Prop} {bytes : ByteArray} {maxL : Nat} {ret : Option FieldType}
    (hM : vx_Met l y ws rm Pc Qc XC mc ms free) (hblind : FrameBlind Pc) (hrc : rm.cells = mc) (hrs : rm.slots = ms)
    (hframes : rm.frames + 1 ≤ R.frames) (hlocals : W9 + (maxL + 11) + rm.locals ≤ R.locals)
    (hws : ∀ w ∈ ws, ∀ a' U, s.WarmedH U.vm → w.before a' U = true) (hcode : Cond.code y bytes maxL ret ∈ ws) (hinit : ∀ a' U, s.WarmedH U.vm → (Cond.initialized y.cls).before a' U = true) :
    vx_Back l R p e below s sargs y len W9 (PreOf R mc ms Pc) (PostOf Qc mc ms free) (vx_Post XC mc ms free) := by
  intro m meth c A g ig mk a X hg hsize hdg hW hn hp
  have h1 : (headSpec ws rm).pre.before a A.U = true := atoms_intro fun w hw => hws w hw _ _ X.warmed
  have h2 : (Cond.code y bytes maxL ret).before a A.U = true := hws _ hcode _ _ X.warmed
  have h3 : (Cond.initialized y.cls).before a A.U = true := hinit _ _ X.warmed
  have h4 : A.cells + (headSpec ws rm).room.cells ≤ R.cells := by rw [show (headSpec ws rm).room.cells = mc from hrc]; exact hp.1
  have h5 : A.slots + (headSpec ws rm).room.slots ≤ R.slots := by rw [show (headSpec ws rm).room.slots = ms from hrs]; exact hp.2.1
  have hPc : Pc a (A.U.calling g mk a) := hblind _ _ _ _ hp.2.2
  obtain ⟨U, Ls, c0, s0⟩ := A
  dsimp only [Pt.U, Pt.locs, Pt.cells, Pt.slots] at h1 h2 h3 h4 h5 X hn hPc ⊢
  obtain ⟨methY, cY, hmY, hcY, -, hlY, -, -, -, -⟩ := Cond.code_spec hn h2
  obtain ⟨kY, hkY, -⟩ := className_of_methodNamed hn
  have hinitY : kY.init = .initialized := Cond.initialized_spec (findClass_of_methodNamed hn) hkY h3
  have h : At U g.method c below := by rw [hg]; exact X.here
  have hlocals9 : W9 + (maxL + 11) + (headSpec ws rm).room.locals ≤ R.locals := hlocals
  have happ : (headSpec ws rm).appliesLoose y e.platform (U.calling g mk a) = true :=
    Spec.appliesLoose_calling (g := g) h hdg hn hkY hinitY
      (X.room_calling (g := g) (R' := (headSpec ws rm).room) hsize hmY hcY hframes (by rw [hlY]; omega) h4 h5) h1
  obtain ⟨mid, hmid⟩ := h.above
  have hfr : (U.setTop g).frames = (.java g :: mid) ++ below := by rw [State.frames_setTop' g h.top, hmid]; rfl
  obtain ⟨o, s₂, hsteps, -, hend, hq⟩ := Steps.callFree hM p X.admits X.cas X.clock (acts := []) hfr happ hPc trivial
  have hq' : vx_Q Qc XC mc ms free a (U.calling g mk a) o s₂ := hq
  rw [State.frames_setTop' g h.top] at hend
  obtain ⟨g₀, hg0⟩ := Option.isSome_iff_exists.mp h.top
  obtain ⟨r, hr⟩ := State.topJava?_eq_some.mp hg0
  have hr' : (({ U with heap := s₂.heap, slotsUsed := s₂.slotsUsed } : State).setVm s₂.vm).frames = .java g₀ :: r := hr
  rcases hq' with ⟨hqc, L, hfe, hL⟩ | ⟨q, rfl, E, ce, L, hx, hce, hcv, hcl, hW₂, hsm, hL⟩
  · obtain ⟨⟨v, rfl⟩, hW₂, e2, q2, q3, q4, q5, q6⟩ := id hfe
    have e3 : s₂ = ({ (U.calling g mk a).setFrames s₂.frames with heap := s₂.heap, slotsUsed := s₂.slotsUsed } : State).setVm s₂.vm := by
      have : s₂ = ({ s₂ with vm := (U.calling g mk a).vm } : State).setVm s₂.vm := rfl
      rw [e2] at this
      exact this
    obtain ⟨c₂, i₂, len₂, hc₂, hd₂, hf₂⟩ := hend
    have hW' : U.WarmedH s₂.vm := hW₂
    have hcc : c₂ = c := by
      have h1 : s₂.code? g.method = U.code? g.method := by
        rw [State.code?_eq, State.code?_eq, hW'.alike.method?]
      exact Option.some.inj (hc₂.symm.trans (h1.trans h.code))
    subst hcc
    have hlen : len₂ = len := by rw [hdg] at hd₂; cases hd₂; rfl
    subst hlen
    have hs₂ : s₂ = (({ U with heap := s₂.heap, slotsUsed := s₂.slotsUsed } : State).setVm s₂.vm).setTop { g with pc := g.pc + len₂, stack := v.toList ++ g.stack } := by
      refine e3.trans ?_
      rw [hf₂, State.calling_eq h.top, State.setFrames_setFrames, State.setTop_of_frames _ hr', hr]
      rfl
    have hsame : U.sameButNew ({ U with heap := s₂.heap, slotsUsed := s₂.slotsUsed } : State) L mc ms := by
      refine ⟨?_, q2, q3, q4, q5, q6⟩
      obtain ⟨t, ht, -⟩ := State.frames_cons hr
      show ({ U with heap := s₂.heap, slotsUsed := s₂.slotsUsed } : State) = { U.setFrames U.frames with heap := s₂.heap, slotsUsed := s₂.slotsUsed }
      rw [State.setFrames_self ht]
    subst hg
    refine Or.inl ⟨v, ⟨(({ U with heap := s₂.heap, slotsUsed := s₂.slotsUsed } : State).setVm s₂.vm), Ls ++ L, c0 + mc, s0 + ms⟩,
      ⟨X.admits, X.cas, X.clock, X.frames, X.room, X.hears, X.method, X.code, (X.here.setHeapUsed s₂.heap s₂.slotsUsed).setVm hW'.alike, X.tail, State.WarmedH.trans X.warmed hW', X.limits, X.bytes, X.same.trans (hsame.setVm s.vm)⟩,
      ⟨g, mk, s₂, L, rfl, rfl, hqc, rfl, hL, rfl, rfl⟩, ?_⟩
    show Steps p.tables e below _ ((({ U with heap := s₂.heap, slotsUsed := s₂.slotsUsed } : State).setVm s₂.vm).setTop { g with pc := g.pc + len₂, stack := v.toList ++ g.stack })
    rw [← hs₂]
    exact hsteps
  · obtain ⟨e2, q2, q3, q4, q5, q6⟩ := id hsm
    have e3 : s₂ = ({ (U.calling g mk a).setFrames s₂.frames with heap := s₂.heap, slotsUsed := s₂.slotsUsed } : State).setVm s₂.vm := by
      have : s₂ = ({ s₂ with vm := (U.calling g mk a).vm } : State).setVm s₂.vm := rfl
      rw [e2] at this
      exact this
    have hf₂ : s₂.frames = .throwing q :: .java g :: U.frames.tail := hend
    have hW' : U.WarmedH s₂.vm := hW₂
    have hs₂ : s₂ = ((({ U with heap := s₂.heap, slotsUsed := s₂.slotsUsed } : State).setVm s₂.vm).setTop g).pushFrame (.throwing q) := by
      refine e3.trans ?_
      rw [hf₂, State.calling_eq h.top, State.setFrames_setFrames, State.pushFrame, State.frames_setTop _ hr', State.setTop_of_frames _ hr', State.setFrames_setFrames, hr]
      rfl
    have hsame : U.sameButNew ({ U with heap := s₂.heap, slotsUsed := s₂.slotsUsed } : State) L mc ms := by
      refine ⟨?_, q2, q3, q4, q5, q6⟩
      obtain ⟨t, ht, -⟩ := State.frames_cons hr
      show ({ U with heap := s₂.heap, slotsUsed := s₂.slotsUsed } : State) = { U.setFrames U.frames with heap := s₂.heap, slotsUsed := s₂.slotsUsed }
      rw [State.setFrames_self ht]
    subst hg
    refine Or.inr ⟨q, ⟨(({ U with heap := s₂.heap, slotsUsed := s₂.slotsUsed } : State).setVm s₂.vm), Ls ++ L, c0 + mc, s0 + ms⟩,
      ⟨X.admits, X.cas, X.clock, X.frames, X.room, X.hears, X.method, X.code, (X.here.setHeapUsed s₂.heap s₂.slotsUsed).setVm hW'.alike, X.tail, State.WarmedH.trans X.warmed hW', X.limits, X.bytes, X.same.trans (hsame.setVm s.vm)⟩,
      ⟨g, mk, s₂, L, E, ce, rfl, rfl, hx, hce, hcv, hcl, rfl, hL, rfl, rfl⟩, ?_⟩
    show Steps p.tables e below _ (((({ U with heap := s₂.heap, slotsUsed := s₂.slotsUsed } : State).setVm s₂.vm).setTop g).pushFrame (.throwing q))
    rw [← hs₂]
    exact hsteps
end Payer
section Calls
variable {p : Program} {l : Launch} {e : Env} {R : Room} {s : State} {m : MethodId} {args : Array Value} {below : List Frame} {meth : Method} {c : Code} {T : State} {locs : List Loc} {cells slots : Nat}
theorem vx_callV (X : Stand p l e R s m args below meth c T locs cells slots) (hexec : p.tables.exec = Jvm.exec) {own C : String} {index : Nat} {y : MethodName} {bytes : ByteArray} {maxL : Nat} {ret : Option FieldType}
    (hown : s.vm.findClass own = some m.cls) (hlink : (Cond.methodLink own index y).before args s = true) (hinst : (Cond.instanceMethod y).before args s = true) (hsel : (Cond.selects C y y).before args s = true)
    (hcode : (Cond.code y bytes maxL ret).before args s = true) (hy : y.cls ≠ "java/lang/invoke/MethodHandle" ∧ y.cls ≠ "java/lang/invoke/VarHandle")
    {W9 : Nat} {Pre : Pt → Array Value → Prop} {Post : Pt → Array Value → Option Value → Pt → Prop} {PostX : Pt → Array Value → Addr → Pt → Prop} (hK : vx_Back l R p e below s args y 3 W9 Pre Post PostX)
    {b : Addr} {cellB : Cell} (hcell : T.heap[b]? = some cellB) (hobj : cellB.vm.isStatics = false) (hcls : s.vm.findClass C = some cellB.cls)
    {g : JFrame} (hg : g.method = m) (hsize : g.locals.size = c.maxLocals) {argsL rest : List Value} (hlen : ∀ sig, parseMethodDescriptor y.desc = some sig → argsL.length = sig.parameters.length)
    (hstack : g.stack = argsL.reverse ++ .ref b :: rest) (hW : 2 * g.monitorRoom + (rest.map fun v => v.category).sum ≤ W9) (hdg : decode c.code g.pc = .ok (.invokevirtual index, 3))
    (hpre : ∀ vm₁, s.WarmedH vm₁ → Pre ⟨T.setVm vm₁, locs, cells, slots⟩ (Value.ref b :: argsL).toArray) :
    (∃ (v : Option Value) (vm₁ : Vm) (B : Pt), s.WarmedH vm₁ ∧ Stand p l e R s m args below meth c B.U B.locs B.cells B.slots ∧ Post ⟨T.setVm vm₁, locs, cells, slots⟩ (Value.ref b :: argsL).toArray v B ∧
      ∀ target, Steps p.tables e below (B.U.setTop { g with pc := g.pc + 3, stack := v.toList ++ rest }) target → Steps p.tables e below (T.setTop g) target) ∨
    (∃ (q : Addr) (vm₁ : Vm) (B : Pt), s.WarmedH vm₁ ∧ Stand p l e R s m args below meth c B.U B.locs B.cells B.slots ∧ PostX ⟨T.setVm vm₁, locs, cells, slots⟩ (Value.ref b :: argsL).toArray q B ∧
      Steps p.tables e below (T.setTop g) ((B.U.setTop { g with stack := rest }).pushFrame (.throwing q))) := by
  obtain ⟨mk, methM, hnamed, hmethM, hstM, habM⟩ := Cond.instanceMethod_spec hinst
  obtain ⟨methM', cM, hmethM', -, -, -, -, -, -, hsigM⟩ := Cond.code_spec hnamed hcode
  cases hmethM.symm.trans hmethM'
  obtain ⟨c2, r2, m2, q1, q2, q3, q4, kP, hkP, hkPi⟩ := Cond.selects_spec hsel
  cases hcls.symm.trans q1
  cases (State.methodFound?_of_named hnamed hy).symm.trans q2
  cases hnamed.symm.trans q3
  have hselP : selectMethod e.platform s.vm cellB.cls mk = .method mk := by rw [Launch.admits_selectMethod X.admits]; exact q4
  obtain ⟨vm₁, X₁, hstep₁⟩ := X.invokevirtual hexec hown hlink hnamed hmethM hstM hkP hkPi hy (a := b) (cell := cellB) hcell
    (fun z h => by rw [h] at hobj; cases hobj) hselP hmethM habM hkP hkPi (g := g) hg (argsL := argsL) (rest := rest) (hlen _ hsigM) hstack hdg
  rcases hK m meth c ⟨T.setVm vm₁, locs, cells, slots⟩ { g with stack := rest } (.invokevirtual index) mk (Value.ref b :: argsL).toArray X₁ hg hsize hdg hW (X₁.named hnamed) (hpre vm₁ X₁.warmed) with ⟨v, B, X', hpost, hsteps⟩ | ⟨q, B, X', hpost, hsteps⟩
  · exact Or.inl ⟨v, vm₁, B, X₁.warmed, X', hpost, fun target h => hstep₁ _ fun acts => by rw [doInvoke_state]; exact hsteps.trans h⟩
  · exact Or.inr ⟨q, vm₁, B, X₁.warmed, X', hpost, hstep₁ _ fun acts => by rw [doInvoke_state]; exact hsteps⟩
theorem vx_callS (X : Stand p l e R s m args below meth c T locs cells slots) (hexec : p.tables.exec = Jvm.exec) {own : String} {index : Nat} {y : MethodName} {bytes : ByteArray} {maxL : Nat} {ret : Option FieldType}
    (hown : s.vm.findClass own = some m.cls) (hlink : (Cond.methodLink own index y).before args s = true) (hstat : (Cond.static y).before args s = true) (hinit : (Cond.initialized y.cls).before args s = true)
    (hcode : (Cond.code y bytes maxL ret).before args s = true) (hy : y.cls ≠ "java/lang/invoke/MethodHandle" ∧ y.cls ≠ "java/lang/invoke/VarHandle")
    {W9 : Nat} {Pre : Pt → Array Value → Prop} {Post : Pt → Array Value → Option Value → Pt → Prop} {PostX : Pt → Array Value → Addr → Pt → Prop} (hK : vx_Back l R p e below s args y 3 W9 Pre Post PostX)
    {g : JFrame} (hg : g.method = m) (hsize : g.locals.size = c.maxLocals) {argsL rest : List Value} (hlen : ∀ sig, parseMethodDescriptor y.desc = some sig → argsL.length = sig.parameters.length)
    (hstack : g.stack = argsL.reverse ++ rest) (hW : 2 * g.monitorRoom + (rest.map fun v => v.category).sum ≤ W9) (hdg : decode c.code g.pc = .ok (.invokestatic index, 3))
    (hpre : ∀ vm₁, s.WarmedH vm₁ → Pre ⟨T.setVm vm₁, locs, cells, slots⟩ argsL.toArray) :
    (∃ (v : Option Value) (vm₁ : Vm) (B : Pt), s.WarmedH vm₁ ∧ Stand p l e R s m args below meth c B.U B.locs B.cells B.slots ∧ Post ⟨T.setVm vm₁, locs, cells, slots⟩ argsL.toArray v B ∧
      ∀ target, Steps p.tables e below (B.U.setTop { g with pc := g.pc + 3, stack := v.toList ++ rest }) target → Steps p.tables e below (T.setTop g) target) ∨
    (∃ (q : Addr) (vm₁ : Vm) (B : Pt), s.WarmedH vm₁ ∧ Stand p l e R s m args below meth c B.U B.locs B.cells B.slots ∧ PostX ⟨T.setVm vm₁, locs, cells, slots⟩ argsL.toArray q B ∧
      Steps p.tables e below (T.setTop g) ((B.U.setTop { g with stack := rest }).pushFrame (.throwing q))) := by
  obtain ⟨mk, hnamed⟩ := Cond.code_named hcode
  obtain ⟨methM, cM, hmethM, -, -, -, -, -, -, hsigM⟩ := Cond.code_spec hnamed hcode
  have hstatic : methM.isStatic = true := Cond.static_spec hnamed hmethM hstat
  obtain ⟨kP, hkP, -⟩ := className_of_methodNamed hnamed
  have hinitP : kP.init = .initialized := Cond.initialized_spec (findClass_of_methodNamed hnamed) hkP hinit
  obtain ⟨vm₁, X₁, hstep₁⟩ := X.invokestatic hexec hown hlink hnamed hmethM hstatic hkP hinitP hy (g := g) hg (argsL := argsL) (rest := rest) (hlen _ hsigM) hstack hdg
  rcases hK m meth c ⟨T.setVm vm₁, locs, cells, slots⟩ { g with stack := rest } (.invokestatic index) mk argsL.toArray X₁ hg hsize hdg hW (X₁.named hnamed) (hpre vm₁ X₁.warmed) with ⟨v, B, X', hpost, hsteps⟩ | ⟨q, B, X', hpost, hsteps⟩
  · exact Or.inl ⟨v, vm₁, B, X₁.warmed, X', hpost, fun target h => hstep₁ _ fun acts => by rw [doInvoke_state]; exact hsteps.trans h⟩
  · exact Or.inr ⟨q, vm₁, B, X₁.warmed, X', hpost, hstep₁ _ fun acts => by rw [doInvoke_state]; exact hsteps⟩
end Calls
theorem vx_cls {s : State} {T : State} {vm₁ : Vm} {E : String} {k : ClassId} (hW : s.WarmedH vm₁) (h : (T.setVm vm₁).vm.findClass E = some k) : s.vm.findClass E = some k := by
  have h1 : vm₁.findClass E = some k := h
  rw [hW.alike.findClass] at h1
  exact h1
/-- the method's frame g, with q thrown over it -/
def vx_W (p : Program) (l : Launch) (e : Env) (R : Room) (s : State) (m : MethodId) (args : Array Value) (below : List Frame) (meth : Method) (c : Code) (H : Heap) (locs : List Loc) (cells slots : Nat) (Q : State → Prop) (g : JFrame) (q : Addr) : Prop :=
  ∀ T : State, T.heap = H → Stand p l e R s m args below meth c T locs cells slots → ∃ t, Steps p.tables e below ((T.setTop g).pushFrame (.throwing q)) t ∧ Q t
def vx_Run (p : Program) (l : Launch) (e : Env) (R : Room) (s : State) (m : MethodId) (args : Array Value) (below : List Frame) (meth : Method) (c : Code) (H : Heap) (locs : List Loc) (cells slots mc ms : Nat) (g : JFrame) (rest : List Value) (Qa : State → Outcome → State → Prop) (XC : String → State → State → Prop) (free : Addr → Prop) : Prop :=
  ∀ T : State, T.heap = H → Stand p l e R s m args below meth c T locs cells slots →
    (∃ (v : Option Value) (st₀ t T' : State) (L : List Loc), st₀.heap = H ∧ Stand p l e R s m args below meth c T' (locs ++ L) (cells + mc) (slots + ms) ∧ (∀ q ∈ L, free q.base) ∧ T'.heap = t.heap ∧ T'.vm = t.vm ∧ Qa st₀ (.returned v) t ∧
      Goes p e below T g T' { g with pc := g.pc + 3, stack := v.toList ++ rest }) ∨
    (∃ (q : Addr) (st₀ t T' : State) (L : List Loc) (E : String) (ce : Cell), st₀.heap = H ∧ Stand p l e R s m args below meth c T' (locs ++ L) (cells + mc) (slots + ms) ∧ (∀ z ∈ L, free z.base) ∧ T'.heap = t.heap ∧ T'.vm = t.vm ∧ XC E st₀ t ∧ t.heap[q]? = some ce ∧ ce.vm = .none ∧ s.vm.findClass E = some ce.cls ∧
      Steps p.tables e below (T.setTop g) ((T'.setTop { g with stack := rest }).pushFrame (.throwing q)))
def vx_X {S : Type} (px : S → Prop) (B : String → S → State → Prop) (A : Nat → Prop) : String → State → State → Prop := fun E st t => ∃ u : S, px u ∧ B E u t ∧ va_F A st t
section Runs
variable {p : Program} {l : Launch} {e : Env} {R : Room} {s : State} {m : MethodId} {args : Array Value} {below : List Frame} {meth : Method} {c : Code} {H : Heap} {locs : List Loc} {cells slots : Nat}
variable {y : MethodName} {bytes cc : ByteArray} {maxL nL mc ms n index : Nat} {ret : Option FieldType} {ws : List Cond} {rm : Room} {Pc : Array Value → State → Prop} {Qc : Array Value → State → Outcome → State → Prop} {XC : String → State → State → Prop} {free : Addr → Prop} {Ts : List Cond} {own C : String} {b : Addr} {As rest : List Value} {g : JFrame}
theorem vx_callBack (cb : CallB R s args own index y bytes maxL ret ws rm mc ms n) (hM : vx_Met l y ws rm Pc Qc XC mc ms free) (hbl : FrameBlind Pc) : vx_Back l R p e below s args y 3 8 (PreOf R mc ms Pc) (PostOf Qc mc ms free) (vx_Post XC mc ms free) := by
  obtain ⟨hrc, hrs, hfr, hlo, hws, hcw, -, hini, -⟩ := cb
  exact vx_back (bytes := bytes) (maxL := maxL) (ret := ret) hM hbl hrc hrs hfr hlo hws hcw (fun a' U hW => word_at hW (Or.inl (by first | rfl | simp [Cond.onTables, Cond.keeps, Cond.steady])) hini)
theorem vx_runV (S : CallFix p m c cc nL s args Ts own) (hM : vx_Met l y ws rm Pc Qc XC mc ms free) (cw : CallW R s args own C index y bytes maxL ret ws rm mc ms n) (hp : PreV s H C b Pc As)
    (hg : g.method = m) (hn : As.length = n) (hsize : g.locals.size = nL) (hstack : g.stack = As.reverse ++ .ref b :: rest) (hW : 2 * g.monitorRoom + (rest.map fun v => v.category).sum ≤ 8) (hdg : decode cc g.pc = .ok (.invokevirtual index, 3)) (hf : cells + mc ≤ R.cells ∧ slots + ms ≤ R.slots) :
    vx_Run p l e R s m args below meth c H locs cells slots mc ms g rest (Qc (Value.ref b :: As).toArray) XC free := by
  have hK : vx_Back l R p e below s args y 3 8 (PreOf R mc ms Pc) (PostOf Qc mc ms free) (vx_Post XC mc ms free) := vx_callBack cw.1 hM hp.1
  obtain ⟨⟨-, -, -, -, -, -, hcode, -, hy, hlen, hl⟩, hin, hse⟩ := cw
  obtain ⟨hx, hb, hml, ho, -⟩ := S
  obtain ⟨-, ⟨cellB, hcB, hoB, hclB⟩, hPc⟩ := hp
  intro T hT X
  rcases vx_callV X hx (C := C) (bytes := bytes) (maxL := maxL) (ret := ret) ho hl hin hse hcode hy hK (by rw [hT]; exact hcB) hoB hclB hg (hsize.trans hml.symm) (argsL := As) (rest := rest) (fun sig h => hn.trans (hlen sig h)) hstack hW (by rw [hb]; exact hdg)
    (fun vm₁ hW₁ => ⟨hf.1, hf.2, hPc (T.setVm vm₁) hT hW₁⟩) with ⟨v, vm₁, ⟨U', l2, c2, s2⟩, hW₁, X', ⟨g', mk, t, L, e1, e2, hq, h1, hL, h2, h3⟩, st⟩ | ⟨q, vm₁, ⟨U', l2, c2, s2⟩, hW₁, X', ⟨g', mk, t, L, E, ce, e1, e2, hq, hce, hcv, hcl, h1, hL, h2, h3⟩, st⟩
  · dsimp only [Pt.U, Pt.locs, Pt.cells, Pt.slots] at X' e1 e2 h1 h2 h3 st
    subst h1; subst h2; subst h3
    exact Or.inl ⟨v, (T.setVm vm₁).calling g' mk (Value.ref b :: As).toArray, t, U', L, hT, X', hL, e1, e2, hq, st⟩
  · dsimp only [Pt.U, Pt.locs, Pt.cells, Pt.slots] at X' e1 e2 h1 h2 h3 st hcl
    subst h1; subst h2; subst h3
    exact Or.inr ⟨q, (T.setVm vm₁).calling g' mk (Value.ref b :: As).toArray, t, U', L, E, ce, hT, X', hL, e1, e2, hq, hce, hcv, vx_cls hW₁ hcl, st⟩
theorem vx_runS (S : CallFix p m c cc nL s args Ts own) (hM : vx_Met l y ws rm Pc Qc XC mc ms free) (cw : CallB R s args own index y bytes maxL ret ws rm mc ms n ∧ (Cond.static y).before args s = true) (hp : PreS s H Pc As)
    (hg : g.method = m) (hn : As.length = n) (hsize : g.locals.size = nL) (hstack : g.stack = As.reverse ++ rest) (hW : 2 * g.monitorRoom + (rest.map fun v => v.category).sum ≤ 8) (hdg : decode cc g.pc = .ok (.invokestatic index, 3)) (hf : cells + mc ≤ R.cells ∧ slots + ms ≤ R.slots) :
    vx_Run p l e R s m args below meth c H locs cells slots mc ms g rest (Qc As.toArray) XC free := by
  have hK : vx_Back l R p e below s args y 3 8 (PreOf R mc ms Pc) (PostOf Qc mc ms free) (vx_Post XC mc ms free) := vx_callBack cw.1 hM hp.1
  obtain ⟨⟨-, -, -, -, -, -, hcode, hini, hy, hlen, hl⟩, hstt⟩ := cw
  obtain ⟨hx, hb, hml, ho, -⟩ := S
  intro T hT X
  rcases vx_callS X hx (bytes := bytes) (maxL := maxL) (ret := ret) ho hl hstt hini hcode hy hK hg (hsize.trans hml.symm) (argsL := As) (rest := rest) (fun sig h => hn.trans (hlen sig h)) hstack hW (by rw [hb]; exact hdg)
    (fun vm₁ hW₁ => ⟨hf.1, hf.2, hp.2 (T.setVm vm₁) hT hW₁⟩) with ⟨v, vm₁, ⟨U', l2, c2, s2⟩, hW₁, X', ⟨g', mk, t, L, e1, e2, hq, h1, hL, h2, h3⟩, st⟩ | ⟨q, vm₁, ⟨U', l2, c2, s2⟩, hW₁, X', ⟨g', mk, t, L, E, ce, e1, e2, hq, hce, hcv, hcl, h1, hL, h2, h3⟩, st⟩
  · dsimp only [Pt.U, Pt.locs, Pt.cells, Pt.slots] at X' e1 e2 h1 h2 h3 st
    subst h1; subst h2; subst h3
    exact Or.inl ⟨v, (T.setVm vm₁).calling g' mk As.toArray, t, U', L, hT, X', hL, e1, e2, hq, st⟩
  · dsimp only [Pt.U, Pt.locs, Pt.cells, Pt.slots] at X' e1 e2 h1 h2 h3 st hcl
    subst h1; subst h2; subst h3
    exact Or.inr ⟨q, (T.setVm vm₁).calling g' mk As.toArray, t, U', L, E, ce, hT, X', hL, e1, e2, hq, hce, hcv, vx_cls hW₁ hcl, st⟩
end Runs
section Rows
variable {p : Program} {l : Launch} {e : Env} {R : Room} {s : State} {m : MethodId} {args : Array Value} {below : List Frame} {meth : Method} {c : Code} {H : Heap} {locs : List Loc} {cells slots : Nat} {Q : State → Prop}
variable {mc ms : Nat} {free : Addr → Prop} {A0 A1 : Nat → Prop} {H0 : Heap} {a : Array Value} {pc : Nat} {ls : Array Slot} {st0 rest : List Value}
theorem vx_keep {st₀ t T' : State} {L : List Loc} (h0 : st₀.heap = H) (e1 : T'.heap = t.heap) (hS : va_S A0 H0 H locs) (hA : ∀ q, q < H.size → A1 q → A0 q) (hf : ∀ q, free q → A0 q) (hL : ∀ q ∈ L, free q.base) (hF : va_F A1 st₀ t) :
    H.size ≤ T'.heap.size ∧ (∀ q : Nat, q < H.size → ¬ A1 q → T'.heap[q]? = H[q]?) ∧ va_S A0 H0 T'.heap (locs ++ L) := by
  obtain ⟨hz, hk⟩ := hF
  rw [h0] at hz hk
  exact ⟨by rw [e1]; exact hz, fun q h1 h2 => by rw [e1]; exact hk q h1 h2,
    ⟨Nat.le_trans hS.1 (by rw [e1]; exact hz), fun q h1 h2 => by rw [e1, hk q (Nat.lt_of_lt_of_le h1 hS.1) (fun z => h2 (hA q (Nat.lt_of_lt_of_le h1 hS.1) z))]; exact hS.2.1 q h1 h2, fun q hq => by
      rcases List.mem_append.mp hq with h | h
      · exact hS.2.2 q h
      · exact hf _ (hL q h)⟩⟩
theorem vx_calli {S SX : Type} {post : Int32 → S → Prop} {px : SX → Prop} {B : S → State → Prop} {BX : String → SX → State → Prop} {AX : Nat → Prop} (hr : vx_Run p l e R s m args below meth c H locs cells slots mc ms (F0 m pc ls st0) rest (va_Qi post B A1 a) (vx_X px BX AX) free) (hS : va_S A0 H0 H locs) (hA : ∀ q, q < H.size → A1 q → A0 q) (hf : ∀ q, free q → A0 q) (hAX : ∀ q, q < H.size → AX q → A0 q)
    (kx : ∀ (E : String) (ce : Cell) (q9 : Addr) (u : SX) (t : State) (H1 : Heap) (locs1 : List Loc), t.heap = H1 → s.vm.Alike t.vm → px u → BX E u t → H.size ≤ H1.size → (∀ q : Nat, q < H.size → ¬ AX q → H1[q]? = H[q]?) → va_S A0 H0 H1 locs1 → H1[q9]? = some ce → ce.vm = .none → s.vm.findClass E = some ce.cls → vx_W p l e R s m args below meth c H1 locs1 (cells + mc) (slots + ms) Q (F0 m pc ls rest) q9)
    (kk : ∀ (r : Int32) (u : S) (t : State) (H1 : Heap) (locs1 : List Loc), t.heap = H1 → s.vm.Alike t.vm → post r u → B u t → H.size ≤ H1.size → (∀ q : Nat, q < H.size → ¬ A1 q → H1[q]? = H[q]?) → va_S A0 H0 H1 locs1 → W p l e R s m args below meth c H1 locs1 (cells + mc) (slots + ms) Q (F0 m (pc + 3) ls (.int r :: rest))) : W p l e R s m args below meth c H locs cells slots Q (F0 m pc ls st0) := by
  intro T hT X
  rcases hr T hT X with ⟨v, st₀, t, T', L, h0, X', hL, e1, e2, ⟨⟨r, u, hv, hp, hb⟩, hF⟩, st⟩ | ⟨q, st₀, t, T', L, E, ce, h0, X', hL, e1, e2, ⟨u, hp, hb, hF⟩, hce, hcv, hcl, st⟩
  · cases hv
    obtain ⟨k1, k2, k3⟩ := vx_keep h0 e1 hS hA hf hL hF
    obtain ⟨t2, a1, b1⟩ := kk r u t T'.heap (locs ++ L) e1.symm (by rw [← e2]; exact X'.warmed.alike) hp hb k1 k2 k3 T' rfl X'
    exact ⟨t2, st t2 a1, b1⟩
  · obtain ⟨k1, k2, k3⟩ := vx_keep h0 e1 hS hAX hf hL hF
    obtain ⟨t2, a1, b1⟩ := kx E ce q u t T'.heap (locs ++ L) e1.symm (by rw [← e2]; exact X'.warmed.alike) hp hb k1 k2 k3 (by rw [e1]; exact hce) hcv hcl T' rfl X'
    exact ⟨t2, st.trans a1, b1⟩
theorem vx_calll {S SX : Type} {post : Int64 → S → Prop} {px : SX → Prop} {B : S → State → Prop} {BX : String → SX → State → Prop} {AX : Nat → Prop} (hr : vx_Run p l e R s m args below meth c H locs cells slots mc ms (F0 m pc ls st0) rest (va_Ql post B A1 a) (vx_X px BX AX) free) (hS : va_S A0 H0 H locs) (hA : ∀ q, q < H.size → A1 q → A0 q) (hf : ∀ q, free q → A0 q) (hAX : ∀ q, q < H.size → AX q → A0 q)
    (kx : ∀ (E : String) (ce : Cell) (q9 : Addr) (u : SX) (t : State) (H1 : Heap) (locs1 : List Loc), t.heap = H1 → s.vm.Alike t.vm → px u → BX E u t → H.size ≤ H1.size → (∀ q : Nat, q < H.size → ¬ AX q → H1[q]? = H[q]?) → va_S A0 H0 H1 locs1 → H1[q9]? = some ce → ce.vm = .none → s.vm.findClass E = some ce.cls → vx_W p l e R s m args below meth c H1 locs1 (cells + mc) (slots + ms) Q (F0 m pc ls rest) q9)
    (kk : ∀ (r : Int64) (u : S) (t : State) (H1 : Heap) (locs1 : List Loc), t.heap = H1 → s.vm.Alike t.vm → post r u → B u t → H.size ≤ H1.size → (∀ q : Nat, q < H.size → ¬ A1 q → H1[q]? = H[q]?) → va_S A0 H0 H1 locs1 → W p l e R s m args below meth c H1 locs1 (cells + mc) (slots + ms) Q (F0 m (pc + 3) ls (.long r :: rest))) : W p l e R s m args below meth c H locs cells slots Q (F0 m pc ls st0) := by
  intro T hT X
  rcases hr T hT X with ⟨v, st₀, t, T', L, h0, X', hL, e1, e2, ⟨⟨r, u, hv, hp, hb⟩, hF⟩, st⟩ | ⟨q, st₀, t, T', L, E, ce, h0, X', hL, e1, e2, ⟨u, hp, hb, hF⟩, hce, hcv, hcl, st⟩
  · cases hv
    obtain ⟨k1, k2, k3⟩ := vx_keep h0 e1 hS hA hf hL hF
    obtain ⟨t2, a1, b1⟩ := kk r u t T'.heap (locs ++ L) e1.symm (by rw [← e2]; exact X'.warmed.alike) hp hb k1 k2 k3 T' rfl X'
    exact ⟨t2, st t2 a1, b1⟩
  · obtain ⟨k1, k2, k3⟩ := vx_keep h0 e1 hS hAX hf hL hF
    obtain ⟨t2, a1, b1⟩ := kx E ce q u t T'.heap (locs ++ L) e1.symm (by rw [← e2]; exact X'.warmed.alike) hp hb k1 k2 k3 (by rw [e1]; exact hce) hcv hcl T' rfl X'
    exact ⟨t2, st.trans a1, b1⟩
theorem vx_callf {S SX : Type} {post : UInt32 → S → Prop} {px : SX → Prop} {B : S → State → Prop} {BX : String → SX → State → Prop} {AX : Nat → Prop} (hr : vx_Run p l e R s m args below meth c H locs cells slots mc ms (F0 m pc ls st0) rest (va_Qf post B A1 a) (vx_X px BX AX) free) (hS : va_S A0 H0 H locs) (hA : ∀ q, q < H.size → A1 q → A0 q) (hf : ∀ q, free q → A0 q) (hAX : ∀ q, q < H.size → AX q → A0 q)
    (kx : ∀ (E : String) (ce : Cell) (q9 : Addr) (u : SX) (t : State) (H1 : Heap) (locs1 : List Loc), t.heap = H1 → s.vm.Alike t.vm → px u → BX E u t → H.size ≤ H1.size → (∀ q : Nat, q < H.size → ¬ AX q → H1[q]? = H[q]?) → va_S A0 H0 H1 locs1 → H1[q9]? = some ce → ce.vm = .none → s.vm.findClass E = some ce.cls → vx_W p l e R s m args below meth c H1 locs1 (cells + mc) (slots + ms) Q (F0 m pc ls rest) q9)
    (kk : ∀ (r : UInt32) (u : S) (t : State) (H1 : Heap) (locs1 : List Loc), t.heap = H1 → s.vm.Alike t.vm → post r u → B u t → H.size ≤ H1.size → (∀ q : Nat, q < H.size → ¬ A1 q → H1[q]? = H[q]?) → va_S A0 H0 H1 locs1 → W p l e R s m args below meth c H1 locs1 (cells + mc) (slots + ms) Q (F0 m (pc + 3) ls (.float r :: rest))) : W p l e R s m args below meth c H locs cells slots Q (F0 m pc ls st0) := by
  intro T hT X
  rcases hr T hT X with ⟨v, st₀, t, T', L, h0, X', hL, e1, e2, ⟨⟨r, u, hv, hp, hb⟩, hF⟩, st⟩ | ⟨q, st₀, t, T', L, E, ce, h0, X', hL, e1, e2, ⟨u, hp, hb, hF⟩, hce, hcv, hcl, st⟩
  · cases hv
    obtain ⟨k1, k2, k3⟩ := vx_keep h0 e1 hS hA hf hL hF
    obtain ⟨t2, a1, b1⟩ := kk r u t T'.heap (locs ++ L) e1.symm (by rw [← e2]; exact X'.warmed.alike) hp hb k1 k2 k3 T' rfl X'
    exact ⟨t2, st t2 a1, b1⟩
  · obtain ⟨k1, k2, k3⟩ := vx_keep h0 e1 hS hAX hf hL hF
    obtain ⟨t2, a1, b1⟩ := kx E ce q u t T'.heap (locs ++ L) e1.symm (by rw [← e2]; exact X'.warmed.alike) hp hb k1 k2 k3 (by rw [e1]; exact hce) hcv hcl T' rfl X'
    exact ⟨t2, st.trans a1, b1⟩
theorem vx_calld {S SX : Type} {post : UInt64 → S → Prop} {px : SX → Prop} {B : S → State → Prop} {BX : String → SX → State → Prop} {AX : Nat → Prop} (hr : vx_Run p l e R s m args below meth c H locs cells slots mc ms (F0 m pc ls st0) rest (va_Qd post B A1 a) (vx_X px BX AX) free) (hS : va_S A0 H0 H locs) (hA : ∀ q, q < H.size → A1 q → A0 q) (hf : ∀ q, free q → A0 q) (hAX : ∀ q, q < H.size → AX q → A0 q)
    (kx : ∀ (E : String) (ce : Cell) (q9 : Addr) (u : SX) (t : State) (H1 : Heap) (locs1 : List Loc), t.heap = H1 → s.vm.Alike t.vm → px u → BX E u t → H.size ≤ H1.size → (∀ q : Nat, q < H.size → ¬ AX q → H1[q]? = H[q]?) → va_S A0 H0 H1 locs1 → H1[q9]? = some ce → ce.vm = .none → s.vm.findClass E = some ce.cls → vx_W p l e R s m args below meth c H1 locs1 (cells + mc) (slots + ms) Q (F0 m pc ls rest) q9)
    (kk : ∀ (r : UInt64) (u : S) (t : State) (H1 : Heap) (locs1 : List Loc), t.heap = H1 → s.vm.Alike t.vm → post r u → B u t → H.size ≤ H1.size → (∀ q : Nat, q < H.size → ¬ A1 q → H1[q]? = H[q]?) → va_S A0 H0 H1 locs1 → W p l e R s m args below meth c H1 locs1 (cells + mc) (slots + ms) Q (F0 m (pc + 3) ls (.double r :: rest))) : W p l e R s m args below meth c H locs cells slots Q (F0 m pc ls st0) := by
  intro T hT X
  rcases hr T hT X with ⟨v, st₀, t, T', L, h0, X', hL, e1, e2, ⟨⟨r, u, hv, hp, hb⟩, hF⟩, st⟩ | ⟨q, st₀, t, T', L, E, ce, h0, X', hL, e1, e2, ⟨u, hp, hb, hF⟩, hce, hcv, hcl, st⟩
  · cases hv
    obtain ⟨k1, k2, k3⟩ := vx_keep h0 e1 hS hA hf hL hF
    obtain ⟨t2, a1, b1⟩ := kk r u t T'.heap (locs ++ L) e1.symm (by rw [← e2]; exact X'.warmed.alike) hp hb k1 k2 k3 T' rfl X'
    exact ⟨t2, st t2 a1, b1⟩
  · obtain ⟨k1, k2, k3⟩ := vx_keep h0 e1 hS hAX hf hL hF
    obtain ⟨t2, a1, b1⟩ := kx E ce q u t T'.heap (locs ++ L) e1.symm (by rw [← e2]; exact X'.warmed.alike) hp hb k1 k2 k3 (by rw [e1]; exact hce) hcv hcl T' rfl X'
    exact ⟨t2, st.trans a1, b1⟩
theorem vx_callv {S SX : Type} {post : S → Prop} {px : SX → Prop} {B : S → State → Prop} {BX : String → SX → State → Prop} {AX : Nat → Prop} (hr : vx_Run p l e R s m args below meth c H locs cells slots mc ms (F0 m pc ls st0) rest (va_Qv post B A1 a) (vx_X px BX AX) free) (hS : va_S A0 H0 H locs) (hA : ∀ q, q < H.size → A1 q → A0 q) (hf : ∀ q, free q → A0 q) (hAX : ∀ q, q < H.size → AX q → A0 q)
    (kx : ∀ (E : String) (ce : Cell) (q9 : Addr) (u : SX) (t : State) (H1 : Heap) (locs1 : List Loc), t.heap = H1 → s.vm.Alike t.vm → px u → BX E u t → H.size ≤ H1.size → (∀ q : Nat, q < H.size → ¬ AX q → H1[q]? = H[q]?) → va_S A0 H0 H1 locs1 → H1[q9]? = some ce → ce.vm = .none → s.vm.findClass E = some ce.cls → vx_W p l e R s m args below meth c H1 locs1 (cells + mc) (slots + ms) Q (F0 m pc ls rest) q9)
    (kk : ∀ (u : S) (t : State) (H1 : Heap) (locs1 : List Loc), t.heap = H1 → s.vm.Alike t.vm → post u → B u t → H.size ≤ H1.size → (∀ q : Nat, q < H.size → ¬ A1 q → H1[q]? = H[q]?) → va_S A0 H0 H1 locs1 → W p l e R s m args below meth c H1 locs1 (cells + mc) (slots + ms) Q (F0 m (pc + 3) ls (rest))) : W p l e R s m args below meth c H locs cells slots Q (F0 m pc ls st0) := by
  intro T hT X
  rcases hr T hT X with ⟨v, st₀, t, T', L, h0, X', hL, e1, e2, ⟨⟨u, hv, hp, hb⟩, hF⟩, st⟩ | ⟨q, st₀, t, T', L, E, ce, h0, X', hL, e1, e2, ⟨u, hp, hb, hF⟩, hce, hcv, hcl, st⟩
  · cases hv
    obtain ⟨k1, k2, k3⟩ := vx_keep h0 e1 hS hA hf hL hF
    obtain ⟨t2, a1, b1⟩ := kk u t T'.heap (locs ++ L) e1.symm (by rw [← e2]; exact X'.warmed.alike) hp hb k1 k2 k3 T' rfl X'
    exact ⟨t2, st t2 a1, b1⟩
  · obtain ⟨k1, k2, k3⟩ := vx_keep h0 e1 hS hAX hf hL hF
    obtain ⟨t2, a1, b1⟩ := kx E ce q u t T'.heap (locs ++ L) e1.symm (by rw [← e2]; exact X'.warmed.alike) hp hb k1 k2 k3 (by rw [e1]; exact hce) hcv hcl T' rfl X'
    exact ⟨t2, st.trans a1, b1⟩
/-- caught by the row x of this method's table; the rows ahead don't take it -/
theorem vx_catch {own name : String} {E : String} {ce : Cell} {q : Addr} (hown : s.vm.findClass own = some m.cls) (pre : List ExceptionTableEntry) (x : ExceptionTableEntry) (suf : List ExceptionTableEntry) (hsplit : c.exceptionTable.toList = pre ++ x :: suf)
    (hpass : ∀ z ∈ pre, covers z pc = false ∨ (z.catchType ≠ 0 ∧ ∃ nm : String, (Cond.classLink own z.catchType nm).before args s = true ∧ va_Nc E nm s)) (hx : covers x pc = true) (h0 : x.catchType ≠ 0)
    (hlink : (Cond.classLink own x.catchType name).before args s = true) (hcast : (Cond.castable E name).before args s = true) (hcell : H[q]? = some ce) (hv : ce.vm = .none) (hcl : s.vm.findClass E = some ce.cls)
    (kk : W p l e R s m args below meth c H locs cells slots Q (F0 m x.handlerPc ls [.ref q])) : vx_W p l e R s m args below meth c H locs cells slots Q (F0 m pc ls rest) q := by
  intro T hT X
  have hpl : e.platform.magicAccessors = ({} : Platform).magicAccessors := by rw [X.admits.platform]
  obtain ⟨c3, c4, hc3, hc4, hasg⟩ := Cond.castable_spec hcast
  cases Option.some.inj (hc3.symm.trans hcl)
  obtain ⟨c5, hc5, hcl5⟩ := Cond.classLink_spec hown hlink e.platform hpl
  cases Option.some.inj (hc4.symm.trans hc5)
  obtain ⟨vm', X', st⟩ := X.thenCaughtThrough q (g := F0 m pc ls rest) rfl (Steps.refl _) (by rw [hT]; exact hcell) (by rw [hv]; rfl) (by obtain ⟨k9, h9, -⟩ := Vm.findClass_spec hcl; exact ⟨k9, h9⟩) pre x suf hsplit
    (fun z hz => by
      rcases hpass z hz with h | ⟨hz0, nm, hl1, hn1⟩
      · exact Or.inl h
      · obtain ⟨c6, hc6, hcl6⟩ := Cond.classLink_spec hown hl1 e.platform hpl
        obtain ⟨a8, b8, h1, h2, h3⟩ := hn1
        cases Option.some.inj (h1.symm.trans hcl)
        cases Option.some.inj (h2.symm.trans hc6)
        exact Or.inr ⟨hz0, _, hcl6, h3⟩) hx (Or.inr ⟨h0, c4, hcl5, hasg⟩)
  obtain ⟨t, a1, b1⟩ := kk (T.setVm vm') hT X'
  exact ⟨t, st.trans a1, b1⟩
end Rows
section Ends
variable {p : Program} {l : Launch} {e : Env} {R : Room} {s : State} {m : MethodId} {args : Array Value} {below : List Frame} {meth : Method} {c : Code} {H : Heap} {locs : List Loc} {cells slots : Nat} {Q : State → Prop}
variable {mc ms : Nat} {free : Addr → Prop} {A0 A1 : Nat → Prop} {H0 : Heap} {a : Array Value} {ls : Array Slot} {st0 rest : List Value}
variable {Qc : Array Value → State → Outcome → State → Prop} {XC : String → State → State → Prop}
/-- what a body that may throw owes at its end -/
def vx_MQ (below : List Frame) (Qc : Array Value → State → Outcome → State → Prop) (XC : String → State → State → Prop) (a : Array Value) (s : State) (mc ms : Nat) (free : Addr → Prop) : State → Prop := fun t =>
  ∃ o, t.status = .running ∧ Ended t below o ∧ vx_Q Qc XC mc ms free a s o t
theorem vx_ret {g : JFrame} {mc ms : Nat} (k : W p l e R s m args below meth c H locs cells slots (MQ below Qc args s mc ms free) g) : W p l e R s m args below meth c H locs cells slots (vx_MQ below Qc XC args s mc ms free) g := by
  intro T hT X
  obtain ⟨t, a1, o, b1, b2, b3, b4⟩ := k T hT X
  exact ⟨t, a1, o, b1, b2, Or.inl ⟨b3, b4⟩⟩
/-- not caught here: it goes on to the caller -/
theorem vx_widen {g : JFrame} {q : Addr} {k n : Nat} (h1 : cells ≤ k) (h2 : slots ≤ n) (kk : vx_W p l e R s m args below meth c H locs k n Q g q) : vx_W p l e R s m args below meth c H locs cells slots Q g q := fun T hT X => kk T hT (stand_widen X h1 h2)
theorem vx_out {pc : Nat} {E : String} {ce : Cell} {q : Addr} {mc ms : Nat} (hout : ∀ x ∈ c.exceptionTable.toList, covers x pc = false) (hlocks : meth.locks = false) (hcell : H[q]? = some ce) (hv : ce.vm = .none) (hcl : s.vm.findClass E = some ce.cls)
    (hx : ∀ t : State, t.heap = H → s.vm.Alike t.vm → XC E s t) (hf : ∀ z ∈ locs, free z.base) (hc : cells ≤ mc) (hs : slots ≤ ms) :
    vx_W p l e R s m args below meth c H locs cells slots (vx_MQ below Qc XC args s mc ms free) (F0 m pc ls rest) q := by
  intro T hT X
  obtain ⟨st1, hrun, hend, hW, hsm⟩ := X.leaveThrown q (g := F0 m pc ls rest) rfl rfl rfl hout hlocks
  have hcell9 : (T.setFrames (.throwing q :: below)).heap[q]? = some ce := by
    show T.heap[q]? = some ce
    rw [hT]; exact hcell
  exact ⟨_, st1, .threw q, hrun, hend, Or.inr ⟨q, rfl, E, ce, locs, hx _ hT hW.alike, hcell9, hv, hcl, hW, hsm.mono hc hs, hf⟩⟩
theorem vx_frame {U : State} {k n : Nat} (h : s.sameButNew ({ U with vm := s.vm } : State) locs k n) : s.heap.size ≤ U.heap.size ∧ ∀ q : Nat, q < s.heap.size → (∀ z ∈ locs, z.base ≠ q) → U.heap[q]? = s.heap[q]? := by
  obtain ⟨-, h2, -, -, -, h6⟩ := h
  refine ⟨h2, fun q hq hz => ?_⟩
  obtain ⟨c9, e1, e2, e3, e4⟩ := h6 q _ (Array.getElem?_eq_getElem hq)
  have hs : c9.slots = (s.heap[q]).slots := Array.ext_getElem? fun i => e4 i fun hm => hz _ hm rfl
  have h9 : c9 = s.heap[q] := by
    rw [hs] at e2
    exact e2
  have e5 : U.heap[q]? = some c9 := e1
  rw [e5, h9, Array.getElem?_eq_getElem hq]
/-- the words of a throw but the four that speak of the heap -/
def vx_no (w : Cond) : Bool := decide (w ≠ .isRef (.static Bundle.tN "UNASSIGNED_STACK" Bundle.steD)) && decide (w ≠ .isRef (.static Bundle.tN "SUPPRESSED_SENTINEL" Bundle.listD)) && decide (w ≠ .laysStatic Bundle.tN "UNASSIGNED_STACK" Bundle.steD) && decide (w ≠ .laysStatic Bundle.tN "SUPPRESSED_SENTINEL" Bundle.listD)
def vx_at0 (own : String) (ic : Nat) (X : String) (names : List String) : List Cond := (Bundle.ownAtoms0 own ic X names).filter vx_no
def vx_atS (own : String) (ic : Nat) (X : String) (names : List String) : List Cond := (Bundle.ownAtoms own ic X names).filter vx_no
/-- a word that the tables alone decide, or a good one -/
def vx_ot (w : Cond) : Bool := w.onTables || goodWord w
theorem vx_ot_at {args a' : Array Value} {s U : State} {w : Cond} (hW : s.WarmedH U.vm) (hvm : s.vm = U.vm) (hg : vx_ot w = true) (h : w.before args s = true) : w.before a' U = true := by
  simp only [vx_ot, Bool.or_eq_true] at hg
  rcases hg with hg | hg
  · exact va_tabs hg hvm h
  · exact word_at hW (good_of_word hg) h
/-- a list's words: the good ones out of the method's own list, the others by premises of their own -/
theorem vx_hat {args : Array Value} {s : State} {L B : List Cond} (h1 : ∀ w ∈ L.filter goodWord, w.before args s = true) (h2 : ∀ w ∈ L.filter (fun w => !goodWord w), w ∈ B) (h3 : ∀ w ∈ B, w.before args s = true) : ∀ w ∈ L, w.before args s = true := by
  intro w hw
  by_cases g : goodWord w = true
  · exact h1 w (List.mem_filter.mpr ⟨hw, g⟩)
  · refine h3 w (h2 w (List.mem_filter.mpr ⟨hw, ?_⟩))
    show (!goodWord w) = true
    cases hgw : goodWord w
    · rfl
    · exact absurd hgw g
theorem vx_c {args : Array Value} {s : State} {w : Cond} {B : List Cond} (h : w.before args s = true) (t : ∀ w ∈ B, w.before args s = true) : ∀ w' ∈ w :: B, w'.before args s = true := fun w' h' => (List.mem_cons.mp h').elim (fun e => by rw [e]; exact h) (t w')
theorem vx_n {args : Array Value} {s : State} : ∀ w ∈ ([] : List Cond), w.before args s = true := fun _ h => nomatch h
theorem vx_own {args : Array Value} {s : State} {L : List Cond} (h1 : ∀ w ∈ L.filter vx_no, w.before args s = true)
    (hU : (Cond.isRef (.static Bundle.tN "UNASSIGNED_STACK" Bundle.steD)).before args s = true) (hN : (Cond.isRef (.static Bundle.tN "SUPPRESSED_SENTINEL" Bundle.listD)).before args s = true)
    (lU : (Cond.laysStatic Bundle.tN "UNASSIGNED_STACK" Bundle.steD).before args s = true) (lN : (Cond.laysStatic Bundle.tN "SUPPRESSED_SENTINEL" Bundle.listD).before args s = true) : ∀ w ∈ L, w.before args s = true := by
  intro w hw
  by_cases e1 : w = .isRef (.static Bundle.tN "UNASSIGNED_STACK" Bundle.steD)
  · rw [e1]; exact hU
  · by_cases e2 : w = .isRef (.static Bundle.tN "SUPPRESSED_SENTINEL" Bundle.listD)
    · rw [e2]; exact hN
    · by_cases e3 : w = .laysStatic Bundle.tN "UNASSIGNED_STACK" Bundle.steD
      · rw [e3]; exact lU
      · by_cases e4 : w = .laysStatic Bundle.tN "SUPPRESSED_SENTINEL" Bundle.listD
        · rw [e4]; exact lN
        · exact h1 w (List.mem_filter.mpr ⟨hw, by unfold vx_no; rw [decide_eq_true e1, decide_eq_true e2, decide_eq_true e3, decide_eq_true e4]; rfl⟩)
/-- where a static field lies, its class's statics cell in H -/
def vx_L (C n d : String) (A : Nat → Prop) (U : State) (H : Heap) : Prop := ∃ (c : ClassId) (k : Class) (i : Nat) (f : Field) (a : Nat) (cell : Cell), U.vm.findClass C = some c ∧ U.fieldFound? C n d = some (c, k, i, f) ∧ f.isStatic = true ∧ k.statics = some a ∧ H[a]? = some cell ∧ cell.vm.isStatics = true ∧ cell.cls = c ∧ f.slot < cell.slots.size ∧ k.staticTypes[f.slot]? = some f.type ∧ ¬ A a
theorem vx_L.moved {C n d : String} {A : Nat → Prop} {u U : State} {H : Heap} (hvm : u.vm.Alike U.vm) (h : vx_L C n d A u H) : vx_L C n d A U H := by
  obtain ⟨c, k, i, f, a, cell, h1, h2, h3, h4, h5, h6, h7, h8, h9, h10⟩ := h
  obtain ⟨k', hi', he⟩ := State.fieldFound?_setVm hvm h2
  exact ⟨c, k', i, f, a, cell, by rw [hvm.findClass]; exact h1, hi', h3, by rw [he]; exact h4, h5, h6, h7, h8, by rw [he]; exact h9, h10⟩
theorem vx_L.kept {C n d : String} {A : Nat → Prop} {U : State} {H H1 : Heap} (h : vx_L C n d A U H) (hq : ∀ a : Nat, a < H.size → ¬ A a → H1[a]? = H[a]?) : vx_L C n d A U H1 := by
  obtain ⟨c, k, i, f, a, cell, h1, h2, h3, h4, h5, h6, h7, h8, h9, h10⟩ := h
  exact ⟨c, k, i, f, a, cell, h1, h2, h3, h4, by rw [hq a (Array.getElem?_eq_some_iff.mp h5).1 h10]; exact h5, h6, h7, h8, h9, h10⟩
theorem vx_L.narrow {C n d : String} {A B : Nat → Prop} {U : State} {H : Heap} (h : vx_L C n d A U H) (hAB : ∀ q, B q → A q) : vx_L C n d B U H := by
  obtain ⟨c, k, i, f, a, cell, h1, h2, h3, h4, h5, h6, h7, h8, h9, h10⟩ := h
  exact ⟨c, k, i, f, a, cell, h1, h2, h3, h4, h5, h6, h7, h8, h9, fun z => h10 (hAB _ z)⟩
theorem vx_L.word {C n d : String} {A : Nat → Prop} {s : State} {args : Array Value} (h : vx_L C n d A s s.heap) : (Cond.laysStatic C n d).before args s = true := by
  obtain ⟨c, k, i, f, a, cell, h1, h2, h3, h4, h5, h6, h7, h8, h9, -⟩ := h
  show (Cond.laysStatic C n d).holds args s none s [] = true
  exact Cond.laysStatic_of h1 h2 h3 h4 h5 h6 h7 h8 h9
/-- .. and what it holds: null or some reference -/
def vx_Zq (C n d : String) (A : Nat → Prop) (U : State) (H : Heap) : Prop := va_Zq C n d A U H ∧ vx_L C n d A U H
theorem vx_Zq.moved {C n d : String} {A : Nat → Prop} {u U : State} {H : Heap} (hvm : u.vm.Alike U.vm) (h : vx_Zq C n d A u H) : vx_Zq C n d A U H := ⟨va_Zq.moved hvm h.1, vx_L.moved hvm h.2⟩
theorem vx_Zq.kept {C n d : String} {A : Nat → Prop} {U : State} {H H1 : Heap} (h : vx_Zq C n d A U H) (hq : ∀ a : Nat, a < H.size → ¬ A a → H1[a]? = H[a]?) : vx_Zq C n d A U H1 := ⟨va_Zq.kept h.1 hq, vx_L.kept h.2 hq⟩
theorem vx_Zq.narrow {C n d : String} {A B : Nat → Prop} {U : State} {H : Heap} (h : vx_Zq C n d A U H) (hAB : ∀ q, B q → A q) : vx_Zq C n d B U H := ⟨va_Zq.narrow h.1 hAB, vx_L.narrow h.2 hAB⟩
theorem vx_Zqof {args : Array Value} {s : State} {C n d : String} {A : Nat → Prop} (hl : (Cond.laysStatic C n d).before args s = true) (hini : (Cond.initialized C).before args s = true) (h : (Cond.isRef (.static C n d)).before args s = true) (hA : ∀ a : Nat, a < s.heap.size → ¬ A a) : vx_Zq C n d A s s.heap := by
  refine ⟨va_Zqof hl hini h hA, ?_⟩
  obtain ⟨c, k, i, f, a, cell, h1, h2, h3, h4, h5, h6, h7, h8, h9⟩ := Cond.laysStatic_spec hl
  exact ⟨c, k, i, f, a, cell, h1, h2, h3, h4, h5, h6, h7, h8, h9, hA a (Array.getElem?_eq_some_iff.mp h5).1⟩
theorem vx_isRef {C n d : String} {v : Value} {A : Nat → Prop} {s : State} {args : Array Value} (h : va_Z C n d v A s s.heap) (hv : v.isRef = true) : (Cond.isRef (.static C n d)).before args s = true := by
  obtain ⟨cf, kf, fi, f, a, cell, h1, h2, h3, h4, h5, h6, h7, -⟩ := h
  have he : (Term.static C n d).eval args s none [] s = some v := by
    simp [Term.eval, State.fieldNamed?, h1, h2, h4, h5, h6, h7]
  simp only [Cond.before, Cond.holds, Cond.value, he]
  cases v <;> simp_all [Value.isRef]
theorem vx_isRefq {C n d : String} {A : Nat → Prop} {s : State} {args : Array Value} (h : va_Zq C n d A s s.heap) : (Cond.isRef (.static C n d)).before args s = true := by
  rcases h with h | ⟨t, h⟩
  · exact vx_isRef h rfl
  · exact vx_isRef h rfl
/-- the same frame, seen from here: as if the method were called anew in this heap -/
theorem vx_rebase {T : State} (X : Stand p l e R s m args below meth c T locs cells slots) {R' : Room} (hf : R'.frames ≤ R.frames) (hl : R'.locals ≤ R.locals) (hc : cells + R'.cells ≤ R.cells) (hs : slots + R'.slots ≤ R.slots) :
    Stand p l e R' ((T.setVm s.vm).setFrames (.invoking m args :: below)) m args below meth c T [] 0 0 := by
  have htop : (T.setVm s.vm).topJava?.isSome := X.here.top
  have hF : ((T.setVm s.vm).setFrames (.invoking m args :: below)).frames = .invoking m args :: below := State.frames_setFrames _ (State.cur_lt_of_top htop)
  obtain ⟨g₀, hg0⟩ := Option.isSome_iff_exists.mp htop
  obtain ⟨r, hr⟩ := State.topJava?_eq_some.mp hg0
  have hl9 : e.platform.stackLimits (T.setVm s.vm).me = e.platform.stackLimits s.me := X.limits
  have hb9 : (T.setVm s.vm).me.stackBytes = s.me.stackBytes := X.bytes
  refine ⟨X.admits, X.cas, X.clock, hF, ?_, X.hears, X.method, X.code, X.here, X.tail, X.warmed, ?_, ?_, ?_⟩
  · have h := X.room
    have hU : ((T.setVm s.vm).setFrames (.invoking m args :: below)).localsInUse = s.localsInUse := by
      rw [State.localsInUse_invoking hF (meth := meth) (c := c) X.method X.code, State.localsInUse_invoking X.frames X.method X.code]
    simp only [State.hasRoom, Bool.and_eq_true, decide_eq_true_eq] at h ⊢
    obtain ⟨⟨⟨⟨h1, h2, h3, h4, h5, h6⟩, h7⟩, h8⟩, h9⟩ := h
    rw [X.frames, List.length_cons] at h2 h3
    have q1 := X.heapSize
    have q2 := X.used
    simp only [hF, hU, List.length_cons, State.stackLimits_setFrames, State.stackBytes_setFrames, hl9, hb9]
    refine ⟨⟨⟨⟨by omega, by omega, by omega, by omega, by omega, h6⟩, ?_⟩, ?_⟩, X.book⟩
    · show T.heap.size + R'.cells ≤ e.platform.maxCells
      omega
    · show T.slotsUsed + R'.slots ≤ e.platform.maxSlots
      omega
  · rw [State.stackLimits_setFrames]; rfl
  · rw [State.stackBytes_setFrames]; rfl
  · refine ⟨?_, Nat.le_refl _, Nat.le_refl _, ?_, ?_, fun a c9 h9 => ⟨c9, h9, rfl, rfl, fun _ _ => rfl⟩⟩
    · obtain ⟨t, ht, -⟩ := State.frames_cons hr
      show T.setVm s.vm = { ((T.setVm s.vm).setFrames (.invoking m args :: below)).setFrames (T.setVm s.vm).frames with heap := T.heap, slotsUsed := T.slotsUsed }
      rw [State.setFrames_setFrames, State.setFrames_self ht]
      rfl
    · show T.slotsUsed = T.slotsUsed + ((T.heap.toList.drop T.heap.size).map (·.slots.size)).sum
      rw [List.drop_eq_nil_of_le (Nat.le_of_eq Array.length_toList)]
      rfl
    · show ((T.heap.toList.drop T.heap.size).map (·.slots.size)).sum ≤ 0
      rw [List.drop_eq_nil_of_le (Nat.le_of_eq Array.length_toList)]
      exact Nat.le_refl _
/-- 'throw new E()': new; dup; invokespecial; athrow -/
theorem vx_throw0 {cc : ByteArray} {pc : Nat} (hexec : p.tables.exec = Jvm.exec) (hb : c.code = cc) (hl : l.stackTraces = false) {own cls : String} {names : List String} {ik ic mc ms : Nat} {A : Nat → Prop}
    (hown : s.vm.findClass own = some m.cls) (hcls : Bundle.fit cls = true) (hnames : ∀ n ∈ names, Bundle.fit n = true)
    (hk : (Cond.classLink own ik cls).before args s = true) (hini : (Cond.initialized cls).before args s = true) (hat : ∀ w ∈ vx_at0 own ic cls names, w.before args s = true)
    (hgood : ∀ w ∈ Cond.classLink own ik cls :: Cond.initialized cls :: vx_at0 own ic cls names, vx_ot w = true)
    (hU : vx_Zq Bundle.tN "UNASSIGNED_STACK" Bundle.steD A s s.heap) (hN : vx_Zq Bundle.tN "SUPPRESSED_SENTINEL" Bundle.listD A s s.heap) (hS : va_S A s.heap H locs) (hsize : ls.size = c.maxLocals)
    (d0 : decode cc pc = .ok (.new ik, 3)) (d3 : decode cc (pc + 3) = .ok (.dup, 1)) (d4 : decode cc (pc + 4) = .ok (.invokespecial ic, 3)) (d7 : decode cc (pc + 7) = .ok (.athrow, 1))
    (hout : ∀ x ∈ c.exceptionTable.toList, covers x (pc + 7) = false)
    (hRframes : names.length + 3 < R.frames) (hRlocals : (rest.map fun v => v.category).sum + (13 * (names.length + 1) + 42) ≤ R.locals) (hRcells : cells + 1 ≤ R.cells) (hRslots : slots + 6 ≤ R.slots) (hlocks : meth.locks = false)
    (hx : ∀ t : State, s.vm.Alike t.vm → H.size ≤ t.heap.size → (∀ q : Nat, q < H.size → t.heap[q]? = H[q]?) → XC cls s t)
    (hf : ∀ z ∈ locs, free z.base) (hc : cells + 1 ≤ mc) (hs : slots + 6 ≤ ms) :
    W p l e R s m args below meth c H locs cells slots (vx_MQ below Qc XC args s mc ms free) (F0 m pc ls rest) := by
  intro T hT X
  have htr : e.platform.stackTraces = false := (show e.platform.stackTraces = l.stackTraces by rw [X.admits.platform]).trans hl
  have Y := vx_rebase X (R' := { frames := R.frames, locals := R.locals, cells := 1, slots := 6 }) (Nat.le_refl _) (Nat.le_refl _) hRcells hRslots
  obtain ⟨s', hA⟩ : ∃ z, z = (T.setVm s.vm).setFrames (.invoking m args :: below) := ⟨_, rfl⟩
  rw [← hA] at Y
  have hvm : s'.vm = s.vm := by rw [hA]; rfl
  have hhp : s'.heap = H := by rw [hA]; exact hT
  have hW0 : s.WarmedH s'.vm := by rw [hvm]; exact State.WarmedH.refl s
  have hat' : ∀ w ∈ vx_at0 own ic cls names, w.before args s' = true := fun w hw => vx_ot_at hW0 hvm.symm (hgood w (List.mem_cons_of_mem _ (List.mem_cons_of_mem _ hw))) (hat w hw)
  have hk' : (Cond.classLink own ik cls).before args s' = true := vx_ot_at hW0 hvm.symm (hgood _ List.mem_cons_self) hk
  have hini' : (Cond.initialized cls).before args s' = true := vx_ot_at hW0 hvm.symm (hgood _ (List.mem_cons_of_mem _ List.mem_cons_self)) hini
  have hU' : vx_Zq Bundle.tN "UNASSIGNED_STACK" Bundle.steD A s' s'.heap := by rw [hhp]; exact vx_Zq.moved hW0.alike (hU.kept hS.2.1)
  have hN' : vx_Zq Bundle.tN "SUPPRESSED_SENTINEL" Bundle.listD A s' s'.heap := by rw [hhp]; exact vx_Zq.moved hW0.alike (hN.kept hS.2.1)
  have h : ∀ w ∈ Bundle.ownAtoms0 own ic cls names, w.before args s' = true := vx_own hat' (vx_isRefq hU'.1) (vx_isRefq hN'.1) hU'.2.word hN'.2.word
  have hown' : s'.vm.findClass own = some m.cls := by rw [hvm]; exact hown
  have hins : (Cond.instantiable cls 6).before args s' = true := h _ (by simp [Bundle.ownAtoms0])
  obtain ⟨vm₁, cX, kX, hfX, hkX, -, -, X₁, st1⟩ := Y.newCold hexec (own := own) (C := cls) (index := ik) (n := 6) hown' hk' hins hini'
    (g := F0 m pc ls rest) rfl (by rw [hb]; exact d0) (Nat.le_refl _) (Nat.le_refl _)
  generalize hT1 : (T.setVm vm₁).pushCell { cls := cX, slots := kX.instanceTypes.map defaultValue, vm := .none } = T1 at X₁ st1
  have hcat : (Value.ref T.heap.size).category = 1 := rfl
  have hcellA : T1.heap[T.heap.size]? = some (freshCell cX kX) := by rw [← hT1]; exact State.heap_pushCell_size _ _
  have d3' : decode c.code (pc + 3) = .ok (.dup, 1) := by rw [hb]; exact d3
  obtain ⟨U, hsteps, hrun, hend, hW, hsame, ce, hce, hO⟩ := X₁.ctorThrow0 hexec htr (own := own) (cls := cls) (names := names) (ic := ic) hown' hcls hnames h (fun x hx => nomatch hx) hfX hkX hcellA (by rw [hhp, hT]; exact Nat.le_refl _)
    (g := { method := m, pc := pc + 4, locals := ls, stack := .ref T.heap.size :: .ref T.heap.size :: rest, locked := none }) rfl hsize rfl rfl (rest := rest) rfl
    (by rw [hb]; exact d4) (by rw [hb]; exact d7) hout hRframes (by simp only [List.map_cons, List.sum_cons, hcat]; omega) hlocks
  obtain ⟨f1, f2⟩ := vx_frame hsame
  rw [hhp] at f1 f2
  have hWs : s.WarmedH U.vm := State.WarmedH.trans hW0 hW
  have hcl : s.vm.findClass cls = some ce.cls := by
    have h9 := hO.cls
    rw [hvm] at h9
    exact h9
  have hall : s.sameButNew ({ U with vm := s.vm } : State) locs mc ms := by
    subst hA
    obtain ⟨e1, e2⟩ := hsame
    rw [State.setFrames_setFrames] at e1
    have h2 : (T.setVm s.vm).sameButNew ({ U with vm := s.vm } : State) [] (0 + 1) (0 + 6) := ⟨e1, e2⟩
    have h3 := X.same.trans h2
    rw [List.append_nil] at h3
    exact h3.mono hc hs
  refine ⟨U, ?_, .threw T.heap.size, hrun, hend, Or.inr ⟨T.heap.size, rfl, cls, ce, locs, hx U hWs.alike f1 (fun q hq => f2 q hq (fun z hz => nomatch hz)), hce, hO.vm, hcl, hWs, hall, hf⟩⟩
  refine st1 _ ?_
  show Steps p.tables e below (T1.setTop { method := m, pc := pc + 3, locals := ls, stack := .ref T.heap.size :: rest, locked := none }) _
  jvm_step X₁.here [X₁.here.top, hexec, d3', Value.category]
  exact hsteps
/-- 'throw new E("text")': new; dup; ldc; invokespecial; athrow -/
theorem vx_throwS {cc : ByteArray} {pc : Nat} (hexec : p.tables.exec = Jvm.exec) (hb : c.code = cc) (hl : l.stackTraces = false) {own cls text : String} {names : List String} {ik is ic mc ms sa : Nat} {A : Nat → Prop}
    (hown : s.vm.findClass own = some m.cls) (hcls : Bundle.fit cls = true) (hnames : ∀ n ∈ names, Bundle.fit n = true)
    (hk : (Cond.classLink own ik cls).before args s = true) (hini : (Cond.initialized cls).before args s = true) (hstr : vk_R own is text sa s) (hat : ∀ w ∈ vx_atS own ic cls names, w.before args s = true)
    (hgood : ∀ w ∈ Cond.classLink own ik cls :: Cond.initialized cls :: vx_atS own ic cls names, vx_ot w = true)
    (hU : vx_Zq Bundle.tN "UNASSIGNED_STACK" Bundle.steD A s s.heap) (hN : vx_Zq Bundle.tN "SUPPRESSED_SENTINEL" Bundle.listD A s s.heap) (hS : va_S A s.heap H locs) (hsize : ls.size = c.maxLocals)
    (d0 : decode cc pc = .ok (.new ik, 3)) (d3 : decode cc (pc + 3) = .ok (.dup, 1)) (d4 : decode cc (pc + 4) = .ok (.ldc is, 2)) (d6 : decode cc (pc + 6) = .ok (.invokespecial ic, 3)) (d9 : decode cc (pc + 9) = .ok (.athrow, 1))
    (hout : ∀ x ∈ c.exceptionTable.toList, covers x (pc + 9) = false)
    (hRframes : names.length + 3 < R.frames) (hRlocals : (rest.map fun v => v.category).sum + (13 * (names.length + 1) + 43) ≤ R.locals) (hRcells : cells + 1 ≤ R.cells) (hRslots : slots + 6 ≤ R.slots) (hlocks : meth.locks = false)
    (hx : ∀ t : State, s.vm.Alike t.vm → H.size ≤ t.heap.size → (∀ q : Nat, q < H.size → t.heap[q]? = H[q]?) → XC cls s t)
    (hf : ∀ z ∈ locs, free z.base) (hc : cells + 1 ≤ mc) (hs : slots + 6 ≤ ms) :
    W p l e R s m args below meth c H locs cells slots (vx_MQ below Qc XC args s mc ms free) (F0 m pc ls rest) := by
  intro T hT X
  have htr : e.platform.stackTraces = false := (show e.platform.stackTraces = l.stackTraces by rw [X.admits.platform]).trans hl
  have Y := vx_rebase X (R' := { frames := R.frames, locals := R.locals, cells := 1, slots := 6 }) (Nat.le_refl _) (Nat.le_refl _) hRcells hRslots
  obtain ⟨s', hA⟩ : ∃ z, z = (T.setVm s.vm).setFrames (.invoking m args :: below) := ⟨_, rfl⟩
  rw [← hA] at Y
  have hvm : s'.vm = s.vm := by rw [hA]; rfl
  have hhp : s'.heap = H := by rw [hA]; exact hT
  have hW0 : s.WarmedH s'.vm := by rw [hvm]; exact State.WarmedH.refl s
  have hat' : ∀ w ∈ vx_atS own ic cls names, w.before args s' = true := fun w hw => vx_ot_at hW0 hvm.symm (hgood w (List.mem_cons_of_mem _ (List.mem_cons_of_mem _ hw))) (hat w hw)
  have hk' : (Cond.classLink own ik cls).before args s' = true := vx_ot_at hW0 hvm.symm (hgood _ List.mem_cons_self) hk
  have hini' : (Cond.initialized cls).before args s' = true := vx_ot_at hW0 hvm.symm (hgood _ (List.mem_cons_of_mem _ List.mem_cons_self)) hini
  have hU' : vx_Zq Bundle.tN "UNASSIGNED_STACK" Bundle.steD A s' s'.heap := by rw [hhp]; exact vx_Zq.moved hW0.alike (hU.kept hS.2.1)
  have hN' : vx_Zq Bundle.tN "SUPPRESSED_SENTINEL" Bundle.listD A s' s'.heap := by rw [hhp]; exact vx_Zq.moved hW0.alike (hN.kept hS.2.1)
  have h : ∀ w ∈ Bundle.ownAtoms own ic cls names, w.before args s' = true := vx_own hat' (vx_isRefq hU'.1) (vx_isRefq hN'.1) hU'.2.word hN'.2.word
  have hown' : s'.vm.findClass own = some m.cls := by rw [hvm]; exact hown
  have hins : (Cond.instantiable cls 6).before args s' = true := h _ (by simp [Bundle.ownAtoms])
  obtain ⟨vm₁, cX, kX, hfX, hkX, -, -, X₁, st1⟩ := Y.newCold hexec (own := own) (C := cls) (index := ik) (n := 6) hown' hk' hins hini'
    (g := F0 m pc ls rest) rfl (by rw [hb]; exact d0) (Nat.le_refl _) (Nat.le_refl _)
  generalize hT1 : (T.setVm vm₁).pushCell { cls := cX, slots := kX.instanceTypes.map defaultValue, vm := .none } = T1 at X₁ st1
  have hcat : (Value.ref T.heap.size).category = 1 := rfl
  have hcellA : T1.heap[T.heap.size]? = some (freshCell cX kX) := by rw [← hT1]; exact State.heap_pushCell_size _ _
  have d3' : decode c.code (pc + 3) = .ok (.dup, 1) := by rw [hb]; exact d3
  have d4' : decode c.code (pc + 4) = .ok (.ldc is, 2) := by rw [hb]; exact d4
  have hstr' : vk_R own is text sa s' := vk_R.warm hW0 hstr
  obtain ⟨U, hsteps, hrun, hend, hW, hsame, ce, hce, hO⟩ := X₁.ctorThrowS hexec htr (own := own) (cls := cls) (names := names) (ic := ic) hown' hcls hnames h (fun x hx => nomatch hx) hfX hkX hcellA (by rw [hhp, hT]; exact Nat.le_refl _) (msg := .ref sa) rfl
    (g := { method := m, pc := pc + 6, locals := ls, stack := .ref sa :: .ref T.heap.size :: .ref T.heap.size :: rest, locked := none }) rfl hsize rfl rfl (rest := rest) rfl
    (by rw [hb]; exact d6) (by rw [hb]; exact d9) hout hRframes (by simp only [List.map_cons, List.sum_cons, hcat]; omega) hlocks
  obtain ⟨f1, f2⟩ := vx_frame hsame
  rw [hhp] at f1 f2
  have hWs : s.WarmedH U.vm := State.WarmedH.trans hW0 hW
  have hcl : s.vm.findClass cls = some ce.cls := by
    have h9 := hO.cls
    rw [hvm] at h9
    exact h9
  have hall : s.sameButNew ({ U with vm := s.vm } : State) locs mc ms := by
    subst hA
    obtain ⟨e1, e2⟩ := hsame
    rw [State.setFrames_setFrames] at e1
    have h2 : (T.setVm s.vm).sameButNew ({ U with vm := s.vm } : State) [] (0 + 1) (0 + 6) := ⟨e1, e2⟩
    have h3 := X.same.trans h2
    rw [List.append_nil] at h3
    exact h3.mono hc hs
  refine ⟨U, ?_, .threw T.heap.size, hrun, hend, Or.inr ⟨T.heap.size, rfl, cls, ce, locs, hx U hWs.alike f1 (fun q hq => f2 q hq (fun z hz => nomatch hz)), hce, hO.vm, hcl, hWs, hall, hf⟩⟩
  refine st1 _ ?_
  show Steps p.tables e below (T1.setTop { method := m, pc := pc + 3, locals := ls, stack := .ref T.heap.size :: rest, locked := none }) _
  jvm_step X₁.here [X₁.here.top, hexec, d3', Value.category]
  exact X₁.ldcString hexec (own := own) (text := text) (index := is) (a := sa) hown' hstr'.1 hstr'.2
    (g := { method := m, pc := pc + 4, locals := ls, stack := .ref T.heap.size :: .ref T.heap.size :: rest, locked := none }) rfl d4' _ hsteps
/-- 'throw new E("text")', the text by a wide index -/
theorem vx_throwSW {cc : ByteArray} {pc : Nat} (hexec : p.tables.exec = Jvm.exec) (hb : c.code = cc) (hl : l.stackTraces = false) {own cls text : String} {names : List String} {ik is ic mc ms sa : Nat} {A : Nat → Prop}
    (hown : s.vm.findClass own = some m.cls) (hcls : Bundle.fit cls = true) (hnames : ∀ n ∈ names, Bundle.fit n = true)
    (hk : (Cond.classLink own ik cls).before args s = true) (hini : (Cond.initialized cls).before args s = true) (hstr : vk_R own is text sa s) (hat : ∀ w ∈ vx_atS own ic cls names, w.before args s = true)
    (hgood : ∀ w ∈ Cond.classLink own ik cls :: Cond.initialized cls :: vx_atS own ic cls names, vx_ot w = true)
    (hU : vx_Zq Bundle.tN "UNASSIGNED_STACK" Bundle.steD A s s.heap) (hN : vx_Zq Bundle.tN "SUPPRESSED_SENTINEL" Bundle.listD A s s.heap) (hS : va_S A s.heap H locs) (hsize : ls.size = c.maxLocals)
    (d0 : decode cc pc = .ok (.new ik, 3)) (d3 : decode cc (pc + 3) = .ok (.dup, 1)) (d4 : decode cc (pc + 4) = .ok (.ldc_w is, 3)) (d7 : decode cc (pc + 7) = .ok (.invokespecial ic, 3)) (d10 : decode cc (pc + 10) = .ok (.athrow, 1))
    (hout : ∀ x ∈ c.exceptionTable.toList, covers x (pc + 10) = false)
    (hRframes : names.length + 3 < R.frames) (hRlocals : (rest.map fun v => v.category).sum + (13 * (names.length + 1) + 43) ≤ R.locals) (hRcells : cells + 1 ≤ R.cells) (hRslots : slots + 6 ≤ R.slots) (hlocks : meth.locks = false)
    (hx : ∀ t : State, s.vm.Alike t.vm → H.size ≤ t.heap.size → (∀ q : Nat, q < H.size → t.heap[q]? = H[q]?) → XC cls s t)
    (hf : ∀ z ∈ locs, free z.base) (hc : cells + 1 ≤ mc) (hs : slots + 6 ≤ ms) :
    W p l e R s m args below meth c H locs cells slots (vx_MQ below Qc XC args s mc ms free) (F0 m pc ls rest) := by
  intro T hT X
  have htr : e.platform.stackTraces = false := (show e.platform.stackTraces = l.stackTraces by rw [X.admits.platform]).trans hl
  have Y := vx_rebase X (R' := { frames := R.frames, locals := R.locals, cells := 1, slots := 6 }) (Nat.le_refl _) (Nat.le_refl _) hRcells hRslots
  obtain ⟨s', hA⟩ : ∃ z, z = (T.setVm s.vm).setFrames (.invoking m args :: below) := ⟨_, rfl⟩
  rw [← hA] at Y
  have hvm : s'.vm = s.vm := by rw [hA]; rfl
  have hhp : s'.heap = H := by rw [hA]; exact hT
  have hW0 : s.WarmedH s'.vm := by rw [hvm]; exact State.WarmedH.refl s
  have hat' : ∀ w ∈ vx_atS own ic cls names, w.before args s' = true := fun w hw => vx_ot_at hW0 hvm.symm (hgood w (List.mem_cons_of_mem _ (List.mem_cons_of_mem _ hw))) (hat w hw)
  have hk' : (Cond.classLink own ik cls).before args s' = true := vx_ot_at hW0 hvm.symm (hgood _ List.mem_cons_self) hk
  have hini' : (Cond.initialized cls).before args s' = true := vx_ot_at hW0 hvm.symm (hgood _ (List.mem_cons_of_mem _ List.mem_cons_self)) hini
  have hU' : vx_Zq Bundle.tN "UNASSIGNED_STACK" Bundle.steD A s' s'.heap := by rw [hhp]; exact vx_Zq.moved hW0.alike (hU.kept hS.2.1)
  have hN' : vx_Zq Bundle.tN "SUPPRESSED_SENTINEL" Bundle.listD A s' s'.heap := by rw [hhp]; exact vx_Zq.moved hW0.alike (hN.kept hS.2.1)
  have h : ∀ w ∈ Bundle.ownAtoms own ic cls names, w.before args s' = true := vx_own hat' (vx_isRefq hU'.1) (vx_isRefq hN'.1) hU'.2.word hN'.2.word
  have hown' : s'.vm.findClass own = some m.cls := by rw [hvm]; exact hown
  have hins : (Cond.instantiable cls 6).before args s' = true := h _ (by simp [Bundle.ownAtoms])
  obtain ⟨vm₁, cX, kX, hfX, hkX, -, -, X₁, st1⟩ := Y.newCold hexec (own := own) (C := cls) (index := ik) (n := 6) hown' hk' hins hini'
    (g := F0 m pc ls rest) rfl (by rw [hb]; exact d0) (Nat.le_refl _) (Nat.le_refl _)
  generalize hT1 : (T.setVm vm₁).pushCell { cls := cX, slots := kX.instanceTypes.map defaultValue, vm := .none } = T1 at X₁ st1
  have hcat : (Value.ref T.heap.size).category = 1 := rfl
  have hcellA : T1.heap[T.heap.size]? = some (freshCell cX kX) := by rw [← hT1]; exact State.heap_pushCell_size _ _
  have d3' : decode c.code (pc + 3) = .ok (.dup, 1) := by rw [hb]; exact d3
  have d4' : decode c.code (pc + 4) = .ok (.ldc_w is, 3) := by rw [hb]; exact d4
  have hstr' : vk_R own is text sa s' := vk_R.warm hW0 hstr
  obtain ⟨U, hsteps, hrun, hend, hW, hsame, ce, hce, hO⟩ := X₁.ctorThrowS hexec htr (own := own) (cls := cls) (names := names) (ic := ic) hown' hcls hnames h (fun x hx => nomatch hx) hfX hkX hcellA (by rw [hhp, hT]; exact Nat.le_refl _) (msg := .ref sa) rfl
    (g := { method := m, pc := pc + 7, locals := ls, stack := .ref sa :: .ref T.heap.size :: .ref T.heap.size :: rest, locked := none }) rfl hsize rfl rfl (rest := rest) rfl
    (by rw [hb]; exact d7) (by rw [hb]; exact d10) hout hRframes (by simp only [List.map_cons, List.sum_cons, hcat]; omega) hlocks
  obtain ⟨f1, f2⟩ := vx_frame hsame
  rw [hhp] at f1 f2
  have hWs : s.WarmedH U.vm := State.WarmedH.trans hW0 hW
  have hcl : s.vm.findClass cls = some ce.cls := by
    have h9 := hO.cls
    rw [hvm] at h9
    exact h9
  have hall : s.sameButNew ({ U with vm := s.vm } : State) locs mc ms := by
    subst hA
    obtain ⟨e1, e2⟩ := hsame
    rw [State.setFrames_setFrames] at e1
    have h2 : (T.setVm s.vm).sameButNew ({ U with vm := s.vm } : State) [] (0 + 1) (0 + 6) := ⟨e1, e2⟩
    have h3 := X.same.trans h2
    rw [List.append_nil] at h3
    exact h3.mono hc hs
  refine ⟨U, ?_, .threw T.heap.size, hrun, hend, Or.inr ⟨T.heap.size, rfl, cls, ce, locs, hx U hWs.alike f1 (fun q hq => f2 q hq (fun z hz => nomatch hz)), hce, hO.vm, hcl, hWs, hall, hf⟩⟩
  refine st1 _ ?_
  show Steps p.tables e below (T1.setTop { method := m, pc := pc + 3, locals := ls, stack := .ref T.heap.size :: rest, locked := none }) _
  jvm_step X₁.here [X₁.here.top, hexec, d3', Value.category]
  exact X₁.ldcStringW hexec (own := own) (text := text) (index := is) (a := sa) hown' hstr'.1 hstr'.2
    (g := { method := m, pc := pc + 4, locals := ls, stack := .ref T.heap.size :: .ref T.heap.size :: rest, locked := none }) rfl d4' _ hsteps
end Ends
section Bodies
variable {l : Launch}
theorem vx_ofW {y : MethodName} {ws ws' : List Cond} {rm : Room} {Pc : Array Value → State → Prop} {Qc : Array Value → State → Outcome → State → Prop} {XC : String → State → State → Prop} {mc ms : Nat} {free : Addr → Prop} {cc : ByteArray} {maxL : Nat} {ret : Option FieldType}
    (hy : plainName y.cls = true) (hw : ws = Cond.code y cc maxL ret :: ws')
    (body : ∀ p e s m args below meth c s₁, BodyLoose p l y (headSpec ws rm) cc maxL ret e s m args below meth c s₁ → c.maxLocals = maxL → (∀ x ∈ c.exceptionTable.toList, False) → Pc args s →
      W p l e (headSpec ws rm).room s m args below meth c s.heap [] 0 0 (vx_MQ below Qc XC args s mc ms free) (entryFrame m args maxL)) : vx_Met l y ws rm Pc Qc XC mc ms free := by
  refine MetFree.of_bodyS (code := cc) (maxLocals := maxL) (ret := ret) hy ?_ ?_
  · intro args s m h hn
    obtain ⟨meth, c, h1, h2, h3, h4, h5, h6, -, -⟩ := Cond.code_spec hn (atoms_spec (ws := ws) h _ (by rw [hw]; exact List.mem_cons_self))
    exact ⟨meth, c, h1, h2, h3, h4, h5, h6⟩
  · intro p e s m args below meth c s₁ B hml hP _
    have hh0 : s₁.heap = s.heap := by rw [B.state]; rfl
    have ht : ∀ x ∈ c.exceptionTable.toList, False := by
      obtain ⟨meth9, c9, h1, h2, -, -, -, -, h7, -⟩ := Cond.code_spec B.named (atoms_spec (ws := ws) B.pre _ (by rw [hw]; exact List.mem_cons_self))
      cases Option.some.inj (h1.symm.trans B.method)
      cases Option.some.inj (h2.symm.trans (Stand.of_body B).code)
      intro x hx
      rw [Array.isEmpty_iff.mp h7] at hx
      cases hx
    obtain ⟨t, a1, o, b1, b2, b3⟩ := body p e s m args below meth c s₁ B hml ht hP s₁ hh0 (Stand.of_body B)
    exact ⟨t, o, a1, b1, b2, b3⟩
/-- the table of a body with handlers -/
theorem vx_table {p : Program} {x y : MethodName} {S : Spec} {cc bytes : ByteArray} {maxL maxL' : Nat} {ret ret' : Option FieldType} {e : Env} {s s₁ : State} {m : MethodId} {args : Array Value} {below : List Frame} {meth : Method} {c : Code} {hh : List (Nat × Nat × Nat × Nat)}
    (B : BodyLoose p l y S cc maxL ret e s m args below meth c s₁) (h : (Cond.codeWith y bytes maxL' ret' hh).before args s = true) : c.exceptionTable.toList = tableOf hh := by
  obtain ⟨m9, meth9, c9, hn9, h1, h2, -, -, h6, -⟩ := Cond.codeWith_spec h
  cases Option.some.inj (hn9.symm.trans B.named)
  cases Option.some.inj (h1.symm.trans B.method)
  cases Option.some.inj (h2.symm.trans (Stand.of_body B).code)
  rw [← h6, table_eq]
end Bodies
end VXA
/-! ===== END ===== -/
/-! ===== BEGIN a static call of a method with an exception table ===== -/
section VXS
variable {p : Program} {l : Launch} {e : Env} {R : Room} {s : State} {m : MethodId} {args : Array Value} {below : List Frame} {meth : Method} {c : Code} {T : State} {H : Heap} {locs : List Loc} {cells slots : Nat}
abbrev vx_CSW (R : Room) (s : State) (args : Array Value) (own : String) (index : Nat) (y : MethodName) (bytes : ByteArray) (maxL : Nat) (ret : Option FieldType) (hh : List (Nat × Nat × Nat × Nat)) (ws : List Cond) (rm : Room) (mc ms n : Nat) : Prop :=
  (rm.cells = mc ∧ rm.slots = ms ∧ rm.frames + 1 ≤ R.frames ∧ 8 + (maxL + 11) + rm.locals ≤ R.locals ∧ (∀ w ∈ ws, ∀ (a' : Array Value) (U : State), s.WarmedH U.vm → w.before a' U = true) ∧ Cond.codeWith y bytes maxL ret hh ∈ ws) ∧
  (Cond.codeWith y bytes maxL ret hh).before args s = true ∧ (Cond.initialized y.cls).before args s = true ∧ (y.cls ≠ "java/lang/invoke/MethodHandle" ∧ y.cls ≠ "java/lang/invoke/VarHandle") ∧
  (∀ sig, parseMethodDescriptor y.desc = some sig → n = sig.parameters.length) ∧ (Cond.methodLink own index y).before args s = true ∧ (Cond.static y).before args s = true
theorem vx_cwSW {own : String} {index maxL mc ms : Nat} {y : MethodName} {bytes : ByteArray} {ret : Option FieldType} {hh : List (Nat × Nat × Nat × Nat)} {Ts ws ws' : List Cond} {rm : Room} (n : Nat) (ht : ∀ w ∈ Ts, w.before args s = true) (hT : GoodIn Ts (va_wsS own index y ws)) (hw : ws = Cond.codeWith y bytes maxL ret hh :: ws') (hrc : rm.cells = mc) (hrs : rm.slots = ms)
    (hd : y.cls ≠ "java/lang/invoke/MethodHandle" ∧ y.cls ≠ "java/lang/invoke/VarHandle" ∧ (parseMethodDescriptor y.desc).map (fun d => d.parameters.length) = some n) (hR : rm.frames + 1 ≤ R.frames ∧ 8 + (maxL + 11) + rm.locals ≤ R.locals) :
    vx_CSW R s args own index y bytes maxL ret hh ws rm mc ms n := by
  have ok : ∀ w ∈ va_wsS own index y ws, w.before args s = true := fun w h => ht w (hT w h).1
  have hG : GoodIn Ts ws := fun w h => hT w (by unfold va_wsS; exact List.mem_append_right _ h)
  have hc : Cond.codeWith y bytes maxL ret hh ∈ ws := by rw [hw]; exact List.mem_cons_self
  refine ⟨⟨hrc, hrs, hR.1, hR.2, pay_in ht hG, hc⟩, ht _ (hG _ hc).1, ok _ (by simp [va_wsS]), ⟨hd.1, hd.2.1⟩, fun sig h => ?_, ok _ (by simp [va_wsS]), ok _ (by simp [va_wsS])⟩
  have h2 := hd.2.2
  rw [h] at h2
  exact (Option.some.inj h2).symm
theorem vx_callSW (X : Stand p l e R s m args below meth c T locs cells slots) (hexec : p.tables.exec = Jvm.exec) {own : String} {index : Nat} {y : MethodName} {bytes : ByteArray} {maxL : Nat} {ret : Option FieldType} {hh : List (Nat × Nat × Nat × Nat)}
    (hown : s.vm.findClass own = some m.cls) (hlink : (Cond.methodLink own index y).before args s = true) (hstat : (Cond.static y).before args s = true) (hinit : (Cond.initialized y.cls).before args s = true)
    (hcode : (Cond.codeWith y bytes maxL ret hh).before args s = true) (hy : y.cls ≠ "java/lang/invoke/MethodHandle" ∧ y.cls ≠ "java/lang/invoke/VarHandle")
    {W9 : Nat} {Pre : Pt → Array Value → Prop} {Post : Pt → Array Value → Option Value → Pt → Prop} (hK : Back l R p e below s args y 3 W9 Pre Post)
    {g : JFrame} (hg : g.method = m) (hsize : g.locals.size = c.maxLocals) {argsL rest : List Value} (hlen : ∀ sig, parseMethodDescriptor y.desc = some sig → argsL.length = sig.parameters.length)
    (hstack : g.stack = argsL.reverse ++ rest) (hW : 2 * g.monitorRoom + (rest.map fun v => v.category).sum ≤ W9) (hdg : decode c.code g.pc = .ok (.invokestatic index, 3))
    (hpre : ∀ vm₁, s.WarmedH vm₁ → Pre ⟨T.setVm vm₁, locs, cells, slots⟩ argsL.toArray) :
    ∃ (v : Option Value) (vm₁ : Vm) (B : Pt), s.WarmedH vm₁ ∧ Stand p l e R s m args below meth c B.U B.locs B.cells B.slots ∧ Post ⟨T.setVm vm₁, locs, cells, slots⟩ argsL.toArray v B ∧
      ∀ target, Steps p.tables e below (B.U.setTop { g with pc := g.pc + 3, stack := v.toList ++ rest }) target → Steps p.tables e below (T.setTop g) target := by
  obtain ⟨mk, methM, cM, hnamed, hmethM, -, -, -, -, -, -, hsigM⟩ := Cond.codeWith_spec hcode
  have hstatic : methM.isStatic = true := Cond.static_spec hnamed hmethM hstat
  obtain ⟨kP, hkP, -⟩ := className_of_methodNamed hnamed
  have hinitP : kP.init = .initialized := Cond.initialized_spec (findClass_of_methodNamed hnamed) hkP hinit
  obtain ⟨vm₁, X₁, hstep₁⟩ := X.invokestatic hexec hown hlink hnamed hmethM hstatic hkP hinitP hy (g := g) hg (argsL := argsL) (rest := rest) (hlen _ hsigM) hstack hdg
  obtain ⟨v, B, X', hpost, hsteps⟩ := hK m meth c ⟨T.setVm vm₁, locs, cells, slots⟩ { g with stack := rest } (.invokestatic index) mk argsL.toArray X₁ hg hsize hdg hW (X₁.named hnamed) (hpre vm₁ X₁.warmed)
  exact ⟨v, vm₁, B, X₁.warmed, X', hpost, fun target h => hstep₁ _ fun acts => by rw [doInvoke_state]; exact hsteps.trans h⟩
theorem vx_runSW {y : MethodName} {bytes cc : ByteArray} {maxL nL mc ms n index : Nat} {ret : Option FieldType} {hh : List (Nat × Nat × Nat × Nat)} {ws : List Cond} {rm : Room} {Pc : Array Value → State → Prop} {Qc : Array Value → State → Outcome → State → Prop} {free : Addr → Prop} {Ts : List Cond} {own : String} {As rest : List Value} {g : JFrame}
    (S : CallFix p m c cc nL s args Ts own) (hM : Met l y ws rm Pc Qc mc ms free) (cw : vx_CSW R s args own index y bytes maxL ret hh ws rm mc ms n) (hp : PreS s H Pc As)
    (hg : g.method = m) (hn : As.length = n) (hsize : g.locals.size = nL) (hstack : g.stack = As.reverse ++ rest) (hW : 2 * g.monitorRoom + (rest.map fun v => v.category).sum ≤ 8) (hdg : decode cc g.pc = .ok (.invokestatic index, 3)) (hf : cells + mc ≤ R.cells ∧ slots + ms ≤ R.slots) :
    va_Run p l e R s m args below meth c H locs cells slots mc ms g rest (Qc As.toArray) (free) := by
  obtain ⟨⟨hrc, hrs, hfr, hlo, hws, hcw⟩, hcode, hini, hy, hlen, hl, hstt⟩ := cw
  have hK : Back l R p e below s args y 3 8 (PreOf R mc ms Pc) (PostOf Qc mc ms free) := va_backW (hh := hh) (bytes := bytes) (maxL := maxL) (ret := ret) hM hp.1 hrc hrs hfr hlo hws hcw (fun a' U hW => word_at hW (Or.inl (by first | rfl | simp [Cond.onTables, Cond.keeps, Cond.steady])) hini)
  obtain ⟨hx, hb, hml, ho, -⟩ := S
  intro T hT X
  obtain ⟨v, vm₁, ⟨U', l2, c2, s2⟩, hW₁, X', ⟨g', mk, t, L, e1, e2, hq, h1, hL, h2, h3⟩, st⟩ := vx_callSW X hx (hh := hh) (bytes := bytes) (maxL := maxL) (ret := ret) ho hl hstt hini hcode hy hK hg (hsize.trans hml.symm) (argsL := As) (rest := rest) (fun sig h => hn.trans (hlen sig h)) hstack hW (by rw [hb]; exact hdg)
    (fun vm₁ hW₁ => ⟨hf.1, hf.2, hp.2 (T.setVm vm₁) hT hW₁⟩)
  dsimp only [Pt.U, Pt.locs, Pt.cells, Pt.slots] at X' e1 e2 h1 h2 h3 st
  subst h1; subst h2; subst h3
  exact ⟨v, (T.setVm vm₁).calling g' mk As.toArray, t, U', L, hT, X', hL, e1, e2, hq, st⟩
/-- not caught here, past rows that name other classes: it goes on to the caller -/
theorem vx_outP {p : Program} {l : Launch} {e : Env} {R : Room} {s : State} {m : MethodId} {args : Array Value} {below : List Frame} {meth : Method} {c : Code} {H : Heap} {locs : List Loc} {cells slots : Nat} {free : Addr → Prop} {ls : Array Slot} {rest : List Value} {Qc : Array Value → State → Outcome → State → Prop} {XC : String → State → State → Prop}
    {pc : Nat} {own E : String} {ce : Cell} {q : Addr} {mc ms : Nat} (hown : s.vm.findClass own = some m.cls) (hlocks : meth.locks = false)
    (hpass : ∀ z ∈ c.exceptionTable.toList, covers z pc = false ∨ (z.catchType ≠ 0 ∧ ∃ nm : String, (Cond.classLink own z.catchType nm).before args s = true ∧ va_Nc E nm s)) (hcell : H[q]? = some ce) (hv : ce.vm = .none) (hcl : s.vm.findClass E = some ce.cls)
    (hx : ∀ t : State, t.heap = H → s.vm.Alike t.vm → XC E s t) (hf : ∀ z ∈ locs, free z.base) (hc : cells ≤ mc) (hs : slots ≤ ms) :
    vx_W p l e R s m args below meth c H locs cells slots (vx_MQ below Qc XC args s mc ms free) (F0 m pc ls rest) q := by
  intro T hT X
  have hpl : e.platform.magicAccessors = ({} : Platform).magicAccessors := by rw [X.admits.platform]
  obtain ⟨vm', hW', X', st⟩ := X.outThrough hlocks q (g := F0 m pc ls rest) rfl rfl rfl (cell := ce) (by rw [hT]; exact hcell) (by rw [hv]; rfl)
    (by obtain ⟨k9, h9, -⟩ := Vm.findClass_spec hcl; exact ⟨k9, h9⟩) (fun z hz => by
      rcases hpass z hz with h | ⟨hz0, nm, hl1, hn1⟩
      · exact Or.inl h
      · obtain ⟨c6, hc6, hcl6⟩ := Cond.classLink_spec hown hl1 e.platform hpl
        obtain ⟨a8, b8, h1, h2, h3⟩ := hn1
        cases Option.some.inj (h1.symm.trans hcl)
        cases Option.some.inj (h2.symm.trans hc6)
        exact Or.inr ⟨hz0, _, hcl6, h3⟩)
  obtain ⟨g₀, hfr⟩ := X'.frames_eq
  have hcell9 : ((T.setVm vm').setFrames (.throwing q :: below)).heap[q]? = some ce := by
    show T.heap[q]? = some ce
    rw [hT]; exact hcell
  have hend : Ended ((T.setVm vm').setFrames (.throwing q :: below)) below (.threw q) := State.frames_setFrames _ (State.cur_lt_of_frames hfr)
  refine ⟨(T.setVm vm').setFrames (.throwing q :: below), ?_, .threw q, X'.here.running, hend, Or.inr ⟨q, rfl, E, ce, locs, hx _ hT (X'.ends _).1.alike, hcell9, hv, hcl, (X'.ends _).1, (X'.ends _).2.mono hc hs, hf⟩⟩
  rw [X.pushThrowing_eq]
  exact st
/-- a thing of a world lies in the heap -/
theorem vx_lt {D : va_G} {cl : List vw_C} {ws : va_W} {H1 : Heap} (h : va_P D cl ws H1) {k : Nat} {q : Nat × va_E} (hk : ws[k]? = some q) : q.1 < H1.size := (h k q hk).lt
end VXS
/-! ===== END ===== -/
/-! ===== BEGIN methods with a table of their own: called by a name, returning or throwing ===== -/
section VXH
/-! vx_backW, vx_callVX, vx_callSX, vx_callVW, vx_runVW, vx_runVX, vx_runSX, vx_ofWH follow the same proofs as their sisters above (Free/Laws.lean, Shelf42/LK1.lean); vx_outP calls Shelf42/NT130.lean (outThrough). -/
section
variable {l : Launch} {R : Room} {p : Program} {e : Env} {below : List Frame} {s : State} {sargs : Array Value} {y : MethodName} {len W9 : Nat}
theorem vx_backW {ws : List Cond} {rm : Room} {Pc : Array Value → State → Prop} {Qc : Array Value → State → Outcome → State → Prop} {XC : String → State → State → Prop} {mc ms : Nat} {free : Addr → Prop} {bytes : ByteArray} {maxL : Nat} {ret : Option FieldType} {hh : List (Nat × Nat × Nat × Nat)}
    (hM : vx_Met l y ws rm Pc Qc XC mc ms free) (hblind : FrameBlind Pc) (hrc : rm.cells = mc) (hrs : rm.slots = ms)
    (hframes : rm.frames + 1 ≤ R.frames) (hlocals : W9 + (maxL + 11) + rm.locals ≤ R.locals)
    (hws : ∀ w ∈ ws, ∀ a' U, s.WarmedH U.vm → w.before a' U = true) (hcode : Cond.codeWith y bytes maxL ret hh ∈ ws) (hinit : ∀ a' U, s.WarmedH U.vm → (Cond.initialized y.cls).before a' U = true) :
    vx_Back l R p e below s sargs y len W9 (PreOf R mc ms Pc) (PostOf Qc mc ms free) (vx_Post XC mc ms free) := by
  intro m meth c A g ig mk a X hg hsize hdg hW hn hp
  have h1 : (headSpec ws rm).pre.before a A.U = true := atoms_intro fun w hw => hws w hw _ _ X.warmed
  have h2 : (Cond.codeWith y bytes maxL ret hh).before a A.U = true := hws _ hcode _ _ X.warmed
  have h3 : (Cond.initialized y.cls).before a A.U = true := hinit _ _ X.warmed
  have h4 : A.cells + (headSpec ws rm).room.cells ≤ R.cells := by rw [show (headSpec ws rm).room.cells = mc from hrc]; exact hp.1
  have h5 : A.slots + (headSpec ws rm).room.slots ≤ R.slots := by rw [show (headSpec ws rm).room.slots = ms from hrs]; exact hp.2.1
  have hPc : Pc a (A.U.calling g mk a) := hblind _ _ _ _ hp.2.2
  obtain ⟨U, Ls, c0, s0⟩ := A
  dsimp only [Pt.U, Pt.locs, Pt.cells, Pt.slots] at h1 h2 h3 h4 h5 X hn hPc ⊢
  obtain ⟨m9, methY, cY, hn9, hmY, hcY, -, hlY, -⟩ := Cond.codeWith_spec h2
  cases Option.some.inj (hn9.symm.trans hn)
  obtain ⟨kY, hkY, -⟩ := className_of_methodNamed hn
  have hinitY : kY.init = .initialized := Cond.initialized_spec (findClass_of_methodNamed hn) hkY h3
  have h : At U g.method c below := by rw [hg]; exact X.here
  have hlocals9 : W9 + (maxL + 11) + (headSpec ws rm).room.locals ≤ R.locals := hlocals
  have happ : (headSpec ws rm).appliesLoose y e.platform (U.calling g mk a) = true :=
    Spec.appliesLoose_calling (g := g) h hdg hn hkY hinitY
      (X.room_calling (g := g) (R' := (headSpec ws rm).room) hsize hmY hcY hframes (by rw [hlY]; omega) h4 h5) h1
  obtain ⟨mid, hmid⟩ := h.above
  have hfr : (U.setTop g).frames = (.java g :: mid) ++ below := by rw [State.frames_setTop' g h.top, hmid]; rfl
  obtain ⟨o, s₂, hsteps, -, hend, hq⟩ := Steps.callFree hM p X.admits X.cas X.clock (acts := []) hfr happ hPc trivial
  have hq' : vx_Q Qc XC mc ms free a (U.calling g mk a) o s₂ := hq
  rw [State.frames_setTop' g h.top] at hend
  obtain ⟨g₀, hg0⟩ := Option.isSome_iff_exists.mp h.top
  obtain ⟨r, hr⟩ := State.topJava?_eq_some.mp hg0
  have hr' : (({ U with heap := s₂.heap, slotsUsed := s₂.slotsUsed } : State).setVm s₂.vm).frames = .java g₀ :: r := hr
  rcases hq' with ⟨hqc, L, hfe, hL⟩ | ⟨q, rfl, E, ce, L, hx, hce, hcv, hcl, hW₂, hsm, hL⟩
  · obtain ⟨⟨v, rfl⟩, hW₂, e2, q2, q3, q4, q5, q6⟩ := id hfe
    have e3 : s₂ = ({ (U.calling g mk a).setFrames s₂.frames with heap := s₂.heap, slotsUsed := s₂.slotsUsed } : State).setVm s₂.vm := by
      have : s₂ = ({ s₂ with vm := (U.calling g mk a).vm } : State).setVm s₂.vm := rfl
      rw [e2] at this
      exact this
    obtain ⟨c₂, i₂, len₂, hc₂, hd₂, hf₂⟩ := hend
    have hW' : U.WarmedH s₂.vm := hW₂
    have hcc : c₂ = c := by
      have h1 : s₂.code? g.method = U.code? g.method := by
        rw [State.code?_eq, State.code?_eq, hW'.alike.method?]
      exact Option.some.inj (hc₂.symm.trans (h1.trans h.code))
    subst hcc
    have hlen : len₂ = len := by rw [hdg] at hd₂; cases hd₂; rfl
    subst hlen
    have hs₂ : s₂ = (({ U with heap := s₂.heap, slotsUsed := s₂.slotsUsed } : State).setVm s₂.vm).setTop { g with pc := g.pc + len₂, stack := v.toList ++ g.stack } := by
      refine e3.trans ?_
      rw [hf₂, State.calling_eq h.top, State.setFrames_setFrames, State.setTop_of_frames _ hr', hr]
      rfl
    have hsame : U.sameButNew ({ U with heap := s₂.heap, slotsUsed := s₂.slotsUsed } : State) L mc ms := by
      refine ⟨?_, q2, q3, q4, q5, q6⟩
      obtain ⟨t, ht, -⟩ := State.frames_cons hr
      show ({ U with heap := s₂.heap, slotsUsed := s₂.slotsUsed } : State) = { U.setFrames U.frames with heap := s₂.heap, slotsUsed := s₂.slotsUsed }
      rw [State.setFrames_self ht]
    subst hg
    refine Or.inl ⟨v, ⟨(({ U with heap := s₂.heap, slotsUsed := s₂.slotsUsed } : State).setVm s₂.vm), Ls ++ L, c0 + mc, s0 + ms⟩,
      ⟨X.admits, X.cas, X.clock, X.frames, X.room, X.hears, X.method, X.code, (X.here.setHeapUsed s₂.heap s₂.slotsUsed).setVm hW'.alike, X.tail, State.WarmedH.trans X.warmed hW', X.limits, X.bytes, X.same.trans (hsame.setVm s.vm)⟩,
      ⟨g, mk, s₂, L, rfl, rfl, hqc, rfl, hL, rfl, rfl⟩, ?_⟩
    show Steps p.tables e below _ ((({ U with heap := s₂.heap, slotsUsed := s₂.slotsUsed } : State).setVm s₂.vm).setTop { g with pc := g.pc + len₂, stack := v.toList ++ g.stack })
    rw [← hs₂]
    exact hsteps
  · obtain ⟨e2, q2, q3, q4, q5, q6⟩ := id hsm
    have e3 : s₂ = ({ (U.calling g mk a).setFrames s₂.frames with heap := s₂.heap, slotsUsed := s₂.slotsUsed } : State).setVm s₂.vm := by
      have : s₂ = ({ s₂ with vm := (U.calling g mk a).vm } : State).setVm s₂.vm := rfl
      rw [e2] at this
      exact this
    have hf₂ : s₂.frames = .throwing q :: .java g :: U.frames.tail := hend
    have hW' : U.WarmedH s₂.vm := hW₂
    have hs₂ : s₂ = ((({ U with heap := s₂.heap, slotsUsed := s₂.slotsUsed } : State).setVm s₂.vm).setTop g).pushFrame (.throwing q) := by
      refine e3.trans ?_
      rw [hf₂, State.calling_eq h.top, State.setFrames_setFrames, State.pushFrame, State.frames_setTop _ hr', State.setTop_of_frames _ hr', State.setFrames_setFrames, hr]
      rfl
    have hsame : U.sameButNew ({ U with heap := s₂.heap, slotsUsed := s₂.slotsUsed } : State) L mc ms := by
      refine ⟨?_, q2, q3, q4, q5, q6⟩
      obtain ⟨t, ht, -⟩ := State.frames_cons hr
      show ({ U with heap := s₂.heap, slotsUsed := s₂.slotsUsed } : State) = { U.setFrames U.frames with heap := s₂.heap, slotsUsed := s₂.slotsUsed }
      rw [State.setFrames_self ht]
    subst hg
    refine Or.inr ⟨q, ⟨(({ U with heap := s₂.heap, slotsUsed := s₂.slotsUsed } : State).setVm s₂.vm), Ls ++ L, c0 + mc, s0 + ms⟩,
      ⟨X.admits, X.cas, X.clock, X.frames, X.room, X.hears, X.method, X.code, (X.here.setHeapUsed s₂.heap s₂.slotsUsed).setVm hW'.alike, X.tail, State.WarmedH.trans X.warmed hW', X.limits, X.bytes, X.same.trans (hsame.setVm s.vm)⟩,
      ⟨g, mk, s₂, L, E, ce, rfl, rfl, hx, hce, hcv, hcl, rfl, hL, rfl, rfl⟩, ?_⟩
    show Steps p.tables e below _ (((({ U with heap := s₂.heap, slotsUsed := s₂.slotsUsed } : State).setVm s₂.vm).setTop g).pushFrame (.throwing q))
    rw [← hs₂]
    exact hsteps
end
variable {p : Program} {l : Launch} {e : Env} {R : Room} {s : State} {m : MethodId} {args : Array Value} {below : List Frame} {meth : Method} {c : Code} {T : State} {H : Heap} {locs : List Loc} {cells slots : Nat}
theorem vx_callVX (X : Stand p l e R s m args below meth c T locs cells slots) (hexec : p.tables.exec = Jvm.exec) {own C : String} {index : Nat} {y : MethodName} {bytes : ByteArray} {maxL : Nat} {ret : Option FieldType} {hh : List (Nat × Nat × Nat × Nat)}
    (hown : s.vm.findClass own = some m.cls) (hlink : (Cond.methodLink own index y).before args s = true) (hinst : (Cond.instanceMethod y).before args s = true) (hsel : (Cond.selects C y y).before args s = true)
    (hcode : (Cond.codeWith y bytes maxL ret hh).before args s = true) (hy : y.cls ≠ "java/lang/invoke/MethodHandle" ∧ y.cls ≠ "java/lang/invoke/VarHandle")
    {W9 : Nat} {Pre : Pt → Array Value → Prop} {Post : Pt → Array Value → Option Value → Pt → Prop} {PostX : Pt → Array Value → Addr → Pt → Prop} (hK : vx_Back l R p e below s args y 3 W9 Pre Post PostX)
    {b : Addr} {cellB : Cell} (hcell : T.heap[b]? = some cellB) (hobj : cellB.vm.isStatics = false) (hcls : s.vm.findClass C = some cellB.cls)
    {g : JFrame} (hg : g.method = m) (hsize : g.locals.size = c.maxLocals) {argsL rest : List Value} (hlen : ∀ sig, parseMethodDescriptor y.desc = some sig → argsL.length = sig.parameters.length)
    (hstack : g.stack = argsL.reverse ++ .ref b :: rest) (hW : 2 * g.monitorRoom + (rest.map fun v => v.category).sum ≤ W9) (hdg : decode c.code g.pc = .ok (.invokevirtual index, 3))
    (hpre : ∀ vm₁, s.WarmedH vm₁ → Pre ⟨T.setVm vm₁, locs, cells, slots⟩ (Value.ref b :: argsL).toArray) :
    (∃ (v : Option Value) (vm₁ : Vm) (B : Pt), s.WarmedH vm₁ ∧ Stand p l e R s m args below meth c B.U B.locs B.cells B.slots ∧ Post ⟨T.setVm vm₁, locs, cells, slots⟩ (Value.ref b :: argsL).toArray v B ∧
      ∀ target, Steps p.tables e below (B.U.setTop { g with pc := g.pc + 3, stack := v.toList ++ rest }) target → Steps p.tables e below (T.setTop g) target) ∨
    (∃ (q : Addr) (vm₁ : Vm) (B : Pt), s.WarmedH vm₁ ∧ Stand p l e R s m args below meth c B.U B.locs B.cells B.slots ∧ PostX ⟨T.setVm vm₁, locs, cells, slots⟩ (Value.ref b :: argsL).toArray q B ∧
      Steps p.tables e below (T.setTop g) ((B.U.setTop { g with stack := rest }).pushFrame (.throwing q))) := by
  obtain ⟨mk, methM, hnamed, hmethM, hstM, habM⟩ := Cond.instanceMethod_spec hinst
  obtain ⟨m8, methM', cM, hn8, hmethM', -, -, -, -, -, -, hsigM⟩ := Cond.codeWith_spec hcode
  cases Option.some.inj (hn8.symm.trans hnamed)
  cases hmethM.symm.trans hmethM'
  obtain ⟨c2, r2, m2, q1, q2, q3, q4, kP, hkP, hkPi⟩ := Cond.selects_spec hsel
  cases hcls.symm.trans q1
  cases (State.methodFound?_of_named hnamed hy).symm.trans q2
  cases hnamed.symm.trans q3
  have hselP : selectMethod e.platform s.vm cellB.cls mk = .method mk := by rw [Launch.admits_selectMethod X.admits]; exact q4
  obtain ⟨vm₁, X₁, hstep₁⟩ := X.invokevirtual hexec hown hlink hnamed hmethM hstM hkP hkPi hy (a := b) (cell := cellB) hcell
    (fun z h => by rw [h] at hobj; cases hobj) hselP hmethM habM hkP hkPi (g := g) hg (argsL := argsL) (rest := rest) (hlen _ hsigM) hstack hdg
  rcases hK m meth c ⟨T.setVm vm₁, locs, cells, slots⟩ { g with stack := rest } (.invokevirtual index) mk (Value.ref b :: argsL).toArray X₁ hg hsize hdg hW (X₁.named hnamed) (hpre vm₁ X₁.warmed) with ⟨v, B, X', hpost, hsteps⟩ | ⟨q, B, X', hpost, hsteps⟩
  · exact Or.inl ⟨v, vm₁, B, X₁.warmed, X', hpost, fun target h => hstep₁ _ fun acts => by rw [doInvoke_state]; exact hsteps.trans h⟩
  · exact Or.inr ⟨q, vm₁, B, X₁.warmed, X', hpost, hstep₁ _ fun acts => by rw [doInvoke_state]; exact hsteps⟩
theorem vx_callSX (X : Stand p l e R s m args below meth c T locs cells slots) (hexec : p.tables.exec = Jvm.exec) {own : String} {index : Nat} {y : MethodName} {bytes : ByteArray} {maxL : Nat} {ret : Option FieldType} {hh : List (Nat × Nat × Nat × Nat)}
    (hown : s.vm.findClass own = some m.cls) (hlink : (Cond.methodLink own index y).before args s = true) (hstat : (Cond.static y).before args s = true) (hinit : (Cond.initialized y.cls).before args s = true)
    (hcode : (Cond.codeWith y bytes maxL ret hh).before args s = true) (hy : y.cls ≠ "java/lang/invoke/MethodHandle" ∧ y.cls ≠ "java/lang/invoke/VarHandle")
    {W9 : Nat} {Pre : Pt → Array Value → Prop} {Post : Pt → Array Value → Option Value → Pt → Prop} {PostX : Pt → Array Value → Addr → Pt → Prop} (hK : vx_Back l R p e below s args y 3 W9 Pre Post PostX)
    {g : JFrame} (hg : g.method = m) (hsize : g.locals.size = c.maxLocals) {argsL rest : List Value} (hlen : ∀ sig, parseMethodDescriptor y.desc = some sig → argsL.length = sig.parameters.length)
    (hstack : g.stack = argsL.reverse ++ rest) (hW : 2 * g.monitorRoom + (rest.map fun v => v.category).sum ≤ W9) (hdg : decode c.code g.pc = .ok (.invokestatic index, 3))
    (hpre : ∀ vm₁, s.WarmedH vm₁ → Pre ⟨T.setVm vm₁, locs, cells, slots⟩ argsL.toArray) :
    (∃ (v : Option Value) (vm₁ : Vm) (B : Pt), s.WarmedH vm₁ ∧ Stand p l e R s m args below meth c B.U B.locs B.cells B.slots ∧ Post ⟨T.setVm vm₁, locs, cells, slots⟩ argsL.toArray v B ∧
      ∀ target, Steps p.tables e below (B.U.setTop { g with pc := g.pc + 3, stack := v.toList ++ rest }) target → Steps p.tables e below (T.setTop g) target) ∨
    (∃ (q : Addr) (vm₁ : Vm) (B : Pt), s.WarmedH vm₁ ∧ Stand p l e R s m args below meth c B.U B.locs B.cells B.slots ∧ PostX ⟨T.setVm vm₁, locs, cells, slots⟩ argsL.toArray q B ∧
      Steps p.tables e below (T.setTop g) ((B.U.setTop { g with stack := rest }).pushFrame (.throwing q))) := by
  obtain ⟨mk, methM, cM, hnamed, hmethM, -, -, -, -, -, -, hsigM⟩ := Cond.codeWith_spec hcode
  have hstatic : methM.isStatic = true := Cond.static_spec hnamed hmethM hstat
  obtain ⟨kP, hkP, -⟩ := className_of_methodNamed hnamed
  have hinitP : kP.init = .initialized := Cond.initialized_spec (findClass_of_methodNamed hnamed) hkP hinit
  obtain ⟨vm₁, X₁, hstep₁⟩ := X.invokestatic hexec hown hlink hnamed hmethM hstatic hkP hinitP hy (g := g) hg (argsL := argsL) (rest := rest) (hlen _ hsigM) hstack hdg
  rcases hK m meth c ⟨T.setVm vm₁, locs, cells, slots⟩ { g with stack := rest } (.invokestatic index) mk argsL.toArray X₁ hg hsize hdg hW (X₁.named hnamed) (hpre vm₁ X₁.warmed) with ⟨v, B, X', hpost, hsteps⟩ | ⟨q, B, X', hpost, hsteps⟩
  · exact Or.inl ⟨v, vm₁, B, X₁.warmed, X', hpost, fun target h => hstep₁ _ fun acts => by rw [doInvoke_state]; exact hsteps.trans h⟩
  · exact Or.inr ⟨q, vm₁, B, X₁.warmed, X', hpost, hstep₁ _ fun acts => by rw [doInvoke_state]; exact hsteps⟩
theorem vx_callVW (X : Stand p l e R s m args below meth c T locs cells slots) (hexec : p.tables.exec = Jvm.exec) {own C : String} {index : Nat} {y : MethodName} {bytes : ByteArray} {maxL : Nat} {ret : Option FieldType} {hh : List (Nat × Nat × Nat × Nat)}
    (hown : s.vm.findClass own = some m.cls) (hlink : (Cond.methodLink own index y).before args s = true) (hinst : (Cond.instanceMethod y).before args s = true) (hsel : (Cond.selects C y y).before args s = true)
    (hcode : (Cond.codeWith y bytes maxL ret hh).before args s = true) (hy : y.cls ≠ "java/lang/invoke/MethodHandle" ∧ y.cls ≠ "java/lang/invoke/VarHandle")
    {W9 : Nat} {Pre : Pt → Array Value → Prop} {Post : Pt → Array Value → Option Value → Pt → Prop} (hK : Back l R p e below s args y 3 W9 Pre Post)
    {b : Addr} {cellB : Cell} (hcell : T.heap[b]? = some cellB) (hobj : cellB.vm.isStatics = false) (hcls : s.vm.findClass C = some cellB.cls)
    {g : JFrame} (hg : g.method = m) (hsize : g.locals.size = c.maxLocals) {argsL rest : List Value} (hlen : ∀ sig, parseMethodDescriptor y.desc = some sig → argsL.length = sig.parameters.length)
    (hstack : g.stack = argsL.reverse ++ .ref b :: rest) (hW : 2 * g.monitorRoom + (rest.map fun v => v.category).sum ≤ W9) (hdg : decode c.code g.pc = .ok (.invokevirtual index, 3))
    (hpre : ∀ vm₁, s.WarmedH vm₁ → Pre ⟨T.setVm vm₁, locs, cells, slots⟩ (Value.ref b :: argsL).toArray) :
    ∃ (v : Option Value) (vm₁ : Vm) (B : Pt), s.WarmedH vm₁ ∧ Stand p l e R s m args below meth c B.U B.locs B.cells B.slots ∧ Post ⟨T.setVm vm₁, locs, cells, slots⟩ (Value.ref b :: argsL).toArray v B ∧
      ∀ target, Steps p.tables e below (B.U.setTop { g with pc := g.pc + 3, stack := v.toList ++ rest }) target → Steps p.tables e below (T.setTop g) target := by
  obtain ⟨mk, methM, hnamed, hmethM, hstM, habM⟩ := Cond.instanceMethod_spec hinst
  obtain ⟨m8, methM', cM, hn8, hmethM', -, -, -, -, -, -, hsigM⟩ := Cond.codeWith_spec hcode
  cases Option.some.inj (hn8.symm.trans hnamed)
  cases hmethM.symm.trans hmethM'
  obtain ⟨c2, r2, m2, q1, q2, q3, q4, kP, hkP, hkPi⟩ := Cond.selects_spec hsel
  cases hcls.symm.trans q1
  cases (State.methodFound?_of_named hnamed hy).symm.trans q2
  cases hnamed.symm.trans q3
  have hselP : selectMethod e.platform s.vm cellB.cls mk = .method mk := by rw [Launch.admits_selectMethod X.admits]; exact q4
  obtain ⟨vm₁, X₁, hstep₁⟩ := X.invokevirtual hexec hown hlink hnamed hmethM hstM hkP hkPi hy (a := b) (cell := cellB) hcell
    (fun z h => by rw [h] at hobj; cases hobj) hselP hmethM habM hkP hkPi (g := g) hg (argsL := argsL) (rest := rest) (hlen _ hsigM) hstack hdg
  obtain ⟨v, B, X', hpost, hsteps⟩ := hK m meth c ⟨T.setVm vm₁, locs, cells, slots⟩ { g with stack := rest } (.invokevirtual index) mk (Value.ref b :: argsL).toArray X₁ hg hsize hdg hW (X₁.named hnamed) (hpre vm₁ X₁.warmed)
  exact ⟨v, vm₁, B, X₁.warmed, X', hpost, fun target h => hstep₁ _ fun acts => by rw [doInvoke_state]; exact hsteps.trans h⟩
abbrev vx_CVW (R : Room) (s : State) (args : Array Value) (own C : String) (index : Nat) (y : MethodName) (bytes : ByteArray) (maxL : Nat) (ret : Option FieldType) (hh : List (Nat × Nat × Nat × Nat)) (ws : List Cond) (rm : Room) (mc ms n : Nat) : Prop :=
  (rm.cells = mc ∧ rm.slots = ms ∧ rm.frames + 1 ≤ R.frames ∧ 8 + (maxL + 11) + rm.locals ≤ R.locals ∧ (∀ w ∈ ws, ∀ (a' : Array Value) (U : State), s.WarmedH U.vm → w.before a' U = true) ∧ Cond.codeWith y bytes maxL ret hh ∈ ws) ∧
  (Cond.codeWith y bytes maxL ret hh).before args s = true ∧ (Cond.initialized y.cls).before args s = true ∧ (y.cls ≠ "java/lang/invoke/MethodHandle" ∧ y.cls ≠ "java/lang/invoke/VarHandle") ∧
  (∀ sig, parseMethodDescriptor y.desc = some sig → n = sig.parameters.length) ∧ (Cond.methodLink own index y).before args s = true ∧ (Cond.instanceMethod y).before args s = true ∧ (Cond.selects C y y).before args s = true
theorem vx_cwVW {own C : String} {index maxL mc ms : Nat} {y : MethodName} {bytes : ByteArray} {ret : Option FieldType} {hh : List (Nat × Nat × Nat × Nat)} {Ts ws ws' : List Cond} {rm : Room} (n : Nat) (ht : ∀ w ∈ Ts, w.before args s = true) (hT : GoodIn Ts (wsV own index C y ws)) (hw : ws = Cond.codeWith y bytes maxL ret hh :: ws') (hrc : rm.cells = mc) (hrs : rm.slots = ms)
    (hd : y.cls = C ∧ y.cls ≠ "java/lang/invoke/MethodHandle" ∧ y.cls ≠ "java/lang/invoke/VarHandle" ∧ (parseMethodDescriptor y.desc).map (fun d => d.parameters.length) = some n) (hR : rm.frames + 1 ≤ R.frames ∧ 8 + (maxL + 11) + rm.locals ≤ R.locals) :
    vx_CVW R s args own C index y bytes maxL ret hh ws rm mc ms n := by
  obtain ⟨hC, hd⟩ := hd
  subst hC
  have ok : ∀ w ∈ wsV own index y.cls y ws, w.before args s = true := fun w h => ht w (hT w h).1
  have hG : GoodIn Ts ws := fun w h => hT w (by unfold wsV; exact List.mem_append_right _ h)
  have hc : Cond.codeWith y bytes maxL ret hh ∈ ws := by rw [hw]; exact List.mem_cons_self
  refine ⟨⟨hrc, hrs, hR.1, hR.2, pay_in ht hG, hc⟩, ht _ (hG _ hc).1, ok _ (by simp [wsV]), ⟨hd.1, hd.2.1⟩, fun sig h => ?_, ok _ (by simp [wsV]), ok _ (by simp [wsV]), ok _ (by simp [wsV])⟩
  have h2 := hd.2.2
  rw [h] at h2
  exact (Option.some.inj h2).symm
theorem vx_runVW {y : MethodName} {bytes cc : ByteArray} {maxL nL mc ms n index : Nat} {ret : Option FieldType} {hh : List (Nat × Nat × Nat × Nat)} {ws : List Cond} {rm : Room} {Pc : Array Value → State → Prop} {Qc : Array Value → State → Outcome → State → Prop} {free : Addr → Prop} {Ts : List Cond} {own C : String} {b : Addr} {As rest : List Value} {g : JFrame}
    (S : CallFix p m c cc nL s args Ts own) (hM : Met l y ws rm Pc Qc mc ms free) (cw : vx_CVW R s args own C index y bytes maxL ret hh ws rm mc ms n) (hp : PreV s H C b Pc As)
    (hg : g.method = m) (hn : As.length = n) (hsize : g.locals.size = nL) (hstack : g.stack = As.reverse ++ .ref b :: rest) (hW : 2 * g.monitorRoom + (rest.map fun v => v.category).sum ≤ 8) (hdg : decode cc g.pc = .ok (.invokevirtual index, 3)) (hf : cells + mc ≤ R.cells ∧ slots + ms ≤ R.slots) :
    va_Run p l e R s m args below meth c H locs cells slots mc ms g rest (Qc (Value.ref b :: As).toArray) free := by
  obtain ⟨⟨hrc, hrs, hfr, hlo, hws, hcw⟩, hcode, hini, hy, hlen, hl, hin, hse⟩ := cw
  have hK : Back l R p e below s args y 3 8 (PreOf R mc ms Pc) (PostOf Qc mc ms free) := va_backW (hh := hh) (bytes := bytes) (maxL := maxL) (ret := ret) hM hp.1 hrc hrs hfr hlo hws hcw (fun a' U hW => word_at hW (Or.inl (by first | rfl | simp [Cond.onTables, Cond.keeps, Cond.steady])) hini)
  obtain ⟨hx, hb, hml, ho, -⟩ := S
  obtain ⟨-, ⟨cellB, hcB, hoB, hclB⟩, hPc⟩ := hp
  intro T hT X
  obtain ⟨v, vm₁, ⟨U', l2, c2, s2⟩, hW₁, X', ⟨g', mk, t, L, e1, e2, hq, h1, hL, h2, h3⟩, st⟩ := vx_callVW X hx (C := C) (hh := hh) (bytes := bytes) (maxL := maxL) (ret := ret) ho hl hin hse hcode hy hK (by rw [hT]; exact hcB) hoB hclB hg (hsize.trans hml.symm) (argsL := As) (rest := rest) (fun sig h => hn.trans (hlen sig h)) hstack hW (by rw [hb]; exact hdg)
    (fun vm₁ hW₁ => ⟨hf.1, hf.2, hPc (T.setVm vm₁) hT hW₁⟩)
  dsimp only [Pt.U, Pt.locs, Pt.cells, Pt.slots] at X' e1 e2 h1 h2 h3 st
  subst h1; subst h2; subst h3
  exact ⟨v, (T.setVm vm₁).calling g' mk (Value.ref b :: As).toArray, t, U', L, hT, X', hL, e1, e2, hq, st⟩
section
variable {y : MethodName} {bytes cc : ByteArray} {maxL nL mc ms n index : Nat} {ret : Option FieldType} {ws : List Cond} {rm : Room} {Pc : Array Value → State → Prop} {Qc : Array Value → State → Outcome → State → Prop} {XC : String → State → State → Prop} {free : Addr → Prop} {Ts : List Cond} {own C : String} {b : Addr} {As rest : List Value} {g : JFrame}
theorem vx_runVX {hh : List (Nat × Nat × Nat × Nat)} (S : CallFix p m c cc nL s args Ts own) (hM : vx_Met l y ws rm Pc Qc XC mc ms free) (cw : vx_CVW R s args own C index y bytes maxL ret hh ws rm mc ms n) (hp : PreV s H C b Pc As)
    (hg : g.method = m) (hn : As.length = n) (hsize : g.locals.size = nL) (hstack : g.stack = As.reverse ++ .ref b :: rest) (hW : 2 * g.monitorRoom + (rest.map fun v => v.category).sum ≤ 8) (hdg : decode cc g.pc = .ok (.invokevirtual index, 3)) (hf : cells + mc ≤ R.cells ∧ slots + ms ≤ R.slots) :
    vx_Run p l e R s m args below meth c H locs cells slots mc ms g rest (Qc (Value.ref b :: As).toArray) XC free := by
  obtain ⟨⟨hrc, hrs, hfr, hlo, hws, hcw⟩, hcode, hini, hy, hlen, hl, hin, hse⟩ := cw
  have hK : vx_Back l R p e below s args y 3 8 (PreOf R mc ms Pc) (PostOf Qc mc ms free) (vx_Post XC mc ms free) := vx_backW (hh := hh) (bytes := bytes) (maxL := maxL) (ret := ret) hM hp.1 hrc hrs hfr hlo hws hcw (fun a' U hW => word_at hW (Or.inl (by first | rfl | simp [Cond.onTables, Cond.keeps, Cond.steady])) hini)
  obtain ⟨hx, hb, hml, ho, -⟩ := S
  obtain ⟨-, ⟨cellB, hcB, hoB, hclB⟩, hPc⟩ := hp
  intro T hT X
  rcases vx_callVX X hx (C := C) (hh := hh) (bytes := bytes) (maxL := maxL) (ret := ret) ho hl hin hse hcode hy hK (by rw [hT]; exact hcB) hoB hclB hg (hsize.trans hml.symm) (argsL := As) (rest := rest) (fun sig h => hn.trans (hlen sig h)) hstack hW (by rw [hb]; exact hdg)
    (fun vm₁ hW₁ => ⟨hf.1, hf.2, hPc (T.setVm vm₁) hT hW₁⟩) with ⟨v, vm₁, ⟨U', l2, c2, s2⟩, hW₁, X', ⟨g', mk, t, L, e1, e2, hq, h1, hL, h2, h3⟩, st⟩ | ⟨q, vm₁, ⟨U', l2, c2, s2⟩, hW₁, X', ⟨g', mk, t, L, E, ce, e1, e2, hq, hce, hcv, hcl, h1, hL, h2, h3⟩, st⟩
  · dsimp only [Pt.U, Pt.locs, Pt.cells, Pt.slots] at X' e1 e2 h1 h2 h3 st
    subst h1; subst h2; subst h3
    exact Or.inl ⟨v, (T.setVm vm₁).calling g' mk (Value.ref b :: As).toArray, t, U', L, hT, X', hL, e1, e2, hq, st⟩
  · dsimp only [Pt.U, Pt.locs, Pt.cells, Pt.slots] at X' e1 e2 h1 h2 h3 st hcl
    subst h1; subst h2; subst h3
    exact Or.inr ⟨q, (T.setVm vm₁).calling g' mk (Value.ref b :: As).toArray, t, U', L, E, ce, hT, X', hL, e1, e2, hq, hce, hcv, vx_cls hW₁ hcl, st⟩
theorem vx_runSX {hh : List (Nat × Nat × Nat × Nat)} (S : CallFix p m c cc nL s args Ts own) (hM : vx_Met l y ws rm Pc Qc XC mc ms free) (cw : vx_CSW R s args own index y bytes maxL ret hh ws rm mc ms n) (hp : PreS s H Pc As)
    (hg : g.method = m) (hn : As.length = n) (hsize : g.locals.size = nL) (hstack : g.stack = As.reverse ++ rest) (hW : 2 * g.monitorRoom + (rest.map fun v => v.category).sum ≤ 8) (hdg : decode cc g.pc = .ok (.invokestatic index, 3)) (hf : cells + mc ≤ R.cells ∧ slots + ms ≤ R.slots) :
    vx_Run p l e R s m args below meth c H locs cells slots mc ms g rest (Qc As.toArray) XC free := by
  obtain ⟨⟨hrc, hrs, hfr, hlo, hws, hcw⟩, hcode, hini, hy, hlen, hl, hstt⟩ := cw
  have hK : vx_Back l R p e below s args y 3 8 (PreOf R mc ms Pc) (PostOf Qc mc ms free) (vx_Post XC mc ms free) := vx_backW (hh := hh) (bytes := bytes) (maxL := maxL) (ret := ret) hM hp.1 hrc hrs hfr hlo hws hcw (fun a' U hW => word_at hW (Or.inl (by first | rfl | simp [Cond.onTables, Cond.keeps, Cond.steady])) hini)
  obtain ⟨hx, hb, hml, ho, -⟩ := S
  intro T hT X
  rcases vx_callSX X hx (hh := hh) (bytes := bytes) (maxL := maxL) (ret := ret) ho hl hstt hini hcode hy hK hg (hsize.trans hml.symm) (argsL := As) (rest := rest) (fun sig h => hn.trans (hlen sig h)) hstack hW (by rw [hb]; exact hdg)
    (fun vm₁ hW₁ => ⟨hf.1, hf.2, hp.2 (T.setVm vm₁) hT hW₁⟩) with ⟨v, vm₁, ⟨U', l2, c2, s2⟩, hW₁, X', ⟨g', mk, t, L, e1, e2, hq, h1, hL, h2, h3⟩, st⟩ | ⟨q, vm₁, ⟨U', l2, c2, s2⟩, hW₁, X', ⟨g', mk, t, L, E, ce, e1, e2, hq, hce, hcv, hcl, h1, hL, h2, h3⟩, st⟩
  · dsimp only [Pt.U, Pt.locs, Pt.cells, Pt.slots] at X' e1 e2 h1 h2 h3 st
    subst h1; subst h2; subst h3
    exact Or.inl ⟨v, (T.setVm vm₁).calling g' mk As.toArray, t, U', L, hT, X', hL, e1, e2, hq, st⟩
  · dsimp only [Pt.U, Pt.locs, Pt.cells, Pt.slots] at X' e1 e2 h1 h2 h3 st hcl
    subst h1; subst h2; subst h3
    exact Or.inr ⟨q, (T.setVm vm₁).calling g' mk As.toArray, t, U', L, E, ce, hT, X', hL, e1, e2, hq, hce, hcv, vx_cls hW₁ hcl, st⟩
end
end VXH
theorem vx_ofWH {l : Launch} {y : MethodName} {ws ws' : List Cond} {rm : Room} {Pc : Array Value → State → Prop} {Qc : Array Value → State → Outcome → State → Prop} {XC : String → State → State → Prop} {mc ms : Nat} {free : Addr → Prop} {cc : ByteArray} {maxL : Nat} {ret : Option FieldType} {hh : List (Nat × Nat × Nat × Nat)}
    (hy : plainName y.cls = true) (hw : ws = Cond.codeWith y cc maxL ret hh :: ws')
    (body : ∀ p e s m args below meth c s₁, BodyLoose p l y (headSpec ws rm) cc maxL ret e s m args below meth c s₁ → c.maxLocals = maxL → Pc args s →
      W p l e (headSpec ws rm).room s m args below meth c s.heap [] 0 0 (vx_MQ below Qc XC args s mc ms free) (entryFrame m args maxL)) : vx_Met l y ws rm Pc Qc XC mc ms free := by
  refine MetFree.of_bodyS (code := cc) (maxLocals := maxL) (ret := ret) hy ?_ ?_
  · intro args s m h hn
    obtain ⟨m9, meth, c, hn9, h1, h2, h3, h4, -, h5, h6, -⟩ := Cond.codeWith_spec (atoms_spec (ws := ws) h _ (by rw [hw]; exact List.mem_cons_self))
    cases hn.symm.trans hn9
    exact ⟨meth, c, h1, h2, h3, h4, h5, h6⟩
  · intro p e s m args below meth c s₁ B hml hP _
    have hh0 : s₁.heap = s.heap := by rw [B.state]; rfl
    obtain ⟨t, a1, o, b1, b2, b3⟩ := body p e s m args below meth c s₁ B hml hP s₁ hh0 (Stand.of_body B)
    exact ⟨t, o, a1, b1, b2, b3⟩
/-! ===== END ===== -/

/-! ===== BEGIN printed: names, fields, word lists, decode rows ===== -/
def RX0 : String := "ScripHollow$Miner"
def TX0 : u_T := fun k => match k with
  | 0 => ("ScripHollow$Miner", "isAlive", "Z", false)
  | 1 => ("ScripHollow$Miner", "hasHouse", "Z", false)
  | 2 => ("ScripHollow$Miner", "isForStrike", "Z", false)
  | 3 => ("ScripHollow$Miner", "kinNumber", "I", false)
  | 4 => ("ScripHollow$Miner", "coal", "I", false)
  | 5 => ("ScripHollow$Miner", "coin", "I", false)
  | 6 => ("ScripHollow$Miner", "debt", "I", false)
  | 7 => ("ScripHollow$Miner", "arrears", "I", false)
  | 8 => ("ScripHollow$Miner", "owed", "I", false)
  | 9 => ("ScripHollow$Miner", "latestPay", "I", false)
  | 10 => ("ScripHollow$Miner", "goodsHeld", "[I", true)
  | 11 => ("ScripHollow$Miner", "scripHeld", "[I", true)
  | 12 => ("ScripHollow$Miner", "scripCame", "I", false)
  | _ => ("ScripHollow$Miner", "scripWent", "I", false)
def tyX0 : Nat → FieldType := fun k => match k with
  | 0 => .boolean
  | 1 => .boolean
  | 2 => .boolean
  | 3 => .int
  | 4 => .int
  | 5 => .int
  | 6 => .int
  | 7 => .int
  | 8 => .int
  | 9 => .int
  | 10 => .array .int
  | 11 => .array .int
  | 12 => .int
  | _ => .int
abbrev wsX00 : List Cond := u_ws RX0 TX0 14
theorem nmX0 : ∀ a, a < 14 → ∀ b, b < 14 → a ≠ b → (TX0 a).2.1 ≠ (TX0 b).2.1 := by decide +kernel
theorem tyX0_ok : ∀ k, k < 14 → parseFieldDescriptor (TX0 k).2.2.1 = some (tyX0 k) := by decide +kernel
abbrev cX0_init : ByteArray := prog_2_method_1_code
def yX0_init : MethodName := ⟨RX0, "<init>", "()V"⟩
abbrev cX0_allScrip : ByteArray := prog_2_method_2_code
def yX0_allScrip : MethodName := ⟨RX0, "allScrip", "()I"⟩
abbrev cX0_means : ByteArray := prog_2_method_3_code
def yX0_means : MethodName := ⟨RX0, "means", "()I"⟩
abbrev cX0_gainScrip : ByteArray := prog_2_method_4_code
def yX0_gainScrip : MethodName := ⟨RX0, "gainScrip", "(II)V"⟩
abbrev cX0_loseScrip : ByteArray := prog_2_method_5_code
def yX0_loseScrip : MethodName := ⟨RX0, "loseScrip", "(II)I"⟩
abbrev cX0_loseLowestScrip : ByteArray := prog_2_method_6_code
def yX0_loseLowestScrip : MethodName := ⟨RX0, "loseLowestScrip", "(I)I"⟩
abbrev cX0_inherit : ByteArray := prog_2_method_7_code
def yX0_inherit : MethodName := ⟨RX0, "inherit", "(LScripHollow$Miner;Z)V"⟩
abbrev cX0_leaveAll : ByteArray := prog_2_method_8_code
def yX0_leaveAll : MethodName := ⟨RX0, "leaveAll", "()V"⟩
def RX1 : String := "ScripHollow$Slip"
def TX1 : u_T := fun k => match k with
  | 0 => ("ScripHollow$Slip", "rest", "I", false)
  | 1 => ("ScripHollow$Slip", "rentTaken", "I", false)
  | 2 => ("ScripHollow$Slip", "storeTaken", "I", false)
  | _ => ("ScripHollow$Slip", "unlawful", "I", false)
def tyX1 : Nat → FieldType := fun k => match k with
  | 0 => .int
  | 1 => .int
  | 2 => .int
  | _ => .int
abbrev wsX10 : List Cond := u_ws RX1 TX1 4
theorem nmX1 : ∀ a, a < 4 → ∀ b, b < 4 → a ≠ b → (TX1 a).2.1 ≠ (TX1 b).2.1 := by decide +kernel
theorem tyX1_ok : ∀ k, k < 4 → parseFieldDescriptor (TX1 k).2.2.1 = some (tyX1 k) := by decide +kernel
abbrev cX1_init : ByteArray := prog_3_method_1_code
def yX1_init : MethodName := ⟨RX1, "<init>", "()V"⟩
abbrev cX1_open : ByteArray := prog_3_method_2_code
def yX1_open : MethodName := ⟨RX1, "open", "(I)V"⟩
abbrev cX1_take : ByteArray := prog_3_method_3_code
def yX1_take : MethodName := ⟨RX1, "take", "(II)V"⟩
def RX2 : String := "ScripHollow"
def TX2 : u_T := fun k => match k with
  | 0 => ("ScripHollow", "miners", "Ljava/util/ArrayList;", true)
  | 1 => ("ScripHollow", "dockPercent", "I", false)
  | 2 => ("ScripHollow", "isChecked", "Z", false)
  | 3 => ("ScripHollow", "row", "I", false)
  | 4 => ("ScripHollow", "told", "[I", true)
  | 5 => ("ScripHollow", "slip", "LScripHollow$Slip;", true)
  | 6 => ("ScripHollow", "paydays", "I", false)
  | 7 => ("ScripHollow", "storePrices", "[I", true)
  | 8 => ("ScripHollow", "hillPrices", "[I", true)
  | 9 => ("ScripHollow", "mostDebt", "I", false)
  | 10 => ("ScripHollow", "tavernPercent", "I", false)
  | 11 => ("ScripHollow", "laws", "[Z", true)
  | 12 => ("ScripHollow", "isObeying", "Z", false)
  | 13 => ("ScripHollow", "breachCount", "I", false)
  | 14 => ("ScripHollow", "isStriking", "Z", false)
  | 15 => ("ScripHollow", "isClosed", "Z", false)
  | 16 => ("ScripHollow", "fund", "I", false)
  | _ => ("ScripHollow", "lines", "[I", true)
def tyX2 : Nat → FieldType := fun k => match k with
  | 0 => .object "java/util/ArrayList"
  | 1 => .int
  | 2 => .boolean
  | 3 => .int
  | 4 => .array .int
  | 5 => .object "ScripHollow$Slip"
  | 6 => .int
  | 7 => .array .int
  | 8 => .array .int
  | 9 => .int
  | 10 => .int
  | 11 => .array .boolean
  | 12 => .boolean
  | 13 => .int
  | 14 => .boolean
  | 15 => .boolean
  | 16 => .int
  | _ => .array .int
abbrev wsX20 : List Cond := u_ws RX2 TX2 18
theorem nmX2 : ∀ a, a < 18 → ∀ b, b < 18 → a ≠ b → (TX2 a).2.1 ≠ (TX2 b).2.1 := by decide +kernel
theorem tyX2_ok : ∀ k, k < 18 → parseFieldDescriptor (TX2 k).2.2.1 = some (tyX2 k) := by decide +kernel
abbrev cX2_init : ByteArray := prog_1_method_1_code
def yX2_init : MethodName := ⟨RX2, "<init>", "()V"⟩
abbrev cX2_miner : ByteArray := prog_1_method_2_code
def yX2_miner : MethodName := ⟨RX2, "miner", "()I"⟩
abbrev cX2_kin : ByteArray := prog_1_method_3_code
def yX2_kin : MethodName := ⟨RX2, "kin", "(II)I"⟩
abbrev cX2_dock : ByteArray := prog_1_method_4_code
def yX2_dock : MethodName := ⟨RX2, "dock", "(I)I"⟩
abbrev cX2_check : ByteArray := prog_1_method_5_code
def yX2_check : MethodName := ⟨RX2, "check", "(Z)Z"⟩
abbrev cX2_hew : ByteArray := prog_1_method_6_code
def yX2_hew : MethodName := ⟨RX2, "hew", "(II)I"⟩
abbrev cX2_edition : ByteArray := prog_1_method_7_code
def yX2_edition : MethodName := ⟨RX2, "edition", "(I)I"⟩
abbrev cX2_tell : ByteArray := prog_1_method_8_code
def yX2_tell : MethodName := ⟨RX2, "tell", "(II)I"⟩
abbrev cX2_payday : ByteArray := prog_1_method_9_code
def yX2_payday : MethodName := ⟨RX2, "payday", "()I"⟩
abbrev cX2_house : ByteArray := prog_1_method_10_code
def yX2_house : MethodName := ⟨RX2, "house", "(I)V"⟩
abbrev cX2_price : ByteArray := prog_1_method_11_code
def yX2_price : MethodName := ⟨RX2, "price", "(IIZ)I"⟩
abbrev cX2_raised : ByteArray := prog_1_method_12_code
def yX2_raised : MethodName := ⟨RX2, "raised", "(II)I"⟩
abbrev cX2_limit : ByteArray := prog_1_method_13_code
def yX2_limit : MethodName := ⟨RX2, "limit", "(I)I"⟩
abbrev cX2_whyNot : ByteArray := prog_1_method_14_code
def yX2_whyNot : MethodName := ⟨RX2, "whyNot", "(III)I"⟩
abbrev cX2_buy : ByteArray := prog_1_method_15_code
def yX2_buy : MethodName := ⟨RX2, "buy", "(III)I"⟩
abbrev cX2_over : ByteArray := prog_1_method_16_code
def yX2_over : MethodName := ⟨RX2, "over", "(III)I"⟩
abbrev cX2_discount : ByteArray := prog_1_method_17_code
def yX2_discount : MethodName := ⟨RX2, "discount", "(I)I"⟩
abbrev cX2_change : ByteArray := prog_1_method_18_code
def yX2_change : MethodName := ⟨RX2, "change", "(II)I"⟩
abbrev cX2_law : ByteArray := prog_1_method_19_code
def yX2_law : MethodName := ⟨RX2, "law", "(IZ)Z"⟩
abbrev cX2_obey : ByteArray := prog_1_method_20_code
def yX2_obey : MethodName := ⟨RX2, "obey", "(Z)Z"⟩
abbrev cX2_breaches : ByteArray := prog_1_method_21_code
def yX2_breaches : MethodName := ⟨RX2, "breaches", "()I"⟩
abbrev cX2_die : ByteArray := prog_1_method_22_code
def yX2_die : MethodName := ⟨RX2, "die", "(I)I"⟩
abbrev cX2_vote : ByteArray := prog_1_method_23_code
def yX2_vote : MethodName := ⟨RX2, "vote", "(IZ)Z"⟩
abbrev cX2_strike : ByteArray := prog_1_method_24_code
def yX2_strike : MethodName := ⟨RX2, "strike", "()Z"⟩
abbrev cX2_give : ByteArray := prog_1_method_25_code
def yX2_give : MethodName := ⟨RX2, "give", "(I)I"⟩
abbrev cX2_soup : ByteArray := prog_1_method_26_code
def yX2_soup : MethodName := ⟨RX2, "soup", "()I"⟩
abbrev cX2_close : ByteArray := prog_1_method_27_code
def yX2_close : MethodName := ⟨RX2, "close", "(I)I"⟩
abbrev cX2_about : ByteArray := prog_1_method_28_code
def yX2_about : MethodName := ⟨RX2, "about", "(II)I"⟩
abbrev cX2_has : ByteArray := prog_1_method_29_code
def yX2_has : MethodName := ⟨RX2, "has", "(II)I"⟩
abbrev cX2_scrip : ByteArray := prog_1_method_30_code
def yX2_scrip : MethodName := ⟨RX2, "scrip", "(II)I"⟩
abbrev cX2_scripAnew : ByteArray := prog_1_method_31_code
def yX2_scripAnew : MethodName := ⟨RX2, "scripAnew", "(I)I"⟩
abbrev cX2_baskets : ByteArray := prog_1_method_32_code
def yX2_baskets : MethodName := ⟨RX2, "baskets", "(I)I"⟩
abbrev cX2_books : ByteArray := prog_1_method_33_code
def yX2_books : MethodName := ⟨RX2, "books", "(I)I"⟩
abbrev cX2_minerAt : ByteArray := prog_1_method_34_code
def yX2_minerAt : MethodName := ⟨RX2, "minerAt", "(I)LScripHollow$Miner;"⟩
abbrev cX2_requireGoods : ByteArray := prog_1_method_35_code
def yX2_requireGoods : MethodName := ⟨RX2, "requireGoods", "(I)V"⟩
abbrev cX2_requireIndex : ByteArray := prog_1_method_36_code
def yX2_requireIndex : MethodName := ⟨RX2, "requireIndex", "(II)V"⟩
abbrev cX2_requireRange : ByteArray := prog_1_method_37_code
def yX2_requireRange : MethodName := ⟨RX2, "requireRange", "(III)V"⟩
abbrev cX2_requireAlive : ByteArray := prog_1_method_38_code
def yX2_requireAlive : MethodName := ⟨RX2, "requireAlive", "(LScripHollow$Miner;)V"⟩
abbrev cX2_isEdition : ByteArray := prog_1_method_39_code
def yX2_isEdition : MethodName := ⟨RX2, "isEdition", "(I)Z"⟩
abbrev cX2_settle : ByteArray := prog_1_method_40_code
def yX2_settle : MethodName := ⟨RX2, "settle", "(LScripHollow$Miner;)V"⟩
abbrev cX2_due : ByteArray := prog_1_method_41_code
def yX2_due : MethodName := ⟨RX2, "due", "(LScripHollow$Miner;I)I"⟩
abbrev cX2_isPassedBy : ByteArray := prog_1_method_42_code
def yX2_isPassedBy : MethodName := ⟨RX2, "isPassedBy", "(I)Z"⟩
abbrev cX2_hand : ByteArray := prog_1_method_43_code
def yX2_hand : MethodName := ⟨RX2, "hand", "(LScripHollow$Miner;I)V"⟩
abbrev cX2_breach : ByteArray := prog_1_method_44_code
def yX2_breach : MethodName := ⟨RX2, "breach", "(LScripHollow$Miner;II)V"⟩
abbrev cX2_expire : ByteArray := prog_1_method_45_code
def yX2_expire : MethodName := ⟨RX2, "expire", "(I)V"⟩
abbrev cX2_storePrice : ByteArray := prog_1_method_46_code
def yX2_storePrice : MethodName := ⟨RX2, "storePrice", "(LScripHollow$Miner;I)I"⟩
abbrev cX2_refusal : ByteArray := prog_1_method_47_code
def yX2_refusal : MethodName := ⟨RX2, "refusal", "(LScripHollow$Miner;I)I"⟩
abbrev cX2_heirOf : ByteArray := prog_1_method_48_code
def yX2_heirOf : MethodName := ⟨RX2, "heirOf", "(LScripHollow$Miner;)I"⟩
abbrev cX2_canStrike : ByteArray := prog_1_method_49_code
def yX2_canStrike : MethodName := ⟨RX2, "canStrike", "()Z"⟩
abbrev cX2_poorestBut : ByteArray := prog_1_method_50_code
def yX2_poorestBut : MethodName := ⟨RX2, "poorestBut", "(I)I"⟩
abbrev cX2_redeem : ByteArray := prog_1_method_51_code
def yX2_redeem : MethodName := ⟨RX2, "redeem", "(II)I"⟩
def RX3 : String := "ScripHollowModel"
def TX3 : u_T := fun k => match k with
  | 0 => ("ScripHollowModel", "many", "I", false)
  | 1 => ("ScripHollowModel", "alive", "[Z", true)
  | 2 => ("ScripHollowModel", "houses", "[Z", true)
  | 3 => ("ScripHollowModel", "votes", "[Z", true)
  | 4 => ("ScripHollowModel", "coal", "[I", true)
  | 5 => ("ScripHollowModel", "coin", "[I", true)
  | 6 => ("ScripHollowModel", "debts", "[I", true)
  | 7 => ("ScripHollowModel", "arrears", "[I", true)
  | 8 => ("ScripHollowModel", "owed", "[I", true)
  | 9 => ("ScripHollowModel", "latest", "[I", true)
  | 10 => ("ScripHollowModel", "kins", "[I", true)
  | 11 => ("ScripHollowModel", "scrip", "[I", true)
  | 12 => ("ScripHollowModel", "goods", "[I", true)
  | 13 => ("ScripHollowModel", "met", "[Z", true)
  | 14 => ("ScripHollowModel", "amounts", "[I", true)
  | 15 => ("ScripHollowModel", "prices", "[I", true)
  | 16 => ("ScripHollowModel", "laws", "[Z", true)
  | 17 => ("ScripHollowModel", "books", "[I", true)
  | 18 => ("ScripHollowModel", "dock", "I", false)
  | 19 => ("ScripHollowModel", "checks", "Z", false)
  | 20 => ("ScripHollowModel", "edition", "I", false)
  | 21 => ("ScripHollowModel", "paydays", "I", false)
  | 22 => ("ScripHollowModel", "limit", "I", false)
  | 23 => ("ScripHollowModel", "discount", "I", false)
  | 24 => ("ScripHollowModel", "obeys", "Z", false)
  | 25 => ("ScripHollowModel", "breaches", "I", false)
  | 26 => ("ScripHollowModel", "strikes", "Z", false)
  | 27 => ("ScripHollowModel", "closed", "Z", false)
  | 28 => ("ScripHollowModel", "fund", "I", false)
  | _ => ("ScripHollowModel", "last", "I", false)
def tyX3 : Nat → FieldType := fun k => match k with
  | 0 => .int
  | 1 => .array .boolean
  | 2 => .array .boolean
  | 3 => .array .boolean
  | 4 => .array .int
  | 5 => .array .int
  | 6 => .array .int
  | 7 => .array .int
  | 8 => .array .int
  | 9 => .array .int
  | 10 => .array .int
  | 11 => .array .int
  | 12 => .array .int
  | 13 => .array .boolean
  | 14 => .array .int
  | 15 => .array .int
  | 16 => .array .boolean
  | 17 => .array .int
  | 18 => .int
  | 19 => .boolean
  | 20 => .int
  | 21 => .int
  | 22 => .int
  | 23 => .int
  | 24 => .boolean
  | 25 => .int
  | 26 => .boolean
  | 27 => .boolean
  | 28 => .int
  | _ => .int
abbrev wsX30 : List Cond := u_ws RX3 TX3 30
theorem nmX3 : ∀ a, a < 30 → ∀ b, b < 30 → a ≠ b → (TX3 a).2.1 ≠ (TX3 b).2.1 := by decide +kernel
theorem tyX3_ok : ∀ k, k < 30 → parseFieldDescriptor (TX3 k).2.2.1 = some (tyX3 k) := by decide +kernel
abbrev cX3_init : ByteArray := prog_5_method_1_code
def yX3_init : MethodName := ⟨RX3, "<init>", "()V"⟩
abbrev cX3_thrown : ByteArray := prog_5_method_2_code
def yX3_thrown : MethodName := ⟨RX3, "thrown", "()I"⟩
abbrev cX3_in : ByteArray := prog_5_method_3_code
def yX3_in : MethodName := ⟨RX3, "in", "(III)Z"⟩
abbrev cX3_goes : ByteArray := prog_5_method_4_code
def yX3_goes : MethodName := ⟨RX3, "goes", "(ZZZ)Z"⟩
abbrev cX3_isMiner : ByteArray := prog_5_method_5_code
def yX3_isMiner : MethodName := ⟨RX3, "isMiner", "(I)Z"⟩
abbrev cX3_isGoods : ByteArray := prog_5_method_6_code
def yX3_isGoods : MethodName := ⟨RX3, "isGoods", "(I)Z"⟩
abbrev cX3_isAlive : ByteArray := prog_5_method_7_code
def yX3_isAlive : MethodName := ⟨RX3, "isAlive", "(I)Z"⟩
abbrev cX3_miner : ByteArray := prog_5_method_8_code
def yX3_miner : MethodName := ⟨RX3, "miner", "()I"⟩
abbrev cX3_kin : ByteArray := prog_5_method_9_code
def yX3_kin : MethodName := ⟨RX3, "kin", "(II)I"⟩
abbrev cX3_dock : ByteArray := prog_5_method_10_code
def yX3_dock : MethodName := ⟨RX3, "dock", "(I)I"⟩
abbrev cX3_check : ByteArray := prog_5_method_11_code
def yX3_check : MethodName := ⟨RX3, "check", "(Z)Z"⟩
abbrev cX3_hew : ByteArray := prog_5_method_12_code
def yX3_hew : MethodName := ⟨RX3, "hew", "(II)I"⟩
abbrev cX3_isEdition : ByteArray := prog_5_method_13_code
def yX3_isEdition : MethodName := ⟨RX3, "isEdition", "(I)Z"⟩
abbrev cX3_edition : ByteArray := prog_5_method_14_code
def yX3_edition : MethodName := ⟨RX3, "edition", "(I)I"⟩
abbrev cX3_tell : ByteArray := prog_5_method_15_code
def yX3_tell : MethodName := ⟨RX3, "tell", "(II)I"⟩
abbrev cX3_isSpared : ByteArray := prog_5_method_16_code
def yX3_isSpared : MethodName := ⟨RX3, "isSpared", "()Z"⟩
abbrev cX3_pays : ByteArray := prog_5_method_17_code
def yX3_pays : MethodName := ⟨RX3, "pays", "(I)I"⟩
abbrev cX3_breaks : ByteArray := prog_5_method_18_code
def yX3_breaks : MethodName := ⟨RX3, "breaks", "(II)V"⟩
abbrev cX3_payday : ByteArray := prog_5_method_19_code
def yX3_payday : MethodName := ⟨RX3, "payday", "()I"⟩
abbrev cX3_house : ByteArray := prog_5_method_20_code
def yX3_house : MethodName := ⟨RX3, "house", "(I)V"⟩
abbrev cX3_price : ByteArray := prog_5_method_21_code
def yX3_price : MethodName := ⟨RX3, "price", "(IIZ)I"⟩
abbrev cX3_raisedFor : ByteArray := prog_5_method_22_code
def yX3_raisedFor : MethodName := ⟨RX3, "raisedFor", "(II)I"⟩
abbrev cX3_raised : ByteArray := prog_5_method_23_code
def yX3_raised : MethodName := ⟨RX3, "raised", "(II)I"⟩
abbrev cX3_limit : ByteArray := prog_5_method_24_code
def yX3_limit : MethodName := ⟨RX3, "limit", "(I)I"⟩
abbrev cX3_scripOf : ByteArray := prog_5_method_25_code
def yX3_scripOf : MethodName := ⟨RX3, "scripOf", "(I)I"⟩
abbrev cX3_lacks : ByteArray := prog_5_method_26_code
def yX3_lacks : MethodName := ⟨RX3, "lacks", "(II)I"⟩
abbrev cX3_reason : ByteArray := prog_5_method_27_code
def yX3_reason : MethodName := ⟨RX3, "reason", "(III)I"⟩
abbrev cX3_whyNot : ByteArray := prog_5_method_28_code
def yX3_whyNot : MethodName := ⟨RX3, "whyNot", "(III)I"⟩
abbrev cX3_takes : ByteArray := prog_5_method_29_code
def yX3_takes : MethodName := ⟨RX3, "takes", "(II)I"⟩
abbrev cX3_buy : ByteArray := prog_5_method_30_code
def yX3_buy : MethodName := ⟨RX3, "buy", "(III)I"⟩
abbrev cX3_over : ByteArray := prog_5_method_31_code
def yX3_over : MethodName := ⟨RX3, "over", "(III)I"⟩
abbrev cX3_discount : ByteArray := prog_5_method_32_code
def yX3_discount : MethodName := ⟨RX3, "discount", "(I)I"⟩
abbrev cX3_change : ByteArray := prog_5_method_33_code
def yX3_change : MethodName := ⟨RX3, "change", "(II)I"⟩
abbrev cX3_law : ByteArray := prog_5_method_34_code
def yX3_law : MethodName := ⟨RX3, "law", "(IZ)Z"⟩
abbrev cX3_obey : ByteArray := prog_5_method_35_code
def yX3_obey : MethodName := ⟨RX3, "obey", "(Z)Z"⟩
abbrev cX3_breaches : ByteArray := prog_5_method_36_code
def yX3_breaches : MethodName := ⟨RX3, "breaches", "()I"⟩
abbrev cX3_heirOf : ByteArray := prog_5_method_37_code
def yX3_heirOf : MethodName := ⟨RX3, "heirOf", "(I)I"⟩
abbrev cX3_leaves : ByteArray := prog_5_method_38_code
def yX3_leaves : MethodName := ⟨RX3, "leaves", "(II)V"⟩
abbrev cX3_die : ByteArray := prog_5_method_39_code
def yX3_die : MethodName := ⟨RX3, "die", "(I)I"⟩
abbrev cX3_vote : ByteArray := prog_5_method_40_code
def yX3_vote : MethodName := ⟨RX3, "vote", "(IZ)Z"⟩
abbrev cX3_strike : ByteArray := prog_5_method_41_code
def yX3_strike : MethodName := ⟨RX3, "strike", "()Z"⟩
abbrev cX3_give : ByteArray := prog_5_method_42_code
def yX3_give : MethodName := ⟨RX3, "give", "(I)I"⟩
abbrev cX3_soup : ByteArray := prog_5_method_43_code
def yX3_soup : MethodName := ⟨RX3, "soup", "()I"⟩
abbrev cX3_redeems : ByteArray := prog_5_method_44_code
def yX3_redeems : MethodName := ⟨RX3, "redeems", "(II)I"⟩
abbrev cX3_close : ByteArray := prog_5_method_45_code
def yX3_close : MethodName := ⟨RX3, "close", "(I)I"⟩
abbrev cX3_about : ByteArray := prog_5_method_46_code
def yX3_about : MethodName := ⟨RX3, "about", "(II)I"⟩
abbrev cX3_has : ByteArray := prog_5_method_47_code
def yX3_has : MethodName := ⟨RX3, "has", "(II)I"⟩
abbrev cX3_scrip : ByteArray := prog_5_method_48_code
def yX3_scrip : MethodName := ⟨RX3, "scrip", "(II)I"⟩
abbrev cX3_scripAnew : ByteArray := prog_5_method_49_code
def yX3_scripAnew : MethodName := ⟨RX3, "scripAnew", "(I)I"⟩
abbrev cX3_baskets : ByteArray := prog_5_method_50_code
def yX3_baskets : MethodName := ⟨RX3, "baskets", "(I)I"⟩
abbrev cX3_books : ByteArray := prog_5_method_51_code
def yX3_books : MethodName := ⟨RX3, "books", "(I)I"⟩
def RJx145de : String := "java/io/Serializable"
def TJx145de : u_T := fun k => match k with
  | _ => ("", "", "", false)
def tyJx145de : Nat → FieldType := fun k => match k with
  | _ => .int
abbrev wsJx145de0 : List Cond := u_ws RJx145de TJx145de 0
theorem nmJx145de : ∀ a, a < 0 → ∀ b, b < 0 → a ≠ b → (TJx145de a).2.1 ≠ (TJx145de b).2.1 := by decide +kernel
theorem tyJx145de_ok : ∀ k, k < 0 → parseFieldDescriptor (TJx145de k).2.2.1 = some (tyJx145de k) := by decide +kernel
def RJx8e188 : String := "java/lang/Cloneable"
def TJx8e188 : u_T := fun k => match k with
  | _ => ("", "", "", false)
def tyJx8e188 : Nat → FieldType := fun k => match k with
  | _ => .int
abbrev wsJx8e1880 : List Cond := u_ws RJx8e188 TJx8e188 0
theorem nmJx8e188 : ∀ a, a < 0 → ∀ b, b < 0 → a ≠ b → (TJx8e188 a).2.1 ≠ (TJx8e188 b).2.1 := by decide +kernel
theorem tyJx8e188_ok : ∀ k, k < 0 → parseFieldDescriptor (TJx8e188 k).2.2.1 = some (tyJx8e188 k) := by decide +kernel
def RJxab1ab : String := "java/lang/Iterable"
def TJxab1ab : u_T := fun k => match k with
  | _ => ("", "", "", false)
def tyJxab1ab : Nat → FieldType := fun k => match k with
  | _ => .int
abbrev wsJxab1ab0 : List Cond := u_ws RJxab1ab TJxab1ab 0
theorem nmJxab1ab : ∀ a, a < 0 → ∀ b, b < 0 → a ≠ b → (TJxab1ab a).2.1 ≠ (TJxab1ab b).2.1 := by decide +kernel
theorem tyJxab1ab_ok : ∀ k, k < 0 → parseFieldDescriptor (TJxab1ab k).2.2.1 = some (tyJxab1ab k) := by decide +kernel
def RJ9 : String := "java/lang/Math"
def TJ9 : u_T := fun k => match k with
  | _ => ("", "", "", false)
def tyJ9 : Nat → FieldType := fun k => match k with
  | _ => .int
abbrev wsJ90 : List Cond := u_ws RJ9 TJ9 0
theorem nmJ9 : ∀ a, a < 0 → ∀ b, b < 0 → a ≠ b → (TJ9 a).2.1 ≠ (TJ9 b).2.1 := by decide +kernel
theorem tyJ9_ok : ∀ k, k < 0 → parseFieldDescriptor (TJ9 k).2.2.1 = some (tyJ9 k) := by decide +kernel
abbrev cJ9_max_7cf53 : ByteArray := prog_13_method_65_code
def yJ9_max_7cf53 : MethodName := ⟨RJ9, "max", "(II)I"⟩
abbrev cJ9_min_7cf53 : ByteArray := prog_13_method_69_code
def yJ9_min_7cf53 : MethodName := ⟨RJ9, "min", "(II)I"⟩
def RJ0 : String := "java/lang/String"
def TJ0 : u_T := fun k => match k with
  | _ => ("", "", "", false)
def tyJ0 : Nat → FieldType := fun k => match k with
  | _ => .int
abbrev wsJ00 : List Cond := u_ws RJ0 TJ0 0
theorem nmJ0 : ∀ a, a < 0 → ∀ b, b < 0 → a ≠ b → (TJ0 a).2.1 ≠ (TJ0 b).2.1 := by decide +kernel
theorem tyJ0_ok : ∀ k, k < 0 → parseFieldDescriptor (TJ0 k).2.2.1 = some (tyJ0 k) := by decide +kernel
def RJ10 : String := "java/lang/System"
def TJ10 : u_T := fun k => match k with
  | _ => ("", "", "", false)
def tyJ10 : Nat → FieldType := fun k => match k with
  | _ => .int
abbrev wsJ100 : List Cond := u_ws RJ10 TJ10 0
theorem nmJ10 : ∀ a, a < 0 → ∀ b, b < 0 → a ≠ b → (TJ10 a).2.1 ≠ (TJ10 b).2.1 := by decide +kernel
theorem tyJ10_ok : ∀ k, k < 0 → parseFieldDescriptor (TJ10 k).2.2.1 = some (tyJ10 k) := by decide +kernel
def RJxa1e45 : String := "java/util/AbstractCollection"
def TJxa1e45 : u_T := fun k => match k with
  | _ => ("", "", "", false)
def tyJxa1e45 : Nat → FieldType := fun k => match k with
  | _ => .int
abbrev wsJxa1e450 : List Cond := u_ws RJxa1e45 TJxa1e45 0
theorem nmJxa1e45 : ∀ a, a < 0 → ∀ b, b < 0 → a ≠ b → (TJxa1e45 a).2.1 ≠ (TJxa1e45 b).2.1 := by decide +kernel
theorem tyJxa1e45_ok : ∀ k, k < 0 → parseFieldDescriptor (TJxa1e45 k).2.2.1 = some (tyJxa1e45 k) := by decide +kernel
abbrev cJxa1e45_init_da8c8 : ByteArray := prog_18_method_1_code
def yJxa1e45_init_da8c8 : MethodName := ⟨RJxa1e45, "<init>", "()V"⟩
def RJxc12de : String := "java/util/AbstractList"
def TJxc12de : u_T := fun k => match k with
  | _ => ("", "", "", false)
def tyJxc12de : Nat → FieldType := fun k => match k with
  | _ => .int
abbrev wsJxc12de0 : List Cond := u_ws RJxc12de TJxc12de 0
theorem nmJxc12de : ∀ a, a < 0 → ∀ b, b < 0 → a ≠ b → (TJxc12de a).2.1 ≠ (TJxc12de b).2.1 := by decide +kernel
theorem tyJxc12de_ok : ∀ k, k < 0 → parseFieldDescriptor (TJxc12de k).2.2.1 = some (tyJxc12de k) := by decide +kernel
abbrev cJxc12de_init_da8c8 : ByteArray := prog_19_method_1_code
def yJxc12de_init_da8c8 : MethodName := ⟨RJxc12de, "<init>", "()V"⟩
def RJx4a65c : String := "java/util/ArrayList"
def TJx4a65c : u_T := fun k => match k with
  | 0 => ("java/util/AbstractList", "modCount", "I", false)
  | 1 => ("java/util/ArrayList", "elementData", "[Ljava/lang/Object;", false)
  | _ => ("java/util/ArrayList", "size", "I", false)
def tyJx4a65c : Nat → FieldType := fun k => match k with
  | 0 => .int
  | 1 => .array (.object "java/lang/Object")
  | _ => .int
abbrev wsJx4a65c0 : List Cond := u_ws RJx4a65c TJx4a65c 3
theorem nmJx4a65c : ∀ a, a < 3 → ∀ b, b < 3 → a ≠ b → (TJx4a65c a).2.1 ≠ (TJx4a65c b).2.1 := by decide +kernel
theorem tyJx4a65c_ok : ∀ k, k < 3 → parseFieldDescriptor (TJx4a65c k).2.2.1 = some (tyJx4a65c k) := by decide +kernel
abbrev cJx4a65c_init_da8c8 : ByteArray := prog_20_method_2_code
def yJx4a65c_init_da8c8 : MethodName := ⟨RJx4a65c, "<init>", "()V"⟩
abbrev cJx4a65c_grow_92f84 : ByteArray := prog_20_method_6_code
def yJx4a65c_grow_92f84 : MethodName := ⟨RJx4a65c, "grow", "(I)[Ljava/lang/Object;"⟩
abbrev cJx4a65c_grow_d5877 : ByteArray := prog_20_method_7_code
def yJx4a65c_grow_d5877 : MethodName := ⟨RJx4a65c, "grow", "()[Ljava/lang/Object;"⟩
abbrev cJx4a65c_size_8abf5 : ByteArray := prog_20_method_8_code
def yJx4a65c_size_8abf5 : MethodName := ⟨RJx4a65c, "size", "()I"⟩
abbrev cJx4a65c_elementData_915e3 : ByteArray := prog_20_method_18_code
def yJx4a65c_elementData_915e3 : MethodName := ⟨RJx4a65c, "elementData", "(I)Ljava/lang/Object;"⟩
abbrev cJx4a65c_get_915e3 : ByteArray := prog_20_method_20_code
def yJx4a65c_get_915e3 : MethodName := ⟨RJx4a65c, "get", "(I)Ljava/lang/Object;"⟩
abbrev cJx4a65c_add_72be8 : ByteArray := prog_20_method_24_code
def yJx4a65c_add_72be8 : MethodName := ⟨RJx4a65c, "add", "(Ljava/lang/Object;[Ljava/lang/Object;I)V"⟩
abbrev cJx4a65c_add_9ea2d : ByteArray := prog_20_method_25_code
def yJx4a65c_add_9ea2d : MethodName := ⟨RJx4a65c, "add", "(Ljava/lang/Object;)Z"⟩
def RJ7 : String := "java/util/Arrays"
def TJ7 : u_T := fun k => match k with
  | _ => ("", "", "", false)
def tyJ7 : Nat → FieldType := fun k => match k with
  | _ => .int
abbrev wsJ70 : List Cond := u_ws RJ7 TJ7 0
theorem nmJ7 : ∀ a, a < 0 → ∀ b, b < 0 → a ≠ b → (TJ7 a).2.1 ≠ (TJ7 b).2.1 := by decide +kernel
theorem tyJ7_ok : ∀ k, k < 0 → parseFieldDescriptor (TJ7 k).2.2.1 = some (tyJ7 k) := by decide +kernel
abbrev cJ7_copyOf_1904c : ByteArray := prog_21_method_119_code
def yJ7_copyOf_1904c : MethodName := ⟨RJ7, "copyOf", "([Ljava/lang/Object;I)[Ljava/lang/Object;"⟩
abbrev cJ7_copyOf_6403c : ByteArray := prog_21_method_120_code
def yJ7_copyOf_6403c : MethodName := ⟨RJ7, "copyOf", "([Ljava/lang/Object;ILjava/lang/Class;)[Ljava/lang/Object;"⟩
def RJx5ef63 : String := "java/util/Collection"
def TJx5ef63 : u_T := fun k => match k with
  | _ => ("", "", "", false)
def tyJx5ef63 : Nat → FieldType := fun k => match k with
  | _ => .int
abbrev wsJx5ef630 : List Cond := u_ws RJx5ef63 TJx5ef63 0
theorem nmJx5ef63 : ∀ a, a < 0 → ∀ b, b < 0 → a ≠ b → (TJx5ef63 a).2.1 ≠ (TJx5ef63 b).2.1 := by decide +kernel
theorem tyJx5ef63_ok : ∀ k, k < 0 → parseFieldDescriptor (TJx5ef63 k).2.2.1 = some (tyJx5ef63 k) := by decide +kernel
def RJxbd725 : String := "java/util/List"
def TJxbd725 : u_T := fun k => match k with
  | _ => ("", "", "", false)
def tyJxbd725 : Nat → FieldType := fun k => match k with
  | _ => .int
abbrev wsJxbd7250 : List Cond := u_ws RJxbd725 TJxbd725 0
theorem nmJxbd725 : ∀ a, a < 0 → ∀ b, b < 0 → a ≠ b → (TJxbd725 a).2.1 ≠ (TJxbd725 b).2.1 := by decide +kernel
theorem tyJxbd725_ok : ∀ k, k < 0 → parseFieldDescriptor (TJxbd725 k).2.2.1 = some (tyJxbd725 k) := by decide +kernel
def RJ15 : String := "java/util/Objects"
def TJ15 : u_T := fun k => match k with
  | _ => ("", "", "", false)
def tyJ15 : Nat → FieldType := fun k => match k with
  | _ => .int
abbrev wsJ150 : List Cond := u_ws RJ15 TJ15 0
theorem nmJ15 : ∀ a, a < 0 → ∀ b, b < 0 → a ≠ b → (TJ15 a).2.1 ≠ (TJ15 b).2.1 := by decide +kernel
theorem tyJ15_ok : ∀ k, k < 0 → parseFieldDescriptor (TJ15 k).2.2.1 = some (tyJ15 k) := by decide +kernel
abbrev cJ15_checkIndex_7cf53 : ByteArray := prog_24_method_17_code
def yJ15_checkIndex_7cf53 : MethodName := ⟨RJ15, "checkIndex", "(II)I"⟩
def RJxf0a74 : String := "java/util/RandomAccess"
def TJxf0a74 : u_T := fun k => match k with
  | _ => ("", "", "", false)
def tyJxf0a74 : Nat → FieldType := fun k => match k with
  | _ => .int
abbrev wsJxf0a740 : List Cond := u_ws RJxf0a74 TJxf0a74 0
theorem nmJxf0a74 : ∀ a, a < 0 → ∀ b, b < 0 → a ≠ b → (TJxf0a74 a).2.1 ≠ (TJxf0a74 b).2.1 := by decide +kernel
theorem tyJxf0a74_ok : ∀ k, k < 0 → parseFieldDescriptor (TJxf0a74 k).2.2.1 = some (tyJxf0a74 k) := by decide +kernel
def RJxa66e6 : String := "java/util/SequencedCollection"
def TJxa66e6 : u_T := fun k => match k with
  | _ => ("", "", "", false)
def tyJxa66e6 : Nat → FieldType := fun k => match k with
  | _ => .int
abbrev wsJxa66e60 : List Cond := u_ws RJxa66e6 TJxa66e6 0
theorem nmJxa66e6 : ∀ a, a < 0 → ∀ b, b < 0 → a ≠ b → (TJxa66e6 a).2.1 ≠ (TJxa66e6 b).2.1 := by decide +kernel
theorem tyJxa66e6_ok : ∀ k, k < 0 → parseFieldDescriptor (TJxa66e6 k).2.2.1 = some (tyJxa66e6 k) := by decide +kernel
def RJ8 : String := "jdk/internal/util/ArraysSupport"
def TJ8 : u_T := fun k => match k with
  | _ => ("", "", "", false)
def tyJ8 : Nat → FieldType := fun k => match k with
  | _ => .int
abbrev wsJ80 : List Cond := u_ws RJ8 TJ8 0
theorem nmJ8 : ∀ a, a < 0 → ∀ b, b < 0 → a ≠ b → (TJ8 a).2.1 ≠ (TJ8 b).2.1 := by decide +kernel
theorem tyJ8_ok : ∀ k, k < 0 → parseFieldDescriptor (TJ8 k).2.2.1 = some (tyJ8 k) := by decide +kernel
abbrev cJ8_newLength_cabcc : ByteArray := prog_27_method_27_code
def yJ8_newLength_cabcc : MethodName := ⟨RJ8, "newLength", "(III)I"⟩
abbrev cJ8_hugeLength_7cf53 : ByteArray := prog_27_method_28_code
def yJ8_hugeLength_7cf53 : MethodName := ⟨RJ8, "hugeLength", "(II)I"⟩
def RJ3 : String := "jdk/internal/util/Preconditions"
def TJ3 : u_T := fun k => match k with
  | _ => ("", "", "", false)
def tyJ3 : Nat → FieldType := fun k => match k with
  | _ => .int
abbrev wsJ30 : List Cond := u_ws RJ3 TJ3 0
theorem nmJ3 : ∀ a, a < 0 → ∀ b, b < 0 → a ≠ b → (TJ3 a).2.1 ≠ (TJ3 b).2.1 := by decide +kernel
theorem tyJ3_ok : ∀ k, k < 0 → parseFieldDescriptor (TJ3 k).2.2.1 = some (tyJ3 k) := by decide +kernel
abbrev cJ3_checkIndex_8e157 : ByteArray := prog_28_method_11_code
def yJ3_checkIndex_8e157 : MethodName := ⟨RJ3, "checkIndex", "(IILjava/util/function/BiFunction;)I"⟩
def RL : String := "ScripHollowLaw"
abbrev cL_miner : ByteArray := method_3_code
def yL_miner : MethodName := ⟨RL, "miner", "(LScripHollow;[J)I"⟩
abbrev cL_kin : ByteArray := method_4_code
def yL_kin : MethodName := ⟨RL, "kin", "(LScripHollow;II[J)I"⟩
abbrev cL_dock : ByteArray := method_5_code
def yL_dock : MethodName := ⟨RL, "dock", "(LScripHollow;I[J)I"⟩
abbrev cL_hew : ByteArray := method_6_code
def yL_hew : MethodName := ⟨RL, "hew", "(LScripHollow;II[J)I"⟩
abbrev cL_edition : ByteArray := method_7_code
def yL_edition : MethodName := ⟨RL, "edition", "(LScripHollow;I[J)I"⟩
abbrev cL_tell : ByteArray := method_8_code
def yL_tell : MethodName := ⟨RL, "tell", "(LScripHollow;II[J)I"⟩
abbrev cL_payday : ByteArray := method_9_code
def yL_payday : MethodName := ⟨RL, "payday", "(LScripHollow;[J)I"⟩
abbrev cL_house : ByteArray := method_10_code
def yL_house : MethodName := ⟨RL, "house", "(LScripHollow;I)I"⟩
abbrev cL_price : ByteArray := method_11_code
def yL_price : MethodName := ⟨RL, "price", "(LScripHollow;IIZ[J)I"⟩
abbrev cL_raised : ByteArray := method_12_code
def yL_raised : MethodName := ⟨RL, "raised", "(LScripHollow;II[J)I"⟩
abbrev cL_limit : ByteArray := method_13_code
def yL_limit : MethodName := ⟨RL, "limit", "(LScripHollow;I[J)I"⟩
abbrev cL_whyNot : ByteArray := method_14_code
def yL_whyNot : MethodName := ⟨RL, "whyNot", "(LScripHollow;III[J)I"⟩
abbrev cL_buy : ByteArray := method_15_code
def yL_buy : MethodName := ⟨RL, "buy", "(LScripHollow;III[J)I"⟩
abbrev cL_over : ByteArray := method_16_code
def yL_over : MethodName := ⟨RL, "over", "(LScripHollow;III[J)I"⟩
abbrev cL_discount : ByteArray := method_17_code
def yL_discount : MethodName := ⟨RL, "discount", "(LScripHollow;I[J)I"⟩
abbrev cL_change : ByteArray := method_18_code
def yL_change : MethodName := ⟨RL, "change", "(LScripHollow;II[J)I"⟩
abbrev cL_law : ByteArray := method_19_code
def yL_law : MethodName := ⟨RL, "law", "(LScripHollow;IZ[J)I"⟩
abbrev cL_die : ByteArray := method_20_code
def yL_die : MethodName := ⟨RL, "die", "(LScripHollow;I[J)I"⟩
abbrev cL_vote : ByteArray := method_21_code
def yL_vote : MethodName := ⟨RL, "vote", "(LScripHollow;IZ[J)I"⟩
abbrev cL_strike : ByteArray := method_22_code
def yL_strike : MethodName := ⟨RL, "strike", "(LScripHollow;[J)I"⟩
abbrev cL_give : ByteArray := method_23_code
def yL_give : MethodName := ⟨RL, "give", "(LScripHollow;I[J)I"⟩
abbrev cL_soup : ByteArray := method_24_code
def yL_soup : MethodName := ⟨RL, "soup", "(LScripHollow;[J)I"⟩
abbrev cL_close : ByteArray := method_25_code
def yL_close : MethodName := ⟨RL, "close", "(LScripHollow;I[J)I"⟩
abbrev cL_about : ByteArray := method_26_code
def yL_about : MethodName := ⟨RL, "about", "(LScripHollow;II[J)I"⟩
abbrev cL_has : ByteArray := method_27_code
def yL_has : MethodName := ⟨RL, "has", "(LScripHollow;II[J)I"⟩
abbrev cL_scrip : ByteArray := method_28_code
def yL_scrip : MethodName := ⟨RL, "scrip", "(LScripHollow;II[J)I"⟩
abbrev cL_scripAnew : ByteArray := method_29_code
def yL_scripAnew : MethodName := ⟨RL, "scripAnew", "(LScripHollow;I[J)I"⟩
abbrev cL_baskets : ByteArray := method_30_code
def yL_baskets : MethodName := ⟨RL, "baskets", "(LScripHollow;I[J)I"⟩
abbrev cL_books : ByteArray := method_31_code
def yL_books : MethodName := ⟨RL, "books", "(LScripHollow;I[J)I"⟩
abbrev cL_law_ : ByteArray := code
def yL_law_ : MethodName := ⟨RL, "law", "([I)Z"⟩
abbrev vwCl : List vw_C := [(RJx4a65c, TJx4a65c, 3), (RX0, TX0, 14), (RX1, TX1, 4), (RX2, TX2, 18), (RX3, TX3, 30)]
end
section
def wsL_law_0_r1 : List Cond := [Cond.classLink RL 8 RX2, Cond.instantiable RX2 18, Cond.initialized RX2, Cond.classLink RL 111 RX3, Cond.instantiable RX3 30, Cond.initialized RX3, Cond.arrayClass .long, Cond.methodLink RL 110 yX2_init, Cond.instanceMethod yX2_init, Cond.code yX2_init cX2_init 1 none, Cond.methodLink RX2 1 objectInit, Cond.instanceMethod objectInit, Cond.code objectInit ⟨#[0xb1]⟩ 1 none, Cond.classLink RX2 7 RJx4a65c, Cond.instantiable RJx4a65c 3, Cond.initialized RJx4a65c, Cond.fieldLink RX2 10 "ScripHollow" "miners" "Ljava/util/ArrayList;", Cond.fieldLink RX2 16 "ScripHollow" "dockPercent" "I", Cond.fieldLink RX2 20 "ScripHollow" "row" "I", Cond.arrayClass .int, Cond.fieldLink RX2 23 "ScripHollow" "told" "[I", Cond.classLink RX2 27 RX1, Cond.instantiable RX1 4, Cond.initialized RX1]
def wsL_law_0_r2 : List Cond := [Cond.fieldLink RX2 30 "ScripHollow" "slip" "LScripHollow$Slip;", Cond.fieldLink RX2 34 "ScripHollow" "storePrices" "[I", Cond.fieldLink RX2 37 "ScripHollow" "hillPrices" "[I", Cond.fieldLink RX2 40 "ScripHollow" "mostDebt" "I", Cond.fieldLink RX2 43 "ScripHollow" "tavernPercent" "I", Cond.arrayClass .boolean, Cond.fieldLink RX2 46 "ScripHollow" "laws" "[Z", Cond.fieldLink RX2 50 "ScripHollow" "lines" "[I", Cond.methodLink RX2 9 yJx4a65c_init_da8c8, Cond.instanceMethod yJx4a65c_init_da8c8, Cond.code yJx4a65c_init_da8c8 cJx4a65c_init_da8c8 1 none, Cond.fieldLink RJx4a65c 39 "java/util/ArrayList" "DEFAULTCAPACITY_EMPTY_ELEMENTDATA" "[Ljava/lang/Object;", Cond.fieldLink RJx4a65c 9 "java/util/ArrayList" "elementData" "[Ljava/lang/Object;", Cond.methodLink RJx4a65c 1 yJxc12de_init_da8c8, Cond.instanceMethod yJxc12de_init_da8c8, Cond.initialized RJxc12de, Cond.code yJxc12de_init_da8c8 cJxc12de_init_da8c8 1 none, Cond.fieldLink RJxc12de 7 "java/util/AbstractList" "modCount" "I", Cond.methodLink RJxc12de 1 yJxa1e45_init_da8c8, Cond.instanceMethod yJxa1e45_init_da8c8, Cond.initialized RJxa1e45, Cond.code yJxa1e45_init_da8c8 cJxa1e45_init_da8c8 1 none, Cond.methodLink RJxa1e45 1 objectInit, Cond.instanceMethod yX1_init]
def wsL_law_0_r3 : List Cond := [Cond.code yX1_init cX1_init 1 none, Cond.methodLink RX1 3 objectInit, Cond.methodLink RL 113 yX3_init, Cond.instanceMethod yX3_init, Cond.code yX3_init cX3_init 2 none, Cond.methodLink RX3 1 objectInit, Cond.fieldLink RX3 7 "ScripHollowModel" "alive" "[Z", Cond.fieldLink RX3 13 "ScripHollowModel" "houses" "[Z", Cond.fieldLink RX3 16 "ScripHollowModel" "votes" "[Z", Cond.fieldLink RX3 19 "ScripHollowModel" "coal" "[I", Cond.fieldLink RX3 23 "ScripHollowModel" "coin" "[I", Cond.fieldLink RX3 26 "ScripHollowModel" "debts" "[I", Cond.fieldLink RX3 29 "ScripHollowModel" "arrears" "[I", Cond.fieldLink RX3 32 "ScripHollowModel" "owed" "[I", Cond.fieldLink RX3 35 "ScripHollowModel" "latest" "[I", Cond.fieldLink RX3 38 "ScripHollowModel" "kins" "[I", Cond.fieldLink RX3 41 "ScripHollowModel" "scrip" "[I", Cond.fieldLink RX3 44 "ScripHollowModel" "goods" "[I", Cond.fieldLink RX3 47 "ScripHollowModel" "met" "[Z", Cond.fieldLink RX3 50 "ScripHollowModel" "amounts" "[I", Cond.fieldLink RX3 53 "ScripHollowModel" "prices" "[I", Cond.fieldLink RX3 56 "ScripHollowModel" "laws" "[Z", Cond.fieldLink RX3 59 "ScripHollowModel" "books" "[I", Cond.fieldLink RX3 62 "ScripHollowModel" "dock" "I"]
def wsL_law_0_r4 : List Cond := [Cond.fieldLink RX3 66 "ScripHollowModel" "edition" "I", Cond.fieldLink RX3 69 "ScripHollowModel" "limit" "I", Cond.fieldLink RX3 72 "ScripHollowModel" "discount" "I", Cond.methodLink RL 114 yL_miner, Cond.static yL_miner, Cond.initialized RL, Cond.codeWith yL_miner cL_miner 3 (some .int) [(0, 8, 11, 13)], Cond.classLink RL 13 "java/lang/IllegalStateException", Cond.methodLink RL 7 yX2_miner, Cond.instanceMethod yX2_miner, Cond.selects RX2 yX2_miner yX2_miner, Cond.code yX2_miner cX2_miner 1 (some .int), Cond.classLink RX2 57 "java/lang/IllegalStateException", Cond.initialized "java/lang/IllegalStateException", Cond.classLink RX2 64 RX0, Cond.instantiable RX0 14, Cond.initialized RX0, Cond.methodLink RX2 53 yJx4a65c_size_8abf5, Cond.instanceMethod yJx4a65c_size_8abf5, Cond.selects RJx4a65c yJx4a65c_size_8abf5 yJx4a65c_size_8abf5, Cond.code yJx4a65c_size_8abf5 cJx4a65c_size_8abf5 1 (some .int), Cond.fieldLink RJx4a65c 48 "java/util/ArrayList" "size" "I", Cond.instanceMethod yX0_init, Cond.code yX0_init cX0_init 1 none]
def wsL_law_0_r5 : List Cond := [Cond.methodLink RX0 3 objectInit, Cond.fieldLink RX0 9 "ScripHollow$Miner" "isAlive" "Z", Cond.fieldLink RX0 15 "ScripHollow$Miner" "hasHouse" "Z", Cond.fieldLink RX0 18 "ScripHollow$Miner" "kinNumber" "I", Cond.fieldLink RX0 22 "ScripHollow$Miner" "goodsHeld" "[I", Cond.fieldLink RX0 26 "ScripHollow$Miner" "scripHeld" "[I", Cond.methodLink RX2 67 yJx4a65c_add_9ea2d, Cond.instanceMethod yJx4a65c_add_9ea2d, Cond.selects RJx4a65c yJx4a65c_add_9ea2d yJx4a65c_add_9ea2d, Cond.code yJx4a65c_add_9ea2d cJx4a65c_add_9ea2d 2 (some .boolean), Cond.fieldLink RJx4a65c 63 "java/util/ArrayList" "modCount" "I", Cond.sameField "java/util/ArrayList" "java/util/AbstractList" "modCount" "I", Cond.methodLink RJx4a65c 131 yJx4a65c_add_72be8, Cond.instanceMethod yJx4a65c_add_72be8, Cond.selects RJx4a65c yJx4a65c_add_72be8 yJx4a65c_add_72be8, Cond.code yJx4a65c_add_72be8 cJx4a65c_add_72be8 4 none, Cond.methodLink RJx4a65c 129 yJx4a65c_grow_d5877, Cond.instanceMethod yJx4a65c_grow_d5877, Cond.selects RJx4a65c yJx4a65c_grow_d5877 yJx4a65c_grow_d5877, Cond.code yJx4a65c_grow_d5877 cJx4a65c_grow_d5877 1 (some (.array (.object "java/lang/Object"))), Cond.methodLink RJx4a65c 69 yJx4a65c_grow_92f84, Cond.instanceMethod yJx4a65c_grow_92f84, Cond.selects RJx4a65c yJx4a65c_grow_92f84 yJx4a65c_grow_92f84, Cond.code yJx4a65c_grow_92f84 cJx4a65c_grow_92f84 4 (some (.array (.object "java/lang/Object")))]
def wsL_law_0_r6 : List Cond := [Cond.methodLink RJx4a65c 79 Lib.Math.max.name, Cond.static Lib.Math.max.name, Cond.initialized "java/lang/Math", Cond.code Lib.Math.max.name Lib.Math.max.code 2 (some .int), Cond.classLink RJx4a65c 7 "java/lang/Object", Cond.methodLink RJx4a65c 73 yJ8_newLength_cabcc, Cond.static yJ8_newLength_cabcc, Cond.initialized RJ8, Cond.code yJ8_newLength_cabcc cJ8_newLength_cabcc 4 (some .int), Cond.methodLink RJ8 194 Lib.Math.max.name, Cond.constant RJ8 200 (2147483639), Cond.methodLink RJ8 201 yJ8_hugeLength_7cf53, Cond.static yJ8_hugeLength_7cf53, Cond.code yJ8_hugeLength_7cf53 cJ8_hugeLength_7cf53 3 (some .int), Cond.methodLink RJx4a65c 66 yJ7_copyOf_1904c, Cond.static yJ7_copyOf_1904c, Cond.initialized RJ7, Cond.code yJ7_copyOf_1904c cJ7_copyOf_1904c 2 (some (.array (.object "java/lang/Object"))), Cond.methodLink RJ7 86 ⟨"java/lang/Object", "getClass", "()Ljava/lang/Class;"⟩, Cond.selects "[Ljava/lang/Object;" ⟨"java/lang/Object", "getClass", "()Ljava/lang/Class;"⟩ ⟨"java/lang/Object", "getClass", "()Ljava/lang/Class;"⟩, Cond.instanceMethod ⟨"java/lang/Object", "getClass", "()Ljava/lang/Class;"⟩, Cond.native ⟨"java/lang/Object", "getClass", "()Ljava/lang/Class;"⟩, Cond.methodLink RJ7 300 yJ7_copyOf_6403c, Cond.static yJ7_copyOf_6403c]
def wsL_law_0_r7 : List Cond := [Cond.code yJ7_copyOf_6403c cJ7_copyOf_6403c 4 (some (.array (.object "java/lang/Object"))), Cond.classLink RJ7 110 "[Ljava/lang/Object;", Cond.classLink RJ7 2 "java/lang/Object", Cond.methodLink RJ7 304 Lib.Math.min.name, Cond.static Lib.Math.min.name, Cond.code Lib.Math.min.name Lib.Math.min.code 2 (some .int), Cond.methodLink RJ7 150 arraycopyName, Cond.native arraycopyName, Cond.static arraycopyName, Cond.initialized "java/lang/System", Cond.methodLink RL 119 yX3_miner, Cond.instanceMethod yX3_miner, Cond.selects RX3 yX3_miner yX3_miner, Cond.code yX3_miner cX3_miner 1 (some .int), Cond.fieldLink RX3 78 "ScripHollowModel" "many" "I", Cond.methodLink RX3 89 yX3_goes, Cond.instanceMethod yX3_goes, Cond.selects RX3 yX3_goes yX3_goes, Cond.code yX3_goes cX3_goes 4 (some .boolean), Cond.fieldLink RX3 75 "ScripHollowModel" "last" "I", Cond.methodLink RL 120 yX3_thrown, Cond.instanceMethod yX3_thrown, Cond.selects RX3 yX3_thrown yX3_thrown, Cond.code yX3_thrown cX3_thrown 1 (some .int)]
def wsL_law_0_r8 : List Cond := [Cond.methodLink RL 123 yL_kin, Cond.static yL_kin, Cond.codeWith yL_kin cL_kin 5 (some .int) [(0, 10, 13, 19), (0, 10, 17, 21)], Cond.classLink RL 19 "java/lang/IndexOutOfBoundsException", Cond.classLink RL 21 "java/lang/IllegalArgumentException", Cond.methodLink RL 15 yX2_kin, Cond.instanceMethod yX2_kin, Cond.selects RX2 yX2_kin yX2_kin, Cond.code yX2_kin cX2_kin 5 (some .int), Cond.classLink RX2 75 "java/lang/IllegalArgumentException", Cond.initialized "java/lang/IllegalArgumentException", Cond.fieldLink RX2 80 "ScripHollow$Miner" "kinNumber" "I", Cond.methodLink RX2 71 yX2_minerAt, Cond.instanceMethod yX2_minerAt, Cond.selects RX2 yX2_minerAt yX2_minerAt, Cond.code yX2_minerAt cX2_minerAt 2 (some (.object "ScripHollow$Miner")), Cond.classLink RX2 64 "ScripHollow$Miner", Cond.methodLink RX2 181 yX2_requireIndex, Cond.static yX2_requireIndex, Cond.code yX2_requireIndex cX2_requireIndex 2 none, Cond.classLink RX2 238 "java/lang/IndexOutOfBoundsException", Cond.initialized "java/lang/IndexOutOfBoundsException", Cond.methodLink RX2 117 yJx4a65c_get_915e3, Cond.instanceMethod yJx4a65c_get_915e3]
def wsL_law_0_r9 : List Cond := [Cond.selects RJx4a65c yJx4a65c_get_915e3 yJx4a65c_get_915e3, Cond.code yJx4a65c_get_915e3 cJx4a65c_get_915e3 2 (some (.object "java/lang/Object")), Cond.methodLink RJx4a65c 118 yJ15_checkIndex_7cf53, Cond.static yJ15_checkIndex_7cf53, Cond.initialized RJ15, Cond.code yJ15_checkIndex_7cf53 cJ15_checkIndex_7cf53 2 (some .int), Cond.methodLink RJ15 105 yJ3_checkIndex_8e157, Cond.static yJ3_checkIndex_8e157, Cond.initialized RJ3, Cond.code yJ3_checkIndex_8e157 cJ3_checkIndex_8e157 3 (some .int), Cond.methodLink RJx4a65c 123 yJx4a65c_elementData_915e3, Cond.instanceMethod yJx4a65c_elementData_915e3, Cond.selects RJx4a65c yJx4a65c_elementData_915e3 yJx4a65c_elementData_915e3, Cond.code yJx4a65c_elementData_915e3 cJx4a65c_elementData_915e3 2 (some (.object "java/lang/Object")), Cond.methodLink RL 126 yX3_kin, Cond.instanceMethod yX3_kin, Cond.selects RX3 yX3_kin yX3_kin, Cond.code yX3_kin cX3_kin 4 (some .int), Cond.methodLink RX3 85 yX3_isMiner, Cond.instanceMethod yX3_isMiner, Cond.selects RX3 yX3_isMiner yX3_isMiner, Cond.code yX3_isMiner cX3_isMiner 2 (some .boolean), Cond.methodLink RX3 81 yX3_in, Cond.static yX3_in]
def wsL_law_0_r10 : List Cond := [Cond.code yX3_in cX3_in 3 (some .boolean), Cond.methodLink RL 127 yL_dock, Cond.static yL_dock, Cond.codeWith yL_dock cL_dock 4 (some .int) [(0, 9, 12, 21)], Cond.methodLink RL 23 yX2_dock, Cond.instanceMethod yX2_dock, Cond.selects RX2 yX2_dock yX2_dock, Cond.code yX2_dock cX2_dock 3 (some .int), Cond.methodLink RX2 83 yX2_requireRange, Cond.static yX2_requireRange, Cond.code yX2_requireRange cX2_requireRange 3 none, Cond.methodLink RL 130 yX3_dock, Cond.instanceMethod yX3_dock, Cond.selects RX3 yX3_dock yX3_dock, Cond.code yX3_dock cX3_dock 3 (some .int), Cond.methodLink RL 131 yX2_check, Cond.instanceMethod yX2_check, Cond.selects RX2 yX2_check yX2_check, Cond.code yX2_check cX2_check 3 (some .boolean), Cond.fieldLink RX2 87 "ScripHollow" "isChecked" "Z", Cond.methodLink RL 135 yX3_check, Cond.instanceMethod yX3_check, Cond.selects RX3 yX3_check yX3_check, Cond.code yX3_check cX3_check 3 (some .boolean)]
def wsL_law_0_r11 : List Cond := [Cond.fieldLink RX3 93 "ScripHollowModel" "checks" "Z", Cond.methodLink RL 136 yL_hew, Cond.static yL_hew, Cond.codeWith yL_hew cL_hew 5 (some .int) [(0, 10, 13, 19), (0, 10, 17, 21), (0, 10, 21, 13)], Cond.methodLink RL 27 yX2_hew, Cond.instanceMethod yX2_hew, Cond.selects RX2 yX2_hew yX2_hew, Cond.code yX2_hew cX2_hew 4 (some .int), Cond.fieldLink RX2 95 "ScripHollow" "isStriking" "Z", Cond.fieldLink RX2 98 "ScripHollow" "isClosed" "Z", Cond.fieldLink RX2 103 "ScripHollow$Miner" "coal" "I", Cond.methodLink RX2 91 yX2_requireAlive, Cond.static yX2_requireAlive, Cond.code yX2_requireAlive cX2_requireAlive 1 none, Cond.fieldLink RX2 121 "ScripHollow$Miner" "isAlive" "Z", Cond.methodLink RL 138 yX3_hew, Cond.instanceMethod yX3_hew, Cond.selects RX3 yX3_hew yX3_hew, Cond.code yX3_hew cX3_hew 3 (some .int), Cond.fieldLink RX3 100 "ScripHollowModel" "strikes" "Z", Cond.fieldLink RX3 103 "ScripHollowModel" "closed" "Z", Cond.methodLink RX3 97 yX3_isAlive, Cond.instanceMethod yX3_isAlive, Cond.selects RX3 yX3_isAlive yX3_isAlive]
def wsL_law_0_r12 : List Cond := [Cond.code yX3_isAlive cX3_isAlive 2 (some .boolean), Cond.methodLink RL 139 yL_edition, Cond.static yL_edition, Cond.codeWith yL_edition cL_edition 4 (some .int) [(0, 9, 12, 21)], Cond.methodLink RL 30 yX2_edition, Cond.instanceMethod yX2_edition, Cond.selects RX2 yX2_edition yX2_edition, Cond.code yX2_edition cX2_edition 3 (some .int), Cond.methodLink RX2 106 yX2_isEdition, Cond.static yX2_isEdition, Cond.code yX2_isEdition cX2_isEdition 5 (some .boolean), Cond.methodLink RL 141 yX3_edition, Cond.instanceMethod yX3_edition, Cond.selects RX3 yX3_edition yX3_edition, Cond.code yX3_edition cX3_edition 3 (some .int), Cond.methodLink RX3 106 yX3_isEdition, Cond.static yX3_isEdition, Cond.code yX3_isEdition cX3_isEdition 5 (some .boolean), Cond.methodLink RL 142 yL_tell, Cond.static yL_tell, Cond.codeWith yL_tell cL_tell 5 (some .int) [(0, 10, 13, 21)], Cond.methodLink RL 33 yX2_tell, Cond.instanceMethod yX2_tell, Cond.selects RX2 yX2_tell yX2_tell]
def wsL_law_0_r13 : List Cond := [Cond.code yX2_tell cX2_tell 4 (some .int), Cond.methodLink RL 144 yX3_tell, Cond.instanceMethod yX3_tell, Cond.selects RX3 yX3_tell yX3_tell, Cond.code yX3_tell cX3_tell 4 (some .int), Cond.methodLink RL 145 yL_payday, Cond.static yL_payday, Cond.codeWith yL_payday cL_payday 3 (some .int) [(0, 8, 11, 13)], Cond.methodLink RL 36 yX2_payday, Cond.instanceMethod yX2_payday, Cond.selects RX2 yX2_payday yX2_payday, Cond.code yX2_payday cX2_payday 4 (some .int), Cond.fieldLink RX2 112 "ScripHollow" "paydays" "I", Cond.fieldLink RX2 127 "ScripHollow$Miner" "latestPay" "I", Cond.methodLink RX2 124 yX2_settle, Cond.instanceMethod yX2_settle, Cond.selects RX2 yX2_settle yX2_settle, Cond.code yX2_settle cX2_settle 5 none, Cond.fieldLink RX2 259 "ScripHollow$Slip" "rentTaken" "I", Cond.fieldLink RX2 137 "ScripHollow$Miner" "arrears" "I", Cond.fieldLink RX2 167 "ScripHollow$Miner" "debt" "I", Cond.fieldLink RX2 262 "ScripHollow$Slip" "storeTaken" "I", Cond.fieldLink RX2 265 "ScripHollow$Slip" "unlawful" "I", Cond.fieldLink RX2 272 "ScripHollow$Slip" "rest" "I"]
def wsL_law_0_r14 : List Cond := [Cond.fieldLink RX2 134 "ScripHollow$Miner" "hasHouse" "Z", Cond.methodLink RX2 247 yX2_due, Cond.instanceMethod yX2_due, Cond.selects RX2 yX2_due yX2_due, Cond.code yX2_due cX2_due 3 (some .int), Cond.methodLink RX2 250 yX1_open, Cond.instanceMethod yX1_open, Cond.selects RX1 yX1_open yX1_open, Cond.code yX1_open cX1_open 2 none, Cond.fieldLink RX1 9 "ScripHollow$Slip" "rest" "I", Cond.fieldLink RX1 15 "ScripHollow$Slip" "rentTaken" "I", Cond.fieldLink RX1 18 "ScripHollow$Slip" "storeTaken" "I", Cond.fieldLink RX1 21 "ScripHollow$Slip" "unlawful" "I", Cond.methodLink RX2 253 yX2_isPassedBy, Cond.instanceMethod yX2_isPassedBy, Cond.selects RX2 yX2_isPassedBy yX2_isPassedBy, Cond.code yX2_isPassedBy cX2_isPassedBy 2 (some .boolean), Cond.fieldLink RX2 185 "ScripHollow" "isObeying" "Z", Cond.methodLink RX2 256 yX1_take, Cond.instanceMethod yX1_take, Cond.selects RX1 yX1_take yX1_take, Cond.code yX1_take cX1_take 4 none, Cond.methodLink RX1 24 Lib.Math.min.name, Cond.methodLink RX2 268 yX2_breach]
def wsL_law_0_r15 : List Cond := [Cond.instanceMethod yX2_breach, Cond.selects RX2 yX2_breach yX2_breach, Cond.code yX2_breach cX2_breach 4 none, Cond.fieldLink RX2 188 "ScripHollow" "breachCount" "I", Cond.fieldLink RX2 224 "ScripHollow$Miner" "owed" "I", Cond.methodLink RX2 275 yX2_hand, Cond.instanceMethod yX2_hand, Cond.selects RX2 yX2_hand yX2_hand, Cond.code yX2_hand cX2_hand 3 none, Cond.fieldLink RX2 158 "ScripHollow$Miner" "coin" "I", Cond.methodLink RX2 279 yX0_gainScrip, Cond.instanceMethod yX0_gainScrip, Cond.selects RX0 yX0_gainScrip yX0_gainScrip, Cond.code yX0_gainScrip cX0_gainScrip 3 none, Cond.fieldLink RX0 36 "ScripHollow$Miner" "scripCame" "I", Cond.methodLink RX2 130 yX2_expire, Cond.instanceMethod yX2_expire, Cond.selects RX2 yX2_expire yX2_expire, Cond.code yX2_expire cX2_expire 4 none, Cond.fieldLink RX2 229 "ScripHollow$Miner" "scripHeld" "[I", Cond.methodLink RX2 282 yX0_loseScrip, Cond.instanceMethod yX0_loseScrip, Cond.selects RX0 yX0_loseScrip yX0_loseScrip, Cond.code yX0_loseScrip cX0_loseScrip 4 (some .int)]
def wsL_law_0_r16 : List Cond := [Cond.methodLink RX0 39 Lib.Math.min.name, Cond.fieldLink RX0 45 "ScripHollow$Miner" "scripWent" "I", Cond.methodLink RL 147 yX3_payday, Cond.instanceMethod yX3_payday, Cond.selects RX3 yX3_payday yX3_payday, Cond.code yX3_payday cX3_payday 3 (some .int), Cond.fieldLink RX3 125 "ScripHollowModel" "paydays" "I", Cond.fieldLink RX3 109 "ScripHollowModel" "obeys" "Z", Cond.methodLink RX3 128 yX3_pays, Cond.instanceMethod yX3_pays, Cond.selects RX3 yX3_pays yX3_pays, Cond.code yX3_pays cX3_pays 11 (some .int), Cond.constantLong RX3 112 (10), Cond.methodLink RX3 114 yX3_isSpared, Cond.instanceMethod yX3_isSpared, Cond.selects RX3 yX3_isSpared yX3_isSpared, Cond.code yX3_isSpared cX3_isSpared 1 (some .boolean), Cond.methodLink RX3 118 yX3_breaks, Cond.instanceMethod yX3_breaks, Cond.selects RX3 yX3_breaks yX3_breaks, Cond.code yX3_breaks cX3_breaks 3 none, Cond.fieldLink RX3 122 "ScripHollowModel" "breaches" "I", Cond.methodLink RL 148 yL_house, Cond.static yL_house]
def wsL_law_0_r17 : List Cond := [Cond.codeWith yL_house cL_house 3 (some .int) [(0, 5, 8, 19), (0, 5, 11, 13)], Cond.methodLink RL 39 yX2_house, Cond.instanceMethod yX2_house, Cond.selects RX2 yX2_house yX2_house, Cond.code yX2_house cX2_house 3 none, Cond.methodLink RL 151 yX3_house, Cond.instanceMethod yX3_house, Cond.selects RX3 yX3_house yX3_house, Cond.code yX3_house cX3_house 2 none, Cond.methodLink RL 152 yL_price, Cond.static yL_price, Cond.codeWith yL_price cL_price 6 (some .int) [(0, 12, 15, 19), (0, 12, 19, 21)], Cond.methodLink RL 43 yX2_price, Cond.instanceMethod yX2_price, Cond.selects RX2 yX2_price yX2_price, Cond.code yX2_price cX2_price 6 (some .int), Cond.methodLink RX2 142 yX2_requireGoods, Cond.static yX2_requireGoods, Cond.code yX2_requireGoods cX2_requireGoods 1 none, Cond.methodLink RL 155 yX3_price, Cond.instanceMethod yX3_price, Cond.selects RX3 yX3_price yX3_price, Cond.code yX3_price cX3_price 6 (some .int), Cond.methodLink RX3 132 yX3_isGoods]
def wsL_law_0_r18 : List Cond := [Cond.static yX3_isGoods, Cond.code yX3_isGoods cX3_isGoods 1 (some .boolean), Cond.methodLink RL 156 yL_raised, Cond.static yL_raised, Cond.codeWith yL_raised cL_raised 5 (some .int) [(0, 10, 13, 19)], Cond.methodLink RL 47 yX2_raised, Cond.instanceMethod yX2_raised, Cond.selects RX2 yX2_raised yX2_raised, Cond.code yX2_raised cX2_raised 4 (some .int), Cond.methodLink RX2 145 yX2_storePrice, Cond.instanceMethod yX2_storePrice, Cond.selects RX2 yX2_storePrice yX2_storePrice, Cond.code yX2_storePrice cX2_storePrice 3 (some .int), Cond.methodLink RL 158 yX3_raised, Cond.instanceMethod yX3_raised, Cond.selects RX3 yX3_raised yX3_raised, Cond.code yX3_raised cX3_raised 3 (some .int), Cond.methodLink RX3 137 yX3_raisedFor, Cond.instanceMethod yX3_raisedFor, Cond.selects RX3 yX3_raisedFor yX3_raisedFor, Cond.code yX3_raisedFor cX3_raisedFor 5 (some .int), Cond.constantLong RX3 135 (200), Cond.methodLink RL 159 yL_limit, Cond.static yL_limit]
def wsL_law_0_r19 : List Cond := [Cond.codeWith yL_limit cL_limit 4 (some .int) [(0, 9, 12, 21)], Cond.methodLink RL 50 yX2_limit, Cond.instanceMethod yX2_limit, Cond.selects RX2 yX2_limit yX2_limit, Cond.code yX2_limit cX2_limit 3 (some .int), Cond.methodLink RL 161 yX3_limit, Cond.instanceMethod yX3_limit, Cond.selects RX3 yX3_limit yX3_limit, Cond.code yX3_limit cX3_limit 3 (some .int), Cond.methodLink RL 162 yL_whyNot, Cond.static yL_whyNot, Cond.codeWith yL_whyNot cL_whyNot 6 (some .int) [(0, 12, 15, 19), (0, 12, 19, 21)], Cond.methodLink RL 53 yX2_whyNot, Cond.instanceMethod yX2_whyNot, Cond.selects RX2 yX2_whyNot yX2_whyNot, Cond.code yX2_whyNot cX2_whyNot 5 (some .int), Cond.methodLink RX2 149 yX2_refusal, Cond.instanceMethod yX2_refusal, Cond.selects RX2 yX2_refusal yX2_refusal, Cond.code yX2_refusal cX2_refusal 4 (some .int), Cond.methodLink RX2 285 yX0_means, Cond.instanceMethod yX0_means, Cond.selects RX0 yX0_means yX0_means, Cond.code yX0_means cX0_means 1 (some .int)]
def wsL_law_0_r20 : List Cond := [Cond.fieldLink RX0 29 "ScripHollow$Miner" "coin" "I", Cond.methodLink RX0 32 yX0_allScrip, Cond.instanceMethod yX0_allScrip, Cond.selects RX0 yX0_allScrip yX0_allScrip, Cond.code yX0_allScrip cX0_allScrip 3 (some .int), Cond.methodLink RL 165 yX3_whyNot, Cond.instanceMethod yX3_whyNot, Cond.selects RX3 yX3_whyNot yX3_whyNot, Cond.code yX3_whyNot cX3_whyNot 4 (some .int), Cond.methodLink RX3 147 yX3_reason, Cond.instanceMethod yX3_reason, Cond.selects RX3 yX3_reason yX3_reason, Cond.code yX3_reason cX3_reason 5 (some .int), Cond.methodLink RX3 144 yX3_lacks, Cond.instanceMethod yX3_lacks, Cond.selects RX3 yX3_lacks yX3_lacks, Cond.code yX3_lacks cX3_lacks 4 (some .int), Cond.methodLink RX3 141 yX3_scripOf, Cond.instanceMethod yX3_scripOf, Cond.selects RX3 yX3_scripOf yX3_scripOf, Cond.code yX3_scripOf cX3_scripOf 4 (some .int), Cond.methodLink RL 166 yL_buy, Cond.static yL_buy, Cond.codeWith yL_buy cL_buy 6 (some .int) [(0, 12, 15, 19), (0, 12, 19, 21), (0, 12, 23, 13)]]
def wsL_law_0_r21 : List Cond := [Cond.methodLink RL 57 yX2_buy, Cond.instanceMethod yX2_buy, Cond.selects RX2 yX2_buy yX2_buy, Cond.code yX2_buy cX2_buy 8 (some .int), Cond.methodLink RX2 161 Lib.Math.min.name, Cond.fieldLink RX2 170 "ScripHollow$Miner" "goodsHeld" "[I", Cond.methodLink RX2 154 yX0_loseLowestScrip, Cond.instanceMethod yX0_loseLowestScrip, Cond.selects RX0 yX0_loseLowestScrip yX0_loseLowestScrip, Cond.code yX0_loseLowestScrip cX0_loseLowestScrip 4 (some .int), Cond.methodLink RX0 48 yX0_loseScrip, Cond.methodLink RL 168 yX3_buy, Cond.instanceMethod yX3_buy, Cond.selects RX3 yX3_buy yX3_buy, Cond.code yX3_buy cX3_buy 9 (some .int), Cond.methodLink RX3 151 yX3_takes, Cond.instanceMethod yX3_takes, Cond.selects RX3 yX3_takes yX3_takes, Cond.code yX3_takes cX3_takes 6 (some .int), Cond.methodLink RL 169 yL_over, Cond.static yL_over, Cond.codeWith yL_over cL_over 6 (some .int) [(0, 12, 15, 19), (0, 12, 19, 21), (0, 12, 23, 13)], Cond.methodLink RL 60 yX2_over, Cond.instanceMethod yX2_over]
def wsL_law_0_r22 : List Cond := [Cond.selects RX2 yX2_over yX2_over, Cond.code yX2_over cX2_over 6 (some .int), Cond.methodLink RL 171 yX3_over, Cond.instanceMethod yX3_over, Cond.selects RX3 yX3_over yX3_over, Cond.code yX3_over cX3_over 6 (some .int), Cond.methodLink RL 172 yL_discount, Cond.static yL_discount, Cond.codeWith yL_discount cL_discount 4 (some .int) [(0, 9, 12, 21)], Cond.methodLink RL 63 yX2_discount, Cond.instanceMethod yX2_discount, Cond.selects RX2 yX2_discount yX2_discount, Cond.code yX2_discount cX2_discount 3 (some .int), Cond.methodLink RL 174 yX3_discount, Cond.instanceMethod yX3_discount, Cond.selects RX3 yX3_discount yX3_discount, Cond.code yX3_discount cX3_discount 3 (some .int), Cond.methodLink RL 175 yL_change, Cond.static yL_change, Cond.codeWith yL_change cL_change 5 (some .int) [(0, 10, 13, 19), (0, 10, 17, 21), (0, 10, 21, 13)], Cond.methodLink RL 66 yX2_change, Cond.instanceMethod yX2_change, Cond.selects RX2 yX2_change yX2_change, Cond.code yX2_change cX2_change 5 (some .int)]
def wsL_law_0_r23 : List Cond := [Cond.constant RX2 175 (100000), Cond.methodLink RX2 176 yX0_allScrip, Cond.methodLink RL 177 yX3_change, Cond.instanceMethod yX3_change, Cond.selects RX3 yX3_change yX3_change, Cond.code yX3_change cX3_change 5 (some .int), Cond.constant RX3 154 (100000), Cond.methodLink RL 178 yL_law, Cond.static yL_law, Cond.codeWith yL_law cL_law 5 (some .int) [(0, 17, 20, 19)], Cond.methodLink RL 69 yX2_law, Cond.instanceMethod yX2_law, Cond.selects RX2 yX2_law yX2_law, Cond.code yX2_law cX2_law 4 (some .boolean), Cond.methodLink RL 181 yX3_law, Cond.instanceMethod yX3_law, Cond.selects RX3 yX3_law yX3_law, Cond.code yX3_law cX3_law 4 (some .boolean), Cond.methodLink RL 182 yX2_obey, Cond.instanceMethod yX2_obey, Cond.selects RX2 yX2_obey yX2_obey, Cond.code yX2_obey cX2_obey 3 (some .boolean), Cond.methodLink RL 185 yX3_obey, Cond.instanceMethod yX3_obey]
def wsL_law_0_r24 : List Cond := [Cond.selects RX3 yX3_obey yX3_obey, Cond.code yX3_obey cX3_obey 3 (some .boolean), Cond.methodLink RL 186 yX2_breaches, Cond.instanceMethod yX2_breaches, Cond.selects RX2 yX2_breaches yX2_breaches, Cond.code yX2_breaches cX2_breaches 1 (some .int), Cond.methodLink RL 189 yX3_breaches, Cond.instanceMethod yX3_breaches, Cond.selects RX3 yX3_breaches yX3_breaches, Cond.code yX3_breaches cX3_breaches 1 (some .int), Cond.methodLink RL 190 yL_die, Cond.static yL_die, Cond.codeWith yL_die cL_die 4 (some .int) [(0, 9, 12, 19), (0, 9, 15, 13)], Cond.methodLink RL 73 yX2_die, Cond.instanceMethod yX2_die, Cond.selects RX2 yX2_die yX2_die, Cond.code yX2_die cX2_die 4 (some .int), Cond.methodLink RX2 191 yX2_heirOf, Cond.instanceMethod yX2_heirOf, Cond.selects RX2 yX2_heirOf yX2_heirOf, Cond.code yX2_heirOf cX2_heirOf 5 (some .int), Cond.methodLink RX2 195 yX0_inherit, Cond.instanceMethod yX0_inherit, Cond.selects RX0 yX0_inherit yX0_inherit]
def wsL_law_0_r25 : List Cond := [Cond.code yX0_inherit cX0_inherit 4 none, Cond.fieldLink RX0 55 "ScripHollow$Miner" "debt" "I", Cond.fieldLink RX0 58 "ScripHollow$Miner" "arrears" "I", Cond.methodLink RX0 51 yX0_gainScrip, Cond.methodLink RX2 199 yX0_leaveAll, Cond.instanceMethod yX0_leaveAll, Cond.selects RX0 yX0_leaveAll yX0_leaveAll, Cond.code yX0_leaveAll cX0_leaveAll 2 none, Cond.fieldLink RX0 61 "ScripHollow$Miner" "coal" "I", Cond.methodLink RX0 64 yX0_loseLowestScrip, Cond.methodLink RL 192 yX3_die, Cond.instanceMethod yX3_die, Cond.selects RX3 yX3_die yX3_die, Cond.code yX3_die cX3_die 3 (some .int), Cond.methodLink RX3 155 yX3_heirOf, Cond.instanceMethod yX3_heirOf, Cond.selects RX3 yX3_heirOf yX3_heirOf, Cond.code yX3_heirOf cX3_heirOf 3 (some .int), Cond.methodLink RX3 158 yX3_leaves, Cond.instanceMethod yX3_leaves, Cond.selects RX3 yX3_leaves yX3_leaves, Cond.code yX3_leaves cX3_leaves 5 none, Cond.methodLink RL 193 yL_vote, Cond.static yL_vote]
def wsL_law_0_r26 : List Cond := [Cond.codeWith yL_vote cL_vote 5 (some .int) [(0, 17, 20, 19)], Cond.methodLink RL 76 yX2_vote, Cond.instanceMethod yX2_vote, Cond.selects RX2 yX2_vote yX2_vote, Cond.code yX2_vote cX2_vote 5 (some .boolean), Cond.fieldLink RX2 202 "ScripHollow$Miner" "isForStrike" "Z", Cond.methodLink RL 195 yX3_vote, Cond.instanceMethod yX3_vote, Cond.selects RX3 yX3_vote yX3_vote, Cond.code yX3_vote cX3_vote 4 (some .boolean), Cond.methodLink RL 196 yL_strike, Cond.static yL_strike, Cond.codeWith yL_strike cL_strike 3 (some .int) [(0, 15, 18, 13)], Cond.methodLink RL 79 yX2_strike, Cond.instanceMethod yX2_strike, Cond.selects RX2 yX2_strike yX2_strike, Cond.code yX2_strike cX2_strike 1 (some .boolean), Cond.methodLink RX2 205 yX2_canStrike, Cond.instanceMethod yX2_canStrike, Cond.selects RX2 yX2_canStrike yX2_canStrike, Cond.code yX2_canStrike cX2_canStrike 4 (some .boolean), Cond.methodLink RL 198 yX3_strike, Cond.instanceMethod yX3_strike, Cond.selects RX3 yX3_strike yX3_strike]
def wsL_law_0_r27 : List Cond := [Cond.code yX3_strike cX3_strike 3 (some .boolean), Cond.methodLink RL 199 yL_give, Cond.static yL_give, Cond.codeWith yL_give cL_give 4 (some .int) [(0, 9, 12, 21)], Cond.methodLink RL 83 yX2_give, Cond.instanceMethod yX2_give, Cond.selects RX2 yX2_give yX2_give, Cond.code yX2_give cX2_give 2 (some .int), Cond.fieldLink RX2 211 "ScripHollow" "fund" "I", Cond.methodLink RL 201 yX3_give, Cond.instanceMethod yX3_give, Cond.selects RX3 yX3_give yX3_give, Cond.code yX3_give cX3_give 2 (some .int), Cond.fieldLink RX3 161 "ScripHollowModel" "fund" "I", Cond.methodLink RL 202 yL_soup, Cond.static yL_soup, Cond.codeWith yL_soup cL_soup 3 (some .int) [(0, 8, 11, 13)], Cond.methodLink RL 86 yX2_soup, Cond.instanceMethod yX2_soup, Cond.selects RX2 yX2_soup yX2_soup, Cond.code yX2_soup cX2_soup 4 (some .int), Cond.methodLink RX2 216 yX2_poorestBut, Cond.instanceMethod yX2_poorestBut, Cond.selects RX2 yX2_poorestBut yX2_poorestBut]
def wsL_law_0_r28 : List Cond := [Cond.code yX2_poorestBut cX2_poorestBut 7 (some .int), Cond.methodLink RL 204 yX3_soup, Cond.instanceMethod yX3_soup, Cond.selects RX3 yX3_soup yX3_soup, Cond.code yX3_soup cX3_soup 5 (some .int), Cond.methodLink RL 205 yL_close, Cond.static yL_close, Cond.codeWith yL_close cL_close 4 (some .int) [(0, 9, 12, 21), (0, 9, 15, 13)], Cond.methodLink RL 89 yX2_close, Cond.instanceMethod yX2_close, Cond.selects RX2 yX2_close yX2_close, Cond.code yX2_close cX2_close 4 (some .int), Cond.methodLink RX2 221 yX2_redeem, Cond.instanceMethod yX2_redeem, Cond.selects RX2 yX2_redeem yX2_redeem, Cond.code yX2_redeem cX2_redeem 9 (some .int), Cond.methodLink RL 207 yX3_close, Cond.instanceMethod yX3_close, Cond.selects RX3 yX3_close yX3_close, Cond.code yX3_close cX3_close 4 (some .int), Cond.methodLink RX3 164 yX3_redeems, Cond.instanceMethod yX3_redeems, Cond.selects RX3 yX3_redeems yX3_redeems, Cond.code yX3_redeems cX3_redeems 11 (some .int)]
def wsL_law_0_r29 : List Cond := [Cond.methodLink RL 208 yL_about, Cond.static yL_about, Cond.codeWith yL_about cL_about 5 (some .int) [(0, 10, 13, 19), (0, 10, 17, 21)], Cond.methodLink RL 92 yX2_about, Cond.instanceMethod yX2_about, Cond.selects RX2 yX2_about yX2_about, Cond.code yX2_about cX2_about 4 (some .int), Cond.methodLink RL 210 yX3_about, Cond.instanceMethod yX3_about, Cond.selects RX3 yX3_about yX3_about, Cond.code yX3_about cX3_about 3 (some .int), Cond.methodLink RL 211 yL_has, Cond.static yL_has, Cond.codeWith yL_has cL_has 5 (some .int) [(0, 10, 13, 19)], Cond.methodLink RL 95 yX2_has, Cond.instanceMethod yX2_has, Cond.selects RX2 yX2_has yX2_has, Cond.code yX2_has cX2_has 4 (some .int), Cond.methodLink RL 213 yX3_has, Cond.instanceMethod yX3_has, Cond.selects RX3 yX3_has yX3_has, Cond.code yX3_has cX3_has 3 (some .int), Cond.methodLink RL 214 yL_scrip, Cond.static yL_scrip]
def wsL_law_0_r30 : List Cond := [Cond.codeWith yL_scrip cL_scrip 5 (some .int) [(0, 10, 13, 19), (0, 10, 17, 21)], Cond.methodLink RL 98 yX2_scrip, Cond.instanceMethod yX2_scrip, Cond.selects RX2 yX2_scrip yX2_scrip, Cond.code yX2_scrip cX2_scrip 4 (some .int), Cond.methodLink RL 216 yX3_scrip, Cond.instanceMethod yX3_scrip, Cond.selects RX3 yX3_scrip yX3_scrip, Cond.code yX3_scrip cX3_scrip 3 (some .int), Cond.methodLink RL 217 yL_scripAnew, Cond.static yL_scripAnew, Cond.codeWith yL_scripAnew cL_scripAnew 4 (some .int) [(0, 9, 12, 19)], Cond.methodLink RL 101 yX2_scripAnew, Cond.instanceMethod yX2_scripAnew, Cond.selects RX2 yX2_scripAnew yX2_scripAnew, Cond.code yX2_scripAnew cX2_scripAnew 3 (some .int), Cond.fieldLink RX2 232 "ScripHollow$Miner" "scripCame" "I", Cond.fieldLink RX2 235 "ScripHollow$Miner" "scripWent" "I", Cond.methodLink RL 219 yX3_scripAnew, Cond.instanceMethod yX3_scripAnew, Cond.selects RX3 yX3_scripAnew yX3_scripAnew, Cond.code yX3_scripAnew cX3_scripAnew 2 (some .int), Cond.methodLink RL 220 yL_baskets, Cond.static yL_baskets]
def wsL_law_0_r31 : List Cond := [Cond.codeWith yL_baskets cL_baskets 4 (some .int) [(0, 9, 12, 19)], Cond.methodLink RL 104 yX2_baskets, Cond.instanceMethod yX2_baskets, Cond.selects RX2 yX2_baskets yX2_baskets, Cond.code yX2_baskets cX2_baskets 5 (some .int), Cond.methodLink RL 222 yX3_baskets, Cond.instanceMethod yX3_baskets, Cond.selects RX3 yX3_baskets yX3_baskets, Cond.code yX3_baskets cX3_baskets 4 (some .int), Cond.methodLink RL 223 yL_books, Cond.static yL_books, Cond.codeWith yL_books cL_books 4 (some .int) [(0, 9, 12, 19)], Cond.methodLink RL 107 yX2_books, Cond.instanceMethod yX2_books, Cond.selects RX2 yX2_books yX2_books, Cond.code yX2_books cX2_books 2 (some .int), Cond.methodLink RL 225 yX3_books, Cond.instanceMethod yX3_books, Cond.selects RX3 yX3_books yX3_books, Cond.code yX3_books cX3_books 2 (some .int)]
def wsL_law_0 : List Cond := (wsL_law_0_r1 ++ (wsL_law_0_r2 ++ (wsL_law_0_r3 ++ (wsL_law_0_r4 ++ (wsL_law_0_r5 ++ (wsL_law_0_r6 ++ (wsL_law_0_r7 ++ (wsL_law_0_r8 ++ (wsL_law_0_r9 ++ (wsL_law_0_r10 ++ (wsL_law_0_r11 ++ (wsL_law_0_r12 ++ (wsL_law_0_r13 ++ (wsL_law_0_r14 ++ (wsL_law_0_r15 ++ (wsL_law_0_r16 ++ (wsL_law_0_r17 ++ (wsL_law_0_r18 ++ (wsL_law_0_r19 ++ (wsL_law_0_r20 ++ (wsL_law_0_r21 ++ (wsL_law_0_r22 ++ (wsL_law_0_r23 ++ (wsL_law_0_r24 ++ (wsL_law_0_r25 ++ (wsL_law_0_r26 ++ (wsL_law_0_r27 ++ (wsL_law_0_r28 ++ (wsL_law_0_r29 ++ (wsL_law_0_r30 ++ wsL_law_0_r31)))))))))))))))))))))))))))))) ++ wsX20 ++ wsX30 ++ wsJx4a65c0 ++ wsX10 ++ wsX00 ++ ([] : List Cond)
def wsL_law_ : List Cond := wsL_law_0 ++ (vx_atS RX2 61 "java/lang/IllegalStateException" ["java/lang/RuntimeException", "java/lang/Exception"]).filter goodWord ++ (vx_atS RX2 79 "java/lang/IllegalArgumentException" ["java/lang/RuntimeException", "java/lang/Exception"]).filter goodWord ++ (vx_atS RX2 242 "java/lang/IndexOutOfBoundsException" ["java/lang/RuntimeException", "java/lang/Exception"]).filter goodWord
theorem inlX0 : ∀ w ∈ wsX00, w ∈ wsL_law_ := fun _ h => List.mem_append_left _ (List.mem_append_left _ (List.mem_append_left _ (List.mem_append_left _ (List.mem_append_right _ h))))
theorem inlX1 : ∀ w ∈ wsX10, w ∈ wsL_law_ := fun _ h => List.mem_append_left _ (List.mem_append_left _ (List.mem_append_left _ (List.mem_append_left _ (List.mem_append_left _ (List.mem_append_right _ h)))))
theorem inlX2 : ∀ w ∈ wsX20, w ∈ wsL_law_ := fun _ h => List.mem_append_left _ (List.mem_append_left _ (List.mem_append_left _ (List.mem_append_left _ (List.mem_append_left _ (List.mem_append_left _ (List.mem_append_left _ (List.mem_append_left _ (List.mem_append_right _ h))))))))
theorem inlX3 : ∀ w ∈ wsX30, w ∈ wsL_law_ := fun _ h => List.mem_append_left _ (List.mem_append_left _ (List.mem_append_left _ (List.mem_append_left _ (List.mem_append_left _ (List.mem_append_left _ (List.mem_append_left _ (List.mem_append_right _ h)))))))
theorem inlJx4a65c : ∀ w ∈ wsJx4a65c0, w ∈ wsL_law_ := fun _ h => List.mem_append_left _ (List.mem_append_left _ (List.mem_append_left _ (List.mem_append_left _ (List.mem_append_left _ (List.mem_append_left _ (List.mem_append_right _ h))))))
end
section
abbrev GW : List Cond := wsL_law_
theorem mw_0 : Cond.classLink RL 8 RX2 ∈ GW := List.mem_of_getElem? (i := 0) (by decide +kernel)
theorem mw_1 : Cond.instantiable RX2 18 ∈ GW := List.mem_of_getElem? (i := 1) (by decide +kernel)
theorem mw_2 : Cond.initialized RX2 ∈ GW := List.mem_of_getElem? (i := 2) (by decide +kernel)
theorem mw_3 : Cond.classLink RL 111 RX3 ∈ GW := List.mem_of_getElem? (i := 3) (by decide +kernel)
theorem mw_4 : Cond.instantiable RX3 30 ∈ GW := List.mem_of_getElem? (i := 4) (by decide +kernel)
theorem mw_5 : Cond.initialized RX3 ∈ GW := List.mem_of_getElem? (i := 5) (by decide +kernel)
theorem mw_6 : Cond.arrayClass .long ∈ GW := List.mem_of_getElem? (i := 6) (by decide +kernel)
theorem mw_7 : Cond.methodLink RL 110 yX2_init ∈ GW := List.mem_of_getElem? (i := 7) (by decide +kernel)
theorem mw_8 : Cond.instanceMethod yX2_init ∈ GW := List.mem_of_getElem? (i := 8) (by decide +kernel)
theorem mw_9 : Cond.code yX2_init cX2_init 1 none ∈ GW := List.mem_of_getElem? (i := 9) (by decide +kernel)
theorem mw_10 : Cond.methodLink RX2 1 objectInit ∈ GW := List.mem_of_getElem? (i := 10) (by decide +kernel)
theorem mw_11 : Cond.instanceMethod objectInit ∈ GW := List.mem_of_getElem? (i := 11) (by decide +kernel)
theorem mw_12 : Cond.code objectInit ⟨#[0xb1]⟩ 1 none ∈ GW := List.mem_of_getElem? (i := 12) (by decide +kernel)
theorem mw_13 : Cond.classLink RX2 7 RJx4a65c ∈ GW := List.mem_of_getElem? (i := 13) (by decide +kernel)
theorem mw_14 : Cond.instantiable RJx4a65c 3 ∈ GW := List.mem_of_getElem? (i := 14) (by decide +kernel)
theorem mw_15 : Cond.initialized RJx4a65c ∈ GW := List.mem_of_getElem? (i := 15) (by decide +kernel)
theorem mw_16 : Cond.fieldLink RX2 10 "ScripHollow" "miners" "Ljava/util/ArrayList;" ∈ GW := List.mem_of_getElem? (i := 16) (by decide +kernel)
theorem mw_17 : Cond.fieldLink RX2 16 "ScripHollow" "dockPercent" "I" ∈ GW := List.mem_of_getElem? (i := 17) (by decide +kernel)
theorem mw_18 : Cond.fieldLink RX2 20 "ScripHollow" "row" "I" ∈ GW := List.mem_of_getElem? (i := 18) (by decide +kernel)
theorem mw_19 : Cond.arrayClass .int ∈ GW := List.mem_of_getElem? (i := 19) (by decide +kernel)
theorem mw_20 : Cond.fieldLink RX2 23 "ScripHollow" "told" "[I" ∈ GW := List.mem_of_getElem? (i := 20) (by decide +kernel)
theorem mw_21 : Cond.classLink RX2 27 RX1 ∈ GW := List.mem_of_getElem? (i := 21) (by decide +kernel)
theorem mw_22 : Cond.instantiable RX1 4 ∈ GW := List.mem_of_getElem? (i := 22) (by decide +kernel)
theorem mw_23 : Cond.initialized RX1 ∈ GW := List.mem_of_getElem? (i := 23) (by decide +kernel)
theorem mw_24 : Cond.fieldLink RX2 30 "ScripHollow" "slip" "LScripHollow$Slip;" ∈ GW := List.mem_of_getElem? (i := 24) (by decide +kernel)
theorem mw_25 : Cond.fieldLink RX2 34 "ScripHollow" "storePrices" "[I" ∈ GW := List.mem_of_getElem? (i := 25) (by decide +kernel)
theorem mw_26 : Cond.fieldLink RX2 37 "ScripHollow" "hillPrices" "[I" ∈ GW := List.mem_of_getElem? (i := 26) (by decide +kernel)
theorem mw_27 : Cond.fieldLink RX2 40 "ScripHollow" "mostDebt" "I" ∈ GW := List.mem_of_getElem? (i := 27) (by decide +kernel)
theorem mw_28 : Cond.fieldLink RX2 43 "ScripHollow" "tavernPercent" "I" ∈ GW := List.mem_of_getElem? (i := 28) (by decide +kernel)
theorem mw_29 : Cond.arrayClass .boolean ∈ GW := List.mem_of_getElem? (i := 29) (by decide +kernel)
theorem mw_30 : Cond.fieldLink RX2 46 "ScripHollow" "laws" "[Z" ∈ GW := List.mem_of_getElem? (i := 30) (by decide +kernel)
theorem mw_31 : Cond.fieldLink RX2 50 "ScripHollow" "lines" "[I" ∈ GW := List.mem_of_getElem? (i := 31) (by decide +kernel)
theorem mw_32 : Cond.methodLink RX2 9 yJx4a65c_init_da8c8 ∈ GW := List.mem_of_getElem? (i := 32) (by decide +kernel)
theorem mw_33 : Cond.instanceMethod yJx4a65c_init_da8c8 ∈ GW := List.mem_of_getElem? (i := 33) (by decide +kernel)
theorem mw_34 : Cond.code yJx4a65c_init_da8c8 cJx4a65c_init_da8c8 1 none ∈ GW := List.mem_of_getElem? (i := 34) (by decide +kernel)
theorem mw_35 : Cond.fieldLink RJx4a65c 39 "java/util/ArrayList" "DEFAULTCAPACITY_EMPTY_ELEMENTDATA" "[Ljava/lang/Object;" ∈ GW := List.mem_of_getElem? (i := 35) (by decide +kernel)
theorem mw_36 : Cond.fieldLink RJx4a65c 9 "java/util/ArrayList" "elementData" "[Ljava/lang/Object;" ∈ GW := List.mem_of_getElem? (i := 36) (by decide +kernel)
theorem mw_37 : Cond.methodLink RJx4a65c 1 yJxc12de_init_da8c8 ∈ GW := List.mem_of_getElem? (i := 37) (by decide +kernel)
theorem mw_38 : Cond.instanceMethod yJxc12de_init_da8c8 ∈ GW := List.mem_of_getElem? (i := 38) (by decide +kernel)
theorem mw_39 : Cond.initialized RJxc12de ∈ GW := List.mem_of_getElem? (i := 39) (by decide +kernel)
theorem mw_40 : Cond.code yJxc12de_init_da8c8 cJxc12de_init_da8c8 1 none ∈ GW := List.mem_of_getElem? (i := 40) (by decide +kernel)
theorem mw_41 : Cond.fieldLink RJxc12de 7 "java/util/AbstractList" "modCount" "I" ∈ GW := List.mem_of_getElem? (i := 41) (by decide +kernel)
theorem mw_42 : Cond.methodLink RJxc12de 1 yJxa1e45_init_da8c8 ∈ GW := List.mem_of_getElem? (i := 42) (by decide +kernel)
theorem mw_43 : Cond.instanceMethod yJxa1e45_init_da8c8 ∈ GW := List.mem_of_getElem? (i := 43) (by decide +kernel)
theorem mw_44 : Cond.initialized RJxa1e45 ∈ GW := List.mem_of_getElem? (i := 44) (by decide +kernel)
theorem mw_45 : Cond.code yJxa1e45_init_da8c8 cJxa1e45_init_da8c8 1 none ∈ GW := List.mem_of_getElem? (i := 45) (by decide +kernel)
theorem mw_46 : Cond.methodLink RJxa1e45 1 objectInit ∈ GW := List.mem_of_getElem? (i := 46) (by decide +kernel)
theorem mw_47 : Cond.instanceMethod yX1_init ∈ GW := List.mem_of_getElem? (i := 47) (by decide +kernel)
theorem mw_48 : Cond.code yX1_init cX1_init 1 none ∈ GW := List.mem_of_getElem? (i := 48) (by decide +kernel)
theorem mw_49 : Cond.methodLink RX1 3 objectInit ∈ GW := List.mem_of_getElem? (i := 49) (by decide +kernel)
theorem mw_50 : Cond.methodLink RL 113 yX3_init ∈ GW := List.mem_of_getElem? (i := 50) (by decide +kernel)
theorem mw_51 : Cond.instanceMethod yX3_init ∈ GW := List.mem_of_getElem? (i := 51) (by decide +kernel)
theorem mw_52 : Cond.code yX3_init cX3_init 2 none ∈ GW := List.mem_of_getElem? (i := 52) (by decide +kernel)
theorem mw_53 : Cond.methodLink RX3 1 objectInit ∈ GW := List.mem_of_getElem? (i := 53) (by decide +kernel)
theorem mw_54 : Cond.fieldLink RX3 7 "ScripHollowModel" "alive" "[Z" ∈ GW := List.mem_of_getElem? (i := 54) (by decide +kernel)
theorem mw_55 : Cond.fieldLink RX3 13 "ScripHollowModel" "houses" "[Z" ∈ GW := List.mem_of_getElem? (i := 55) (by decide +kernel)
theorem mw_56 : Cond.fieldLink RX3 16 "ScripHollowModel" "votes" "[Z" ∈ GW := List.mem_of_getElem? (i := 56) (by decide +kernel)
theorem mw_57 : Cond.fieldLink RX3 19 "ScripHollowModel" "coal" "[I" ∈ GW := List.mem_of_getElem? (i := 57) (by decide +kernel)
theorem mw_58 : Cond.fieldLink RX3 23 "ScripHollowModel" "coin" "[I" ∈ GW := List.mem_of_getElem? (i := 58) (by decide +kernel)
theorem mw_59 : Cond.fieldLink RX3 26 "ScripHollowModel" "debts" "[I" ∈ GW := List.mem_of_getElem? (i := 59) (by decide +kernel)
theorem mw_60 : Cond.fieldLink RX3 29 "ScripHollowModel" "arrears" "[I" ∈ GW := List.mem_of_getElem? (i := 60) (by decide +kernel)
theorem mw_61 : Cond.fieldLink RX3 32 "ScripHollowModel" "owed" "[I" ∈ GW := List.mem_of_getElem? (i := 61) (by decide +kernel)
theorem mw_62 : Cond.fieldLink RX3 35 "ScripHollowModel" "latest" "[I" ∈ GW := List.mem_of_getElem? (i := 62) (by decide +kernel)
theorem mw_63 : Cond.fieldLink RX3 38 "ScripHollowModel" "kins" "[I" ∈ GW := List.mem_of_getElem? (i := 63) (by decide +kernel)
theorem mw_64 : Cond.fieldLink RX3 41 "ScripHollowModel" "scrip" "[I" ∈ GW := List.mem_of_getElem? (i := 64) (by decide +kernel)
theorem mw_65 : Cond.fieldLink RX3 44 "ScripHollowModel" "goods" "[I" ∈ GW := List.mem_of_getElem? (i := 65) (by decide +kernel)
theorem mw_66 : Cond.fieldLink RX3 47 "ScripHollowModel" "met" "[Z" ∈ GW := List.mem_of_getElem? (i := 66) (by decide +kernel)
theorem mw_67 : Cond.fieldLink RX3 50 "ScripHollowModel" "amounts" "[I" ∈ GW := List.mem_of_getElem? (i := 67) (by decide +kernel)
theorem mw_68 : Cond.fieldLink RX3 53 "ScripHollowModel" "prices" "[I" ∈ GW := List.mem_of_getElem? (i := 68) (by decide +kernel)
theorem mw_69 : Cond.fieldLink RX3 56 "ScripHollowModel" "laws" "[Z" ∈ GW := List.mem_of_getElem? (i := 69) (by decide +kernel)
theorem mw_70 : Cond.fieldLink RX3 59 "ScripHollowModel" "books" "[I" ∈ GW := List.mem_of_getElem? (i := 70) (by decide +kernel)
theorem mw_71 : Cond.fieldLink RX3 62 "ScripHollowModel" "dock" "I" ∈ GW := List.mem_of_getElem? (i := 71) (by decide +kernel)
theorem mw_72 : Cond.fieldLink RX3 66 "ScripHollowModel" "edition" "I" ∈ GW := List.mem_of_getElem? (i := 72) (by decide +kernel)
theorem mw_73 : Cond.fieldLink RX3 69 "ScripHollowModel" "limit" "I" ∈ GW := List.mem_of_getElem? (i := 73) (by decide +kernel)
theorem mw_74 : Cond.fieldLink RX3 72 "ScripHollowModel" "discount" "I" ∈ GW := List.mem_of_getElem? (i := 74) (by decide +kernel)
theorem mw_75 : Cond.methodLink RL 114 yL_miner ∈ GW := List.mem_of_getElem? (i := 75) (by decide +kernel)
theorem mw_76 : Cond.static yL_miner ∈ GW := List.mem_of_getElem? (i := 76) (by decide +kernel)
theorem mw_77 : Cond.initialized RL ∈ GW := List.mem_of_getElem? (i := 77) (by decide +kernel)
theorem mw_78 : Cond.codeWith yL_miner cL_miner 3 (some .int) [(0, 8, 11, 13)] ∈ GW := List.mem_of_getElem? (i := 78) (by decide +kernel)
theorem mw_79 : Cond.classLink RL 13 "java/lang/IllegalStateException" ∈ GW := List.mem_of_getElem? (i := 79) (by decide +kernel)
theorem mw_80 : Cond.methodLink RL 7 yX2_miner ∈ GW := List.mem_of_getElem? (i := 80) (by decide +kernel)
theorem mw_81 : Cond.instanceMethod yX2_miner ∈ GW := List.mem_of_getElem? (i := 81) (by decide +kernel)
theorem mw_82 : Cond.selects RX2 yX2_miner yX2_miner ∈ GW := List.mem_of_getElem? (i := 82) (by decide +kernel)
theorem mw_83 : Cond.code yX2_miner cX2_miner 1 (some .int) ∈ GW := List.mem_of_getElem? (i := 83) (by decide +kernel)
theorem mw_84 : Cond.classLink RX2 57 "java/lang/IllegalStateException" ∈ GW := List.mem_of_getElem? (i := 84) (by decide +kernel)
theorem mw_85 : Cond.initialized "java/lang/IllegalStateException" ∈ GW := List.mem_of_getElem? (i := 85) (by decide +kernel)
theorem mw_86 : Cond.classLink RX2 64 RX0 ∈ GW := List.mem_of_getElem? (i := 86) (by decide +kernel)
theorem mw_87 : Cond.instantiable RX0 14 ∈ GW := List.mem_of_getElem? (i := 87) (by decide +kernel)
theorem mw_88 : Cond.initialized RX0 ∈ GW := List.mem_of_getElem? (i := 88) (by decide +kernel)
theorem mw_89 : Cond.methodLink RX2 53 yJx4a65c_size_8abf5 ∈ GW := List.mem_of_getElem? (i := 89) (by decide +kernel)
theorem mw_90 : Cond.instanceMethod yJx4a65c_size_8abf5 ∈ GW := List.mem_of_getElem? (i := 90) (by decide +kernel)
theorem mw_91 : Cond.selects RJx4a65c yJx4a65c_size_8abf5 yJx4a65c_size_8abf5 ∈ GW := List.mem_of_getElem? (i := 91) (by decide +kernel)
theorem mw_92 : Cond.code yJx4a65c_size_8abf5 cJx4a65c_size_8abf5 1 (some .int) ∈ GW := List.mem_of_getElem? (i := 92) (by decide +kernel)
theorem mw_93 : Cond.fieldLink RJx4a65c 48 "java/util/ArrayList" "size" "I" ∈ GW := List.mem_of_getElem? (i := 93) (by decide +kernel)
theorem mw_94 : Cond.instanceMethod yX0_init ∈ GW := List.mem_of_getElem? (i := 94) (by decide +kernel)
theorem mw_95 : Cond.code yX0_init cX0_init 1 none ∈ GW := List.mem_of_getElem? (i := 95) (by decide +kernel)
theorem mw_96 : Cond.methodLink RX0 3 objectInit ∈ GW := List.mem_of_getElem? (i := 96) (by decide +kernel)
theorem mw_97 : Cond.fieldLink RX0 9 "ScripHollow$Miner" "isAlive" "Z" ∈ GW := List.mem_of_getElem? (i := 97) (by decide +kernel)
theorem mw_98 : Cond.fieldLink RX0 15 "ScripHollow$Miner" "hasHouse" "Z" ∈ GW := List.mem_of_getElem? (i := 98) (by decide +kernel)
theorem mw_99 : Cond.fieldLink RX0 18 "ScripHollow$Miner" "kinNumber" "I" ∈ GW := List.mem_of_getElem? (i := 99) (by decide +kernel)
theorem mw_100 : Cond.fieldLink RX0 22 "ScripHollow$Miner" "goodsHeld" "[I" ∈ GW := List.mem_of_getElem? (i := 100) (by decide +kernel)
theorem mw_101 : Cond.fieldLink RX0 26 "ScripHollow$Miner" "scripHeld" "[I" ∈ GW := List.mem_of_getElem? (i := 101) (by decide +kernel)
theorem mw_102 : Cond.methodLink RX2 67 yJx4a65c_add_9ea2d ∈ GW := List.mem_of_getElem? (i := 102) (by decide +kernel)
theorem mw_103 : Cond.instanceMethod yJx4a65c_add_9ea2d ∈ GW := List.mem_of_getElem? (i := 103) (by decide +kernel)
theorem mw_104 : Cond.selects RJx4a65c yJx4a65c_add_9ea2d yJx4a65c_add_9ea2d ∈ GW := List.mem_of_getElem? (i := 104) (by decide +kernel)
theorem mw_105 : Cond.code yJx4a65c_add_9ea2d cJx4a65c_add_9ea2d 2 (some .boolean) ∈ GW := List.mem_of_getElem? (i := 105) (by decide +kernel)
theorem mw_106 : Cond.fieldLink RJx4a65c 63 "java/util/ArrayList" "modCount" "I" ∈ GW := List.mem_of_getElem? (i := 106) (by decide +kernel)
theorem mw_107 : Cond.sameField "java/util/ArrayList" "java/util/AbstractList" "modCount" "I" ∈ GW := List.mem_of_getElem? (i := 107) (by decide +kernel)
theorem mw_108 : Cond.methodLink RJx4a65c 131 yJx4a65c_add_72be8 ∈ GW := List.mem_of_getElem? (i := 108) (by decide +kernel)
theorem mw_109 : Cond.instanceMethod yJx4a65c_add_72be8 ∈ GW := List.mem_of_getElem? (i := 109) (by decide +kernel)
theorem mw_110 : Cond.selects RJx4a65c yJx4a65c_add_72be8 yJx4a65c_add_72be8 ∈ GW := List.mem_of_getElem? (i := 110) (by decide +kernel)
theorem mw_111 : Cond.code yJx4a65c_add_72be8 cJx4a65c_add_72be8 4 none ∈ GW := List.mem_of_getElem? (i := 111) (by decide +kernel)
theorem mw_112 : Cond.methodLink RJx4a65c 129 yJx4a65c_grow_d5877 ∈ GW := List.mem_of_getElem? (i := 112) (by decide +kernel)
theorem mw_113 : Cond.instanceMethod yJx4a65c_grow_d5877 ∈ GW := List.mem_of_getElem? (i := 113) (by decide +kernel)
theorem mw_114 : Cond.selects RJx4a65c yJx4a65c_grow_d5877 yJx4a65c_grow_d5877 ∈ GW := List.mem_of_getElem? (i := 114) (by decide +kernel)
theorem mw_115 : Cond.code yJx4a65c_grow_d5877 cJx4a65c_grow_d5877 1 (some (.array (.object "java/lang/Object"))) ∈ GW := List.mem_of_getElem? (i := 115) (by decide +kernel)
theorem mw_116 : Cond.methodLink RJx4a65c 69 yJx4a65c_grow_92f84 ∈ GW := List.mem_of_getElem? (i := 116) (by decide +kernel)
theorem mw_117 : Cond.instanceMethod yJx4a65c_grow_92f84 ∈ GW := List.mem_of_getElem? (i := 117) (by decide +kernel)
theorem mw_118 : Cond.selects RJx4a65c yJx4a65c_grow_92f84 yJx4a65c_grow_92f84 ∈ GW := List.mem_of_getElem? (i := 118) (by decide +kernel)
theorem mw_119 : Cond.code yJx4a65c_grow_92f84 cJx4a65c_grow_92f84 4 (some (.array (.object "java/lang/Object"))) ∈ GW := List.mem_of_getElem? (i := 119) (by decide +kernel)
theorem mw_120 : Cond.methodLink RJx4a65c 79 Lib.Math.max.name ∈ GW := List.mem_of_getElem? (i := 120) (by decide +kernel)
theorem mw_121 : Cond.static Lib.Math.max.name ∈ GW := List.mem_of_getElem? (i := 121) (by decide +kernel)
theorem mw_122 : Cond.initialized "java/lang/Math" ∈ GW := List.mem_of_getElem? (i := 122) (by decide +kernel)
theorem mw_123 : Cond.code Lib.Math.max.name Lib.Math.max.code 2 (some .int) ∈ GW := List.mem_of_getElem? (i := 123) (by decide +kernel)
theorem mw_124 : Cond.classLink RJx4a65c 7 "java/lang/Object" ∈ GW := List.mem_of_getElem? (i := 124) (by decide +kernel)
theorem mw_125 : Cond.methodLink RJx4a65c 73 yJ8_newLength_cabcc ∈ GW := List.mem_of_getElem? (i := 125) (by decide +kernel)
theorem mw_126 : Cond.static yJ8_newLength_cabcc ∈ GW := List.mem_of_getElem? (i := 126) (by decide +kernel)
theorem mw_127 : Cond.initialized RJ8 ∈ GW := List.mem_of_getElem? (i := 127) (by decide +kernel)
theorem mw_128 : Cond.code yJ8_newLength_cabcc cJ8_newLength_cabcc 4 (some .int) ∈ GW := List.mem_of_getElem? (i := 128) (by decide +kernel)
theorem mw_129 : Cond.methodLink RJ8 194 Lib.Math.max.name ∈ GW := List.mem_of_getElem? (i := 129) (by decide +kernel)
theorem mw_130 : Cond.constant RJ8 200 (2147483639) ∈ GW := List.mem_of_getElem? (i := 130) (by decide +kernel)
theorem mw_131 : Cond.methodLink RJ8 201 yJ8_hugeLength_7cf53 ∈ GW := List.mem_of_getElem? (i := 131) (by decide +kernel)
theorem mw_132 : Cond.static yJ8_hugeLength_7cf53 ∈ GW := List.mem_of_getElem? (i := 132) (by decide +kernel)
theorem mw_133 : Cond.code yJ8_hugeLength_7cf53 cJ8_hugeLength_7cf53 3 (some .int) ∈ GW := List.mem_of_getElem? (i := 133) (by decide +kernel)
theorem mw_134 : Cond.methodLink RJx4a65c 66 yJ7_copyOf_1904c ∈ GW := List.mem_of_getElem? (i := 134) (by decide +kernel)
theorem mw_135 : Cond.static yJ7_copyOf_1904c ∈ GW := List.mem_of_getElem? (i := 135) (by decide +kernel)
theorem mw_136 : Cond.initialized RJ7 ∈ GW := List.mem_of_getElem? (i := 136) (by decide +kernel)
theorem mw_137 : Cond.code yJ7_copyOf_1904c cJ7_copyOf_1904c 2 (some (.array (.object "java/lang/Object"))) ∈ GW := List.mem_of_getElem? (i := 137) (by decide +kernel)
theorem mw_138 : Cond.methodLink RJ7 86 ⟨"java/lang/Object", "getClass", "()Ljava/lang/Class;"⟩ ∈ GW := List.mem_of_getElem? (i := 138) (by decide +kernel)
theorem mw_139 : Cond.selects "[Ljava/lang/Object;" ⟨"java/lang/Object", "getClass", "()Ljava/lang/Class;"⟩ ⟨"java/lang/Object", "getClass", "()Ljava/lang/Class;"⟩ ∈ GW := List.mem_of_getElem? (i := 139) (by decide +kernel)
theorem mw_140 : Cond.instanceMethod ⟨"java/lang/Object", "getClass", "()Ljava/lang/Class;"⟩ ∈ GW := List.mem_of_getElem? (i := 140) (by decide +kernel)
theorem mw_141 : Cond.native ⟨"java/lang/Object", "getClass", "()Ljava/lang/Class;"⟩ ∈ GW := List.mem_of_getElem? (i := 141) (by decide +kernel)
theorem mw_142 : Cond.methodLink RJ7 300 yJ7_copyOf_6403c ∈ GW := List.mem_of_getElem? (i := 142) (by decide +kernel)
theorem mw_143 : Cond.static yJ7_copyOf_6403c ∈ GW := List.mem_of_getElem? (i := 143) (by decide +kernel)
theorem mw_144 : Cond.code yJ7_copyOf_6403c cJ7_copyOf_6403c 4 (some (.array (.object "java/lang/Object"))) ∈ GW := List.mem_of_getElem? (i := 144) (by decide +kernel)
theorem mw_145 : Cond.classLink RJ7 110 "[Ljava/lang/Object;" ∈ GW := List.mem_of_getElem? (i := 145) (by decide +kernel)
theorem mw_146 : Cond.classLink RJ7 2 "java/lang/Object" ∈ GW := List.mem_of_getElem? (i := 146) (by decide +kernel)
theorem mw_147 : Cond.methodLink RJ7 304 Lib.Math.min.name ∈ GW := List.mem_of_getElem? (i := 147) (by decide +kernel)
theorem mw_148 : Cond.static Lib.Math.min.name ∈ GW := List.mem_of_getElem? (i := 148) (by decide +kernel)
theorem mw_149 : Cond.code Lib.Math.min.name Lib.Math.min.code 2 (some .int) ∈ GW := List.mem_of_getElem? (i := 149) (by decide +kernel)
theorem mw_150 : Cond.methodLink RJ7 150 arraycopyName ∈ GW := List.mem_of_getElem? (i := 150) (by decide +kernel)
theorem mw_151 : Cond.native arraycopyName ∈ GW := List.mem_of_getElem? (i := 151) (by decide +kernel)
theorem mw_152 : Cond.static arraycopyName ∈ GW := List.mem_of_getElem? (i := 152) (by decide +kernel)
theorem mw_153 : Cond.initialized "java/lang/System" ∈ GW := List.mem_of_getElem? (i := 153) (by decide +kernel)
theorem mw_154 : Cond.methodLink RL 119 yX3_miner ∈ GW := List.mem_of_getElem? (i := 154) (by decide +kernel)
theorem mw_155 : Cond.instanceMethod yX3_miner ∈ GW := List.mem_of_getElem? (i := 155) (by decide +kernel)
theorem mw_156 : Cond.selects RX3 yX3_miner yX3_miner ∈ GW := List.mem_of_getElem? (i := 156) (by decide +kernel)
theorem mw_157 : Cond.code yX3_miner cX3_miner 1 (some .int) ∈ GW := List.mem_of_getElem? (i := 157) (by decide +kernel)
theorem mw_158 : Cond.fieldLink RX3 78 "ScripHollowModel" "many" "I" ∈ GW := List.mem_of_getElem? (i := 158) (by decide +kernel)
theorem mw_159 : Cond.methodLink RX3 89 yX3_goes ∈ GW := List.mem_of_getElem? (i := 159) (by decide +kernel)
theorem mw_160 : Cond.instanceMethod yX3_goes ∈ GW := List.mem_of_getElem? (i := 160) (by decide +kernel)
theorem mw_161 : Cond.selects RX3 yX3_goes yX3_goes ∈ GW := List.mem_of_getElem? (i := 161) (by decide +kernel)
theorem mw_162 : Cond.code yX3_goes cX3_goes 4 (some .boolean) ∈ GW := List.mem_of_getElem? (i := 162) (by decide +kernel)
theorem mw_163 : Cond.fieldLink RX3 75 "ScripHollowModel" "last" "I" ∈ GW := List.mem_of_getElem? (i := 163) (by decide +kernel)
theorem mw_164 : Cond.methodLink RL 120 yX3_thrown ∈ GW := List.mem_of_getElem? (i := 164) (by decide +kernel)
theorem mw_165 : Cond.instanceMethod yX3_thrown ∈ GW := List.mem_of_getElem? (i := 165) (by decide +kernel)
theorem mw_166 : Cond.selects RX3 yX3_thrown yX3_thrown ∈ GW := List.mem_of_getElem? (i := 166) (by decide +kernel)
theorem mw_167 : Cond.code yX3_thrown cX3_thrown 1 (some .int) ∈ GW := List.mem_of_getElem? (i := 167) (by decide +kernel)
theorem mw_168 : Cond.methodLink RL 123 yL_kin ∈ GW := List.mem_of_getElem? (i := 168) (by decide +kernel)
theorem mw_169 : Cond.static yL_kin ∈ GW := List.mem_of_getElem? (i := 169) (by decide +kernel)
theorem mw_170 : Cond.codeWith yL_kin cL_kin 5 (some .int) [(0, 10, 13, 19), (0, 10, 17, 21)] ∈ GW := List.mem_of_getElem? (i := 170) (by decide +kernel)
theorem mw_171 : Cond.classLink RL 19 "java/lang/IndexOutOfBoundsException" ∈ GW := List.mem_of_getElem? (i := 171) (by decide +kernel)
theorem mw_172 : Cond.classLink RL 21 "java/lang/IllegalArgumentException" ∈ GW := List.mem_of_getElem? (i := 172) (by decide +kernel)
theorem mw_173 : Cond.methodLink RL 15 yX2_kin ∈ GW := List.mem_of_getElem? (i := 173) (by decide +kernel)
theorem mw_174 : Cond.instanceMethod yX2_kin ∈ GW := List.mem_of_getElem? (i := 174) (by decide +kernel)
theorem mw_175 : Cond.selects RX2 yX2_kin yX2_kin ∈ GW := List.mem_of_getElem? (i := 175) (by decide +kernel)
theorem mw_176 : Cond.code yX2_kin cX2_kin 5 (some .int) ∈ GW := List.mem_of_getElem? (i := 176) (by decide +kernel)
theorem mw_177 : Cond.classLink RX2 75 "java/lang/IllegalArgumentException" ∈ GW := List.mem_of_getElem? (i := 177) (by decide +kernel)
theorem mw_178 : Cond.initialized "java/lang/IllegalArgumentException" ∈ GW := List.mem_of_getElem? (i := 178) (by decide +kernel)
theorem mw_179 : Cond.fieldLink RX2 80 "ScripHollow$Miner" "kinNumber" "I" ∈ GW := List.mem_of_getElem? (i := 179) (by decide +kernel)
theorem mw_180 : Cond.methodLink RX2 71 yX2_minerAt ∈ GW := List.mem_of_getElem? (i := 180) (by decide +kernel)
theorem mw_181 : Cond.instanceMethod yX2_minerAt ∈ GW := List.mem_of_getElem? (i := 181) (by decide +kernel)
theorem mw_182 : Cond.selects RX2 yX2_minerAt yX2_minerAt ∈ GW := List.mem_of_getElem? (i := 182) (by decide +kernel)
theorem mw_183 : Cond.code yX2_minerAt cX2_minerAt 2 (some (.object "ScripHollow$Miner")) ∈ GW := List.mem_of_getElem? (i := 183) (by decide +kernel)
theorem mw_184 : Cond.classLink RX2 64 "ScripHollow$Miner" ∈ GW := List.mem_of_getElem? (i := 184) (by decide +kernel)
theorem mw_185 : Cond.methodLink RX2 181 yX2_requireIndex ∈ GW := List.mem_of_getElem? (i := 185) (by decide +kernel)
theorem mw_186 : Cond.static yX2_requireIndex ∈ GW := List.mem_of_getElem? (i := 186) (by decide +kernel)
theorem mw_187 : Cond.code yX2_requireIndex cX2_requireIndex 2 none ∈ GW := List.mem_of_getElem? (i := 187) (by decide +kernel)
theorem mw_188 : Cond.classLink RX2 238 "java/lang/IndexOutOfBoundsException" ∈ GW := List.mem_of_getElem? (i := 188) (by decide +kernel)
theorem mw_189 : Cond.initialized "java/lang/IndexOutOfBoundsException" ∈ GW := List.mem_of_getElem? (i := 189) (by decide +kernel)
theorem mw_190 : Cond.methodLink RX2 117 yJx4a65c_get_915e3 ∈ GW := List.mem_of_getElem? (i := 190) (by decide +kernel)
theorem mw_191 : Cond.instanceMethod yJx4a65c_get_915e3 ∈ GW := List.mem_of_getElem? (i := 191) (by decide +kernel)
theorem mw_192 : Cond.selects RJx4a65c yJx4a65c_get_915e3 yJx4a65c_get_915e3 ∈ GW := List.mem_of_getElem? (i := 192) (by decide +kernel)
theorem mw_193 : Cond.code yJx4a65c_get_915e3 cJx4a65c_get_915e3 2 (some (.object "java/lang/Object")) ∈ GW := List.mem_of_getElem? (i := 193) (by decide +kernel)
theorem mw_194 : Cond.methodLink RJx4a65c 118 yJ15_checkIndex_7cf53 ∈ GW := List.mem_of_getElem? (i := 194) (by decide +kernel)
theorem mw_195 : Cond.static yJ15_checkIndex_7cf53 ∈ GW := List.mem_of_getElem? (i := 195) (by decide +kernel)
theorem mw_196 : Cond.initialized RJ15 ∈ GW := List.mem_of_getElem? (i := 196) (by decide +kernel)
theorem mw_197 : Cond.code yJ15_checkIndex_7cf53 cJ15_checkIndex_7cf53 2 (some .int) ∈ GW := List.mem_of_getElem? (i := 197) (by decide +kernel)
theorem mw_198 : Cond.methodLink RJ15 105 yJ3_checkIndex_8e157 ∈ GW := List.mem_of_getElem? (i := 198) (by decide +kernel)
theorem mw_199 : Cond.static yJ3_checkIndex_8e157 ∈ GW := List.mem_of_getElem? (i := 199) (by decide +kernel)
theorem mw_200 : Cond.initialized RJ3 ∈ GW := List.mem_of_getElem? (i := 200) (by decide +kernel)
theorem mw_201 : Cond.code yJ3_checkIndex_8e157 cJ3_checkIndex_8e157 3 (some .int) ∈ GW := List.mem_of_getElem? (i := 201) (by decide +kernel)
theorem mw_202 : Cond.methodLink RJx4a65c 123 yJx4a65c_elementData_915e3 ∈ GW := List.mem_of_getElem? (i := 202) (by decide +kernel)
theorem mw_203 : Cond.instanceMethod yJx4a65c_elementData_915e3 ∈ GW := List.mem_of_getElem? (i := 203) (by decide +kernel)
theorem mw_204 : Cond.selects RJx4a65c yJx4a65c_elementData_915e3 yJx4a65c_elementData_915e3 ∈ GW := List.mem_of_getElem? (i := 204) (by decide +kernel)
theorem mw_205 : Cond.code yJx4a65c_elementData_915e3 cJx4a65c_elementData_915e3 2 (some (.object "java/lang/Object")) ∈ GW := List.mem_of_getElem? (i := 205) (by decide +kernel)
theorem mw_206 : Cond.methodLink RL 126 yX3_kin ∈ GW := List.mem_of_getElem? (i := 206) (by decide +kernel)
theorem mw_207 : Cond.instanceMethod yX3_kin ∈ GW := List.mem_of_getElem? (i := 207) (by decide +kernel)
theorem mw_208 : Cond.selects RX3 yX3_kin yX3_kin ∈ GW := List.mem_of_getElem? (i := 208) (by decide +kernel)
theorem mw_209 : Cond.code yX3_kin cX3_kin 4 (some .int) ∈ GW := List.mem_of_getElem? (i := 209) (by decide +kernel)
theorem mw_210 : Cond.methodLink RX3 85 yX3_isMiner ∈ GW := List.mem_of_getElem? (i := 210) (by decide +kernel)
theorem mw_211 : Cond.instanceMethod yX3_isMiner ∈ GW := List.mem_of_getElem? (i := 211) (by decide +kernel)
theorem mw_212 : Cond.selects RX3 yX3_isMiner yX3_isMiner ∈ GW := List.mem_of_getElem? (i := 212) (by decide +kernel)
theorem mw_213 : Cond.code yX3_isMiner cX3_isMiner 2 (some .boolean) ∈ GW := List.mem_of_getElem? (i := 213) (by decide +kernel)
theorem mw_214 : Cond.methodLink RX3 81 yX3_in ∈ GW := List.mem_of_getElem? (i := 214) (by decide +kernel)
theorem mw_215 : Cond.static yX3_in ∈ GW := List.mem_of_getElem? (i := 215) (by decide +kernel)
theorem mw_216 : Cond.code yX3_in cX3_in 3 (some .boolean) ∈ GW := List.mem_of_getElem? (i := 216) (by decide +kernel)
theorem mw_217 : Cond.methodLink RL 127 yL_dock ∈ GW := List.mem_of_getElem? (i := 217) (by decide +kernel)
theorem mw_218 : Cond.static yL_dock ∈ GW := List.mem_of_getElem? (i := 218) (by decide +kernel)
theorem mw_219 : Cond.codeWith yL_dock cL_dock 4 (some .int) [(0, 9, 12, 21)] ∈ GW := List.mem_of_getElem? (i := 219) (by decide +kernel)
theorem mw_220 : Cond.methodLink RL 23 yX2_dock ∈ GW := List.mem_of_getElem? (i := 220) (by decide +kernel)
theorem mw_221 : Cond.instanceMethod yX2_dock ∈ GW := List.mem_of_getElem? (i := 221) (by decide +kernel)
theorem mw_222 : Cond.selects RX2 yX2_dock yX2_dock ∈ GW := List.mem_of_getElem? (i := 222) (by decide +kernel)
theorem mw_223 : Cond.code yX2_dock cX2_dock 3 (some .int) ∈ GW := List.mem_of_getElem? (i := 223) (by decide +kernel)
theorem mw_224 : Cond.methodLink RX2 83 yX2_requireRange ∈ GW := List.mem_of_getElem? (i := 224) (by decide +kernel)
theorem mw_225 : Cond.static yX2_requireRange ∈ GW := List.mem_of_getElem? (i := 225) (by decide +kernel)
theorem mw_226 : Cond.code yX2_requireRange cX2_requireRange 3 none ∈ GW := List.mem_of_getElem? (i := 226) (by decide +kernel)
theorem mw_227 : Cond.methodLink RL 130 yX3_dock ∈ GW := List.mem_of_getElem? (i := 227) (by decide +kernel)
theorem mw_228 : Cond.instanceMethod yX3_dock ∈ GW := List.mem_of_getElem? (i := 228) (by decide +kernel)
theorem mw_229 : Cond.selects RX3 yX3_dock yX3_dock ∈ GW := List.mem_of_getElem? (i := 229) (by decide +kernel)
theorem mw_230 : Cond.code yX3_dock cX3_dock 3 (some .int) ∈ GW := List.mem_of_getElem? (i := 230) (by decide +kernel)
theorem mw_231 : Cond.methodLink RL 131 yX2_check ∈ GW := List.mem_of_getElem? (i := 231) (by decide +kernel)
theorem mw_232 : Cond.instanceMethod yX2_check ∈ GW := List.mem_of_getElem? (i := 232) (by decide +kernel)
theorem mw_233 : Cond.selects RX2 yX2_check yX2_check ∈ GW := List.mem_of_getElem? (i := 233) (by decide +kernel)
theorem mw_234 : Cond.code yX2_check cX2_check 3 (some .boolean) ∈ GW := List.mem_of_getElem? (i := 234) (by decide +kernel)
theorem mw_235 : Cond.fieldLink RX2 87 "ScripHollow" "isChecked" "Z" ∈ GW := List.mem_of_getElem? (i := 235) (by decide +kernel)
theorem mw_236 : Cond.methodLink RL 135 yX3_check ∈ GW := List.mem_of_getElem? (i := 236) (by decide +kernel)
theorem mw_237 : Cond.instanceMethod yX3_check ∈ GW := List.mem_of_getElem? (i := 237) (by decide +kernel)
theorem mw_238 : Cond.selects RX3 yX3_check yX3_check ∈ GW := List.mem_of_getElem? (i := 238) (by decide +kernel)
theorem mw_239 : Cond.code yX3_check cX3_check 3 (some .boolean) ∈ GW := List.mem_of_getElem? (i := 239) (by decide +kernel)
theorem mw_240 : Cond.fieldLink RX3 93 "ScripHollowModel" "checks" "Z" ∈ GW := List.mem_of_getElem? (i := 240) (by decide +kernel)
theorem mw_241 : Cond.methodLink RL 136 yL_hew ∈ GW := List.mem_of_getElem? (i := 241) (by decide +kernel)
theorem mw_242 : Cond.static yL_hew ∈ GW := List.mem_of_getElem? (i := 242) (by decide +kernel)
theorem mw_243 : Cond.codeWith yL_hew cL_hew 5 (some .int) [(0, 10, 13, 19), (0, 10, 17, 21), (0, 10, 21, 13)] ∈ GW := List.mem_of_getElem? (i := 243) (by decide +kernel)
theorem mw_244 : Cond.methodLink RL 27 yX2_hew ∈ GW := List.mem_of_getElem? (i := 244) (by decide +kernel)
theorem mw_245 : Cond.instanceMethod yX2_hew ∈ GW := List.mem_of_getElem? (i := 245) (by decide +kernel)
theorem mw_246 : Cond.selects RX2 yX2_hew yX2_hew ∈ GW := List.mem_of_getElem? (i := 246) (by decide +kernel)
theorem mw_247 : Cond.code yX2_hew cX2_hew 4 (some .int) ∈ GW := List.mem_of_getElem? (i := 247) (by decide +kernel)
theorem mw_248 : Cond.fieldLink RX2 95 "ScripHollow" "isStriking" "Z" ∈ GW := List.mem_of_getElem? (i := 248) (by decide +kernel)
theorem mw_249 : Cond.fieldLink RX2 98 "ScripHollow" "isClosed" "Z" ∈ GW := List.mem_of_getElem? (i := 249) (by decide +kernel)
theorem mw_250 : Cond.fieldLink RX2 103 "ScripHollow$Miner" "coal" "I" ∈ GW := List.mem_of_getElem? (i := 250) (by decide +kernel)
theorem mw_251 : Cond.methodLink RX2 91 yX2_requireAlive ∈ GW := List.mem_of_getElem? (i := 251) (by decide +kernel)
theorem mw_252 : Cond.static yX2_requireAlive ∈ GW := List.mem_of_getElem? (i := 252) (by decide +kernel)
theorem mw_253 : Cond.code yX2_requireAlive cX2_requireAlive 1 none ∈ GW := List.mem_of_getElem? (i := 253) (by decide +kernel)
theorem mw_254 : Cond.fieldLink RX2 121 "ScripHollow$Miner" "isAlive" "Z" ∈ GW := List.mem_of_getElem? (i := 254) (by decide +kernel)
theorem mw_255 : Cond.methodLink RL 138 yX3_hew ∈ GW := List.mem_of_getElem? (i := 255) (by decide +kernel)
theorem mw_256 : Cond.instanceMethod yX3_hew ∈ GW := List.mem_of_getElem? (i := 256) (by decide +kernel)
theorem mw_257 : Cond.selects RX3 yX3_hew yX3_hew ∈ GW := List.mem_of_getElem? (i := 257) (by decide +kernel)
theorem mw_258 : Cond.code yX3_hew cX3_hew 3 (some .int) ∈ GW := List.mem_of_getElem? (i := 258) (by decide +kernel)
theorem mw_259 : Cond.fieldLink RX3 100 "ScripHollowModel" "strikes" "Z" ∈ GW := List.mem_of_getElem? (i := 259) (by decide +kernel)
theorem mw_260 : Cond.fieldLink RX3 103 "ScripHollowModel" "closed" "Z" ∈ GW := List.mem_of_getElem? (i := 260) (by decide +kernel)
theorem mw_261 : Cond.methodLink RX3 97 yX3_isAlive ∈ GW := List.mem_of_getElem? (i := 261) (by decide +kernel)
theorem mw_262 : Cond.instanceMethod yX3_isAlive ∈ GW := List.mem_of_getElem? (i := 262) (by decide +kernel)
theorem mw_263 : Cond.selects RX3 yX3_isAlive yX3_isAlive ∈ GW := List.mem_of_getElem? (i := 263) (by decide +kernel)
theorem mw_264 : Cond.code yX3_isAlive cX3_isAlive 2 (some .boolean) ∈ GW := List.mem_of_getElem? (i := 264) (by decide +kernel)
theorem mw_265 : Cond.methodLink RL 139 yL_edition ∈ GW := List.mem_of_getElem? (i := 265) (by decide +kernel)
theorem mw_266 : Cond.static yL_edition ∈ GW := List.mem_of_getElem? (i := 266) (by decide +kernel)
theorem mw_267 : Cond.codeWith yL_edition cL_edition 4 (some .int) [(0, 9, 12, 21)] ∈ GW := List.mem_of_getElem? (i := 267) (by decide +kernel)
theorem mw_268 : Cond.methodLink RL 30 yX2_edition ∈ GW := List.mem_of_getElem? (i := 268) (by decide +kernel)
theorem mw_269 : Cond.instanceMethod yX2_edition ∈ GW := List.mem_of_getElem? (i := 269) (by decide +kernel)
theorem mw_270 : Cond.selects RX2 yX2_edition yX2_edition ∈ GW := List.mem_of_getElem? (i := 270) (by decide +kernel)
theorem mw_271 : Cond.code yX2_edition cX2_edition 3 (some .int) ∈ GW := List.mem_of_getElem? (i := 271) (by decide +kernel)
theorem mw_272 : Cond.methodLink RX2 106 yX2_isEdition ∈ GW := List.mem_of_getElem? (i := 272) (by decide +kernel)
theorem mw_273 : Cond.static yX2_isEdition ∈ GW := List.mem_of_getElem? (i := 273) (by decide +kernel)
theorem mw_274 : Cond.code yX2_isEdition cX2_isEdition 5 (some .boolean) ∈ GW := List.mem_of_getElem? (i := 274) (by decide +kernel)
theorem mw_275 : Cond.methodLink RL 141 yX3_edition ∈ GW := List.mem_of_getElem? (i := 275) (by decide +kernel)
theorem mw_276 : Cond.instanceMethod yX3_edition ∈ GW := List.mem_of_getElem? (i := 276) (by decide +kernel)
theorem mw_277 : Cond.selects RX3 yX3_edition yX3_edition ∈ GW := List.mem_of_getElem? (i := 277) (by decide +kernel)
theorem mw_278 : Cond.code yX3_edition cX3_edition 3 (some .int) ∈ GW := List.mem_of_getElem? (i := 278) (by decide +kernel)
theorem mw_279 : Cond.methodLink RX3 106 yX3_isEdition ∈ GW := List.mem_of_getElem? (i := 279) (by decide +kernel)
theorem mw_280 : Cond.static yX3_isEdition ∈ GW := List.mem_of_getElem? (i := 280) (by decide +kernel)
theorem mw_281 : Cond.code yX3_isEdition cX3_isEdition 5 (some .boolean) ∈ GW := List.mem_of_getElem? (i := 281) (by decide +kernel)
theorem mw_282 : Cond.methodLink RL 142 yL_tell ∈ GW := List.mem_of_getElem? (i := 282) (by decide +kernel)
theorem mw_283 : Cond.static yL_tell ∈ GW := List.mem_of_getElem? (i := 283) (by decide +kernel)
theorem mw_284 : Cond.codeWith yL_tell cL_tell 5 (some .int) [(0, 10, 13, 21)] ∈ GW := List.mem_of_getElem? (i := 284) (by decide +kernel)
theorem mw_285 : Cond.methodLink RL 33 yX2_tell ∈ GW := List.mem_of_getElem? (i := 285) (by decide +kernel)
theorem mw_286 : Cond.instanceMethod yX2_tell ∈ GW := List.mem_of_getElem? (i := 286) (by decide +kernel)
theorem mw_287 : Cond.selects RX2 yX2_tell yX2_tell ∈ GW := List.mem_of_getElem? (i := 287) (by decide +kernel)
theorem mw_288 : Cond.code yX2_tell cX2_tell 4 (some .int) ∈ GW := List.mem_of_getElem? (i := 288) (by decide +kernel)
theorem mw_289 : Cond.methodLink RL 144 yX3_tell ∈ GW := List.mem_of_getElem? (i := 289) (by decide +kernel)
theorem mw_290 : Cond.instanceMethod yX3_tell ∈ GW := List.mem_of_getElem? (i := 290) (by decide +kernel)
theorem mw_291 : Cond.selects RX3 yX3_tell yX3_tell ∈ GW := List.mem_of_getElem? (i := 291) (by decide +kernel)
theorem mw_292 : Cond.code yX3_tell cX3_tell 4 (some .int) ∈ GW := List.mem_of_getElem? (i := 292) (by decide +kernel)
theorem mw_293 : Cond.methodLink RL 145 yL_payday ∈ GW := List.mem_of_getElem? (i := 293) (by decide +kernel)
theorem mw_294 : Cond.static yL_payday ∈ GW := List.mem_of_getElem? (i := 294) (by decide +kernel)
theorem mw_295 : Cond.codeWith yL_payday cL_payday 3 (some .int) [(0, 8, 11, 13)] ∈ GW := List.mem_of_getElem? (i := 295) (by decide +kernel)
theorem mw_296 : Cond.methodLink RL 36 yX2_payday ∈ GW := List.mem_of_getElem? (i := 296) (by decide +kernel)
theorem mw_297 : Cond.instanceMethod yX2_payday ∈ GW := List.mem_of_getElem? (i := 297) (by decide +kernel)
theorem mw_298 : Cond.selects RX2 yX2_payday yX2_payday ∈ GW := List.mem_of_getElem? (i := 298) (by decide +kernel)
theorem mw_299 : Cond.code yX2_payday cX2_payday 4 (some .int) ∈ GW := List.mem_of_getElem? (i := 299) (by decide +kernel)
theorem mw_300 : Cond.fieldLink RX2 112 "ScripHollow" "paydays" "I" ∈ GW := List.mem_of_getElem? (i := 300) (by decide +kernel)
theorem mw_301 : Cond.fieldLink RX2 127 "ScripHollow$Miner" "latestPay" "I" ∈ GW := List.mem_of_getElem? (i := 301) (by decide +kernel)
theorem mw_302 : Cond.methodLink RX2 124 yX2_settle ∈ GW := List.mem_of_getElem? (i := 302) (by decide +kernel)
theorem mw_303 : Cond.instanceMethod yX2_settle ∈ GW := List.mem_of_getElem? (i := 303) (by decide +kernel)
theorem mw_304 : Cond.selects RX2 yX2_settle yX2_settle ∈ GW := List.mem_of_getElem? (i := 304) (by decide +kernel)
theorem mw_305 : Cond.code yX2_settle cX2_settle 5 none ∈ GW := List.mem_of_getElem? (i := 305) (by decide +kernel)
theorem mw_306 : Cond.fieldLink RX2 259 "ScripHollow$Slip" "rentTaken" "I" ∈ GW := List.mem_of_getElem? (i := 306) (by decide +kernel)
theorem mw_307 : Cond.fieldLink RX2 137 "ScripHollow$Miner" "arrears" "I" ∈ GW := List.mem_of_getElem? (i := 307) (by decide +kernel)
theorem mw_308 : Cond.fieldLink RX2 167 "ScripHollow$Miner" "debt" "I" ∈ GW := List.mem_of_getElem? (i := 308) (by decide +kernel)
theorem mw_309 : Cond.fieldLink RX2 262 "ScripHollow$Slip" "storeTaken" "I" ∈ GW := List.mem_of_getElem? (i := 309) (by decide +kernel)
theorem mw_310 : Cond.fieldLink RX2 265 "ScripHollow$Slip" "unlawful" "I" ∈ GW := List.mem_of_getElem? (i := 310) (by decide +kernel)
theorem mw_311 : Cond.fieldLink RX2 272 "ScripHollow$Slip" "rest" "I" ∈ GW := List.mem_of_getElem? (i := 311) (by decide +kernel)
theorem mw_312 : Cond.fieldLink RX2 134 "ScripHollow$Miner" "hasHouse" "Z" ∈ GW := List.mem_of_getElem? (i := 312) (by decide +kernel)
theorem mw_313 : Cond.methodLink RX2 247 yX2_due ∈ GW := List.mem_of_getElem? (i := 313) (by decide +kernel)
theorem mw_314 : Cond.instanceMethod yX2_due ∈ GW := List.mem_of_getElem? (i := 314) (by decide +kernel)
theorem mw_315 : Cond.selects RX2 yX2_due yX2_due ∈ GW := List.mem_of_getElem? (i := 315) (by decide +kernel)
theorem mw_316 : Cond.code yX2_due cX2_due 3 (some .int) ∈ GW := List.mem_of_getElem? (i := 316) (by decide +kernel)
theorem mw_317 : Cond.methodLink RX2 250 yX1_open ∈ GW := List.mem_of_getElem? (i := 317) (by decide +kernel)
theorem mw_318 : Cond.instanceMethod yX1_open ∈ GW := List.mem_of_getElem? (i := 318) (by decide +kernel)
theorem mw_319 : Cond.selects RX1 yX1_open yX1_open ∈ GW := List.mem_of_getElem? (i := 319) (by decide +kernel)
theorem mw_320 : Cond.code yX1_open cX1_open 2 none ∈ GW := List.mem_of_getElem? (i := 320) (by decide +kernel)
theorem mw_321 : Cond.fieldLink RX1 9 "ScripHollow$Slip" "rest" "I" ∈ GW := List.mem_of_getElem? (i := 321) (by decide +kernel)
theorem mw_322 : Cond.fieldLink RX1 15 "ScripHollow$Slip" "rentTaken" "I" ∈ GW := List.mem_of_getElem? (i := 322) (by decide +kernel)
theorem mw_323 : Cond.fieldLink RX1 18 "ScripHollow$Slip" "storeTaken" "I" ∈ GW := List.mem_of_getElem? (i := 323) (by decide +kernel)
theorem mw_324 : Cond.fieldLink RX1 21 "ScripHollow$Slip" "unlawful" "I" ∈ GW := List.mem_of_getElem? (i := 324) (by decide +kernel)
theorem mw_325 : Cond.methodLink RX2 253 yX2_isPassedBy ∈ GW := List.mem_of_getElem? (i := 325) (by decide +kernel)
theorem mw_326 : Cond.instanceMethod yX2_isPassedBy ∈ GW := List.mem_of_getElem? (i := 326) (by decide +kernel)
theorem mw_327 : Cond.selects RX2 yX2_isPassedBy yX2_isPassedBy ∈ GW := List.mem_of_getElem? (i := 327) (by decide +kernel)
theorem mw_328 : Cond.code yX2_isPassedBy cX2_isPassedBy 2 (some .boolean) ∈ GW := List.mem_of_getElem? (i := 328) (by decide +kernel)
theorem mw_329 : Cond.fieldLink RX2 185 "ScripHollow" "isObeying" "Z" ∈ GW := List.mem_of_getElem? (i := 329) (by decide +kernel)
theorem mw_330 : Cond.methodLink RX2 256 yX1_take ∈ GW := List.mem_of_getElem? (i := 330) (by decide +kernel)
theorem mw_331 : Cond.instanceMethod yX1_take ∈ GW := List.mem_of_getElem? (i := 331) (by decide +kernel)
theorem mw_332 : Cond.selects RX1 yX1_take yX1_take ∈ GW := List.mem_of_getElem? (i := 332) (by decide +kernel)
theorem mw_333 : Cond.code yX1_take cX1_take 4 none ∈ GW := List.mem_of_getElem? (i := 333) (by decide +kernel)
theorem mw_334 : Cond.methodLink RX1 24 Lib.Math.min.name ∈ GW := List.mem_of_getElem? (i := 334) (by decide +kernel)
theorem mw_335 : Cond.methodLink RX2 268 yX2_breach ∈ GW := List.mem_of_getElem? (i := 335) (by decide +kernel)
theorem mw_336 : Cond.instanceMethod yX2_breach ∈ GW := List.mem_of_getElem? (i := 336) (by decide +kernel)
theorem mw_337 : Cond.selects RX2 yX2_breach yX2_breach ∈ GW := List.mem_of_getElem? (i := 337) (by decide +kernel)
theorem mw_338 : Cond.code yX2_breach cX2_breach 4 none ∈ GW := List.mem_of_getElem? (i := 338) (by decide +kernel)
theorem mw_339 : Cond.fieldLink RX2 188 "ScripHollow" "breachCount" "I" ∈ GW := List.mem_of_getElem? (i := 339) (by decide +kernel)
theorem mw_340 : Cond.fieldLink RX2 224 "ScripHollow$Miner" "owed" "I" ∈ GW := List.mem_of_getElem? (i := 340) (by decide +kernel)
theorem mw_341 : Cond.methodLink RX2 275 yX2_hand ∈ GW := List.mem_of_getElem? (i := 341) (by decide +kernel)
theorem mw_342 : Cond.instanceMethod yX2_hand ∈ GW := List.mem_of_getElem? (i := 342) (by decide +kernel)
theorem mw_343 : Cond.selects RX2 yX2_hand yX2_hand ∈ GW := List.mem_of_getElem? (i := 343) (by decide +kernel)
theorem mw_344 : Cond.code yX2_hand cX2_hand 3 none ∈ GW := List.mem_of_getElem? (i := 344) (by decide +kernel)
theorem mw_345 : Cond.fieldLink RX2 158 "ScripHollow$Miner" "coin" "I" ∈ GW := List.mem_of_getElem? (i := 345) (by decide +kernel)
theorem mw_346 : Cond.methodLink RX2 279 yX0_gainScrip ∈ GW := List.mem_of_getElem? (i := 346) (by decide +kernel)
theorem mw_347 : Cond.instanceMethod yX0_gainScrip ∈ GW := List.mem_of_getElem? (i := 347) (by decide +kernel)
theorem mw_348 : Cond.selects RX0 yX0_gainScrip yX0_gainScrip ∈ GW := List.mem_of_getElem? (i := 348) (by decide +kernel)
theorem mw_349 : Cond.code yX0_gainScrip cX0_gainScrip 3 none ∈ GW := List.mem_of_getElem? (i := 349) (by decide +kernel)
theorem mw_350 : Cond.fieldLink RX0 36 "ScripHollow$Miner" "scripCame" "I" ∈ GW := List.mem_of_getElem? (i := 350) (by decide +kernel)
theorem mw_351 : Cond.methodLink RX2 130 yX2_expire ∈ GW := List.mem_of_getElem? (i := 351) (by decide +kernel)
theorem mw_352 : Cond.instanceMethod yX2_expire ∈ GW := List.mem_of_getElem? (i := 352) (by decide +kernel)
theorem mw_353 : Cond.selects RX2 yX2_expire yX2_expire ∈ GW := List.mem_of_getElem? (i := 353) (by decide +kernel)
theorem mw_354 : Cond.code yX2_expire cX2_expire 4 none ∈ GW := List.mem_of_getElem? (i := 354) (by decide +kernel)
theorem mw_355 : Cond.fieldLink RX2 229 "ScripHollow$Miner" "scripHeld" "[I" ∈ GW := List.mem_of_getElem? (i := 355) (by decide +kernel)
theorem mw_356 : Cond.methodLink RX2 282 yX0_loseScrip ∈ GW := List.mem_of_getElem? (i := 356) (by decide +kernel)
theorem mw_357 : Cond.instanceMethod yX0_loseScrip ∈ GW := List.mem_of_getElem? (i := 357) (by decide +kernel)
theorem mw_358 : Cond.selects RX0 yX0_loseScrip yX0_loseScrip ∈ GW := List.mem_of_getElem? (i := 358) (by decide +kernel)
theorem mw_359 : Cond.code yX0_loseScrip cX0_loseScrip 4 (some .int) ∈ GW := List.mem_of_getElem? (i := 359) (by decide +kernel)
theorem mw_360 : Cond.methodLink RX0 39 Lib.Math.min.name ∈ GW := List.mem_of_getElem? (i := 360) (by decide +kernel)
theorem mw_361 : Cond.fieldLink RX0 45 "ScripHollow$Miner" "scripWent" "I" ∈ GW := List.mem_of_getElem? (i := 361) (by decide +kernel)
theorem mw_362 : Cond.methodLink RL 147 yX3_payday ∈ GW := List.mem_of_getElem? (i := 362) (by decide +kernel)
theorem mw_363 : Cond.instanceMethod yX3_payday ∈ GW := List.mem_of_getElem? (i := 363) (by decide +kernel)
theorem mw_364 : Cond.selects RX3 yX3_payday yX3_payday ∈ GW := List.mem_of_getElem? (i := 364) (by decide +kernel)
theorem mw_365 : Cond.code yX3_payday cX3_payday 3 (some .int) ∈ GW := List.mem_of_getElem? (i := 365) (by decide +kernel)
theorem mw_366 : Cond.fieldLink RX3 125 "ScripHollowModel" "paydays" "I" ∈ GW := List.mem_of_getElem? (i := 366) (by decide +kernel)
theorem mw_367 : Cond.fieldLink RX3 109 "ScripHollowModel" "obeys" "Z" ∈ GW := List.mem_of_getElem? (i := 367) (by decide +kernel)
theorem mw_368 : Cond.methodLink RX3 128 yX3_pays ∈ GW := List.mem_of_getElem? (i := 368) (by decide +kernel)
theorem mw_369 : Cond.instanceMethod yX3_pays ∈ GW := List.mem_of_getElem? (i := 369) (by decide +kernel)
theorem mw_370 : Cond.selects RX3 yX3_pays yX3_pays ∈ GW := List.mem_of_getElem? (i := 370) (by decide +kernel)
theorem mw_371 : Cond.code yX3_pays cX3_pays 11 (some .int) ∈ GW := List.mem_of_getElem? (i := 371) (by decide +kernel)
theorem mw_372 : Cond.constantLong RX3 112 (10) ∈ GW := List.mem_of_getElem? (i := 372) (by decide +kernel)
theorem mw_373 : Cond.methodLink RX3 114 yX3_isSpared ∈ GW := List.mem_of_getElem? (i := 373) (by decide +kernel)
theorem mw_374 : Cond.instanceMethod yX3_isSpared ∈ GW := List.mem_of_getElem? (i := 374) (by decide +kernel)
theorem mw_375 : Cond.selects RX3 yX3_isSpared yX3_isSpared ∈ GW := List.mem_of_getElem? (i := 375) (by decide +kernel)
theorem mw_376 : Cond.code yX3_isSpared cX3_isSpared 1 (some .boolean) ∈ GW := List.mem_of_getElem? (i := 376) (by decide +kernel)
theorem mw_377 : Cond.methodLink RX3 118 yX3_breaks ∈ GW := List.mem_of_getElem? (i := 377) (by decide +kernel)
theorem mw_378 : Cond.instanceMethod yX3_breaks ∈ GW := List.mem_of_getElem? (i := 378) (by decide +kernel)
theorem mw_379 : Cond.selects RX3 yX3_breaks yX3_breaks ∈ GW := List.mem_of_getElem? (i := 379) (by decide +kernel)
theorem mw_380 : Cond.code yX3_breaks cX3_breaks 3 none ∈ GW := List.mem_of_getElem? (i := 380) (by decide +kernel)
theorem mw_381 : Cond.fieldLink RX3 122 "ScripHollowModel" "breaches" "I" ∈ GW := List.mem_of_getElem? (i := 381) (by decide +kernel)
theorem mw_382 : Cond.methodLink RL 148 yL_house ∈ GW := List.mem_of_getElem? (i := 382) (by decide +kernel)
theorem mw_383 : Cond.static yL_house ∈ GW := List.mem_of_getElem? (i := 383) (by decide +kernel)
theorem mw_384 : Cond.codeWith yL_house cL_house 3 (some .int) [(0, 5, 8, 19), (0, 5, 11, 13)] ∈ GW := List.mem_of_getElem? (i := 384) (by decide +kernel)
theorem mw_385 : Cond.methodLink RL 39 yX2_house ∈ GW := List.mem_of_getElem? (i := 385) (by decide +kernel)
theorem mw_386 : Cond.instanceMethod yX2_house ∈ GW := List.mem_of_getElem? (i := 386) (by decide +kernel)
theorem mw_387 : Cond.selects RX2 yX2_house yX2_house ∈ GW := List.mem_of_getElem? (i := 387) (by decide +kernel)
theorem mw_388 : Cond.code yX2_house cX2_house 3 none ∈ GW := List.mem_of_getElem? (i := 388) (by decide +kernel)
theorem mw_389 : Cond.methodLink RL 151 yX3_house ∈ GW := List.mem_of_getElem? (i := 389) (by decide +kernel)
theorem mw_390 : Cond.instanceMethod yX3_house ∈ GW := List.mem_of_getElem? (i := 390) (by decide +kernel)
theorem mw_391 : Cond.selects RX3 yX3_house yX3_house ∈ GW := List.mem_of_getElem? (i := 391) (by decide +kernel)
theorem mw_392 : Cond.code yX3_house cX3_house 2 none ∈ GW := List.mem_of_getElem? (i := 392) (by decide +kernel)
theorem mw_393 : Cond.methodLink RL 152 yL_price ∈ GW := List.mem_of_getElem? (i := 393) (by decide +kernel)
theorem mw_394 : Cond.static yL_price ∈ GW := List.mem_of_getElem? (i := 394) (by decide +kernel)
theorem mw_395 : Cond.codeWith yL_price cL_price 6 (some .int) [(0, 12, 15, 19), (0, 12, 19, 21)] ∈ GW := List.mem_of_getElem? (i := 395) (by decide +kernel)
theorem mw_396 : Cond.methodLink RL 43 yX2_price ∈ GW := List.mem_of_getElem? (i := 396) (by decide +kernel)
theorem mw_397 : Cond.instanceMethod yX2_price ∈ GW := List.mem_of_getElem? (i := 397) (by decide +kernel)
theorem mw_398 : Cond.selects RX2 yX2_price yX2_price ∈ GW := List.mem_of_getElem? (i := 398) (by decide +kernel)
theorem mw_399 : Cond.code yX2_price cX2_price 6 (some .int) ∈ GW := List.mem_of_getElem? (i := 399) (by decide +kernel)
theorem mw_400 : Cond.methodLink RX2 142 yX2_requireGoods ∈ GW := List.mem_of_getElem? (i := 400) (by decide +kernel)
theorem mw_401 : Cond.static yX2_requireGoods ∈ GW := List.mem_of_getElem? (i := 401) (by decide +kernel)
theorem mw_402 : Cond.code yX2_requireGoods cX2_requireGoods 1 none ∈ GW := List.mem_of_getElem? (i := 402) (by decide +kernel)
theorem mw_403 : Cond.methodLink RL 155 yX3_price ∈ GW := List.mem_of_getElem? (i := 403) (by decide +kernel)
theorem mw_404 : Cond.instanceMethod yX3_price ∈ GW := List.mem_of_getElem? (i := 404) (by decide +kernel)
theorem mw_405 : Cond.selects RX3 yX3_price yX3_price ∈ GW := List.mem_of_getElem? (i := 405) (by decide +kernel)
theorem mw_406 : Cond.code yX3_price cX3_price 6 (some .int) ∈ GW := List.mem_of_getElem? (i := 406) (by decide +kernel)
theorem mw_407 : Cond.methodLink RX3 132 yX3_isGoods ∈ GW := List.mem_of_getElem? (i := 407) (by decide +kernel)
theorem mw_408 : Cond.static yX3_isGoods ∈ GW := List.mem_of_getElem? (i := 408) (by decide +kernel)
theorem mw_409 : Cond.code yX3_isGoods cX3_isGoods 1 (some .boolean) ∈ GW := List.mem_of_getElem? (i := 409) (by decide +kernel)
theorem mw_410 : Cond.methodLink RL 156 yL_raised ∈ GW := List.mem_of_getElem? (i := 410) (by decide +kernel)
theorem mw_411 : Cond.static yL_raised ∈ GW := List.mem_of_getElem? (i := 411) (by decide +kernel)
theorem mw_412 : Cond.codeWith yL_raised cL_raised 5 (some .int) [(0, 10, 13, 19)] ∈ GW := List.mem_of_getElem? (i := 412) (by decide +kernel)
theorem mw_413 : Cond.methodLink RL 47 yX2_raised ∈ GW := List.mem_of_getElem? (i := 413) (by decide +kernel)
theorem mw_414 : Cond.instanceMethod yX2_raised ∈ GW := List.mem_of_getElem? (i := 414) (by decide +kernel)
theorem mw_415 : Cond.selects RX2 yX2_raised yX2_raised ∈ GW := List.mem_of_getElem? (i := 415) (by decide +kernel)
theorem mw_416 : Cond.code yX2_raised cX2_raised 4 (some .int) ∈ GW := List.mem_of_getElem? (i := 416) (by decide +kernel)
theorem mw_417 : Cond.methodLink RX2 145 yX2_storePrice ∈ GW := List.mem_of_getElem? (i := 417) (by decide +kernel)
theorem mw_418 : Cond.instanceMethod yX2_storePrice ∈ GW := List.mem_of_getElem? (i := 418) (by decide +kernel)
theorem mw_419 : Cond.selects RX2 yX2_storePrice yX2_storePrice ∈ GW := List.mem_of_getElem? (i := 419) (by decide +kernel)
theorem mw_420 : Cond.code yX2_storePrice cX2_storePrice 3 (some .int) ∈ GW := List.mem_of_getElem? (i := 420) (by decide +kernel)
theorem mw_421 : Cond.methodLink RL 158 yX3_raised ∈ GW := List.mem_of_getElem? (i := 421) (by decide +kernel)
theorem mw_422 : Cond.instanceMethod yX3_raised ∈ GW := List.mem_of_getElem? (i := 422) (by decide +kernel)
theorem mw_423 : Cond.selects RX3 yX3_raised yX3_raised ∈ GW := List.mem_of_getElem? (i := 423) (by decide +kernel)
theorem mw_424 : Cond.code yX3_raised cX3_raised 3 (some .int) ∈ GW := List.mem_of_getElem? (i := 424) (by decide +kernel)
theorem mw_425 : Cond.methodLink RX3 137 yX3_raisedFor ∈ GW := List.mem_of_getElem? (i := 425) (by decide +kernel)
theorem mw_426 : Cond.instanceMethod yX3_raisedFor ∈ GW := List.mem_of_getElem? (i := 426) (by decide +kernel)
theorem mw_427 : Cond.selects RX3 yX3_raisedFor yX3_raisedFor ∈ GW := List.mem_of_getElem? (i := 427) (by decide +kernel)
theorem mw_428 : Cond.code yX3_raisedFor cX3_raisedFor 5 (some .int) ∈ GW := List.mem_of_getElem? (i := 428) (by decide +kernel)
theorem mw_429 : Cond.constantLong RX3 135 (200) ∈ GW := List.mem_of_getElem? (i := 429) (by decide +kernel)
theorem mw_430 : Cond.methodLink RL 159 yL_limit ∈ GW := List.mem_of_getElem? (i := 430) (by decide +kernel)
theorem mw_431 : Cond.static yL_limit ∈ GW := List.mem_of_getElem? (i := 431) (by decide +kernel)
theorem mw_432 : Cond.codeWith yL_limit cL_limit 4 (some .int) [(0, 9, 12, 21)] ∈ GW := List.mem_of_getElem? (i := 432) (by decide +kernel)
theorem mw_433 : Cond.methodLink RL 50 yX2_limit ∈ GW := List.mem_of_getElem? (i := 433) (by decide +kernel)
theorem mw_434 : Cond.instanceMethod yX2_limit ∈ GW := List.mem_of_getElem? (i := 434) (by decide +kernel)
theorem mw_435 : Cond.selects RX2 yX2_limit yX2_limit ∈ GW := List.mem_of_getElem? (i := 435) (by decide +kernel)
theorem mw_436 : Cond.code yX2_limit cX2_limit 3 (some .int) ∈ GW := List.mem_of_getElem? (i := 436) (by decide +kernel)
theorem mw_437 : Cond.methodLink RL 161 yX3_limit ∈ GW := List.mem_of_getElem? (i := 437) (by decide +kernel)
theorem mw_438 : Cond.instanceMethod yX3_limit ∈ GW := List.mem_of_getElem? (i := 438) (by decide +kernel)
theorem mw_439 : Cond.selects RX3 yX3_limit yX3_limit ∈ GW := List.mem_of_getElem? (i := 439) (by decide +kernel)
theorem mw_440 : Cond.code yX3_limit cX3_limit 3 (some .int) ∈ GW := List.mem_of_getElem? (i := 440) (by decide +kernel)
theorem mw_441 : Cond.methodLink RL 162 yL_whyNot ∈ GW := List.mem_of_getElem? (i := 441) (by decide +kernel)
theorem mw_442 : Cond.static yL_whyNot ∈ GW := List.mem_of_getElem? (i := 442) (by decide +kernel)
theorem mw_443 : Cond.codeWith yL_whyNot cL_whyNot 6 (some .int) [(0, 12, 15, 19), (0, 12, 19, 21)] ∈ GW := List.mem_of_getElem? (i := 443) (by decide +kernel)
theorem mw_444 : Cond.methodLink RL 53 yX2_whyNot ∈ GW := List.mem_of_getElem? (i := 444) (by decide +kernel)
theorem mw_445 : Cond.instanceMethod yX2_whyNot ∈ GW := List.mem_of_getElem? (i := 445) (by decide +kernel)
theorem mw_446 : Cond.selects RX2 yX2_whyNot yX2_whyNot ∈ GW := List.mem_of_getElem? (i := 446) (by decide +kernel)
theorem mw_447 : Cond.code yX2_whyNot cX2_whyNot 5 (some .int) ∈ GW := List.mem_of_getElem? (i := 447) (by decide +kernel)
theorem mw_448 : Cond.methodLink RX2 149 yX2_refusal ∈ GW := List.mem_of_getElem? (i := 448) (by decide +kernel)
theorem mw_449 : Cond.instanceMethod yX2_refusal ∈ GW := List.mem_of_getElem? (i := 449) (by decide +kernel)
theorem mw_450 : Cond.selects RX2 yX2_refusal yX2_refusal ∈ GW := List.mem_of_getElem? (i := 450) (by decide +kernel)
theorem mw_451 : Cond.code yX2_refusal cX2_refusal 4 (some .int) ∈ GW := List.mem_of_getElem? (i := 451) (by decide +kernel)
theorem mw_452 : Cond.methodLink RX2 285 yX0_means ∈ GW := List.mem_of_getElem? (i := 452) (by decide +kernel)
theorem mw_453 : Cond.instanceMethod yX0_means ∈ GW := List.mem_of_getElem? (i := 453) (by decide +kernel)
theorem mw_454 : Cond.selects RX0 yX0_means yX0_means ∈ GW := List.mem_of_getElem? (i := 454) (by decide +kernel)
theorem mw_455 : Cond.code yX0_means cX0_means 1 (some .int) ∈ GW := List.mem_of_getElem? (i := 455) (by decide +kernel)
theorem mw_456 : Cond.fieldLink RX0 29 "ScripHollow$Miner" "coin" "I" ∈ GW := List.mem_of_getElem? (i := 456) (by decide +kernel)
theorem mw_457 : Cond.methodLink RX0 32 yX0_allScrip ∈ GW := List.mem_of_getElem? (i := 457) (by decide +kernel)
theorem mw_458 : Cond.instanceMethod yX0_allScrip ∈ GW := List.mem_of_getElem? (i := 458) (by decide +kernel)
theorem mw_459 : Cond.selects RX0 yX0_allScrip yX0_allScrip ∈ GW := List.mem_of_getElem? (i := 459) (by decide +kernel)
theorem mw_460 : Cond.code yX0_allScrip cX0_allScrip 3 (some .int) ∈ GW := List.mem_of_getElem? (i := 460) (by decide +kernel)
theorem mw_461 : Cond.methodLink RL 165 yX3_whyNot ∈ GW := List.mem_of_getElem? (i := 461) (by decide +kernel)
theorem mw_462 : Cond.instanceMethod yX3_whyNot ∈ GW := List.mem_of_getElem? (i := 462) (by decide +kernel)
theorem mw_463 : Cond.selects RX3 yX3_whyNot yX3_whyNot ∈ GW := List.mem_of_getElem? (i := 463) (by decide +kernel)
theorem mw_464 : Cond.code yX3_whyNot cX3_whyNot 4 (some .int) ∈ GW := List.mem_of_getElem? (i := 464) (by decide +kernel)
theorem mw_465 : Cond.methodLink RX3 147 yX3_reason ∈ GW := List.mem_of_getElem? (i := 465) (by decide +kernel)
theorem mw_466 : Cond.instanceMethod yX3_reason ∈ GW := List.mem_of_getElem? (i := 466) (by decide +kernel)
theorem mw_467 : Cond.selects RX3 yX3_reason yX3_reason ∈ GW := List.mem_of_getElem? (i := 467) (by decide +kernel)
theorem mw_468 : Cond.code yX3_reason cX3_reason 5 (some .int) ∈ GW := List.mem_of_getElem? (i := 468) (by decide +kernel)
theorem mw_469 : Cond.methodLink RX3 144 yX3_lacks ∈ GW := List.mem_of_getElem? (i := 469) (by decide +kernel)
theorem mw_470 : Cond.instanceMethod yX3_lacks ∈ GW := List.mem_of_getElem? (i := 470) (by decide +kernel)
theorem mw_471 : Cond.selects RX3 yX3_lacks yX3_lacks ∈ GW := List.mem_of_getElem? (i := 471) (by decide +kernel)
theorem mw_472 : Cond.code yX3_lacks cX3_lacks 4 (some .int) ∈ GW := List.mem_of_getElem? (i := 472) (by decide +kernel)
theorem mw_473 : Cond.methodLink RX3 141 yX3_scripOf ∈ GW := List.mem_of_getElem? (i := 473) (by decide +kernel)
theorem mw_474 : Cond.instanceMethod yX3_scripOf ∈ GW := List.mem_of_getElem? (i := 474) (by decide +kernel)
theorem mw_475 : Cond.selects RX3 yX3_scripOf yX3_scripOf ∈ GW := List.mem_of_getElem? (i := 475) (by decide +kernel)
theorem mw_476 : Cond.code yX3_scripOf cX3_scripOf 4 (some .int) ∈ GW := List.mem_of_getElem? (i := 476) (by decide +kernel)
theorem mw_477 : Cond.methodLink RL 166 yL_buy ∈ GW := List.mem_of_getElem? (i := 477) (by decide +kernel)
theorem mw_478 : Cond.static yL_buy ∈ GW := List.mem_of_getElem? (i := 478) (by decide +kernel)
theorem mw_479 : Cond.codeWith yL_buy cL_buy 6 (some .int) [(0, 12, 15, 19), (0, 12, 19, 21), (0, 12, 23, 13)] ∈ GW := List.mem_of_getElem? (i := 479) (by decide +kernel)
theorem mw_480 : Cond.methodLink RL 57 yX2_buy ∈ GW := List.mem_of_getElem? (i := 480) (by decide +kernel)
theorem mw_481 : Cond.instanceMethod yX2_buy ∈ GW := List.mem_of_getElem? (i := 481) (by decide +kernel)
theorem mw_482 : Cond.selects RX2 yX2_buy yX2_buy ∈ GW := List.mem_of_getElem? (i := 482) (by decide +kernel)
theorem mw_483 : Cond.code yX2_buy cX2_buy 8 (some .int) ∈ GW := List.mem_of_getElem? (i := 483) (by decide +kernel)
theorem mw_484 : Cond.methodLink RX2 161 Lib.Math.min.name ∈ GW := List.mem_of_getElem? (i := 484) (by decide +kernel)
theorem mw_485 : Cond.fieldLink RX2 170 "ScripHollow$Miner" "goodsHeld" "[I" ∈ GW := List.mem_of_getElem? (i := 485) (by decide +kernel)
theorem mw_486 : Cond.methodLink RX2 154 yX0_loseLowestScrip ∈ GW := List.mem_of_getElem? (i := 486) (by decide +kernel)
theorem mw_487 : Cond.instanceMethod yX0_loseLowestScrip ∈ GW := List.mem_of_getElem? (i := 487) (by decide +kernel)
theorem mw_488 : Cond.selects RX0 yX0_loseLowestScrip yX0_loseLowestScrip ∈ GW := List.mem_of_getElem? (i := 488) (by decide +kernel)
theorem mw_489 : Cond.code yX0_loseLowestScrip cX0_loseLowestScrip 4 (some .int) ∈ GW := List.mem_of_getElem? (i := 489) (by decide +kernel)
theorem mw_490 : Cond.methodLink RX0 48 yX0_loseScrip ∈ GW := List.mem_of_getElem? (i := 490) (by decide +kernel)
theorem mw_491 : Cond.methodLink RL 168 yX3_buy ∈ GW := List.mem_of_getElem? (i := 491) (by decide +kernel)
theorem mw_492 : Cond.instanceMethod yX3_buy ∈ GW := List.mem_of_getElem? (i := 492) (by decide +kernel)
theorem mw_493 : Cond.selects RX3 yX3_buy yX3_buy ∈ GW := List.mem_of_getElem? (i := 493) (by decide +kernel)
theorem mw_494 : Cond.code yX3_buy cX3_buy 9 (some .int) ∈ GW := List.mem_of_getElem? (i := 494) (by decide +kernel)
theorem mw_495 : Cond.methodLink RX3 151 yX3_takes ∈ GW := List.mem_of_getElem? (i := 495) (by decide +kernel)
theorem mw_496 : Cond.instanceMethod yX3_takes ∈ GW := List.mem_of_getElem? (i := 496) (by decide +kernel)
theorem mw_497 : Cond.selects RX3 yX3_takes yX3_takes ∈ GW := List.mem_of_getElem? (i := 497) (by decide +kernel)
theorem mw_498 : Cond.code yX3_takes cX3_takes 6 (some .int) ∈ GW := List.mem_of_getElem? (i := 498) (by decide +kernel)
theorem mw_499 : Cond.methodLink RL 169 yL_over ∈ GW := List.mem_of_getElem? (i := 499) (by decide +kernel)
theorem mw_500 : Cond.static yL_over ∈ GW := List.mem_of_getElem? (i := 500) (by decide +kernel)
theorem mw_501 : Cond.codeWith yL_over cL_over 6 (some .int) [(0, 12, 15, 19), (0, 12, 19, 21), (0, 12, 23, 13)] ∈ GW := List.mem_of_getElem? (i := 501) (by decide +kernel)
theorem mw_502 : Cond.methodLink RL 60 yX2_over ∈ GW := List.mem_of_getElem? (i := 502) (by decide +kernel)
theorem mw_503 : Cond.instanceMethod yX2_over ∈ GW := List.mem_of_getElem? (i := 503) (by decide +kernel)
theorem mw_504 : Cond.selects RX2 yX2_over yX2_over ∈ GW := List.mem_of_getElem? (i := 504) (by decide +kernel)
theorem mw_505 : Cond.code yX2_over cX2_over 6 (some .int) ∈ GW := List.mem_of_getElem? (i := 505) (by decide +kernel)
theorem mw_506 : Cond.methodLink RL 171 yX3_over ∈ GW := List.mem_of_getElem? (i := 506) (by decide +kernel)
theorem mw_507 : Cond.instanceMethod yX3_over ∈ GW := List.mem_of_getElem? (i := 507) (by decide +kernel)
theorem mw_508 : Cond.selects RX3 yX3_over yX3_over ∈ GW := List.mem_of_getElem? (i := 508) (by decide +kernel)
theorem mw_509 : Cond.code yX3_over cX3_over 6 (some .int) ∈ GW := List.mem_of_getElem? (i := 509) (by decide +kernel)
theorem mw_510 : Cond.methodLink RL 172 yL_discount ∈ GW := List.mem_of_getElem? (i := 510) (by decide +kernel)
theorem mw_511 : Cond.static yL_discount ∈ GW := List.mem_of_getElem? (i := 511) (by decide +kernel)
theorem mw_512 : Cond.codeWith yL_discount cL_discount 4 (some .int) [(0, 9, 12, 21)] ∈ GW := List.mem_of_getElem? (i := 512) (by decide +kernel)
theorem mw_513 : Cond.methodLink RL 63 yX2_discount ∈ GW := List.mem_of_getElem? (i := 513) (by decide +kernel)
theorem mw_514 : Cond.instanceMethod yX2_discount ∈ GW := List.mem_of_getElem? (i := 514) (by decide +kernel)
theorem mw_515 : Cond.selects RX2 yX2_discount yX2_discount ∈ GW := List.mem_of_getElem? (i := 515) (by decide +kernel)
theorem mw_516 : Cond.code yX2_discount cX2_discount 3 (some .int) ∈ GW := List.mem_of_getElem? (i := 516) (by decide +kernel)
theorem mw_517 : Cond.methodLink RL 174 yX3_discount ∈ GW := List.mem_of_getElem? (i := 517) (by decide +kernel)
theorem mw_518 : Cond.instanceMethod yX3_discount ∈ GW := List.mem_of_getElem? (i := 518) (by decide +kernel)
theorem mw_519 : Cond.selects RX3 yX3_discount yX3_discount ∈ GW := List.mem_of_getElem? (i := 519) (by decide +kernel)
theorem mw_520 : Cond.code yX3_discount cX3_discount 3 (some .int) ∈ GW := List.mem_of_getElem? (i := 520) (by decide +kernel)
theorem mw_521 : Cond.methodLink RL 175 yL_change ∈ GW := List.mem_of_getElem? (i := 521) (by decide +kernel)
theorem mw_522 : Cond.static yL_change ∈ GW := List.mem_of_getElem? (i := 522) (by decide +kernel)
theorem mw_523 : Cond.codeWith yL_change cL_change 5 (some .int) [(0, 10, 13, 19), (0, 10, 17, 21), (0, 10, 21, 13)] ∈ GW := List.mem_of_getElem? (i := 523) (by decide +kernel)
theorem mw_524 : Cond.methodLink RL 66 yX2_change ∈ GW := List.mem_of_getElem? (i := 524) (by decide +kernel)
theorem mw_525 : Cond.instanceMethod yX2_change ∈ GW := List.mem_of_getElem? (i := 525) (by decide +kernel)
theorem mw_526 : Cond.selects RX2 yX2_change yX2_change ∈ GW := List.mem_of_getElem? (i := 526) (by decide +kernel)
theorem mw_527 : Cond.code yX2_change cX2_change 5 (some .int) ∈ GW := List.mem_of_getElem? (i := 527) (by decide +kernel)
theorem mw_528 : Cond.constant RX2 175 (100000) ∈ GW := List.mem_of_getElem? (i := 528) (by decide +kernel)
theorem mw_529 : Cond.methodLink RX2 176 yX0_allScrip ∈ GW := List.mem_of_getElem? (i := 529) (by decide +kernel)
theorem mw_530 : Cond.methodLink RL 177 yX3_change ∈ GW := List.mem_of_getElem? (i := 530) (by decide +kernel)
theorem mw_531 : Cond.instanceMethod yX3_change ∈ GW := List.mem_of_getElem? (i := 531) (by decide +kernel)
theorem mw_532 : Cond.selects RX3 yX3_change yX3_change ∈ GW := List.mem_of_getElem? (i := 532) (by decide +kernel)
theorem mw_533 : Cond.code yX3_change cX3_change 5 (some .int) ∈ GW := List.mem_of_getElem? (i := 533) (by decide +kernel)
theorem mw_534 : Cond.constant RX3 154 (100000) ∈ GW := List.mem_of_getElem? (i := 534) (by decide +kernel)
theorem mw_535 : Cond.methodLink RL 178 yL_law ∈ GW := List.mem_of_getElem? (i := 535) (by decide +kernel)
theorem mw_536 : Cond.static yL_law ∈ GW := List.mem_of_getElem? (i := 536) (by decide +kernel)
theorem mw_537 : Cond.codeWith yL_law cL_law 5 (some .int) [(0, 17, 20, 19)] ∈ GW := List.mem_of_getElem? (i := 537) (by decide +kernel)
theorem mw_538 : Cond.methodLink RL 69 yX2_law ∈ GW := List.mem_of_getElem? (i := 538) (by decide +kernel)
theorem mw_539 : Cond.instanceMethod yX2_law ∈ GW := List.mem_of_getElem? (i := 539) (by decide +kernel)
theorem mw_540 : Cond.selects RX2 yX2_law yX2_law ∈ GW := List.mem_of_getElem? (i := 540) (by decide +kernel)
theorem mw_541 : Cond.code yX2_law cX2_law 4 (some .boolean) ∈ GW := List.mem_of_getElem? (i := 541) (by decide +kernel)
theorem mw_542 : Cond.methodLink RL 181 yX3_law ∈ GW := List.mem_of_getElem? (i := 542) (by decide +kernel)
theorem mw_543 : Cond.instanceMethod yX3_law ∈ GW := List.mem_of_getElem? (i := 543) (by decide +kernel)
theorem mw_544 : Cond.selects RX3 yX3_law yX3_law ∈ GW := List.mem_of_getElem? (i := 544) (by decide +kernel)
theorem mw_545 : Cond.code yX3_law cX3_law 4 (some .boolean) ∈ GW := List.mem_of_getElem? (i := 545) (by decide +kernel)
theorem mw_546 : Cond.methodLink RL 182 yX2_obey ∈ GW := List.mem_of_getElem? (i := 546) (by decide +kernel)
theorem mw_547 : Cond.instanceMethod yX2_obey ∈ GW := List.mem_of_getElem? (i := 547) (by decide +kernel)
theorem mw_548 : Cond.selects RX2 yX2_obey yX2_obey ∈ GW := List.mem_of_getElem? (i := 548) (by decide +kernel)
theorem mw_549 : Cond.code yX2_obey cX2_obey 3 (some .boolean) ∈ GW := List.mem_of_getElem? (i := 549) (by decide +kernel)
theorem mw_550 : Cond.methodLink RL 185 yX3_obey ∈ GW := List.mem_of_getElem? (i := 550) (by decide +kernel)
theorem mw_551 : Cond.instanceMethod yX3_obey ∈ GW := List.mem_of_getElem? (i := 551) (by decide +kernel)
theorem mw_552 : Cond.selects RX3 yX3_obey yX3_obey ∈ GW := List.mem_of_getElem? (i := 552) (by decide +kernel)
theorem mw_553 : Cond.code yX3_obey cX3_obey 3 (some .boolean) ∈ GW := List.mem_of_getElem? (i := 553) (by decide +kernel)
theorem mw_554 : Cond.methodLink RL 186 yX2_breaches ∈ GW := List.mem_of_getElem? (i := 554) (by decide +kernel)
theorem mw_555 : Cond.instanceMethod yX2_breaches ∈ GW := List.mem_of_getElem? (i := 555) (by decide +kernel)
theorem mw_556 : Cond.selects RX2 yX2_breaches yX2_breaches ∈ GW := List.mem_of_getElem? (i := 556) (by decide +kernel)
theorem mw_557 : Cond.code yX2_breaches cX2_breaches 1 (some .int) ∈ GW := List.mem_of_getElem? (i := 557) (by decide +kernel)
theorem mw_558 : Cond.methodLink RL 189 yX3_breaches ∈ GW := List.mem_of_getElem? (i := 558) (by decide +kernel)
theorem mw_559 : Cond.instanceMethod yX3_breaches ∈ GW := List.mem_of_getElem? (i := 559) (by decide +kernel)
theorem mw_560 : Cond.selects RX3 yX3_breaches yX3_breaches ∈ GW := List.mem_of_getElem? (i := 560) (by decide +kernel)
theorem mw_561 : Cond.code yX3_breaches cX3_breaches 1 (some .int) ∈ GW := List.mem_of_getElem? (i := 561) (by decide +kernel)
theorem mw_562 : Cond.methodLink RL 190 yL_die ∈ GW := List.mem_of_getElem? (i := 562) (by decide +kernel)
theorem mw_563 : Cond.static yL_die ∈ GW := List.mem_of_getElem? (i := 563) (by decide +kernel)
theorem mw_564 : Cond.codeWith yL_die cL_die 4 (some .int) [(0, 9, 12, 19), (0, 9, 15, 13)] ∈ GW := List.mem_of_getElem? (i := 564) (by decide +kernel)
theorem mw_565 : Cond.methodLink RL 73 yX2_die ∈ GW := List.mem_of_getElem? (i := 565) (by decide +kernel)
theorem mw_566 : Cond.instanceMethod yX2_die ∈ GW := List.mem_of_getElem? (i := 566) (by decide +kernel)
theorem mw_567 : Cond.selects RX2 yX2_die yX2_die ∈ GW := List.mem_of_getElem? (i := 567) (by decide +kernel)
theorem mw_568 : Cond.code yX2_die cX2_die 4 (some .int) ∈ GW := List.mem_of_getElem? (i := 568) (by decide +kernel)
theorem mw_569 : Cond.methodLink RX2 191 yX2_heirOf ∈ GW := List.mem_of_getElem? (i := 569) (by decide +kernel)
theorem mw_570 : Cond.instanceMethod yX2_heirOf ∈ GW := List.mem_of_getElem? (i := 570) (by decide +kernel)
theorem mw_571 : Cond.selects RX2 yX2_heirOf yX2_heirOf ∈ GW := List.mem_of_getElem? (i := 571) (by decide +kernel)
theorem mw_572 : Cond.code yX2_heirOf cX2_heirOf 5 (some .int) ∈ GW := List.mem_of_getElem? (i := 572) (by decide +kernel)
theorem mw_573 : Cond.methodLink RX2 195 yX0_inherit ∈ GW := List.mem_of_getElem? (i := 573) (by decide +kernel)
theorem mw_574 : Cond.instanceMethod yX0_inherit ∈ GW := List.mem_of_getElem? (i := 574) (by decide +kernel)
theorem mw_575 : Cond.selects RX0 yX0_inherit yX0_inherit ∈ GW := List.mem_of_getElem? (i := 575) (by decide +kernel)
theorem mw_576 : Cond.code yX0_inherit cX0_inherit 4 none ∈ GW := List.mem_of_getElem? (i := 576) (by decide +kernel)
theorem mw_577 : Cond.fieldLink RX0 55 "ScripHollow$Miner" "debt" "I" ∈ GW := List.mem_of_getElem? (i := 577) (by decide +kernel)
theorem mw_578 : Cond.fieldLink RX0 58 "ScripHollow$Miner" "arrears" "I" ∈ GW := List.mem_of_getElem? (i := 578) (by decide +kernel)
theorem mw_579 : Cond.methodLink RX0 51 yX0_gainScrip ∈ GW := List.mem_of_getElem? (i := 579) (by decide +kernel)
theorem mw_580 : Cond.methodLink RX2 199 yX0_leaveAll ∈ GW := List.mem_of_getElem? (i := 580) (by decide +kernel)
theorem mw_581 : Cond.instanceMethod yX0_leaveAll ∈ GW := List.mem_of_getElem? (i := 581) (by decide +kernel)
theorem mw_582 : Cond.selects RX0 yX0_leaveAll yX0_leaveAll ∈ GW := List.mem_of_getElem? (i := 582) (by decide +kernel)
theorem mw_583 : Cond.code yX0_leaveAll cX0_leaveAll 2 none ∈ GW := List.mem_of_getElem? (i := 583) (by decide +kernel)
theorem mw_584 : Cond.fieldLink RX0 61 "ScripHollow$Miner" "coal" "I" ∈ GW := List.mem_of_getElem? (i := 584) (by decide +kernel)
theorem mw_585 : Cond.methodLink RX0 64 yX0_loseLowestScrip ∈ GW := List.mem_of_getElem? (i := 585) (by decide +kernel)
theorem mw_586 : Cond.methodLink RL 192 yX3_die ∈ GW := List.mem_of_getElem? (i := 586) (by decide +kernel)
theorem mw_587 : Cond.instanceMethod yX3_die ∈ GW := List.mem_of_getElem? (i := 587) (by decide +kernel)
theorem mw_588 : Cond.selects RX3 yX3_die yX3_die ∈ GW := List.mem_of_getElem? (i := 588) (by decide +kernel)
theorem mw_589 : Cond.code yX3_die cX3_die 3 (some .int) ∈ GW := List.mem_of_getElem? (i := 589) (by decide +kernel)
theorem mw_590 : Cond.methodLink RX3 155 yX3_heirOf ∈ GW := List.mem_of_getElem? (i := 590) (by decide +kernel)
theorem mw_591 : Cond.instanceMethod yX3_heirOf ∈ GW := List.mem_of_getElem? (i := 591) (by decide +kernel)
theorem mw_592 : Cond.selects RX3 yX3_heirOf yX3_heirOf ∈ GW := List.mem_of_getElem? (i := 592) (by decide +kernel)
theorem mw_593 : Cond.code yX3_heirOf cX3_heirOf 3 (some .int) ∈ GW := List.mem_of_getElem? (i := 593) (by decide +kernel)
theorem mw_594 : Cond.methodLink RX3 158 yX3_leaves ∈ GW := List.mem_of_getElem? (i := 594) (by decide +kernel)
theorem mw_595 : Cond.instanceMethod yX3_leaves ∈ GW := List.mem_of_getElem? (i := 595) (by decide +kernel)
theorem mw_596 : Cond.selects RX3 yX3_leaves yX3_leaves ∈ GW := List.mem_of_getElem? (i := 596) (by decide +kernel)
theorem mw_597 : Cond.code yX3_leaves cX3_leaves 5 none ∈ GW := List.mem_of_getElem? (i := 597) (by decide +kernel)
theorem mw_598 : Cond.methodLink RL 193 yL_vote ∈ GW := List.mem_of_getElem? (i := 598) (by decide +kernel)
theorem mw_599 : Cond.static yL_vote ∈ GW := List.mem_of_getElem? (i := 599) (by decide +kernel)
theorem mw_600 : Cond.codeWith yL_vote cL_vote 5 (some .int) [(0, 17, 20, 19)] ∈ GW := List.mem_of_getElem? (i := 600) (by decide +kernel)
theorem mw_601 : Cond.methodLink RL 76 yX2_vote ∈ GW := List.mem_of_getElem? (i := 601) (by decide +kernel)
theorem mw_602 : Cond.instanceMethod yX2_vote ∈ GW := List.mem_of_getElem? (i := 602) (by decide +kernel)
theorem mw_603 : Cond.selects RX2 yX2_vote yX2_vote ∈ GW := List.mem_of_getElem? (i := 603) (by decide +kernel)
theorem mw_604 : Cond.code yX2_vote cX2_vote 5 (some .boolean) ∈ GW := List.mem_of_getElem? (i := 604) (by decide +kernel)
theorem mw_605 : Cond.fieldLink RX2 202 "ScripHollow$Miner" "isForStrike" "Z" ∈ GW := List.mem_of_getElem? (i := 605) (by decide +kernel)
theorem mw_606 : Cond.methodLink RL 195 yX3_vote ∈ GW := List.mem_of_getElem? (i := 606) (by decide +kernel)
theorem mw_607 : Cond.instanceMethod yX3_vote ∈ GW := List.mem_of_getElem? (i := 607) (by decide +kernel)
theorem mw_608 : Cond.selects RX3 yX3_vote yX3_vote ∈ GW := List.mem_of_getElem? (i := 608) (by decide +kernel)
theorem mw_609 : Cond.code yX3_vote cX3_vote 4 (some .boolean) ∈ GW := List.mem_of_getElem? (i := 609) (by decide +kernel)
theorem mw_610 : Cond.methodLink RL 196 yL_strike ∈ GW := List.mem_of_getElem? (i := 610) (by decide +kernel)
theorem mw_611 : Cond.static yL_strike ∈ GW := List.mem_of_getElem? (i := 611) (by decide +kernel)
theorem mw_612 : Cond.codeWith yL_strike cL_strike 3 (some .int) [(0, 15, 18, 13)] ∈ GW := List.mem_of_getElem? (i := 612) (by decide +kernel)
theorem mw_613 : Cond.methodLink RL 79 yX2_strike ∈ GW := List.mem_of_getElem? (i := 613) (by decide +kernel)
theorem mw_614 : Cond.instanceMethod yX2_strike ∈ GW := List.mem_of_getElem? (i := 614) (by decide +kernel)
theorem mw_615 : Cond.selects RX2 yX2_strike yX2_strike ∈ GW := List.mem_of_getElem? (i := 615) (by decide +kernel)
theorem mw_616 : Cond.code yX2_strike cX2_strike 1 (some .boolean) ∈ GW := List.mem_of_getElem? (i := 616) (by decide +kernel)
theorem mw_617 : Cond.methodLink RX2 205 yX2_canStrike ∈ GW := List.mem_of_getElem? (i := 617) (by decide +kernel)
theorem mw_618 : Cond.instanceMethod yX2_canStrike ∈ GW := List.mem_of_getElem? (i := 618) (by decide +kernel)
theorem mw_619 : Cond.selects RX2 yX2_canStrike yX2_canStrike ∈ GW := List.mem_of_getElem? (i := 619) (by decide +kernel)
theorem mw_620 : Cond.code yX2_canStrike cX2_canStrike 4 (some .boolean) ∈ GW := List.mem_of_getElem? (i := 620) (by decide +kernel)
theorem mw_621 : Cond.methodLink RL 198 yX3_strike ∈ GW := List.mem_of_getElem? (i := 621) (by decide +kernel)
theorem mw_622 : Cond.instanceMethod yX3_strike ∈ GW := List.mem_of_getElem? (i := 622) (by decide +kernel)
theorem mw_623 : Cond.selects RX3 yX3_strike yX3_strike ∈ GW := List.mem_of_getElem? (i := 623) (by decide +kernel)
theorem mw_624 : Cond.code yX3_strike cX3_strike 3 (some .boolean) ∈ GW := List.mem_of_getElem? (i := 624) (by decide +kernel)
theorem mw_625 : Cond.methodLink RL 199 yL_give ∈ GW := List.mem_of_getElem? (i := 625) (by decide +kernel)
theorem mw_626 : Cond.static yL_give ∈ GW := List.mem_of_getElem? (i := 626) (by decide +kernel)
theorem mw_627 : Cond.codeWith yL_give cL_give 4 (some .int) [(0, 9, 12, 21)] ∈ GW := List.mem_of_getElem? (i := 627) (by decide +kernel)
theorem mw_628 : Cond.methodLink RL 83 yX2_give ∈ GW := List.mem_of_getElem? (i := 628) (by decide +kernel)
theorem mw_629 : Cond.instanceMethod yX2_give ∈ GW := List.mem_of_getElem? (i := 629) (by decide +kernel)
theorem mw_630 : Cond.selects RX2 yX2_give yX2_give ∈ GW := List.mem_of_getElem? (i := 630) (by decide +kernel)
theorem mw_631 : Cond.code yX2_give cX2_give 2 (some .int) ∈ GW := List.mem_of_getElem? (i := 631) (by decide +kernel)
theorem mw_632 : Cond.fieldLink RX2 211 "ScripHollow" "fund" "I" ∈ GW := List.mem_of_getElem? (i := 632) (by decide +kernel)
theorem mw_633 : Cond.methodLink RL 201 yX3_give ∈ GW := List.mem_of_getElem? (i := 633) (by decide +kernel)
theorem mw_634 : Cond.instanceMethod yX3_give ∈ GW := List.mem_of_getElem? (i := 634) (by decide +kernel)
theorem mw_635 : Cond.selects RX3 yX3_give yX3_give ∈ GW := List.mem_of_getElem? (i := 635) (by decide +kernel)
theorem mw_636 : Cond.code yX3_give cX3_give 2 (some .int) ∈ GW := List.mem_of_getElem? (i := 636) (by decide +kernel)
theorem mw_637 : Cond.fieldLink RX3 161 "ScripHollowModel" "fund" "I" ∈ GW := List.mem_of_getElem? (i := 637) (by decide +kernel)
theorem mw_638 : Cond.methodLink RL 202 yL_soup ∈ GW := List.mem_of_getElem? (i := 638) (by decide +kernel)
theorem mw_639 : Cond.static yL_soup ∈ GW := List.mem_of_getElem? (i := 639) (by decide +kernel)
theorem mw_640 : Cond.codeWith yL_soup cL_soup 3 (some .int) [(0, 8, 11, 13)] ∈ GW := List.mem_of_getElem? (i := 640) (by decide +kernel)
theorem mw_641 : Cond.methodLink RL 86 yX2_soup ∈ GW := List.mem_of_getElem? (i := 641) (by decide +kernel)
theorem mw_642 : Cond.instanceMethod yX2_soup ∈ GW := List.mem_of_getElem? (i := 642) (by decide +kernel)
theorem mw_643 : Cond.selects RX2 yX2_soup yX2_soup ∈ GW := List.mem_of_getElem? (i := 643) (by decide +kernel)
theorem mw_644 : Cond.code yX2_soup cX2_soup 4 (some .int) ∈ GW := List.mem_of_getElem? (i := 644) (by decide +kernel)
theorem mw_645 : Cond.methodLink RX2 216 yX2_poorestBut ∈ GW := List.mem_of_getElem? (i := 645) (by decide +kernel)
theorem mw_646 : Cond.instanceMethod yX2_poorestBut ∈ GW := List.mem_of_getElem? (i := 646) (by decide +kernel)
theorem mw_647 : Cond.selects RX2 yX2_poorestBut yX2_poorestBut ∈ GW := List.mem_of_getElem? (i := 647) (by decide +kernel)
theorem mw_648 : Cond.code yX2_poorestBut cX2_poorestBut 7 (some .int) ∈ GW := List.mem_of_getElem? (i := 648) (by decide +kernel)
theorem mw_649 : Cond.methodLink RL 204 yX3_soup ∈ GW := List.mem_of_getElem? (i := 649) (by decide +kernel)
theorem mw_650 : Cond.instanceMethod yX3_soup ∈ GW := List.mem_of_getElem? (i := 650) (by decide +kernel)
theorem mw_651 : Cond.selects RX3 yX3_soup yX3_soup ∈ GW := List.mem_of_getElem? (i := 651) (by decide +kernel)
theorem mw_652 : Cond.code yX3_soup cX3_soup 5 (some .int) ∈ GW := List.mem_of_getElem? (i := 652) (by decide +kernel)
theorem mw_653 : Cond.methodLink RL 205 yL_close ∈ GW := List.mem_of_getElem? (i := 653) (by decide +kernel)
theorem mw_654 : Cond.static yL_close ∈ GW := List.mem_of_getElem? (i := 654) (by decide +kernel)
theorem mw_655 : Cond.codeWith yL_close cL_close 4 (some .int) [(0, 9, 12, 21), (0, 9, 15, 13)] ∈ GW := List.mem_of_getElem? (i := 655) (by decide +kernel)
theorem mw_656 : Cond.methodLink RL 89 yX2_close ∈ GW := List.mem_of_getElem? (i := 656) (by decide +kernel)
theorem mw_657 : Cond.instanceMethod yX2_close ∈ GW := List.mem_of_getElem? (i := 657) (by decide +kernel)
theorem mw_658 : Cond.selects RX2 yX2_close yX2_close ∈ GW := List.mem_of_getElem? (i := 658) (by decide +kernel)
theorem mw_659 : Cond.code yX2_close cX2_close 4 (some .int) ∈ GW := List.mem_of_getElem? (i := 659) (by decide +kernel)
theorem mw_660 : Cond.methodLink RX2 221 yX2_redeem ∈ GW := List.mem_of_getElem? (i := 660) (by decide +kernel)
theorem mw_661 : Cond.instanceMethod yX2_redeem ∈ GW := List.mem_of_getElem? (i := 661) (by decide +kernel)
theorem mw_662 : Cond.selects RX2 yX2_redeem yX2_redeem ∈ GW := List.mem_of_getElem? (i := 662) (by decide +kernel)
theorem mw_663 : Cond.code yX2_redeem cX2_redeem 9 (some .int) ∈ GW := List.mem_of_getElem? (i := 663) (by decide +kernel)
theorem mw_664 : Cond.methodLink RL 207 yX3_close ∈ GW := List.mem_of_getElem? (i := 664) (by decide +kernel)
theorem mw_665 : Cond.instanceMethod yX3_close ∈ GW := List.mem_of_getElem? (i := 665) (by decide +kernel)
theorem mw_666 : Cond.selects RX3 yX3_close yX3_close ∈ GW := List.mem_of_getElem? (i := 666) (by decide +kernel)
theorem mw_667 : Cond.code yX3_close cX3_close 4 (some .int) ∈ GW := List.mem_of_getElem? (i := 667) (by decide +kernel)
theorem mw_668 : Cond.methodLink RX3 164 yX3_redeems ∈ GW := List.mem_of_getElem? (i := 668) (by decide +kernel)
theorem mw_669 : Cond.instanceMethod yX3_redeems ∈ GW := List.mem_of_getElem? (i := 669) (by decide +kernel)
theorem mw_670 : Cond.selects RX3 yX3_redeems yX3_redeems ∈ GW := List.mem_of_getElem? (i := 670) (by decide +kernel)
theorem mw_671 : Cond.code yX3_redeems cX3_redeems 11 (some .int) ∈ GW := List.mem_of_getElem? (i := 671) (by decide +kernel)
theorem mw_672 : Cond.methodLink RL 208 yL_about ∈ GW := List.mem_of_getElem? (i := 672) (by decide +kernel)
theorem mw_673 : Cond.static yL_about ∈ GW := List.mem_of_getElem? (i := 673) (by decide +kernel)
theorem mw_674 : Cond.codeWith yL_about cL_about 5 (some .int) [(0, 10, 13, 19), (0, 10, 17, 21)] ∈ GW := List.mem_of_getElem? (i := 674) (by decide +kernel)
theorem mw_675 : Cond.methodLink RL 92 yX2_about ∈ GW := List.mem_of_getElem? (i := 675) (by decide +kernel)
theorem mw_676 : Cond.instanceMethod yX2_about ∈ GW := List.mem_of_getElem? (i := 676) (by decide +kernel)
theorem mw_677 : Cond.selects RX2 yX2_about yX2_about ∈ GW := List.mem_of_getElem? (i := 677) (by decide +kernel)
theorem mw_678 : Cond.code yX2_about cX2_about 4 (some .int) ∈ GW := List.mem_of_getElem? (i := 678) (by decide +kernel)
theorem mw_679 : Cond.methodLink RL 210 yX3_about ∈ GW := List.mem_of_getElem? (i := 679) (by decide +kernel)
theorem mw_680 : Cond.instanceMethod yX3_about ∈ GW := List.mem_of_getElem? (i := 680) (by decide +kernel)
theorem mw_681 : Cond.selects RX3 yX3_about yX3_about ∈ GW := List.mem_of_getElem? (i := 681) (by decide +kernel)
theorem mw_682 : Cond.code yX3_about cX3_about 3 (some .int) ∈ GW := List.mem_of_getElem? (i := 682) (by decide +kernel)
theorem mw_683 : Cond.methodLink RL 211 yL_has ∈ GW := List.mem_of_getElem? (i := 683) (by decide +kernel)
theorem mw_684 : Cond.static yL_has ∈ GW := List.mem_of_getElem? (i := 684) (by decide +kernel)
theorem mw_685 : Cond.codeWith yL_has cL_has 5 (some .int) [(0, 10, 13, 19)] ∈ GW := List.mem_of_getElem? (i := 685) (by decide +kernel)
theorem mw_686 : Cond.methodLink RL 95 yX2_has ∈ GW := List.mem_of_getElem? (i := 686) (by decide +kernel)
theorem mw_687 : Cond.instanceMethod yX2_has ∈ GW := List.mem_of_getElem? (i := 687) (by decide +kernel)
theorem mw_688 : Cond.selects RX2 yX2_has yX2_has ∈ GW := List.mem_of_getElem? (i := 688) (by decide +kernel)
theorem mw_689 : Cond.code yX2_has cX2_has 4 (some .int) ∈ GW := List.mem_of_getElem? (i := 689) (by decide +kernel)
theorem mw_690 : Cond.methodLink RL 213 yX3_has ∈ GW := List.mem_of_getElem? (i := 690) (by decide +kernel)
theorem mw_691 : Cond.instanceMethod yX3_has ∈ GW := List.mem_of_getElem? (i := 691) (by decide +kernel)
theorem mw_692 : Cond.selects RX3 yX3_has yX3_has ∈ GW := List.mem_of_getElem? (i := 692) (by decide +kernel)
theorem mw_693 : Cond.code yX3_has cX3_has 3 (some .int) ∈ GW := List.mem_of_getElem? (i := 693) (by decide +kernel)
theorem mw_694 : Cond.methodLink RL 214 yL_scrip ∈ GW := List.mem_of_getElem? (i := 694) (by decide +kernel)
theorem mw_695 : Cond.static yL_scrip ∈ GW := List.mem_of_getElem? (i := 695) (by decide +kernel)
theorem mw_696 : Cond.codeWith yL_scrip cL_scrip 5 (some .int) [(0, 10, 13, 19), (0, 10, 17, 21)] ∈ GW := List.mem_of_getElem? (i := 696) (by decide +kernel)
theorem mw_697 : Cond.methodLink RL 98 yX2_scrip ∈ GW := List.mem_of_getElem? (i := 697) (by decide +kernel)
theorem mw_698 : Cond.instanceMethod yX2_scrip ∈ GW := List.mem_of_getElem? (i := 698) (by decide +kernel)
theorem mw_699 : Cond.selects RX2 yX2_scrip yX2_scrip ∈ GW := List.mem_of_getElem? (i := 699) (by decide +kernel)
theorem mw_700 : Cond.code yX2_scrip cX2_scrip 4 (some .int) ∈ GW := List.mem_of_getElem? (i := 700) (by decide +kernel)
theorem mw_701 : Cond.methodLink RL 216 yX3_scrip ∈ GW := List.mem_of_getElem? (i := 701) (by decide +kernel)
theorem mw_702 : Cond.instanceMethod yX3_scrip ∈ GW := List.mem_of_getElem? (i := 702) (by decide +kernel)
theorem mw_703 : Cond.selects RX3 yX3_scrip yX3_scrip ∈ GW := List.mem_of_getElem? (i := 703) (by decide +kernel)
theorem mw_704 : Cond.code yX3_scrip cX3_scrip 3 (some .int) ∈ GW := List.mem_of_getElem? (i := 704) (by decide +kernel)
theorem mw_705 : Cond.methodLink RL 217 yL_scripAnew ∈ GW := List.mem_of_getElem? (i := 705) (by decide +kernel)
theorem mw_706 : Cond.static yL_scripAnew ∈ GW := List.mem_of_getElem? (i := 706) (by decide +kernel)
theorem mw_707 : Cond.codeWith yL_scripAnew cL_scripAnew 4 (some .int) [(0, 9, 12, 19)] ∈ GW := List.mem_of_getElem? (i := 707) (by decide +kernel)
theorem mw_708 : Cond.methodLink RL 101 yX2_scripAnew ∈ GW := List.mem_of_getElem? (i := 708) (by decide +kernel)
theorem mw_709 : Cond.instanceMethod yX2_scripAnew ∈ GW := List.mem_of_getElem? (i := 709) (by decide +kernel)
theorem mw_710 : Cond.selects RX2 yX2_scripAnew yX2_scripAnew ∈ GW := List.mem_of_getElem? (i := 710) (by decide +kernel)
theorem mw_711 : Cond.code yX2_scripAnew cX2_scripAnew 3 (some .int) ∈ GW := List.mem_of_getElem? (i := 711) (by decide +kernel)
theorem mw_712 : Cond.fieldLink RX2 232 "ScripHollow$Miner" "scripCame" "I" ∈ GW := List.mem_of_getElem? (i := 712) (by decide +kernel)
theorem mw_713 : Cond.fieldLink RX2 235 "ScripHollow$Miner" "scripWent" "I" ∈ GW := List.mem_of_getElem? (i := 713) (by decide +kernel)
theorem mw_714 : Cond.methodLink RL 219 yX3_scripAnew ∈ GW := List.mem_of_getElem? (i := 714) (by decide +kernel)
theorem mw_715 : Cond.instanceMethod yX3_scripAnew ∈ GW := List.mem_of_getElem? (i := 715) (by decide +kernel)
theorem mw_716 : Cond.selects RX3 yX3_scripAnew yX3_scripAnew ∈ GW := List.mem_of_getElem? (i := 716) (by decide +kernel)
theorem mw_717 : Cond.code yX3_scripAnew cX3_scripAnew 2 (some .int) ∈ GW := List.mem_of_getElem? (i := 717) (by decide +kernel)
theorem mw_718 : Cond.methodLink RL 220 yL_baskets ∈ GW := List.mem_of_getElem? (i := 718) (by decide +kernel)
theorem mw_719 : Cond.static yL_baskets ∈ GW := List.mem_of_getElem? (i := 719) (by decide +kernel)
theorem mw_720 : Cond.codeWith yL_baskets cL_baskets 4 (some .int) [(0, 9, 12, 19)] ∈ GW := List.mem_of_getElem? (i := 720) (by decide +kernel)
theorem mw_721 : Cond.methodLink RL 104 yX2_baskets ∈ GW := List.mem_of_getElem? (i := 721) (by decide +kernel)
theorem mw_722 : Cond.instanceMethod yX2_baskets ∈ GW := List.mem_of_getElem? (i := 722) (by decide +kernel)
theorem mw_723 : Cond.selects RX2 yX2_baskets yX2_baskets ∈ GW := List.mem_of_getElem? (i := 723) (by decide +kernel)
theorem mw_724 : Cond.code yX2_baskets cX2_baskets 5 (some .int) ∈ GW := List.mem_of_getElem? (i := 724) (by decide +kernel)
theorem mw_725 : Cond.methodLink RL 222 yX3_baskets ∈ GW := List.mem_of_getElem? (i := 725) (by decide +kernel)
theorem mw_726 : Cond.instanceMethod yX3_baskets ∈ GW := List.mem_of_getElem? (i := 726) (by decide +kernel)
theorem mw_727 : Cond.selects RX3 yX3_baskets yX3_baskets ∈ GW := List.mem_of_getElem? (i := 727) (by decide +kernel)
theorem mw_728 : Cond.code yX3_baskets cX3_baskets 4 (some .int) ∈ GW := List.mem_of_getElem? (i := 728) (by decide +kernel)
theorem mw_729 : Cond.methodLink RL 223 yL_books ∈ GW := List.mem_of_getElem? (i := 729) (by decide +kernel)
theorem mw_730 : Cond.static yL_books ∈ GW := List.mem_of_getElem? (i := 730) (by decide +kernel)
theorem mw_731 : Cond.codeWith yL_books cL_books 4 (some .int) [(0, 9, 12, 19)] ∈ GW := List.mem_of_getElem? (i := 731) (by decide +kernel)
theorem mw_732 : Cond.methodLink RL 107 yX2_books ∈ GW := List.mem_of_getElem? (i := 732) (by decide +kernel)
theorem mw_733 : Cond.instanceMethod yX2_books ∈ GW := List.mem_of_getElem? (i := 733) (by decide +kernel)
theorem mw_734 : Cond.selects RX2 yX2_books yX2_books ∈ GW := List.mem_of_getElem? (i := 734) (by decide +kernel)
theorem mw_735 : Cond.code yX2_books cX2_books 2 (some .int) ∈ GW := List.mem_of_getElem? (i := 735) (by decide +kernel)
theorem mw_736 : Cond.methodLink RL 225 yX3_books ∈ GW := List.mem_of_getElem? (i := 736) (by decide +kernel)
theorem mw_737 : Cond.instanceMethod yX3_books ∈ GW := List.mem_of_getElem? (i := 737) (by decide +kernel)
theorem mw_738 : Cond.selects RX3 yX3_books yX3_books ∈ GW := List.mem_of_getElem? (i := 738) (by decide +kernel)
theorem mw_739 : Cond.code yX3_books cX3_books 2 (some .int) ∈ GW := List.mem_of_getElem? (i := 739) (by decide +kernel)
set_option maxRecDepth 100000 in
theorem gw_all : GW.all goodWord = true := by decide +kernel
theorem gw_good {w : Cond} (h : w ∈ GW) : GoodIn GW (w :: GW) := fun v hv => ⟨(List.mem_cons.mp hv).elim (fun e => e ▸ h) id, good_of_word (List.all_eq_true.mp gw_all v ((List.mem_cons.mp hv).elim (fun e => e ▸ h) id))⟩
end
section
/-! The town's world: every object of class, reference and law at an id; what ints they hold is M id slot. -/
abbrev Mem : Type := Nat → Nat → Int32
abbrev St : Type := Nat × (Nat → Nat) × (Nat → Int64) × Mem
abbrev mO (k : Nat) : Nat := 28 + 3 * k
abbrev mG (k : Nat) : Nat := 29 + 3 * k
abbrev mS (k : Nat) : Nat := 30 + 3 * k
def cnt (n : Nat) : Nat := if n = 0 then 27 else 28 + 3 * n
def fs0 (ρ : Nat → Nat) (k : Nat) (f : Nat → Int32) : List Value := [.int (f 0), .int (f 1), .int (f 2), .int (f 3), .int (f 4), .int (f 5), .int (f 6), .int (f 7), .int (f 8), .int (f 9), .ref (ρ (mG k)), .ref (ρ (mS k)), .int (f 12), .int (f 13)]
def fs1 (f : Nat → Int32) : List Value := [.int (f 0), .int (f 1), .int (f 2), .int (f 3)]
def fs2 (ρ : Nat → Nat) (f : Nat → Int32) : List Value := [.ref (ρ 1), .int (f 1), .int (f 2), .int (f 3), .ref (ρ 2), .ref (ρ 3), .int (f 6), .ref (ρ 4), .ref (ρ 5), .int (f 9), .int (f 10), .ref (ρ 6), .int (f 12), .int (f 13), .int (f 14), .int (f 15), .int (f 16), .ref (ρ 7)]
def fs3 (ρ : Nat → Nat) (f : Nat → Int32) : List Value := [.int (f 0), .ref (ρ 10), .ref (ρ 11), .ref (ρ 12), .ref (ρ 13), .ref (ρ 14), .ref (ρ 15), .ref (ρ 16), .ref (ρ 17), .ref (ρ 18), .ref (ρ 19), .ref (ρ 20), .ref (ρ 21), .ref (ρ 22), .ref (ρ 23), .ref (ρ 24), .ref (ρ 25), .ref (ρ 26), .int (f 18), .int (f 19), .int (f 20), .int (f 21), .int (f 22), .int (f 23), .int (f 24), .int (f 25), .int (f 26), .int (f 27), .int (f 28), .int (f 29)]
def fsL (n : Nat) (ρ : Nat → Nat) (f : Nat → Int32) : List Value := [.int (f 0), .ref (ρ 27), .int (nI n)]
def minersAt (n : Nat) (ρ : Nat → Nat) : Nat → Option Nat := fun j => if j < n then some (ρ (mO j)) else none
/-- what lies at the id i, if its ints are f -/
def cellOf (cA : Nat → ClassId) (n : Nat) (ρ : Nat → Nat) (J : Nat → Int64) (i : Nat) (f : Nat → Int32) : va_E := match i with
  | 0 => .inr (3, fs2 ρ f)
  | 1 => .inr (0, fsL n ρ f)
  | 2 => .inl (cA 0, 5, .inl f)
  | 3 => .inr (2, fs1 f)
  | 4 => .inl (cA 0, 4, .inl f)
  | 5 => .inl (cA 0, 4, .inl f)
  | 6 => .inl (cA 1, 3, .inl f)
  | 7 => .inl (cA 0, 6, .inl f)
  | 8 => .inl (cA 2, 1, .inr (.inl J))
  | 9 => .inr (4, fs3 ρ f)
  | 10 => .inl (cA 1, 10, .inl f)
  | 11 => .inl (cA 1, 10, .inl f)
  | 12 => .inl (cA 1, 10, .inl f)
  | 13 => .inl (cA 0, 10, .inl f)
  | 14 => .inl (cA 0, 10, .inl f)
  | 15 => .inl (cA 0, 10, .inl f)
  | 16 => .inl (cA 0, 10, .inl f)
  | 17 => .inl (cA 0, 10, .inl f)
  | 18 => .inl (cA 0, 10, .inl f)
  | 19 => .inl (cA 0, 10, .inl f)
  | 20 => .inl (cA 0, 400, .inl f)
  | 21 => .inl (cA 0, 40, .inl f)
  | 22 => .inl (cA 1, 10, .inl f)
  | 23 => .inl (cA 0, 5, .inl f)
  | 24 => .inl (cA 0, 8, .inl f)
  | 25 => .inl (cA 1, 3, .inl f)
  | 26 => .inl (cA 0, 6, .inl f)
  | 27 => .inl (cA 3, 10, .inr (.inr (.inr (.inr (minersAt n ρ)))))
  | k + 28 => if k % 3 = 0 then .inr (1, fs0 ρ (k / 3) f) else if k % 3 = 1 then .inl (cA 0, 4, .inl f) else .inl (cA 0, 40, .inl f)
/-- one row of the ints anew -/
def up1 (M : Mem) (i : Nat) (g : Nat → Int32) : Mem := fun j => if j = i then g else M j
/-- one int anew -/
def up (M : Mem) (i k : Nat) (v : Int32) : Mem := up1 M i (upd (M i) k v)
def ws (cA : Nat → ClassId) (n : Nat) (ρ : Nat → Nat) (J : Nat → Int64) (M : Mem) : va_W := (List.range (cnt n)).map (fun i => (ρ i, cellOf cA n ρ J i (M i)))
theorem ws_at {cA : Nat → ClassId} {n : Nat} {ρ : Nat → Nat} {J : Nat → Int64} {M : Mem} {i : Nat} (h : i < cnt n) : (ws cA n ρ J M)[i]? = some (ρ i, cellOf cA n ρ J i (M i)) := by
  unfold ws
  rw [List.getElem?_map, List.getElem?_range h]
  rfl
theorem ws_set {cA : Nat → ClassId} {n : Nat} {ρ : Nat → Nat} {J : Nat → Int64} {M : Mem} (i : Nat) (g : Nat → Int32) : (ws cA n ρ J M).set i (ρ i, cellOf cA n ρ J i g) = ws cA n ρ J (up1 M i g) := by
  apply List.ext_getElem?
  intro j
  unfold ws
  rw [List.getElem?_set]
  by_cases e : i = j
  · subst e
    rw [if_pos rfl, List.length_map, List.length_range]
    by_cases h : i < cnt n
    · rw [if_pos h, List.getElem?_map, List.getElem?_range h]
      simp [up1]
    · rw [if_neg h, List.getElem?_map, List.getElem?_eq_none (by rw [List.length_range]; omega)]
      rfl
  · rw [if_neg e, List.getElem?_map, List.getElem?_map]
    by_cases h : j < cnt n
    · rw [List.getElem?_range h]
      have e2 : ¬ j = i := fun q => e q.symm
      simp [up1, e2]
    · rw [List.getElem?_eq_none (by rw [List.length_range]; omega)]
      rfl
theorem ws_setJ {cA : Nat → ClassId} {n : Nat} {ρ : Nat → Nat} {J J' : Nat → Int64} {M : Mem} : (ws cA n ρ J M).set 8 (ρ 8, .inl (cA 2, 1, .inr (.inl J'))) = ws cA n ρ J' M := by
  apply List.ext_getElem?
  intro j
  unfold ws
  rw [List.getElem?_set]
  by_cases e : 8 = j
  · subst e
    have h : 8 < cnt n := by unfold cnt; split <;> omega
    rw [if_pos rfl, List.length_map, List.length_range, if_pos h, List.getElem?_map, List.getElem?_range h]
    rfl
  · rw [if_neg e, List.getElem?_map, List.getElem?_map]
    by_cases h : j < cnt n
    · rw [List.getElem?_range h]
      simp only [Option.map_some]
      congr 2
      unfold cellOf
      split <;> first | rfl | exact absurd rfl e
    · rw [List.getElem?_eq_none (by rw [List.length_range]; omega)]
      rfl
theorem cell_O (cA : Nat → ClassId) (n : Nat) (ρ : Nat → Nat) (J : Nat → Int64) (k : Nat) (f : Nat → Int32) : cellOf cA n ρ J (mO k) f = .inr (1, fs0 ρ k f) := by
  rw [show mO k = 3 * k + 28 by unfold mO; omega]
  unfold cellOf
  dsimp only
  rw [if_pos (by omega), show 3 * k / 3 = k by omega]
theorem cell_G (cA : Nat → ClassId) (n : Nat) (ρ : Nat → Nat) (J : Nat → Int64) (k : Nat) (f : Nat → Int32) : cellOf cA n ρ J (mG k) f = .inl (cA 0, 4, .inl f) := by
  rw [show mG k = (3 * k + 1) + 28 by unfold mG; omega]
  unfold cellOf
  dsimp only
  rw [if_neg (by omega), if_pos (by omega)]
theorem cell_S (cA : Nat → ClassId) (n : Nat) (ρ : Nat → Nat) (J : Nat → Int64) (k : Nat) (f : Nat → Int32) : cellOf cA n ρ J (mS k) f = .inl (cA 0, 40, .inl f) := by
  rw [show mS k = (3 * k + 2) + 28 by unfold mS; omega]
  unfold cellOf
  dsimp only
  rw [if_neg (by omega), if_neg (by omega)]
theorem cnt_fix {n i : Nat} (h : i < 27) : i < cnt n := by unfold cnt; split <;> omega
theorem cnt_ea {n k : Nat} (h : k < n) : 27 < cnt n := by unfold cnt; split <;> omega
theorem cnt_O {n k : Nat} (h : k < n) : mO k < cnt n := by unfold cnt mO; split <;> omega
theorem cnt_G {n k : Nat} (h : k < n) : mG k < cnt n := by unfold cnt mG; split <;> omega
theorem cnt_S {n k : Nat} (h : k < n) : mS k < cnt n := by unfold cnt mS; split <;> omega
/-- the array types' rows -/
def tysA (cA : Nat → ClassId) : List (ClassId × FieldType) := [(cA 0, .int), (cA 1, .boolean), (cA 2, .long), (cA 3, .object "java/lang/Object")]
def KK (D : va_G) (cA : Nat → ClassId) (U : State) : Prop := va_K D vwCl (tysA cA) U
end
section
/-! What a method's walk is: the judgement E over worlds, contracts Ct, and the context Cx of a walk. -/
abbrev NGw : List Cond := [.castable "java/lang/IllegalStateException" "java/lang/IllegalStateException", .castable "java/lang/IllegalArgumentException" "java/lang/IllegalArgumentException", .castable "java/lang/IndexOutOfBoundsException" "java/lang/IndexOutOfBoundsException", .declares (Bundle.initS "java/lang/RuntimeException"), .declares (Bundle.initS "java/lang/Exception"), .declares (Bundle.initS Bundle.tN)]
abbrev strs : List (Nat × String) := [(59, "there are 10 miners"), (77, "nobody is their own kin"), (101, "nobody hews now"), (110, "not a row of unlike kinds"), (115, "no payday can be held"), (140, "the miner has a house, or arrears"), (152, "the store refuses"), (173, "the miner has less coin"), (179, "the miner has less scrip"), (209, "no strike can begin"), (214, "there is no strike"), (219, "the mine is closed"), (227, "nothing is told by this number"), (240, "there is none of this number"), (243, "out of its range"), (245, "the miner is not alive")]
/-- what every start gives and no call takes away: the words of the throws, the texts, two statics of Throwable -/
def GP (A : Nat → Prop) (s : State) (H : Heap) : Prop := (∀ q ∈ NGw, va_Nw q s) ∧ (∀ q ∈ strs, ∃ a, vk_R RX2 q.1 q.2 a s) ∧ vx_Zq Bundle.tN "UNASSIGNED_STACK" Bundle.steD A s H ∧ vx_Zq Bundle.tN "SUPPRESSED_SENTINEL" Bundle.listD A s H
theorem ngw_warm {s U : State} (hW : s.WarmedH U.vm) (h : ∀ q ∈ NGw, va_Nw q s) : ∀ q ∈ NGw, va_Nw q U := by
  intro q hq
  have h0 := h q hq
  simp only [NGw, List.mem_cons, List.not_mem_nil, or_false] at hq
  rcases hq with rfl | rfl | rfl | rfl | rfl | rfl
  · exact va_Nw.warmC hW h0
  · exact va_Nw.warmC hW h0
  · exact va_Nw.warmC hW h0
  · exact va_Nw.warmD hW h0
  · exact va_Nw.warmD hW h0
  · exact va_Nw.warmD hW h0
theorem GP.warm {A A' : Nat → Prop} {s U : State} {H0 H : Heap} (hW : s.WarmedH U.vm) (h : GP A s H0) (hq : ∀ a : Nat, a < H0.size → ¬ A a → H[a]? = H0[a]?) (hA : ∀ q, A' q → A q) : GP A' U H := by
  obtain ⟨h1, h2, h3, h4⟩ := h
  refine ⟨ngw_warm hW h1, fun q hq => ?_, ?_, ?_⟩
  · obtain ⟨a, ha⟩ := h2 q hq
    exact ⟨a, vk_R.warm hW ha⟩
  · exact vx_Zq.moved hW.alike ((h3.kept hq).narrow hA)
  · exact vx_Zq.moved hW.alike ((h4.kept hq).narrow hA)
theorem GP.blind {A : Nat → Prop} {U : State} {g : JFrame} {mk : MethodId} {a : Array Value} {H : Heap} (h : GP A U H) : GP A (U.calling g mk a) H := GP.warm (State.WarmedH.refl U) h (fun _ _ _ => rfl) (fun _ q => q)
abbrev CT : Type := (Heap → List Loc → Nat → Nat → JFrame → Prop) × MethodId × va_G × (Nat → ClassId) × (Nat → Prop) × Heap × Nat
/-- the walk stands at pc with these locals, this stack and this world -/
def E (Ξ : CT) (n : Nat) (ρ : Nat → Nat) (J : Nat → Int64) (M : Mem) (a b pc : Nat) (ls : List (Nat × Value)) (st : List Value) : Prop :=
  ∀ (H : Heap) (locs : List Loc) (lsA : Array Slot), va_P Ξ.2.2.1 vwCl (ws Ξ.2.2.2.1 n ρ J M) H → va_D Ξ.2.2.2.2.1 (ws Ξ.2.2.2.1 n ρ J M) → va_S Ξ.2.2.2.2.1 Ξ.2.2.2.2.2.1 H locs → lv_has lsA Ξ.2.2.2.2.2.2 ls → Ξ.1 H locs a b (F0 Ξ.2.1 pc lsA st)
/-- the world of a state, at a machine's state -/
def Bw (D : va_G) (cA : Nat → ClassId) (A : Nat → Prop) (u : St) (t : State) : Prop := va_P D vwCl (ws cA u.1 u.2.1 u.2.2.1 u.2.2.2) t.heap ∧ va_D A (ws cA u.1 u.2.1 u.2.2.1 u.2.2.2)
def Qx (D : va_G) (cA : Nat → ClassId) (A : Nat → Prop) (post : Option Value → St → Prop) : Array Value → State → Outcome → State → Prop := fun _ st o t => (∃ (v : Option Value) (u : St), o = .returned v ∧ post v u ∧ Bw D cA A u t) ∧ va_F A st t
def Xx (D : va_G) (cA : Nat → ClassId) (A : Nat → Prop) (exc : String → St → Prop) : String → State → State → Prop := fun Ex st t => (∃ u : St, exc Ex u ∧ Bw D cA A u t) ∧ va_F A st t
abbrev rmm (h mc ms : Nat) : Room := { frames := h, cells := mc, slots := ms, locals := 30 * h + 60 }
def Ao (cA : Nat → ClassId) (n : Nat) (ρ : Nat → Nat) (J : Nat → Int64) (M : Mem) (sz : Nat) : Nat → Prop := va_A (ws cA n ρ J M) sz
/-- a contract: from this world and these arguments the method returns as post says, or throws as exc says -/
def Ct (l : Launch) (y : MethodName) (W : List Cond) (h mc ms : Nat) (n : Nat) (ρ : Nat → Nat) (J : Nat → Int64) (M : Mem) (As : List Value) (post : Option Value → St → Prop) (exc : String → St → Prop) : Prop :=
  ∀ (D : va_G) (cA : Nat → ClassId) (sz : Nat), vx_Met l y W (rmm h mc ms) (va_Pc As (fun U => U.heap.size = sz ∧ va_P D vwCl (ws cA n ρ J M) U.heap ∧ va_D (fun _ => True) (ws cA n ρ J M) ∧ KK D cA U ∧ GP (Ao cA n ρ J M sz) U U.heap)) (Qx D cA (Ao cA n ρ J M sz) post) (Xx D cA (Ao cA n ρ J M sz) exc) mc ms (Ao cA n ρ J M sz)
/-- what stands throughout a walk -/
def Cx (l : Launch) (R : Room) (cc : ByteArray) (own : String) (ret : Option FieldType) (mc ms : Nat) (tb : List ExceptionTableEntry) (post : Option Value → St → Prop) (exc : String → St → Prop) (Ξ : CT) : Prop :=
  ∃ (p : Program) (e : Env) (s : State) (m : MethodId) (args : Array Value) (below : List Frame) (meth : Method) (c : Code) (D : va_G) (cA : Nat → ClassId) (A : Nat → Prop) (nL : Nat),
    Ξ = (fun H locs a b g => W p l e R s m args below meth c H locs a b (vx_MQ below (Qx D cA A post) (Xx D cA A exc) args s mc ms A) g, m, D, cA, A, s.heap, nL) ∧
    p.tables.exec = Jvm.exec ∧ c.code = cc ∧ c.maxLocals = nL ∧ s.vm.findClass own = some m.cls ∧ (∀ w ∈ GW, w.before args s = true) ∧ KK D cA s ∧ GP A s s.heap ∧ meth.sig.returnType = ret ∧ meth.locks = false ∧ c.exceptionTable.toList = tb ∧ (∀ q, s.heap.size ≤ q → A q) ∧ l.stackTraces = false
theorem KK.blind {D : va_G} {cA : Nat → ClassId} {U : State} {g : JFrame} {mk : MethodId} {a : Array Value} (h : KK D cA U) : KK D cA (U.calling g mk a) := va_K.moved (u := U) (U := U.calling g mk a) (Vm.Alike.refl U.vm) h
/-- a contract out of a walk, of a method without handlers -/
theorem Ct.of {l : Launch} {y : MethodName} {W' : List Cond} {h mc ms n : Nat} {ρ : Nat → Nat} {J : Nat → Int64} {M : Mem} {As : List Value} {post : Option Value → St → Prop} {exc : String → St → Prop} {cc : ByteArray} {maxL : Nat} {ret : Option FieldType}
    (hl : l.stackTraces = false) (hy : plainName y.cls = true) (hw : W' = Cond.code y cc maxL ret :: GW) (hlen : (lg_sl As).length ≤ maxL)
    (body : ∀ Ξ : CT, Ξ.2.2.2.2.2.2 = maxL → Cx l (rmm h mc ms) cc y.cls ret mc ms [] post exc Ξ → E Ξ n ρ J M 0 0 0 (lv_args 0 As) []) : Ct l y W' h mc ms n ρ J M As post exc := by
  intro D cA sz
  refine vx_ofW (cc := cc) (maxL := maxL) (ret := ret) hy hw ?_
  intro p e s m args below meth c s₁ B hml htb hv
  obtain ⟨rfl, hsz, hP, hD0, hK, hG⟩ := hv
  have hts := atoms_spec (ws := W') B.pre
  have hown : s.vm.findClass y.cls = some m.cls := findClass_of_methodNamed B.named
  subst hsz
  have htb' : c.exceptionTable.toList = [] := by
    cases hq : c.exceptionTable.toList with
    | nil => rfl
    | cons x t => exact absurd (htb x (by rw [hq]; exact List.mem_cons_self)) id
  have hC : Cx l (rmm h mc ms) cc y.cls ret mc ms [] post exc (fun H locs a b g => W p l e (rmm h mc ms) s m As.toArray below meth c H locs a b (vx_MQ below (Qx D cA (Ao cA n ρ J M s.heap.size) post) (Xx D cA (Ao cA n ρ J M s.heap.size) exc) As.toArray s mc ms (Ao cA n ρ J M s.heap.size)) g, m, D, cA, Ao cA n ρ J M s.heap.size, s.heap, maxL) :=
    ⟨p, e, s, m, As.toArray, below, meth, c, D, cA, Ao cA n ρ J M s.heap.size, maxL, rfl, B.exec, B.bytes, hml, hown, (fun w hwG => hts w (by rw [hw]; exact List.mem_cons_of_mem _ hwG)), hK, hG, B.returns, B.notSynchronized, htb', (fun q hq => Or.inr hq), hl⟩
  have hE := body _ rfl hC
  have hl0 := lv_entry As (n := maxL) hlen
  rw [lg_entry_eq]
  exact hE s.heap [] _ hP hD0.self va_S.rf hl0
end
section
section Rows
variable {l : Launch} {R : Room} {cc : ByteArray} {own : String} {ret : Option FieldType} {mc ms : Nat} {tb : List ExceptionTableEntry} {post : Option Value → St → Prop} {exc : String → St → Prop} {Ξ : CT}
variable {n : Nat} {ρ : Nat → Nat} {J : Nat → Int64} {M : Mem} {a b pc : Nat} {ls ls2 : List (Nat × Value)} {st : List Value}
theorem e_iconst {k : Int} {v : Int32} (C : Cx l R cc own ret mc ms tb post exc Ξ) (d : decode cc pc = .ok (.iconst k, 1)) (hv : Int32.ofInt k = v) (kk : E Ξ n ρ J M a b (pc + 1) ls (.int v :: st)) : E Ξ n ρ J M a b pc ls st := by
  obtain ⟨p, e, s, m, args, below, meth, c, D, cA, A, nL, rfl, hx, hb, hml, hown, hts, hK, hG, hr, hlk, htb, hA, hst⟩ := C
  intro H locs lsA hP hD hS hl
  exact lv_iconst hx hb d hv (kk H locs lsA hP hD hS hl)
theorem e_bipush {k : Int} {v : Int32} (C : Cx l R cc own ret mc ms tb post exc Ξ) (d : decode cc pc = .ok (.bipush k, 2)) (hv : (Int8.ofInt k).toInt32 = v) (kk : E Ξ n ρ J M a b (pc + 2) ls (.int v :: st)) : E Ξ n ρ J M a b pc ls st := by
  obtain ⟨p, e, s, m, args, below, meth, c, D, cA, A, nL, rfl, hx, hb, hml, hown, hts, hK, hG, hr, hlk, htb, hA, hst⟩ := C
  intro H locs lsA hP hD hS hl
  exact lv_bipush hx hb d hv (kk H locs lsA hP hD hS hl)
theorem e_sipush {k : Int} {v : Int32} (C : Cx l R cc own ret mc ms tb post exc Ξ) (d : decode cc pc = .ok (.sipush k, 3)) (hv : (Int16.ofInt k).toInt32 = v) (kk : E Ξ n ρ J M a b (pc + 3) ls (.int v :: st)) : E Ξ n ρ J M a b pc ls st := by
  obtain ⟨p, e, s, m, args, below, meth, c, D, cA, A, nL, rfl, hx, hb, hml, hown, hts, hK, hG, hr, hlk, htb, hA, hst⟩ := C
  intro H locs lsA hP hD hS hl
  exact lv_sipush hx hb d hv (kk H locs lsA hP hD hS hl)
theorem e_lconst {k : Fin 2} {v : Int64} (C : Cx l R cc own ret mc ms tb post exc Ξ) (d : decode cc pc = .ok (.lconst k, 1)) (hv : Int64.ofNat (k : Nat) = v) (kk : E Ξ n ρ J M a b (pc + 1) ls (.long v :: st)) : E Ξ n ρ J M a b pc ls st := by
  obtain ⟨p, e, s, m, args, below, meth, c, D, cA, A, nL, rfl, hx, hb, hml, hown, hts, hK, hG, hr, hlk, htb, hA, hst⟩ := C
  intro H locs lsA hP hD hS hl
  exact lv_lconst hx hb d hv (kk H locs lsA hP hD hS hl)
theorem e_iload_n {k : Fin 4} {i j : Nat} {x : Int32} (C : Cx l R cc own ret mc ms tb post exc Ξ) (d : decode cc pc = .ok (.iload_n k, 1)) (hi : (k : Nat) = i) (h : ls[j]? = some (i, .int x)) (kk : E Ξ n ρ J M a b (pc + 1) ls (.int x :: st)) : E Ξ n ρ J M a b pc ls st := by
  obtain ⟨p, e, s, m, args, below, meth, c, D, cA, A, nL, rfl, hx, hb, hml, hown, hts, hK, hG, hr, hlk, htb, hA, hst⟩ := C
  intro H locs lsA hP hD hS hl
  exact lv_iload_n hx hb d hi (lv_at hl j h) (kk H locs lsA hP hD hS hl)
theorem e_iload {i j : Nat} {x : Int32} (C : Cx l R cc own ret mc ms tb post exc Ξ) (d : decode cc pc = .ok (.iload i, 2)) (h : ls[j]? = some (i, .int x)) (kk : E Ξ n ρ J M a b (pc + 2) ls (.int x :: st)) : E Ξ n ρ J M a b pc ls st := by
  obtain ⟨p, e, s, m, args, below, meth, c, D, cA, A, nL, rfl, hx, hb, hml, hown, hts, hK, hG, hr, hlk, htb, hA, hst⟩ := C
  intro H locs lsA hP hD hS hl
  exact lv_iload hx hb d (lv_at hl j h) (kk H locs lsA hP hD hS hl)
theorem e_lload_n {k : Fin 4} {i j : Nat} {x : Int64} (C : Cx l R cc own ret mc ms tb post exc Ξ) (d : decode cc pc = .ok (.lload_n k, 1)) (hi : (k : Nat) = i) (h : ls[j]? = some (i, .long x)) (kk : E Ξ n ρ J M a b (pc + 1) ls (.long x :: st)) : E Ξ n ρ J M a b pc ls st := by
  obtain ⟨p, e, s, m, args, below, meth, c, D, cA, A, nL, rfl, hx, hb, hml, hown, hts, hK, hG, hr, hlk, htb, hA, hst⟩ := C
  intro H locs lsA hP hD hS hl
  exact lv_lload_n hx hb d hi (lv_at hl j h) (kk H locs lsA hP hD hS hl)
theorem e_lload {i j : Nat} {x : Int64} (C : Cx l R cc own ret mc ms tb post exc Ξ) (d : decode cc pc = .ok (.lload i, 2)) (h : ls[j]? = some (i, .long x)) (kk : E Ξ n ρ J M a b (pc + 2) ls (.long x :: st)) : E Ξ n ρ J M a b pc ls st := by
  obtain ⟨p, e, s, m, args, below, meth, c, D, cA, A, nL, rfl, hx, hb, hml, hown, hts, hK, hG, hr, hlk, htb, hA, hst⟩ := C
  intro H locs lsA hP hD hS hl
  exact lv_lload hx hb d (lv_at hl j h) (kk H locs lsA hP hD hS hl)
theorem e_aload_n {k : Fin 4} {i j : Nat} {x : Nat} (C : Cx l R cc own ret mc ms tb post exc Ξ) (d : decode cc pc = .ok (.aload_n k, 1)) (hi : (k : Nat) = i) (h : ls[j]? = some (i, .ref x)) (kk : E Ξ n ρ J M a b (pc + 1) ls (.ref x :: st)) : E Ξ n ρ J M a b pc ls st := by
  obtain ⟨p, e, s, m, args, below, meth, c, D, cA, A, nL, rfl, hx, hb, hml, hown, hts, hK, hG, hr, hlk, htb, hA, hst⟩ := C
  intro H locs lsA hP hD hS hl
  exact lv_aload_n hx hb d hi (lv_at hl j h) (kk H locs lsA hP hD hS hl)
theorem e_aload {i j : Nat} {x : Nat} (C : Cx l R cc own ret mc ms tb post exc Ξ) (d : decode cc pc = .ok (.aload i, 2)) (h : ls[j]? = some (i, .ref x)) (kk : E Ξ n ρ J M a b (pc + 2) ls (.ref x :: st)) : E Ξ n ρ J M a b pc ls st := by
  obtain ⟨p, e, s, m, args, below, meth, c, D, cA, A, nL, rfl, hx, hb, hml, hown, hts, hK, hG, hr, hlk, htb, hA, hst⟩ := C
  intro H locs lsA hP hD hS hl
  exact lv_aload hx hb d (lv_at hl j h) (kk H locs lsA hP hD hS hl)
theorem e_istore_n {k : Fin 4} {i nL0 : Nat} {x : Int32} (C : Cx l R cc own ret mc ms tb post exc Ξ) (hnL : Ξ.2.2.2.2.2.2 = nL0) (d : decode cc pc = .ok (.istore_n k, 1)) (hi : (k : Nat) = i) (hn : i < nL0) (hf : (i, Value.int x) :: ls.filter (fun q => !(q.1 == i) && !(q.1 + 1 == i && q.2.category == 2)) = ls2) (kk : E Ξ n ρ J M a b (pc + 1) ls2 st) : E Ξ n ρ J M a b pc ls (.int x :: st) := by
  obtain ⟨p, e, s, m, args, below, meth, c, D, cA, A, nL, rfl, hx, hb, hml, hown, hts, hK, hG, hr, hlk, htb, hA, hst⟩ := C
  intro H locs lsA hP hD hS hl
  subst hnL
  exact lv_istore_n hx hb d hi hl hn hf (fun ls2 hl => kk H locs ls2 hP hD hS hl)
theorem e_istore {i nL0 : Nat} {x : Int32} (C : Cx l R cc own ret mc ms tb post exc Ξ) (hnL : Ξ.2.2.2.2.2.2 = nL0) (d : decode cc pc = .ok (.istore i, 2)) (hn : i < nL0) (hf : (i, Value.int x) :: ls.filter (fun q => !(q.1 == i) && !(q.1 + 1 == i && q.2.category == 2)) = ls2) (kk : E Ξ n ρ J M a b (pc + 2) ls2 st) : E Ξ n ρ J M a b pc ls (.int x :: st) := by
  obtain ⟨p, e, s, m, args, below, meth, c, D, cA, A, nL, rfl, hx, hb, hml, hown, hts, hK, hG, hr, hlk, htb, hA, hst⟩ := C
  intro H locs lsA hP hD hS hl
  subst hnL
  exact lv_istore hx hb d hl hn hf (fun ls2 hl => kk H locs ls2 hP hD hS hl)
theorem e_astore_n {k : Fin 4} {i nL0 : Nat} {x : Nat} (C : Cx l R cc own ret mc ms tb post exc Ξ) (hnL : Ξ.2.2.2.2.2.2 = nL0) (d : decode cc pc = .ok (.astore_n k, 1)) (hi : (k : Nat) = i) (hn : i < nL0) (hf : (i, Value.ref x) :: ls.filter (fun q => !(q.1 == i) && !(q.1 + 1 == i && q.2.category == 2)) = ls2) (kk : E Ξ n ρ J M a b (pc + 1) ls2 st) : E Ξ n ρ J M a b pc ls (.ref x :: st) := by
  obtain ⟨p, e, s, m, args, below, meth, c, D, cA, A, nL, rfl, hx, hb, hml, hown, hts, hK, hG, hr, hlk, htb, hA, hst⟩ := C
  intro H locs lsA hP hD hS hl
  subst hnL
  exact lv_astore_n hx hb d hi hl hn hf (fun ls2 hl => kk H locs ls2 hP hD hS hl)
theorem e_astore {i nL0 : Nat} {x : Nat} (C : Cx l R cc own ret mc ms tb post exc Ξ) (hnL : Ξ.2.2.2.2.2.2 = nL0) (d : decode cc pc = .ok (.astore i, 2)) (hn : i < nL0) (hf : (i, Value.ref x) :: ls.filter (fun q => !(q.1 == i) && !(q.1 + 1 == i && q.2.category == 2)) = ls2) (kk : E Ξ n ρ J M a b (pc + 2) ls2 st) : E Ξ n ρ J M a b pc ls (.ref x :: st) := by
  obtain ⟨p, e, s, m, args, below, meth, c, D, cA, A, nL, rfl, hx, hb, hml, hown, hts, hK, hG, hr, hlk, htb, hA, hst⟩ := C
  intro H locs lsA hP hD hS hl
  subst hnL
  exact lv_astore hx hb d hl hn hf (fun ls2 hl => kk H locs ls2 hP hD hS hl)
theorem e_lstore_n {k : Fin 4} {i nL0 : Nat} {x : Int64} (C : Cx l R cc own ret mc ms tb post exc Ξ) (hnL : Ξ.2.2.2.2.2.2 = nL0) (d : decode cc pc = .ok (.lstore_n k, 1)) (hi : (k : Nat) = i) (hn : i + 1 < nL0) (hf : (i, Value.long x) :: ls.filter (fun q => !(q.1 == i) && (!(q.1 == i + 1) && !(q.1 + 1 == i && q.2.category == 2))) = ls2) (kk : E Ξ n ρ J M a b (pc + 1) ls2 st) : E Ξ n ρ J M a b pc ls (.long x :: st) := by
  obtain ⟨p, e, s, m, args, below, meth, c, D, cA, A, nL, rfl, hx, hb, hml, hown, hts, hK, hG, hr, hlk, htb, hA, hst⟩ := C
  intro H locs lsA hP hD hS hl
  subst hnL
  exact lv_lstore_n hx hb d hi hl hn hf (fun ls2 hl => kk H locs ls2 hP hD hS hl)
theorem e_lstore {i nL0 : Nat} {x : Int64} (C : Cx l R cc own ret mc ms tb post exc Ξ) (hnL : Ξ.2.2.2.2.2.2 = nL0) (d : decode cc pc = .ok (.lstore i, 2)) (hn : i + 1 < nL0) (hf : (i, Value.long x) :: ls.filter (fun q => !(q.1 == i) && (!(q.1 == i + 1) && !(q.1 + 1 == i && q.2.category == 2))) = ls2) (kk : E Ξ n ρ J M a b (pc + 2) ls2 st) : E Ξ n ρ J M a b pc ls (.long x :: st) := by
  obtain ⟨p, e, s, m, args, below, meth, c, D, cA, A, nL, rfl, hx, hb, hml, hown, hts, hK, hG, hr, hlk, htb, hA, hst⟩ := C
  intro H locs lsA hP hD hS hl
  subst hnL
  exact lv_lstore hx hb d hl hn hf (fun ls2 hl => kk H locs ls2 hP hD hS hl)
theorem e_iinc {i j nL0 : Nat} {k : Int} {x v : Int32} (C : Cx l R cc own ret mc ms tb post exc Ξ) (hnL : Ξ.2.2.2.2.2.2 = nL0) (d : decode cc pc = .ok (.iinc i k, 3)) (h : ls[j]? = some (i, .int x)) (hv : x + Int32.ofInt k = v) (hn : i < nL0) (hf : (i, Value.int v) :: ls.filter (fun q => !(q.1 == i) && !(q.1 + 1 == i && q.2.category == 2)) = ls2) (kk : E Ξ n ρ J M a b (pc + 3) ls2 st) : E Ξ n ρ J M a b pc ls st := by
  obtain ⟨p, e, s, m, args, below, meth, c, D, cA, A, nL, rfl, hx, hb, hml, hown, hts, hK, hG, hr, hlk, htb, hA, hst⟩ := C
  intro H locs lsA hP hD hS hl
  subst hnL
  exact lv_iinc hx hb d hl h hv hn hf (fun ls2 hl => kk H locs ls2 hP hD hS hl)
theorem e_iadd {x y : Int32} (C : Cx l R cc own ret mc ms tb post exc Ξ) (d : decode cc pc = .ok (.iadd, 1)) (kk : E Ξ n ρ J M a b (pc + 1) ls (.int (x + y) :: st)) : E Ξ n ρ J M a b pc ls (.int y :: .int x :: st) := by
  obtain ⟨p, e, s, m, args, below, meth, c, D, cA, A, nL, rfl, hx, hb, hml, hown, hts, hK, hG, hr, hlk, htb, hA, hst⟩ := C
  intro H locs lsA hP hD hS hl
  exact lv_iadd hx hb d (kk H locs lsA hP hD hS hl)
theorem e_isub {x y : Int32} (C : Cx l R cc own ret mc ms tb post exc Ξ) (d : decode cc pc = .ok (.isub, 1)) (kk : E Ξ n ρ J M a b (pc + 1) ls (.int (x - y) :: st)) : E Ξ n ρ J M a b pc ls (.int y :: .int x :: st) := by
  obtain ⟨p, e, s, m, args, below, meth, c, D, cA, A, nL, rfl, hx, hb, hml, hown, hts, hK, hG, hr, hlk, htb, hA, hst⟩ := C
  intro H locs lsA hP hD hS hl
  exact lv_isub hx hb d (kk H locs lsA hP hD hS hl)
theorem e_imul {x y : Int32} (C : Cx l R cc own ret mc ms tb post exc Ξ) (d : decode cc pc = .ok (.imul, 1)) (kk : E Ξ n ρ J M a b (pc + 1) ls (.int (x * y) :: st)) : E Ξ n ρ J M a b pc ls (.int y :: .int x :: st) := by
  obtain ⟨p, e, s, m, args, below, meth, c, D, cA, A, nL, rfl, hx, hb, hml, hown, hts, hK, hG, hr, hlk, htb, hA, hst⟩ := C
  intro H locs lsA hP hD hS hl
  exact lv_imul hx hb d (kk H locs lsA hP hD hS hl)
theorem e_iand {x y : Int32} (C : Cx l R cc own ret mc ms tb post exc Ξ) (d : decode cc pc = .ok (.iand, 1)) (kk : E Ξ n ρ J M a b (pc + 1) ls (.int (x &&& y) :: st)) : E Ξ n ρ J M a b pc ls (.int y :: .int x :: st) := by
  obtain ⟨p, e, s, m, args, below, meth, c, D, cA, A, nL, rfl, hx, hb, hml, hown, hts, hK, hG, hr, hlk, htb, hA, hst⟩ := C
  intro H locs lsA hP hD hS hl
  exact lv_iand hx hb d (kk H locs lsA hP hD hS hl)
theorem e_ior {x y : Int32} (C : Cx l R cc own ret mc ms tb post exc Ξ) (d : decode cc pc = .ok (.ior, 1)) (kk : E Ξ n ρ J M a b (pc + 1) ls (.int (x ||| y) :: st)) : E Ξ n ρ J M a b pc ls (.int y :: .int x :: st) := by
  obtain ⟨p, e, s, m, args, below, meth, c, D, cA, A, nL, rfl, hx, hb, hml, hown, hts, hK, hG, hr, hlk, htb, hA, hst⟩ := C
  intro H locs lsA hP hD hS hl
  exact lv_ior hx hb d (kk H locs lsA hP hD hS hl)
theorem e_ishl {x y : Int32} (C : Cx l R cc own ret mc ms tb post exc Ξ) (d : decode cc pc = .ok (.ishl, 1)) (kk : E Ξ n ρ J M a b (pc + 1) ls (.int (x <<< (y &&& 31)) :: st)) : E Ξ n ρ J M a b pc ls (.int y :: .int x :: st) := by
  obtain ⟨p, e, s, m, args, below, meth, c, D, cA, A, nL, rfl, hx, hb, hml, hown, hts, hK, hG, hr, hlk, htb, hA, hst⟩ := C
  intro H locs lsA hP hD hS hl
  exact lv_ishl hx hb d (kk H locs lsA hP hD hS hl)
theorem e_ishr {x y : Int32} (C : Cx l R cc own ret mc ms tb post exc Ξ) (d : decode cc pc = .ok (.ishr, 1)) (kk : E Ξ n ρ J M a b (pc + 1) ls (.int (x >>> (y &&& 31)) :: st)) : E Ξ n ρ J M a b pc ls (.int y :: .int x :: st) := by
  obtain ⟨p, e, s, m, args, below, meth, c, D, cA, A, nL, rfl, hx, hb, hml, hown, hts, hK, hG, hr, hlk, htb, hA, hst⟩ := C
  intro H locs lsA hP hD hS hl
  exact lv_ishr hx hb d (kk H locs lsA hP hD hS hl)
theorem e_idiv {x y : Int32} (C : Cx l R cc own ret mc ms tb post exc Ξ) (d : decode cc pc = .ok (.idiv, 1)) (hne : ¬ y = 0) (kk : E Ξ n ρ J M a b (pc + 1) ls (.int (x / y) :: st)) : E Ξ n ρ J M a b pc ls (.int y :: .int x :: st) := by
  obtain ⟨p, e, s, m, args, below, meth, c, D, cA, A, nL, rfl, hx, hb, hml, hown, hts, hK, hG, hr, hlk, htb, hA, hst⟩ := C
  intro H locs lsA hP hD hS hl
  exact lv_idiv hx hb d hne (kk H locs lsA hP hD hS hl)
theorem e_irem {x y : Int32} (C : Cx l R cc own ret mc ms tb post exc Ξ) (d : decode cc pc = .ok (.irem, 1)) (hne : ¬ y = 0) (kk : E Ξ n ρ J M a b (pc + 1) ls (.int (x - x / y * y) :: st)) : E Ξ n ρ J M a b pc ls (.int y :: .int x :: st) := by
  obtain ⟨p, e, s, m, args, below, meth, c, D, cA, A, nL, rfl, hx, hb, hml, hown, hts, hK, hG, hr, hlk, htb, hA, hst⟩ := C
  intro H locs lsA hP hD hS hl
  exact lv_irem hx hb d hne (kk H locs lsA hP hD hS hl)
theorem e_ladd {x y : Int64} (C : Cx l R cc own ret mc ms tb post exc Ξ) (d : decode cc pc = .ok (.ladd, 1)) (kk : E Ξ n ρ J M a b (pc + 1) ls (.long (x + y) :: st)) : E Ξ n ρ J M a b pc ls (.long y :: .long x :: st) := by
  obtain ⟨p, e, s, m, args, below, meth, c, D, cA, A, nL, rfl, hx, hb, hml, hown, hts, hK, hG, hr, hlk, htb, hA, hst⟩ := C
  intro H locs lsA hP hD hS hl
  exact lv_ladd hx hb d (kk H locs lsA hP hD hS hl)
theorem e_lmul {x y : Int64} (C : Cx l R cc own ret mc ms tb post exc Ξ) (d : decode cc pc = .ok (.lmul, 1)) (kk : E Ξ n ρ J M a b (pc + 1) ls (.long (x * y) :: st)) : E Ξ n ρ J M a b pc ls (.long y :: .long x :: st) := by
  obtain ⟨p, e, s, m, args, below, meth, c, D, cA, A, nL, rfl, hx, hb, hml, hown, hts, hK, hG, hr, hlk, htb, hA, hst⟩ := C
  intro H locs lsA hP hD hS hl
  exact lv_lmul hx hb d (kk H locs lsA hP hD hS hl)
theorem e_ldiv {x y : Int64} (C : Cx l R cc own ret mc ms tb post exc Ξ) (d : decode cc pc = .ok (.ldiv, 1)) (hne : ¬ y = 0) (kk : E Ξ n ρ J M a b (pc + 1) ls (.long (x / y) :: st)) : E Ξ n ρ J M a b pc ls (.long y :: .long x :: st) := by
  obtain ⟨p, e, s, m, args, below, meth, c, D, cA, A, nL, rfl, hx, hb, hml, hown, hts, hK, hG, hr, hlk, htb, hA, hst⟩ := C
  intro H locs lsA hP hD hS hl
  exact lv_ldiv hx hb d hne (kk H locs lsA hP hD hS hl)
theorem e_lcmp {x y : Int64} (C : Cx l R cc own ret mc ms tb post exc Ξ) (d : decode cc pc = .ok (.lcmp, 1)) (kk : E Ξ n ρ J M a b (pc + 1) ls (.int (lg_cmp x y) :: st)) : E Ξ n ρ J M a b pc ls (.long y :: .long x :: st) := by
  obtain ⟨p, e, s, m, args, below, meth, c, D, cA, A, nL, rfl, hx, hb, hml, hown, hts, hK, hG, hr, hlk, htb, hA, hst⟩ := C
  intro H locs lsA hP hD hS hl
  exact W.lcmp hx hb d (kk H locs lsA hP hD hS hl)
theorem e_i2l {x : Int32} (C : Cx l R cc own ret mc ms tb post exc Ξ) (d : decode cc pc = .ok (.i2l, 1)) (kk : E Ξ n ρ J M a b (pc + 1) ls (.long x.toInt64 :: st)) : E Ξ n ρ J M a b pc ls (.int x :: st) := by
  obtain ⟨p, e, s, m, args, below, meth, c, D, cA, A, nL, rfl, hx, hb, hml, hown, hts, hK, hG, hr, hlk, htb, hA, hst⟩ := C
  intro H locs lsA hP hD hS hl
  exact lv_i2l hx hb d rfl (kk H locs lsA hP hD hS hl)
theorem e_l2i {x : Int64} (C : Cx l R cc own ret mc ms tb post exc Ξ) (d : decode cc pc = .ok (.l2i, 1)) (kk : E Ξ n ρ J M a b (pc + 1) ls (.int x.toInt32 :: st)) : E Ξ n ρ J M a b pc ls (.long x :: st) := by
  obtain ⟨p, e, s, m, args, below, meth, c, D, cA, A, nL, rfl, hx, hb, hml, hown, hts, hK, hG, hr, hlk, htb, hA, hst⟩ := C
  intro H locs lsA hP hD hS hl
  exact lv_l2i hx hb d rfl (kk H locs lsA hP hD hS hl)
theorem e_dup {v : Value} (C : Cx l R cc own ret mc ms tb post exc Ξ) (d : decode cc pc = .ok (.dup, 1)) (hv : v.category = 1) (kk : E Ξ n ρ J M a b (pc + 1) ls (v :: v :: st)) : E Ξ n ρ J M a b pc ls (v :: st) := by
  obtain ⟨p, e, s, m, args, below, meth, c, D, cA, A, nL, rfl, hx, hb, hml, hown, hts, hK, hG, hr, hlk, htb, hA, hst⟩ := C
  intro H locs lsA hP hD hS hl
  exact lv_dup hx hb d hv (kk H locs lsA hP hD hS hl)
theorem e_pop {v : Value} (C : Cx l R cc own ret mc ms tb post exc Ξ) (d : decode cc pc = .ok (.pop, 1)) (hv : v.category = 1) (kk : E Ξ n ρ J M a b (pc + 1) ls st) : E Ξ n ρ J M a b pc ls (v :: st) := by
  obtain ⟨p, e, s, m, args, below, meth, c, D, cA, A, nL, rfl, hx, hb, hml, hown, hts, hK, hG, hr, hlk, htb, hA, hst⟩ := C
  intro H locs lsA hP hD hS hl
  exact lv_pop hx hb d hv (kk H locs lsA hP hD hS hl)
theorem e_dup2 {v w : Value} (C : Cx l R cc own ret mc ms tb post exc Ξ) (d : decode cc pc = .ok (.dup2, 1)) (hv : v.category = 1) (hw : w.category = 1) (kk : E Ξ n ρ J M a b (pc + 1) ls (v :: w :: v :: w :: st)) : E Ξ n ρ J M a b pc ls (v :: w :: st) := by
  obtain ⟨p, e, s, m, args, below, meth, c, D, cA, A, nL, rfl, hx, hb, hml, hown, hts, hK, hG, hr, hlk, htb, hA, hst⟩ := C
  intro H locs lsA hP hD hS hl
  exact lv_dup2_11 hx hb d hv hw (kk H locs lsA hP hD hS hl)
theorem e_if_eq {x : Int32} {off : Int} {tgt : Nat} (C : Cx l R cc own ret mc ms tb post exc Ξ) (d : decode cc pc = .ok (.ifCond .eq off, 3)) (ht : (pc : Int) + off = (tgt : Int)) (kt : (x = 0) → E Ξ n ρ J M a b tgt ls st) (kf : ¬ (x = 0) → E Ξ n ρ J M a b (pc + 3) ls st) : E Ξ n ρ J M a b pc ls (.int x :: st) := by
  obtain ⟨p, e, s, m, args, below, meth, c, D, cA, A, nL, rfl, hx, hb, hml, hown, hts, hK, hG, hr, hlk, htb, hA, hst⟩ := C
  intro H locs lsA hP hD hS hl
  exact lv_if_eq hx hb d ht (fun q => kt q H locs lsA hP hD hS hl) (fun q => kf q H locs lsA hP hD hS hl)
theorem e_icmp_eq {x y : Int32} {off : Int} {tgt : Nat} (C : Cx l R cc own ret mc ms tb post exc Ξ) (d : decode cc pc = .ok (.if_icmp .eq off, 3)) (ht : (pc : Int) + off = (tgt : Int)) (kt : (x = y) → E Ξ n ρ J M a b tgt ls st) (kf : ¬ (x = y) → E Ξ n ρ J M a b (pc + 3) ls st) : E Ξ n ρ J M a b pc ls (.int y :: .int x :: st) := by
  obtain ⟨p, e, s, m, args, below, meth, c, D, cA, A, nL, rfl, hx, hb, hml, hown, hts, hK, hG, hr, hlk, htb, hA, hst⟩ := C
  intro H locs lsA hP hD hS hl
  exact lv_icmp_eq hx hb d ht (fun q => kt q H locs lsA hP hD hS hl) (fun q => kf q H locs lsA hP hD hS hl)
theorem e_if_ne {x : Int32} {off : Int} {tgt : Nat} (C : Cx l R cc own ret mc ms tb post exc Ξ) (d : decode cc pc = .ok (.ifCond .ne off, 3)) (ht : (pc : Int) + off = (tgt : Int)) (kt : (¬ x = 0) → E Ξ n ρ J M a b tgt ls st) (kf : (x = 0) → E Ξ n ρ J M a b (pc + 3) ls st) : E Ξ n ρ J M a b pc ls (.int x :: st) := by
  obtain ⟨p, e, s, m, args, below, meth, c, D, cA, A, nL, rfl, hx, hb, hml, hown, hts, hK, hG, hr, hlk, htb, hA, hst⟩ := C
  intro H locs lsA hP hD hS hl
  exact lv_if_ne hx hb d ht (fun q => kt q H locs lsA hP hD hS hl) (fun q => kf q H locs lsA hP hD hS hl)
theorem e_icmp_ne {x y : Int32} {off : Int} {tgt : Nat} (C : Cx l R cc own ret mc ms tb post exc Ξ) (d : decode cc pc = .ok (.if_icmp .ne off, 3)) (ht : (pc : Int) + off = (tgt : Int)) (kt : (¬ x = y) → E Ξ n ρ J M a b tgt ls st) (kf : (x = y) → E Ξ n ρ J M a b (pc + 3) ls st) : E Ξ n ρ J M a b pc ls (.int y :: .int x :: st) := by
  obtain ⟨p, e, s, m, args, below, meth, c, D, cA, A, nL, rfl, hx, hb, hml, hown, hts, hK, hG, hr, hlk, htb, hA, hst⟩ := C
  intro H locs lsA hP hD hS hl
  exact lv_icmp_ne hx hb d ht (fun q => kt q H locs lsA hP hD hS hl) (fun q => kf q H locs lsA hP hD hS hl)
theorem e_if_lt {x : Int32} {off : Int} {tgt : Nat} (C : Cx l R cc own ret mc ms tb post exc Ξ) (d : decode cc pc = .ok (.ifCond .lt off, 3)) (ht : (pc : Int) + off = (tgt : Int)) (kt : (x < 0) → E Ξ n ρ J M a b tgt ls st) (kf : ¬ (x < 0) → E Ξ n ρ J M a b (pc + 3) ls st) : E Ξ n ρ J M a b pc ls (.int x :: st) := by
  obtain ⟨p, e, s, m, args, below, meth, c, D, cA, A, nL, rfl, hx, hb, hml, hown, hts, hK, hG, hr, hlk, htb, hA, hst⟩ := C
  intro H locs lsA hP hD hS hl
  exact lv_if_lt hx hb d ht (fun q => kt q H locs lsA hP hD hS hl) (fun q => kf q H locs lsA hP hD hS hl)
theorem e_icmp_lt {x y : Int32} {off : Int} {tgt : Nat} (C : Cx l R cc own ret mc ms tb post exc Ξ) (d : decode cc pc = .ok (.if_icmp .lt off, 3)) (ht : (pc : Int) + off = (tgt : Int)) (kt : (x < y) → E Ξ n ρ J M a b tgt ls st) (kf : ¬ (x < y) → E Ξ n ρ J M a b (pc + 3) ls st) : E Ξ n ρ J M a b pc ls (.int y :: .int x :: st) := by
  obtain ⟨p, e, s, m, args, below, meth, c, D, cA, A, nL, rfl, hx, hb, hml, hown, hts, hK, hG, hr, hlk, htb, hA, hst⟩ := C
  intro H locs lsA hP hD hS hl
  exact lv_icmp_lt hx hb d ht (fun q => kt q H locs lsA hP hD hS hl) (fun q => kf q H locs lsA hP hD hS hl)
theorem e_if_ge {x : Int32} {off : Int} {tgt : Nat} (C : Cx l R cc own ret mc ms tb post exc Ξ) (d : decode cc pc = .ok (.ifCond .ge off, 3)) (ht : (pc : Int) + off = (tgt : Int)) (kt : (0 ≤ x) → E Ξ n ρ J M a b tgt ls st) (kf : ¬ (0 ≤ x) → E Ξ n ρ J M a b (pc + 3) ls st) : E Ξ n ρ J M a b pc ls (.int x :: st) := by
  obtain ⟨p, e, s, m, args, below, meth, c, D, cA, A, nL, rfl, hx, hb, hml, hown, hts, hK, hG, hr, hlk, htb, hA, hst⟩ := C
  intro H locs lsA hP hD hS hl
  exact lv_if_ge hx hb d ht (fun q => kt q H locs lsA hP hD hS hl) (fun q => kf q H locs lsA hP hD hS hl)
theorem e_icmp_ge {x y : Int32} {off : Int} {tgt : Nat} (C : Cx l R cc own ret mc ms tb post exc Ξ) (d : decode cc pc = .ok (.if_icmp .ge off, 3)) (ht : (pc : Int) + off = (tgt : Int)) (kt : (y ≤ x) → E Ξ n ρ J M a b tgt ls st) (kf : ¬ (y ≤ x) → E Ξ n ρ J M a b (pc + 3) ls st) : E Ξ n ρ J M a b pc ls (.int y :: .int x :: st) := by
  obtain ⟨p, e, s, m, args, below, meth, c, D, cA, A, nL, rfl, hx, hb, hml, hown, hts, hK, hG, hr, hlk, htb, hA, hst⟩ := C
  intro H locs lsA hP hD hS hl
  exact lv_icmp_ge hx hb d ht (fun q => kt q H locs lsA hP hD hS hl) (fun q => kf q H locs lsA hP hD hS hl)
theorem e_if_gt {x : Int32} {off : Int} {tgt : Nat} (C : Cx l R cc own ret mc ms tb post exc Ξ) (d : decode cc pc = .ok (.ifCond .gt off, 3)) (ht : (pc : Int) + off = (tgt : Int)) (kt : (0 < x) → E Ξ n ρ J M a b tgt ls st) (kf : ¬ (0 < x) → E Ξ n ρ J M a b (pc + 3) ls st) : E Ξ n ρ J M a b pc ls (.int x :: st) := by
  obtain ⟨p, e, s, m, args, below, meth, c, D, cA, A, nL, rfl, hx, hb, hml, hown, hts, hK, hG, hr, hlk, htb, hA, hst⟩ := C
  intro H locs lsA hP hD hS hl
  exact lv_if_gt hx hb d ht (fun q => kt q H locs lsA hP hD hS hl) (fun q => kf q H locs lsA hP hD hS hl)
theorem e_icmp_gt {x y : Int32} {off : Int} {tgt : Nat} (C : Cx l R cc own ret mc ms tb post exc Ξ) (d : decode cc pc = .ok (.if_icmp .gt off, 3)) (ht : (pc : Int) + off = (tgt : Int)) (kt : (y < x) → E Ξ n ρ J M a b tgt ls st) (kf : ¬ (y < x) → E Ξ n ρ J M a b (pc + 3) ls st) : E Ξ n ρ J M a b pc ls (.int y :: .int x :: st) := by
  obtain ⟨p, e, s, m, args, below, meth, c, D, cA, A, nL, rfl, hx, hb, hml, hown, hts, hK, hG, hr, hlk, htb, hA, hst⟩ := C
  intro H locs lsA hP hD hS hl
  exact lv_icmp_gt hx hb d ht (fun q => kt q H locs lsA hP hD hS hl) (fun q => kf q H locs lsA hP hD hS hl)
theorem e_if_le {x : Int32} {off : Int} {tgt : Nat} (C : Cx l R cc own ret mc ms tb post exc Ξ) (d : decode cc pc = .ok (.ifCond .le off, 3)) (ht : (pc : Int) + off = (tgt : Int)) (kt : (x ≤ 0) → E Ξ n ρ J M a b tgt ls st) (kf : ¬ (x ≤ 0) → E Ξ n ρ J M a b (pc + 3) ls st) : E Ξ n ρ J M a b pc ls (.int x :: st) := by
  obtain ⟨p, e, s, m, args, below, meth, c, D, cA, A, nL, rfl, hx, hb, hml, hown, hts, hK, hG, hr, hlk, htb, hA, hst⟩ := C
  intro H locs lsA hP hD hS hl
  exact lv_if_le hx hb d ht (fun q => kt q H locs lsA hP hD hS hl) (fun q => kf q H locs lsA hP hD hS hl)
theorem e_icmp_le {x y : Int32} {off : Int} {tgt : Nat} (C : Cx l R cc own ret mc ms tb post exc Ξ) (d : decode cc pc = .ok (.if_icmp .le off, 3)) (ht : (pc : Int) + off = (tgt : Int)) (kt : (x ≤ y) → E Ξ n ρ J M a b tgt ls st) (kf : ¬ (x ≤ y) → E Ξ n ρ J M a b (pc + 3) ls st) : E Ξ n ρ J M a b pc ls (.int y :: .int x :: st) := by
  obtain ⟨p, e, s, m, args, below, meth, c, D, cA, A, nL, rfl, hx, hb, hml, hown, hts, hK, hG, hr, hlk, htb, hA, hst⟩ := C
  intro H locs lsA hP hD hS hl
  exact lv_icmp_le hx hb d ht (fun q => kt q H locs lsA hP hD hS hl) (fun q => kf q H locs lsA hP hD hS hl)
theorem e_goto {off : Int} {tgt : Nat} (C : Cx l R cc own ret mc ms tb post exc Ξ) (d : decode cc pc = .ok (.goto off, 3)) (ht : (pc : Int) + off = (tgt : Int)) (kk : E Ξ n ρ J M a b tgt ls st) : E Ξ n ρ J M a b pc ls st := by
  obtain ⟨p, e, s, m, args, below, meth, c, D, cA, A, nL, rfl, hx, hb, hml, hown, hts, hK, hG, hr, hlk, htb, hA, hst⟩ := C
  intro H locs lsA hP hD hS hl
  exact lv_goto hx hb d ht (kk H locs lsA hP hD hS hl)
theorem e_ldc {i : Nat} {v : Int32} (C : Cx l R cc own ret mc ms tb post exc Ξ) (d : decode cc pc = .ok (.ldc i, 2)) (hw : Cond.constant own i v ∈ GW) (kk : E Ξ n ρ J M a b (pc + 2) ls (.int v :: st)) : E Ξ n ρ J M a b pc ls st := by
  obtain ⟨p, e, s, m, args, below, meth, c, D, cA, A, nL, rfl, hx, hb, hml, hown, hts, hK, hG, hr, hlk, htb, hA, hst⟩ := C
  intro H locs lsA hP hD hS hl
  exact lv_ldc hx hb hown (hts _ hw) d (kk H locs lsA hP hD hS hl)
theorem e_ldc2 {i : Nat} {v : Int64} (C : Cx l R cc own ret mc ms tb post exc Ξ) (d : decode cc pc = .ok (.ldc2_w i, 3)) (hw : Cond.constantLong own i v ∈ GW) (kk : E Ξ n ρ J M a b (pc + 3) ls (.long v :: st)) : E Ξ n ρ J M a b pc ls st := by
  obtain ⟨p, e, s, m, args, below, meth, c, D, cA, A, nL, rfl, hx, hb, hml, hown, hts, hK, hG, hr, hlk, htb, hA, hst⟩ := C
  intro H locs lsA hP hD hS hl
  exact lv_ldc2 hx hb hown (hts _ hw) d (kk H locs lsA hP hD hS hl)
theorem e_get {C0 : String} {T : u_T} {N ci k i idx : Nat} {ref : String} {v : Value} {fs : List Value} (C : Cx l R cc own ret mc ms tb post exc Ξ) (hi : i < cnt n) (hcell : ∀ cA, cellOf cA n ρ J i (M i) = .inr (ci, fs)) (hc : vwCl[ci]? = some (C0, T, N)) (hin : ∀ w ∈ u_ws C0 T N, w ∈ GW) (hk : k < N) (hsame : ref = (T k).1) (hv : fs[k]? = some v) (hw : Cond.fieldLink own idx ref (T k).2.1 (T k).2.2.1 ∈ GW) (d : decode cc pc = .ok (.getfield idx, 3)) (kk : E Ξ n ρ J M a b (pc + 3) ls (v :: st)) : E Ξ n ρ J M a b pc ls (.ref (ρ i) :: st) := by
  obtain ⟨p, e, s, m, args, below, meth, c, D, cA, A, nL, rfl, hx, hb, hml, hown, hts, hK, hG, hr, hlk, htb, hA, hst⟩ := C
  intro H locs lsA hP hD hS hl
  exact va_get (D := D) (ci := ci) (v := v) (C := C0) (T := T) (N := N) hx hb hts hin hown hK hP i ((ws_at hi).trans (congrArg (fun z => some (ρ i, z)) (hcell cA))) hc k hk (hts _ hw) (fun z h9 => hsame ▸ h9) hv d (kk H locs lsA hP hD hS hl)
theorem e_put {C0 : String} {T : u_T} {N ci k i idx : Nat} {ref : String} {x : Int32} {fs : List Value} {ty0 : Nat → FieldType} {ty : FieldType} (C : Cx l R cc own ret mc ms tb post exc Ξ) (hi : i < cnt n) (hcell : ∀ cA, cellOf cA n ρ J i (M i) = .inr (ci, fs)) (hc : vwCl[ci]? = some (C0, T, N)) (hin : ∀ w ∈ u_ws C0 T N, w ∈ GW) (hty : ∀ k, k < N → parseFieldDescriptor (T k).2.2.1 = some (ty0 k)) (hnm : ∀ a, a < N → ∀ b, b < N → a ≠ b → (T a).2.1 ≠ (T b).2.1) (hk : k < N) (hsame : ref = (T k).1) (hfin : (T k).2.2.2 = false) (hd : parseFieldDescriptor (T k).2.2.1 = some ty) (hn : narrow ty (.int x) = .int x) (hfit : fits ty (.int x) = true) (hlen : k < fs.length) (hset : ∀ cA, (Sum.inr (ci, fs.set k (.int x)) : va_E) = cellOf cA n ρ J i (upd (M i) k x)) (hw : Cond.fieldLink own idx ref (T k).2.1 (T k).2.2.1 ∈ GW) (d : decode cc pc = .ok (.putfield idx, 3)) (kk : E Ξ n ρ J (up M i k x) a b (pc + 3) ls st) : E Ξ n ρ J M a b pc ls (.int x :: .ref (ρ i) :: st) := by
  obtain ⟨p, e, s, m, args, below, meth, c, D, cA, A, nL, rfl, hx, hb, hml, hown, hts, hK, hG, hr, hlk, htb, hA, hst⟩ := C
  intro H locs lsA hP hD hS hl
  have he : (ws cA n ρ J M)[i]? = some (ρ i, .inr (ci, fs)) := (ws_at hi).trans (congrArg (fun z => some (ρ i, z)) (hcell cA))
  have e1 : (ws cA n ρ J M).set i (ρ i, .inr (ci, fs.set k (.int x))) = ws cA n ρ J (up M i k x) := by rw [hset cA, ws_set]; rfl
  refine va_put (D := D) (ci := ci) (v := .int x) (ty := ty) (C := C0) (T := T) (N := N) hx hb hts hin ty0 hty hnm hown hK hP hD hS i he hc k hk (hts _ hw) (fun z h9 => hsame ▸ h9) hfin hd hn hfit hlen d (fun H1 locs1 hP hD hS => ?_)
  rw [e1] at hP hD
  exact kk H1 locs1 lsA hP hD hS hl
theorem e_iald {i N : Nat} {x : Int32} (C : Cx l R cc own ret mc ms tb post exc Ξ) (hi : i < cnt n) (hcell : ∀ cA : Nat → ClassId, cellOf cA n ρ J i (M i) = .inl (cA 0, N, .inl (M i))) (hin : vp_in x N) (d : decode cc pc = .ok (.iaload, 1)) (kk : E Ξ n ρ J M a b (pc + 1) ls (.int (M i x.toNatClampNeg) :: st)) : E Ξ n ρ J M a b pc ls (.int x :: .ref (ρ i) :: st) := by
  obtain ⟨p, e, s, m, args, below, meth, c, D, cA, A, nL, rfl, hx, hb, hml, hown, hts, hK, hG, hr, hlk, htb, hA, hst⟩ := C
  intro H locs lsA hP hD hS hl
  exact va_iald hx hb hK hP i 0 ((ws_at hi).trans (congrArg (fun z => some (ρ i, z)) (hcell cA))) rfl hin d (kk H locs lsA hP hD hS hl)
theorem e_zald {i N : Nat} {x : Int32} (C : Cx l R cc own ret mc ms tb post exc Ξ) (hi : i < cnt n) (hcell : ∀ cA : Nat → ClassId, cellOf cA n ρ J i (M i) = .inl (cA 1, N, .inl (M i))) (hin : vp_in x N) (d : decode cc pc = .ok (.baload, 1)) (kk : E Ξ n ρ J M a b (pc + 1) ls (.int (M i x.toNatClampNeg) :: st)) : E Ξ n ρ J M a b pc ls (.int x :: .ref (ρ i) :: st) := by
  obtain ⟨p, e, s, m, args, below, meth, c, D, cA, A, nL, rfl, hx, hb, hml, hown, hts, hK, hG, hr, hlk, htb, hA, hst⟩ := C
  intro H locs lsA hP hD hS hl
  exact va_zald hx hb hK hP i 1 ((ws_at hi).trans (congrArg (fun z => some (ρ i, z)) (hcell cA))) rfl hin d (kk H locs lsA hP hD hS hl)
theorem e_iast {i N : Nat} {x v : Int32} (C : Cx l R cc own ret mc ms tb post exc Ξ) (hi : i < cnt n) (hcell : ∀ (cA : Nat → ClassId) (f : Nat → Int32), cellOf cA n ρ J i f = .inl (cA 0, N, .inl f)) (hin : vp_in x N) (d : decode cc pc = .ok (.iastore, 1)) (kk : E Ξ n ρ J (up M i x.toNatClampNeg v) a b (pc + 1) ls st) : E Ξ n ρ J M a b pc ls (.int v :: .int x :: .ref (ρ i) :: st) := by
  obtain ⟨p, e, s, m, args, below, meth, c, D, cA, A, nL, rfl, hx, hb, hml, hown, hts, hK, hG, hr, hlk, htb, hA, hst⟩ := C
  intro H locs lsA hP hD hS hl
  have e1 : (ws cA n ρ J M).set i (ρ i, .inl (cA 0, N, .inl (upd (M i) x.toNatClampNeg v))) = ws cA n ρ J (up M i x.toNatClampNeg v) := by rw [← hcell cA, ws_set]; rfl
  refine va_iast hx hb hK hP hD hS i 0 ((ws_at hi).trans (congrArg (fun z => some (ρ i, z)) (hcell cA (M i)))) rfl hin d (fun H1 locs1 hP hD hS => ?_)
  rw [e1] at hP hD
  exact kk H1 locs1 lsA hP hD hS hl
theorem e_zast {i N : Nat} {x v : Int32} (C : Cx l R cc own ret mc ms tb post exc Ξ) (hi : i < cnt n) (hcell : ∀ (cA : Nat → ClassId) (f : Nat → Int32), cellOf cA n ρ J i f = .inl (cA 1, N, .inl f)) (hin : vp_in x N) (hv : vp_nar .boolean v = v) (d : decode cc pc = .ok (.bastore, 1)) (kk : E Ξ n ρ J (up M i x.toNatClampNeg v) a b (pc + 1) ls st) : E Ξ n ρ J M a b pc ls (.int v :: .int x :: .ref (ρ i) :: st) := by
  obtain ⟨p, e, s, m, args, below, meth, c, D, cA, A, nL, rfl, hx, hb, hml, hown, hts, hK, hG, hr, hlk, htb, hA, hst⟩ := C
  intro H locs lsA hP hD hS hl
  have e1 : (ws cA n ρ J M).set i (ρ i, .inl (cA 1, N, .inl (upd (M i) x.toNatClampNeg v))) = ws cA n ρ J (up M i x.toNatClampNeg v) := by rw [← hcell cA, ws_set]; rfl
  refine va_zast hx hb hK hP hD hS i 1 ((ws_at hi).trans (congrArg (fun z => some (ρ i, z)) (hcell cA (M i)))) rfl hin d (fun H1 locs1 hP hD hS => ?_)
  rw [hv, e1] at hP hD
  exact kk H1 locs1 lsA hP hD hS hl
theorem e_laload {x : Int32} (C : Cx l R cc own ret mc ms tb post exc Ξ) (hin : vp_in x 1) (d : decode cc pc = .ok (.laload, 1)) (kk : E Ξ n ρ J M a b (pc + 1) ls (.long (J x.toNatClampNeg) :: st)) : E Ξ n ρ J M a b pc ls (.int x :: .ref (ρ 8) :: st) := by
  obtain ⟨p, e, s, m, args, below, meth, c, D, cA, A, nL, rfl, hx, hb, hml, hown, hts, hK, hG, hr, hlk, htb, hA, hst⟩ := C
  intro H locs lsA hP hD hS hl
  exact va_lald hx hb hK hP 8 2 (ws_at (cnt_fix (by omega))) rfl hin d (kk H locs lsA hP hD hS hl)
theorem e_lastore {x : Int32} {v : Int64} (C : Cx l R cc own ret mc ms tb post exc Ξ) (hin : vp_in x 1) (d : decode cc pc = .ok (.lastore, 1)) (kk : E Ξ n ρ (vp_updL J x.toNatClampNeg v) M a b (pc + 1) ls st) : E Ξ n ρ J M a b pc ls (.long v :: .int x :: .ref (ρ 8) :: st) := by
  obtain ⟨p, e, s, m, args, below, meth, c, D, cA, A, nL, rfl, hx, hb, hml, hown, hts, hK, hG, hr, hlk, htb, hA, hst⟩ := C
  intro H locs lsA hP hD hS hl
  refine va_last hx hb hK hP hD hS 8 2 (ws_at (cnt_fix (by omega))) rfl hin d (fun H1 locs1 hP hD hS => ?_)
  rw [ws_setJ] at hP hD
  exact kk H1 locs1 lsA hP hD hS hl
theorem e_ilen {i N : Nat} {v : Int32} (C : Cx l R cc own ret mc ms tb post exc Ξ) (hi : i < cnt n) (hcell : ∀ cA : Nat → ClassId, cellOf cA n ρ J i (M i) = .inl (cA 0, N, .inl (M i))) (hv : Int32.ofNat N = v) (d : decode cc pc = .ok (.arraylength, 1)) (kk : E Ξ n ρ J M a b (pc + 1) ls (.int v :: st)) : E Ξ n ρ J M a b pc ls (.ref (ρ i) :: st) := by
  obtain ⟨p, e, s, m, args, below, meth, c, D, cA, A, nL, rfl, hx, hb, hml, hown, hts, hK, hG, hr, hlk, htb, hA, hst⟩ := C
  intro H locs lsA hP hD hS hl
  exact va_alen hx hb hK hP i 0 ((ws_at hi).trans (congrArg (fun z => some (ρ i, z)) (hcell cA))) rfl hv d (kk H locs lsA hP hD hS hl)
theorem e_zlen {i N : Nat} {v : Int32} (C : Cx l R cc own ret mc ms tb post exc Ξ) (hi : i < cnt n) (hcell : ∀ cA : Nat → ClassId, cellOf cA n ρ J i (M i) = .inl (cA 1, N, .inl (M i))) (hv : Int32.ofNat N = v) (d : decode cc pc = .ok (.arraylength, 1)) (kk : E Ξ n ρ J M a b (pc + 1) ls (.int v :: st)) : E Ξ n ρ J M a b pc ls (.ref (ρ i) :: st) := by
  obtain ⟨p, e, s, m, args, below, meth, c, D, cA, A, nL, rfl, hx, hb, hml, hown, hts, hK, hG, hr, hlk, htb, hA, hst⟩ := C
  intro H locs lsA hP hD hS hl
  exact va_alen hx hb hK hP i 1 ((ws_at hi).trans (congrArg (fun z => some (ρ i, z)) (hcell cA))) rfl hv d (kk H locs lsA hP hD hS hl)
/-- a miner out of the list's row -/
theorem e_aald {k : Nat} {x : Int32} (C : Cx l R cc own ret mc ms tb post exc Ξ) (hk : k < n) (hn : n ≤ 10) (hx0 : x = nI k) (d : decode cc pc = .ok (.aaload, 1)) (kk : E Ξ n ρ J M a b (pc + 1) ls (.ref (ρ (mO k)) :: st)) : E Ξ n ρ J M a b pc ls (.int x :: .ref (ρ 27) :: st) := by
  obtain ⟨p, e, s, m, args, below, meth, c, D, cA, A, nL, rfl, hx, hb, hml, hown, hts, hK, hG, hr, hlk, htb, hA, hst⟩ := C
  intro H locs lsA hP hD hS hl
  subst hx0
  refine va_aldq hx hb hK hP 27 3 (C := "java/lang/Object") (ws_at (cnt_ea hk)) rfl (vp_in_nI (N := 10) (by omega) (by omega)) d ?_
  rw [nI_clamp (by omega), minersAt, if_pos hk]
  exact kk H locs lsA hP hD hS hl
theorem e_castM {k idx : Nat} (C : Cx l R cc own ret mc ms tb post exc Ξ) (hk : k < n) (hw : Cond.classLink own idx RX0 ∈ GW) (d : decode cc pc = .ok (.checkcast idx, 3)) (kk : E Ξ n ρ J M a b (pc + 3) ls (.ref (ρ (mO k)) :: st)) : E Ξ n ρ J M a b pc ls (.ref (ρ (mO k)) :: st) := by
  obtain ⟨p, e, s, m, args, below, meth, c, D, cA, A, nL, rfl, hx, hb, hml, hown, hts, hK, hG, hr, hlk, htb, hA, hst⟩ := C
  intro H locs lsA hP hD hS hl
  have he : (ws cA n ρ J M)[mO k]? = some (ρ (mO k), .inr (1, fs0 ρ k (M (mO k)))) := (ws_at (cnt_O hk)).trans (congrArg (fun z => some (ρ (mO k), z)) (cell_O cA n ρ J k _))
  exact va_castS hx hb (nm := RX0) hown (hts _ hw) (hK.1 1 _ rfl).2 (va_recv hK hP (ci := 1) (q0 := mO k) rfl he) d (kk H locs lsA hP hD hS hl)
theorem e_min {idx c0nL : Nat} {x y : Int32} (C : Cx l R cc own ret mc ms tb post exc Ξ) (hnL : Ξ.2.2.2.2.2.2 = c0nL) (hw : Cond.methodLink own idx Lib.Math.min.name ∈ GW) (hw2 : Cond.static Lib.Math.min.name ∈ GW) (hw3 : Cond.initialized "java/lang/Math" ∈ GW) (hw4 : Cond.code Lib.Math.min.name Lib.Math.min.code 2 (some .int) ∈ GW) (hf : 1 ≤ R.frames) (hlo : (st.map fun v => v.category).sum + 13 ≤ R.locals) (hca : a ≤ R.cells) (hcb : b ≤ R.slots) (d : decode cc pc = .ok (.invokestatic idx, 3)) (kk : E Ξ n ρ J M a b (pc + 3) ls (.int (if y < x then y else x) :: st)) : E Ξ n ρ J M a b pc ls (.int y :: .int x :: st) := by
  obtain ⟨p, e, s, m, args, below, meth, c, D, cA, A, nL, rfl, hx, hb, hml, hown, hts, hK, hG, hr, hlk, htb, hA, hst⟩ := C
  intro H locs lsA hP hD hS hl
  exact va_mmin hx hb (hml.trans hl.1.symm) hown (hts _ hw) (hts _ hw2) (hts _ hw3) (hts _ hw4) hf hlo hca hcb d (kk H locs lsA hP hD hS hl)
variable {x : Int32}
theorem e_iret (C : Cx l R cc own ret mc ms tb post exc Ξ) (hret : ret = some .int) (hca : a ≤ mc) (hcb : b ≤ ms) (d : decode cc pc = .ok (.ireturn, 1)) (hp : post (some (.int x)) (n, ρ, J, M)) : E Ξ n ρ J M a b pc ls [.int x] := by
  obtain ⟨p, e, s, m, args, below, meth, c, D, cA, A, nL, rfl, hx, hb, hml, hown, hts, hK, hG, hr, hlk, htb, hA, hst⟩ := C
  intro H locs lsA hP hD hS hl
  refine W.widen (k := mc) (n := ms) hca hcb (vx_ret ?_)
  exact W.iret hx hb (hr.trans hret) (fun t ht hW => ⟨⟨_, (n, ρ, J, M), rfl, hp, by rw [ht]; exact hP, hD⟩, hS.F ht⟩) hS.2.2 d hlk
theorem e_zret (C : Cx l R cc own ret mc ms tb post exc Ξ) (hret : ret = some .boolean) (hn : narrow .boolean (.int x) = .int x) (hca : a ≤ mc) (hcb : b ≤ ms) (d : decode cc pc = .ok (.ireturn, 1)) (hp : post (some (.int x)) (n, ρ, J, M)) : E Ξ n ρ J M a b pc ls [.int x] := by
  obtain ⟨p, e, s, m, args, below, meth, c, D, cA, A, nL, rfl, hx, hb, hml, hown, hts, hK, hG, hr, hlk, htb, hA, hst⟩ := C
  intro H locs lsA hP hD hS hl
  refine W.widen (k := mc) (n := ms) hca hcb (vx_ret ?_)
  exact W.zret hx hb (hr.trans hret) hn (fun t ht hW => ⟨⟨_, (n, ρ, J, M), rfl, hp, by rw [ht]; exact hP, hD⟩, hS.F ht⟩) hS.2.2 d hlk
theorem e_vret (C : Cx l R cc own ret mc ms tb post exc Ξ) (hret : ret = none) (hca : a ≤ mc) (hcb : b ≤ ms) (d : decode cc pc = .ok (.return_, 1)) (hp : post none (n, ρ, J, M)) : E Ξ n ρ J M a b pc ls [] := by
  obtain ⟨p, e, s, m, args, below, meth, c, D, cA, A, nL, rfl, hx, hb, hml, hown, hts, hK, hG, hr, hlk, htb, hA, hst⟩ := C
  intro H locs lsA hP hD hS hl
  refine W.widen (k := mc) (n := ms) hca hcb (vx_ret ?_)
  exact W.vret hx hb (hr.trans hret) (fun t ht hW => ⟨⟨_, (n, ρ, J, M), rfl, hp, by rw [ht]; exact hP, hD⟩, hS.F ht⟩) hS.2.2 d hlk
variable {q : Nat} {cn : String}
theorem e_aret (C : Cx l R cc own ret mc ms tb post exc Ξ) (hret : ret = some (.object cn)) (hca : a ≤ mc) (hcb : b ≤ ms) (d : decode cc pc = .ok (.areturn, 1)) (hp : post (some (.ref q)) (n, ρ, J, M)) : E Ξ n ρ J M a b pc ls [.ref q] := by
  obtain ⟨p, e, s, m, args, below, meth, c, D, cA, A, nL, rfl, hx, hb, hml, hown, hts, hK, hG, hr, hlk, htb, hA, hst⟩ := C
  intro H locs lsA hP hD hS hl
  refine W.widen (k := mc) (n := ms) hca hcb (vx_ret ?_)
  exact W.aret hx hb (hr.trans hret) (Or.inl ⟨_, rfl⟩) (Or.inr ⟨_, rfl⟩) (fun t ht hW => ⟨⟨_, (n, ρ, J, M), rfl, hp, by rw [ht]; exact hP, hD⟩, hS.F ht⟩) hS.2.2 d hlk
end Rows
end
section
/-! Calls and throws in the judgement E. -/
theorem ng_IS : ∀ w ∈ (vx_atS RX2 61 "java/lang/IllegalStateException" ["java/lang/RuntimeException", "java/lang/Exception"]).filter (fun w => !goodWord w), w ∈ NGw := by decide +kernel
theorem ng_IA : ∀ w ∈ (vx_atS RX2 79 "java/lang/IllegalArgumentException" ["java/lang/RuntimeException", "java/lang/Exception"]).filter (fun w => !goodWord w), w ∈ NGw := by decide +kernel
theorem ng_IX : ∀ w ∈ (vx_atS RX2 242 "java/lang/IndexOutOfBoundsException" ["java/lang/RuntimeException", "java/lang/Exception"]).filter (fun w => !goodWord w), w ∈ NGw := by decide +kernel
theorem og_IS : (vx_atS RX2 61 "java/lang/IllegalStateException" ["java/lang/RuntimeException", "java/lang/Exception"]).all vx_ot = true := by decide +kernel
theorem og_IA : (vx_atS RX2 79 "java/lang/IllegalArgumentException" ["java/lang/RuntimeException", "java/lang/Exception"]).all vx_ot = true := by decide +kernel
theorem og_IX : (vx_atS RX2 242 "java/lang/IndexOutOfBoundsException" ["java/lang/RuntimeException", "java/lang/Exception"]).all vx_ot = true := by decide +kernel
theorem gd_IS : ∀ w ∈ (vx_atS RX2 61 "java/lang/IllegalStateException" ["java/lang/RuntimeException", "java/lang/Exception"]).filter goodWord, w ∈ GW := fun _ h => List.mem_append_left _ (List.mem_append_left _ (List.mem_append_right _ h))
theorem gd_IA : ∀ w ∈ (vx_atS RX2 79 "java/lang/IllegalArgumentException" ["java/lang/RuntimeException", "java/lang/Exception"]).filter goodWord, w ∈ GW := fun _ h => List.mem_append_left _ (List.mem_append_right _ h)
theorem gd_IX : ∀ w ∈ (vx_atS RX2 242 "java/lang/IndexOutOfBoundsException" ["java/lang/RuntimeException", "java/lang/Exception"]).filter goodWord, w ∈ GW := fun _ h => List.mem_append_right _ h
/-- what one of the three exceptions needs -/
def Thr (ic : Nat) (cls : String) : Prop := (∀ w ∈ (vx_atS RX2 ic cls ["java/lang/RuntimeException", "java/lang/Exception"]).filter goodWord, w ∈ GW) ∧ (∀ w ∈ (vx_atS RX2 ic cls ["java/lang/RuntimeException", "java/lang/Exception"]).filter (fun w => !goodWord w), w ∈ NGw) ∧ (∀ w ∈ vx_atS RX2 ic cls ["java/lang/RuntimeException", "java/lang/Exception"], vx_ot w = true) ∧ Bundle.fit cls = true
theorem th_IS : Thr 61 "java/lang/IllegalStateException" := ⟨gd_IS, ng_IS, fun w h => List.all_eq_true.mp og_IS w h, by decide +kernel⟩
theorem th_IA : Thr 79 "java/lang/IllegalArgumentException" := ⟨gd_IA, ng_IA, fun w h => List.all_eq_true.mp og_IA w h, by decide +kernel⟩
theorem th_IX : Thr 242 "java/lang/IndexOutOfBoundsException" := ⟨gd_IX, ng_IX, fun w h => List.all_eq_true.mp og_IX w h, by decide +kernel⟩
theorem Bw.grown {D : va_G} {cA : Nat → ClassId} {A : Nat → Prop} {n : Nat} {ρ : Nat → Nat} {J : Nat → Int64} {M : Mem} {H : Heap} {t : State} (hP : va_P D vwCl (ws cA n ρ J M) H) (hD : va_D A (ws cA n ρ J M)) (h2 : ∀ q : Nat, q < H.size → t.heap[q]? = H[q]?) : Bw D cA A (n, ρ, J, M) t :=
  ⟨va_P.kept hP (fun k q hk => h2 q.1 ((hP k q hk).lt)), hD⟩
section Calls1
variable {l : Launch} {R : Room} {cc : ByteArray} {own : String} {ret : Option FieldType} {mc ms : Nat} {post : Option Value → St → Prop} {exc : String → St → Prop} {Ξ : CT}
variable {n : Nat} {ρ : Nat → Nat} {J : Nat → Int64} {M : Mem} {a b pc : Nat} {ls : List (Nat × Value)} {st : List Value}
theorem e_throw {cls text : String} {ik is ic : Nat} (C : Cx l R cc RX2 ret mc ms [] post exc Ξ) (th : Thr ic cls) (hk : Cond.classLink RX2 ik cls ∈ GW) (hi : Cond.initialized cls ∈ GW) (hstr : (is, text) ∈ strs) (hkg : vx_ot (Cond.classLink RX2 ik cls) = true) (hig : vx_ot (Cond.initialized cls) = true)
    (d0 : decode cc pc = .ok (.new ik, 3)) (d3 : decode cc (pc + 3) = .ok (.dup, 1)) (d4 : decode cc (pc + 4) = .ok (.ldc is, 2)) (d6 : decode cc (pc + 6) = .ok (.invokespecial ic, 3)) (d9 : decode cc (pc + 9) = .ok (.athrow, 1))
    (hf : 5 < R.frames) (hlo : (st.map fun v => v.category).sum + 82 ≤ R.locals) (hrc : a + 1 ≤ R.cells) (hrs : b + 6 ≤ R.slots) (hca : a + 1 ≤ mc) (hcb : b + 6 ≤ ms) (hp : exc cls (n, ρ, J, M)) : E Ξ n ρ J M a b pc ls st := by
  obtain ⟨p, e, s, m, args, below, meth, c, D, cA, A, nL, rfl, hx, hb, hml, hown, hts, hK, hG, hr, hlk, htb, hA, hst⟩ := C
  intro H locs lsA hP hD hS hl
  obtain ⟨sa, hsa⟩ := hG.2.1 _ hstr
  obtain ⟨t1, t2, t3, t4⟩ := th
  refine vx_throwS (names := ["java/lang/RuntimeException", "java/lang/Exception"]) hx hb hst hown t4 (fun q hq => ?_) (hts _ hk) (hts _ hi) hsa
    (vx_hat (B := NGw) (fun w hw => hts _ (t1 w hw)) t2 (fun w hw => ?_)) (fun w hw => ?_) hG.2.2.1 hG.2.2.2 hS (hl.1.trans hml.symm) d0 d3 d4 d6 d9 (fun x hxx => by rw [htb] at hxx; cases hxx) hf hlo hrc hrs hlk (fun t hal hsz hkp => ?_) hS.2.2 hca hcb
  · simp only [List.mem_cons, List.not_mem_nil, or_false] at hq
    rcases hq with rfl | rfl <;> decide +kernel
  · have h0 := hG.1 w hw
    simp only [NGw, List.mem_cons, List.not_mem_nil, or_false] at hw
    rcases hw with rfl | rfl | rfl | rfl | rfl | rfl <;> exact va_Nw.use rfl h0
  · rcases List.mem_cons.mp hw with rfl | hw
    · exact hkg
    · rcases List.mem_cons.mp hw with rfl | hw
      · exact hig
      · exact t3 w hw
  · exact ⟨⟨(n, ρ, J, M), hp, Bw.grown hP hD hkp⟩, Nat.le_trans hS.1 hsz, fun q h1 h2 => (hkp q (Nat.lt_of_lt_of_le h1 hS.1)).trans (hS.2.1 q h1 h2)⟩
end Calls1
section Calls2
variable {p : Program} {l : Launch} {e : Env} {R : Room} {s : State} {m : MethodId} {args : Array Value} {below : List Frame} {meth : Method} {c : Code} {H : Heap} {locs : List Loc} {cells slots : Nat} {Q : State → Prop}
variable {mc ms : Nat} {A0 A1 : Nat → Prop} {H0 : Heap} {aa : Array Value} {pc : Nat} {ls : Array Slot} {st0 rest : List Value} {D : va_G} {cA : Nat → ClassId} {post : Option Value → St → Prop} {exc : String → St → Prop}
theorem vx_callE (hr : vx_Run p l e R s m args below meth c H locs cells slots mc ms (F0 m pc ls st0) rest (Qx D cA A1 post aa) (Xx D cA A1 exc) A1) (hS : va_S A0 H0 H locs) (hA : ∀ q, A1 q → A0 q)
    (kx : ∀ (Ex : String) (ce : Cell) (q9 : Addr) (u : St) (t : State) (H1 : Heap) (locs1 : List Loc), t.heap = H1 → exc Ex u → Bw D cA A1 u t → va_S A0 H0 H1 locs1 → H1[q9]? = some ce → ce.vm = .none → s.vm.findClass Ex = some ce.cls → vx_W p l e R s m args below meth c H1 locs1 (cells + mc) (slots + ms) Q (F0 m pc ls rest) q9)
    (kk : ∀ (v : Option Value) (u : St) (t : State) (H1 : Heap) (locs1 : List Loc), t.heap = H1 → post v u → Bw D cA A1 u t → va_S A0 H0 H1 locs1 → W p l e R s m args below meth c H1 locs1 (cells + mc) (slots + ms) Q (F0 m (pc + 3) ls (v.toList ++ rest))) : W p l e R s m args below meth c H locs cells slots Q (F0 m pc ls st0) := by
  intro T hT X
  rcases hr T hT X with ⟨v, st₀, t, T', L, h0, X', hL, e1, e2, ⟨⟨v2, u, hv, hp, hb⟩, hF⟩, st⟩ | ⟨q, st₀, t, T', L, Ex, ce, h0, X', hL, e1, e2, ⟨⟨u, hp, hb⟩, hF⟩, hce, hcv, hcl, st⟩
  · cases hv
    obtain ⟨k1, k2, k3⟩ := vx_keep h0 e1 hS (fun q _ h => hA q h) hA hL hF
    obtain ⟨t2, a1, b1⟩ := kk v u t T'.heap (locs ++ L) e1.symm hp hb k3 T' rfl X'
    exact ⟨t2, st t2 a1, b1⟩
  · obtain ⟨k1, k2, k3⟩ := vx_keep h0 e1 hS (fun q _ h => hA q h) hA hL hF
    obtain ⟨t2, a1, b1⟩ := kx Ex ce q u t T'.heap (locs ++ L) e1.symm hp hb k3 (by rw [e1]; exact hce) hcv hcl T' rfl X'
    exact ⟨t2, st.trans a1, b1⟩
end Calls2
section Calls3
variable {l : Launch} {R : Room} {cc : ByteArray} {own : String} {ret : Option FieldType} {mc ms : Nat} {post : Option Value → St → Prop} {exc : String → St → Prop} {Ξ : CT}
variable {n : Nat} {ρ : Nat → Nat} {J : Nat → Int64} {M : Mem} {a b pc : Nat} {ls : List (Nat × Value)} {st stk : List Value}
theorem ao_sub {cA : Nat → ClassId} {A : Nat → Prop} {H0 H : Heap} {locs : List Loc} (hD : va_D A (ws cA n ρ J M)) (hS : va_S A H0 H locs) (hA : ∀ q, H0.size ≤ q → A q) : ∀ q, Ao cA n ρ J M H.size q → A q := by
  intro q h
  rcases h with ⟨k, e, h⟩ | h
  · exact hD.2 k _ h
  · exact hA q (Nat.le_trans hS.1 h)
theorem pre_blind {D : va_G} {cA : Nat → ClassId} {sz : Nat} {As : List Value} : FrameBlind (va_Pc As (fun U => U.heap.size = sz ∧ va_P D vwCl (ws cA n ρ J M) U.heap ∧ va_D (fun _ => True) (ws cA n ρ J M) ∧ KK D cA U ∧ GP (Ao cA n ρ J M sz) U U.heap)) := by
  rintro aa U g mk ⟨h1, h2, h3, h4, h5, h6⟩
  exact ⟨h1, h2, h3, h4, h5.blind, h6.blind⟩
theorem pre_at {D : va_G} {cA : Nat → ClassId} {A : Nat → Prop} {As : List Value} {s : State} {H : Heap} {locs : List Loc} (hP : va_P D vwCl (ws cA n ρ J M) H) (hD : va_D A (ws cA n ρ J M)) (hS : va_S A s.heap H locs) (hA : ∀ q, s.heap.size ≤ q → A q) (hK : KK D cA s) (hG : GP A s s.heap) :
    ∀ U : State, U.heap = H → s.WarmedH U.vm → va_Pc As (fun U => U.heap.size = H.size ∧ va_P D vwCl (ws cA n ρ J M) U.heap ∧ va_D (fun _ => True) (ws cA n ρ J M) ∧ KK D cA U ∧ GP (Ao cA n ρ J M H.size) U U.heap) As.toArray U := by
  intro U hU hW
  refine ⟨rfl, by rw [hU], by rw [hU]; exact hP, hD.weaken (fun _ _ _ _ => trivial), va_K.moved hW.alike hK, ?_⟩
  rw [hU]
  exact hG.warm hW hS.2.1 (ao_sub hD hS hA)
theorem e_callS {y : MethodName} {cy : ByteArray} {maxL : Nat} {ry : Option FieldType} {h mc' ms' idx nA : Nat} {As : List Value} {post' : Option Value → St → Prop} {exc' : String → St → Prop} (C : Cx l R cc own ret mc ms [] post exc Ξ)
    (hc : Ct l y (Cond.code y cy maxL ry :: GW) h mc' ms' n ρ J M As post' exc') (hcode : Cond.code y cy maxL ry ∈ GW) (hlink : Cond.methodLink own idx y ∈ GW) (hstat : Cond.static y ∈ GW) (hinit : Cond.initialized y.cls ∈ GW)
    (hd : y.cls ≠ "java/lang/invoke/MethodHandle" ∧ y.cls ≠ "java/lang/invoke/VarHandle" ∧ (parseMethodDescriptor y.desc).map (fun d => d.parameters.length) = some nA)
    (hR : h + 1 ≤ R.frames ∧ 8 + (maxL + 11) + (30 * h + 60) ≤ R.locals) (hAs : As.length = nA) (hstk : stk = As.reverse ++ st) (hcat : (st.map fun v => v.category).sum ≤ 8)
    (d : decode cc pc = .ok (.invokestatic idx, 3)) (hrc : a + mc' ≤ R.cells ∧ b + ms' ≤ R.slots) (hca : a + mc' ≤ mc) (hcb : b + ms' ≤ ms)
    (kx : ∀ (Ex : String) (u : St), exc' Ex u → exc Ex u) (kk : ∀ (v : Option Value) (u : St), post' v u → E Ξ u.1 u.2.1 u.2.2.1 u.2.2.2 (a + mc') (b + ms') (pc + 3) ls (v.toList ++ st)) : E Ξ n ρ J M a b pc ls stk := by
  obtain ⟨p, e, s, m, args, below, meth, c, D, cA, A, nL, rfl, hx, hb, hml, hown, hts, hK, hG, hr, hlk, htb, hA, hst⟩ := C
  intro H locs lsA hP hD hS hl
  subst hstk
  have cw : CallB R s args own idx y cy maxL ry (Cond.code y cy maxL ry :: GW) (rmm h mc' ms') mc' ms' nA := callB_of nA hts (gw_good hcode) rfl rfl rfl (hts _ hinit) (hts _ hlink) hd hR
  refine vx_callE (vx_runS (As := As) (rest := st) ⟨hx, hb, hml, hown, hts⟩ (hc D cA H.size) ⟨cw, hts _ hstat⟩ ⟨pre_blind, pre_at hP hD hS hA hK hG⟩ rfl hAs hl.1 rfl (lv_room hcat) d hrc) hS (ao_sub hD hS hA) ?_ ?_
  · intro Ex ce q9 u t H1 locs1 ht he hBw hS1 h1 h2 h3
    exact vx_out (fun x hxx => by rw [htb] at hxx; cases hxx) hlk h1 h2 h3 (fun t2 ht2 _ => ⟨⟨u, kx Ex u he, by rw [ht2, ← ht]; exact hBw.1, hBw.2.weaken (fun _ q _ h => ao_sub hD hS hA q.1 h)⟩, hS1.F ht2⟩) hS1.2.2 hca hcb
  · intro v u t H1 locs1 ht hp hBw hS1
    exact kk v u hp H1 locs1 lsA (by rw [← ht]; exact hBw.1) (hBw.2.weaken (fun _ q _ h => ao_sub hD hS hA q.1 h)) hS1 hl
theorem e_callV {y : MethodName} {cy : ByteArray} {maxL : Nat} {ry : Option FieldType} {h mc' ms' idx nA i ci : Nat} {Cn : String} {qc : vw_C} {fs : List Value} {As : List Value} {post' : Option Value → St → Prop} {exc' : String → St → Prop} (C : Cx l R cc own ret mc ms [] post exc Ξ)
    (hc : Ct l y (Cond.code y cy maxL ry :: GW) h mc' ms' n ρ J M (.ref (ρ i) :: As) post' exc') (hi : i < cnt n) (hcell : ∀ cA, cellOf cA n ρ J i (M i) = .inr (ci, fs)) (hcl : vwCl[ci]? = some qc) (hqc : qc.1 = Cn) (hcode : Cond.code y cy maxL ry ∈ GW) (hlink : Cond.methodLink own idx y ∈ GW) (hinst : Cond.instanceMethod y ∈ GW) (hsel : Cond.selects Cn y y ∈ GW) (hinit : Cond.initialized y.cls ∈ GW)
    (hd : y.cls ≠ "java/lang/invoke/MethodHandle" ∧ y.cls ≠ "java/lang/invoke/VarHandle" ∧ (parseMethodDescriptor y.desc).map (fun d => d.parameters.length) = some nA)
    (hR : h + 1 ≤ R.frames ∧ 8 + (maxL + 11) + (30 * h + 60) ≤ R.locals) (hAs : As.length = nA) (hstk : stk = As.reverse ++ .ref (ρ i) :: st) (hcat : (st.map fun v => v.category).sum ≤ 8)
    (d : decode cc pc = .ok (.invokevirtual idx, 3)) (hrc : a + mc' ≤ R.cells ∧ b + ms' ≤ R.slots) (hca : a + mc' ≤ mc) (hcb : b + ms' ≤ ms)
    (kx : ∀ (Ex : String) (u : St), exc' Ex u → exc Ex u) (kk : ∀ (v : Option Value) (u : St), post' v u → E Ξ u.1 u.2.1 u.2.2.1 u.2.2.2 (a + mc') (b + ms') (pc + 3) ls (v.toList ++ st)) : E Ξ n ρ J M a b pc ls stk := by
  obtain ⟨p, e, s, m, args, below, meth, c, D, cA, A, nL, rfl, hx, hb, hml, hown, hts, hK, hG, hr, hlk, htb, hA, hst⟩ := C
  intro H locs lsA hP hD hS hl
  subst hstk
  subst hqc
  have cw : CallB R s args own idx y cy maxL ry (Cond.code y cy maxL ry :: GW) (rmm h mc' ms') mc' ms' nA := callB_of nA hts (gw_good hcode) rfl rfl rfl (hts _ hinit) (hts _ hlink) hd hR
  have he : (ws cA n ρ J M)[i]? = some (ρ i, .inr (ci, fs)) := (ws_at hi).trans (congrArg (fun z => some (ρ i, z)) (hcell cA))
  refine vx_callE (vx_runV (As := As) (rest := st) ⟨hx, hb, hml, hown, hts⟩ (hc D cA H.size) ⟨cw, hts _ hinst, hts _ hsel⟩ ⟨pre_blind, va_recv hK hP hcl he, pre_at hP hD hS hA hK hG⟩ rfl hAs hl.1 rfl (lv_room hcat) d hrc) hS (ao_sub hD hS hA) ?_ ?_
  · intro Ex ce q9 u t H1 locs1 ht hee hBw hS1 h1 h2 h3
    exact vx_out (fun x hxx => by rw [htb] at hxx; cases hxx) hlk h1 h2 h3 (fun t2 ht2 _ => ⟨⟨u, kx Ex u hee, by rw [ht2, ← ht]; exact hBw.1, hBw.2.weaken (fun _ q _ h => ao_sub hD hS hA q.1 h)⟩, hS1.F ht2⟩) hS1.2.2 hca hcb
  · intro v u t H1 locs1 ht hp hBw hS1
    exact kk v u hp H1 locs1 lsA (by rw [← ht]; exact hBw.1) (hBw.2.weaken (fun _ q _ h => ao_sub hD hS hA q.1 h)) hS1 hl
end Calls3
end
