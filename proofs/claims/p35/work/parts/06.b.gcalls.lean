/-! The bundle of what is carried, and calls between worlds. -/
abbrev eN : String := "DEFAULTCAPACITY_EMPTY_ELEMENTDATA"
abbrev eD : String := "[Ljava/lang/Object;"
abbrev tO : FieldType := .object "java/lang/Object"
def EXe (e : Nat) : EXT := fun A s H => GP A s H ∧ va_Nc IA IX s ∧ va_Nc IS IX s ∧ va_Nc IS IA s ∧ va_Nw (.methodLinkNest RX2 66 yX0_init RX2) s ∧ va_Nw (.methodLinkNest RX2 29 yX1_init RX2) s ∧ va_Nw (.castable RX0 "java/lang/Object") s ∧ va_AO "java/lang/Object" s ∧ va_Z RJx4a65c eN eD (.ref e) A s H ∧ ¬ A e ∧ ∃ cE : Cell, H[e]? = some cE ∧ s.isArrayOf cE tO ∧ cE.slots.size.toInt32 = 0
theorem EXe.gp {e : Nat} : ∀ (A : Nat → Prop) (s : State) (H : Heap), EXe e A s H → GP A s H := fun _ _ _ h => h.1
theorem EXe.carr {e : Nat} : Carr (EXe e) := by
  rintro A A' s U H0 H hW ⟨h1, h2, h3, h4, h5, h6, h7, h8, h9, h10, cE, h11, h12, h13⟩ hq hA
  refine ⟨GP.warm hW h1 hq hA, va_Nc.moved hW.alike h2, va_Nc.moved hW.alike h3, va_Nc.moved hW.alike h4, va_Nw.warmM hW h5, va_Nw.warmM hW h6, va_Nw.warmC hW h7, va_AO.moved hW.alike h8, va_Z.moved hW.alike ((h9.kept hq).narrow hA), fun q => h10 (hA e q), cE, ?_, State.isArrayOf_alike hW.alike h12, h13⟩
  rw [hq e (Array.getElem?_eq_some_iff.mp h11).1 h10]
  exact h11
theorem Carr.blind {EX : EXT} (h : Carr EX) {A : Nat → Prop} {U : State} {H : Heap} {g : JFrame} {mk : MethodId} {a : Array Value} (q : EX A U H) : EX A (U.calling g mk a) H := h A A U (U.calling g mk a) H H (State.WarmedH.refl U) q (fun _ _ _ => rfl) (fun _ z => z)
theorem gao_sub {w : va_W} {A : Nat → Prop} {H0 H : Heap} {locs : List Loc} (hD : va_D A w) (hS : va_S A H0 H locs) (hA : ∀ q, H0.size ≤ q → A q) : ∀ q, va_A w H.size q → A q := by
  intro q h
  rcases h with ⟨k, e, h⟩ | h
  · exact hD.2 k _ h
  · exact hA q (Nat.le_trans hS.1 h)
theorem gpre_blind {EX : EXT} (hc : Carr EX) {w : va_W} {D : va_G} {cA : Nat → ClassId} {sz : Nat} {As : List Value} : FrameBlind (va_Pc As (fun U => U.heap.size = sz ∧ va_P D vwCl w U.heap ∧ va_D (fun _ => True) w ∧ KK D cA U ∧ EX (va_A w sz) U U.heap)) := by
  rintro aa U g mk ⟨h1, h2, h3, h4, h5, h6⟩
  exact ⟨h1, h2, h3, h4, h5.blind, hc.blind h6⟩
theorem gpre_at {EX EX' : EXT} (hc : Carr EX') (hsub : ∀ (A : Nat → Prop) (s : State) (H : Heap), EX A s H → EX' A s H) {w : va_W} {D : va_G} {cA : Nat → ClassId} {A : Nat → Prop} {As : List Value} {s : State} {H : Heap} {locs : List Loc} (hP : va_P D vwCl w H) (hD : va_D A w) (hS : va_S A s.heap H locs) (hA : ∀ q, s.heap.size ≤ q → A q) (hK : KK D cA s) (hG : EX A s s.heap) :
    ∀ U : State, U.heap = H → s.WarmedH U.vm → va_Pc As (fun U => U.heap.size = H.size ∧ va_P D vwCl w U.heap ∧ va_D (fun _ => True) w ∧ KK D cA U ∧ EX' (va_A w H.size) U U.heap) As.toArray U := by
  intro U hU hW
  refine ⟨rfl, by rw [hU], by rw [hU]; exact hP, hD.weaken (fun _ _ _ _ => trivial), va_K.moved hW.alike hK, ?_⟩
  rw [hU]
  exact hc _ _ _ _ _ _ hW (hsub _ _ _ hG) hS.2.1 (gao_sub hD hS hA)
section GCalls
variable {EX EX' : EXT} {l : Launch} {R : Room} {cc : ByteArray} {own mn : String} {ret : Option FieldType} {mc ms : Nat} {tb : List ExceptionTableEntry} {Ξ : CT}
variable {w : Wd} {a b pc : Nat} {ls ls2 : List (Nat × Value)} {st stk : List Value}
/-- a throw by Ex at pc, caught in this method: where it goes on -/
def Hd (EX : EXT) (own : String) (tb : List ExceptionTableEntry) (Ξ : CT) (w : Wd) (a b pc : Nat) (ls : List (Nat × Value)) (Ex : String) : Prop :=
  ∃ (pre : List ExceptionTableEntry) (x : ExceptionTableEntry) (suf : List ExceptionTableEntry) (name : String), tb = pre ++ x :: suf ∧ (∀ z ∈ pre, covers z pc = false ∨ (z.catchType ≠ 0 ∧ ∃ nm : String, Cond.classLink own z.catchType nm ∈ GW ∧ ∀ (A : Nat → Prop) (s : State) (H : Heap), EX A s H → va_Nc Ex nm s)) ∧
    covers x pc = true ∧ x.catchType ≠ 0 ∧ Cond.classLink own x.catchType name ∈ GW ∧ Cond.castable Ex name ∈ NGw ∧ ∀ q9 : Nat, G Ξ w a b x.handlerPc ls [.ref q9]
theorem vx_callG {p : Program} {e : Env} {s : State} {m : MethodId} {args : Array Value} {below : List Frame} {meth : Method} {c : Code} {H : Heap} {locs : List Loc} {cells slots mc ms : Nat} {Q : State → Prop} {A0 A1 : Nat → Prop} {H0 : Heap} {ls : Array Slot} {st0 rest : List Value} {D : va_G} {cA : Nat → ClassId} {post : Option Value → Wd → Prop} {exc : String → Wd → Prop} {Qa : State → Outcome → State → Prop} {X : String → State → State → Prop}
    (hr : vx_Run p l e R s m args below meth c H locs cells slots mc ms (F0 m pc ls st0) rest Qa X A1) (hS : va_S A0 H0 H locs) (hA : ∀ q, A1 q → A0 q)
    (hq : ∀ (st : State) (v : Option Value) (t : State), Qa st (.returned v) t → (∃ w' : Wd, post v w' ∧ Bg D cA A1 w' t) ∧ va_F A1 st t) (hxx : ∀ (Ex : String) (st t : State), X Ex st t → (∃ w' : Wd, exc Ex w' ∧ Bg D cA A1 w' t) ∧ va_F A1 st t)
    (kx : ∀ (Ex : String) (ce : Cell) (q9 : Addr) (u : Wd) (t : State) (H1 : Heap) (locs1 : List Loc), t.heap = H1 → exc Ex u → Bg D cA A1 u t → va_S A0 H0 H1 locs1 → H1[q9]? = some ce → ce.vm = .none → s.vm.findClass Ex = some ce.cls → vx_W p l e R s m args below meth c H1 locs1 (cells + mc) (slots + ms) Q (F0 m pc ls rest) q9)
    (kk : ∀ (v : Option Value) (u : Wd) (t : State) (H1 : Heap) (locs1 : List Loc), t.heap = H1 → post v u → Bg D cA A1 u t → va_S A0 H0 H1 locs1 → W p l e R s m args below meth c H1 locs1 (cells + mc) (slots + ms) Q (F0 m (pc + 3) ls (v.toList ++ rest))) : W p l e R s m args below meth c H locs cells slots Q (F0 m pc ls st0) := by
  intro T hT X
  rcases hr T hT X with ⟨v, st₀, t, T', L, h0, X', hL, e1, e2, hQ, st⟩ | ⟨q, st₀, t, T', L, Ex, ce, h0, X', hL, e1, e2, hX, hce, hcv, hcl, st⟩
  · obtain ⟨⟨u, hp, hb⟩, hF⟩ := hq _ _ _ hQ
    obtain ⟨k1, k2, k3⟩ := vx_keep h0 e1 hS (fun q _ h => hA q h) hA hL hF
    obtain ⟨t2, a1, b1⟩ := kk v u t T'.heap (locs ++ L) e1.symm hp hb k3 T' rfl X'
    exact ⟨t2, st t2 a1, b1⟩
  · obtain ⟨⟨u, hp, hb⟩, hF⟩ := hxx _ _ _ hX
    obtain ⟨k1, k2, k3⟩ := vx_keep h0 e1 hS (fun q _ h => hA q h) hA hL hF
    obtain ⟨t2, a1, b1⟩ := kx Ex ce q u t T'.heap (locs ++ L) e1.symm hp hb k3 (by rw [e1]; exact hce) hcv hcl T' rfl X'
    exact ⟨t2, st.trans a1, b1⟩
theorem g_callV {y : MethodName} {cy : ByteArray} {maxL : Nat} {ry : Option FieldType} {h mc' ms' idx nA : Nat} {As : List Value} {post' : Option Value → Wd → Prop} {exc' : String → Wd → Prop} {q i ci : Nat} {Cn : String} {qc : vw_C} {fs : List Value} (C : CB EX l R cc own mn tb Ξ) (hc : CG EX' l y (Cond.code y cy maxL ry :: GW) h mc' ms' w (.ref q :: As) post' exc') (hsub : ∀ (A : Nat → Prop) (s : State) (H : Heap), EX A s H → EX' A s H) (hcar' : Carr EX') (he : ∀ cA, (w cA)[i]? = some (q, .inr (ci, fs))) (hcl : vwCl[ci]? = some qc) (hqc : qc.1 = Cn) (hcode : Cond.code y cy maxL ry ∈ GW) (hlink : Cond.methodLink own idx y ∈ GW) (hinst : Cond.instanceMethod y ∈ GW) (hsel : Cond.selects Cn y y ∈ GW) (hinit : Cond.initialized y.cls ∈ GW)
    (hd : y.cls ≠ "java/lang/invoke/MethodHandle" ∧ y.cls ≠ "java/lang/invoke/VarHandle" ∧ (parseMethodDescriptor y.desc).map (fun d => d.parameters.length) = some nA)
    (hR : h + 1 ≤ R.frames ∧ 8 + (maxL + 11) + (30 * h + 60) ≤ R.locals) (hAs : As.length = nA) (hstk : stk = As.reverse ++ .ref q :: st) (hcat : (st.map fun v => v.category).sum ≤ 8)
    (d : decode cc pc = .ok (.invokevirtual idx, 3)) (hrc : a + mc' ≤ R.cells ∧ b + ms' ≤ R.slots)
    (kx : ∀ (Ex : String) (u : Wd), exc' Ex u → Hd EX own tb Ξ u (a + mc') (b + ms') pc ls Ex) (kk : ∀ (v : Option Value) (u : Wd), post' v u → G Ξ u (a + mc') (b + ms') (pc + 3) ls (v.toList ++ st)) : G Ξ w a b pc ls stk := by
  obtain ⟨p, e, s, m, args, below, meth, c, D, cA, A, nL, Z, rfl, hx, hb, hml, hown, hmn, hts, hK, hG, hE, htb, hA, hst⟩ := C
  intro H locs lsA hP hD hS hl
  subst hstk
  subst hqc
  have cw : CallB R s args own idx y cy maxL ry (Cond.code y cy maxL ry :: GW) (rmm h mc' ms') mc' ms' nA := callB_of nA hts (gw_good hcode) rfl rfl rfl (hts _ hinit) (hts _ hlink) hd hR
  obtain ⟨Qc, Xc, hM, hq, hxx⟩ := hc D cA H.size
  refine vx_callG (D := D) (cA := cA) (vx_runV (As := As) (rest := st) ⟨hx, hb, hml, hown, hts⟩ hM ⟨cw, hts _ hinst, hts _ hsel⟩ ⟨gpre_blind hcar', va_recv hK hP hcl (he cA), gpre_at hcar' hsub hP hD hS hA hK hE⟩ rfl hAs hl.1 rfl (lv_room hcat) d hrc) hS (gao_sub hD hS hA) (fun st v t h => hq _ st v t h) hxx ?_ ?_
  · intro Ex ce q9 u t H1 locs1 ht he2 hBw hS1 h1 h2 h3
    obtain ⟨pre, x, suf, name, e1, e2, e3, e4, e5, e6, e7⟩ := kx Ex u he2
    refine vx_catch (name := name) hown pre x suf (htb.trans e1) (fun z hz => ?_) e3 e4 (hts _ e5) ?_ h1 h2 h3 (e7 q9 H1 locs1 lsA (by rw [← ht]; exact hBw.1) (hBw.2.weaken (fun _ q _ h => gao_sub hD hS hA q.1 h)) hS1 hl)
    · rcases e2 z hz with z1 | ⟨z1, nm, z2, z3⟩
      · exact Or.inl z1
      · exact Or.inr ⟨z1, nm, hts _ z2, z3 _ _ _ hE⟩
    · exact va_Nw.use rfl ((hG _ _ _ hE).1 _ e6)
  · intro v u t H1 locs1 ht hp hBw hS1
    exact kk v u hp H1 locs1 lsA (by rw [← ht]; exact hBw.1) (hBw.2.weaken (fun _ q _ h => gao_sub hD hS hA q.1 h)) hS1 hl
theorem g_callS {y : MethodName} {cy : ByteArray} {maxL : Nat} {ry : Option FieldType} {h mc' ms' idx nA : Nat} {As : List Value} {post' : Option Value → Wd → Prop} {exc' : String → Wd → Prop}  (C : CB EX l R cc own mn tb Ξ) (hc : CG EX' l y (Cond.code y cy maxL ry :: GW) h mc' ms' w As post' exc') (hsub : ∀ (A : Nat → Prop) (s : State) (H : Heap), EX A s H → EX' A s H) (hcar' : Carr EX') (hcode : Cond.code y cy maxL ry ∈ GW) (hlink : Cond.methodLink own idx y ∈ GW) (hstat : Cond.static y ∈ GW) (hinit : Cond.initialized y.cls ∈ GW)
    (hd : y.cls ≠ "java/lang/invoke/MethodHandle" ∧ y.cls ≠ "java/lang/invoke/VarHandle" ∧ (parseMethodDescriptor y.desc).map (fun d => d.parameters.length) = some nA)
    (hR : h + 1 ≤ R.frames ∧ 8 + (maxL + 11) + (30 * h + 60) ≤ R.locals) (hAs : As.length = nA) (hstk : stk = As.reverse ++ st) (hcat : (st.map fun v => v.category).sum ≤ 8)
    (d : decode cc pc = .ok (.invokestatic idx, 3)) (hrc : a + mc' ≤ R.cells ∧ b + ms' ≤ R.slots)
    (kx : ∀ (Ex : String) (u : Wd), exc' Ex u → Hd EX own tb Ξ u (a + mc') (b + ms') pc ls Ex) (kk : ∀ (v : Option Value) (u : Wd), post' v u → G Ξ u (a + mc') (b + ms') (pc + 3) ls (v.toList ++ st)) : G Ξ w a b pc ls stk := by
  obtain ⟨p, e, s, m, args, below, meth, c, D, cA, A, nL, Z, rfl, hx, hb, hml, hown, hmn, hts, hK, hG, hE, htb, hA, hst⟩ := C
  intro H locs lsA hP hD hS hl
  subst hstk
  have cw : CallB R s args own idx y cy maxL ry (Cond.code y cy maxL ry :: GW) (rmm h mc' ms') mc' ms' nA := callB_of nA hts (gw_good hcode) rfl rfl rfl (hts _ hinit) (hts _ hlink) hd hR
  obtain ⟨Qc, Xc, hM, hq, hxx⟩ := hc D cA H.size
  refine vx_callG (D := D) (cA := cA) (vx_runS (As := As) (rest := st) ⟨hx, hb, hml, hown, hts⟩ hM ⟨cw, hts _ hstat⟩ ⟨gpre_blind hcar', gpre_at hcar' hsub hP hD hS hA hK hE⟩ rfl hAs hl.1 rfl (lv_room hcat) d hrc) hS (gao_sub hD hS hA) (fun st v t h => hq _ st v t h) hxx ?_ ?_
  · intro Ex ce q9 u t H1 locs1 ht he2 hBw hS1 h1 h2 h3
    obtain ⟨pre, x, suf, name, e1, e2, e3, e4, e5, e6, e7⟩ := kx Ex u he2
    refine vx_catch (name := name) hown pre x suf (htb.trans e1) (fun z hz => ?_) e3 e4 (hts _ e5) ?_ h1 h2 h3 (e7 q9 H1 locs1 lsA (by rw [← ht]; exact hBw.1) (hBw.2.weaken (fun _ q _ h => gao_sub hD hS hA q.1 h)) hS1 hl)
    · rcases e2 z hz with z1 | ⟨z1, nm, z2, z3⟩
      · exact Or.inl z1
      · exact Or.inr ⟨z1, nm, hts _ z2, z3 _ _ _ hE⟩
    · exact va_Nw.use rfl ((hG _ _ _ hE).1 _ e6)
  · intro v u t H1 locs1 ht hp hBw hS1
    exact kk v u hp H1 locs1 lsA (by rw [← ht]; exact hBw.1) (hBw.2.weaken (fun _ q _ h => gao_sub hD hS hA q.1 h)) hS1 hl
theorem g_callI {y : MethodName} {cy : ByteArray} {maxL : Nat} {h mc' ms' idx nA : Nat} {As : List Value} {post' : Option Value → Wd → Prop} {exc' : String → Wd → Prop} {q : Nat} (C : CB EX l R cc own mn tb Ξ) (hc : CG EX' l y (Cond.code y cy maxL none :: GW) h mc' ms' w (.ref q :: As) post' exc') (hsub : ∀ (A : Nat → Prop) (s : State) (H : Heap), EX A s H → EX' A s H) (hcar' : Carr EX') (hcode : Cond.code y cy maxL none ∈ GW) (hlink : Cond.methodLink own idx y ∈ GW) (hinst : Cond.instanceMethod y ∈ GW) (hnm : y.name = "<init>") (hinit : Cond.initialized y.cls ∈ GW)
    (hd : y.cls ≠ "java/lang/invoke/MethodHandle" ∧ y.cls ≠ "java/lang/invoke/VarHandle" ∧ (parseMethodDescriptor y.desc).map (fun d => d.parameters.length) = some nA)
    (hR : h + 1 ≤ R.frames ∧ 8 + (maxL + 11) + (30 * h + 60) ≤ R.locals) (hAs : As.length = nA) (hstk : stk = As.reverse ++ .ref q :: st) (hcat : (st.map fun v => v.category).sum ≤ 8)
    (d : decode cc pc = .ok (.invokespecial idx, 3)) (hrc : a + mc' ≤ R.cells ∧ b + ms' ≤ R.slots)
    (kx : ∀ (Ex : String) (u : Wd), exc' Ex u → Hd EX own tb Ξ u (a + mc') (b + ms') pc ls Ex) (kk : ∀ (v : Option Value) (u : Wd), post' v u → G Ξ u (a + mc') (b + ms') (pc + 3) ls (v.toList ++ st)) : G Ξ w a b pc ls stk := by
  obtain ⟨p, e, s, m, args, below, meth, c, D, cA, A, nL, Z, rfl, hx, hb, hml, hown, hmn, hts, hK, hG, hE, htb, hA, hst⟩ := C
  intro H locs lsA hP hD hS hl
  subst hstk
  have cw : CallB R s args own idx y cy maxL none (Cond.code y cy maxL none :: GW) (rmm h mc' ms') mc' ms' nA := callB_of nA hts (gw_good hcode) rfl rfl rfl (hts _ hinit) (hts _ hlink) hd hR
  obtain ⟨Qc, Xc, hM, hq, hxx⟩ := hc D cA H.size
  refine vx_callG (D := D) (cA := cA) (vx_runI (As := As) (rest := st) ⟨hx, hb, hml, hown, hts⟩ hM ⟨cw, hnm, hts _ hinst⟩ ⟨gpre_blind hcar', gpre_at hcar' hsub hP hD hS hA hK hE⟩ rfl hAs hl.1 rfl (lv_room hcat) d hrc) hS (gao_sub hD hS hA) (fun st v t h => hq _ st v t h) hxx ?_ ?_
  · intro Ex ce q9 u t H1 locs1 ht he2 hBw hS1 h1 h2 h3
    obtain ⟨pre, x, suf, name, e1, e2, e3, e4, e5, e6, e7⟩ := kx Ex u he2
    refine vx_catch (name := name) hown pre x suf (htb.trans e1) (fun z hz => ?_) e3 e4 (hts _ e5) ?_ h1 h2 h3 (e7 q9 H1 locs1 lsA (by rw [← ht]; exact hBw.1) (hBw.2.weaken (fun _ q _ h => gao_sub hD hS hA q.1 h)) hS1 hl)
    · rcases e2 z hz with z1 | ⟨z1, nm, z2, z3⟩
      · exact Or.inl z1
      · exact Or.inr ⟨z1, nm, hts _ z2, z3 _ _ _ hE⟩
    · exact va_Nw.use rfl ((hG _ _ _ hE).1 _ e6)
  · intro v u t H1 locs1 ht hp hBw hS1
    exact kk v u hp H1 locs1 lsA (by rw [← ht]; exact hBw.1) (hBw.2.weaken (fun _ q _ h => gao_sub hD hS hA q.1 h)) hS1 hl
theorem g_callIN {y : MethodName} {cy : ByteArray} {maxL : Nat} {h mc' ms' idx nA : Nat} {As : List Value} {post' : Option Value → Wd → Prop} {exc' : String → Wd → Prop} {q : Nat} {host : String} (C : CB EX l R cc own mn tb Ξ) (hc : CG EX' l y (Cond.code y cy maxL none :: GW) h mc' ms' w (.ref q :: As) post' exc') (hsub : ∀ (A : Nat → Prop) (s : State) (H : Heap), EX A s H → EX' A s H) (hcar' : Carr EX') (hcode : Cond.code y cy maxL none ∈ GW) (hlink : ∀ (A : Nat → Prop) (s : State) (H : Heap), EX A s H → va_Nw (.methodLinkNest own idx y host) s) (hinst : Cond.instanceMethod y ∈ GW) (hnm : y.name = "<init>") (hinit : Cond.initialized y.cls ∈ GW)
    (hd : y.cls ≠ "java/lang/invoke/MethodHandle" ∧ y.cls ≠ "java/lang/invoke/VarHandle" ∧ (parseMethodDescriptor y.desc).map (fun d => d.parameters.length) = some nA)
    (hR : h + 1 ≤ R.frames ∧ 8 + (maxL + 11) + (30 * h + 60) ≤ R.locals) (hAs : As.length = nA) (hstk : stk = As.reverse ++ .ref q :: st) (hcat : (st.map fun v => v.category).sum ≤ 8)
    (d : decode cc pc = .ok (.invokespecial idx, 3)) (hrc : a + mc' ≤ R.cells ∧ b + ms' ≤ R.slots)
    (kx : ∀ (Ex : String) (u : Wd), exc' Ex u → Hd EX own tb Ξ u (a + mc') (b + ms') pc ls Ex) (kk : ∀ (v : Option Value) (u : Wd), post' v u → G Ξ u (a + mc') (b + ms') (pc + 3) ls (v.toList ++ st)) : G Ξ w a b pc ls stk := by
  obtain ⟨p, e, s, m, args, below, meth, c, D, cA, A, nL, Z, rfl, hx, hb, hml, hown, hmn, hts, hK, hG, hE, htb, hA, hst⟩ := C
  intro H locs lsA hP hD hS hl
  subst hstk
  have cw : va_CN R s args own idx y host cy maxL none (Cond.code y cy maxL none :: GW) (rmm h mc' ms') mc' ms' nA := va_cnB nA hts (gw_good hcode) rfl rfl rfl (hlink _ _ _ hE) (hts _ hinit) hd hR
  obtain ⟨Qc, Xc, hM, hq, hxx⟩ := hc D cA H.size
  refine vx_callG (D := D) (cA := cA) (vx_runIN (As := As) (rest := st) ⟨hx, hb, hml, hown, hts⟩ hM ⟨cw, hnm, hts _ hinst⟩ ⟨gpre_blind hcar', gpre_at hcar' hsub hP hD hS hA hK hE⟩ rfl hAs hl.1 rfl (lv_room hcat) d hrc) hS (gao_sub hD hS hA) (fun st v t h => hq _ st v t h) hxx ?_ ?_
  · intro Ex ce q9 u t H1 locs1 ht he2 hBw hS1 h1 h2 h3
    obtain ⟨pre, x, suf, name, e1, e2, e3, e4, e5, e6, e7⟩ := kx Ex u he2
    refine vx_catch (name := name) hown pre x suf (htb.trans e1) (fun z hz => ?_) e3 e4 (hts _ e5) ?_ h1 h2 h3 (e7 q9 H1 locs1 lsA (by rw [← ht]; exact hBw.1) (hBw.2.weaken (fun _ q _ h => gao_sub hD hS hA q.1 h)) hS1 hl)
    · rcases e2 z hz with z1 | ⟨z1, nm, z2, z3⟩
      · exact Or.inl z1
      · exact Or.inr ⟨z1, nm, hts _ z2, z3 _ _ _ hE⟩
    · exact va_Nw.use rfl ((hG _ _ _ hE).1 _ e6)
  · intro v u t H1 locs1 ht hp hBw hS1
    exact kk v u hp H1 locs1 lsA (by rw [← ht]; exact hBw.1) (hBw.2.weaken (fun _ q _ h => gao_sub hD hS hA q.1 h)) hS1 hl
theorem g_callSX {y : MethodName} {cy : ByteArray} {maxL : Nat} {ry : Option FieldType} {h mc' ms' idx nA : Nat} {As : List Value} {post' : Option Value → Wd → Prop} {exc' : String → Wd → Prop} {hh : List (Nat × Nat × Nat × Nat)} (C : CB EX l R cc own mn tb Ξ) (hc : CG EX' l y (Cond.codeWith y cy maxL ry hh :: GW) h mc' ms' w As post' exc') (hsub : ∀ (A : Nat → Prop) (s : State) (H : Heap), EX A s H → EX' A s H) (hcar' : Carr EX') (hcode : GoodIn GW (va_wsS own idx y (Cond.codeWith y cy maxL ry hh :: GW))) (hinit : Cond.initialized y.cls ∈ GW)
    (hd : y.cls ≠ "java/lang/invoke/MethodHandle" ∧ y.cls ≠ "java/lang/invoke/VarHandle" ∧ (parseMethodDescriptor y.desc).map (fun d => d.parameters.length) = some nA)
    (hR : h + 1 ≤ R.frames ∧ 8 + (maxL + 11) + (30 * h + 60) ≤ R.locals) (hAs : As.length = nA) (hstk : stk = As.reverse ++ st) (hcat : (st.map fun v => v.category).sum ≤ 8)
    (d : decode cc pc = .ok (.invokestatic idx, 3)) (hrc : a + mc' ≤ R.cells ∧ b + ms' ≤ R.slots)
    (kx : ∀ (Ex : String) (u : Wd), exc' Ex u → Hd EX own tb Ξ u (a + mc') (b + ms') pc ls Ex) (kk : ∀ (v : Option Value) (u : Wd), post' v u → G Ξ u (a + mc') (b + ms') (pc + 3) ls (v.toList ++ st)) : G Ξ w a b pc ls stk := by
  obtain ⟨p, e, s, m, args, below, meth, c, D, cA, A, nL, Z, rfl, hx, hb, hml, hown, hmn, hts, hK, hG, hE, htb, hA, hst⟩ := C
  intro H locs lsA hP hD hS hl
  subst hstk
  have cw : vx_CSW R s args own idx y cy maxL ry hh (Cond.codeWith y cy maxL ry hh :: GW) (rmm h mc' ms') mc' ms' nA := vx_cwSW nA hts hcode rfl rfl rfl hd hR
  obtain ⟨Qc, Xc, hM, hq, hxx⟩ := hc D cA H.size
  refine vx_callG (D := D) (cA := cA) (vx_runSX (As := As) (rest := st) ⟨hx, hb, hml, hown, hts⟩ hM cw ⟨gpre_blind hcar', gpre_at hcar' hsub hP hD hS hA hK hE⟩ rfl hAs hl.1 rfl (lv_room hcat) d hrc) hS (gao_sub hD hS hA) (fun st v t h => hq _ st v t h) hxx ?_ ?_
  · intro Ex ce q9 u t H1 locs1 ht he2 hBw hS1 h1 h2 h3
    obtain ⟨pre, x, suf, name, e1, e2, e3, e4, e5, e6, e7⟩ := kx Ex u he2
    refine vx_catch (name := name) hown pre x suf (htb.trans e1) (fun z hz => ?_) e3 e4 (hts _ e5) ?_ h1 h2 h3 (e7 q9 H1 locs1 lsA (by rw [← ht]; exact hBw.1) (hBw.2.weaken (fun _ q _ h => gao_sub hD hS hA q.1 h)) hS1 hl)
    · rcases e2 z hz with z1 | ⟨z1, nm, z2, z3⟩
      · exact Or.inl z1
      · exact Or.inr ⟨z1, nm, hts _ z2, z3 _ _ _ hE⟩
    · exact va_Nw.use rfl ((hG _ _ _ hE).1 _ e6)
  · intro v u t H1 locs1 ht hp hBw hS1
    exact kk v u hp H1 locs1 lsA (by rw [← ht]; exact hBw.1) (hBw.2.weaken (fun _ q _ h => gao_sub hD hS hA q.1 h)) hS1 hl
end GCalls
