/-! The script that is carried; rows of the law's own loop. -/
def EXl (e bs L : Nat) (xs : Nat → Int32) : EXT := fun A s H => EXe e A s H ∧ va_X bs L xs s H ∧ bs < H.size ∧ ¬ A bs
theorem EXl.e {e bs L : Nat} {xs : Nat → Int32} : ∀ (A : Nat → Prop) (s : State) (H : Heap), EXl e bs L xs A s H → EXe e A s H := fun _ _ _ h => h.1
theorem EXl.gp {e bs L : Nat} {xs : Nat → Int32} : ∀ (A : Nat → Prop) (s : State) (H : Heap), EXl e bs L xs A s H → GP A s H := fun _ _ _ h => h.1.1
theorem EXl.carr {e bs L : Nat} {xs : Nat → Int32} : Carr (EXl e bs L xs) := by
  rintro A A' s U H0 H hW ⟨h1, h2, h3, h4⟩ hq hA
  have h5 := (h2.kept (hq bs h3 h4)).moved hW.alike
  refine ⟨EXe.carr A A' s U H0 H hW h1 hq hA, h5, ?_, fun q => h4 (hA bs q)⟩
  obtain ⟨scr, e1, -⟩ := h5
  exact (Array.getElem?_eq_some_iff.mp e1).1
section GL
variable {EX : EXT} {l : Launch} {R : Room} {cc : ByteArray} {own mn : String} {tb : List ExceptionTableEntry} {Ξ : CT}
variable {w : Wd} {a b pc e bs L n : Nat} {xs : Nat → Int32} {ls ls2 : List (Nat × Value)} {st stk : List Value} {ρ : Nat → Nat} {J : Nat → Int64} {M : Mem}
theorem g_sub (ks : List Nat) (h : lv_pick ls ks = ls2) (kk : G Ξ w a b pc ls2 st) : G Ξ w a b pc ls st := fun H locs lsA hP hD hS hl => kk H locs lsA hP hD hS (lv_sub hl ks h)
theorem g_sld {x : Int32} (j : Nat) (C : CB (EXl e bs L xs) l R cc own mn tb Ξ) (hx9 : x = nI j) (hj : j < L) (hL : L < 2 ^ 31) (d : decode cc pc = .ok (.iaload, 1)) (kk : G Ξ w a b (pc + 1) ls (.int (xs j) :: st)) : G Ξ w a b pc ls (.int x :: .ref bs :: st) := by
  obtain ⟨p, e9, s, m, args, below, meth, c, D, cA, A, nL, Z, rfl, hx, hb, hml, hown, hmn, hts, hK, hG, hE, htb, hA, hst⟩ := C
  intro H locs lsA hP hD hS hl
  subst hx9
  refine va_sld hx hb hE.2.1 hE.2.2.1 hE.2.2.2 hS (vp_in_nI hj hL) d ?_
  rw [nI_clamp (by omega)]
  exact kk H locs lsA hP hD hS hl
theorem g_slen (C : CB (EXl e bs L xs) l R cc own mn tb Ξ) (d : decode cc pc = .ok (.arraylength, 1)) (kk : G Ξ w a b (pc + 1) ls (.int (nI L) :: st)) : G Ξ w a b pc ls (.ref bs :: st) := by
  obtain ⟨p, e9, s, m, args, below, meth, c, D, cA, A, nL, Z, rfl, hx, hb, hml, hown, hmn, hts, hK, hG, hE, htb, hA, hst⟩ := C
  intro H locs lsA hP hD hS hl
  exact va_slen hx hb hE.2.1 hE.2.2.1 hE.2.2.2 hS d (kk H locs lsA hP hD hS hl)
theorem g_ixor {x y : Int32} (C : CB EX l R cc own mn tb Ξ) (d : decode cc pc = .ok (.ixor, 1)) (kk : G Ξ w a b (pc + 1) ls (.int (x ^^^ y) :: st)) : G Ξ w a b pc ls (.int y :: .int x :: st) := by
  obtain ⟨p, e, s, m, args, below, meth, c, D, cA, A, nL, Z, rfl, hx, hb, hml, hown, hmn, hts, hK, hG, hE, htb, hA, hst⟩ := C
  intro H locs lsA hP hD hS hl
  exact lv_ixor hx hb d (kk H locs lsA hP hD hS hl)
theorem g_iaddN (p q r : Nat) {x y : Int32} (C : CB EX l R cc own mn tb Ξ) (hx : x = nI p) (hy : y = nI q) (hr : p + q = r) (d : decode cc pc = .ok (.iadd, 1)) (kk : G Ξ w a b (pc + 1) ls (.int (nI r) :: st)) : G Ξ w a b pc ls (.int y :: .int x :: st) := by
  subst hx hy hr
  exact g_iadd C d (by rw [nI_add]; exact kk)
theorem g_imulN (p q r : Nat) {x y : Int32} (C : CB EX l R cc own mn tb Ξ) (hx : x = nI p) (hy : y = nI q) (hr : p * q = r) (d : decode cc pc = .ok (.imul, 1)) (kk : G Ξ w a b (pc + 1) ls (.int (nI r) :: st)) : G Ξ w a b pc ls (.int y :: .int x :: st) := by
  subst hx hy hr
  exact g_imul C d (by rw [pk_mul]; exact kk)
theorem g_idivN (p q r : Nat) {x y : Int32} (C : CB EX l R cc own mn tb Ξ) (hx : x = nI p) (hy : y = nI q) (hp : p < 2 ^ 31) (h0 : 0 < q) (hq : q < 2 ^ 31) (hr : p / q = r) (d : decode cc pc = .ok (.idiv, 1)) (kk : G Ξ w a b (pc + 1) ls (.int (nI r) :: st)) : G Ξ w a b pc ls (.int y :: .int x :: st) := by
  subst hx hy hr
  exact g_idiv C d (nI_ne0 h0 hq) (by rw [pk_div hp h0 hq]; exact kk)
theorem g_iremN (p q r : Nat) {x y : Int32} (C : CB EX l R cc own mn tb Ξ) (hx : x = nI p) (hy : y = nI q) (hp : p < 2 ^ 31) (h0 : 0 < q) (hq : q < 2 ^ 31) (hr : p % q = r) (d : decode cc pc = .ok (.irem, 1)) (kk : G Ξ w a b (pc + 1) ls (.int (nI r) :: st)) : G Ξ w a b pc ls (.int y :: .int x :: st) := by
  subst hx hy hr
  exact g_irem C d (nI_ne0 h0 hq) (by rw [pk_rem hp h0 hq]; exact kk)
theorem g_iastW (j : Nat) {i N : Nat} {x v : Int32} (C : CB EX l R cc own mn tb Ξ) (hi : Ok n i) (hcell : ∀ (cA : Nat → ClassId) (f : Nat → Int32), cellOf cA n ρ J i f = .inl (cA 0, N, .inl f)) (hx : x = nI j) (hj : j < N) (hN : N < 2 ^ 31) (d : decode cc pc = .ok (.iastore, 1)) (kk : G Ξ (wsd n ρ J (up M i j v)) a b (pc + 1) ls st) : G Ξ (wsd n ρ J M) a b pc ls (.int v :: .int x :: .ref (ρ i) :: st) := by
  obtain ⟨h1, h2⟩ := in_of hx hj hN
  refine g_iast (f := M i) (N := N) (pos i) C (fun cA => (ws_at hi).trans (congrArg (fun z => some (ρ i, z)) (hcell cA (M i)))) h1 d ?_
  refine g_w (w' := wsd n ρ J (up M i j v)) (funext fun cA => ?_) kk
  rw [h2]
  show (ws cA n ρ J M).set (pos i) (ρ i, .inl (cA 0, N, .inl (upd (M i) j v))) = ws cA n ρ J (up M i j v)
  rw [← hcell cA, ws_set hi]
  rfl
/-- a law's method called -/
theorem g_lawS {y : MethodName} {cy : ByteArray} {maxL idx nA mc' ms' : Nat} {As : List Value} {K : Mem} (C : CB (EXl e bs L xs) l R cc own mn tb Ξ) (hc : CtO l y cy maxL (some .boolean) 10 mc' ms' n ρ J M As (rI 1 K)) (hcode : Cond.code y cy maxL (some .boolean) ∈ GW) (hlink : Cond.methodLink own idx y ∈ GW) (hstat : Cond.static y ∈ GW) (hinit : Cond.initialized y.cls ∈ GW)
    (hd : y.cls ≠ "java/lang/invoke/MethodHandle" ∧ y.cls ≠ "java/lang/invoke/VarHandle" ∧ (parseMethodDescriptor y.desc).map (fun d => d.parameters.length) = some nA)
    (hR : 10 + 1 ≤ R.frames ∧ 8 + (maxL + 11) + (30 * 10 + 60) ≤ R.locals) (hAs : As.length = nA) (hstk : stk = As.reverse ++ st) (hcat : (st.map fun v => v.category).sum ≤ 8)
    (d : decode cc pc = .ok (.invokestatic idx, 3)) (hrc : a + mc' ≤ R.cells ∧ b + ms' ≤ R.slots) (kk : G Ξ (wsd n ρ J K) (a + mc') (b + ms') (pc + 3) ls (.int 1 :: st)) : G Ξ (wsd n ρ J M) a b pc ls stk := by
  refine g_callS C (CtO.g hc) EXl.gp carrGP hcode hlink hstat hinit hd hR hAs hstk hcat d hrc (fun _ _ h => absurd h.1 (fun z => by cases z)) (fun v u hvu => ?_)
  obtain ⟨hv, rfl⟩ := hvu
  cases hv
  exact kk
end GL
set_option maxRecDepth 100000 in
/-- a number out of the script -/
theorem c_from {l : Launch} (hl : l.stackTraces = false) {e bs L : Nat} {xs : Nat → Int32} (hL : L < 2 ^ 31) {w : Wd} {k below : Nat} (hk : k < 2 ^ 31) (hb : 0 < below) (hb2 : below < 2 ^ 31) : CG (EXl e bs L xs) l yL_from (Cond.code yL_from cL_from 4 (some .int) :: GW) 0 0 0 w [.ref bs, .int (nI k), .int (nI below)] (fun v w2 => ∃ q : Nat, q < below ∧ v = some (.int (nI q)) ∧ w2 = w) (fun _ _ => False) := by
  refine CG.of EXl.gp hl (by decide +kernel) (Nat.le_of_ble_eq_true rfl) (fun Ξ hnL C => ?_)
  show G Ξ w 0 0 0 [(0, .ref bs), (1, .int (nI k)), (2, .int (nI below))] []
  have B := C.b
  have tail : ∀ x : Int32, G Ξ w 0 0 27 [(0, .ref bs), (1, .int (nI k)), (2, .int (nI below))] [.int x] := fun x => by
    refine g_istore_n (ls2 := [(3, .int x), (0, .ref bs), (1, .int (nI k)), (2, .int (nI below))]) B hnL dL_from_27 rfl (by decide) rfl ?_
    refine g_iload_n (j := 0) B dL_from_28 rfl rfl ?_
    refine g_ldc (v := 2147483647) B dL_from_29 mw_135 ?_
    refine g_iand B dL_from_31 ?_
    obtain ⟨j, hj, ej⟩ := pk_andE x (m := 2147483647) 31 (by decide)
    rw [ej]
    refine g_iload_n (j := 3) B dL_from_32 rfl rfl ?_
    refine g_iremN j below (j % below) B rfl rfl hj hb hb2 rfl dL_from_33 ?_
    exact g_iret C rfl (Nat.le_of_ble_eq_true rfl) (Nat.le_of_ble_eq_true rfl) dL_from_34 ⟨j % below, Nat.mod_lt _ hb, rfl, rfl⟩
  refine g_aload_n (j := 0) B dL_from_0 rfl rfl ?_
  refine g_slen B dL_from_1 ?_
  by_cases h0 : L = 0
  · subst h0
    refine g_if_ne (tgt := 16) B dL_from_2 (by decide) (fun h => absurd rfl h) (fun _ => ?_)
    refine g_sipush (v := 887) B dL_from_5 (by decide) ?_
    refine g_iload_n (j := 1) B dL_from_8 rfl rfl ?_
    refine g_imul B dL_from_9 ?_
    refine g_bipush (v := 61) B dL_from_10 (by decide) ?_
    refine g_iadd B dL_from_12 ?_
    refine g_goto (tgt := 27) B dL_from_13 (by decide) ?_
    exact tail _
  · refine g_if_ne (tgt := 16) B dL_from_2 (by decide) (fun _ => ?_) (fun h => absurd h (nI_ne0 (by omega) hL))
    refine g_aload_n (j := 0) B dL_from_16 rfl rfl ?_
    refine g_iload_n (j := 1) B dL_from_17 rfl rfl ?_
    refine g_aload_n (j := 0) B dL_from_18 rfl rfl ?_
    refine g_slen B dL_from_19 ?_
    refine g_iremN k L (k % L) B rfl rfl hk (by omega) hL rfl dL_from_20 ?_
    refine g_sld (k % L) B rfl (Nat.mod_lt _ (by omega)) hL dL_from_21 ?_
    refine g_ldc (v := 701408) B dL_from_22 mw_134 ?_
    refine g_iload_n (j := 1) B dL_from_24 rfl rfl ?_
    refine g_imul B dL_from_25 ?_
    refine g_ixor B dL_from_26 ?_
    exact tail _
