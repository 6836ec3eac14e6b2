/-! Rows by class, outcomes, calls with outcomes. -/
abbrev Out : Type := (String ⊕ Option Value) × Mem
def pO (n : Nat) (ρ : Nat → Nat) (J : Nat → Int64) (o : Out) : Option Value → St → Prop := fun v u => u = (n, ρ, J, o.2) ∧ o.1 = .inr v
def xO (n : Nat) (ρ : Nat → Nat) (J : Nat → Int64) (o : Out) : String → St → Prop := fun Ex u => u = (n, ρ, J, o.2) ∧ o.1 = .inl Ex
theorem pO.mk {n : Nat} {ρ : Nat → Nat} {J : Nat → Int64} {o : Out} {v : Option Value} {M : Mem} (h : o = (.inr v, M)) : pO n ρ J o v (n, ρ, J, M) := by subst h; exact ⟨rfl, rfl⟩
theorem xO.mk {n : Nat} {ρ : Nat → Nat} {J : Nat → Int64} {o : Out} {v : String} {M : Mem} (h : o = (.inl v, M)) : xO n ρ J o v (n, ρ, J, M) := by subst h; exact ⟨rfl, rfl⟩
abbrev CtO (l : Launch) (y : MethodName) (cy : ByteArray) (maxL : Nat) (ry : Option FieldType) (h mc ms n : Nat) (ρ : Nat → Nat) (J : Nat → Int64) (M : Mem) (As : List Value) (o : Out) : Prop :=
  Ct l y (Cond.code y cy maxL ry :: GW) h mc ms n ρ J M As (pO n ρ J o) (xO n ρ J o)
abbrev CxO (l : Launch) (h mc ms : Nat) (cc : ByteArray) (own : String) (ret : Option FieldType) (n : Nat) (ρ : Nat → Nat) (J : Nat → Int64) (o : Out) (Ξ : CT) : Prop :=
  Cx l (rmm h mc ms) cc own ret mc ms [] (pO n ρ J o) (xO n ρ J o) Ξ
theorem CtO.of {l : Launch} {y : MethodName} {h mc ms n : Nat} {ρ : Nat → Nat} {J : Nat → Int64} {M : Mem} {As : List Value} {o : Out} {cc : ByteArray} {maxL : Nat} {ret : Option FieldType}
    (hl : l.stackTraces = false) (hy : plainName y.cls = true) (hlen : (lg_sl As).length ≤ maxL)
    (body : ∀ Ξ : CT, Ξ.2.2.2.2.2.2 = maxL → CxO l h mc ms cc y.cls ret n ρ J o Ξ → E Ξ n ρ J M 0 0 0 (lv_args 0 As) []) : CtO l y cc maxL ret h mc ms n ρ J M As o := Ct.of hl hy rfl hlen body
section Spec
variable {l : Launch} {R : Room} {cc : ByteArray} {own : String} {ret : Option FieldType} {mc ms : Nat} {tb : List ExceptionTableEntry} {post : Option Value → St → Prop} {exc : String → St → Prop} {Ξ : CT}
variable {n : Nat} {ρ : Nat → Nat} {J : Nat → Int64} {M : Mem} {a b pc : Nat} {ls ls2 : List (Nat × Value)} {st stk : List Value} {k kk0 idx : Nat} {ref : String} {v : Value} {x : Int32} {ty : FieldType}
theorem e_topi (h : ∀ y : Int32, y = x → E Ξ n ρ J M a b pc ls (.int y :: st)) : E Ξ n ρ J M a b pc ls (.int x :: st) := h x rfl
theorem e_topl {z : Int64} (h : ∀ y : Int64, y = z → E Ξ n ρ J M a b pc ls (.long y :: st)) : E Ξ n ρ J M a b pc ls (.long z :: st) := h z rfl
theorem e_mem {M' : Mem} (h : M = M') (hE : E Ξ n ρ J M' a b pc ls st) : E Ξ n ρ J M a b pc ls st := h ▸ hE
theorem e_get0 (C : Cx l R cc own ret mc ms tb post exc Ξ) (hk0 : kk0 < n) (hk : k < 14) (hsame : ref = (TX0 k).1) (hv : (fs0 ρ kk0 (M (mO kk0)))[k]? = some v) (hw : Cond.fieldLink own idx ref (TX0 k).2.1 (TX0 k).2.2.1 ∈ GW) (d : decode cc pc = .ok (.getfield idx, 3)) (kk : E Ξ n ρ J M a b (pc + 3) ls (v :: st)) : E Ξ n ρ J M a b pc ls (.ref (ρ (mO kk0)) :: st) :=
  e_get C (cnt_O hk0) (fun cA => cell_O cA n ρ J kk0 _) (ci := 1) rfl inlX0 hk hsame hv hw d kk
theorem e_get1 (C : Cx l R cc own ret mc ms tb post exc Ξ) (hk : k < 4) (hsame : ref = (TX1 k).1) (hv : (fs1 (M 3))[k]? = some v) (hw : Cond.fieldLink own idx ref (TX1 k).2.1 (TX1 k).2.2.1 ∈ GW) (d : decode cc pc = .ok (.getfield idx, 3)) (kk : E Ξ n ρ J M a b (pc + 3) ls (v :: st)) : E Ξ n ρ J M a b pc ls (.ref (ρ 3) :: st) :=
  e_get C (cnt_fix (by decide)) (fun _ => rfl) (ci := 2) rfl inlX1 hk hsame hv hw d kk
theorem e_get2 (C : Cx l R cc own ret mc ms tb post exc Ξ) (hk : k < 18) (hsame : ref = (TX2 k).1) (hv : (fs2 ρ (M 0))[k]? = some v) (hw : Cond.fieldLink own idx ref (TX2 k).2.1 (TX2 k).2.2.1 ∈ GW) (d : decode cc pc = .ok (.getfield idx, 3)) (kk : E Ξ n ρ J M a b (pc + 3) ls (v :: st)) : E Ξ n ρ J M a b pc ls (.ref (ρ 0) :: st) :=
  e_get C (cnt_fix (by decide)) (fun _ => rfl) (ci := 3) rfl inlX2 hk hsame hv hw d kk
theorem e_getL (C : Cx l R cc own ret mc ms tb post exc Ξ) (hk : k < 3) (hsame : ref = (TJx4a65c k).1) (hv : (fsL n ρ (M 1))[k]? = some v) (hw : Cond.fieldLink own idx ref (TJx4a65c k).2.1 (TJx4a65c k).2.2.1 ∈ GW) (d : decode cc pc = .ok (.getfield idx, 3)) (kk : E Ξ n ρ J M a b (pc + 3) ls (v :: st)) : E Ξ n ρ J M a b pc ls (.ref (ρ 1) :: st) :=
  e_get C (cnt_fix (by decide)) (fun _ => rfl) (ci := 0) rfl inlJx4a65c hk hsame hv hw d kk
theorem e_put0 (C : Cx l R cc own ret mc ms tb post exc Ξ) (hk0 : kk0 < n) (hk : k < 14) (hsame : ref = (TX0 k).1) (hfin : (TX0 k).2.2.2 = false) (hd : parseFieldDescriptor (TX0 k).2.2.1 = some ty) (hn : narrow ty (.int x) = .int x) (hfit : fits ty (.int x) = true) (hset : (fs0 ρ kk0 (M (mO kk0))).set k (.int x) = fs0 ρ kk0 (upd (M (mO kk0)) k x)) (hw : Cond.fieldLink own idx ref (TX0 k).2.1 (TX0 k).2.2.1 ∈ GW) (d : decode cc pc = .ok (.putfield idx, 3)) (kk : E Ξ n ρ J (up M (mO kk0) k x) a b (pc + 3) ls st) : E Ξ n ρ J M a b pc ls (.int x :: .ref (ρ (mO kk0)) :: st) :=
  e_put C (cnt_O hk0) (fun cA => cell_O cA n ρ J kk0 _) (ci := 1) rfl inlX0 tyX0_ok nmX0 hk hsame hfin hd hn hfit hk (fun cA => by rw [cell_O, hset]) hw d kk
theorem e_put1 (C : Cx l R cc own ret mc ms tb post exc Ξ) (hk : k < 4) (hsame : ref = (TX1 k).1) (hfin : (TX1 k).2.2.2 = false) (hd : parseFieldDescriptor (TX1 k).2.2.1 = some ty) (hn : narrow ty (.int x) = .int x) (hfit : fits ty (.int x) = true) (hset : (fs1 (M 3)).set k (.int x) = fs1 (upd (M 3) k x)) (hw : Cond.fieldLink own idx ref (TX1 k).2.1 (TX1 k).2.2.1 ∈ GW) (d : decode cc pc = .ok (.putfield idx, 3)) (kk : E Ξ n ρ J (up M 3 k x) a b (pc + 3) ls st) : E Ξ n ρ J M a b pc ls (.int x :: .ref (ρ 3) :: st) :=
  e_put C (cnt_fix (by decide)) (fun _ => rfl) (ci := 2) rfl inlX1 tyX1_ok nmX1 hk hsame hfin hd hn hfit hk (fun cA => by rw [hset]; rfl) hw d kk
theorem e_put2 (C : Cx l R cc own ret mc ms tb post exc Ξ) (hk : k < 18) (hsame : ref = (TX2 k).1) (hfin : (TX2 k).2.2.2 = false) (hd : parseFieldDescriptor (TX2 k).2.2.1 = some ty) (hn : narrow ty (.int x) = .int x) (hfit : fits ty (.int x) = true) (hset : (fs2 ρ (M 0)).set k (.int x) = fs2 ρ (upd (M 0) k x)) (hw : Cond.fieldLink own idx ref (TX2 k).2.1 (TX2 k).2.2.1 ∈ GW) (d : decode cc pc = .ok (.putfield idx, 3)) (kk : E Ξ n ρ J (up M 0 k x) a b (pc + 3) ls st) : E Ξ n ρ J M a b pc ls (.int x :: .ref (ρ 0) :: st) :=
  e_put C (cnt_fix (by decide)) (fun _ => rfl) (ci := 3) rfl inlX2 tyX2_ok nmX2 hk hsame hfin hd hn hfit hk (fun cA => by rw [hset]; rfl) hw d kk
/-- a boolean is 0 or 1 -/
def isB (x : Int32) : Prop := x = 0 ∨ x = 1
theorem isB.nar {x : Int32} (h : isB x) : narrow .boolean (.int x) = .int x := by rcases h with rfl | rfl <;> rfl
theorem isB.nr {x : Int32} (h : isB x) : vp_nar .boolean x = x := by rcases h with rfl | rfl <;> rfl
end Spec
section SpecC
variable {l : Launch} {hh mc ms n : Nat} {cc : ByteArray} {own : String} {ret : Option FieldType} {o : Out} {Ξ : CT}
variable {ρ : Nat → Nat} {J : Nat → Int64} {M M' : Mem} {a b pc : Nat} {ls : List (Nat × Value)} {st stk : List Value}
variable {y : MethodName} {cy : ByteArray} {maxL : Nat} {ry : Option FieldType} {h mc' ms' idx nA i ci : Nat} {Cn : String} {qc : vw_C} {fs As : List Value} {o' : Out} {v : Option Value} {r : Int32} {Ex : String}
/-- a static call that returns -/
theorem e_cS (C : CxO l hh mc ms cc own ret n ρ J o Ξ) (hc : CtO l y cy maxL ry h mc' ms' n ρ J M As o') (ho : o' = (.inr v, M')) (hcode : Cond.code y cy maxL ry ∈ GW) (hlink : Cond.methodLink own idx y ∈ GW) (hstat : Cond.static y ∈ GW) (hinit : Cond.initialized y.cls ∈ GW)
    (hd : y.cls ≠ "java/lang/invoke/MethodHandle" ∧ y.cls ≠ "java/lang/invoke/VarHandle" ∧ (parseMethodDescriptor y.desc).map (fun d => d.parameters.length) = some nA)
    (hR : h + 1 ≤ hh ∧ 8 + (maxL + 11) + (30 * h + 60) ≤ 30 * hh + 60) (hAs : As.length = nA) (hstk : stk = As.reverse ++ st) (hcat : (st.map fun v => v.category).sum ≤ 8)
    (d : decode cc pc = .ok (.invokestatic idx, 3)) (hca : a + mc' ≤ mc) (hcb : b + ms' ≤ ms) (kk : E Ξ n ρ J M' (a + mc') (b + ms') (pc + 3) ls (v.toList ++ st)) : E Ξ n ρ J M a b pc ls stk := by
  subst ho
  refine e_callS C hc hcode hlink hstat hinit hd hR hAs hstk hcat d ⟨hca, hcb⟩ hca hcb (fun Ex u hx => ?_) (fun v2 u hp => ?_)
  · exact absurd hx.2 (fun z => by cases z)
  · obtain ⟨rfl, h2⟩ := hp
    cases h2
    exact kk
/-- .. that throws -/
theorem e_cSx (C : CxO l hh mc ms cc own ret n ρ J o Ξ) (hc : CtO l y cy maxL ry h mc' ms' n ρ J M As o') (ho : o' = (.inl Ex, M')) (hcode : Cond.code y cy maxL ry ∈ GW) (hlink : Cond.methodLink own idx y ∈ GW) (hstat : Cond.static y ∈ GW) (hinit : Cond.initialized y.cls ∈ GW)
    (hd : y.cls ≠ "java/lang/invoke/MethodHandle" ∧ y.cls ≠ "java/lang/invoke/VarHandle" ∧ (parseMethodDescriptor y.desc).map (fun d => d.parameters.length) = some nA)
    (hR : h + 1 ≤ hh ∧ 8 + (maxL + 11) + (30 * h + 60) ≤ 30 * hh + 60) (hAs : As.length = nA) (hstk : stk = As.reverse ++ st) (hcat : (st.map fun v => v.category).sum ≤ 8)
    (d : decode cc pc = .ok (.invokestatic idx, 3)) (hca : a + mc' ≤ mc) (hcb : b + ms' ≤ ms) (kx : o = (.inl Ex, M')) : E Ξ n ρ J M a b pc ls stk := by
  subst ho
  refine e_callS C hc hcode hlink hstat hinit hd hR hAs hstk hcat d ⟨hca, hcb⟩ hca hcb (fun Ex2 u hx => ?_) (fun v2 u hp => ?_)
  · obtain ⟨rfl, h2⟩ := hx
    cases h2
    exact xO.mk kx
  · exact absurd hp.2 (fun z => by cases z)
theorem e_cV (C : CxO l hh mc ms cc own ret n ρ J o Ξ) (hc : CtO l y cy maxL ry h mc' ms' n ρ J M (.ref (ρ i) :: As) o') (ho : o' = (.inr v, M')) (hi : Ok n i) (hcell : ∀ cA, cellOf cA n ρ J i (M i) = .inr (ci, fs)) (hcl : vwCl[ci]? = some qc) (hqc : qc.1 = Cn) (hcode : Cond.code y cy maxL ry ∈ GW) (hlink : Cond.methodLink own idx y ∈ GW) (hinst : Cond.instanceMethod y ∈ GW) (hsel : Cond.selects Cn y y ∈ GW) (hinit : Cond.initialized y.cls ∈ GW)
    (hd : y.cls ≠ "java/lang/invoke/MethodHandle" ∧ y.cls ≠ "java/lang/invoke/VarHandle" ∧ (parseMethodDescriptor y.desc).map (fun d => d.parameters.length) = some nA)
    (hR : h + 1 ≤ hh ∧ 8 + (maxL + 11) + (30 * h + 60) ≤ 30 * hh + 60) (hAs : As.length = nA) (hstk : stk = As.reverse ++ .ref (ρ i) :: st) (hcat : (st.map fun v => v.category).sum ≤ 8)
    (d : decode cc pc = .ok (.invokevirtual idx, 3)) (hca : a + mc' ≤ mc) (hcb : b + ms' ≤ ms) (kk : E Ξ n ρ J M' (a + mc') (b + ms') (pc + 3) ls (v.toList ++ st)) : E Ξ n ρ J M a b pc ls stk := by
  subst ho
  refine e_callV C hc hi hcell hcl hqc hcode hlink hinst hsel hinit hd hR hAs hstk hcat d ⟨hca, hcb⟩ hca hcb (fun Ex u hx => ?_) (fun v2 u hp => ?_)
  · exact absurd hx.2 (fun z => by cases z)
  · obtain ⟨rfl, h2⟩ := hp
    cases h2
    exact kk
theorem e_cVx (C : CxO l hh mc ms cc own ret n ρ J o Ξ) (hc : CtO l y cy maxL ry h mc' ms' n ρ J M (.ref (ρ i) :: As) o') (ho : o' = (.inl Ex, M')) (hi : Ok n i) (hcell : ∀ cA, cellOf cA n ρ J i (M i) = .inr (ci, fs)) (hcl : vwCl[ci]? = some qc) (hqc : qc.1 = Cn) (hcode : Cond.code y cy maxL ry ∈ GW) (hlink : Cond.methodLink own idx y ∈ GW) (hinst : Cond.instanceMethod y ∈ GW) (hsel : Cond.selects Cn y y ∈ GW) (hinit : Cond.initialized y.cls ∈ GW)
    (hd : y.cls ≠ "java/lang/invoke/MethodHandle" ∧ y.cls ≠ "java/lang/invoke/VarHandle" ∧ (parseMethodDescriptor y.desc).map (fun d => d.parameters.length) = some nA)
    (hR : h + 1 ≤ hh ∧ 8 + (maxL + 11) + (30 * h + 60) ≤ 30 * hh + 60) (hAs : As.length = nA) (hstk : stk = As.reverse ++ .ref (ρ i) :: st) (hcat : (st.map fun v => v.category).sum ≤ 8)
    (d : decode cc pc = .ok (.invokevirtual idx, 3)) (hca : a + mc' ≤ mc) (hcb : b + ms' ≤ ms) (kx : o = (.inl Ex, M')) : E Ξ n ρ J M a b pc ls stk := by
  subst ho
  refine e_callV C hc hi hcell hcl hqc hcode hlink hinst hsel hinit hd hR hAs hstk hcat d ⟨hca, hcb⟩ hca hcb (fun Ex2 u hx => ?_) (fun v2 u hp => ?_)
  · obtain ⟨rfl, h2⟩ := hx
    cases h2
    exact xO.mk kx
  · exact absurd hp.2 (fun z => by cases z)
end SpecC
