/-! Calls and throws in the judgement E. -/
theorem ng_IS : ∀ w ∈ (vx_atS RX2 61 "java/lang/IllegalStateException" ["java/lang/RuntimeException", "java/lang/Exception"]).filter (fun w => !goodWord w), w ∈ NGw := by decide +kernel
theorem ng_IA : ∀ w ∈ (vx_atS RX2 79 "java/lang/IllegalArgumentException" ["java/lang/RuntimeException", "java/lang/Exception"]).filter (fun w => !goodWord w), w ∈ NGw := by decide +kernel
theorem ng_IX : ∀ w ∈ (vx_atS RX2 242 "java/lang/IndexOutOfBoundsException" ["java/lang/RuntimeException", "java/lang/Exception"]).filter (fun w => !goodWord w), w ∈ NGw := by decide +kernel
theorem og_IS : (vx_atS RX2 61 "java/lang/IllegalStateException" ["java/lang/RuntimeException", "java/lang/Exception"]).all vx_ot = true := by decide +kernel
theorem og_IA : (vx_atS RX2 79 "java/lang/IllegalArgumentException" ["java/lang/RuntimeException", "java/lang/Exception"]).all vx_ot = true := by decide +kernel
theorem og_IX : (vx_atS RX2 242 "java/lang/IndexOutOfBoundsException" ["java/lang/RuntimeException", "java/lang/Exception"]).all vx_ot = true := by decide +kernel
theorem gd_IS : ∀ w ∈ (vx_atS RX2 61 "java/lang/IllegalStateException" ["java/lang/RuntimeException", "java/lang/Exception"]).filter goodWord, w ∈ GW := fun _ h => List.mem_append_left _ (List.mem_append_left _ (List.mem_append_right _ h))
theorem gd_IA : ∀ w ∈ (vx_atS RX2 79 "java/lang/IllegalArgumentException" ["java/lang/RuntimeException", "java/lang/Exception"]).filter goodWord, w ∈ GW := fun _ h => List.mem_append_right _ h
theorem gd_IX : ∀ w ∈ (vx_atS RX2 242 "java/lang/IndexOutOfBoundsException" ["java/lang/RuntimeException", "java/lang/Exception"]).filter goodWord, w ∈ GW := fun _ h => List.mem_append_left _ (List.mem_append_right _ h)
/-- what one of the three exceptions needs -/
def Thr (ic : Nat) (cls : String) : Prop := (∀ w ∈ (vx_atS RX2 ic cls ["java/lang/RuntimeException", "java/lang/Exception"]).filter goodWord, w ∈ GW) ∧ (∀ w ∈ (vx_atS RX2 ic cls ["java/lang/RuntimeException", "java/lang/Exception"]).filter (fun w => !goodWord w), w ∈ NGw) ∧ (∀ w ∈ vx_atS RX2 ic cls ["java/lang/RuntimeException", "java/lang/Exception"], vx_ot w = true) ∧ Bundle.fit cls = true
theorem th_IS : Thr 61 "java/lang/IllegalStateException" := ⟨gd_IS, ng_IS, fun w h => List.all_eq_true.mp og_IS w h, by decide +kernel⟩
theorem th_IA : Thr 79 "java/lang/IllegalArgumentException" := ⟨gd_IA, ng_IA, fun w h => List.all_eq_true.mp og_IA w h, by decide +kernel⟩
theorem th_IX : Thr 242 "java/lang/IndexOutOfBoundsException" := ⟨gd_IX, ng_IX, fun w h => List.all_eq_true.mp og_IX w h, by decide +kernel⟩
theorem Bw.grown {D : va_G} {cA : Nat → ClassId} {A : Nat → Prop} {n : Nat} {ρ : Nat → Nat} {J : Nat → Int64} {M : Mem} {H : Heap} {t : State} (hP : va_P D vwCl (ws cA n ρ J M) H) (hD : va_D A (ws cA n ρ J M)) (h2 : ∀ q : Nat, q < H.size → t.heap[q]? = H[q]?) : Bw D cA A (n, ρ, J, M) t :=
  ⟨va_P.kept hP (fun k q hk => h2 q.1 ((hP k q hk).lt)), hD⟩
section Calls1
variable {l : Launch} {R : Room} {cc : ByteArray} {own : String} {ret : Option FieldType} {mc ms : Nat} {post : Option Value → St → Prop} {exc : String → St → Prop} {Ξ : CT}
variable {n : Nat} {ρ : Nat → Nat} {J : Nat → Int64} {M : Mem} {a b pc : Nat} {ls : List (Nat × Value)} {st : List Value}
theorem e_throw {cls text : String} {ik is ic : Nat} (C : Cx l R cc RX2 ret mc ms [] post exc Ξ) (th : Thr ic cls) (hk : Cond.classLink RX2 ik cls ∈ GW) (hi : Cond.initialized cls ∈ GW) (hstr : (is, text) ∈ strs) (hkg : vx_ot (Cond.classLink RX2 ik cls) = true) (hig : vx_ot (Cond.initialized cls) = true)
    (d0 : decode cc pc = .ok (.new ik, 3)) (d3 : decode cc (pc + 3) = .ok (.dup, 1)) (d4 : decode cc (pc + 4) = .ok (.ldc is, 2)) (d6 : decode cc (pc + 6) = .ok (.invokespecial ic, 3)) (d9 : decode cc (pc + 9) = .ok (.athrow, 1))
    (hf : 5 < R.frames) (hlo : (st.map fun v => v.category).sum + 82 ≤ R.locals) (hrc : a + 1 ≤ R.cells) (hrs : b + 6 ≤ R.slots) (hca : a + 1 ≤ mc) (hcb : b + 6 ≤ ms) (hp : exc cls (n, ρ, J, M)) : E Ξ n ρ J M a b pc ls st := by
  obtain ⟨p, e, s, m, args, below, meth, c, D, cA, A, nL, rfl, hx, hb, hml, hown, hts, hK, hG, hr, hlk, htb, hA, hst⟩ := C
  intro H locs lsA hP hD hS hl
  obtain ⟨sa, hsa⟩ := hG.2.1 _ hstr
  obtain ⟨t1, t2, t3, t4⟩ := th
  refine vx_throwS (names := ["java/lang/RuntimeException", "java/lang/Exception"]) hx hb hst hown t4 (fun q hq => ?_) (hts _ hk) (hts _ hi) hsa
    (vx_hat (B := NGw) (fun w hw => hts _ (t1 w hw)) t2 (fun w hw => ?_)) (fun w hw => ?_) hG.2.2.1 hG.2.2.2 hS (hl.1.trans hml.symm) d0 d3 d4 d6 d9 (fun x hxx => by rw [htb] at hxx; cases hxx) hf hlo hrc hrs hlk (fun t hal hsz hkp => ?_) hS.2.2 hca hcb
  · simp only [List.mem_cons, List.not_mem_nil, or_false] at hq
    rcases hq with rfl | rfl <;> decide +kernel
  · have h0 := hG.1 w hw
    simp only [NGw, List.mem_cons, List.not_mem_nil, or_false] at hw
    rcases hw with rfl | rfl | rfl | rfl | rfl | rfl <;> exact va_Nw.use rfl h0
  · rcases List.mem_cons.mp hw with rfl | hw
    · exact hkg
    · rcases List.mem_cons.mp hw with rfl | hw
      · exact hig
      · exact t3 w hw
  · exact ⟨⟨(n, ρ, J, M), hp, Bw.grown hP hD hkp⟩, Nat.le_trans hS.1 hsz, fun q h1 h2 => (hkp q (Nat.lt_of_lt_of_le h1 hS.1)).trans (hS.2.1 q h1 h2)⟩
end Calls1
section Calls2
variable {p : Program} {l : Launch} {e : Env} {R : Room} {s : State} {m : MethodId} {args : Array Value} {below : List Frame} {meth : Method} {c : Code} {H : Heap} {locs : List Loc} {cells slots : Nat} {Q : State → Prop}
variable {mc ms : Nat} {A0 A1 : Nat → Prop} {H0 : Heap} {aa : Array Value} {pc : Nat} {ls : Array Slot} {st0 rest : List Value} {D : va_G} {cA : Nat → ClassId} {post : Option Value → St → Prop} {exc : String → St → Prop}
theorem vx_callE (hr : vx_Run p l e R s m args below meth c H locs cells slots mc ms (F0 m pc ls st0) rest (Qx D cA A1 post aa) (Xx D cA A1 exc) A1) (hS : va_S A0 H0 H locs) (hA : ∀ q, A1 q → A0 q)
    (kx : ∀ (Ex : String) (ce : Cell) (q9 : Addr) (u : St) (t : State) (H1 : Heap) (locs1 : List Loc), t.heap = H1 → exc Ex u → Bw D cA A1 u t → va_S A0 H0 H1 locs1 → H1[q9]? = some ce → ce.vm = .none → s.vm.findClass Ex = some ce.cls → vx_W p l e R s m args below meth c H1 locs1 (cells + mc) (slots + ms) Q (F0 m pc ls rest) q9)
    (kk : ∀ (v : Option Value) (u : St) (t : State) (H1 : Heap) (locs1 : List Loc), t.heap = H1 → post v u → Bw D cA A1 u t → va_S A0 H0 H1 locs1 → W p l e R s m args below meth c H1 locs1 (cells + mc) (slots + ms) Q (F0 m (pc + 3) ls (v.toList ++ rest))) : W p l e R s m args below meth c H locs cells slots Q (F0 m pc ls st0) := by
  intro T hT X
  rcases hr T hT X with ⟨v, st₀, t, T', L, h0, X', hL, e1, e2, ⟨⟨v2, u, hv, hp, hb⟩, hF⟩, st⟩ | ⟨q, st₀, t, T', L, Ex, ce, h0, X', hL, e1, e2, ⟨⟨u, hp, hb⟩, hF⟩, hce, hcv, hcl, st⟩
  · cases hv
    obtain ⟨k1, k2, k3⟩ := vx_keep h0 e1 hS (fun q _ h => hA q h) hA hL hF
    obtain ⟨t2, a1, b1⟩ := kk v u t T'.heap (locs ++ L) e1.symm hp hb k3 T' rfl X'
    exact ⟨t2, st t2 a1, b1⟩
  · obtain ⟨k1, k2, k3⟩ := vx_keep h0 e1 hS (fun q _ h => hA q h) hA hL hF
    obtain ⟨t2, a1, b1⟩ := kx Ex ce q u t T'.heap (locs ++ L) e1.symm hp hb k3 (by rw [e1]; exact hce) hcv hcl T' rfl X'
    exact ⟨t2, st.trans a1, b1⟩
end Calls2
section Calls3
variable {l : Launch} {R : Room} {cc : ByteArray} {own : String} {ret : Option FieldType} {mc ms : Nat} {post : Option Value → St → Prop} {exc : String → St → Prop} {Ξ : CT}
variable {n : Nat} {ρ : Nat → Nat} {J : Nat → Int64} {M : Mem} {a b pc : Nat} {ls : List (Nat × Value)} {st stk : List Value}
theorem ao_sub {cA : Nat → ClassId} {A : Nat → Prop} {H0 H : Heap} {locs : List Loc} (hD : va_D A (ws cA n ρ J M)) (hS : va_S A H0 H locs) (hA : ∀ q, H0.size ≤ q → A q) : ∀ q, Ao cA n ρ J M H.size q → A q := by
  intro q h
  rcases h with ⟨k, e, h⟩ | h
  · exact hD.2 k _ h
  · exact hA q (Nat.le_trans hS.1 h)
theorem pre_blind {D : va_G} {cA : Nat → ClassId} {sz : Nat} {As : List Value} : FrameBlind (va_Pc As (fun U => U.heap.size = sz ∧ va_P D vwCl (ws cA n ρ J M) U.heap ∧ va_D (fun _ => True) (ws cA n ρ J M) ∧ KK D cA U ∧ GP (Ao cA n ρ J M sz) U U.heap)) := by
  rintro aa U g mk ⟨h1, h2, h3, h4, h5, h6⟩
  exact ⟨h1, h2, h3, h4, h5.blind, h6.blind⟩
theorem pre_at {D : va_G} {cA : Nat → ClassId} {A : Nat → Prop} {As : List Value} {s : State} {H : Heap} {locs : List Loc} (hP : va_P D vwCl (ws cA n ρ J M) H) (hD : va_D A (ws cA n ρ J M)) (hS : va_S A s.heap H locs) (hA : ∀ q, s.heap.size ≤ q → A q) (hK : KK D cA s) (hG : GP A s s.heap) :
    ∀ U : State, U.heap = H → s.WarmedH U.vm → va_Pc As (fun U => U.heap.size = H.size ∧ va_P D vwCl (ws cA n ρ J M) U.heap ∧ va_D (fun _ => True) (ws cA n ρ J M) ∧ KK D cA U ∧ GP (Ao cA n ρ J M H.size) U U.heap) As.toArray U := by
  intro U hU hW
  refine ⟨rfl, by rw [hU], by rw [hU]; exact hP, hD.weaken (fun _ _ _ _ => trivial), va_K.moved hW.alike hK, ?_⟩
  rw [hU]
  exact hG.warm hW hS.2.1 (ao_sub hD hS hA)
theorem e_callS {y : MethodName} {cy : ByteArray} {maxL : Nat} {ry : Option FieldType} {h mc' ms' idx nA : Nat} {As : List Value} {post' : Option Value → St → Prop} {exc' : String → St → Prop} (C : Cx l R cc own ret mc ms [] post exc Ξ)
    (hc : Ct l y (Cond.code y cy maxL ry :: GW) h mc' ms' n ρ J M As post' exc') (hcode : Cond.code y cy maxL ry ∈ GW) (hlink : Cond.methodLink own idx y ∈ GW) (hstat : Cond.static y ∈ GW) (hinit : Cond.initialized y.cls ∈ GW)
    (hd : y.cls ≠ "java/lang/invoke/MethodHandle" ∧ y.cls ≠ "java/lang/invoke/VarHandle" ∧ (parseMethodDescriptor y.desc).map (fun d => d.parameters.length) = some nA)
    (hR : h + 1 ≤ R.frames ∧ 8 + (maxL + 11) + (30 * h + 60) ≤ R.locals) (hAs : As.length = nA) (hstk : stk = As.reverse ++ st) (hcat : (st.map fun v => v.category).sum ≤ 8)
    (d : decode cc pc = .ok (.invokestatic idx, 3)) (hrc : a + mc' ≤ R.cells ∧ b + ms' ≤ R.slots) (hca : a + mc' ≤ mc) (hcb : b + ms' ≤ ms)
    (kx : ∀ (Ex : String) (u : St), exc' Ex u → exc Ex u) (kk : ∀ (v : Option Value) (u : St), post' v u → E Ξ u.1 u.2.1 u.2.2.1 u.2.2.2 (a + mc') (b + ms') (pc + 3) ls (v.toList ++ st)) : E Ξ n ρ J M a b pc ls stk := by
  obtain ⟨p, e, s, m, args, below, meth, c, D, cA, A, nL, rfl, hx, hb, hml, hown, hts, hK, hG, hr, hlk, htb, hA, hst⟩ := C
  intro H locs lsA hP hD hS hl
  subst hstk
  have cw : CallB R s args own idx y cy maxL ry (Cond.code y cy maxL ry :: GW) (rmm h mc' ms') mc' ms' nA := callB_of nA hts (gw_good hcode) rfl rfl rfl (hts _ hinit) (hts _ hlink) hd hR
  refine vx_callE (vx_runS (As := As) (rest := st) ⟨hx, hb, hml, hown, hts⟩ (hc D cA H.size) ⟨cw, hts _ hstat⟩ ⟨pre_blind, pre_at hP hD hS hA hK hG⟩ rfl hAs hl.1 rfl (lv_room hcat) d hrc) hS (ao_sub hD hS hA) ?_ ?_
  · intro Ex ce q9 u t H1 locs1 ht he hBw hS1 h1 h2 h3
    exact vx_out (fun x hxx => by rw [htb] at hxx; cases hxx) hlk h1 h2 h3 (fun t2 ht2 _ => ⟨⟨u, kx Ex u he, by rw [ht2, ← ht]; exact hBw.1, hBw.2.weaken (fun _ q _ h => ao_sub hD hS hA q.1 h)⟩, hS1.F ht2⟩) hS1.2.2 hca hcb
  · intro v u t H1 locs1 ht hp hBw hS1
    exact kk v u hp H1 locs1 lsA (by rw [← ht]; exact hBw.1) (hBw.2.weaken (fun _ q _ h => ao_sub hD hS hA q.1 h)) hS1 hl
theorem e_callV {y : MethodName} {cy : ByteArray} {maxL : Nat} {ry : Option FieldType} {h mc' ms' idx nA i ci : Nat} {Cn : String} {qc : vw_C} {fs : List Value} {As : List Value} {post' : Option Value → St → Prop} {exc' : String → St → Prop} (C : Cx l R cc own ret mc ms [] post exc Ξ)
    (hc : Ct l y (Cond.code y cy maxL ry :: GW) h mc' ms' n ρ J M (.ref (ρ i) :: As) post' exc') (hi : Ok n i) (hcell : ∀ cA, cellOf cA n ρ J i (M i) = .inr (ci, fs)) (hcl : vwCl[ci]? = some qc) (hqc : qc.1 = Cn) (hcode : Cond.code y cy maxL ry ∈ GW) (hlink : Cond.methodLink own idx y ∈ GW) (hinst : Cond.instanceMethod y ∈ GW) (hsel : Cond.selects Cn y y ∈ GW) (hinit : Cond.initialized y.cls ∈ GW)
    (hd : y.cls ≠ "java/lang/invoke/MethodHandle" ∧ y.cls ≠ "java/lang/invoke/VarHandle" ∧ (parseMethodDescriptor y.desc).map (fun d => d.parameters.length) = some nA)
    (hR : h + 1 ≤ R.frames ∧ 8 + (maxL + 11) + (30 * h + 60) ≤ R.locals) (hAs : As.length = nA) (hstk : stk = As.reverse ++ .ref (ρ i) :: st) (hcat : (st.map fun v => v.category).sum ≤ 8)
    (d : decode cc pc = .ok (.invokevirtual idx, 3)) (hrc : a + mc' ≤ R.cells ∧ b + ms' ≤ R.slots) (hca : a + mc' ≤ mc) (hcb : b + ms' ≤ ms)
    (kx : ∀ (Ex : String) (u : St), exc' Ex u → exc Ex u) (kk : ∀ (v : Option Value) (u : St), post' v u → E Ξ u.1 u.2.1 u.2.2.1 u.2.2.2 (a + mc') (b + ms') (pc + 3) ls (v.toList ++ st)) : E Ξ n ρ J M a b pc ls stk := by
  obtain ⟨p, e, s, m, args, below, meth, c, D, cA, A, nL, rfl, hx, hb, hml, hown, hts, hK, hG, hr, hlk, htb, hA, hst⟩ := C
  intro H locs lsA hP hD hS hl
  subst hstk
  subst hqc
  have cw : CallB R s args own idx y cy maxL ry (Cond.code y cy maxL ry :: GW) (rmm h mc' ms') mc' ms' nA := callB_of nA hts (gw_good hcode) rfl rfl rfl (hts _ hinit) (hts _ hlink) hd hR
  have he : (ws cA n ρ J M)[pos i]? = some (ρ i, .inr (ci, fs)) := (ws_at hi).trans (congrArg (fun z => some (ρ i, z)) (hcell cA))
  refine vx_callE (vx_runV (As := As) (rest := st) ⟨hx, hb, hml, hown, hts⟩ (hc D cA H.size) ⟨cw, hts _ hinst, hts _ hsel⟩ ⟨pre_blind, va_recv hK hP hcl he, pre_at hP hD hS hA hK hG⟩ rfl hAs hl.1 rfl (lv_room hcat) d hrc) hS (ao_sub hD hS hA) ?_ ?_
  · intro Ex ce q9 u t H1 locs1 ht hee hBw hS1 h1 h2 h3
    exact vx_out (fun x hxx => by rw [htb] at hxx; cases hxx) hlk h1 h2 h3 (fun t2 ht2 _ => ⟨⟨u, kx Ex u hee, by rw [ht2, ← ht]; exact hBw.1, hBw.2.weaken (fun _ q _ h => ao_sub hD hS hA q.1 h)⟩, hS1.F ht2⟩) hS1.2.2 hca hcb
  · intro v u t H1 locs1 ht hp hBw hS1
    exact kk v u hp H1 locs1 lsA (by rw [← ht]; exact hBw.1) (hBw.2.weaken (fun _ q _ h => ao_sub hD hS hA q.1 h)) hS1 hl
end Calls3
