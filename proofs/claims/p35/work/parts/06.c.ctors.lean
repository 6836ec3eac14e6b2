/-! The constructors. -/
section GE
variable {l : Launch} {R : Room} {cc : ByteArray} {own mn : String} {tb : List ExceptionTableEntry} {Ξ : CT}
variable {w : Wd} {a b pc e : Nat} {ls : List (Nat × Value)} {st : List Value}
theorem g_getsE {idx : Nat} (C : CB (EXe e) l R cc own mn tb Ξ) (hw : Cond.fieldLink own idx RJx4a65c eN eD ∈ GW) (d : decode cc pc = .ok (.getstatic idx, 3)) (kk : G Ξ w a b (pc + 3) ls (.ref e :: st)) : G Ξ w a b pc ls st := by
  obtain ⟨p, e9, s, m, args, below, meth, c, D, cA, A, nL, Z, rfl, hx, hb, hml, hown, hmn, hts, hK, hG, hE, htb, hA, hst⟩ := C
  intro H locs lsA hP hD hS hl
  obtain ⟨h1, h2, h3, h4, h5, h6, h7, h8, h9, h10, cE, h11, h12, h13⟩ := hE
  exact va_gets (C := RJx4a65c) (n := eN) (d := eD) hx hb h9 hS hown (hts _ hw) (fun x h => h) d (kk H locs lsA hP hD hS hl)
theorem g_alenE (C : CB (EXe e) l R cc own mn tb Ξ) (d : decode cc pc = .ok (.arraylength, 1)) (kk : G Ξ w a b (pc + 1) ls (.int 0 :: st)) : G Ξ w a b pc ls (.ref e :: st) := by
  obtain ⟨p, e9, s, m, args, below, meth, c, D, cA, A, nL, Z, rfl, hx, hb, hml, hown, hmn, hts, hK, hG, hE, htb, hA, hst⟩ := C
  intro H locs lsA hP hD hS hl
  obtain ⟨h1, h2, h3, h4, h5, h6, h7, h8, h9, h10, cE, h11, h12, h13⟩ := hE
  exact W.alen (n := 0) (g := F0 m pc lsA (.ref e :: st)) (rest := st) hx hb ((hS.2.1 e (Array.getElem?_eq_some_iff.mp h11).1 h10).trans h11) h12 h13 rfl rfl d (kk H locs lsA hP hD hS hl)
theorem g_anew {idx : Nat} {x : Int32} {N : Nat} (C : CB (EXe e) l R cc own mn tb Ξ) (hw : Cond.classLink own idx "java/lang/Object" ∈ GW) (hn : ¬ x < 0) (hN : x.toNatClampNeg = N) (hbytes : N * 4 ≤ 536870912) (hcells : a + 1 ≤ R.cells) (hslots : b + N ≤ R.slots) (d : decode cc pc = .ok (.anewarray idx, 3)) (kk : ∀ q : Nat, G Ξ (fun cA => w cA ++ [(q, .inl (cA 3, N, .inr (.inr (.inr (.inr (fun _ => none))))))]) (a + 1) (b + N) (pc + 3) ls (.ref q :: st)) : G Ξ w a b pc ls (.int x :: st) := by
  obtain ⟨p, e9, s, m, args, below, meth, c, D, cA, A, nL, Z, rfl, hx, hb, hml, hown, hmn, hts, hK, hG, hE, htb, hA, hst⟩ := C
  intro H locs lsA hP hD hS hl
  obtain ⟨h1, h2, h3, h4, h5, h6, h7, h8, h9, h10, cE, h11, h12, h13⟩ := hE
  refine va_newq hx hb hown (hts _ hw) h8 hK hP hD hS hA hn hN hbytes hcells hslots d (fun q cA2 H1 hK2 hP hD hS => ?_)
  obtain ⟨kA, comp, u1, u2, u3, u4⟩ := (hK2.2 4 (cA2, tO) rfl).2
  obtain ⟨kA', comp', v1, v2, v3, v4⟩ := (hK.2 3 (cA 3, tO) rfl).2
  have h3 : cA2 = cA 3 := Option.some.inj (Eq.trans (Eq.symm u4) v4)
  subst h3
  exact kk q H1 locs lsA hP hD hS hl
theorem g_aast {q N v : Nat} {f : Nat → Option Nat} {x : Int32} {fs : List Value} (i j : Nat) (C : CB (EXe e) l R cc own mn tb Ξ) (he : ∀ cA, (w cA)[i]? = some (q, .inl (cA 3, N, .inr (.inr (.inr (.inr f)))))) (hv : ∀ cA, (w cA)[j]? = some (v, .inr (1, fs))) (hin : vp_in x N) (d : decode cc pc = .ok (.aastore, 1))
    (kk : G Ξ (fun cA => (w cA).set i (q, .inl (cA 3, N, .inr (.inr (.inr (.inr (va_up f x.toNatClampNeg (some v)))))))) a b (pc + 1) ls st) : G Ξ w a b pc ls (.ref v :: .int x :: .ref q :: st) := by
  obtain ⟨p, e9, s, m, args, below, meth, c, D, cA, A, nL, Z, rfl, hx, hb, hml, hown, hmn, hts, hK, hG, hE, htb, hA, hst⟩ := C
  intro H locs lsA hP hD hS hl
  obtain ⟨h1, h2, h3, h4, h5, h6, h7, h8, h9, h10, cE, h11, h12, h13⟩ := hE
  exact va_astqO (E := "java/lang/Object") hx hb hK hP hD hS i 3 j 1 (he cA) rfl h7 (hv cA) rfl hin d (fun H1 locs1 hP hD hS => kk H1 locs1 lsA hP hD hS hl)
theorem px_at {α : Type} {pre t : List α} {x : α} {N : Nat} (h : pre.length = N) : (pre ++ x :: t)[N]? = some x := by
  rw [List.getElem?_append_right (by omega), h, Nat.sub_self]; rfl
theorem px_set {α : Type} {pre t : List α} {x y : α} {N : Nat} (h : pre.length = N) : (pre ++ x :: t).set N y = pre ++ y :: t := by
  rw [List.set_append_right _ _ (by omega), h, Nat.sub_self]; rfl
end GE
theorem c_Jxa {l : Launch} (hl : l.stackTraces = false) {e q : Nat} {w : Wd} : CG (EXe e) l yJxa1e45_init_da8c8 (Cond.code yJxa1e45_init_da8c8 cJxa1e45_init_da8c8 1 none :: GW) 1 0 0 w [.ref q] (fun v w2 => v = none ∧ w2 = w) (fun _ _ => False) := by
  refine CG.of EXe.gp hl (by decide +kernel) (Nat.le_of_ble_eq_true rfl) (fun Ξ hnL C => ?_)
  show G Ξ w 0 0 0 [(0, .ref q)] []
  have B := C.b
  refine g_aload_n (j := 0) B dJxa1e45_init_da8c8_0 rfl rfl ?_
  refine g_obj B hnL mw_53 mw_19 mw_20 (Nat.le_of_ble_eq_true rfl) (Nat.le_of_ble_eq_true rfl) dJxa1e45_init_da8c8_1 ?_
  exact g_vret C rfl (Nat.le_of_ble_eq_true rfl) (Nat.le_of_ble_eq_true rfl) dJxa1e45_init_da8c8_4 ⟨rfl, rfl⟩
theorem c_X1_init {l : Launch} (hl : l.stackTraces = false) {e q : Nat} {w : Wd} : CG (EXe e) l yX1_init (Cond.code yX1_init cX1_init 1 none :: GW) 1 0 0 w [.ref q] (fun v w2 => v = none ∧ w2 = w) (fun _ _ => False) := by
  refine CG.of EXe.gp hl (by decide +kernel) (Nat.le_of_ble_eq_true rfl) (fun Ξ hnL C => ?_)
  show G Ξ w 0 0 0 [(0, .ref q)] []
  have B := C.b
  refine g_aload_n (j := 0) B dX1_init_0 rfl rfl ?_
  refine g_obj B hnL mw_56 mw_19 mw_20 (Nat.le_of_ble_eq_true rfl) (Nat.le_of_ble_eq_true rfl) dX1_init_1 ?_
  exact g_vret C rfl (Nat.le_of_ble_eq_true rfl) (Nat.le_of_ble_eq_true rfl) dX1_init_4 ⟨rfl, rfl⟩
theorem c_Jxc {l : Launch} (hl : l.stackTraces = false) {e q : Nat} {pre : Wd} {N : Nat} (hN : ∀ cA, (pre cA).length = N) : CG (EXe e) l yJxc12de_init_da8c8 (Cond.code yJxc12de_init_da8c8 cJxc12de_init_da8c8 1 none :: GW) 2 0 0 (fun cA => pre cA ++ [(q, .inr (0, [.int 0, .null, .int 0]))]) [.ref q] (fun v w2 => v = none ∧ w2 = fun cA => pre cA ++ [(q, .inr (0, [.int 0, .null, .int 0]))]) (fun _ _ => False) := by
  refine CG.of EXe.gp hl (by decide +kernel) (Nat.le_of_ble_eq_true rfl) (fun Ξ hnL C => ?_)
  show G Ξ (fun cA => pre cA ++ [(q, .inr (0, [.int 0, .null, .int 0]))]) 0 0 0 [(0, .ref q)] []
  have B := C.b
  refine g_aload_n (j := 0) B dJxc12de_init_da8c8_0 rfl rfl ?_
  refine g_callI (nA := 0) (As := []) B (c_Jxa hl) (fun _ _ _ h => h) EXe.carr mw_52 mw_49 mw_50 rfl mw_51 (by decide +kernel) (by decide) rfl rfl (by decide) dJxc12de_init_da8c8_1 ⟨Nat.le_of_ble_eq_true rfl, Nat.le_of_ble_eq_true rfl⟩ (fun _ _ h => h.elim) (fun v u hvu => ?_)
  obtain ⟨rfl, rfl⟩ := hvu
  refine g_aload_n (j := 0) B dJxc12de_init_da8c8_4 rfl rfl ?_
  refine g_iconst (v := 0) B dJxc12de_init_da8c8_5 (by decide) ?_
  refine g_put (C0 := RJx4a65c) (T := TJx4a65c) (N := 3) (ci := 0) (ref := (TJx4a65c 0).1) (ty := .int) N 0 B (fun cA => px_at (hN cA)) rfl inlJx4a65c tyJx4a65c_ok nmJx4a65c (by decide) rfl rfl (by decide +kernel) rfl rfl (Nat.le_of_ble_eq_true rfl) mw_48 dJxc12de_init_da8c8_6 ?_
  refine g_w (w' := (fun cA => pre cA ++ [(q, .inr (0, [.int 0, .null, .int 0]))])) (funext fun cA => px_set (hN cA)) ?_
  exact g_vret C rfl (Nat.le_of_ble_eq_true rfl) (Nat.le_of_ble_eq_true rfl) dJxc12de_init_da8c8_9 ⟨rfl, rfl⟩
theorem c_JL_init {l : Launch} (hl : l.stackTraces = false) {e q : Nat} {pre : Wd} {N : Nat} (hN : ∀ cA, (pre cA).length = N) : CG (EXe e) l yJx4a65c_init_da8c8 (Cond.code yJx4a65c_init_da8c8 cJx4a65c_init_da8c8 1 none :: GW) 3 0 0 (fun cA => pre cA ++ [(q, .inr (0, [.int 0, .null, .int 0]))]) [.ref q] (fun v w2 => v = none ∧ w2 = fun cA => pre cA ++ [(q, .inr (0, [.int 0, .ref e, .int 0]))]) (fun _ _ => False) := by
  refine CG.of EXe.gp hl (by decide +kernel) (Nat.le_of_ble_eq_true rfl) (fun Ξ hnL C => ?_)
  show G Ξ (fun cA => pre cA ++ [(q, .inr (0, [.int 0, .null, .int 0]))]) 0 0 0 [(0, .ref q)] []
  have B := C.b
  refine g_aload_n (j := 0) B dJx4a65c_init_da8c8_0 rfl rfl ?_
  refine g_callI (nA := 0) (As := []) B (c_Jxc hl hN) (fun _ _ _ h => h) EXe.carr mw_47 mw_44 mw_45 rfl mw_46 (by decide +kernel) (by decide) rfl rfl (by decide) dJx4a65c_init_da8c8_1 ⟨Nat.le_of_ble_eq_true rfl, Nat.le_of_ble_eq_true rfl⟩ (fun _ _ h => h.elim) (fun v u hvu => ?_)
  obtain ⟨rfl, rfl⟩ := hvu
  refine g_aload_n (j := 0) B dJx4a65c_init_da8c8_4 rfl rfl ?_
  refine g_getsE B mw_42 dJx4a65c_init_da8c8_5 ?_
  refine g_put (C0 := RJx4a65c) (T := TJx4a65c) (N := 3) (ci := 0) (ref := (TJx4a65c 1).1) (ty := .array (.object "java/lang/Object")) N 1 B (fun cA => px_at (hN cA)) rfl inlJx4a65c tyJx4a65c_ok nmJx4a65c (by decide) rfl rfl (by decide +kernel) rfl rfl (Nat.le_of_ble_eq_true rfl) mw_43 dJx4a65c_init_da8c8_8 ?_
  refine g_w (w' := (fun cA => pre cA ++ [(q, .inr (0, [.int 0, .ref e, .int 0]))])) (funext fun cA => px_set (hN cA)) ?_
  exact g_vret C rfl (Nat.le_of_ble_eq_true rfl) (Nat.le_of_ble_eq_true rfl) dJx4a65c_init_da8c8_11 ⟨rfl, rfl⟩
theorem c_X0_init {l : Launch} (hl : l.stackTraces = false) {e q : Nat} {pre : Wd} {N : Nat} (hN : ∀ cA, (pre cA).length = N) : CG (EXe e) l yX0_init (Cond.code yX0_init cX0_init 1 none :: GW) 1 2 44 (fun cA => pre cA ++ [(q, .inr (1, [.int 0, .int 0, .int 0, .int 0, .int 0, .int 0, .int 0, .int 0, .int 0, .int 0, .null, .null, .int 0, .int 0]))]) [.ref q] (fun v w2 => v = none ∧ ∃ g s : Nat, w2 = (fun cA => pre cA ++ [(q, .inr (1, [.int 1, .int 1, .int 0, .int (-1), .int 0, .int 0, .int 0, .int 0, .int 0, .int 0, .ref g, .ref s, .int 0, .int 0])), (g, .inl (cA 0, 4, .inl (fun _ => 0))), (s, .inl (cA 0, 40, .inl (fun _ => 0)))])) (fun _ _ => False) := by
  refine CG.of EXe.gp hl (by decide +kernel) (Nat.le_of_ble_eq_true rfl) (fun Ξ hnL C => ?_)
  show G Ξ (fun cA => pre cA ++ [(q, .inr (1, [.int 0, .int 0, .int 0, .int 0, .int 0, .int 0, .int 0, .int 0, .int 0, .int 0, .null, .null, .int 0, .int 0]))]) 0 0 0 [(0, .ref q)] []
  have B := C.b
  refine g_aload_n (j := 0) B dX0_init_0 rfl rfl ?_
  refine g_obj B hnL mw_73 mw_19 mw_20 (Nat.le_of_ble_eq_true rfl) (Nat.le_of_ble_eq_true rfl) dX0_init_1 ?_
  refine g_aload_n (j := 0) B dX0_init_4 rfl rfl ?_
  refine g_iconst (v := 1) B dX0_init_5 (by decide) ?_
  refine g_put (C0 := RX0) (T := TX0) (N := 14) (ci := 1) (ref := (TX0 0).1) (ty := .boolean) N 0 B (fun cA => px_at (hN cA)) rfl inlX0 tyX0_ok nmX0 (by decide) rfl rfl (by decide +kernel) rfl rfl (Nat.le_of_ble_eq_true rfl) mw_74 dX0_init_6 ?_
  refine g_w (w' := (fun cA => pre cA ++ [(q, .inr (1, [.int 1, .int 0, .int 0, .int 0, .int 0, .int 0, .int 0, .int 0, .int 0, .int 0, .null, .null, .int 0, .int 0]))])) (funext fun cA => px_set (hN cA)) ?_
  refine g_aload_n (j := 0) B dX0_init_9 rfl rfl ?_
  refine g_iconst (v := 1) B dX0_init_10 (by decide) ?_
  refine g_put (C0 := RX0) (T := TX0) (N := 14) (ci := 1) (ref := (TX0 1).1) (ty := .boolean) N 1 B (fun cA => px_at (hN cA)) rfl inlX0 tyX0_ok nmX0 (by decide) rfl rfl (by decide +kernel) rfl rfl (Nat.le_of_ble_eq_true rfl) mw_75 dX0_init_11 ?_
  refine g_w (w' := (fun cA => pre cA ++ [(q, .inr (1, [.int 1, .int 1, .int 0, .int 0, .int 0, .int 0, .int 0, .int 0, .int 0, .int 0, .null, .null, .int 0, .int 0]))])) (funext fun cA => px_set (hN cA)) ?_
  refine g_aload_n (j := 0) B dX0_init_14 rfl rfl ?_
  refine g_iconst (v := -1) B dX0_init_15 (by decide) ?_
  refine g_put (C0 := RX0) (T := TX0) (N := 14) (ci := 1) (ref := (TX0 3).1) (ty := .int) N 3 B (fun cA => px_at (hN cA)) rfl inlX0 tyX0_ok nmX0 (by decide) rfl rfl (by decide +kernel) rfl rfl (Nat.le_of_ble_eq_true rfl) mw_76 dX0_init_16 ?_
  refine g_w (w' := (fun cA => pre cA ++ [(q, .inr (1, [.int 1, .int 1, .int 0, .int (-1), .int 0, .int 0, .int 0, .int 0, .int 0, .int 0, .null, .null, .int 0, .int 0]))])) (funext fun cA => px_set (hN cA)) ?_
  refine g_aload_n (j := 0) B dX0_init_19 rfl rfl ?_
  refine g_iconst (v := 4) B dX0_init_20 (by decide) ?_
  refine g_newi (N := 4) B mw_13 (by decide) rfl (Nat.le_of_ble_eq_true rfl) (Nat.le_of_ble_eq_true rfl) (Nat.le_of_ble_eq_true rfl) dX0_init_21 (fun g => ?_)
  refine g_w (w' := (fun cA => pre cA ++ [(q, .inr (1, [.int 1, .int 1, .int 0, .int (-1), .int 0, .int 0, .int 0, .int 0, .int 0, .int 0, .null, .null, .int 0, .int 0])), (g, .inl (cA 0, 4, .inl (fun _ => 0)))])) (funext fun cA => List.append_assoc _ _ _) ?_
  refine g_putF (C0 := RX0) (T := TX0) (N := 14) (ci := 1) (ref := (TX0 10).1) (ty := .array .int) N 10 B rfl rfl (fun cA => px_at (hN cA)) rfl inlX0 tyX0_ok nmX0 (by decide) rfl rfl (by decide +kernel) rfl rfl (Nat.le_of_ble_eq_true rfl) mw_77 dX0_init_23 ?_
  refine g_w (w' := (fun cA => pre cA ++ [(q, .inr (1, [.int 1, .int 1, .int 0, .int (-1), .int 0, .int 0, .int 0, .int 0, .int 0, .int 0, .ref g, .null, .int 0, .int 0])), (g, .inl (cA 0, 4, .inl (fun _ => 0)))])) (funext fun cA => px_set (hN cA)) ?_
  refine g_aload_n (j := 0) B dX0_init_26 rfl rfl ?_
  refine g_bipush (v := 40) B dX0_init_27 (by decide) ?_
  refine g_newi (N := 40) B mw_13 (by decide) rfl (Nat.le_of_ble_eq_true rfl) (Nat.le_of_ble_eq_true rfl) (Nat.le_of_ble_eq_true rfl) dX0_init_29 (fun s => ?_)
  refine g_w (w' := (fun cA => pre cA ++ [(q, .inr (1, [.int 1, .int 1, .int 0, .int (-1), .int 0, .int 0, .int 0, .int 0, .int 0, .int 0, .ref g, .null, .int 0, .int 0])), (g, .inl (cA 0, 4, .inl (fun _ => 0))), (s, .inl (cA 0, 40, .inl (fun _ => 0)))])) (funext fun cA => List.append_assoc _ _ _) ?_
  refine g_putF (C0 := RX0) (T := TX0) (N := 14) (ci := 1) (ref := (TX0 11).1) (ty := .array .int) N 11 B rfl rfl (fun cA => px_at (hN cA)) rfl inlX0 tyX0_ok nmX0 (by decide) rfl rfl (by decide +kernel) rfl rfl (Nat.le_of_ble_eq_true rfl) mw_78 dX0_init_31 ?_
  refine g_w (w' := (fun cA => pre cA ++ [(q, .inr (1, [.int 1, .int 1, .int 0, .int (-1), .int 0, .int 0, .int 0, .int 0, .int 0, .int 0, .ref g, .ref s, .int 0, .int 0])), (g, .inl (cA 0, 4, .inl (fun _ => 0))), (s, .inl (cA 0, 40, .inl (fun _ => 0)))])) (funext fun cA => px_set (hN cA)) ?_
  exact g_vret C rfl (Nat.le_of_ble_eq_true rfl) (Nat.le_of_ble_eq_true rfl) dX0_init_34 ⟨rfl, g, s, rfl⟩
