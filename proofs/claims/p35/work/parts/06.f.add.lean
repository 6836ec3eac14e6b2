/-! ArrayList.add, the class's miner(). -/
section GS
variable {EX : EXT} {l : Launch} {R : Room} {cc : ByteArray} {own mn : String} {tb : List ExceptionTableEntry} {Ξ : CT}
variable {w : Wd} {a b pc : Nat} {ls : List (Nat × Value)} {st : List Value}
theorem g_getS {C0 : String} {T : u_T} {N ci idx q : Nat} {ref : String} {v : Value} {fs : List Value} (i k : Nat) (C : CB EX l R cc own mn tb Ξ) (he : ∀ cA, (w cA)[i]? = some (q, .inr (ci, fs))) (hc : vwCl[ci]? = some (C0, T, N)) (hin : ∀ w ∈ u_ws C0 T N, w ∈ GW) (hk : k < N) (hsame : Cond.sameField ref (T k).1 (T k).2.1 (T k).2.2.1 ∈ GW) (hv : fs[k]? = some v) (hw : Cond.fieldLink own idx ref (T k).2.1 (T k).2.2.1 ∈ GW) (d : decode cc pc = .ok (.getfield idx, 3)) (kk : G Ξ w a b (pc + 3) ls (v :: st)) : G Ξ w a b pc ls (.ref q :: st) := by
  obtain ⟨p, e, s, m, args, below, meth, c, D, cA, A, nL, Z, rfl, hx, hb, hml, hown, hmn, hts, hK, hG, hE, htb, hA, hst⟩ := C
  intro H locs lsA hP hD hS hl
  exact va_get (D := D) (ci := ci) (v := v) (C := C0) (T := T) (N := N) hx hb hts hin hown hK hP i (he cA) hc k hk (hts _ hw) (fun x h9 => u_same (hts _ hsame) x h9) hv d (kk H locs lsA hP hD hS hl)
theorem g_putS {C0 : String} {T : u_T} {N ci idx q : Nat} {ref : String} {v : Value} {fs : List Value} {ty0 : Nat → FieldType} {ty : FieldType} (i k : Nat) (C : CB EX l R cc own mn tb Ξ) (he : ∀ cA, (w cA)[i]? = some (q, .inr (ci, fs))) (hc : vwCl[ci]? = some (C0, T, N)) (hin : ∀ w ∈ u_ws C0 T N, w ∈ GW) (hty : ∀ k, k < N → parseFieldDescriptor (T k).2.2.1 = some (ty0 k)) (hnm : ∀ a, a < N → ∀ b, b < N → a ≠ b → (T a).2.1 ≠ (T b).2.1) (hk : k < N) (hsame : Cond.sameField ref (T k).1 (T k).2.1 (T k).2.2.1 ∈ GW) (hfin : (T k).2.2.2 = false) (hd : parseFieldDescriptor (T k).2.2.1 = some ty) (hn : narrow ty v = v) (hfit : fits ty v = true) (hlen : k < fs.length) (hw : Cond.fieldLink own idx ref (T k).2.1 (T k).2.2.1 ∈ GW) (d : decode cc pc = .ok (.putfield idx, 3)) (kk : G Ξ (fun cA => (w cA).set i (q, .inr (ci, fs.set k v))) a b (pc + 3) ls st) : G Ξ w a b pc ls (v :: .ref q :: st) := by
  obtain ⟨p, e, s, m, args, below, meth, c, D, cA, A, nL, Z, rfl, hx, hb, hml, hown, hmn, hts, hK, hG, hE, htb, hA, hst⟩ := C
  intro H locs lsA hP hD hS hl
  exact va_put (D := D) (ci := ci) (v := v) (ty := ty) (C := C0) (T := T) (N := N) hx hb hts hin ty0 hty hnm hown hK hP hD hS i (he cA) hc k hk (hts _ hw) (fun x h9 => u_same (hts _ hsame) x h9) hfin hd hn hfit hlen d (fun H1 locs1 hP hD hS => kk H1 locs1 lsA hP hD hS hl)
theorem fm_of {α : Type} {is : List Nat} {w w2 : List α} (h : is.map (fun i => w[i]?) = w2.map some) : is.filterMap (fun i => w[i]?) = w2 := by
  have h1 : is.filterMap (fun i => w[i]?) = (is.map (fun i => w[i]?)).filterMap id := by rw [List.filterMap_map]; rfl
  rw [h1, h, List.filterMap_map]
  exact List.filterMap_some
theorem g_perm {w2 : Wd} (is : List Nat) (hn : va_nd is = true) (h : ∀ cA, is.map (fun i => (w cA)[i]?) = (w2 cA).map some) (k : G Ξ w2 a b pc ls st) : G Ξ w a b pc ls st := by
  intro H locs lsA hP hD hS hl
  exact k H locs lsA (hP.sub is (fm_of (h _))) (hD.sub is hn (h _)) hS hl
end GS
abbrev emp10 (ea : Nat) (cA : Nat → ClassId) : Nat × va_E := (ea, .inl (cA 3, 10, .inr (.inr (.inr (.inr (fun _ => none))))))
theorem c_JL_grow1 {l : Launch} (hl : l.stackTraces = false) {e r : Nat} {mv : Int32} {w : Wd} (h1 : ∀ cA, (w cA)[1]? = some (r, .inr (0, [.int mv, .ref e, .int 0]))) : CG (EXe e) l yJx4a65c_grow_92f84 (Cond.code yJx4a65c_grow_92f84 cJx4a65c_grow_92f84 4 (some (.array (.object "java/lang/Object"))) :: GW) 1 1 10 w [.ref r, .int 1] (fun v w2 => ∃ ea : Nat, v = some (.ref ea) ∧ w2 = fun cA => (w cA ++ [emp10 ea cA]).set 1 (r, .inr (0, [.int mv, .ref ea, .int 0]))) (fun _ _ => False) := by
  refine CG.of EXe.gp hl (by decide +kernel) (Nat.le_of_ble_eq_true rfl) (fun Ξ hnL C => ?_)
  show G Ξ w 0 0 0 [(0, .ref r), (1, .int 1)] []
  have B := C.b
  have h2 : ∀ (ea : Nat) (cA : Nat → ClassId), (w cA ++ [emp10 ea cA])[1]? = some (r, .inr (0, [.int mv, .ref e, .int 0])) := fun ea cA => by
    rw [List.getElem?_append_left (List.getElem?_eq_some_iff.mp (h1 cA)).1]; exact h1 cA
  refine g_aload_n (j := 0) B dJx4a65c_grow_92f84_0 rfl rfl ?_
  refine g_get (C0 := RJx4a65c) (T := TJx4a65c) (N := 3) (ci := 0) (ref := (TJx4a65c 1).1) 1 1 B h1 rfl inlJx4a65c (by decide) rfl rfl mw_43 dJx4a65c_grow_92f84_1 ?_
  refine g_alenE B dJx4a65c_grow_92f84_4 ?_
  refine g_istore_n (ls2 := [(2, .int 0), (0, .ref r), (1, .int 1)]) B hnL dJx4a65c_grow_92f84_5 rfl (by decide) rfl ?_
  refine g_iload_n (j := 0) B dJx4a65c_grow_92f84_6 rfl rfl ?_
  refine g_if_gt (tgt := 20) B dJx4a65c_grow_92f84_7 (by decide) (fun c => absurd c (by decide)) (fun _ => ?_)
  refine g_aload_n (j := 1) B dJx4a65c_grow_92f84_10 rfl rfl ?_
  refine g_get (C0 := RJx4a65c) (T := TJx4a65c) (N := 3) (ci := 0) (ref := (TJx4a65c 1).1) 1 1 B h1 rfl inlJx4a65c (by decide) rfl rfl mw_43 dJx4a65c_grow_92f84_11 ?_
  refine g_getsE B mw_42 dJx4a65c_grow_92f84_14 ?_
  refine g_acmp_eq (tgt := 45) B dJx4a65c_grow_92f84_17 (by decide) rfl ?_
  refine g_aload_n (j := 1) B dJx4a65c_grow_92f84_45 rfl rfl ?_
  refine g_bipush (v := 10) B dJx4a65c_grow_92f84_46 (by decide) ?_
  refine g_iload_n (j := 2) B dJx4a65c_grow_92f84_48 rfl rfl ?_
  refine g_max B mw_97 mw_98 mw_99 mw_100 (Nat.le_of_ble_eq_true rfl) (Nat.le_of_ble_eq_true rfl) (Nat.le_of_ble_eq_true rfl) (Nat.le_of_ble_eq_true rfl) dJx4a65c_grow_92f84_49 ?_
  rw [if_neg (show ¬ (10 : Int32) < 1 by decide)]
  refine g_anew (N := 10) B mw_101 (by decide) rfl (Nat.le_of_ble_eq_true rfl) (Nat.le_of_ble_eq_true rfl) (Nat.le_of_ble_eq_true rfl) dJx4a65c_grow_92f84_52 (fun ea => ?_)
  refine g_dupx1 B dJx4a65c_grow_92f84_55 rfl rfl ?_
  refine g_put (C0 := RJx4a65c) (T := TJx4a65c) (N := 3) (ci := 0) (ref := (TJx4a65c 1).1) (ty := .array (.object "java/lang/Object")) 1 1 B (h2 ea) rfl inlJx4a65c tyJx4a65c_ok nmJx4a65c (by decide) rfl rfl (by decide +kernel) rfl rfl (Nat.le_of_ble_eq_true rfl) mw_43 dJx4a65c_grow_92f84_56 ?_
  exact g_aret C rfl (Or.inr ⟨_, rfl⟩) (Nat.le_of_ble_eq_true rfl) (Nat.le_of_ble_eq_true rfl) dJx4a65c_grow_92f84_59 ⟨ea, rfl, rfl⟩
theorem c_JL_grow0 {l : Launch} (hl : l.stackTraces = false) {e r : Nat} {mv : Int32} {w : Wd} (h1 : ∀ cA, (w cA)[1]? = some (r, .inr (0, [.int mv, .ref e, .int 0]))) : CG (EXe e) l yJx4a65c_grow_d5877 (Cond.code yJx4a65c_grow_d5877 cJx4a65c_grow_d5877 1 (some (.array (.object "java/lang/Object"))) :: GW) 2 1 10 w [.ref r] (fun v w2 => ∃ ea : Nat, v = some (.ref ea) ∧ w2 = fun cA => (w cA ++ [emp10 ea cA]).set 1 (r, .inr (0, [.int mv, .ref ea, .int 0]))) (fun _ _ => False) := by
  refine CG.of EXe.gp hl (by decide +kernel) (Nat.le_of_ble_eq_true rfl) (fun Ξ hnL C => ?_)
  show G Ξ w 0 0 0 [(0, .ref r)] []
  have B := C.b
  refine g_aload_n (j := 0) B dJx4a65c_grow_d5877_0 rfl rfl ?_
  refine g_aload_n (j := 0) B dJx4a65c_grow_d5877_1 rfl rfl ?_
  refine g_get (C0 := RJx4a65c) (T := TJx4a65c) (N := 3) (ci := 0) (ref := (TJx4a65c 2).1) 1 2 B h1 rfl inlJx4a65c (by decide) rfl rfl mw_70 dJx4a65c_grow_d5877_2 ?_
  refine g_iconst (v := 1) B dJx4a65c_grow_d5877_5 (by decide) ?_
  refine g_iadd B dJx4a65c_grow_d5877_6 ?_
  rw [show (0 : Int32) + 1 = 1 from rfl]
  refine g_callV (i := 1) (ci := 0) (nA := 1) (Cn := RJx4a65c) (As := [.int 1]) B (c_JL_grow1 hl h1) (fun _ _ _ h => h) EXe.carr h1 rfl rfl mw_96 mw_93 mw_94 mw_95 mw_23 (by decide +kernel) (by decide) rfl rfl (Nat.le_of_ble_eq_true rfl) dJx4a65c_grow_d5877_7 ⟨Nat.le_of_ble_eq_true rfl, Nat.le_of_ble_eq_true rfl⟩ (fun _ _ h => h.elim) (fun v u hvu => ?_)
  obtain ⟨ea, rfl, rfl⟩ := hvu
  exact g_aret C rfl (Or.inr ⟨_, rfl⟩) (Nat.le_of_ble_eq_true rfl) (Nat.le_of_ble_eq_true rfl) dJx4a65c_grow_d5877_10 ⟨ea, rfl, rfl⟩
/-- the list's row of ten with one more -/
def rowUp (ea : Nat) (f : Nat → Option Nat) (n q : Nat) (cA : Nat → ClassId) : Nat × va_E := (ea, .inl (cA 3, 10, .inr (.inr (.inr (.inr (va_up f n (some q)))))))
theorem c_JL_adda {l : Launch} (hl : l.stackTraces = false) {e r q ea j n : Nat} {mv : Int32} {w : Wd} {fs : List Value} {f : Nat → Option Nat} (hn : n < 10) (h1 : ∀ cA, (w cA)[1]? = some (r, .inr (0, [.int mv, .ref ea, .int (nI n)]))) (h27 : ∀ cA, (w cA)[12]? = some (ea, .inl (cA 3, 10, .inr (.inr (.inr (.inr f)))))) (hj : ∀ cA, (w cA)[j]? = some (q, .inr (1, fs))) (hj27 : j ≠ 12) (hj1 : j ≠ 1) :
    CG (EXe e) l yJx4a65c_add_72be8 (Cond.code yJx4a65c_add_72be8 cJx4a65c_add_72be8 4 none :: GW) 3 1 10 w [.ref r, .ref q, .ref ea, .int (nI n)] (fun v w2 => v = none ∧ w2 = fun cA => ((w cA).set 12 (rowUp ea f n q cA)).set 1 (r, .inr (0, [.int mv, .ref ea, .int (nI (n + 1))]))) (fun _ _ => False) := by
  refine CG.of EXe.gp hl (by decide +kernel) (Nat.le_of_ble_eq_true rfl) (fun Ξ hnL C => ?_)
  show G Ξ w 0 0 0 [(0, .ref r), (1, .ref q), (2, .ref ea), (3, .int (nI n))] []
  have B := C.b
  have h1b : ∀ cA, ((w cA).set 12 (rowUp ea f n q cA))[1]? = some (r, .inr (0, [.int mv, .ref ea, .int (nI n)])) := fun cA => by
    rw [List.getElem?_set_ne (by decide)]; exact h1 cA
  refine g_iload_n (j := 3) B dJx4a65c_add_72be8_0 rfl rfl ?_
  refine g_aload_n (j := 2) B dJx4a65c_add_72be8_1 rfl rfl ?_
  refine g_alen (N := 10) (v := 10) (ty := tO) 12 3 B h27 (fun _ => rfl) (by decide) dJx4a65c_add_72be8_2 ?_
  refine g_icmp_ne (tgt := 11) B dJx4a65c_add_72be8_3 (by decide) (fun _ => ?_) (fun h => absurd h (fun h9 => absurd ((nI_eq (a := n) (b := 10) (by omega) (by omega)).mp h9) (by omega)))
  refine g_aload_n (j := 2) B dJx4a65c_add_72be8_11 rfl rfl ?_
  refine g_iload_n (j := 3) B dJx4a65c_add_72be8_12 rfl rfl ?_
  refine g_aload_n (j := 1) B dJx4a65c_add_72be8_13 rfl rfl ?_
  refine g_aast 12 j B h27 hj (vp_in_nI hn (by decide)) dJx4a65c_add_72be8_14 ?_
  refine g_w (w' := fun cA => (w cA).set 12 (rowUp ea f n q cA)) (by rw [nI_clamp (by omega)]; rfl) ?_
  refine g_aload_n (j := 0) B dJx4a65c_add_72be8_15 rfl rfl ?_
  refine g_iload_n (j := 3) B dJx4a65c_add_72be8_16 rfl rfl ?_
  refine g_iconst (v := 1) B dJx4a65c_add_72be8_17 (by decide) ?_
  refine g_iadd B dJx4a65c_add_72be8_18 ?_
  rw [nI_1]
  refine g_put (C0 := RJx4a65c) (T := TJx4a65c) (N := 3) (ci := 0) (ref := (TJx4a65c 2).1) (ty := .int) 1 2 B h1b rfl inlJx4a65c tyJx4a65c_ok nmJx4a65c (by decide) rfl rfl (by decide +kernel) rfl rfl (Nat.le_of_ble_eq_true rfl) mw_70 dJx4a65c_add_72be8_19 ?_
  exact g_vret C rfl (Nat.le_of_ble_eq_true rfl) (Nat.le_of_ble_eq_true rfl) dJx4a65c_add_72be8_22 ⟨rfl, rfl⟩
theorem c_JL_addb {l : Launch} (hl : l.stackTraces = false) {e r q j M0 : Nat} {mv : Int32} {w : Wd} {fs : List Value} (h1 : ∀ cA, (w cA)[1]? = some (r, .inr (0, [.int mv, .ref e, .int (nI 0)]))) (hj : ∀ cA, (w cA)[j]? = some (q, .inr (1, fs))) (hj1 : j ≠ 1) (hM : ∀ cA, (w cA).length = M0) (hM1 : 1 < M0) :
    CG (EXe e) l yJx4a65c_add_72be8 (Cond.code yJx4a65c_add_72be8 cJx4a65c_add_72be8 4 none :: GW) 3 1 10 w [.ref r, .ref q, .ref e, .int (nI 0)] (fun v w2 => v = none ∧ ∃ ea : Nat, w2 = fun cA => (((w cA).set 1 (r, .inr (0, [.int mv, .ref ea, .int (nI 1)]))) ++ [rowUp ea (fun _ => none) 0 q cA])) (fun _ _ => False) := by
  refine CG.of EXe.gp hl (by decide +kernel) (Nat.le_of_ble_eq_true rfl) (fun Ξ hnL C => ?_)
  show G Ξ w 0 0 0 [(0, .ref r), (1, .ref q), (2, .ref e), (3, .int (nI 0))] []
  have B := C.b
  have h1 : ∀ cA, (w cA)[1]? = some (r, .inr (0, [.int mv, .ref e, .int 0])) := h1
  refine g_iload_n (j := 3) B dJx4a65c_add_72be8_0 rfl rfl ?_
  refine g_aload_n (j := 2) B dJx4a65c_add_72be8_1 rfl rfl ?_
  refine g_alenE B dJx4a65c_add_72be8_2 ?_
  refine g_icmp_ne (tgt := 11) B dJx4a65c_add_72be8_3 (by decide) (fun h => absurd rfl h) (fun _ => ?_)
  refine g_aload_n (j := 0) B dJx4a65c_add_72be8_6 rfl rfl ?_
  refine g_callV (i := 1) (ci := 0) (nA := 0) (Cn := RJx4a65c) (As := []) B (c_JL_grow0 hl h1) (fun _ _ _ h => h) EXe.carr h1 rfl rfl mw_92 mw_89 mw_90 mw_91 mw_23 (by decide +kernel) (by decide) rfl rfl (Nat.le_of_ble_eq_true rfl) dJx4a65c_add_72be8_7 ⟨Nat.le_of_ble_eq_true rfl, Nat.le_of_ble_eq_true rfl⟩ (fun _ _ h => h.elim) (fun v u hvu => ?_)
  obtain ⟨ea, rfl, rfl⟩ := hvu
  refine g_w (w' := fun cA => ((w cA).set 1 (r, .inr (0, [.int mv, .ref ea, .int 0]))) ++ [emp10 ea cA]) (funext fun cA => List.set_append_left _ _ (by rw [hM cA]; exact hM1)) ?_
  refine g_astore_n (ls2 := [(2, .ref ea), (0, .ref r), (1, .ref q), (3, .int (nI 0))]) B hnL dJx4a65c_add_72be8_10 rfl (by decide) rfl ?_
  refine g_aload_n (j := 0) B dJx4a65c_add_72be8_11 rfl rfl ?_
  refine g_iload_n (j := 3) B dJx4a65c_add_72be8_12 rfl rfl ?_
  refine g_aload_n (j := 2) B dJx4a65c_add_72be8_13 rfl rfl ?_
  have hL : ∀ cA, ((w cA).set 1 (r, .inr (0, [.int mv, .ref ea, .int 0]))).length = M0 := fun cA => by rw [List.length_set]; exact hM cA
  have hj2 : ∀ cA, (((w cA).set 1 (r, .inr (0, [.int mv, .ref ea, .int 0]))) ++ [emp10 ea cA])[j]? = some (q, .inr (1, fs)) := fun cA => by
    rw [List.getElem?_append_left (by rw [List.length_set]; exact (List.getElem?_eq_some_iff.mp (hj cA)).1), List.getElem?_set_ne (fun z => hj1 z.symm)]; exact hj cA
  refine g_aast M0 j B (fun cA => px_at (hL cA)) hj2 (vp_in_nI (n := 0) (N := 10) (by decide) (by decide)) dJx4a65c_add_72be8_14 ?_
  refine g_w (w' := fun cA => ((w cA).set 1 (r, .inr (0, [.int mv, .ref ea, .int 0]))) ++ [rowUp ea (fun _ => none) 0 q cA]) (funext fun cA => px_set (hL cA)) ?_
  refine g_aload_n (j := 1) B dJx4a65c_add_72be8_15 rfl rfl ?_
  refine g_iload_n (j := 3) B dJx4a65c_add_72be8_16 rfl rfl ?_
  refine g_iconst (v := 1) B dJx4a65c_add_72be8_17 (by decide) ?_
  refine g_iadd B dJx4a65c_add_72be8_18 ?_
  rw [nI_1]
  have h1b : ∀ cA, (((w cA).set 1 (r, .inr (0, [.int mv, .ref ea, .int 0]))) ++ [rowUp ea (fun _ => none) 0 q cA])[1]? = some (r, .inr (0, [.int mv, .ref ea, .int 0])) := fun cA => by
    rw [List.getElem?_append_left (by rw [hL cA]; exact hM1), List.getElem?_set_self (by rw [hM cA]; exact hM1)]
  refine g_put (C0 := RJx4a65c) (T := TJx4a65c) (N := 3) (ci := 0) (ref := (TJx4a65c 2).1) (ty := .int) 1 2 B h1b rfl inlJx4a65c tyJx4a65c_ok nmJx4a65c (by decide) rfl rfl (by decide +kernel) rfl rfl (Nat.le_of_ble_eq_true rfl) mw_70 dJx4a65c_add_72be8_19 ?_
  refine g_w (w' := fun cA => ((w cA).set 1 (r, .inr (0, [.int mv, .ref ea, .int (nI 1)]))) ++ [rowUp ea (fun _ => none) 0 q cA]) (funext fun cA => by rw [List.set_append_left _ _ (by rw [hL cA]; exact hM1), List.set_set]; rfl) ?_
  exact g_vret C rfl (Nat.le_of_ble_eq_true rfl) (Nat.le_of_ble_eq_true rfl) dJx4a65c_add_72be8_22 ⟨rfl, ea, rfl⟩
theorem c_JL_add {l : Launch} (hl : l.stackTraces = false) {e r q ea j n : Nat} {mv : Int32} {w : Wd} {fs : List Value} {f : Nat → Option Nat} (hn : n < 10) (h1 : ∀ cA, (w cA)[1]? = some (r, .inr (0, [.int mv, .ref ea, .int (nI n)]))) (h27 : ∀ cA, (w cA)[12]? = some (ea, .inl (cA 3, 10, .inr (.inr (.inr (.inr f)))))) (hj : ∀ cA, (w cA)[j]? = some (q, .inr (1, fs))) (hj27 : j ≠ 12) (hj1 : j ≠ 1) :
    CG (EXe e) l yJx4a65c_add_9ea2d (Cond.code yJx4a65c_add_9ea2d cJx4a65c_add_9ea2d 2 (some .boolean) :: GW) 4 1 10 w [.ref r, .ref q] (fun v w2 => v = some (.int 1) ∧ w2 = fun cA => ((w cA).set 12 (rowUp ea f n q cA)).set 1 (r, .inr (0, [.int (mv + 1), .ref ea, .int (nI (n + 1))]))) (fun _ _ => False) := by
  refine CG.of EXe.gp hl (by decide +kernel) (Nat.le_of_ble_eq_true rfl) (fun Ξ hnL C => ?_)
  show G Ξ w 0 0 0 [(0, .ref r), (1, .ref q)] []
  have B := C.b
  have hl1 : ∀ cA, 1 < (w cA).length := fun cA => (List.getElem?_eq_some_iff.mp (h1 cA)).1
  have h1b : ∀ cA, ((w cA).set 1 (r, .inr (0, [.int (mv + 1), .ref ea, .int (nI n)])))[1]? = some (r, .inr (0, [.int (mv + 1), .ref ea, .int (nI n)])) := fun cA => List.getElem?_set_self (hl1 cA)
  have hjb : ∀ cA, ((w cA).set 1 (r, .inr (0, [.int (mv + 1), .ref ea, .int (nI n)])))[j]? = some (q, .inr (1, fs)) := fun cA => by rw [List.getElem?_set_ne (fun z => hj1 z.symm)]; exact hj cA
  refine g_aload_n (j := 0) B dJx4a65c_add_9ea2d_0 rfl rfl ?_
  refine g_dup B dJx4a65c_add_9ea2d_1 rfl ?_
  refine g_getS (C0 := RJx4a65c) (T := TJx4a65c) (N := 3) (ci := 0) (ref := "java/util/ArrayList") 1 0 B h1 rfl inlJx4a65c (by decide) mw_84 rfl mw_83 dJx4a65c_add_9ea2d_2 ?_
  refine g_iconst (v := 1) B dJx4a65c_add_9ea2d_5 (by decide) ?_
  refine g_iadd B dJx4a65c_add_9ea2d_6 ?_
  refine g_putS (C0 := RJx4a65c) (T := TJx4a65c) (N := 3) (ci := 0) (ref := "java/util/ArrayList") (ty := .int) 1 0 B h1 rfl inlJx4a65c tyJx4a65c_ok nmJx4a65c (by decide) mw_84 rfl (by decide +kernel) rfl rfl (Nat.le_of_ble_eq_true rfl) mw_83 dJx4a65c_add_9ea2d_7 ?_
  refine g_w (w' := (fun cA => (w cA).set 1 (r, .inr (0, [.int (mv + 1), .ref ea, .int (nI n)])))) rfl ?_
  refine g_aload_n (j := 0) B dJx4a65c_add_9ea2d_10 rfl rfl ?_
  refine g_aload_n (j := 1) B dJx4a65c_add_9ea2d_11 rfl rfl ?_
  refine g_aload_n (j := 0) B dJx4a65c_add_9ea2d_12 rfl rfl ?_
  refine g_get (C0 := RJx4a65c) (T := TJx4a65c) (N := 3) (ci := 0) (ref := (TJx4a65c 1).1) 1 1 B h1b rfl inlJx4a65c (by decide) rfl rfl mw_43 dJx4a65c_add_9ea2d_13 ?_
  refine g_aload_n (j := 0) B dJx4a65c_add_9ea2d_16 rfl rfl ?_
  refine g_get (C0 := RJx4a65c) (T := TJx4a65c) (N := 3) (ci := 0) (ref := (TJx4a65c 2).1) 1 2 B h1b rfl inlJx4a65c (by decide) rfl rfl mw_70 dJx4a65c_add_9ea2d_17 ?_
  refine g_callV (i := 1) (ci := 0) (nA := 3) (Cn := RJx4a65c) (As := [.ref q, .ref ea, .int (nI n)]) B (c_JL_adda hl hn h1b (fun cA => by rw [List.getElem?_set_ne (by decide)]; exact h27 cA) hjb hj27 hj1) (fun _ _ _ h => h) EXe.carr h1b rfl rfl mw_88 mw_85 mw_86 mw_87 mw_23 (by decide +kernel) (by decide) rfl rfl (Nat.le_of_ble_eq_true rfl) dJx4a65c_add_9ea2d_20 ⟨Nat.le_of_ble_eq_true rfl, Nat.le_of_ble_eq_true rfl⟩ (fun _ _ h => h.elim) (fun v u hvu => ?_)
  obtain ⟨rfl, rfl⟩ := hvu
  refine g_iconst (v := 1) B dJx4a65c_add_9ea2d_23 (by decide) ?_
  refine g_w (w' := fun cA => ((w cA).set 12 (rowUp ea f n q cA)).set 1 (r, .inr (0, [.int (mv + 1), .ref ea, .int (nI (n + 1))]))) (funext fun cA => by rw [List.set_comm _ _ (show (1 : Nat) ≠ 12 by decide), List.set_set]) ?_
  exact g_zret C rfl rfl (Nat.le_of_ble_eq_true rfl) (Nat.le_of_ble_eq_true rfl) dJx4a65c_add_9ea2d_24 ⟨rfl, rfl⟩
theorem c_JL_add0 {l : Launch} (hl : l.stackTraces = false) {e r q j M0 : Nat} {mv : Int32} {w : Wd} {fs : List Value} (h1 : ∀ cA, (w cA)[1]? = some (r, .inr (0, [.int mv, .ref e, .int (nI 0)]))) (hj : ∀ cA, (w cA)[j]? = some (q, .inr (1, fs))) (hj1 : j ≠ 1) (hM : ∀ cA, (w cA).length = M0) (hM1 : 1 < M0) :
    CG (EXe e) l yJx4a65c_add_9ea2d (Cond.code yJx4a65c_add_9ea2d cJx4a65c_add_9ea2d 2 (some .boolean) :: GW) 4 1 10 w [.ref r, .ref q] (fun v w2 => v = some (.int 1) ∧ ∃ ea : Nat, w2 = fun cA => (((w cA).set 1 (r, .inr (0, [.int (mv + 1), .ref ea, .int (nI 1)]))) ++ [rowUp ea (fun _ => none) 0 q cA])) (fun _ _ => False) := by
  refine CG.of EXe.gp hl (by decide +kernel) (Nat.le_of_ble_eq_true rfl) (fun Ξ hnL C => ?_)
  show G Ξ w 0 0 0 [(0, .ref r), (1, .ref q)] []
  have B := C.b
  have hl1 : ∀ cA, 1 < (w cA).length := fun cA => (List.getElem?_eq_some_iff.mp (h1 cA)).1
  have h1b : ∀ cA, ((w cA).set 1 (r, .inr (0, [.int (mv + 1), .ref e, .int (nI 0)])))[1]? = some (r, .inr (0, [.int (mv + 1), .ref e, .int (nI 0)])) := fun cA => List.getElem?_set_self (hl1 cA)
  have hjb : ∀ cA, ((w cA).set 1 (r, .inr (0, [.int (mv + 1), .ref e, .int (nI 0)])))[j]? = some (q, .inr (1, fs)) := fun cA => by rw [List.getElem?_set_ne (fun z => hj1 z.symm)]; exact hj cA
  refine g_aload_n (j := 0) B dJx4a65c_add_9ea2d_0 rfl rfl ?_
  refine g_dup B dJx4a65c_add_9ea2d_1 rfl ?_
  refine g_getS (C0 := RJx4a65c) (T := TJx4a65c) (N := 3) (ci := 0) (ref := "java/util/ArrayList") 1 0 B h1 rfl inlJx4a65c (by decide) mw_84 rfl mw_83 dJx4a65c_add_9ea2d_2 ?_
  refine g_iconst (v := 1) B dJx4a65c_add_9ea2d_5 (by decide) ?_
  refine g_iadd B dJx4a65c_add_9ea2d_6 ?_
  refine g_putS (C0 := RJx4a65c) (T := TJx4a65c) (N := 3) (ci := 0) (ref := "java/util/ArrayList") (ty := .int) 1 0 B h1 rfl inlJx4a65c tyJx4a65c_ok nmJx4a65c (by decide) mw_84 rfl (by decide +kernel) rfl rfl (Nat.le_of_ble_eq_true rfl) mw_83 dJx4a65c_add_9ea2d_7 ?_
  refine g_w (w' := (fun cA => (w cA).set 1 (r, .inr (0, [.int (mv + 1), .ref e, .int (nI 0)])))) rfl ?_
  refine g_aload_n (j := 0) B dJx4a65c_add_9ea2d_10 rfl rfl ?_
  refine g_aload_n (j := 1) B dJx4a65c_add_9ea2d_11 rfl rfl ?_
  refine g_aload_n (j := 0) B dJx4a65c_add_9ea2d_12 rfl rfl ?_
  refine g_get (C0 := RJx4a65c) (T := TJx4a65c) (N := 3) (ci := 0) (ref := (TJx4a65c 1).1) 1 1 B h1b rfl inlJx4a65c (by decide) rfl rfl mw_43 dJx4a65c_add_9ea2d_13 ?_
  refine g_aload_n (j := 0) B dJx4a65c_add_9ea2d_16 rfl rfl ?_
  refine g_get (C0 := RJx4a65c) (T := TJx4a65c) (N := 3) (ci := 0) (ref := (TJx4a65c 2).1) 1 2 B h1b rfl inlJx4a65c (by decide) rfl rfl mw_70 dJx4a65c_add_9ea2d_17 ?_
  refine g_callV (i := 1) (ci := 0) (nA := 3) (Cn := RJx4a65c) (As := [.ref q, .ref e, .int (nI 0)]) B (c_JL_addb hl h1b hjb hj1 (fun cA => by rw [List.length_set]; exact hM cA) hM1) (fun _ _ _ h => h) EXe.carr h1b rfl rfl mw_88 mw_85 mw_86 mw_87 mw_23 (by decide +kernel) (by decide) rfl rfl (Nat.le_of_ble_eq_true rfl) dJx4a65c_add_9ea2d_20 ⟨Nat.le_of_ble_eq_true rfl, Nat.le_of_ble_eq_true rfl⟩ (fun _ _ h => h.elim) (fun v u hvu => ?_)
  obtain ⟨rfl, ea, rfl⟩ := hvu
  refine g_iconst (v := 1) B dJx4a65c_add_9ea2d_23 (by decide) ?_
  refine g_w (w' := fun cA => ((w cA).set 1 (r, .inr (0, [.int (mv + 1), .ref ea, .int (nI 1)]))) ++ [rowUp ea (fun _ => none) 0 q cA]) (funext fun cA => by rw [List.set_set]) ?_
  exact g_zret C rfl rfl (Nat.le_of_ble_eq_true rfl) (Nat.le_of_ble_eq_true rfl) dJx4a65c_add_9ea2d_24 ⟨rfl, ea, rfl⟩
