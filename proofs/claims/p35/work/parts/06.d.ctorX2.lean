/-! The class's constructor. -/
set_option maxRecDepth 100000 in
set_option maxHeartbeats 4000000 in
theorem c_X2_init {l : Launch} (hl : l.stackTraces = false) {e q : Nat}  : CG (EXe e) l yX2_init (Cond.code yX2_init cX2_init 1 none :: GW) 4 7 29 (fun cA => [(q, .inr (3, [.null, .int 0, .int 0, .int 0, .null, .null, .int 0, .null, .null, .int 0, .int 0, .null, .int 0, .int 0, .int 0, .int 0, .int 0, .null]))]) [.ref q] (fun v w2 => v = none ∧ ∃ q1 q2 q3 q4 q5 q6 q7 : Nat, w2 = (fun cA => [(q, .inr (3, [.ref q1, .int 10, .int 0, .int 12345, .ref q2, .ref q3, .int 0, .ref q4, .ref q5, .int 200, .int 20, .ref q6, .int 0, .int 0, .int 0, .int 0, .int 0, .ref q7])), (q1, .inr (0, [.int 0, .ref e, .int 0])), (q2, .inl (cA 0, 5, .inl (upd (upd (upd (upd (upd (fun _ => 0) 0 10) 1 20) 2 0) 3 0) 4 0))), (q3, .inr (2, [.int 0, .int 0, .int 0, .int 0])), (q4, .inl (cA 0, 4, .inl (upd (upd (upd (upd (fun _ => 0) 0 10) 1 10) 2 10) 3 10))), (q5, .inl (cA 0, 4, .inl (upd (upd (upd (upd (fun _ => 0) 0 10) 1 10) 2 10) 3 10))), (q6, .inl (cA 1, 3, .inl (fun _ => 0))), (q7, .inl (cA 0, 6, .inl (fun _ => 0)))])) (fun _ _ => False) := by
  refine CG.of EXe.gp hl (by decide +kernel) (Nat.le_of_ble_eq_true rfl) (fun Ξ hnL C => ?_)
  show G Ξ (fun cA => [(q, .inr (3, [.null, .int 0, .int 0, .int 0, .null, .null, .int 0, .null, .null, .int 0, .int 0, .null, .int 0, .int 0, .int 0, .int 0, .int 0, .null]))]) 0 0 0 [(0, .ref q)] []
  have B := C.b
  refine g_aload_n (j := 0) B dX2_init_0 rfl rfl ?_
  refine g_obj B hnL mw_18 mw_19 mw_20 (Nat.le_of_ble_eq_true rfl) (Nat.le_of_ble_eq_true rfl) dX2_init_1 ?_
  refine g_aload_n (j := 0) B dX2_init_4 rfl rfl ?_
  refine g_new (ci := 0) (fs := [.int 0, .null, .int 0]) (C0 := RJx4a65c) (T := TJx4a65c) (N := 3) B inlJx4a65c tyJx4a65c_ok mw_21 mw_22 mw_23 rfl (by decide +kernel) (Nat.le_of_ble_eq_true rfl) (Nat.le_of_ble_eq_true rfl) dX2_init_5 (fun q1 => ?_)
  refine g_w (w' := (fun cA => [(q, .inr (3, [.null, .int 0, .int 0, .int 0, .null, .null, .int 0, .null, .null, .int 0, .int 0, .null, .int 0, .int 0, .int 0, .int 0, .int 0, .null])), (q1, .inr (0, [.int 0, .null, .int 0]))])) rfl ?_
  refine g_dup B dX2_init_8 rfl ?_
  refine g_w (w' := fun cA => [(q, .inr (3, [.null, .int 0, .int 0, .int 0, .null, .null, .int 0, .null, .null, .int 0, .int 0, .null, .int 0, .int 0, .int 0, .int 0, .int 0, .null]))] ++ [(q1, .inr (0, [.int 0, .null, .int 0]))]) rfl ?_
  refine g_callI (nA := 0) (As := []) B (c_JL_init (pre := fun cA => [(q, .inr (3, [.null, .int 0, .int 0, .int 0, .null, .null, .int 0, .null, .null, .int 0, .int 0, .null, .int 0, .int 0, .int 0, .int 0, .int 0, .null]))]) (N := 1) hl (fun _ => rfl)) (fun _ _ _ h => h) EXe.carr mw_41 mw_39 mw_40 rfl mw_23 (by decide +kernel) (by decide) rfl rfl (Nat.le_of_ble_eq_true rfl) dX2_init_9 ⟨Nat.le_of_ble_eq_true rfl, Nat.le_of_ble_eq_true rfl⟩ (fun _ _ h => h.elim) (fun v u hvu => ?_)
  obtain ⟨rfl, rfl⟩ := hvu
  refine g_w (w' := (fun cA => [(q, .inr (3, [.null, .int 0, .int 0, .int 0, .null, .null, .int 0, .null, .null, .int 0, .int 0, .null, .int 0, .int 0, .int 0, .int 0, .int 0, .null])), (q1, .inr (0, [.int 0, .ref e, .int 0]))])) rfl ?_
  refine g_putF (C0 := RX2) (T := TX2) (N := 18) (ci := 3) (ref := (TX2 0).1) (ty := .object "java/util/ArrayList") 0 0 B rfl rfl (fun _ => rfl) rfl inlX2 tyX2_ok nmX2 (by decide) rfl rfl (by decide +kernel) rfl rfl (Nat.le_of_ble_eq_true rfl) mw_24 dX2_init_12 ?_
  refine g_w (w' := (fun cA => [(q, .inr (3, [.ref q1, .int 0, .int 0, .int 0, .null, .null, .int 0, .null, .null, .int 0, .int 0, .null, .int 0, .int 0, .int 0, .int 0, .int 0, .null])), (q1, .inr (0, [.int 0, .ref e, .int 0]))])) rfl ?_
  refine g_aload_n (j := 0) B dX2_init_15 rfl rfl ?_
  refine g_bipush (v := 10) B dX2_init_16 (by decide) ?_
  refine g_put (C0 := RX2) (T := TX2) (N := 18) (ci := 3) (ref := (TX2 1).1) (ty := .int) 0 1 B (fun _ => rfl) rfl inlX2 tyX2_ok nmX2 (by decide) rfl rfl (by decide +kernel) rfl rfl (Nat.le_of_ble_eq_true rfl) mw_25 dX2_init_18 ?_
  refine g_w (w' := (fun cA => [(q, .inr (3, [.ref q1, .int 10, .int 0, .int 0, .null, .null, .int 0, .null, .null, .int 0, .int 0, .null, .int 0, .int 0, .int 0, .int 0, .int 0, .null])), (q1, .inr (0, [.int 0, .ref e, .int 0]))])) rfl ?_
  refine g_aload_n (j := 0) B dX2_init_21 rfl rfl ?_
  refine g_sipush (v := 12345) B dX2_init_22 (by decide) ?_
  refine g_put (C0 := RX2) (T := TX2) (N := 18) (ci := 3) (ref := (TX2 3).1) (ty := .int) 0 3 B (fun _ => rfl) rfl inlX2 tyX2_ok nmX2 (by decide) rfl rfl (by decide +kernel) rfl rfl (Nat.le_of_ble_eq_true rfl) mw_26 dX2_init_25 ?_
  refine g_w (w' := (fun cA => [(q, .inr (3, [.ref q1, .int 10, .int 0, .int 12345, .null, .null, .int 0, .null, .null, .int 0, .int 0, .null, .int 0, .int 0, .int 0, .int 0, .int 0, .null])), (q1, .inr (0, [.int 0, .ref e, .int 0]))])) rfl ?_
  refine g_aload_n (j := 0) B dX2_init_28 rfl rfl ?_
  refine g_iconst (v := 5) B dX2_init_29 (by decide) ?_
  refine g_newi (N := 5) B mw_13 (by decide) rfl (Nat.le_of_ble_eq_true rfl) (Nat.le_of_ble_eq_true rfl) (Nat.le_of_ble_eq_true rfl) dX2_init_30 (fun q2 => ?_)
  refine g_w (w' := (fun cA => [(q, .inr (3, [.ref q1, .int 10, .int 0, .int 12345, .null, .null, .int 0, .null, .null, .int 0, .int 0, .null, .int 0, .int 0, .int 0, .int 0, .int 0, .null])), (q1, .inr (0, [.int 0, .ref e, .int 0])), (q2, .inl (cA 0, 5, .inl (fun _ => 0)))])) rfl ?_
  refine g_dup B dX2_init_32 rfl ?_
  refine g_iconst (v := 0) B dX2_init_33 (by decide) ?_
  refine g_bipush (v := 10) B dX2_init_34 (by decide) ?_
  refine g_iast (N := 5) 2 B (fun _ => rfl) (vp_in_nI (n := 0) (by decide) (by decide)) dX2_init_36 ?_
  refine g_w (w' := (fun cA => [(q, .inr (3, [.ref q1, .int 10, .int 0, .int 12345, .null, .null, .int 0, .null, .null, .int 0, .int 0, .null, .int 0, .int 0, .int 0, .int 0, .int 0, .null])), (q1, .inr (0, [.int 0, .ref e, .int 0])), (q2, .inl (cA 0, 5, .inl (upd (fun _ => 0) 0 10)))])) rfl ?_
  refine g_dup B dX2_init_37 rfl ?_
  refine g_iconst (v := 1) B dX2_init_38 (by decide) ?_
  refine g_bipush (v := 20) B dX2_init_39 (by decide) ?_
  refine g_iast (N := 5) 2 B (fun _ => rfl) (vp_in_nI (n := 1) (by decide) (by decide)) dX2_init_41 ?_
  refine g_w (w' := (fun cA => [(q, .inr (3, [.ref q1, .int 10, .int 0, .int 12345, .null, .null, .int 0, .null, .null, .int 0, .int 0, .null, .int 0, .int 0, .int 0, .int 0, .int 0, .null])), (q1, .inr (0, [.int 0, .ref e, .int 0])), (q2, .inl (cA 0, 5, .inl (upd (upd (fun _ => 0) 0 10) 1 20)))])) rfl ?_
  refine g_dup B dX2_init_42 rfl ?_
  refine g_iconst (v := 2) B dX2_init_43 (by decide) ?_
  refine g_iconst (v := 0) B dX2_init_44 (by decide) ?_
  refine g_iast (N := 5) 2 B (fun _ => rfl) (vp_in_nI (n := 2) (by decide) (by decide)) dX2_init_45 ?_
  refine g_w (w' := (fun cA => [(q, .inr (3, [.ref q1, .int 10, .int 0, .int 12345, .null, .null, .int 0, .null, .null, .int 0, .int 0, .null, .int 0, .int 0, .int 0, .int 0, .int 0, .null])), (q1, .inr (0, [.int 0, .ref e, .int 0])), (q2, .inl (cA 0, 5, .inl (upd (upd (upd (fun _ => 0) 0 10) 1 20) 2 0)))])) rfl ?_
  refine g_dup B dX2_init_46 rfl ?_
  refine g_iconst (v := 3) B dX2_init_47 (by decide) ?_
  refine g_iconst (v := 0) B dX2_init_48 (by decide) ?_
  refine g_iast (N := 5) 2 B (fun _ => rfl) (vp_in_nI (n := 3) (by decide) (by decide)) dX2_init_49 ?_
  refine g_w (w' := (fun cA => [(q, .inr (3, [.ref q1, .int 10, .int 0, .int 12345, .null, .null, .int 0, .null, .null, .int 0, .int 0, .null, .int 0, .int 0, .int 0, .int 0, .int 0, .null])), (q1, .inr (0, [.int 0, .ref e, .int 0])), (q2, .inl (cA 0, 5, .inl (upd (upd (upd (upd (fun _ => 0) 0 10) 1 20) 2 0) 3 0)))])) rfl ?_
  refine g_dup B dX2_init_50 rfl ?_
  refine g_iconst (v := 4) B dX2_init_51 (by decide) ?_
  refine g_iconst (v := 0) B dX2_init_52 (by decide) ?_
  refine g_iast (N := 5) 2 B (fun _ => rfl) (vp_in_nI (n := 4) (by decide) (by decide)) dX2_init_53 ?_
  refine g_w (w' := (fun cA => [(q, .inr (3, [.ref q1, .int 10, .int 0, .int 12345, .null, .null, .int 0, .null, .null, .int 0, .int 0, .null, .int 0, .int 0, .int 0, .int 0, .int 0, .null])), (q1, .inr (0, [.int 0, .ref e, .int 0])), (q2, .inl (cA 0, 5, .inl (upd (upd (upd (upd (upd (fun _ => 0) 0 10) 1 20) 2 0) 3 0) 4 0)))])) rfl ?_
  refine g_putF (C0 := RX2) (T := TX2) (N := 18) (ci := 3) (ref := (TX2 4).1) (ty := .array .int) 0 4 B rfl rfl (fun _ => rfl) rfl inlX2 tyX2_ok nmX2 (by decide) rfl rfl (by decide +kernel) rfl rfl (Nat.le_of_ble_eq_true rfl) mw_27 dX2_init_54 ?_
  refine g_w (w' := (fun cA => [(q, .inr (3, [.ref q1, .int 10, .int 0, .int 12345, .ref q2, .null, .int 0, .null, .null, .int 0, .int 0, .null, .int 0, .int 0, .int 0, .int 0, .int 0, .null])), (q1, .inr (0, [.int 0, .ref e, .int 0])), (q2, .inl (cA 0, 5, .inl (upd (upd (upd (upd (upd (fun _ => 0) 0 10) 1 20) 2 0) 3 0) 4 0)))])) rfl ?_
  refine g_aload_n (j := 0) B dX2_init_57 rfl rfl ?_
  refine g_new (ci := 2) (fs := [.int 0, .int 0, .int 0, .int 0]) (C0 := RX1) (T := TX1) (N := 4) B inlX1 tyX1_ok mw_28 mw_29 mw_30 rfl (by decide +kernel) (Nat.le_of_ble_eq_true rfl) (Nat.le_of_ble_eq_true rfl) dX2_init_58 (fun q3 => ?_)
  refine g_w (w' := (fun cA => [(q, .inr (3, [.ref q1, .int 10, .int 0, .int 12345, .ref q2, .null, .int 0, .null, .null, .int 0, .int 0, .null, .int 0, .int 0, .int 0, .int 0, .int 0, .null])), (q1, .inr (0, [.int 0, .ref e, .int 0])), (q2, .inl (cA 0, 5, .inl (upd (upd (upd (upd (upd (fun _ => 0) 0 10) 1 20) 2 0) 3 0) 4 0))), (q3, .inr (2, [.int 0, .int 0, .int 0, .int 0]))])) rfl ?_
  refine g_dup B dX2_init_61 rfl ?_
  refine g_callIN (nA := 0) (As := []) (host := RX2) B (c_X1_init hl) (fun _ _ _ h => h) EXe.carr mw_55 (fun A s H h => h.2.2.2.2.2.1) mw_54 rfl mw_30 (by decide +kernel) (by decide) rfl rfl (Nat.le_of_ble_eq_true rfl) dX2_init_62 ⟨Nat.le_of_ble_eq_true rfl, Nat.le_of_ble_eq_true rfl⟩ (fun _ _ h => h.elim) (fun v u hvu => ?_)
  obtain ⟨rfl, rfl⟩ := hvu
  refine g_putF (C0 := RX2) (T := TX2) (N := 18) (ci := 3) (ref := (TX2 5).1) (ty := .object "ScripHollow$Slip") 0 5 B rfl rfl (fun _ => rfl) rfl inlX2 tyX2_ok nmX2 (by decide) rfl rfl (by decide +kernel) rfl rfl (Nat.le_of_ble_eq_true rfl) mw_31 dX2_init_65 ?_
  refine g_w (w' := (fun cA => [(q, .inr (3, [.ref q1, .int 10, .int 0, .int 12345, .ref q2, .ref q3, .int 0, .null, .null, .int 0, .int 0, .null, .int 0, .int 0, .int 0, .int 0, .int 0, .null])), (q1, .inr (0, [.int 0, .ref e, .int 0])), (q2, .inl (cA 0, 5, .inl (upd (upd (upd (upd (upd (fun _ => 0) 0 10) 1 20) 2 0) 3 0) 4 0))), (q3, .inr (2, [.int 0, .int 0, .int 0, .int 0]))])) rfl ?_
  refine g_aload_n (j := 0) B dX2_init_68 rfl rfl ?_
  refine g_iconst (v := 4) B dX2_init_69 (by decide) ?_
  refine g_newi (N := 4) B mw_13 (by decide) rfl (Nat.le_of_ble_eq_true rfl) (Nat.le_of_ble_eq_true rfl) (Nat.le_of_ble_eq_true rfl) dX2_init_70 (fun q4 => ?_)
  refine g_w (w' := (fun cA => [(q, .inr (3, [.ref q1, .int 10, .int 0, .int 12345, .ref q2, .ref q3, .int 0, .null, .null, .int 0, .int 0, .null, .int 0, .int 0, .int 0, .int 0, .int 0, .null])), (q1, .inr (0, [.int 0, .ref e, .int 0])), (q2, .inl (cA 0, 5, .inl (upd (upd (upd (upd (upd (fun _ => 0) 0 10) 1 20) 2 0) 3 0) 4 0))), (q3, .inr (2, [.int 0, .int 0, .int 0, .int 0])), (q4, .inl (cA 0, 4, .inl (fun _ => 0)))])) rfl ?_
  refine g_dup B dX2_init_72 rfl ?_
  refine g_iconst (v := 0) B dX2_init_73 (by decide) ?_
  refine g_bipush (v := 10) B dX2_init_74 (by decide) ?_
  refine g_iast (N := 4) 4 B (fun _ => rfl) (vp_in_nI (n := 0) (by decide) (by decide)) dX2_init_76 ?_
  refine g_w (w' := (fun cA => [(q, .inr (3, [.ref q1, .int 10, .int 0, .int 12345, .ref q2, .ref q3, .int 0, .null, .null, .int 0, .int 0, .null, .int 0, .int 0, .int 0, .int 0, .int 0, .null])), (q1, .inr (0, [.int 0, .ref e, .int 0])), (q2, .inl (cA 0, 5, .inl (upd (upd (upd (upd (upd (fun _ => 0) 0 10) 1 20) 2 0) 3 0) 4 0))), (q3, .inr (2, [.int 0, .int 0, .int 0, .int 0])), (q4, .inl (cA 0, 4, .inl (upd (fun _ => 0) 0 10)))])) rfl ?_
  refine g_dup B dX2_init_77 rfl ?_
  refine g_iconst (v := 1) B dX2_init_78 (by decide) ?_
  refine g_bipush (v := 10) B dX2_init_79 (by decide) ?_
  refine g_iast (N := 4) 4 B (fun _ => rfl) (vp_in_nI (n := 1) (by decide) (by decide)) dX2_init_81 ?_
  refine g_w (w' := (fun cA => [(q, .inr (3, [.ref q1, .int 10, .int 0, .int 12345, .ref q2, .ref q3, .int 0, .null, .null, .int 0, .int 0, .null, .int 0, .int 0, .int 0, .int 0, .int 0, .null])), (q1, .inr (0, [.int 0, .ref e, .int 0])), (q2, .inl (cA 0, 5, .inl (upd (upd (upd (upd (upd (fun _ => 0) 0 10) 1 20) 2 0) 3 0) 4 0))), (q3, .inr (2, [.int 0, .int 0, .int 0, .int 0])), (q4, .inl (cA 0, 4, .inl (upd (upd (fun _ => 0) 0 10) 1 10)))])) rfl ?_
  refine g_dup B dX2_init_82 rfl ?_
  refine g_iconst (v := 2) B dX2_init_83 (by decide) ?_
  refine g_bipush (v := 10) B dX2_init_84 (by decide) ?_
  refine g_iast (N := 4) 4 B (fun _ => rfl) (vp_in_nI (n := 2) (by decide) (by decide)) dX2_init_86 ?_
  refine g_w (w' := (fun cA => [(q, .inr (3, [.ref q1, .int 10, .int 0, .int 12345, .ref q2, .ref q3, .int 0, .null, .null, .int 0, .int 0, .null, .int 0, .int 0, .int 0, .int 0, .int 0, .null])), (q1, .inr (0, [.int 0, .ref e, .int 0])), (q2, .inl (cA 0, 5, .inl (upd (upd (upd (upd (upd (fun _ => 0) 0 10) 1 20) 2 0) 3 0) 4 0))), (q3, .inr (2, [.int 0, .int 0, .int 0, .int 0])), (q4, .inl (cA 0, 4, .inl (upd (upd (upd (fun _ => 0) 0 10) 1 10) 2 10)))])) rfl ?_
  refine g_dup B dX2_init_87 rfl ?_
  refine g_iconst (v := 3) B dX2_init_88 (by decide) ?_
  refine g_bipush (v := 10) B dX2_init_89 (by decide) ?_
  refine g_iast (N := 4) 4 B (fun _ => rfl) (vp_in_nI (n := 3) (by decide) (by decide)) dX2_init_91 ?_
  refine g_w (w' := (fun cA => [(q, .inr (3, [.ref q1, .int 10, .int 0, .int 12345, .ref q2, .ref q3, .int 0, .null, .null, .int 0, .int 0, .null, .int 0, .int 0, .int 0, .int 0, .int 0, .null])), (q1, .inr (0, [.int 0, .ref e, .int 0])), (q2, .inl (cA 0, 5, .inl (upd (upd (upd (upd (upd (fun _ => 0) 0 10) 1 20) 2 0) 3 0) 4 0))), (q3, .inr (2, [.int 0, .int 0, .int 0, .int 0])), (q4, .inl (cA 0, 4, .inl (upd (upd (upd (upd (fun _ => 0) 0 10) 1 10) 2 10) 3 10)))])) rfl ?_
  refine g_putF (C0 := RX2) (T := TX2) (N := 18) (ci := 3) (ref := (TX2 7).1) (ty := .array .int) 0 7 B rfl rfl (fun _ => rfl) rfl inlX2 tyX2_ok nmX2 (by decide) rfl rfl (by decide +kernel) rfl rfl (Nat.le_of_ble_eq_true rfl) mw_32 dX2_init_92 ?_
  refine g_w (w' := (fun cA => [(q, .inr (3, [.ref q1, .int 10, .int 0, .int 12345, .ref q2, .ref q3, .int 0, .ref q4, .null, .int 0, .int 0, .null, .int 0, .int 0, .int 0, .int 0, .int 0, .null])), (q1, .inr (0, [.int 0, .ref e, .int 0])), (q2, .inl (cA 0, 5, .inl (upd (upd (upd (upd (upd (fun _ => 0) 0 10) 1 20) 2 0) 3 0) 4 0))), (q3, .inr (2, [.int 0, .int 0, .int 0, .int 0])), (q4, .inl (cA 0, 4, .inl (upd (upd (upd (upd (fun _ => 0) 0 10) 1 10) 2 10) 3 10)))])) rfl ?_
  refine g_aload_n (j := 0) B dX2_init_95 rfl rfl ?_
  refine g_iconst (v := 4) B dX2_init_96 (by decide) ?_
  refine g_newi (N := 4) B mw_13 (by decide) rfl (Nat.le_of_ble_eq_true rfl) (Nat.le_of_ble_eq_true rfl) (Nat.le_of_ble_eq_true rfl) dX2_init_97 (fun q5 => ?_)
  refine g_w (w' := (fun cA => [(q, .inr (3, [.ref q1, .int 10, .int 0, .int 12345, .ref q2, .ref q3, .int 0, .ref q4, .null, .int 0, .int 0, .null, .int 0, .int 0, .int 0, .int 0, .int 0, .null])), (q1, .inr (0, [.int 0, .ref e, .int 0])), (q2, .inl (cA 0, 5, .inl (upd (upd (upd (upd (upd (fun _ => 0) 0 10) 1 20) 2 0) 3 0) 4 0))), (q3, .inr (2, [.int 0, .int 0, .int 0, .int 0])), (q4, .inl (cA 0, 4, .inl (upd (upd (upd (upd (fun _ => 0) 0 10) 1 10) 2 10) 3 10))), (q5, .inl (cA 0, 4, .inl (fun _ => 0)))])) rfl ?_
  refine g_dup B dX2_init_99 rfl ?_
  refine g_iconst (v := 0) B dX2_init_100 (by decide) ?_
  refine g_bipush (v := 10) B dX2_init_101 (by decide) ?_
  refine g_iast (N := 4) 5 B (fun _ => rfl) (vp_in_nI (n := 0) (by decide) (by decide)) dX2_init_103 ?_
  refine g_w (w' := (fun cA => [(q, .inr (3, [.ref q1, .int 10, .int 0, .int 12345, .ref q2, .ref q3, .int 0, .ref q4, .null, .int 0, .int 0, .null, .int 0, .int 0, .int 0, .int 0, .int 0, .null])), (q1, .inr (0, [.int 0, .ref e, .int 0])), (q2, .inl (cA 0, 5, .inl (upd (upd (upd (upd (upd (fun _ => 0) 0 10) 1 20) 2 0) 3 0) 4 0))), (q3, .inr (2, [.int 0, .int 0, .int 0, .int 0])), (q4, .inl (cA 0, 4, .inl (upd (upd (upd (upd (fun _ => 0) 0 10) 1 10) 2 10) 3 10))), (q5, .inl (cA 0, 4, .inl (upd (fun _ => 0) 0 10)))])) rfl ?_
  refine g_dup B dX2_init_104 rfl ?_
  refine g_iconst (v := 1) B dX2_init_105 (by decide) ?_
  refine g_bipush (v := 10) B dX2_init_106 (by decide) ?_
  refine g_iast (N := 4) 5 B (fun _ => rfl) (vp_in_nI (n := 1) (by decide) (by decide)) dX2_init_108 ?_
  refine g_w (w' := (fun cA => [(q, .inr (3, [.ref q1, .int 10, .int 0, .int 12345, .ref q2, .ref q3, .int 0, .ref q4, .null, .int 0, .int 0, .null, .int 0, .int 0, .int 0, .int 0, .int 0, .null])), (q1, .inr (0, [.int 0, .ref e, .int 0])), (q2, .inl (cA 0, 5, .inl (upd (upd (upd (upd (upd (fun _ => 0) 0 10) 1 20) 2 0) 3 0) 4 0))), (q3, .inr (2, [.int 0, .int 0, .int 0, .int 0])), (q4, .inl (cA 0, 4, .inl (upd (upd (upd (upd (fun _ => 0) 0 10) 1 10) 2 10) 3 10))), (q5, .inl (cA 0, 4, .inl (upd (upd (fun _ => 0) 0 10) 1 10)))])) rfl ?_
  refine g_dup B dX2_init_109 rfl ?_
  refine g_iconst (v := 2) B dX2_init_110 (by decide) ?_
  refine g_bipush (v := 10) B dX2_init_111 (by decide) ?_
  refine g_iast (N := 4) 5 B (fun _ => rfl) (vp_in_nI (n := 2) (by decide) (by decide)) dX2_init_113 ?_
  refine g_w (w' := (fun cA => [(q, .inr (3, [.ref q1, .int 10, .int 0, .int 12345, .ref q2, .ref q3, .int 0, .ref q4, .null, .int 0, .int 0, .null, .int 0, .int 0, .int 0, .int 0, .int 0, .null])), (q1, .inr (0, [.int 0, .ref e, .int 0])), (q2, .inl (cA 0, 5, .inl (upd (upd (upd (upd (upd (fun _ => 0) 0 10) 1 20) 2 0) 3 0) 4 0))), (q3, .inr (2, [.int 0, .int 0, .int 0, .int 0])), (q4, .inl (cA 0, 4, .inl (upd (upd (upd (upd (fun _ => 0) 0 10) 1 10) 2 10) 3 10))), (q5, .inl (cA 0, 4, .inl (upd (upd (upd (fun _ => 0) 0 10) 1 10) 2 10)))])) rfl ?_
  refine g_dup B dX2_init_114 rfl ?_
  refine g_iconst (v := 3) B dX2_init_115 (by decide) ?_
  refine g_bipush (v := 10) B dX2_init_116 (by decide) ?_
  refine g_iast (N := 4) 5 B (fun _ => rfl) (vp_in_nI (n := 3) (by decide) (by decide)) dX2_init_118 ?_
  refine g_w (w' := (fun cA => [(q, .inr (3, [.ref q1, .int 10, .int 0, .int 12345, .ref q2, .ref q3, .int 0, .ref q4, .null, .int 0, .int 0, .null, .int 0, .int 0, .int 0, .int 0, .int 0, .null])), (q1, .inr (0, [.int 0, .ref e, .int 0])), (q2, .inl (cA 0, 5, .inl (upd (upd (upd (upd (upd (fun _ => 0) 0 10) 1 20) 2 0) 3 0) 4 0))), (q3, .inr (2, [.int 0, .int 0, .int 0, .int 0])), (q4, .inl (cA 0, 4, .inl (upd (upd (upd (upd (fun _ => 0) 0 10) 1 10) 2 10) 3 10))), (q5, .inl (cA 0, 4, .inl (upd (upd (upd (upd (fun _ => 0) 0 10) 1 10) 2 10) 3 10)))])) rfl ?_
  refine g_putF (C0 := RX2) (T := TX2) (N := 18) (ci := 3) (ref := (TX2 8).1) (ty := .array .int) 0 8 B rfl rfl (fun _ => rfl) rfl inlX2 tyX2_ok nmX2 (by decide) rfl rfl (by decide +kernel) rfl rfl (Nat.le_of_ble_eq_true rfl) mw_33 dX2_init_119 ?_
  refine g_w (w' := (fun cA => [(q, .inr (3, [.ref q1, .int 10, .int 0, .int 12345, .ref q2, .ref q3, .int 0, .ref q4, .ref q5, .int 0, .int 0, .null, .int 0, .int 0, .int 0, .int 0, .int 0, .null])), (q1, .inr (0, [.int 0, .ref e, .int 0])), (q2, .inl (cA 0, 5, .inl (upd (upd (upd (upd (upd (fun _ => 0) 0 10) 1 20) 2 0) 3 0) 4 0))), (q3, .inr (2, [.int 0, .int 0, .int 0, .int 0])), (q4, .inl (cA 0, 4, .inl (upd (upd (upd (upd (fun _ => 0) 0 10) 1 10) 2 10) 3 10))), (q5, .inl (cA 0, 4, .inl (upd (upd (upd (upd (fun _ => 0) 0 10) 1 10) 2 10) 3 10)))])) rfl ?_
  refine g_aload_n (j := 0) B dX2_init_122 rfl rfl ?_
  refine g_sipush (v := 200) B dX2_init_123 (by decide) ?_
  refine g_put (C0 := RX2) (T := TX2) (N := 18) (ci := 3) (ref := (TX2 9).1) (ty := .int) 0 9 B (fun _ => rfl) rfl inlX2 tyX2_ok nmX2 (by decide) rfl rfl (by decide +kernel) rfl rfl (Nat.le_of_ble_eq_true rfl) mw_34 dX2_init_126 ?_
  refine g_w (w' := (fun cA => [(q, .inr (3, [.ref q1, .int 10, .int 0, .int 12345, .ref q2, .ref q3, .int 0, .ref q4, .ref q5, .int 200, .int 0, .null, .int 0, .int 0, .int 0, .int 0, .int 0, .null])), (q1, .inr (0, [.int 0, .ref e, .int 0])), (q2, .inl (cA 0, 5, .inl (upd (upd (upd (upd (upd (fun _ => 0) 0 10) 1 20) 2 0) 3 0) 4 0))), (q3, .inr (2, [.int 0, .int 0, .int 0, .int 0])), (q4, .inl (cA 0, 4, .inl (upd (upd (upd (upd (fun _ => 0) 0 10) 1 10) 2 10) 3 10))), (q5, .inl (cA 0, 4, .inl (upd (upd (upd (upd (fun _ => 0) 0 10) 1 10) 2 10) 3 10)))])) rfl ?_
  refine g_aload_n (j := 0) B dX2_init_129 rfl rfl ?_
  refine g_bipush (v := 20) B dX2_init_130 (by decide) ?_
  refine g_put (C0 := RX2) (T := TX2) (N := 18) (ci := 3) (ref := (TX2 10).1) (ty := .int) 0 10 B (fun _ => rfl) rfl inlX2 tyX2_ok nmX2 (by decide) rfl rfl (by decide +kernel) rfl rfl (Nat.le_of_ble_eq_true rfl) mw_35 dX2_init_132 ?_
  refine g_w (w' := (fun cA => [(q, .inr (3, [.ref q1, .int 10, .int 0, .int 12345, .ref q2, .ref q3, .int 0, .ref q4, .ref q5, .int 200, .int 20, .null, .int 0, .int 0, .int 0, .int 0, .int 0, .null])), (q1, .inr (0, [.int 0, .ref e, .int 0])), (q2, .inl (cA 0, 5, .inl (upd (upd (upd (upd (upd (fun _ => 0) 0 10) 1 20) 2 0) 3 0) 4 0))), (q3, .inr (2, [.int 0, .int 0, .int 0, .int 0])), (q4, .inl (cA 0, 4, .inl (upd (upd (upd (upd (fun _ => 0) 0 10) 1 10) 2 10) 3 10))), (q5, .inl (cA 0, 4, .inl (upd (upd (upd (upd (fun _ => 0) 0 10) 1 10) 2 10) 3 10)))])) rfl ?_
  refine g_aload_n (j := 0) B dX2_init_135 rfl rfl ?_
  refine g_iconst (v := 3) B dX2_init_136 (by decide) ?_
  refine g_newz (N := 3) B mw_36 (by decide) rfl (Nat.le_of_ble_eq_true rfl) (Nat.le_of_ble_eq_true rfl) (Nat.le_of_ble_eq_true rfl) dX2_init_137 (fun q6 => ?_)
  refine g_w (w' := (fun cA => [(q, .inr (3, [.ref q1, .int 10, .int 0, .int 12345, .ref q2, .ref q3, .int 0, .ref q4, .ref q5, .int 200, .int 20, .null, .int 0, .int 0, .int 0, .int 0, .int 0, .null])), (q1, .inr (0, [.int 0, .ref e, .int 0])), (q2, .inl (cA 0, 5, .inl (upd (upd (upd (upd (upd (fun _ => 0) 0 10) 1 20) 2 0) 3 0) 4 0))), (q3, .inr (2, [.int 0, .int 0, .int 0, .int 0])), (q4, .inl (cA 0, 4, .inl (upd (upd (upd (upd (fun _ => 0) 0 10) 1 10) 2 10) 3 10))), (q5, .inl (cA 0, 4, .inl (upd (upd (upd (upd (fun _ => 0) 0 10) 1 10) 2 10) 3 10))), (q6, .inl (cA 1, 3, .inl (fun _ => 0)))])) rfl ?_
  refine g_putF (C0 := RX2) (T := TX2) (N := 18) (ci := 3) (ref := (TX2 11).1) (ty := .array .boolean) 0 11 B rfl rfl (fun _ => rfl) rfl inlX2 tyX2_ok nmX2 (by decide) rfl rfl (by decide +kernel) rfl rfl (Nat.le_of_ble_eq_true rfl) mw_37 dX2_init_139 ?_
  refine g_w (w' := (fun cA => [(q, .inr (3, [.ref q1, .int 10, .int 0, .int 12345, .ref q2, .ref q3, .int 0, .ref q4, .ref q5, .int 200, .int 20, .ref q6, .int 0, .int 0, .int 0, .int 0, .int 0, .null])), (q1, .inr (0, [.int 0, .ref e, .int 0])), (q2, .inl (cA 0, 5, .inl (upd (upd (upd (upd (upd (fun _ => 0) 0 10) 1 20) 2 0) 3 0) 4 0))), (q3, .inr (2, [.int 0, .int 0, .int 0, .int 0])), (q4, .inl (cA 0, 4, .inl (upd (upd (upd (upd (fun _ => 0) 0 10) 1 10) 2 10) 3 10))), (q5, .inl (cA 0, 4, .inl (upd (upd (upd (upd (fun _ => 0) 0 10) 1 10) 2 10) 3 10))), (q6, .inl (cA 1, 3, .inl (fun _ => 0)))])) rfl ?_
  refine g_aload_n (j := 0) B dX2_init_142 rfl rfl ?_
  refine g_bipush (v := 6) B dX2_init_143 (by decide) ?_
  refine g_newi (N := 6) B mw_13 (by decide) rfl (Nat.le_of_ble_eq_true rfl) (Nat.le_of_ble_eq_true rfl) (Nat.le_of_ble_eq_true rfl) dX2_init_145 (fun q7 => ?_)
  refine g_w (w' := (fun cA => [(q, .inr (3, [.ref q1, .int 10, .int 0, .int 12345, .ref q2, .ref q3, .int 0, .ref q4, .ref q5, .int 200, .int 20, .ref q6, .int 0, .int 0, .int 0, .int 0, .int 0, .null])), (q1, .inr (0, [.int 0, .ref e, .int 0])), (q2, .inl (cA 0, 5, .inl (upd (upd (upd (upd (upd (fun _ => 0) 0 10) 1 20) 2 0) 3 0) 4 0))), (q3, .inr (2, [.int 0, .int 0, .int 0, .int 0])), (q4, .inl (cA 0, 4, .inl (upd (upd (upd (upd (fun _ => 0) 0 10) 1 10) 2 10) 3 10))), (q5, .inl (cA 0, 4, .inl (upd (upd (upd (upd (fun _ => 0) 0 10) 1 10) 2 10) 3 10))), (q6, .inl (cA 1, 3, .inl (fun _ => 0))), (q7, .inl (cA 0, 6, .inl (fun _ => 0)))])) rfl ?_
  refine g_putF (C0 := RX2) (T := TX2) (N := 18) (ci := 3) (ref := (TX2 17).1) (ty := .array .int) 0 17 B rfl rfl (fun _ => rfl) rfl inlX2 tyX2_ok nmX2 (by decide) rfl rfl (by decide +kernel) rfl rfl (Nat.le_of_ble_eq_true rfl) mw_38 dX2_init_147 ?_
  refine g_w (w' := (fun cA => [(q, .inr (3, [.ref q1, .int 10, .int 0, .int 12345, .ref q2, .ref q3, .int 0, .ref q4, .ref q5, .int 200, .int 20, .ref q6, .int 0, .int 0, .int 0, .int 0, .int 0, .ref q7])), (q1, .inr (0, [.int 0, .ref e, .int 0])), (q2, .inl (cA 0, 5, .inl (upd (upd (upd (upd (upd (fun _ => 0) 0 10) 1 20) 2 0) 3 0) 4 0))), (q3, .inr (2, [.int 0, .int 0, .int 0, .int 0])), (q4, .inl (cA 0, 4, .inl (upd (upd (upd (upd (fun _ => 0) 0 10) 1 10) 2 10) 3 10))), (q5, .inl (cA 0, 4, .inl (upd (upd (upd (upd (fun _ => 0) 0 10) 1 10) 2 10) 3 10))), (q6, .inl (cA 1, 3, .inl (fun _ => 0))), (q7, .inl (cA 0, 6, .inl (fun _ => 0)))])) rfl ?_
  exact g_vret C rfl (Nat.le_of_ble_eq_true rfl) (Nat.le_of_ble_eq_true rfl) dX2_init_150 ⟨rfl, q1, q2, q3, q4, q5, q6, q7, rfl⟩
