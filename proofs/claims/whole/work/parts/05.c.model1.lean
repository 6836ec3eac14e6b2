/-! The reference's smaller methods. -/
abbrev ml (M : Mem) (c : Int32) : Mem := up M 9 29 c
theorem c_X3_g0 {l : Launch} (hl : l.stackTraces = false) {n : Nat} {ρ : Nat → Nat} {J : Nat → Int64} {M : Mem} : CtO l yX3_goes cX3_goes 4 (some .boolean) 0 0 0 n ρ J M [.ref (ρ 9), .int 1, .int 1, .int 1] (rI 1 (ml M 0)) := by
  have h := c_X3_goes hl (n := n) (ρ := ρ) (J := J) (M := M) (f := 1) (s := 1) (t := 1)
  rw [show gr 1 1 1 = 1 from rfl, show gv 1 1 1 = 0 from rfl] at h
  exact h
theorem c_X3_g1 {l : Launch} (hl : l.stackTraces = false) {n : Nat} {ρ : Nat → Nat} {J : Nat → Int64} {M : Mem} {s t : Int32} : CtO l yX3_goes cX3_goes 4 (some .boolean) 0 0 0 n ρ J M [.ref (ρ 9), .int 0, .int s, .int t] (rI 0 (ml M 1)) := by
  have h := c_X3_goes hl (n := n) (ρ := ρ) (J := J) (M := M) (f := 0) (s := s) (t := t)
  rw [show gr 0 s t = 0 from rfl, show gv 0 s t = 1 from rfl] at h
  exact h
theorem c_X3_g2 {l : Launch} (hl : l.stackTraces = false) {n : Nat} {ρ : Nat → Nat} {J : Nat → Int64} {M : Mem} {t : Int32} : CtO l yX3_goes cX3_goes 4 (some .boolean) 0 0 0 n ρ J M [.ref (ρ 9), .int 1, .int 0, .int t] (rI 0 (ml M 2)) := by
  have h := c_X3_goes hl (n := n) (ρ := ρ) (J := J) (M := M) (f := 1) (s := 0) (t := t)
  rw [show gr 1 0 t = 0 from rfl, show gv 1 0 t = 2 from rfl] at h
  exact h
theorem c_X3_g3 {l : Launch} (hl : l.stackTraces = false) {n : Nat} {ρ : Nat → Nat} {J : Nat → Int64} {M : Mem} : CtO l yX3_goes cX3_goes 4 (some .boolean) 0 0 0 n ρ J M [.ref (ρ 9), .int 1, .int 1, .int 0] (rI 0 (ml M 3)) := by
  have h := c_X3_goes hl (n := n) (ρ := ρ) (J := J) (M := M) (f := 1) (s := 1) (t := 0)
  rw [show gr 1 1 0 = 0 from rfl, show gv 1 1 0 = 3 from rfl] at h
  exact h
set_option maxRecDepth 100000 in
set_option maxHeartbeats 4000000 in
theorem c_X3_dock {l : Launch} (hl : l.stackTraces = false) {n : Nat} {ρ : Nat → Nat} {J : Nat → Int64} {M : Mem} {x : Int32} (h : ¬ (x < 0 ∨ 50 < x)) : CtO l yX3_dock cX3_dock 3 (some .int) 1 0 0 n ρ J M [.ref (ρ 9), .int x] (rI (ml M 0 9 18) (up (ml M 0) 9 18 x)) := by
  refine CtO.of hl (by decide +kernel) (Nat.le_of_ble_eq_true rfl) (fun Ξ hnL C => ?_)
  show E Ξ n ρ J M 0 0 0 [(0, .ref (ρ 9)), (1, .int x)] []
  refine e_aload_n (j := 0) C dX3_dock_0 rfl rfl ?_
  refine e_iload_n (j := 1) C dX3_dock_1 rfl rfl ?_
  refine e_iconst (v := 0) C dX3_dock_2 (by decide) ?_
  refine e_bipush (v := 50) C dX3_dock_3 (by decide) ?_
  refine e_cS (nA := 3) C (c_X3_in1 hl (rng_ok h).1 (rng_ok h).2) rfl mw_216 mw_214 mw_215 mw_5 (by decide +kernel) (by decide) rfl rfl (Nat.le_of_ble_eq_true rfl) dX3_dock_5 (Nat.le_of_ble_eq_true rfl) (Nat.le_of_ble_eq_true rfl) ?_
  refine e_iconst (v := 1) C dX3_dock_8 (by decide) ?_
  refine e_iconst (v := 1) C dX3_dock_9 (by decide) ?_
  refine e_cV (i := 9) (nA := 3) (Cn := RX3) C (c_X3_g0 hl) rfl (cnt_fix (by decide)) (fun _ => rfl) rfl rfl mw_162 mw_159 mw_160 mw_161 mw_5 (by decide +kernel) (by decide) rfl rfl (Nat.le_of_ble_eq_true rfl) dX3_dock_10 (Nat.le_of_ble_eq_true rfl) (Nat.le_of_ble_eq_true rfl) ?_
  refine e_if_ne (tgt := 18) C dX3_dock_13 (by decide) (fun c_13 => ?_) (fun c_13 => absurd c_13 (by decide))
  refine e_aload_n (j := 0) C dX3_dock_18 rfl rfl ?_
  refine e_get3 (k := 18) (ref := "ScripHollowModel") C (by decide) rfl rfl mw_71 dX3_dock_19 ?_
  refine e_topi (fun x2_22 ex2_22 => ?_)
  refine e_istore_n (ls2 := [(2, .int x2_22), (0, .ref (ρ 9)), (1, .int x)]) C hnL dX3_dock_22 rfl (by decide) rfl ?_
  refine e_aload_n (j := 1) C dX3_dock_23 rfl rfl ?_
  refine e_iload_n (j := 2) C dX3_dock_24 rfl rfl ?_
  refine e_put3 (k := 18) (ref := "ScripHollowModel") (ty := .int) C (by decide) rfl rfl (by decide +kernel) rfl rfl rfl mw_71 dX3_dock_25 ?_
  refine e_iload_n (j := 0) C dX3_dock_28 rfl rfl ?_
  exact e_iret C rfl (Nat.le_of_ble_eq_true rfl) (Nat.le_of_ble_eq_true rfl) dX3_dock_29 (pO.mk (by subst_vars; rfl))
set_option maxRecDepth 100000 in
set_option maxHeartbeats 4000000 in
theorem c_X3_dock_x {l : Launch} (hl : l.stackTraces = false) {n : Nat} {ρ : Nat → Nat} {J : Nat → Int64} {M : Mem} {x : Int32} (h : x < 0 ∨ 50 < x) : CtO l yX3_dock cX3_dock 3 (some .int) 1 0 0 n ρ J M [.ref (ρ 9), .int x] (mo M 1 0) := by
  refine CtO.of hl (by decide +kernel) (Nat.le_of_ble_eq_true rfl) (fun Ξ hnL C => ?_)
  show E Ξ n ρ J M 0 0 0 [(0, .ref (ρ 9)), (1, .int x)] []
  refine e_aload_n (j := 0) C dX3_dock_0 rfl rfl ?_
  refine e_iload_n (j := 1) C dX3_dock_1 rfl rfl ?_
  refine e_iconst (v := 0) C dX3_dock_2 (by decide) ?_
  refine e_bipush (v := 50) C dX3_dock_3 (by decide) ?_
  refine e_cS (nA := 3) C (c_X3_in0 hl h) rfl mw_216 mw_214 mw_215 mw_5 (by decide +kernel) (by decide) rfl rfl (Nat.le_of_ble_eq_true rfl) dX3_dock_5 (Nat.le_of_ble_eq_true rfl) (Nat.le_of_ble_eq_true rfl) ?_
  refine e_iconst (v := 1) C dX3_dock_8 (by decide) ?_
  refine e_iconst (v := 1) C dX3_dock_9 (by decide) ?_
  refine e_cV (i := 9) (nA := 3) (Cn := RX3) C (c_X3_g1 hl) rfl (cnt_fix (by decide)) (fun _ => rfl) rfl rfl mw_162 mw_159 mw_160 mw_161 mw_5 (by decide +kernel) (by decide) rfl rfl (Nat.le_of_ble_eq_true rfl) dX3_dock_10 (Nat.le_of_ble_eq_true rfl) (Nat.le_of_ble_eq_true rfl) ?_
  refine e_if_ne (tgt := 18) C dX3_dock_13 (by decide) (fun c_13 => absurd (by decide) c_13) (fun c_13 => ?_)
  refine e_iconst (v := 0) C dX3_dock_16 (by decide) ?_
  exact e_iret C rfl (Nat.le_of_ble_eq_true rfl) (Nat.le_of_ble_eq_true rfl) dX3_dock_17 (pO.mk rfl)
set_option maxRecDepth 100000 in
set_option maxHeartbeats 4000000 in
theorem c_X3_limit {l : Launch} (hl : l.stackTraces = false) {n : Nat} {ρ : Nat → Nat} {J : Nat → Int64} {M : Mem} {x : Int32} (h : ¬ (x < 0 ∨ 1000 < x)) : CtO l yX3_limit cX3_limit 3 (some .int) 1 0 0 n ρ J M [.ref (ρ 9), .int x] (rI (ml M 0 9 22) (up (ml M 0) 9 22 x)) := by
  refine CtO.of hl (by decide +kernel) (Nat.le_of_ble_eq_true rfl) (fun Ξ hnL C => ?_)
  show E Ξ n ρ J M 0 0 0 [(0, .ref (ρ 9)), (1, .int x)] []
  refine e_aload_n (j := 0) C dX3_limit_0 rfl rfl ?_
  refine e_iload_n (j := 1) C dX3_limit_1 rfl rfl ?_
  refine e_iconst (v := 0) C dX3_limit_2 (by decide) ?_
  refine e_sipush (v := 1000) C dX3_limit_3 (by decide) ?_
  refine e_cS (nA := 3) C (c_X3_in1 hl (rng_ok h).1 (rng_ok h).2) rfl mw_216 mw_214 mw_215 mw_5 (by decide +kernel) (by decide) rfl rfl (Nat.le_of_ble_eq_true rfl) dX3_limit_6 (Nat.le_of_ble_eq_true rfl) (Nat.le_of_ble_eq_true rfl) ?_
  refine e_iconst (v := 1) C dX3_limit_9 (by decide) ?_
  refine e_iconst (v := 1) C dX3_limit_10 (by decide) ?_
  refine e_cV (i := 9) (nA := 3) (Cn := RX3) C (c_X3_g0 hl) rfl (cnt_fix (by decide)) (fun _ => rfl) rfl rfl mw_162 mw_159 mw_160 mw_161 mw_5 (by decide +kernel) (by decide) rfl rfl (Nat.le_of_ble_eq_true rfl) dX3_limit_11 (Nat.le_of_ble_eq_true rfl) (Nat.le_of_ble_eq_true rfl) ?_
  refine e_if_ne (tgt := 19) C dX3_limit_14 (by decide) (fun c_14 => ?_) (fun c_14 => absurd c_14 (by decide))
  refine e_aload_n (j := 0) C dX3_limit_19 rfl rfl ?_
  refine e_get3 (k := 22) (ref := "ScripHollowModel") C (by decide) rfl rfl mw_73 dX3_limit_20 ?_
  refine e_topi (fun x2_23 ex2_23 => ?_)
  refine e_istore_n (ls2 := [(2, .int x2_23), (0, .ref (ρ 9)), (1, .int x)]) C hnL dX3_limit_23 rfl (by decide) rfl ?_
  refine e_aload_n (j := 1) C dX3_limit_24 rfl rfl ?_
  refine e_iload_n (j := 2) C dX3_limit_25 rfl rfl ?_
  refine e_put3 (k := 22) (ref := "ScripHollowModel") (ty := .int) C (by decide) rfl rfl (by decide +kernel) rfl rfl rfl mw_73 dX3_limit_26 ?_
  refine e_iload_n (j := 0) C dX3_limit_29 rfl rfl ?_
  exact e_iret C rfl (Nat.le_of_ble_eq_true rfl) (Nat.le_of_ble_eq_true rfl) dX3_limit_30 (pO.mk (by subst_vars; rfl))
set_option maxRecDepth 100000 in
set_option maxHeartbeats 4000000 in
theorem c_X3_limit_x {l : Launch} (hl : l.stackTraces = false) {n : Nat} {ρ : Nat → Nat} {J : Nat → Int64} {M : Mem} {x : Int32} (h : x < 0 ∨ 1000 < x) : CtO l yX3_limit cX3_limit 3 (some .int) 1 0 0 n ρ J M [.ref (ρ 9), .int x] (mo M 1 0) := by
  refine CtO.of hl (by decide +kernel) (Nat.le_of_ble_eq_true rfl) (fun Ξ hnL C => ?_)
  show E Ξ n ρ J M 0 0 0 [(0, .ref (ρ 9)), (1, .int x)] []
  refine e_aload_n (j := 0) C dX3_limit_0 rfl rfl ?_
  refine e_iload_n (j := 1) C dX3_limit_1 rfl rfl ?_
  refine e_iconst (v := 0) C dX3_limit_2 (by decide) ?_
  refine e_sipush (v := 1000) C dX3_limit_3 (by decide) ?_
  refine e_cS (nA := 3) C (c_X3_in0 hl h) rfl mw_216 mw_214 mw_215 mw_5 (by decide +kernel) (by decide) rfl rfl (Nat.le_of_ble_eq_true rfl) dX3_limit_6 (Nat.le_of_ble_eq_true rfl) (Nat.le_of_ble_eq_true rfl) ?_
  refine e_iconst (v := 1) C dX3_limit_9 (by decide) ?_
  refine e_iconst (v := 1) C dX3_limit_10 (by decide) ?_
  refine e_cV (i := 9) (nA := 3) (Cn := RX3) C (c_X3_g1 hl) rfl (cnt_fix (by decide)) (fun _ => rfl) rfl rfl mw_162 mw_159 mw_160 mw_161 mw_5 (by decide +kernel) (by decide) rfl rfl (Nat.le_of_ble_eq_true rfl) dX3_limit_11 (Nat.le_of_ble_eq_true rfl) (Nat.le_of_ble_eq_true rfl) ?_
  refine e_if_ne (tgt := 19) C dX3_limit_14 (by decide) (fun c_14 => absurd (by decide) c_14) (fun c_14 => ?_)
  refine e_iconst (v := 0) C dX3_limit_17 (by decide) ?_
  exact e_iret C rfl (Nat.le_of_ble_eq_true rfl) (Nat.le_of_ble_eq_true rfl) dX3_limit_18 (pO.mk rfl)
set_option maxRecDepth 100000 in
set_option maxHeartbeats 4000000 in
theorem c_X3_discount {l : Launch} (hl : l.stackTraces = false) {n : Nat} {ρ : Nat → Nat} {J : Nat → Int64} {M : Mem} {x : Int32} (h : ¬ (x < 0 ∨ 90 < x)) : CtO l yX3_discount cX3_discount 3 (some .int) 1 0 0 n ρ J M [.ref (ρ 9), .int x] (rI (ml M 0 9 23) (up (ml M 0) 9 23 x)) := by
  refine CtO.of hl (by decide +kernel) (Nat.le_of_ble_eq_true rfl) (fun Ξ hnL C => ?_)
  show E Ξ n ρ J M 0 0 0 [(0, .ref (ρ 9)), (1, .int x)] []
  refine e_aload_n (j := 0) C dX3_discount_0 rfl rfl ?_
  refine e_iload_n (j := 1) C dX3_discount_1 rfl rfl ?_
  refine e_iconst (v := 0) C dX3_discount_2 (by decide) ?_
  refine e_bipush (v := 90) C dX3_discount_3 (by decide) ?_
  refine e_cS (nA := 3) C (c_X3_in1 hl (rng_ok h).1 (rng_ok h).2) rfl mw_216 mw_214 mw_215 mw_5 (by decide +kernel) (by decide) rfl rfl (Nat.le_of_ble_eq_true rfl) dX3_discount_5 (Nat.le_of_ble_eq_true rfl) (Nat.le_of_ble_eq_true rfl) ?_
  refine e_iconst (v := 1) C dX3_discount_8 (by decide) ?_
  refine e_iconst (v := 1) C dX3_discount_9 (by decide) ?_
  refine e_cV (i := 9) (nA := 3) (Cn := RX3) C (c_X3_g0 hl) rfl (cnt_fix (by decide)) (fun _ => rfl) rfl rfl mw_162 mw_159 mw_160 mw_161 mw_5 (by decide +kernel) (by decide) rfl rfl (Nat.le_of_ble_eq_true rfl) dX3_discount_10 (Nat.le_of_ble_eq_true rfl) (Nat.le_of_ble_eq_true rfl) ?_
  refine e_if_ne (tgt := 18) C dX3_discount_13 (by decide) (fun c_13 => ?_) (fun c_13 => absurd c_13 (by decide))
  refine e_aload_n (j := 0) C dX3_discount_18 rfl rfl ?_
  refine e_get3 (k := 23) (ref := "ScripHollowModel") C (by decide) rfl rfl mw_74 dX3_discount_19 ?_
  refine e_topi (fun x2_22 ex2_22 => ?_)
  refine e_istore_n (ls2 := [(2, .int x2_22), (0, .ref (ρ 9)), (1, .int x)]) C hnL dX3_discount_22 rfl (by decide) rfl ?_
  refine e_aload_n (j := 1) C dX3_discount_23 rfl rfl ?_
  refine e_iload_n (j := 2) C dX3_discount_24 rfl rfl ?_
  refine e_put3 (k := 23) (ref := "ScripHollowModel") (ty := .int) C (by decide) rfl rfl (by decide +kernel) rfl rfl rfl mw_74 dX3_discount_25 ?_
  refine e_iload_n (j := 0) C dX3_discount_28 rfl rfl ?_
  exact e_iret C rfl (Nat.le_of_ble_eq_true rfl) (Nat.le_of_ble_eq_true rfl) dX3_discount_29 (pO.mk (by subst_vars; rfl))
set_option maxRecDepth 100000 in
set_option maxHeartbeats 4000000 in
theorem c_X3_discount_x {l : Launch} (hl : l.stackTraces = false) {n : Nat} {ρ : Nat → Nat} {J : Nat → Int64} {M : Mem} {x : Int32} (h : x < 0 ∨ 90 < x) : CtO l yX3_discount cX3_discount 3 (some .int) 1 0 0 n ρ J M [.ref (ρ 9), .int x] (mo M 1 0) := by
  refine CtO.of hl (by decide +kernel) (Nat.le_of_ble_eq_true rfl) (fun Ξ hnL C => ?_)
  show E Ξ n ρ J M 0 0 0 [(0, .ref (ρ 9)), (1, .int x)] []
  refine e_aload_n (j := 0) C dX3_discount_0 rfl rfl ?_
  refine e_iload_n (j := 1) C dX3_discount_1 rfl rfl ?_
  refine e_iconst (v := 0) C dX3_discount_2 (by decide) ?_
  refine e_bipush (v := 90) C dX3_discount_3 (by decide) ?_
  refine e_cS (nA := 3) C (c_X3_in0 hl h) rfl mw_216 mw_214 mw_215 mw_5 (by decide +kernel) (by decide) rfl rfl (Nat.le_of_ble_eq_true rfl) dX3_discount_5 (Nat.le_of_ble_eq_true rfl) (Nat.le_of_ble_eq_true rfl) ?_
  refine e_iconst (v := 1) C dX3_discount_8 (by decide) ?_
  refine e_iconst (v := 1) C dX3_discount_9 (by decide) ?_
  refine e_cV (i := 9) (nA := 3) (Cn := RX3) C (c_X3_g1 hl) rfl (cnt_fix (by decide)) (fun _ => rfl) rfl rfl mw_162 mw_159 mw_160 mw_161 mw_5 (by decide +kernel) (by decide) rfl rfl (Nat.le_of_ble_eq_true rfl) dX3_discount_10 (Nat.le_of_ble_eq_true rfl) (Nat.le_of_ble_eq_true rfl) ?_
  refine e_if_ne (tgt := 18) C dX3_discount_13 (by decide) (fun c_13 => absurd (by decide) c_13) (fun c_13 => ?_)
  refine e_iconst (v := 0) C dX3_discount_16 (by decide) ?_
  exact e_iret C rfl (Nat.le_of_ble_eq_true rfl) (Nat.le_of_ble_eq_true rfl) dX3_discount_17 (pO.mk rfl)
set_option maxRecDepth 100000 in
set_option maxHeartbeats 4000000 in
theorem c_X3_give {l : Launch} (hl : l.stackTraces = false) {n : Nat} {ρ : Nat → Nat} {J : Nat → Int64} {M : Mem} {x : Int32} (h : ¬ (x < 1 ∨ 1000 < x)) : CtO l yX3_give cX3_give 2 (some .int) 1 0 0 n ρ J M [.ref (ρ 9), .int x] (rI (up (ml M 0) 9 28 (ml M 0 9 28 + x) 9 28) (up (ml M 0) 9 28 (ml M 0 9 28 + x))) := by
  refine CtO.of hl (by decide +kernel) (Nat.le_of_ble_eq_true rfl) (fun Ξ hnL C => ?_)
  show E Ξ n ρ J M 0 0 0 [(0, .ref (ρ 9)), (1, .int x)] []
  refine e_aload_n (j := 0) C dX3_give_0 rfl rfl ?_
  refine e_iload_n (j := 1) C dX3_give_1 rfl rfl ?_
  refine e_iconst (v := 1) C dX3_give_2 (by decide) ?_
  refine e_sipush (v := 1000) C dX3_give_3 (by decide) ?_
  refine e_cS (nA := 3) C (c_X3_in1 hl (rng_ok h).1 (rng_ok h).2) rfl mw_216 mw_214 mw_215 mw_5 (by decide +kernel) (by decide) rfl rfl (Nat.le_of_ble_eq_true rfl) dX3_give_6 (Nat.le_of_ble_eq_true rfl) (Nat.le_of_ble_eq_true rfl) ?_
  refine e_iconst (v := 1) C dX3_give_9 (by decide) ?_
  refine e_iconst (v := 1) C dX3_give_10 (by decide) ?_
  refine e_cV (i := 9) (nA := 3) (Cn := RX3) C (c_X3_g0 hl) rfl (cnt_fix (by decide)) (fun _ => rfl) rfl rfl mw_162 mw_159 mw_160 mw_161 mw_5 (by decide +kernel) (by decide) rfl rfl (Nat.le_of_ble_eq_true rfl) dX3_give_11 (Nat.le_of_ble_eq_true rfl) (Nat.le_of_ble_eq_true rfl) ?_
  refine e_if_ne (tgt := 19) C dX3_give_14 (by decide) (fun c_14 => ?_) (fun c_14 => absurd c_14 (by decide))
  refine e_aload_n (j := 0) C dX3_give_19 rfl rfl ?_
  refine e_dup C dX3_give_20 rfl ?_
  refine e_get3 (k := 28) (ref := "ScripHollowModel") C (by decide) rfl rfl mw_637 dX3_give_21 ?_
  refine e_iload_n (j := 1) C dX3_give_24 rfl rfl ?_
  refine e_iadd C dX3_give_25 ?_
  refine e_put3 (k := 28) (ref := "ScripHollowModel") (ty := .int) C (by decide) rfl rfl (by decide +kernel) rfl rfl rfl mw_637 dX3_give_26 ?_
  refine e_aload_n (j := 0) C dX3_give_29 rfl rfl ?_
  refine e_get3 (k := 28) (ref := "ScripHollowModel") C (by decide) rfl rfl mw_637 dX3_give_30 ?_
  exact e_iret C rfl (Nat.le_of_ble_eq_true rfl) (Nat.le_of_ble_eq_true rfl) dX3_give_33 (pO.mk rfl)
set_option maxRecDepth 100000 in
set_option maxHeartbeats 4000000 in
theorem c_X3_give_x {l : Launch} (hl : l.stackTraces = false) {n : Nat} {ρ : Nat → Nat} {J : Nat → Int64} {M : Mem} {x : Int32} (h : x < 1 ∨ 1000 < x) : CtO l yX3_give cX3_give 2 (some .int) 1 0 0 n ρ J M [.ref (ρ 9), .int x] (mo M 1 0) := by
  refine CtO.of hl (by decide +kernel) (Nat.le_of_ble_eq_true rfl) (fun Ξ hnL C => ?_)
  show E Ξ n ρ J M 0 0 0 [(0, .ref (ρ 9)), (1, .int x)] []
  refine e_aload_n (j := 0) C dX3_give_0 rfl rfl ?_
  refine e_iload_n (j := 1) C dX3_give_1 rfl rfl ?_
  refine e_iconst (v := 1) C dX3_give_2 (by decide) ?_
  refine e_sipush (v := 1000) C dX3_give_3 (by decide) ?_
  refine e_cS (nA := 3) C (c_X3_in0 hl h) rfl mw_216 mw_214 mw_215 mw_5 (by decide +kernel) (by decide) rfl rfl (Nat.le_of_ble_eq_true rfl) dX3_give_6 (Nat.le_of_ble_eq_true rfl) (Nat.le_of_ble_eq_true rfl) ?_
  refine e_iconst (v := 1) C dX3_give_9 (by decide) ?_
  refine e_iconst (v := 1) C dX3_give_10 (by decide) ?_
  refine e_cV (i := 9) (nA := 3) (Cn := RX3) C (c_X3_g1 hl) rfl (cnt_fix (by decide)) (fun _ => rfl) rfl rfl mw_162 mw_159 mw_160 mw_161 mw_5 (by decide +kernel) (by decide) rfl rfl (Nat.le_of_ble_eq_true rfl) dX3_give_11 (Nat.le_of_ble_eq_true rfl) (Nat.le_of_ble_eq_true rfl) ?_
  refine e_if_ne (tgt := 19) C dX3_give_14 (by decide) (fun c_14 => absurd (by decide) c_14) (fun c_14 => ?_)
  refine e_iconst (v := 0) C dX3_give_17 (by decide) ?_
  exact e_iret C rfl (Nat.le_of_ble_eq_true rfl) (Nat.le_of_ble_eq_true rfl) dX3_give_18 (pO.mk rfl)
set_option maxRecDepth 100000 in
set_option maxHeartbeats 4000000 in
theorem c_X3_check {l : Launch} (hl : l.stackTraces = false) {n : Nat} {ρ : Nat → Nat} {J : Nat → Int64} {M : Mem} {x : Int32} (hx : isB x) (hb : isB (ml M 0 9 19)) : CtO l yX3_check cX3_check 3 (some .boolean) 0 0 0 n ρ J M [.ref (ρ 9), .int x] (rI (ml M 0 9 19) (up (ml M 0) 9 19 x)) := by
  refine CtO.of hl (by decide +kernel) (Nat.le_of_ble_eq_true rfl) (fun Ξ hnL C => ?_)
  show E Ξ n ρ J M 0 0 0 [(0, .ref (ρ 9)), (1, .int x)] []
  refine e_aload_n (j := 0) C dX3_check_0 rfl rfl ?_
  refine e_iconst (v := 0) C dX3_check_1 (by decide) ?_
  refine e_put3 (k := 29) (ref := "ScripHollowModel") (ty := .int) C (by decide) rfl rfl (by decide +kernel) rfl rfl rfl mw_163 dX3_check_2 ?_
  refine e_aload_n (j := 0) C dX3_check_5 rfl rfl ?_
  refine e_get3 (k := 19) (ref := "ScripHollowModel") C (by decide) rfl rfl mw_240 dX3_check_6 ?_
  refine e_topi (fun x2_9 ex2_9 => ?_)
  refine e_istore_n (ls2 := [(2, .int x2_9), (0, .ref (ρ 9)), (1, .int x)]) C hnL dX3_check_9 rfl (by decide) rfl ?_
  refine e_aload_n (j := 1) C dX3_check_10 rfl rfl ?_
  refine e_iload_n (j := 2) C dX3_check_11 rfl rfl ?_
  refine e_put3 (k := 19) (ref := "ScripHollowModel") (ty := .boolean) C (by decide) rfl rfl (by decide +kernel) (isB.nar (by assumption)) (isB.fit (by assumption)) rfl mw_240 dX3_check_12 ?_
  refine e_iload_n (j := 0) C dX3_check_15 rfl rfl ?_
  exact e_zret C rfl (isB.nar (by subst_vars; assumption)) (Nat.le_of_ble_eq_true rfl) (Nat.le_of_ble_eq_true rfl) dX3_check_16 (pO.mk (by subst_vars; rfl))
set_option maxRecDepth 100000 in
set_option maxHeartbeats 4000000 in
theorem c_X3_obey {l : Launch} (hl : l.stackTraces = false) {n : Nat} {ρ : Nat → Nat} {J : Nat → Int64} {M : Mem} {x : Int32} (hx : isB x) (hb : isB (ml M 0 9 24)) : CtO l yX3_obey cX3_obey 3 (some .boolean) 0 0 0 n ρ J M [.ref (ρ 9), .int x] (rI (ml M 0 9 24) (up (ml M 0) 9 24 x)) := by
  refine CtO.of hl (by decide +kernel) (Nat.le_of_ble_eq_true rfl) (fun Ξ hnL C => ?_)
  show E Ξ n ρ J M 0 0 0 [(0, .ref (ρ 9)), (1, .int x)] []
  refine e_aload_n (j := 0) C dX3_obey_0 rfl rfl ?_
  refine e_iconst (v := 0) C dX3_obey_1 (by decide) ?_
  refine e_put3 (k := 29) (ref := "ScripHollowModel") (ty := .int) C (by decide) rfl rfl (by decide +kernel) rfl rfl rfl mw_163 dX3_obey_2 ?_
  refine e_aload_n (j := 0) C dX3_obey_5 rfl rfl ?_
  refine e_get3 (k := 24) (ref := "ScripHollowModel") C (by decide) rfl rfl mw_367 dX3_obey_6 ?_
  refine e_topi (fun x2_9 ex2_9 => ?_)
  refine e_istore_n (ls2 := [(2, .int x2_9), (0, .ref (ρ 9)), (1, .int x)]) C hnL dX3_obey_9 rfl (by decide) rfl ?_
  refine e_aload_n (j := 1) C dX3_obey_10 rfl rfl ?_
  refine e_iload_n (j := 2) C dX3_obey_11 rfl rfl ?_
  refine e_put3 (k := 24) (ref := "ScripHollowModel") (ty := .boolean) C (by decide) rfl rfl (by decide +kernel) (isB.nar (by assumption)) (isB.fit (by assumption)) rfl mw_367 dX3_obey_12 ?_
  refine e_iload_n (j := 0) C dX3_obey_15 rfl rfl ?_
  exact e_zret C rfl (isB.nar (by subst_vars; assumption)) (Nat.le_of_ble_eq_true rfl) (Nat.le_of_ble_eq_true rfl) dX3_obey_16 (pO.mk (by subst_vars; rfl))
set_option maxRecDepth 100000 in
set_option maxHeartbeats 4000000 in
theorem c_X3_breaches {l : Launch} (hl : l.stackTraces = false) {n : Nat} {ρ : Nat → Nat} {J : Nat → Int64} {M : Mem}  : CtO l yX3_breaches cX3_breaches 1 (some .int) 0 0 0 n ρ J M [.ref (ρ 9)] (rI (ml M 0 9 25) (ml M 0)) := by
  refine CtO.of hl (by decide +kernel) (Nat.le_of_ble_eq_true rfl) (fun Ξ hnL C => ?_)
  show E Ξ n ρ J M 0 0 0 [(0, .ref (ρ 9))] []
  refine e_aload_n (j := 0) C dX3_breaches_0 rfl rfl ?_
  refine e_iconst (v := 0) C dX3_breaches_1 (by decide) ?_
  refine e_put3 (k := 29) (ref := "ScripHollowModel") (ty := .int) C (by decide) rfl rfl (by decide +kernel) rfl rfl rfl mw_163 dX3_breaches_2 ?_
  refine e_aload_n (j := 0) C dX3_breaches_5 rfl rfl ?_
  refine e_get3 (k := 25) (ref := "ScripHollowModel") C (by decide) rfl rfl mw_381 dX3_breaches_6 ?_
  exact e_iret C rfl (Nat.le_of_ble_eq_true rfl) (Nat.le_of_ble_eq_true rfl) dX3_breaches_9 (pO.mk rfl)
def omhN (M : Mem) (w : Int32) : Int32 := if M 9 19 = 0 then w * (100 - M 9 18) / 100 else w
def omhew (M : Mem) (k : Nat) (w : Int32) : Out := if w < 1 ∨ 1000 < w then mo M 2 0 else if M 10 k = 0 then mo M 3 0 else if M 9 26 = 0 then (if M 9 27 = 0 then rI (up (ml M 0) 13 k (ml M 0 13 k + omhN (ml M 0) w) 13 k) (up (ml M 0) 13 k (ml M 0 13 k + omhN (ml M 0) w)) else mo M 3 0) else mo M 3 0
set_option maxRecDepth 100000 in
set_option maxHeartbeats 4000000 in
theorem c_X3_hew_x {l : Launch} (hl : l.stackTraces = false) {n : Nat} {ρ : Nat → Nat} {J : Nat → Int64} {M : Mem} {x : Int32} (h : x < 0 ∨ nI n ≤ x) (hn : n ≤ 10) (hm : M 9 0 = nI n) {w : Int32} : CtO l yX3_hew cX3_hew 3 (some .int) 3 0 0 n ρ J M [.ref (ρ 9), .int x, .int w] (mo M 1 0) := by
  refine CtO.of hl (by decide +kernel) (Nat.le_of_ble_eq_true rfl) (fun Ξ hnL C => ?_)
  show E Ξ n ρ J M 0 0 0 [(0, .ref (ρ 9)), (1, .int x), (2, .int w)] []
  by_cases hw : w < 1 ∨ 1000 < w
  · refine e_aload_n (j := 0) C dX3_hew_0 rfl rfl ?_
    refine e_aload_n (j := 0) C dX3_hew_1 rfl rfl ?_
    refine e_iload_n (j := 1) C dX3_hew_2 rfl rfl ?_
    refine e_cV (i := 9) (nA := 1) (Cn := RX3) C (c_X3_isMiner_x hl h hn hm) rfl (cnt_fix (by decide)) (fun _ => rfl) rfl rfl mw_213 mw_210 mw_211 mw_212 mw_5 (by decide +kernel) (by decide) rfl rfl (Nat.le_of_ble_eq_true rfl) dX3_hew_3 (Nat.le_of_ble_eq_true rfl) (Nat.le_of_ble_eq_true rfl) ?_
    refine e_iload_n (j := 2) C dX3_hew_6 rfl rfl ?_
    refine e_iconst (v := 1) C dX3_hew_7 (by decide) ?_
    refine e_sipush (v := 1000) C dX3_hew_8 (by decide) ?_
    refine e_cS (nA := 3) C (c_X3_in0 hl hw) rfl mw_216 mw_214 mw_215 mw_5 (by decide +kernel) (by decide) rfl rfl (Nat.le_of_ble_eq_true rfl) dX3_hew_11 (Nat.le_of_ble_eq_true rfl) (Nat.le_of_ble_eq_true rfl) ?_
    refine e_aload_n (j := 0) C dX3_hew_14 rfl rfl ?_
    refine e_iload_n (j := 1) C dX3_hew_15 rfl rfl ?_
    refine e_cV (i := 9) (nA := 1) (Cn := RX3) C (c_X3_isAlive_x hl h hn hm) rfl (cnt_fix (by decide)) (fun _ => rfl) rfl rfl mw_264 mw_261 mw_262 mw_263 mw_5 (by decide +kernel) (by decide) rfl rfl (Nat.le_of_ble_eq_true rfl) dX3_hew_16 (Nat.le_of_ble_eq_true rfl) (Nat.le_of_ble_eq_true rfl) ?_
    refine e_if_eq (tgt := 40) C dX3_hew_19 (by decide) (fun c_19 => ?_) (fun c_19 => absurd (by decide) c_19)
    refine e_iconst (v := 0) C dX3_hew_40 (by decide) ?_
    refine e_cV (i := 9) (nA := 3) (Cn := RX3) C (c_X3_g1 hl) rfl (cnt_fix (by decide)) (fun _ => rfl) rfl rfl mw_162 mw_159 mw_160 mw_161 mw_5 (by decide +kernel) (by decide) rfl rfl (Nat.le_of_ble_eq_true rfl) dX3_hew_41 (Nat.le_of_ble_eq_true rfl) (Nat.le_of_ble_eq_true rfl) ?_
    refine e_if_ne (tgt := 49) C dX3_hew_44 (by decide) (fun c_44 => absurd (by decide) c_44) (fun c_44 => ?_)
    refine e_iconst (v := 0) C dX3_hew_47 (by decide) ?_
    exact e_iret C rfl (Nat.le_of_ble_eq_true rfl) (Nat.le_of_ble_eq_true rfl) dX3_hew_48 (pO.mk rfl)
  · refine e_aload_n (j := 0) C dX3_hew_0 rfl rfl ?_
    refine e_aload_n (j := 0) C dX3_hew_1 rfl rfl ?_
    refine e_iload_n (j := 1) C dX3_hew_2 rfl rfl ?_
    refine e_cV (i := 9) (nA := 1) (Cn := RX3) C (c_X3_isMiner_x hl h hn hm) rfl (cnt_fix (by decide)) (fun _ => rfl) rfl rfl mw_213 mw_210 mw_211 mw_212 mw_5 (by decide +kernel) (by decide) rfl rfl (Nat.le_of_ble_eq_true rfl) dX3_hew_3 (Nat.le_of_ble_eq_true rfl) (Nat.le_of_ble_eq_true rfl) ?_
    refine e_iload_n (j := 2) C dX3_hew_6 rfl rfl ?_
    refine e_iconst (v := 1) C dX3_hew_7 (by decide) ?_
    refine e_sipush (v := 1000) C dX3_hew_8 (by decide) ?_
    refine e_cS (nA := 3) C (c_X3_in1 hl (rng_ok hw).1 (rng_ok hw).2) rfl mw_216 mw_214 mw_215 mw_5 (by decide +kernel) (by decide) rfl rfl (Nat.le_of_ble_eq_true rfl) dX3_hew_11 (Nat.le_of_ble_eq_true rfl) (Nat.le_of_ble_eq_true rfl) ?_
    refine e_aload_n (j := 0) C dX3_hew_14 rfl rfl ?_
    refine e_iload_n (j := 1) C dX3_hew_15 rfl rfl ?_
    refine e_cV (i := 9) (nA := 1) (Cn := RX3) C (c_X3_isAlive_x hl h hn hm) rfl (cnt_fix (by decide)) (fun _ => rfl) rfl rfl mw_264 mw_261 mw_262 mw_263 mw_5 (by decide +kernel) (by decide) rfl rfl (Nat.le_of_ble_eq_true rfl) dX3_hew_16 (Nat.le_of_ble_eq_true rfl) (Nat.le_of_ble_eq_true rfl) ?_
    refine e_if_eq (tgt := 40) C dX3_hew_19 (by decide) (fun c_19 => ?_) (fun c_19 => absurd (by decide) c_19)
    refine e_iconst (v := 0) C dX3_hew_40 (by decide) ?_
    refine e_cV (i := 9) (nA := 3) (Cn := RX3) C (c_X3_g1 hl) rfl (cnt_fix (by decide)) (fun _ => rfl) rfl rfl mw_162 mw_159 mw_160 mw_161 mw_5 (by decide +kernel) (by decide) rfl rfl (Nat.le_of_ble_eq_true rfl) dX3_hew_41 (Nat.le_of_ble_eq_true rfl) (Nat.le_of_ble_eq_true rfl) ?_
    refine e_if_ne (tgt := 49) C dX3_hew_44 (by decide) (fun c_44 => absurd (by decide) c_44) (fun c_44 => ?_)
    refine e_iconst (v := 0) C dX3_hew_47 (by decide) ?_
    exact e_iret C rfl (Nat.le_of_ble_eq_true rfl) (Nat.le_of_ble_eq_true rfl) dX3_hew_48 (pO.mk rfl)
set_option maxRecDepth 100000 in
set_option maxHeartbeats 4000000 in
theorem c_X3_hew {l : Launch} (hl : l.stackTraces = false) {n : Nat} {ρ : Nat → Nat} {J : Nat → Int64} {M : Mem} {k : Nat} (hk : k < n) (hn : n ≤ 10) (hm : M 9 0 = nI n) {w : Int32} : CtO l yX3_hew cX3_hew 3 (some .int) 3 0 0 n ρ J M [.ref (ρ 9), .int (nI k), .int w] (omhew M k w) := by
  refine CtO.of hl (by decide +kernel) (Nat.le_of_ble_eq_true rfl) (fun Ξ hnL C => ?_)
  show E Ξ n ρ J M 0 0 0 [(0, .ref (ρ 9)), (1, .int (nI k)), (2, .int w)] []
  by_cases h : w < 1 ∨ 1000 < w
  · by_cases h2 : M 10 k = 0
    · refine e_aload_n (j := 0) C dX3_hew_0 rfl rfl ?_
      refine e_aload_n (j := 0) C dX3_hew_1 rfl rfl ?_
      refine e_iload_n (j := 1) C dX3_hew_2 rfl rfl ?_
      refine e_cV (i := 9) (nA := 1) (Cn := RX3) C (c_X3_isMiner hl hk hn hm) rfl (cnt_fix (by decide)) (fun _ => rfl) rfl rfl mw_213 mw_210 mw_211 mw_212 mw_5 (by decide +kernel) (by decide) rfl rfl (Nat.le_of_ble_eq_true rfl) dX3_hew_3 (Nat.le_of_ble_eq_true rfl) (Nat.le_of_ble_eq_true rfl) ?_
      refine e_iload_n (j := 2) C dX3_hew_6 rfl rfl ?_
      refine e_iconst (v := 1) C dX3_hew_7 (by decide) ?_
      refine e_sipush (v := 1000) C dX3_hew_8 (by decide) ?_
      refine e_cS (nA := 3) C (c_X3_in0 hl h) rfl mw_216 mw_214 mw_215 mw_5 (by decide +kernel) (by decide) rfl rfl (Nat.le_of_ble_eq_true rfl) dX3_hew_11 (Nat.le_of_ble_eq_true rfl) (Nat.le_of_ble_eq_true rfl) ?_
      refine e_aload_n (j := 0) C dX3_hew_14 rfl rfl ?_
      refine e_iload_n (j := 1) C dX3_hew_15 rfl rfl ?_
      refine e_cV (i := 9) (nA := 1) (Cn := RX3) C (c_X3_isAlive_d hl hk hn hm h2) rfl (cnt_fix (by decide)) (fun _ => rfl) rfl rfl mw_264 mw_261 mw_262 mw_263 mw_5 (by decide +kernel) (by decide) rfl rfl (Nat.le_of_ble_eq_true rfl) dX3_hew_16 (Nat.le_of_ble_eq_true rfl) (Nat.le_of_ble_eq_true rfl) ?_
      refine e_if_eq (tgt := 40) C dX3_hew_19 (by decide) (fun c_19 => ?_) (fun c_19 => absurd (by decide) c_19)
      refine e_iconst (v := 0) C dX3_hew_40 (by decide) ?_
      refine e_cV (i := 9) (nA := 3) (Cn := RX3) C (c_X3_g2 hl) rfl (cnt_fix (by decide)) (fun _ => rfl) rfl rfl mw_162 mw_159 mw_160 mw_161 mw_5 (by decide +kernel) (by decide) rfl rfl (Nat.le_of_ble_eq_true rfl) dX3_hew_41 (Nat.le_of_ble_eq_true rfl) (Nat.le_of_ble_eq_true rfl) ?_
      refine e_if_ne (tgt := 49) C dX3_hew_44 (by decide) (fun c_44 => absurd (by decide) c_44) (fun c_44 => ?_)
      refine e_iconst (v := 0) C dX3_hew_47 (by decide) ?_
      exact e_iret C rfl (Nat.le_of_ble_eq_true rfl) (Nat.le_of_ble_eq_true rfl) dX3_hew_48 (pO.mk (by unfold omhew; rw [if_pos h]))
    · refine e_aload_n (j := 0) C dX3_hew_0 rfl rfl ?_
      refine e_aload_n (j := 0) C dX3_hew_1 rfl rfl ?_
      refine e_iload_n (j := 1) C dX3_hew_2 rfl rfl ?_
      refine e_cV (i := 9) (nA := 1) (Cn := RX3) C (c_X3_isMiner hl hk hn hm) rfl (cnt_fix (by decide)) (fun _ => rfl) rfl rfl mw_213 mw_210 mw_211 mw_212 mw_5 (by decide +kernel) (by decide) rfl rfl (Nat.le_of_ble_eq_true rfl) dX3_hew_3 (Nat.le_of_ble_eq_true rfl) (Nat.le_of_ble_eq_true rfl) ?_
      refine e_iload_n (j := 2) C dX3_hew_6 rfl rfl ?_
      refine e_iconst (v := 1) C dX3_hew_7 (by decide) ?_
      refine e_sipush (v := 1000) C dX3_hew_8 (by decide) ?_
      refine e_cS (nA := 3) C (c_X3_in0 hl h) rfl mw_216 mw_214 mw_215 mw_5 (by decide +kernel) (by decide) rfl rfl (Nat.le_of_ble_eq_true rfl) dX3_hew_11 (Nat.le_of_ble_eq_true rfl) (Nat.le_of_ble_eq_true rfl) ?_
      refine e_aload_n (j := 0) C dX3_hew_14 rfl rfl ?_
      refine e_iload_n (j := 1) C dX3_hew_15 rfl rfl ?_
      refine e_cV (i := 9) (nA := 1) (Cn := RX3) C (c_X3_isAlive hl hk hn hm h2) rfl (cnt_fix (by decide)) (fun _ => rfl) rfl rfl mw_264 mw_261 mw_262 mw_263 mw_5 (by decide +kernel) (by decide) rfl rfl (Nat.le_of_ble_eq_true rfl) dX3_hew_16 (Nat.le_of_ble_eq_true rfl) (Nat.le_of_ble_eq_true rfl) ?_
      refine e_if_eq (tgt := 40) C dX3_hew_19 (by decide) (fun c_19 => absurd c_19 (by decide)) (fun c_19 => ?_)
      refine e_aload_n (j := 0) C dX3_hew_22 rfl rfl ?_
      refine e_get3 (k := 26) (ref := "ScripHollowModel") C (by decide) rfl rfl mw_259 dX3_hew_23 ?_
      refine e_if_ne (tgt := 40) C dX3_hew_26 (by decide) (fun c_26 => ?_) (fun c_26 => ?_)
      · refine e_iconst (v := 0) C dX3_hew_40 (by decide) ?_
        refine e_cV (i := 9) (nA := 3) (Cn := RX3) C (c_X3_g2 hl) rfl (cnt_fix (by decide)) (fun _ => rfl) rfl rfl mw_162 mw_159 mw_160 mw_161 mw_5 (by decide +kernel) (by decide) rfl rfl (Nat.le_of_ble_eq_true rfl) dX3_hew_41 (Nat.le_of_ble_eq_true rfl) (Nat.le_of_ble_eq_true rfl) ?_
        refine e_if_ne (tgt := 49) C dX3_hew_44 (by decide) (fun c_44 => absurd (by decide) c_44) (fun c_44 => ?_)
        refine e_iconst (v := 0) C dX3_hew_47 (by decide) ?_
        exact e_iret C rfl (Nat.le_of_ble_eq_true rfl) (Nat.le_of_ble_eq_true rfl) dX3_hew_48 (pO.mk (by unfold omhew; rw [if_pos h]))
      · refine e_aload_n (j := 0) C dX3_hew_29 rfl rfl ?_
        refine e_get3 (k := 27) (ref := "ScripHollowModel") C (by decide) rfl rfl mw_260 dX3_hew_30 ?_
        refine e_if_ne (tgt := 40) C dX3_hew_33 (by decide) (fun c_33 => ?_) (fun c_33 => ?_)
        · refine e_iconst (v := 0) C dX3_hew_40 (by decide) ?_
          refine e_cV (i := 9) (nA := 3) (Cn := RX3) C (c_X3_g2 hl) rfl (cnt_fix (by decide)) (fun _ => rfl) rfl rfl mw_162 mw_159 mw_160 mw_161 mw_5 (by decide +kernel) (by decide) rfl rfl (Nat.le_of_ble_eq_true rfl) dX3_hew_41 (Nat.le_of_ble_eq_true rfl) (Nat.le_of_ble_eq_true rfl) ?_
          refine e_if_ne (tgt := 49) C dX3_hew_44 (by decide) (fun c_44 => absurd (by decide) c_44) (fun c_44 => ?_)
          refine e_iconst (v := 0) C dX3_hew_47 (by decide) ?_
          exact e_iret C rfl (Nat.le_of_ble_eq_true rfl) (Nat.le_of_ble_eq_true rfl) dX3_hew_48 (pO.mk (by unfold omhew; rw [if_pos h]))
        · refine e_iconst (v := 1) C dX3_hew_36 (by decide) ?_
          refine e_goto (tgt := 41) C dX3_hew_37 (by decide) ?_
          refine e_cV (i := 9) (nA := 3) (Cn := RX3) C (c_X3_g2 hl) rfl (cnt_fix (by decide)) (fun _ => rfl) rfl rfl mw_162 mw_159 mw_160 mw_161 mw_5 (by decide +kernel) (by decide) rfl rfl (Nat.le_of_ble_eq_true rfl) dX3_hew_41 (Nat.le_of_ble_eq_true rfl) (Nat.le_of_ble_eq_true rfl) ?_
          refine e_if_ne (tgt := 49) C dX3_hew_44 (by decide) (fun c_44 => absurd (by decide) c_44) (fun c_44 => ?_)
          refine e_iconst (v := 0) C dX3_hew_47 (by decide) ?_
          exact e_iret C rfl (Nat.le_of_ble_eq_true rfl) (Nat.le_of_ble_eq_true rfl) dX3_hew_48 (pO.mk (by unfold omhew; rw [if_pos h]))
  · by_cases h2 : M 10 k = 0
    · refine e_aload_n (j := 0) C dX3_hew_0 rfl rfl ?_
      refine e_aload_n (j := 0) C dX3_hew_1 rfl rfl ?_
      refine e_iload_n (j := 1) C dX3_hew_2 rfl rfl ?_
      refine e_cV (i := 9) (nA := 1) (Cn := RX3) C (c_X3_isMiner hl hk hn hm) rfl (cnt_fix (by decide)) (fun _ => rfl) rfl rfl mw_213 mw_210 mw_211 mw_212 mw_5 (by decide +kernel) (by decide) rfl rfl (Nat.le_of_ble_eq_true rfl) dX3_hew_3 (Nat.le_of_ble_eq_true rfl) (Nat.le_of_ble_eq_true rfl) ?_
      refine e_iload_n (j := 2) C dX3_hew_6 rfl rfl ?_
      refine e_iconst (v := 1) C dX3_hew_7 (by decide) ?_
      refine e_sipush (v := 1000) C dX3_hew_8 (by decide) ?_
      refine e_cS (nA := 3) C (c_X3_in1 hl (rng_ok h).1 (rng_ok h).2) rfl mw_216 mw_214 mw_215 mw_5 (by decide +kernel) (by decide) rfl rfl (Nat.le_of_ble_eq_true rfl) dX3_hew_11 (Nat.le_of_ble_eq_true rfl) (Nat.le_of_ble_eq_true rfl) ?_
      refine e_aload_n (j := 0) C dX3_hew_14 rfl rfl ?_
      refine e_iload_n (j := 1) C dX3_hew_15 rfl rfl ?_
      refine e_cV (i := 9) (nA := 1) (Cn := RX3) C (c_X3_isAlive_d hl hk hn hm h2) rfl (cnt_fix (by decide)) (fun _ => rfl) rfl rfl mw_264 mw_261 mw_262 mw_263 mw_5 (by decide +kernel) (by decide) rfl rfl (Nat.le_of_ble_eq_true rfl) dX3_hew_16 (Nat.le_of_ble_eq_true rfl) (Nat.le_of_ble_eq_true rfl) ?_
      refine e_if_eq (tgt := 40) C dX3_hew_19 (by decide) (fun c_19 => ?_) (fun c_19 => absurd (by decide) c_19)
      refine e_iconst (v := 0) C dX3_hew_40 (by decide) ?_
      refine e_cV (i := 9) (nA := 3) (Cn := RX3) C (c_X3_g3 hl) rfl (cnt_fix (by decide)) (fun _ => rfl) rfl rfl mw_162 mw_159 mw_160 mw_161 mw_5 (by decide +kernel) (by decide) rfl rfl (Nat.le_of_ble_eq_true rfl) dX3_hew_41 (Nat.le_of_ble_eq_true rfl) (Nat.le_of_ble_eq_true rfl) ?_
      refine e_if_ne (tgt := 49) C dX3_hew_44 (by decide) (fun c_44 => absurd (by decide) c_44) (fun c_44 => ?_)
      refine e_iconst (v := 0) C dX3_hew_47 (by decide) ?_
      exact e_iret C rfl (Nat.le_of_ble_eq_true rfl) (Nat.le_of_ble_eq_true rfl) dX3_hew_48 (pO.mk (by unfold omhew omhN; (repeat (first | rw [if_neg h] | rw [if_pos h2] | rw [if_pos c_19] | rw [if_pos c_44])); (try rfl)))
    · refine e_aload_n (j := 0) C dX3_hew_0 rfl rfl ?_
      refine e_aload_n (j := 0) C dX3_hew_1 rfl rfl ?_
      refine e_iload_n (j := 1) C dX3_hew_2 rfl rfl ?_
      refine e_cV (i := 9) (nA := 1) (Cn := RX3) C (c_X3_isMiner hl hk hn hm) rfl (cnt_fix (by decide)) (fun _ => rfl) rfl rfl mw_213 mw_210 mw_211 mw_212 mw_5 (by decide +kernel) (by decide) rfl rfl (Nat.le_of_ble_eq_true rfl) dX3_hew_3 (Nat.le_of_ble_eq_true rfl) (Nat.le_of_ble_eq_true rfl) ?_
      refine e_iload_n (j := 2) C dX3_hew_6 rfl rfl ?_
      refine e_iconst (v := 1) C dX3_hew_7 (by decide) ?_
      refine e_sipush (v := 1000) C dX3_hew_8 (by decide) ?_
      refine e_cS (nA := 3) C (c_X3_in1 hl (rng_ok h).1 (rng_ok h).2) rfl mw_216 mw_214 mw_215 mw_5 (by decide +kernel) (by decide) rfl rfl (Nat.le_of_ble_eq_true rfl) dX3_hew_11 (Nat.le_of_ble_eq_true rfl) (Nat.le_of_ble_eq_true rfl) ?_
      refine e_aload_n (j := 0) C dX3_hew_14 rfl rfl ?_
      refine e_iload_n (j := 1) C dX3_hew_15 rfl rfl ?_
      refine e_cV (i := 9) (nA := 1) (Cn := RX3) C (c_X3_isAlive hl hk hn hm h2) rfl (cnt_fix (by decide)) (fun _ => rfl) rfl rfl mw_264 mw_261 mw_262 mw_263 mw_5 (by decide +kernel) (by decide) rfl rfl (Nat.le_of_ble_eq_true rfl) dX3_hew_16 (Nat.le_of_ble_eq_true rfl) (Nat.le_of_ble_eq_true rfl) ?_
      refine e_if_eq (tgt := 40) C dX3_hew_19 (by decide) (fun c_19 => absurd c_19 (by decide)) (fun c_19 => ?_)
      refine e_aload_n (j := 0) C dX3_hew_22 rfl rfl ?_
      refine e_get3 (k := 26) (ref := "ScripHollowModel") C (by decide) rfl rfl mw_259 dX3_hew_23 ?_
      refine e_if_ne (tgt := 40) C dX3_hew_26 (by decide) (fun c_26 => ?_) (fun c_26 => ?_)
      · refine e_iconst (v := 0) C dX3_hew_40 (by decide) ?_
        refine e_cV (i := 9) (nA := 3) (Cn := RX3) C (c_X3_g3 hl) rfl (cnt_fix (by decide)) (fun _ => rfl) rfl rfl mw_162 mw_159 mw_160 mw_161 mw_5 (by decide +kernel) (by decide) rfl rfl (Nat.le_of_ble_eq_true rfl) dX3_hew_41 (Nat.le_of_ble_eq_true rfl) (Nat.le_of_ble_eq_true rfl) ?_
        refine e_if_ne (tgt := 49) C dX3_hew_44 (by decide) (fun c_44 => absurd (by decide) c_44) (fun c_44 => ?_)
        refine e_iconst (v := 0) C dX3_hew_47 (by decide) ?_
        exact e_iret C rfl (Nat.le_of_ble_eq_true rfl) (Nat.le_of_ble_eq_true rfl) dX3_hew_48 (pO.mk (by unfold omhew omhN; (repeat (first | rw [if_neg h] | rw [if_neg h2] | rw [if_neg c_19] | rw [if_neg c_26] | rw [if_pos c_44])); (try rfl)))
      · refine e_aload_n (j := 0) C dX3_hew_29 rfl rfl ?_
        refine e_get3 (k := 27) (ref := "ScripHollowModel") C (by decide) rfl rfl mw_260 dX3_hew_30 ?_
        refine e_if_ne (tgt := 40) C dX3_hew_33 (by decide) (fun c_33 => ?_) (fun c_33 => ?_)
        · refine e_iconst (v := 0) C dX3_hew_40 (by decide) ?_
          refine e_cV (i := 9) (nA := 3) (Cn := RX3) C (c_X3_g3 hl) rfl (cnt_fix (by decide)) (fun _ => rfl) rfl rfl mw_162 mw_159 mw_160 mw_161 mw_5 (by decide +kernel) (by decide) rfl rfl (Nat.le_of_ble_eq_true rfl) dX3_hew_41 (Nat.le_of_ble_eq_true rfl) (Nat.le_of_ble_eq_true rfl) ?_
          refine e_if_ne (tgt := 49) C dX3_hew_44 (by decide) (fun c_44 => absurd (by decide) c_44) (fun c_44 => ?_)
          refine e_iconst (v := 0) C dX3_hew_47 (by decide) ?_
          exact e_iret C rfl (Nat.le_of_ble_eq_true rfl) (Nat.le_of_ble_eq_true rfl) dX3_hew_48 (pO.mk (by unfold omhew omhN; (repeat (first | rw [if_neg h] | rw [if_neg h2] | rw [if_neg c_19] | rw [if_pos c_26] | rw [if_neg c_33] | rw [if_pos c_44])); (try rfl)))
        · refine e_iconst (v := 1) C dX3_hew_36 (by decide) ?_
          refine e_goto (tgt := 41) C dX3_hew_37 (by decide) ?_
          refine e_cV (i := 9) (nA := 3) (Cn := RX3) C (c_X3_g0 hl) rfl (cnt_fix (by decide)) (fun _ => rfl) rfl rfl mw_162 mw_159 mw_160 mw_161 mw_5 (by decide +kernel) (by decide) rfl rfl (Nat.le_of_ble_eq_true rfl) dX3_hew_41 (Nat.le_of_ble_eq_true rfl) (Nat.le_of_ble_eq_true rfl) ?_
          refine e_if_ne (tgt := 49) C dX3_hew_44 (by decide) (fun c_44 => ?_) (fun c_44 => absurd c_44 (by decide))
          refine e_aload_n (j := 0) C dX3_hew_49 rfl rfl ?_
          refine e_get3 (k := 4) (ref := "ScripHollowModel") C (by decide) rfl rfl mw_57 dX3_hew_50 ?_
          refine e_iload_n (j := 1) C dX3_hew_53 rfl rfl ?_
          refine e_dup2 C dX3_hew_54 rfl rfl ?_
          refine e_ialdN k C (cnt_fix (by decide)) (fun _ => rfl) rfl (by omega) (by decide) dX3_hew_55 ?_
          refine e_aload_n (j := 0) C dX3_hew_56 rfl rfl ?_
          refine e_get3 (k := 19) (ref := "ScripHollowModel") C (by decide) rfl rfl mw_240 dX3_hew_57 ?_
          refine e_if_eq (tgt := 67) C dX3_hew_60 (by decide) (fun c_60 => ?_) (fun c_60 => ?_)
          · refine e_iload_n (j := 2) C dX3_hew_67 rfl rfl ?_
            refine e_bipush (v := 100) C dX3_hew_68 (by decide) ?_
            refine e_aload_n (j := 0) C dX3_hew_70 rfl rfl ?_
            refine e_get3 (k := 18) (ref := "ScripHollowModel") C (by decide) rfl rfl mw_71 dX3_hew_71 ?_
            refine e_isub C dX3_hew_74 ?_
            refine e_imul C dX3_hew_75 ?_
            refine e_bipush (v := 100) C dX3_hew_76 (by decide) ?_
            refine e_idiv C dX3_hew_78 (by decide) ?_
            refine e_iadd C dX3_hew_79 ?_
            refine e_iastN k C (cnt_fix (by decide)) (fun _ _ => rfl) rfl (by omega) (by decide) dX3_hew_80 ?_
            refine e_aload_n (j := 0) C dX3_hew_81 rfl rfl ?_
            refine e_get3 (k := 4) (ref := "ScripHollowModel") C (by decide) rfl rfl mw_57 dX3_hew_82 ?_
            refine e_iload_n (j := 1) C dX3_hew_85 rfl rfl ?_
            refine e_ialdN k C (cnt_fix (by decide)) (fun _ => rfl) rfl (by omega) (by decide) dX3_hew_86 ?_
            exact e_iret C rfl (Nat.le_of_ble_eq_true rfl) (Nat.le_of_ble_eq_true rfl) dX3_hew_87 (pO.mk (by unfold omhew omhN; (repeat (first | rw [if_neg h] | rw [if_neg h2] | rw [if_neg c_19] | rw [if_pos c_26] | rw [if_pos c_33] | rw [if_neg c_44] | rw [if_pos c_60])); (try rfl)))
          · refine e_iload_n (j := 2) C dX3_hew_63 rfl rfl ?_
            refine e_goto (tgt := 79) C dX3_hew_64 (by decide) ?_
            refine e_iadd C dX3_hew_79 ?_
            refine e_iastN k C (cnt_fix (by decide)) (fun _ _ => rfl) rfl (by omega) (by decide) dX3_hew_80 ?_
            refine e_aload_n (j := 0) C dX3_hew_81 rfl rfl ?_
            refine e_get3 (k := 4) (ref := "ScripHollowModel") C (by decide) rfl rfl mw_57 dX3_hew_82 ?_
            refine e_iload_n (j := 1) C dX3_hew_85 rfl rfl ?_
            refine e_ialdN k C (cnt_fix (by decide)) (fun _ => rfl) rfl (by omega) (by decide) dX3_hew_86 ?_
            exact e_iret C rfl (Nat.le_of_ble_eq_true rfl) (Nat.le_of_ble_eq_true rfl) dX3_hew_87 (pO.mk (by unfold omhew omhN; (repeat (first | rw [if_neg h] | rw [if_neg h2] | rw [if_neg c_19] | rw [if_pos c_26] | rw [if_pos c_33] | rw [if_neg c_44] | rw [if_neg c_60])); (try rfl)))
def omkin (n : Nat) (M : Mem) (k : Nat) (y : Int32) : Out := if y = -1 then (if nI k = y then mo M 2 0 else rI (ml M 0 19 k) (up (ml M 0) 19 k y)) else if y < 0 ∨ nI n ≤ y then mo M 1 0 else if nI k = y then mo M 2 0 else rI (ml M 0 19 k) (up (ml M 0) 19 k y)
set_option maxRecDepth 100000 in
set_option maxHeartbeats 4000000 in
theorem c_X3_kin_x {l : Launch} (hl : l.stackTraces = false) {n : Nat} {ρ : Nat → Nat} {J : Nat → Int64} {M : Mem} {x : Int32} (h : x < 0 ∨ nI n ≤ x) (hn : n ≤ 10) (hm : M 9 0 = nI n) {y : Int32} : CtO l yX3_kin cX3_kin 4 (some .int) 3 0 0 n ρ J M [.ref (ρ 9), .int x, .int y] (mo M 1 0) := by
  refine CtO.of hl (by decide +kernel) (Nat.le_of_ble_eq_true rfl) (fun Ξ hnL C => ?_)
  show E Ξ n ρ J M 0 0 0 [(0, .ref (ρ 9)), (1, .int x), (2, .int y)] []
  refine e_aload_n (j := 0) C dX3_kin_0 rfl rfl ?_
  refine e_aload_n (j := 0) C dX3_kin_1 rfl rfl ?_
  refine e_iload_n (j := 1) C dX3_kin_2 rfl rfl ?_
  refine e_cV (i := 9) (nA := 1) (Cn := RX3) C (c_X3_isMiner_x hl h hn hm) rfl (cnt_fix (by decide)) (fun _ => rfl) rfl rfl mw_213 mw_210 mw_211 mw_212 mw_5 (by decide +kernel) (by decide) rfl rfl (Nat.le_of_ble_eq_true rfl) dX3_kin_3 (Nat.le_of_ble_eq_true rfl) (Nat.le_of_ble_eq_true rfl) ?_
  refine e_if_eq (tgt := 26) C dX3_kin_6 (by decide) (fun c_6 => ?_) (fun c_6 => absurd (by decide) c_6)
  refine e_iconst (v := 0) C dX3_kin_26 (by decide) ?_
  refine e_iload_n (j := 1) C dX3_kin_27 rfl rfl ?_
  refine e_iload_n (j := 2) C dX3_kin_28 rfl rfl ?_
  refine e_icmp_eq (tgt := 36) C dX3_kin_29 (by decide) (fun c_29 => ?_) (fun c_29 => ?_)
  · refine e_iconst (v := 0) C dX3_kin_36 (by decide) ?_
    refine e_iconst (v := 1) C dX3_kin_37 (by decide) ?_
    refine e_cV (i := 9) (nA := 3) (Cn := RX3) C (c_X3_g1 hl) rfl (cnt_fix (by decide)) (fun _ => rfl) rfl rfl mw_162 mw_159 mw_160 mw_161 mw_5 (by decide +kernel) (by decide) rfl rfl (Nat.le_of_ble_eq_true rfl) dX3_kin_38 (Nat.le_of_ble_eq_true rfl) (Nat.le_of_ble_eq_true rfl) ?_
    refine e_if_ne (tgt := 46) C dX3_kin_41 (by decide) (fun c_41 => absurd (by decide) c_41) (fun c_41 => ?_)
    refine e_iconst (v := 0) C dX3_kin_44 (by decide) ?_
    exact e_iret C rfl (Nat.le_of_ble_eq_true rfl) (Nat.le_of_ble_eq_true rfl) dX3_kin_45 (pO.mk rfl)
  · refine e_iconst (v := 1) C dX3_kin_32 (by decide) ?_
    refine e_goto (tgt := 37) C dX3_kin_33 (by decide) ?_
    refine e_iconst (v := 1) C dX3_kin_37 (by decide) ?_
    refine e_cV (i := 9) (nA := 3) (Cn := RX3) C (c_X3_g1 hl) rfl (cnt_fix (by decide)) (fun _ => rfl) rfl rfl mw_162 mw_159 mw_160 mw_161 mw_5 (by decide +kernel) (by decide) rfl rfl (Nat.le_of_ble_eq_true rfl) dX3_kin_38 (Nat.le_of_ble_eq_true rfl) (Nat.le_of_ble_eq_true rfl) ?_
    refine e_if_ne (tgt := 46) C dX3_kin_41 (by decide) (fun c_41 => absurd (by decide) c_41) (fun c_41 => ?_)
    refine e_iconst (v := 0) C dX3_kin_44 (by decide) ?_
    exact e_iret C rfl (Nat.le_of_ble_eq_true rfl) (Nat.le_of_ble_eq_true rfl) dX3_kin_45 (pO.mk rfl)
set_option maxRecDepth 100000 in
set_option maxHeartbeats 4000000 in
theorem c_X3_kin {l : Launch} (hl : l.stackTraces = false) {n : Nat} {ρ : Nat → Nat} {J : Nat → Int64} {M : Mem} {k : Nat} (hk : k < n) (hn : n ≤ 10) (hm : M 9 0 = nI n) {y : Int32} : CtO l yX3_kin cX3_kin 4 (some .int) 3 0 0 n ρ J M [.ref (ρ 9), .int (nI k), .int y] (omkin n M k y) := by
  refine CtO.of hl (by decide +kernel) (Nat.le_of_ble_eq_true rfl) (fun Ξ hnL C => ?_)
  show E Ξ n ρ J M 0 0 0 [(0, .ref (ρ 9)), (1, .int (nI k)), (2, .int y)] []
  by_cases hy : y = -1
  · refine e_aload_n (j := 0) C dX3_kin_0 rfl rfl ?_
    refine e_aload_n (j := 0) C dX3_kin_1 rfl rfl ?_
    refine e_iload_n (j := 1) C dX3_kin_2 rfl rfl ?_
    refine e_cV (i := 9) (nA := 1) (Cn := RX3) C (c_X3_isMiner hl hk hn hm) rfl (cnt_fix (by decide)) (fun _ => rfl) rfl rfl mw_213 mw_210 mw_211 mw_212 mw_5 (by decide +kernel) (by decide) rfl rfl (Nat.le_of_ble_eq_true rfl) dX3_kin_3 (Nat.le_of_ble_eq_true rfl) (Nat.le_of_ble_eq_true rfl) ?_
    refine e_if_eq (tgt := 26) C dX3_kin_6 (by decide) (fun c_6 => absurd c_6 (by decide)) (fun c_6 => ?_)
    refine e_iload_n (j := 2) C dX3_kin_9 rfl rfl ?_
    refine e_iconst (v := (-1)) C dX3_kin_10 (by decide) ?_
    refine e_icmp_eq (tgt := 22) C dX3_kin_11 (by decide) (fun c_11 => ?_) (fun c_11 => absurd hy c_11)
    refine e_iconst (v := 1) C dX3_kin_22 (by decide) ?_
    refine e_goto (tgt := 27) C dX3_kin_23 (by decide) ?_
    refine e_iload_n (j := 1) C dX3_kin_27 rfl rfl ?_
    refine e_iload_n (j := 2) C dX3_kin_28 rfl rfl ?_
    refine e_icmp_eq (tgt := 36) C dX3_kin_29 (by decide) (fun c_29 => ?_) (fun c_29 => ?_)
    · refine e_iconst (v := 0) C dX3_kin_36 (by decide) ?_
      refine e_iconst (v := 1) C dX3_kin_37 (by decide) ?_
      refine e_cV (i := 9) (nA := 3) (Cn := RX3) C (c_X3_g2 hl) rfl (cnt_fix (by decide)) (fun _ => rfl) rfl rfl mw_162 mw_159 mw_160 mw_161 mw_5 (by decide +kernel) (by decide) rfl rfl (Nat.le_of_ble_eq_true rfl) dX3_kin_38 (Nat.le_of_ble_eq_true rfl) (Nat.le_of_ble_eq_true rfl) ?_
      refine e_if_ne (tgt := 46) C dX3_kin_41 (by decide) (fun c_41 => absurd (by decide) c_41) (fun c_41 => ?_)
      refine e_iconst (v := 0) C dX3_kin_44 (by decide) ?_
      exact e_iret C rfl (Nat.le_of_ble_eq_true rfl) (Nat.le_of_ble_eq_true rfl) dX3_kin_45 (pO.mk (by (try subst ex3_52); unfold omkin; rw [if_pos hy]; (repeat (first | rw [if_pos hy] | rw [if_neg c_6] | rw [if_pos c_11] | rw [if_pos c_29] | rw [if_pos c_41]))))
    · refine e_iconst (v := 1) C dX3_kin_32 (by decide) ?_
      refine e_goto (tgt := 37) C dX3_kin_33 (by decide) ?_
      refine e_iconst (v := 1) C dX3_kin_37 (by decide) ?_
      refine e_cV (i := 9) (nA := 3) (Cn := RX3) C (c_X3_g0 hl) rfl (cnt_fix (by decide)) (fun _ => rfl) rfl rfl mw_162 mw_159 mw_160 mw_161 mw_5 (by decide +kernel) (by decide) rfl rfl (Nat.le_of_ble_eq_true rfl) dX3_kin_38 (Nat.le_of_ble_eq_true rfl) (Nat.le_of_ble_eq_true rfl) ?_
      refine e_if_ne (tgt := 46) C dX3_kin_41 (by decide) (fun c_41 => ?_) (fun c_41 => absurd c_41 (by decide))
      refine e_aload_n (j := 0) C dX3_kin_46 rfl rfl ?_
      refine e_get3 (k := 10) (ref := "ScripHollowModel") C (by decide) rfl rfl mw_63 dX3_kin_47 ?_
      refine e_iload_n (j := 1) C dX3_kin_50 rfl rfl ?_
      refine e_ialdN k C (cnt_fix (by decide)) (fun _ => rfl) rfl (by omega) (by decide) dX3_kin_51 ?_
      refine e_topi (fun x3_52 ex3_52 => ?_)
      refine e_istore_n (ls2 := [(3, .int x3_52), (0, .ref (ρ 9)), (1, .int (nI k)), (2, .int y)]) C hnL dX3_kin_52 rfl (by decide) rfl ?_
      refine e_aload_n (j := 1) C dX3_kin_53 rfl rfl ?_
      refine e_get3 (k := 10) (ref := "ScripHollowModel") C (by decide) rfl rfl mw_63 dX3_kin_54 ?_
      refine e_iload_n (j := 2) C dX3_kin_57 rfl rfl ?_
      refine e_iload_n (j := 3) C dX3_kin_58 rfl rfl ?_
      refine e_iastN k C (cnt_fix (by decide)) (fun _ _ => rfl) rfl (by omega) (by decide) dX3_kin_59 ?_
      refine e_iload_n (j := 0) C dX3_kin_60 rfl rfl ?_
      exact e_iret C rfl (Nat.le_of_ble_eq_true rfl) (Nat.le_of_ble_eq_true rfl) dX3_kin_61 (pO.mk (by (try subst ex3_52); unfold omkin; rw [if_pos hy]; (repeat (first | rw [if_pos hy] | rw [if_neg c_6] | rw [if_pos c_11] | rw [if_neg c_29] | rw [if_neg c_41]))))
  · rcases idx3 y (n := n) (by omega) with h | ⟨j, hj, ej⟩
    · refine e_aload_n (j := 0) C dX3_kin_0 rfl rfl ?_
      refine e_aload_n (j := 0) C dX3_kin_1 rfl rfl ?_
      refine e_iload_n (j := 1) C dX3_kin_2 rfl rfl ?_
      refine e_cV (i := 9) (nA := 1) (Cn := RX3) C (c_X3_isMiner hl hk hn hm) rfl (cnt_fix (by decide)) (fun _ => rfl) rfl rfl mw_213 mw_210 mw_211 mw_212 mw_5 (by decide +kernel) (by decide) rfl rfl (Nat.le_of_ble_eq_true rfl) dX3_kin_3 (Nat.le_of_ble_eq_true rfl) (Nat.le_of_ble_eq_true rfl) ?_
      refine e_if_eq (tgt := 26) C dX3_kin_6 (by decide) (fun c_6 => absurd c_6 (by decide)) (fun c_6 => ?_)
      refine e_iload_n (j := 2) C dX3_kin_9 rfl rfl ?_
      refine e_iconst (v := (-1)) C dX3_kin_10 (by decide) ?_
      refine e_icmp_eq (tgt := 22) C dX3_kin_11 (by decide) (fun c_11 => absurd c_11 hy) (fun c_11 => ?_)
      refine e_aload_n (j := 0) C dX3_kin_14 rfl rfl ?_
      refine e_iload_n (j := 2) C dX3_kin_15 rfl rfl ?_
      refine e_cV (i := 9) (nA := 1) (Cn := RX3) C (c_X3_isMiner_x hl h hn hm) rfl (cnt_fix (by decide)) (fun _ => rfl) rfl rfl mw_213 mw_210 mw_211 mw_212 mw_5 (by decide +kernel) (by decide) rfl rfl (Nat.le_of_ble_eq_true rfl) dX3_kin_16 (Nat.le_of_ble_eq_true rfl) (Nat.le_of_ble_eq_true rfl) ?_
      refine e_if_eq (tgt := 26) C dX3_kin_19 (by decide) (fun c_19 => ?_) (fun c_19 => absurd (by decide) c_19)
      refine e_iconst (v := 0) C dX3_kin_26 (by decide) ?_
      refine e_iload_n (j := 1) C dX3_kin_27 rfl rfl ?_
      refine e_iload_n (j := 2) C dX3_kin_28 rfl rfl ?_
      refine e_icmp_eq (tgt := 36) C dX3_kin_29 (by decide) (fun c_29 => ?_) (fun c_29 => ?_)
      · refine e_iconst (v := 0) C dX3_kin_36 (by decide) ?_
        refine e_iconst (v := 1) C dX3_kin_37 (by decide) ?_
        refine e_cV (i := 9) (nA := 3) (Cn := RX3) C (c_X3_g1 hl) rfl (cnt_fix (by decide)) (fun _ => rfl) rfl rfl mw_162 mw_159 mw_160 mw_161 mw_5 (by decide +kernel) (by decide) rfl rfl (Nat.le_of_ble_eq_true rfl) dX3_kin_38 (Nat.le_of_ble_eq_true rfl) (Nat.le_of_ble_eq_true rfl) ?_
        refine e_if_ne (tgt := 46) C dX3_kin_41 (by decide) (fun c_41 => absurd (by decide) c_41) (fun c_41 => ?_)
        refine e_iconst (v := 0) C dX3_kin_44 (by decide) ?_
        exact e_iret C rfl (Nat.le_of_ble_eq_true rfl) (Nat.le_of_ble_eq_true rfl) dX3_kin_45 (pO.mk (by unfold omkin; rw [if_neg hy, if_pos h]))
      · refine e_iconst (v := 1) C dX3_kin_32 (by decide) ?_
        refine e_goto (tgt := 37) C dX3_kin_33 (by decide) ?_
        refine e_iconst (v := 1) C dX3_kin_37 (by decide) ?_
        refine e_cV (i := 9) (nA := 3) (Cn := RX3) C (c_X3_g1 hl) rfl (cnt_fix (by decide)) (fun _ => rfl) rfl rfl mw_162 mw_159 mw_160 mw_161 mw_5 (by decide +kernel) (by decide) rfl rfl (Nat.le_of_ble_eq_true rfl) dX3_kin_38 (Nat.le_of_ble_eq_true rfl) (Nat.le_of_ble_eq_true rfl) ?_
        refine e_if_ne (tgt := 46) C dX3_kin_41 (by decide) (fun c_41 => absurd (by decide) c_41) (fun c_41 => ?_)
        refine e_iconst (v := 0) C dX3_kin_44 (by decide) ?_
        exact e_iret C rfl (Nat.le_of_ble_eq_true rfl) (Nat.le_of_ble_eq_true rfl) dX3_kin_45 (pO.mk (by unfold omkin; rw [if_neg hy, if_pos h]))
    · subst ej
      have hnb : ¬ (nI j < 0 ∨ nI n ≤ nI j) := nbad hj hn
      refine e_aload_n (j := 0) C dX3_kin_0 rfl rfl ?_
      refine e_aload_n (j := 0) C dX3_kin_1 rfl rfl ?_
      refine e_iload_n (j := 1) C dX3_kin_2 rfl rfl ?_
      refine e_cV (i := 9) (nA := 1) (Cn := RX3) C (c_X3_isMiner hl hk hn hm) rfl (cnt_fix (by decide)) (fun _ => rfl) rfl rfl mw_213 mw_210 mw_211 mw_212 mw_5 (by decide +kernel) (by decide) rfl rfl (Nat.le_of_ble_eq_true rfl) dX3_kin_3 (Nat.le_of_ble_eq_true rfl) (Nat.le_of_ble_eq_true rfl) ?_
      refine e_if_eq (tgt := 26) C dX3_kin_6 (by decide) (fun c_6 => absurd c_6 (by decide)) (fun c_6 => ?_)
      refine e_iload_n (j := 2) C dX3_kin_9 rfl rfl ?_
      refine e_iconst (v := (-1)) C dX3_kin_10 (by decide) ?_
      refine e_icmp_eq (tgt := 22) C dX3_kin_11 (by decide) (fun c_11 => absurd c_11 hy) (fun c_11 => ?_)
      refine e_aload_n (j := 0) C dX3_kin_14 rfl rfl ?_
      refine e_iload_n (j := 2) C dX3_kin_15 rfl rfl ?_
      refine e_cV (i := 9) (nA := 1) (Cn := RX3) C (c_X3_isMiner hl hj hn hm) rfl (cnt_fix (by decide)) (fun _ => rfl) rfl rfl mw_213 mw_210 mw_211 mw_212 mw_5 (by decide +kernel) (by decide) rfl rfl (Nat.le_of_ble_eq_true rfl) dX3_kin_16 (Nat.le_of_ble_eq_true rfl) (Nat.le_of_ble_eq_true rfl) ?_
      refine e_if_eq (tgt := 26) C dX3_kin_19 (by decide) (fun c_19 => absurd c_19 (by decide)) (fun c_19 => ?_)
      refine e_iconst (v := 1) C dX3_kin_22 (by decide) ?_
      refine e_goto (tgt := 27) C dX3_kin_23 (by decide) ?_
      refine e_iload_n (j := 1) C dX3_kin_27 rfl rfl ?_
      refine e_iload_n (j := 2) C dX3_kin_28 rfl rfl ?_
      refine e_icmp_eq (tgt := 36) C dX3_kin_29 (by decide) (fun c_29 => ?_) (fun c_29 => ?_)
      · refine e_iconst (v := 0) C dX3_kin_36 (by decide) ?_
        refine e_iconst (v := 1) C dX3_kin_37 (by decide) ?_
        refine e_cV (i := 9) (nA := 3) (Cn := RX3) C (c_X3_g2 hl) rfl (cnt_fix (by decide)) (fun _ => rfl) rfl rfl mw_162 mw_159 mw_160 mw_161 mw_5 (by decide +kernel) (by decide) rfl rfl (Nat.le_of_ble_eq_true rfl) dX3_kin_38 (Nat.le_of_ble_eq_true rfl) (Nat.le_of_ble_eq_true rfl) ?_
        refine e_if_ne (tgt := 46) C dX3_kin_41 (by decide) (fun c_41 => absurd (by decide) c_41) (fun c_41 => ?_)
        refine e_iconst (v := 0) C dX3_kin_44 (by decide) ?_
        exact e_iret C rfl (Nat.le_of_ble_eq_true rfl) (Nat.le_of_ble_eq_true rfl) dX3_kin_45 (pO.mk (by (try subst ex3_52); unfold omkin; rw [if_neg hy, if_neg hnb]; (repeat (first | rw [if_neg hy] | rw [if_neg c_6] | rw [if_neg c_11] | rw [if_neg c_19] | rw [if_pos c_29] | rw [if_pos c_41]))))
      · refine e_iconst (v := 1) C dX3_kin_32 (by decide) ?_
        refine e_goto (tgt := 37) C dX3_kin_33 (by decide) ?_
        refine e_iconst (v := 1) C dX3_kin_37 (by decide) ?_
        refine e_cV (i := 9) (nA := 3) (Cn := RX3) C (c_X3_g0 hl) rfl (cnt_fix (by decide)) (fun _ => rfl) rfl rfl mw_162 mw_159 mw_160 mw_161 mw_5 (by decide +kernel) (by decide) rfl rfl (Nat.le_of_ble_eq_true rfl) dX3_kin_38 (Nat.le_of_ble_eq_true rfl) (Nat.le_of_ble_eq_true rfl) ?_
        refine e_if_ne (tgt := 46) C dX3_kin_41 (by decide) (fun c_41 => ?_) (fun c_41 => absurd c_41 (by decide))
        refine e_aload_n (j := 0) C dX3_kin_46 rfl rfl ?_
        refine e_get3 (k := 10) (ref := "ScripHollowModel") C (by decide) rfl rfl mw_63 dX3_kin_47 ?_
        refine e_iload_n (j := 1) C dX3_kin_50 rfl rfl ?_
        refine e_ialdN k C (cnt_fix (by decide)) (fun _ => rfl) rfl (by omega) (by decide) dX3_kin_51 ?_
        refine e_topi (fun x3_52 ex3_52 => ?_)
        refine e_istore_n (ls2 := [(3, .int x3_52), (0, .ref (ρ 9)), (1, .int (nI k)), (2, .int (nI j))]) C hnL dX3_kin_52 rfl (by decide) rfl ?_
        refine e_aload_n (j := 1) C dX3_kin_53 rfl rfl ?_
        refine e_get3 (k := 10) (ref := "ScripHollowModel") C (by decide) rfl rfl mw_63 dX3_kin_54 ?_
        refine e_iload_n (j := 2) C dX3_kin_57 rfl rfl ?_
        refine e_iload_n (j := 3) C dX3_kin_58 rfl rfl ?_
        refine e_iastN k C (cnt_fix (by decide)) (fun _ _ => rfl) rfl (by omega) (by decide) dX3_kin_59 ?_
        refine e_iload_n (j := 0) C dX3_kin_60 rfl rfl ?_
        exact e_iret C rfl (Nat.le_of_ble_eq_true rfl) (Nat.le_of_ble_eq_true rfl) dX3_kin_61 (pO.mk (by (try subst ex3_52); unfold omkin; rw [if_neg hy, if_neg hnb]; (repeat (first | rw [if_neg hy] | rw [if_neg c_6] | rw [if_neg c_11] | rw [if_neg c_19] | rw [if_neg c_29] | rw [if_neg c_41]))))
def omtell (M : Mem) (j : Nat) (y : Int32) : Out := if nI j = 0 then (if y < 1 ∨ 50 < y then mo M 1 0 else rI (ml M 0 23 j) (up (ml M 0) 23 j y)) else if y < 0 ∨ 100 < y then mo M 1 0 else rI (ml M 0 23 j) (up (ml M 0) 23 j y)
set_option maxRecDepth 100000 in
set_option maxHeartbeats 4000000 in
theorem c_X3_tell_x {l : Launch} (hl : l.stackTraces = false) {n : Nat} {ρ : Nat → Nat} {J : Nat → Int64} {M : Mem} {x y : Int32} (h : x < 0 ∨ 4 < x) : CtO l yX3_tell cX3_tell 4 (some .int) 3 0 0 n ρ J M [.ref (ρ 9), .int x, .int y] (mo M 1 0) := by
  refine CtO.of hl (by decide +kernel) (Nat.le_of_ble_eq_true rfl) (fun Ξ hnL C => ?_)
  show E Ξ n ρ J M 0 0 0 [(0, .ref (ρ 9)), (1, .int x), (2, .int y)] []
  refine e_aload_n (j := 0) C dX3_tell_0 rfl rfl ?_
  refine e_iload_n (j := 1) C dX3_tell_1 rfl rfl ?_
  refine e_iconst (v := 0) C dX3_tell_2 (by decide) ?_
  refine e_iconst (v := 4) C dX3_tell_3 (by decide) ?_
  refine e_cS (nA := 3) C (c_X3_in0 hl h) rfl mw_216 mw_214 mw_215 mw_5 (by decide +kernel) (by decide) rfl rfl (Nat.le_of_ble_eq_true rfl) dX3_tell_4 (Nat.le_of_ble_eq_true rfl) (Nat.le_of_ble_eq_true rfl) ?_
  refine e_if_eq (tgt := 41) C dX3_tell_7 (by decide) (fun c_7 => ?_) (fun c_7 => absurd (by decide) c_7)
  refine e_iconst (v := 0) C dX3_tell_41 (by decide) ?_
  refine e_iconst (v := 1) C dX3_tell_42 (by decide) ?_
  refine e_iconst (v := 1) C dX3_tell_43 (by decide) ?_
  refine e_cV (i := 9) (nA := 3) (Cn := RX3) C (c_X3_g1 hl) rfl (cnt_fix (by decide)) (fun _ => rfl) rfl rfl mw_162 mw_159 mw_160 mw_161 mw_5 (by decide +kernel) (by decide) rfl rfl (Nat.le_of_ble_eq_true rfl) dX3_tell_44 (Nat.le_of_ble_eq_true rfl) (Nat.le_of_ble_eq_true rfl) ?_
  refine e_if_ne (tgt := 52) C dX3_tell_47 (by decide) (fun c_47 => absurd (by decide) c_47) (fun c_47 => ?_)
  refine e_iconst (v := 0) C dX3_tell_50 (by decide) ?_
  exact e_iret C rfl (Nat.le_of_ble_eq_true rfl) (Nat.le_of_ble_eq_true rfl) dX3_tell_51 (pO.mk rfl)
set_option maxRecDepth 100000 in
set_option maxHeartbeats 4000000 in
theorem c_X3_tell {l : Launch} (hl : l.stackTraces = false) {n : Nat} {ρ : Nat → Nat} {J : Nat → Int64} {M : Mem} {j : Nat} (hj : j < 5) {y : Int32} : CtO l yX3_tell cX3_tell 4 (some .int) 3 0 0 n ρ J M [.ref (ρ 9), .int (nI j), .int y] (omtell M j y) := by
  refine CtO.of hl (by decide +kernel) (Nat.le_of_ble_eq_true rfl) (fun Ξ hnL C => ?_)
  show E Ξ n ρ J M 0 0 0 [(0, .ref (ρ 9)), (1, .int (nI j)), (2, .int y)] []
  by_cases h0 : nI j = 0
  · by_cases h : y < 1 ∨ 50 < y
    · refine e_aload_n (j := 0) C dX3_tell_0 rfl rfl ?_
      refine e_iload_n (j := 1) C dX3_tell_1 rfl rfl ?_
      refine e_iconst (v := 0) C dX3_tell_2 (by decide) ?_
      refine e_iconst (v := 4) C dX3_tell_3 (by decide) ?_
      refine e_cS (nA := 3) C (c_X3_in1 hl (nI_pos (by omega)) (nI_le (b := 4) (by omega) (by omega))) rfl mw_216 mw_214 mw_215 mw_5 (by decide +kernel) (by decide) rfl rfl (Nat.le_of_ble_eq_true rfl) dX3_tell_4 (Nat.le_of_ble_eq_true rfl) (Nat.le_of_ble_eq_true rfl) ?_
      refine e_if_eq (tgt := 41) C dX3_tell_7 (by decide) (fun c_7 => absurd c_7 (by decide)) (fun c_7 => ?_)
      refine e_iload_n (j := 2) C dX3_tell_10 rfl rfl ?_
      refine e_iload_n (j := 1) C dX3_tell_11 rfl rfl ?_
      refine e_if_ne (tgt := 19) C dX3_tell_12 (by decide) (fun c_12 => absurd h0 c_12) (fun c_12 => ?_)
      refine e_iconst (v := 1) C dX3_tell_15 (by decide) ?_
      refine e_goto (tgt := 20) C dX3_tell_16 (by decide) ?_
      refine e_iload_n (j := 1) C dX3_tell_20 rfl rfl ?_
      refine e_if_ne (tgt := 29) C dX3_tell_21 (by decide) (fun c_21 => absurd h0 c_21) (fun c_21 => ?_)
      refine e_bipush (v := 50) C dX3_tell_24 (by decide) ?_
      refine e_goto (tgt := 31) C dX3_tell_26 (by decide) ?_
      refine e_cS (nA := 3) C (c_X3_in0 hl h) rfl mw_216 mw_214 mw_215 mw_5 (by decide +kernel) (by decide) rfl rfl (Nat.le_of_ble_eq_true rfl) dX3_tell_31 (Nat.le_of_ble_eq_true rfl) (Nat.le_of_ble_eq_true rfl) ?_
      refine e_if_eq (tgt := 41) C dX3_tell_34 (by decide) (fun c_34 => ?_) (fun c_34 => absurd (by decide) c_34)
      refine e_iconst (v := 0) C dX3_tell_41 (by decide) ?_
      refine e_iconst (v := 1) C dX3_tell_42 (by decide) ?_
      refine e_iconst (v := 1) C dX3_tell_43 (by decide) ?_
      refine e_cV (i := 9) (nA := 3) (Cn := RX3) C (c_X3_g1 hl) rfl (cnt_fix (by decide)) (fun _ => rfl) rfl rfl mw_162 mw_159 mw_160 mw_161 mw_5 (by decide +kernel) (by decide) rfl rfl (Nat.le_of_ble_eq_true rfl) dX3_tell_44 (Nat.le_of_ble_eq_true rfl) (Nat.le_of_ble_eq_true rfl) ?_
      refine e_if_ne (tgt := 52) C dX3_tell_47 (by decide) (fun c_47 => absurd (by decide) c_47) (fun c_47 => ?_)
      refine e_iconst (v := 0) C dX3_tell_50 (by decide) ?_
      exact e_iret C rfl (Nat.le_of_ble_eq_true rfl) (Nat.le_of_ble_eq_true rfl) dX3_tell_51 (pO.mk (by (try subst ex3_58); unfold omtell; rw [if_pos h0, if_pos h]))
    · refine e_aload_n (j := 0) C dX3_tell_0 rfl rfl ?_
      refine e_iload_n (j := 1) C dX3_tell_1 rfl rfl ?_
      refine e_iconst (v := 0) C dX3_tell_2 (by decide) ?_
      refine e_iconst (v := 4) C dX3_tell_3 (by decide) ?_
      refine e_cS (nA := 3) C (c_X3_in1 hl (nI_pos (by omega)) (nI_le (b := 4) (by omega) (by omega))) rfl mw_216 mw_214 mw_215 mw_5 (by decide +kernel) (by decide) rfl rfl (Nat.le_of_ble_eq_true rfl) dX3_tell_4 (Nat.le_of_ble_eq_true rfl) (Nat.le_of_ble_eq_true rfl) ?_
      refine e_if_eq (tgt := 41) C dX3_tell_7 (by decide) (fun c_7 => absurd c_7 (by decide)) (fun c_7 => ?_)
      refine e_iload_n (j := 2) C dX3_tell_10 rfl rfl ?_
      refine e_iload_n (j := 1) C dX3_tell_11 rfl rfl ?_
      refine e_if_ne (tgt := 19) C dX3_tell_12 (by decide) (fun c_12 => absurd h0 c_12) (fun c_12 => ?_)
      refine e_iconst (v := 1) C dX3_tell_15 (by decide) ?_
      refine e_goto (tgt := 20) C dX3_tell_16 (by decide) ?_
      refine e_iload_n (j := 1) C dX3_tell_20 rfl rfl ?_
      refine e_if_ne (tgt := 29) C dX3_tell_21 (by decide) (fun c_21 => absurd h0 c_21) (fun c_21 => ?_)
      refine e_bipush (v := 50) C dX3_tell_24 (by decide) ?_
      refine e_goto (tgt := 31) C dX3_tell_26 (by decide) ?_
      refine e_cS (nA := 3) C (c_X3_in1 hl (rng_ok h).1 (rng_ok h).2) rfl mw_216 mw_214 mw_215 mw_5 (by decide +kernel) (by decide) rfl rfl (Nat.le_of_ble_eq_true rfl) dX3_tell_31 (Nat.le_of_ble_eq_true rfl) (Nat.le_of_ble_eq_true rfl) ?_
      refine e_if_eq (tgt := 41) C dX3_tell_34 (by decide) (fun c_34 => absurd c_34 (by decide)) (fun c_34 => ?_)
      refine e_iconst (v := 1) C dX3_tell_37 (by decide) ?_
      refine e_goto (tgt := 42) C dX3_tell_38 (by decide) ?_
      refine e_iconst (v := 1) C dX3_tell_42 (by decide) ?_
      refine e_iconst (v := 1) C dX3_tell_43 (by decide) ?_
      refine e_cV (i := 9) (nA := 3) (Cn := RX3) C (c_X3_g0 hl) rfl (cnt_fix (by decide)) (fun _ => rfl) rfl rfl mw_162 mw_159 mw_160 mw_161 mw_5 (by decide +kernel) (by decide) rfl rfl (Nat.le_of_ble_eq_true rfl) dX3_tell_44 (Nat.le_of_ble_eq_true rfl) (Nat.le_of_ble_eq_true rfl) ?_
      refine e_if_ne (tgt := 52) C dX3_tell_47 (by decide) (fun c_47 => ?_) (fun c_47 => absurd c_47 (by decide))
      refine e_aload_n (j := 0) C dX3_tell_52 rfl rfl ?_
      refine e_get3 (k := 14) (ref := "ScripHollowModel") C (by decide) rfl rfl mw_67 dX3_tell_53 ?_
      refine e_iload_n (j := 1) C dX3_tell_56 rfl rfl ?_
      refine e_ialdN j C (cnt_fix (by decide)) (fun _ => rfl) rfl (by omega) (by decide) dX3_tell_57 ?_
      refine e_topi (fun x3_58 ex3_58 => ?_)
      refine e_istore_n (ls2 := [(3, .int x3_58), (0, .ref (ρ 9)), (1, .int (nI j)), (2, .int y)]) C hnL dX3_tell_58 rfl (by decide) rfl ?_
      refine e_aload_n (j := 1) C dX3_tell_59 rfl rfl ?_
      refine e_get3 (k := 14) (ref := "ScripHollowModel") C (by decide) rfl rfl mw_67 dX3_tell_60 ?_
      refine e_iload_n (j := 2) C dX3_tell_63 rfl rfl ?_
      refine e_iload_n (j := 3) C dX3_tell_64 rfl rfl ?_
      refine e_iastN j C (cnt_fix (by decide)) (fun _ _ => rfl) rfl (by omega) (by decide) dX3_tell_65 ?_
      refine e_iload_n (j := 0) C dX3_tell_66 rfl rfl ?_
      exact e_iret C rfl (Nat.le_of_ble_eq_true rfl) (Nat.le_of_ble_eq_true rfl) dX3_tell_67 (pO.mk (by (try subst ex3_58); unfold omtell; rw [if_pos h0, if_neg h]))
  · by_cases h : y < 0 ∨ 100 < y
    · refine e_aload_n (j := 0) C dX3_tell_0 rfl rfl ?_
      refine e_iload_n (j := 1) C dX3_tell_1 rfl rfl ?_
      refine e_iconst (v := 0) C dX3_tell_2 (by decide) ?_
      refine e_iconst (v := 4) C dX3_tell_3 (by decide) ?_
      refine e_cS (nA := 3) C (c_X3_in1 hl (nI_pos (by omega)) (nI_le (b := 4) (by omega) (by omega))) rfl mw_216 mw_214 mw_215 mw_5 (by decide +kernel) (by decide) rfl rfl (Nat.le_of_ble_eq_true rfl) dX3_tell_4 (Nat.le_of_ble_eq_true rfl) (Nat.le_of_ble_eq_true rfl) ?_
      refine e_if_eq (tgt := 41) C dX3_tell_7 (by decide) (fun c_7 => absurd c_7 (by decide)) (fun c_7 => ?_)
      refine e_iload_n (j := 2) C dX3_tell_10 rfl rfl ?_
      refine e_iload_n (j := 1) C dX3_tell_11 rfl rfl ?_
      refine e_if_ne (tgt := 19) C dX3_tell_12 (by decide) (fun c_12 => ?_) (fun c_12 => absurd c_12 h0)
      refine e_iconst (v := 0) C dX3_tell_19 (by decide) ?_
      refine e_iload_n (j := 1) C dX3_tell_20 rfl rfl ?_
      refine e_if_ne (tgt := 29) C dX3_tell_21 (by decide) (fun c_21 => ?_) (fun c_21 => absurd c_21 h0)
      refine e_bipush (v := 100) C dX3_tell_29 (by decide) ?_
      refine e_cS (nA := 3) C (c_X3_in0 hl h) rfl mw_216 mw_214 mw_215 mw_5 (by decide +kernel) (by decide) rfl rfl (Nat.le_of_ble_eq_true rfl) dX3_tell_31 (Nat.le_of_ble_eq_true rfl) (Nat.le_of_ble_eq_true rfl) ?_
      refine e_if_eq (tgt := 41) C dX3_tell_34 (by decide) (fun c_34 => ?_) (fun c_34 => absurd (by decide) c_34)
      refine e_iconst (v := 0) C dX3_tell_41 (by decide) ?_
      refine e_iconst (v := 1) C dX3_tell_42 (by decide) ?_
      refine e_iconst (v := 1) C dX3_tell_43 (by decide) ?_
      refine e_cV (i := 9) (nA := 3) (Cn := RX3) C (c_X3_g1 hl) rfl (cnt_fix (by decide)) (fun _ => rfl) rfl rfl mw_162 mw_159 mw_160 mw_161 mw_5 (by decide +kernel) (by decide) rfl rfl (Nat.le_of_ble_eq_true rfl) dX3_tell_44 (Nat.le_of_ble_eq_true rfl) (Nat.le_of_ble_eq_true rfl) ?_
      refine e_if_ne (tgt := 52) C dX3_tell_47 (by decide) (fun c_47 => absurd (by decide) c_47) (fun c_47 => ?_)
      refine e_iconst (v := 0) C dX3_tell_50 (by decide) ?_
      exact e_iret C rfl (Nat.le_of_ble_eq_true rfl) (Nat.le_of_ble_eq_true rfl) dX3_tell_51 (pO.mk (by (try subst ex3_58); unfold omtell; rw [if_neg h0, if_pos h]))
    · refine e_aload_n (j := 0) C dX3_tell_0 rfl rfl ?_
      refine e_iload_n (j := 1) C dX3_tell_1 rfl rfl ?_
      refine e_iconst (v := 0) C dX3_tell_2 (by decide) ?_
      refine e_iconst (v := 4) C dX3_tell_3 (by decide) ?_
      refine e_cS (nA := 3) C (c_X3_in1 hl (nI_pos (by omega)) (nI_le (b := 4) (by omega) (by omega))) rfl mw_216 mw_214 mw_215 mw_5 (by decide +kernel) (by decide) rfl rfl (Nat.le_of_ble_eq_true rfl) dX3_tell_4 (Nat.le_of_ble_eq_true rfl) (Nat.le_of_ble_eq_true rfl) ?_
      refine e_if_eq (tgt := 41) C dX3_tell_7 (by decide) (fun c_7 => absurd c_7 (by decide)) (fun c_7 => ?_)
      refine e_iload_n (j := 2) C dX3_tell_10 rfl rfl ?_
      refine e_iload_n (j := 1) C dX3_tell_11 rfl rfl ?_
      refine e_if_ne (tgt := 19) C dX3_tell_12 (by decide) (fun c_12 => ?_) (fun c_12 => absurd c_12 h0)
      refine e_iconst (v := 0) C dX3_tell_19 (by decide) ?_
      refine e_iload_n (j := 1) C dX3_tell_20 rfl rfl ?_
      refine e_if_ne (tgt := 29) C dX3_tell_21 (by decide) (fun c_21 => ?_) (fun c_21 => absurd c_21 h0)
      refine e_bipush (v := 100) C dX3_tell_29 (by decide) ?_
      refine e_cS (nA := 3) C (c_X3_in1 hl (rng_ok h).1 (rng_ok h).2) rfl mw_216 mw_214 mw_215 mw_5 (by decide +kernel) (by decide) rfl rfl (Nat.le_of_ble_eq_true rfl) dX3_tell_31 (Nat.le_of_ble_eq_true rfl) (Nat.le_of_ble_eq_true rfl) ?_
      refine e_if_eq (tgt := 41) C dX3_tell_34 (by decide) (fun c_34 => absurd c_34 (by decide)) (fun c_34 => ?_)
      refine e_iconst (v := 1) C dX3_tell_37 (by decide) ?_
      refine e_goto (tgt := 42) C dX3_tell_38 (by decide) ?_
      refine e_iconst (v := 1) C dX3_tell_42 (by decide) ?_
      refine e_iconst (v := 1) C dX3_tell_43 (by decide) ?_
      refine e_cV (i := 9) (nA := 3) (Cn := RX3) C (c_X3_g0 hl) rfl (cnt_fix (by decide)) (fun _ => rfl) rfl rfl mw_162 mw_159 mw_160 mw_161 mw_5 (by decide +kernel) (by decide) rfl rfl (Nat.le_of_ble_eq_true rfl) dX3_tell_44 (Nat.le_of_ble_eq_true rfl) (Nat.le_of_ble_eq_true rfl) ?_
      refine e_if_ne (tgt := 52) C dX3_tell_47 (by decide) (fun c_47 => ?_) (fun c_47 => absurd c_47 (by decide))
      refine e_aload_n (j := 0) C dX3_tell_52 rfl rfl ?_
      refine e_get3 (k := 14) (ref := "ScripHollowModel") C (by decide) rfl rfl mw_67 dX3_tell_53 ?_
      refine e_iload_n (j := 1) C dX3_tell_56 rfl rfl ?_
      refine e_ialdN j C (cnt_fix (by decide)) (fun _ => rfl) rfl (by omega) (by decide) dX3_tell_57 ?_
      refine e_topi (fun x3_58 ex3_58 => ?_)
      refine e_istore_n (ls2 := [(3, .int x3_58), (0, .ref (ρ 9)), (1, .int (nI j)), (2, .int y)]) C hnL dX3_tell_58 rfl (by decide) rfl ?_
      refine e_aload_n (j := 1) C dX3_tell_59 rfl rfl ?_
      refine e_get3 (k := 14) (ref := "ScripHollowModel") C (by decide) rfl rfl mw_67 dX3_tell_60 ?_
      refine e_iload_n (j := 2) C dX3_tell_63 rfl rfl ?_
      refine e_iload_n (j := 3) C dX3_tell_64 rfl rfl ?_
      refine e_iastN j C (cnt_fix (by decide)) (fun _ _ => rfl) rfl (by omega) (by decide) dX3_tell_65 ?_
      refine e_iload_n (j := 0) C dX3_tell_66 rfl rfl ?_
      exact e_iret C rfl (Nat.le_of_ble_eq_true rfl) (Nat.le_of_ble_eq_true rfl) dX3_tell_67 (pO.mk (by (try subst ex3_58); unfold omtell; rw [if_neg h0, if_neg h]))
def omhouse (M : Mem) (k : Nat) : Out := if M 10 k = 0 then (.inr none, ml M 2) else if M 11 k = 0 then (if M 16 k = 0 then (.inr none, up (ml M 0) 11 k 1) else (.inr none, ml M 2)) else (.inr none, ml M 2)
set_option maxRecDepth 100000 in
set_option maxHeartbeats 4000000 in
theorem c_X3_house_x {l : Launch} (hl : l.stackTraces = false) {n : Nat} {ρ : Nat → Nat} {J : Nat → Int64} {M : Mem} {x : Int32} (h : x < 0 ∨ nI n ≤ x) (hn : n ≤ 10) (hm : M 9 0 = nI n) : CtO l yX3_house cX3_house 2 none 3 0 0 n ρ J M [.ref (ρ 9), .int x] (.inr none, ml M 1) := by
  refine CtO.of hl (by decide +kernel) (Nat.le_of_ble_eq_true rfl) (fun Ξ hnL C => ?_)
  show E Ξ n ρ J M 0 0 0 [(0, .ref (ρ 9)), (1, .int x)] []
  refine e_aload_n (j := 0) C dX3_house_0 rfl rfl ?_
  refine e_aload_n (j := 0) C dX3_house_1 rfl rfl ?_
  refine e_iload_n (j := 1) C dX3_house_2 rfl rfl ?_
  refine e_cV (i := 9) (nA := 1) (Cn := RX3) C (c_X3_isMiner_x hl h hn hm) rfl (cnt_fix (by decide)) (fun _ => rfl) rfl rfl mw_213 mw_210 mw_211 mw_212 mw_5 (by decide +kernel) (by decide) rfl rfl (Nat.le_of_ble_eq_true rfl) dX3_house_3 (Nat.le_of_ble_eq_true rfl) (Nat.le_of_ble_eq_true rfl) ?_
  refine e_aload_n (j := 0) C dX3_house_6 rfl rfl ?_
  refine e_iload_n (j := 1) C dX3_house_7 rfl rfl ?_
  refine e_cV (i := 9) (nA := 1) (Cn := RX3) C (c_X3_isAlive_x hl h hn hm) rfl (cnt_fix (by decide)) (fun _ => rfl) rfl rfl mw_264 mw_261 mw_262 mw_263 mw_5 (by decide +kernel) (by decide) rfl rfl (Nat.le_of_ble_eq_true rfl) dX3_house_8 (Nat.le_of_ble_eq_true rfl) (Nat.le_of_ble_eq_true rfl) ?_
  refine e_if_eq (tgt := 60) C dX3_house_11 (by decide) (fun c_11 => ?_) (fun c_11 => absurd (by decide) c_11)
  refine e_iconst (v := 0) C dX3_house_60 (by decide) ?_
  refine e_iconst (v := 1) C dX3_house_61 (by decide) ?_
  refine e_cV (i := 9) (nA := 3) (Cn := RX3) C (c_X3_g1 hl) rfl (cnt_fix (by decide)) (fun _ => rfl) rfl rfl mw_162 mw_159 mw_160 mw_161 mw_5 (by decide +kernel) (by decide) rfl rfl (Nat.le_of_ble_eq_true rfl) dX3_house_62 (Nat.le_of_ble_eq_true rfl) (Nat.le_of_ble_eq_true rfl) ?_
  refine e_if_eq (tgt := 75) C dX3_house_65 (by decide) (fun c_65 => ?_) (fun c_65 => absurd (by decide) c_65)
  exact e_vret C rfl (Nat.le_of_ble_eq_true rfl) (Nat.le_of_ble_eq_true rfl) dX3_house_75 (pO.mk rfl)
set_option maxRecDepth 100000 in
set_option maxHeartbeats 4000000 in
theorem c_X3_house {l : Launch} (hl : l.stackTraces = false) {n : Nat} {ρ : Nat → Nat} {J : Nat → Int64} {M : Mem} {k : Nat} (hk : k < n) (hn : n ≤ 10) (hm : M 9 0 = nI n) : CtO l yX3_house cX3_house 2 none 3 0 0 n ρ J M [.ref (ρ 9), .int (nI k)] (omhouse M k) := by
  refine CtO.of hl (by decide +kernel) (Nat.le_of_ble_eq_true rfl) (fun Ξ hnL C => ?_)
  show E Ξ n ρ J M 0 0 0 [(0, .ref (ρ 9)), (1, .int (nI k))] []
  by_cases h2 : M 10 k = 0
  · refine e_aload_n (j := 0) C dX3_house_0 rfl rfl ?_
    refine e_aload_n (j := 0) C dX3_house_1 rfl rfl ?_
    refine e_iload_n (j := 1) C dX3_house_2 rfl rfl ?_
    refine e_cV (i := 9) (nA := 1) (Cn := RX3) C (c_X3_isMiner hl hk hn hm) rfl (cnt_fix (by decide)) (fun _ => rfl) rfl rfl mw_213 mw_210 mw_211 mw_212 mw_5 (by decide +kernel) (by decide) rfl rfl (Nat.le_of_ble_eq_true rfl) dX3_house_3 (Nat.le_of_ble_eq_true rfl) (Nat.le_of_ble_eq_true rfl) ?_
    refine e_aload_n (j := 0) C dX3_house_6 rfl rfl ?_
    refine e_iload_n (j := 1) C dX3_house_7 rfl rfl ?_
    refine e_cV (i := 9) (nA := 1) (Cn := RX3) C (c_X3_isAlive_d hl hk hn hm h2) rfl (cnt_fix (by decide)) (fun _ => rfl) rfl rfl mw_264 mw_261 mw_262 mw_263 mw_5 (by decide +kernel) (by decide) rfl rfl (Nat.le_of_ble_eq_true rfl) dX3_house_8 (Nat.le_of_ble_eq_true rfl) (Nat.le_of_ble_eq_true rfl) ?_
    refine e_if_eq (tgt := 60) C dX3_house_11 (by decide) (fun c_11 => ?_) (fun c_11 => absurd (by decide) c_11)
    refine e_iconst (v := 0) C dX3_house_60 (by decide) ?_
    refine e_iconst (v := 1) C dX3_house_61 (by decide) ?_
    refine e_cV (i := 9) (nA := 3) (Cn := RX3) C (c_X3_g2 hl) rfl (cnt_fix (by decide)) (fun _ => rfl) rfl rfl mw_162 mw_159 mw_160 mw_161 mw_5 (by decide +kernel) (by decide) rfl rfl (Nat.le_of_ble_eq_true rfl) dX3_house_62 (Nat.le_of_ble_eq_true rfl) (Nat.le_of_ble_eq_true rfl) ?_
    refine e_if_eq (tgt := 75) C dX3_house_65 (by decide) (fun c_65 => ?_) (fun c_65 => absurd (by decide) c_65)
    exact e_vret C rfl (Nat.le_of_ble_eq_true rfl) (Nat.le_of_ble_eq_true rfl) dX3_house_75 (pO.mk (by unfold omhouse; (repeat (first | rw [if_pos h2] | rw [if_pos c_11] | rw [if_pos c_65]))))
  · refine e_aload_n (j := 0) C dX3_house_0 rfl rfl ?_
    refine e_aload_n (j := 0) C dX3_house_1 rfl rfl ?_
    refine e_iload_n (j := 1) C dX3_house_2 rfl rfl ?_
    refine e_cV (i := 9) (nA := 1) (Cn := RX3) C (c_X3_isMiner hl hk hn hm) rfl (cnt_fix (by decide)) (fun _ => rfl) rfl rfl mw_213 mw_210 mw_211 mw_212 mw_5 (by decide +kernel) (by decide) rfl rfl (Nat.le_of_ble_eq_true rfl) dX3_house_3 (Nat.le_of_ble_eq_true rfl) (Nat.le_of_ble_eq_true rfl) ?_
    refine e_aload_n (j := 0) C dX3_house_6 rfl rfl ?_
    refine e_iload_n (j := 1) C dX3_house_7 rfl rfl ?_
    refine e_cV (i := 9) (nA := 1) (Cn := RX3) C (c_X3_isAlive hl hk hn hm h2) rfl (cnt_fix (by decide)) (fun _ => rfl) rfl rfl mw_264 mw_261 mw_262 mw_263 mw_5 (by decide +kernel) (by decide) rfl rfl (Nat.le_of_ble_eq_true rfl) dX3_house_8 (Nat.le_of_ble_eq_true rfl) (Nat.le_of_ble_eq_true rfl) ?_
    refine e_if_eq (tgt := 60) C dX3_house_11 (by decide) (fun c_11 => absurd c_11 (by decide)) (fun c_11 => ?_)
    refine e_aload_n (j := 0) C dX3_house_14 rfl rfl ?_
    refine e_get3 (k := 2) (ref := "ScripHollowModel") C (by decide) rfl rfl mw_55 dX3_house_15 ?_
    refine e_aload_n (j := 0) C dX3_house_18 rfl rfl ?_
    refine e_iload_n (j := 1) C dX3_house_19 rfl rfl ?_
    refine e_cV (i := 9) (nA := 1) (Cn := RX3) C (c_X3_isMiner hl hk hn hm) rfl (cnt_fix (by decide)) (fun _ => rfl) rfl rfl mw_213 mw_210 mw_211 mw_212 mw_5 (by decide +kernel) (by decide) rfl rfl (Nat.le_of_ble_eq_true rfl) dX3_house_20 (Nat.le_of_ble_eq_true rfl) (Nat.le_of_ble_eq_true rfl) ?_
    refine e_if_eq (tgt := 30) C dX3_house_23 (by decide) (fun c_23 => absurd c_23 (by decide)) (fun c_23 => ?_)
    refine e_iload_n (j := 1) C dX3_house_26 rfl rfl ?_
    refine e_goto (tgt := 31) C dX3_house_27 (by decide) ?_
    refine e_zaldN k C (cnt_fix (by decide)) (fun _ => rfl) rfl (by omega) (by decide) dX3_house_31 ?_
    refine e_if_ne (tgt := 60) C dX3_house_32 (by decide) (fun c_32 => ?_) (fun c_32 => ?_)
    · refine e_iconst (v := 0) C dX3_house_60 (by decide) ?_
      refine e_iconst (v := 1) C dX3_house_61 (by decide) ?_
      refine e_cV (i := 9) (nA := 3) (Cn := RX3) C (c_X3_g2 hl) rfl (cnt_fix (by decide)) (fun _ => rfl) rfl rfl mw_162 mw_159 mw_160 mw_161 mw_5 (by decide +kernel) (by decide) rfl rfl (Nat.le_of_ble_eq_true rfl) dX3_house_62 (Nat.le_of_ble_eq_true rfl) (Nat.le_of_ble_eq_true rfl) ?_
      refine e_if_eq (tgt := 75) C dX3_house_65 (by decide) (fun c_65 => ?_) (fun c_65 => absurd (by decide) c_65)
      exact e_vret C rfl (Nat.le_of_ble_eq_true rfl) (Nat.le_of_ble_eq_true rfl) dX3_house_75 (pO.mk (by unfold omhouse; (repeat (first | rw [if_neg h2] | rw [if_neg c_11] | rw [if_neg c_23] | rw [if_neg c_32] | rw [if_pos c_65]))))
    · refine e_aload_n (j := 0) C dX3_house_35 rfl rfl ?_
      refine e_get3 (k := 7) (ref := "ScripHollowModel") C (by decide) rfl rfl mw_60 dX3_house_36 ?_
      refine e_aload_n (j := 0) C dX3_house_39 rfl rfl ?_
      refine e_iload_n (j := 1) C dX3_house_40 rfl rfl ?_
      refine e_cV (i := 9) (nA := 1) (Cn := RX3) C (c_X3_isMiner hl hk hn hm) rfl (cnt_fix (by decide)) (fun _ => rfl) rfl rfl mw_213 mw_210 mw_211 mw_212 mw_5 (by decide +kernel) (by decide) rfl rfl (Nat.le_of_ble_eq_true rfl) dX3_house_41 (Nat.le_of_ble_eq_true rfl) (Nat.le_of_ble_eq_true rfl) ?_
      refine e_if_eq (tgt := 51) C dX3_house_44 (by decide) (fun c_44 => absurd c_44 (by decide)) (fun c_44 => ?_)
      refine e_iload_n (j := 1) C dX3_house_47 rfl rfl ?_
      refine e_goto (tgt := 52) C dX3_house_48 (by decide) ?_
      refine e_ialdN k C (cnt_fix (by decide)) (fun _ => rfl) rfl (by omega) (by decide) dX3_house_52 ?_
      refine e_if_ne (tgt := 60) C dX3_house_53 (by decide) (fun c_53 => ?_) (fun c_53 => ?_)
      · refine e_iconst (v := 0) C dX3_house_60 (by decide) ?_
        refine e_iconst (v := 1) C dX3_house_61 (by decide) ?_
        refine e_cV (i := 9) (nA := 3) (Cn := RX3) C (c_X3_g2 hl) rfl (cnt_fix (by decide)) (fun _ => rfl) rfl rfl mw_162 mw_159 mw_160 mw_161 mw_5 (by decide +kernel) (by decide) rfl rfl (Nat.le_of_ble_eq_true rfl) dX3_house_62 (Nat.le_of_ble_eq_true rfl) (Nat.le_of_ble_eq_true rfl) ?_
        refine e_if_eq (tgt := 75) C dX3_house_65 (by decide) (fun c_65 => ?_) (fun c_65 => absurd (by decide) c_65)
        exact e_vret C rfl (Nat.le_of_ble_eq_true rfl) (Nat.le_of_ble_eq_true rfl) dX3_house_75 (pO.mk (by unfold omhouse; (repeat (first | rw [if_neg h2] | rw [if_neg c_11] | rw [if_neg c_23] | rw [if_pos c_32] | rw [if_neg c_44] | rw [if_neg c_53] | rw [if_pos c_65]))))
      · refine e_iconst (v := 1) C dX3_house_56 (by decide) ?_
        refine e_goto (tgt := 61) C dX3_house_57 (by decide) ?_
        refine e_iconst (v := 1) C dX3_house_61 (by decide) ?_
        refine e_cV (i := 9) (nA := 3) (Cn := RX3) C (c_X3_g0 hl) rfl (cnt_fix (by decide)) (fun _ => rfl) rfl rfl mw_162 mw_159 mw_160 mw_161 mw_5 (by decide +kernel) (by decide) rfl rfl (Nat.le_of_ble_eq_true rfl) dX3_house_62 (Nat.le_of_ble_eq_true rfl) (Nat.le_of_ble_eq_true rfl) ?_
        refine e_if_eq (tgt := 75) C dX3_house_65 (by decide) (fun c_65 => absurd c_65 (by decide)) (fun c_65 => ?_)
        refine e_aload_n (j := 0) C dX3_house_68 rfl rfl ?_
        refine e_get3 (k := 2) (ref := "ScripHollowModel") C (by decide) rfl rfl mw_55 dX3_house_69 ?_
        refine e_iload_n (j := 1) C dX3_house_72 rfl rfl ?_
        refine e_iconst (v := 1) C dX3_house_73 (by decide) ?_
        refine e_zastN k C (cnt_fix (by decide)) (fun _ _ => rfl) rfl (by omega) (by decide) (by first | decide | exact isB.nr (by assumption)) dX3_house_74 ?_
        exact e_vret C rfl (Nat.le_of_ble_eq_true rfl) (Nat.le_of_ble_eq_true rfl) dX3_house_75 (pO.mk (by unfold omhouse; (repeat (first | rw [if_neg h2] | rw [if_neg c_11] | rw [if_neg c_23] | rw [if_pos c_32] | rw [if_neg c_44] | rw [if_pos c_53] | rw [if_neg c_65]))))
theorem ix4 (g : Nat) : nI g + 4 = nI (g + 4) := nI_add g 4
theorem ix40 (k j : Nat) : 40 * nI k + nI j = nI (40 * k + j) := by rw [show (40 : Int32) = nI 40 from rfl, pk_mul, nI_add]
theorem ix4k (k j : Nat) : 4 * nI k + nI j = nI (4 * k + j) := by rw [show (4 : Int32) = nI 4 from rfl, pk_mul, nI_add]
theorem ix4g (g : Nat) : 4 + nI g = nI (4 + g) := nI_add 4 g
def omprice (M : Mem) (g : Nat) (y z : Int32) : Out := if y < 1 ∨ 100 < y then mo M 2 0 else if z = 0 then rI (ml M 0 24 g) (up (ml M 0) 24 g y) else rI (ml M 0 24 (g + 4)) (up (ml M 0) 24 (g + 4) y)
set_option maxRecDepth 100000 in
set_option maxHeartbeats 4000000 in
theorem c_X3_price_x {l : Launch} (hl : l.stackTraces = false) {n : Nat} {ρ : Nat → Nat} {J : Nat → Int64} {M : Mem} {x y z : Int32} (h : x < 0 ∨ 4 ≤ x) : CtO l yX3_price cX3_price 6 (some .int) 3 0 0 n ρ J M [.ref (ρ 9), .int x, .int y, .int z] (mo M 1 0) := by
  refine CtO.of hl (by decide +kernel) (Nat.le_of_ble_eq_true rfl) (fun Ξ hnL C => ?_)
  show E Ξ n ρ J M 0 0 0 [(0, .ref (ρ 9)), (1, .int x), (2, .int y), (3, .int z)] []
  by_cases hw : y < 1 ∨ 100 < y
  · refine e_aload_n (j := 0) C dX3_price_0 rfl rfl ?_
    refine e_iload_n (j := 1) C dX3_price_1 rfl rfl ?_
    refine e_cS (nA := 1) C (c_X3_isGoods_x hl h) rfl mw_409 mw_407 mw_408 mw_5 (by decide +kernel) (by decide) rfl rfl (Nat.le_of_ble_eq_true rfl) dX3_price_2 (Nat.le_of_ble_eq_true rfl) (Nat.le_of_ble_eq_true rfl) ?_
    refine e_iload_n (j := 2) C dX3_price_5 rfl rfl ?_
    refine e_iconst (v := 1) C dX3_price_6 (by decide) ?_
    refine e_bipush (v := 100) C dX3_price_7 (by decide) ?_
    refine e_cS (nA := 3) C (c_X3_in0 hl hw) rfl mw_216 mw_214 mw_215 mw_5 (by decide +kernel) (by decide) rfl rfl (Nat.le_of_ble_eq_true rfl) dX3_price_9 (Nat.le_of_ble_eq_true rfl) (Nat.le_of_ble_eq_true rfl) ?_
    refine e_iconst (v := 1) C dX3_price_12 (by decide) ?_
    refine e_cV (i := 9) (nA := 3) (Cn := RX3) C (c_X3_g1 hl) rfl (cnt_fix (by decide)) (fun _ => rfl) rfl rfl mw_162 mw_159 mw_160 mw_161 mw_5 (by decide +kernel) (by decide) rfl rfl (Nat.le_of_ble_eq_true rfl) dX3_price_13 (Nat.le_of_ble_eq_true rfl) (Nat.le_of_ble_eq_true rfl) ?_
    refine e_if_ne (tgt := 21) C dX3_price_16 (by decide) (fun c_16 => absurd (by decide) c_16) (fun c_16 => ?_)
    refine e_iconst (v := 0) C dX3_price_19 (by decide) ?_
    exact e_iret C rfl (Nat.le_of_ble_eq_true rfl) (Nat.le_of_ble_eq_true rfl) dX3_price_20 (pO.mk rfl)
  · refine e_aload_n (j := 0) C dX3_price_0 rfl rfl ?_
    refine e_iload_n (j := 1) C dX3_price_1 rfl rfl ?_
    refine e_cS (nA := 1) C (c_X3_isGoods_x hl h) rfl mw_409 mw_407 mw_408 mw_5 (by decide +kernel) (by decide) rfl rfl (Nat.le_of_ble_eq_true rfl) dX3_price_2 (Nat.le_of_ble_eq_true rfl) (Nat.le_of_ble_eq_true rfl) ?_
    refine e_iload_n (j := 2) C dX3_price_5 rfl rfl ?_
    refine e_iconst (v := 1) C dX3_price_6 (by decide) ?_
    refine e_bipush (v := 100) C dX3_price_7 (by decide) ?_
    refine e_cS (nA := 3) C (c_X3_in1 hl (rng_ok hw).1 (rng_ok hw).2) rfl mw_216 mw_214 mw_215 mw_5 (by decide +kernel) (by decide) rfl rfl (Nat.le_of_ble_eq_true rfl) dX3_price_9 (Nat.le_of_ble_eq_true rfl) (Nat.le_of_ble_eq_true rfl) ?_
    refine e_iconst (v := 1) C dX3_price_12 (by decide) ?_
    refine e_cV (i := 9) (nA := 3) (Cn := RX3) C (c_X3_g1 hl) rfl (cnt_fix (by decide)) (fun _ => rfl) rfl rfl mw_162 mw_159 mw_160 mw_161 mw_5 (by decide +kernel) (by decide) rfl rfl (Nat.le_of_ble_eq_true rfl) dX3_price_13 (Nat.le_of_ble_eq_true rfl) (Nat.le_of_ble_eq_true rfl) ?_
    refine e_if_ne (tgt := 21) C dX3_price_16 (by decide) (fun c_16 => absurd (by decide) c_16) (fun c_16 => ?_)
    refine e_iconst (v := 0) C dX3_price_19 (by decide) ?_
    exact e_iret C rfl (Nat.le_of_ble_eq_true rfl) (Nat.le_of_ble_eq_true rfl) dX3_price_20 (pO.mk rfl)
set_option maxRecDepth 100000 in
set_option maxHeartbeats 4000000 in
theorem c_X3_price {l : Launch} (hl : l.stackTraces = false) {n : Nat} {ρ : Nat → Nat} {J : Nat → Int64} {M : Mem} {g : Nat} (hg : g < 4) {y z : Int32} : CtO l yX3_price cX3_price 6 (some .int) 3 0 0 n ρ J M [.ref (ρ 9), .int (nI g), .int y, .int z] (omprice M g y z) := by
  refine CtO.of hl (by decide +kernel) (Nat.le_of_ble_eq_true rfl) (fun Ξ hnL C => ?_)
  show E Ξ n ρ J M 0 0 0 [(0, .ref (ρ 9)), (1, .int (nI g)), (2, .int y), (3, .int z)] []
  by_cases h : y < 1 ∨ 100 < y
  · refine e_aload_n (j := 0) C dX3_price_0 rfl rfl ?_
    refine e_iload_n (j := 1) C dX3_price_1 rfl rfl ?_
    refine e_cS (nA := 1) C (c_X3_isGoods hl hg) rfl mw_409 mw_407 mw_408 mw_5 (by decide +kernel) (by decide) rfl rfl (Nat.le_of_ble_eq_true rfl) dX3_price_2 (Nat.le_of_ble_eq_true rfl) (Nat.le_of_ble_eq_true rfl) ?_
    refine e_iload_n (j := 2) C dX3_price_5 rfl rfl ?_
    refine e_iconst (v := 1) C dX3_price_6 (by decide) ?_
    refine e_bipush (v := 100) C dX3_price_7 (by decide) ?_
    refine e_cS (nA := 3) C (c_X3_in0 hl h) rfl mw_216 mw_214 mw_215 mw_5 (by decide +kernel) (by decide) rfl rfl (Nat.le_of_ble_eq_true rfl) dX3_price_9 (Nat.le_of_ble_eq_true rfl) (Nat.le_of_ble_eq_true rfl) ?_
    refine e_iconst (v := 1) C dX3_price_12 (by decide) ?_
    refine e_cV (i := 9) (nA := 3) (Cn := RX3) C (c_X3_g2 hl) rfl (cnt_fix (by decide)) (fun _ => rfl) rfl rfl mw_162 mw_159 mw_160 mw_161 mw_5 (by decide +kernel) (by decide) rfl rfl (Nat.le_of_ble_eq_true rfl) dX3_price_13 (Nat.le_of_ble_eq_true rfl) (Nat.le_of_ble_eq_true rfl) ?_
    refine e_if_ne (tgt := 21) C dX3_price_16 (by decide) (fun c_16 => absurd (by decide) c_16) (fun c_16 => ?_)
    refine e_iconst (v := 0) C dX3_price_19 (by decide) ?_
    exact e_iret C rfl (Nat.le_of_ble_eq_true rfl) (Nat.le_of_ble_eq_true rfl) dX3_price_20 (pO.mk (by unfold omprice; rw [if_pos h]))
  · by_cases hz : z = 0
    · refine e_aload_n (j := 0) C dX3_price_0 rfl rfl ?_
      refine e_iload_n (j := 1) C dX3_price_1 rfl rfl ?_
      refine e_cS (nA := 1) C (c_X3_isGoods hl hg) rfl mw_409 mw_407 mw_408 mw_5 (by decide +kernel) (by decide) rfl rfl (Nat.le_of_ble_eq_true rfl) dX3_price_2 (Nat.le_of_ble_eq_true rfl) (Nat.le_of_ble_eq_true rfl) ?_
      refine e_iload_n (j := 2) C dX3_price_5 rfl rfl ?_
      refine e_iconst (v := 1) C dX3_price_6 (by decide) ?_
      refine e_bipush (v := 100) C dX3_price_7 (by decide) ?_
      refine e_cS (nA := 3) C (c_X3_in1 hl (rng_ok h).1 (rng_ok h).2) rfl mw_216 mw_214 mw_215 mw_5 (by decide +kernel) (by decide) rfl rfl (Nat.le_of_ble_eq_true rfl) dX3_price_9 (Nat.le_of_ble_eq_true rfl) (Nat.le_of_ble_eq_true rfl) ?_
      refine e_iconst (v := 1) C dX3_price_12 (by decide) ?_
      refine e_cV (i := 9) (nA := 3) (Cn := RX3) C (c_X3_g0 hl) rfl (cnt_fix (by decide)) (fun _ => rfl) rfl rfl mw_162 mw_159 mw_160 mw_161 mw_5 (by decide +kernel) (by decide) rfl rfl (Nat.le_of_ble_eq_true rfl) dX3_price_13 (Nat.le_of_ble_eq_true rfl) (Nat.le_of_ble_eq_true rfl) ?_
      refine e_if_ne (tgt := 21) C dX3_price_16 (by decide) (fun c_16 => ?_) (fun c_16 => absurd c_16 (by decide))
      refine e_iload_n (j := 3) C dX3_price_21 rfl rfl ?_
      refine e_if_eq (tgt := 31) C dX3_price_22 (by decide) (fun c_22 => ?_) (fun c_22 => absurd hz c_22)
      refine e_iload_n (j := 1) C dX3_price_31 rfl rfl ?_
      refine e_istore (ls2 := [(4, .int (nI g)), (0, .ref (ρ 9)), (1, .int (nI g)), (2, .int y), (3, .int z)]) C hnL dX3_price_32 (by decide) rfl ?_
      refine e_aload_n (j := 1) C dX3_price_34 rfl rfl ?_
      refine e_get3 (k := 15) (ref := "ScripHollowModel") C (by decide) rfl rfl mw_68 dX3_price_35 ?_
      refine e_iload (j := 0) C dX3_price_38 rfl ?_
      refine e_ialdN g C (cnt_fix (by decide)) (fun _ => rfl) rfl (by omega) (by decide) dX3_price_40 ?_
      refine e_topi (fun x5_41 ex5_41 => ?_)
      refine e_istore (ls2 := [(5, .int x5_41), (4, .int (nI g)), (0, .ref (ρ 9)), (1, .int (nI g)), (2, .int y), (3, .int z)]) C hnL dX3_price_41 (by decide) rfl ?_
      refine e_aload_n (j := 2) C dX3_price_43 rfl rfl ?_
      refine e_get3 (k := 15) (ref := "ScripHollowModel") C (by decide) rfl rfl mw_68 dX3_price_44 ?_
      refine e_iload (j := 1) C dX3_price_47 rfl ?_
      refine e_iload_n (j := 4) C dX3_price_49 rfl rfl ?_
      refine e_iastN g C (cnt_fix (by decide)) (fun _ _ => rfl) rfl (by omega) (by decide) dX3_price_50 ?_
      refine e_iload (j := 0) C dX3_price_51 rfl ?_
      exact e_iret C rfl (Nat.le_of_ble_eq_true rfl) (Nat.le_of_ble_eq_true rfl) dX3_price_53 (pO.mk (by (try subst ex5_41); unfold omprice; rw [if_neg h, if_pos hz]))
    · refine e_aload_n (j := 0) C dX3_price_0 rfl rfl ?_
      refine e_iload_n (j := 1) C dX3_price_1 rfl rfl ?_
      refine e_cS (nA := 1) C (c_X3_isGoods hl hg) rfl mw_409 mw_407 mw_408 mw_5 (by decide +kernel) (by decide) rfl rfl (Nat.le_of_ble_eq_true rfl) dX3_price_2 (Nat.le_of_ble_eq_true rfl) (Nat.le_of_ble_eq_true rfl) ?_
      refine e_iload_n (j := 2) C dX3_price_5 rfl rfl ?_
      refine e_iconst (v := 1) C dX3_price_6 (by decide) ?_
      refine e_bipush (v := 100) C dX3_price_7 (by decide) ?_
      refine e_cS (nA := 3) C (c_X3_in1 hl (rng_ok h).1 (rng_ok h).2) rfl mw_216 mw_214 mw_215 mw_5 (by decide +kernel) (by decide) rfl rfl (Nat.le_of_ble_eq_true rfl) dX3_price_9 (Nat.le_of_ble_eq_true rfl) (Nat.le_of_ble_eq_true rfl) ?_
      refine e_iconst (v := 1) C dX3_price_12 (by decide) ?_
      refine e_cV (i := 9) (nA := 3) (Cn := RX3) C (c_X3_g0 hl) rfl (cnt_fix (by decide)) (fun _ => rfl) rfl rfl mw_162 mw_159 mw_160 mw_161 mw_5 (by decide +kernel) (by decide) rfl rfl (Nat.le_of_ble_eq_true rfl) dX3_price_13 (Nat.le_of_ble_eq_true rfl) (Nat.le_of_ble_eq_true rfl) ?_
      refine e_if_ne (tgt := 21) C dX3_price_16 (by decide) (fun c_16 => ?_) (fun c_16 => absurd c_16 (by decide))
      refine e_iload_n (j := 3) C dX3_price_21 rfl rfl ?_
      refine e_if_eq (tgt := 31) C dX3_price_22 (by decide) (fun c_22 => absurd c_22 hz) (fun c_22 => ?_)
      refine e_iload_n (j := 1) C dX3_price_25 rfl rfl ?_
      refine e_iconst (v := 4) C dX3_price_26 (by decide) ?_
      refine e_iadd C dX3_price_27 ?_
      refine e_goto (tgt := 32) C dX3_price_28 (by decide) ?_
      refine e_topi (fun x4_32 ex4_32 => ?_)
      refine e_istore (ls2 := [(4, .int x4_32), (0, .ref (ρ 9)), (1, .int (nI g)), (2, .int y), (3, .int z)]) C hnL dX3_price_32 (by decide) rfl ?_
      refine e_aload_n (j := 1) C dX3_price_34 rfl rfl ?_
      refine e_get3 (k := 15) (ref := "ScripHollowModel") C (by decide) rfl rfl mw_68 dX3_price_35 ?_
      refine e_iload (j := 0) C dX3_price_38 rfl ?_
      refine e_ialdN (g + 4) C (cnt_fix (by decide)) (fun _ => rfl) (ex4_32.trans (ix4 g)) (by omega) (by decide) dX3_price_40 ?_
      refine e_topi (fun x5_41 ex5_41 => ?_)
      refine e_istore (ls2 := [(5, .int x5_41), (4, .int x4_32), (0, .ref (ρ 9)), (1, .int (nI g)), (2, .int y), (3, .int z)]) C hnL dX3_price_41 (by decide) rfl ?_
      refine e_aload_n (j := 2) C dX3_price_43 rfl rfl ?_
      refine e_get3 (k := 15) (ref := "ScripHollowModel") C (by decide) rfl rfl mw_68 dX3_price_44 ?_
      refine e_iload (j := 1) C dX3_price_47 rfl ?_
      refine e_iload_n (j := 4) C dX3_price_49 rfl rfl ?_
      refine e_iastN (g + 4) C (cnt_fix (by decide)) (fun _ _ => rfl) (ex4_32.trans (ix4 g)) (by omega) (by decide) dX3_price_50 ?_
      refine e_iload (j := 0) C dX3_price_51 rfl ?_
      exact e_iret C rfl (Nat.le_of_ble_eq_true rfl) (Nat.le_of_ble_eq_true rfl) dX3_price_53 (pO.mk (by (try subst ex5_41); unfold omprice; rw [if_neg h, if_neg hz]))
def raF (M : Mem) (k g : Nat) : Int32 := M 24 g + ((M 24 g).toInt64 * (M 15 k).toInt64 / 200).toInt32
def smM (M : Mem) (k : Nat) : Nat → Int32
  | 0 => 0
  | j + 1 => smM M k j + M 20 (40 * k + j)
set_option maxRecDepth 100000 in
set_option maxHeartbeats 4000000 in
theorem c_X3_raisedFor {l : Launch} (hl : l.stackTraces = false) {n : Nat} {ρ : Nat → Nat} {J : Nat → Int64} {M : Mem} {k g : Nat} (hk : k < 10) (hg : g < 4) : CtO l yX3_raisedFor cX3_raisedFor 5 (some .int) 0 0 0 n ρ J M [.ref (ρ 9), .int (nI k), .int (nI g)] (rI (raF M k g) M) := by
  refine CtO.of hl (by decide +kernel) (Nat.le_of_ble_eq_true rfl) (fun Ξ hnL C => ?_)
  show E Ξ n ρ J M 0 0 0 [(0, .ref (ρ 9)), (1, .int (nI k)), (2, .int (nI g))] []
  refine e_aload_n (j := 0) C dX3_raisedFor_0 rfl rfl ?_
  refine e_get3 (k := 15) (ref := "ScripHollowModel") C (by decide) rfl rfl mw_68 dX3_raisedFor_1 ?_
  refine e_iload_n (j := 2) C dX3_raisedFor_4 rfl rfl ?_
  refine e_ialdN g C (cnt_fix (by decide)) (fun _ => rfl) rfl (by omega) (by decide) dX3_raisedFor_5 ?_
  refine e_i2l C dX3_raisedFor_6 ?_
  refine e_aload_n (j := 0) C dX3_raisedFor_7 rfl rfl ?_
  refine e_get3 (k := 6) (ref := "ScripHollowModel") C (by decide) rfl rfl mw_59 dX3_raisedFor_8 ?_
  refine e_iload_n (j := 1) C dX3_raisedFor_11 rfl rfl ?_
  refine e_ialdN k C (cnt_fix (by decide)) (fun _ => rfl) rfl (by omega) (by decide) dX3_raisedFor_12 ?_
  refine e_i2l C dX3_raisedFor_13 ?_
  refine e_lmul C dX3_raisedFor_14 ?_
  refine e_ldc2 (v := 200) C dX3_raisedFor_15 mw_429 ?_
  refine e_ldiv C dX3_raisedFor_18 (by decide) ?_
  refine e_topl (fun x3_19 ex3_19 => ?_)
  refine e_lstore_n (ls2 := [(3, .long x3_19), (0, .ref (ρ 9)), (1, .int (nI k)), (2, .int (nI g))]) C hnL dX3_raisedFor_19 rfl (by decide) rfl ?_
  refine e_aload_n (j := 1) C dX3_raisedFor_20 rfl rfl ?_
  refine e_get3 (k := 15) (ref := "ScripHollowModel") C (by decide) rfl rfl mw_68 dX3_raisedFor_21 ?_
  refine e_iload_n (j := 3) C dX3_raisedFor_24 rfl rfl ?_
  refine e_ialdN g C (cnt_fix (by decide)) (fun _ => rfl) rfl (by omega) (by decide) dX3_raisedFor_25 ?_
  refine e_lload_n (j := 0) C dX3_raisedFor_26 rfl rfl ?_
  refine e_l2i C dX3_raisedFor_27 ?_
  refine e_iadd C dX3_raisedFor_28 ?_
  exact e_iret C rfl (Nat.le_of_ble_eq_true rfl) (Nat.le_of_ble_eq_true rfl) dX3_raisedFor_29 (pO.mk (by subst_vars; rfl))
set_option maxRecDepth 100000 in
set_option maxHeartbeats 4000000 in
theorem c_X3_scripOf {l : Launch} (hl : l.stackTraces = false) {n : Nat} {ρ : Nat → Nat} {J : Nat → Int64} {M : Mem} {k : Nat} (hk : k < 10) : CtO l yX3_scripOf cX3_scripOf 4 (some .int) 0 0 0 n ρ J M [.ref (ρ 9), .int (nI k)] (rI (smM M k 40) M) := by
  refine CtO.of hl (by decide +kernel) (Nat.le_of_ble_eq_true rfl) (fun Ξ hnL C => ?_)
  show E Ξ n ρ J M 0 0 0 [(0, .ref (ρ 9)), (1, .int (nI k))] []
  have loop : ∀ (f j : Nat), j + f = 40 → E Ξ n ρ J M 0 0 4 [(3, .int (nI j)), (2, .int (smM M k j)), (0, .ref (ρ 9)), (1, .int (nI k))] [] := by
    intro f
    induction f with
    | zero =>
      intro j hjf
      have hjn : j = 40 := by omega
      refine e_iload_n (j := 0) C dX3_scripOf_4 rfl rfl ?_
      refine e_bipush (v := 40) C dX3_scripOf_5 (by decide) ?_
      refine e_icmp_ge (tgt := 30) C dX3_scripOf_7 (by decide) (fun c_7 => ?_) (fun c_7 => absurd (nI_le (a := 40) (b := j) (by omega) (by omega)) c_7)
      refine e_iload_n (j := 1) C dX3_scripOf_30 rfl rfl ?_
      exact e_iret C rfl (Nat.le_of_ble_eq_true rfl) (Nat.le_of_ble_eq_true rfl) dX3_scripOf_31 (pO.mk (by rw [hjn]))
    | succ f ih =>
      intro j hjf
      refine e_iload_n (j := 0) C dX3_scripOf_4 rfl rfl ?_
      refine e_bipush (v := 40) C dX3_scripOf_5 (by decide) ?_
      refine e_icmp_ge (tgt := 30) C dX3_scripOf_7 (by decide) (fun c_7 => absurd c_7 (nI_ge (a := j) (b := 40) (by omega) (by omega))) (fun c_7 => ?_)
      refine e_iload_n (j := 1) C dX3_scripOf_10 rfl rfl ?_
      refine e_aload_n (j := 2) C dX3_scripOf_11 rfl rfl ?_
      refine e_get3 (k := 11) (ref := "ScripHollowModel") C (by decide) rfl rfl mw_64 dX3_scripOf_12 ?_
      refine e_bipush (v := 40) C dX3_scripOf_15 (by decide) ?_
      refine e_iload_n (j := 3) C dX3_scripOf_17 rfl rfl ?_
      refine e_imul C dX3_scripOf_18 ?_
      refine e_iload_n (j := 0) C dX3_scripOf_19 rfl rfl ?_
      refine e_iadd C dX3_scripOf_20 ?_
      refine e_ialdN (40 * k + j) C (cnt_fix (by decide)) (fun _ => rfl) (ix40 k j) (by omega) (by decide) dX3_scripOf_21 ?_
      refine e_iadd C dX3_scripOf_22 ?_
      refine e_topi (fun x2_23 ex2_23 => ?_)
      refine e_istore_n (ls2 := [(2, .int x2_23), (3, .int (nI j)), (0, .ref (ρ 9)), (1, .int (nI k))]) C hnL dX3_scripOf_23 rfl (by decide) rfl ?_
      obtain ⟨x3_24, ex3_24⟩ : ∃ z : Int32, z = (nI j) + 1 := ⟨_, rfl⟩
      refine e_iinc (j := 1) (v := x3_24) (ls2 := [(3, .int x3_24), (2, .int x2_23), (0, .ref (ρ 9)), (1, .int (nI k))]) C hnL dX3_scripOf_24 rfl (by rw [ex3_24]; rfl) (by decide) rfl ?_
      refine e_goto (tgt := 4) C dX3_scripOf_27 (by decide) ?_
      subst ex3_24 ex2_23
      rw [nI_1]
      exact e_sub [0, 1, 2, 3] rfl (ih (j + 1) (by omega))
  refine e_iconst (v := 0) C dX3_scripOf_0 (by decide) ?_
  refine e_istore_n (ls2 := [(2, .int 0), (0, .ref (ρ 9)), (1, .int (nI k))]) C hnL dX3_scripOf_1 rfl (by decide) rfl ?_
  refine e_iconst (v := 0) C dX3_scripOf_2 (by decide) ?_
  refine e_istore_n (ls2 := [(3, .int 0), (2, .int 0), (0, .ref (ρ 9)), (1, .int (nI k))]) C hnL dX3_scripOf_3 rfl (by decide) rfl ?_
  exact e_sub [0, 1, 2, 3] rfl (loop 40 0 (by omega))
def mn2 (x y : Int32) : Int32 := if y ≤ x then y else x
def tkS (M : Mem) (k : Nat) (v : Int32) : Nat → Mem × Int32
  | 0 => (M, v)
  | j + 1 => (up (tkS M k v j).1 20 (40 * k + j) ((tkS M k v j).1 20 (40 * k + j) - mn2 ((tkS M k v j).1 20 (40 * k + j)) (tkS M k v j).2), (tkS M k v j).2 - mn2 ((tkS M k v j).1 20 (40 * k + j)) (tkS M k v j).2)
theorem tkS_s (M : Mem) (k : Nat) (v : Int32) (j : Nat) : tkS M k v (j + 1) = (up (tkS M k v j).1 20 (40 * k + j) ((tkS M k v j).1 20 (40 * k + j) - mn2 ((tkS M k v j).1 20 (40 * k + j)) (tkS M k v j).2), (tkS M k v j).2 - mn2 ((tkS M k v j).1 20 (40 * k + j)) (tkS M k v j).2) := rfl
theorem ix40z (k : Nat) : 40 * nI k = nI (40 * k) := by rw [show (40 : Int32) = nI 40 from rfl, pk_mul]
theorem ix40e (k : Nat) : 40 * nI k + 40 = nI (40 * k + 40) := by rw [ix40z]; exact nI_add _ 40
set_option maxRecDepth 100000 in
set_option maxHeartbeats 4000000 in
theorem c_X3_takes {l : Launch} (hl : l.stackTraces = false) {n : Nat} {ρ : Nat → Nat} {J : Nat → Int64} {M : Mem} {k : Nat} (hk : k < 10) {v : Int32} : CtO l yX3_takes cX3_takes 6 (some .int) 0 0 0 n ρ J M [.ref (ρ 9), .int (nI k), .int v] (rI (v - (tkS M k v 40).2) (tkS M k v 40).1) := by
  refine CtO.of hl (by decide +kernel) (Nat.le_of_ble_eq_true rfl) (fun Ξ hnL C => ?_)
  show E Ξ n ρ J M 0 0 0 [(0, .ref (ρ 9)), (1, .int (nI k)), (2, .int v)] []
  have loop : ∀ (f j : Nat) (N : Mem) (g : Int32), j + f = 40 → tkS M k v j = (N, g) → E Ξ n ρ J N 0 0 8 [(4, .int (nI (40 * k + j))), (3, .int g), (0, .ref (ρ 9)), (1, .int (nI k)), (2, .int v)] [] := by
    intro f
    induction f with
    | zero =>
      intro j N g hjf hN
      have hjn : j = 40 := by omega
      have hN2 : tkS M k v 40 = (N, g) := by rw [← hjn]; exact hN
      refine e_iload (j := 0) C dX3_takes_8 rfl ?_
      refine e_bipush (v := 40) C dX3_takes_10 (by decide) ?_
      refine e_iload_n (j := 3) C dX3_takes_12 rfl rfl ?_
      refine e_imul C dX3_takes_13 ?_
      refine e_bipush (v := 40) C dX3_takes_14 (by decide) ?_
      refine e_iadd C dX3_takes_16 ?_
      refine e_icmp_ge (tgt := 67) C dX3_takes_17 (by decide) (fun c_17 => ?_) (fun c_17 => absurd (by rw [ix40e]; exact nI_le (by omega) (by omega)) c_17)
      refine e_iload_n (j := 4) C dX3_takes_67 rfl rfl ?_
      refine e_iload_n (j := 1) C dX3_takes_68 rfl rfl ?_
      refine e_isub C dX3_takes_69 ?_
      exact e_iret C rfl (Nat.le_of_ble_eq_true rfl) (Nat.le_of_ble_eq_true rfl) dX3_takes_70 (pO.mk (by rw [hN2]))
    | succ f ih =>
      intro j N g hjf hN
      have hps := tkS_s M k v j
      rw [hN] at hps
      dsimp only at hps
      unfold mn2 at hps
      refine e_iload (j := 0) C dX3_takes_8 rfl ?_
      refine e_bipush (v := 40) C dX3_takes_10 (by decide) ?_
      refine e_iload_n (j := 3) C dX3_takes_12 rfl rfl ?_
      refine e_imul C dX3_takes_13 ?_
      refine e_bipush (v := 40) C dX3_takes_14 (by decide) ?_
      refine e_iadd C dX3_takes_16 ?_
      refine e_icmp_ge (tgt := 67) C dX3_takes_17 (by decide) (fun c_17 => absurd c_17 (by rw [ix40e]; exact nI_ge (by omega) (by omega))) (fun c_17 => ?_)
      refine e_aload_n (j := 2) C dX3_takes_20 rfl rfl ?_
      refine e_get3 (k := 11) (ref := "ScripHollowModel") C (by decide) rfl rfl mw_64 dX3_takes_21 ?_
      refine e_iload (j := 0) C dX3_takes_24 rfl ?_
      refine e_ialdN (40 * k + j) C (cnt_fix (by decide)) (fun _ => rfl) rfl (by omega) (by decide) dX3_takes_26 ?_
      refine e_iload_n (j := 1) C dX3_takes_27 rfl rfl ?_
      refine e_icmp_ge (tgt := 41) C dX3_takes_28 (by decide) (fun c_28 => ?_) (fun c_28 => ?_)
      · refine e_iload_n (j := 1) C dX3_takes_41 rfl rfl ?_
        refine e_istore (ls2 := [(5, .int g), (4, .int (nI (40 * k + j))), (3, .int g), (0, .ref (ρ 9)), (1, .int (nI k)), (2, .int v)]) C hnL dX3_takes_42 (by decide) rfl ?_
        refine e_aload_n (j := 3) C dX3_takes_44 rfl rfl ?_
        refine e_get3 (k := 11) (ref := "ScripHollowModel") C (by decide) rfl rfl mw_64 dX3_takes_45 ?_
        refine e_iload (j := 1) C dX3_takes_48 rfl ?_
        refine e_dup2 C dX3_takes_50 rfl rfl ?_
        refine e_ialdN (40 * k + j) C (cnt_fix (by decide)) (fun _ => rfl) rfl (by omega) (by decide) dX3_takes_51 ?_
        refine e_iload (j := 0) C dX3_takes_52 rfl ?_
        refine e_isub C dX3_takes_54 ?_
        refine e_iastN (40 * k + j) C (cnt_fix (by decide)) (fun _ _ => rfl) rfl (by omega) (by decide) dX3_takes_55 ?_
        refine e_iload_n (j := 2) C dX3_takes_56 rfl rfl ?_
        refine e_iload (j := 0) C dX3_takes_57 rfl ?_
        refine e_isub C dX3_takes_59 ?_
        refine e_topi (fun x3_60 ex3_60 => ?_)
        refine e_istore_n (ls2 := [(3, .int x3_60), (5, .int g), (4, .int (nI (40 * k + j))), (0, .ref (ρ 9)), (1, .int (nI k)), (2, .int v)]) C hnL dX3_takes_60 rfl (by decide) rfl ?_
        obtain ⟨x4_61, ex4_61⟩ : ∃ z : Int32, z = (nI (40 * k + j)) + 1 := ⟨_, rfl⟩
        refine e_iinc (j := 2) (v := x4_61) (ls2 := [(4, .int x4_61), (3, .int x3_60), (5, .int g), (0, .ref (ρ 9)), (1, .int (nI k)), (2, .int v)]) C hnL dX3_takes_61 rfl (by rw [ex4_61]; rfl) (by decide) rfl ?_
        refine e_goto (tgt := 8) C dX3_takes_64 (by decide) ?_
        subst ex4_61 ex3_60
        rw [nI_1]
        exact e_sub [0, 1, 3, 4, 5] rfl (ih (j + 1) _ _ (by omega) (by rw [hps]; (repeat (first | rw [if_neg c_17] | rw [if_pos c_28]))))
      · refine e_aload_n (j := 2) C dX3_takes_31 rfl rfl ?_
        refine e_get3 (k := 11) (ref := "ScripHollowModel") C (by decide) rfl rfl mw_64 dX3_takes_32 ?_
        refine e_iload (j := 0) C dX3_takes_35 rfl ?_
        refine e_ialdN (40 * k + j) C (cnt_fix (by decide)) (fun _ => rfl) rfl (by omega) (by decide) dX3_takes_37 ?_
        refine e_goto (tgt := 42) C dX3_takes_38 (by decide) ?_
        refine e_topi (fun x5_42 ex5_42 => ?_)
        refine e_istore (ls2 := [(5, .int x5_42), (4, .int (nI (40 * k + j))), (3, .int g), (0, .ref (ρ 9)), (1, .int (nI k)), (2, .int v)]) C hnL dX3_takes_42 (by decide) rfl ?_
        refine e_aload_n (j := 3) C dX3_takes_44 rfl rfl ?_
        refine e_get3 (k := 11) (ref := "ScripHollowModel") C (by decide) rfl rfl mw_64 dX3_takes_45 ?_
        refine e_iload (j := 1) C dX3_takes_48 rfl ?_
        refine e_dup2 C dX3_takes_50 rfl rfl ?_
        refine e_ialdN (40 * k + j) C (cnt_fix (by decide)) (fun _ => rfl) rfl (by omega) (by decide) dX3_takes_51 ?_
        refine e_iload (j := 0) C dX3_takes_52 rfl ?_
        refine e_isub C dX3_takes_54 ?_
        refine e_iastN (40 * k + j) C (cnt_fix (by decide)) (fun _ _ => rfl) rfl (by omega) (by decide) dX3_takes_55 ?_
        refine e_iload_n (j := 2) C dX3_takes_56 rfl rfl ?_
        refine e_iload (j := 0) C dX3_takes_57 rfl ?_
        refine e_isub C dX3_takes_59 ?_
        refine e_topi (fun x3_60 ex3_60 => ?_)
        refine e_istore_n (ls2 := [(3, .int x3_60), (5, .int x5_42), (4, .int (nI (40 * k + j))), (0, .ref (ρ 9)), (1, .int (nI k)), (2, .int v)]) C hnL dX3_takes_60 rfl (by decide) rfl ?_
        obtain ⟨x4_61, ex4_61⟩ : ∃ z : Int32, z = (nI (40 * k + j)) + 1 := ⟨_, rfl⟩
        refine e_iinc (j := 2) (v := x4_61) (ls2 := [(4, .int x4_61), (3, .int x3_60), (5, .int x5_42), (0, .ref (ρ 9)), (1, .int (nI k)), (2, .int v)]) C hnL dX3_takes_61 rfl (by rw [ex4_61]; rfl) (by decide) rfl ?_
        refine e_goto (tgt := 8) C dX3_takes_64 (by decide) ?_
        subst ex4_61 ex3_60 ex5_42
        rw [nI_1]
        exact e_sub [0, 1, 3, 4, 5] rfl (ih (j + 1) _ _ (by omega) (by rw [hps]; (repeat (first | rw [if_neg c_17] | rw [if_neg c_28]))))
  refine e_iload_n (j := 2) C dX3_takes_0 rfl rfl ?_
  refine e_istore_n (ls2 := [(3, .int v), (0, .ref (ρ 9)), (1, .int (nI k)), (2, .int v)]) C hnL dX3_takes_1 rfl (by decide) rfl ?_
  refine e_bipush (v := 40) C dX3_takes_2 (by decide) ?_
  refine e_iload_n (j := 2) C dX3_takes_4 rfl rfl ?_
  refine e_imul C dX3_takes_5 ?_
  refine e_topi (fun x4_6 ex4_6 => ?_)
  refine e_istore (ls2 := [(4, .int x4_6), (3, .int v), (0, .ref (ρ 9)), (1, .int (nI k)), (2, .int v)]) C hnL dX3_takes_6 (by decide) rfl ?_
  rw [ix40z] at ex4_6
  subst ex4_6
  exact e_sub [0, 1, 2, 3, 4] rfl (loop 40 0 M v (by omega) rfl)
