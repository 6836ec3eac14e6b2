/-! The reference's store, tavern, hill, laws and questions. -/
def lkM (M : Mem) (k : Nat) (c : Int32) : Int32 := if c - smM M k 40 - M 14 k ≤ 0 then 0 else c - smM M k 40 - M 14 k
def omref (M : Mem) (k g : Nat) (w : Int32) : Int32 := if M 9 27 = 0 then (if M 9 26 = 0 then (if M 10 k = 0 then 2 else if lkM M k (w * raF M k g) ≤ 0 then 0 else if M 15 k + lkM M k (w * raF M k g) ≤ M 9 22 then 0 else 3) else 1) else 1
set_option maxRecDepth 100000 in
set_option maxHeartbeats 4000000 in
theorem c_X3_lacks {l : Launch} (hl : l.stackTraces = false) {n : Nat} {ρ : Nat → Nat} {J : Nat → Int64} {M : Mem} {k : Nat} (hk : k < 10) {c : Int32} : CtO l yX3_lacks cX3_lacks 4 (some .int) 1 0 0 n ρ J M [.ref (ρ 9), .int (nI k), .int c] (rI (lkM M k c) M) := by
  refine CtO.of hl (by decide +kernel) (Nat.le_of_ble_eq_true rfl) (fun Ξ hnL C => ?_)
  show E Ξ n ρ J M 0 0 0 [(0, .ref (ρ 9)), (1, .int (nI k)), (2, .int c)] []
  refine e_iload_n (j := 2) C dX3_lacks_0 rfl rfl ?_
  refine e_aload_n (j := 0) C dX3_lacks_1 rfl rfl ?_
  refine e_iload_n (j := 1) C dX3_lacks_2 rfl rfl ?_
  refine e_cV (i := 9) (nA := 1) (Cn := RX3) C (c_X3_scripOf hl hk) rfl (cnt_fix (by decide)) (fun _ => rfl) rfl rfl mw_476 mw_473 mw_474 mw_475 mw_5 (by decide +kernel) (by decide) rfl rfl (Nat.le_of_ble_eq_true rfl) dX3_lacks_3 (Nat.le_of_ble_eq_true rfl) (Nat.le_of_ble_eq_true rfl) ?_
  refine e_isub C dX3_lacks_6 ?_
  refine e_aload_n (j := 0) C dX3_lacks_7 rfl rfl ?_
  refine e_get3 (k := 5) (ref := "ScripHollowModel") C (by decide) rfl rfl mw_58 dX3_lacks_8 ?_
  refine e_iload_n (j := 1) C dX3_lacks_11 rfl rfl ?_
  refine e_ialdN k C (cnt_fix (by decide)) (fun _ => rfl) rfl (by omega) (by decide) dX3_lacks_12 ?_
  refine e_isub C dX3_lacks_13 ?_
  refine e_topi (fun x3_14 ex3_14 => ?_)
  refine e_istore_n (ls2 := [(3, .int x3_14), (0, .ref (ρ 9)), (1, .int (nI k)), (2, .int c)]) C hnL dX3_lacks_14 rfl (by decide) rfl ?_
  refine e_iload_n (j := 0) C dX3_lacks_15 rfl rfl ?_
  refine e_if_le (tgt := 23) C dX3_lacks_16 (by decide) (fun c_16 => ?_) (fun c_16 => ?_)
  · refine e_iconst (v := 0) C dX3_lacks_23 (by decide) ?_
    exact e_iret C rfl (Nat.le_of_ble_eq_true rfl) (Nat.le_of_ble_eq_true rfl) dX3_lacks_24 (pO.mk (by subst ex3_14; unfold lkM; first | rw [if_neg c_16] | rw [if_pos c_16]))
  · refine e_iload_n (j := 0) C dX3_lacks_19 rfl rfl ?_
    refine e_goto (tgt := 24) C dX3_lacks_20 (by decide) ?_
    exact e_iret C rfl (Nat.le_of_ble_eq_true rfl) (Nat.le_of_ble_eq_true rfl) dX3_lacks_24 (pO.mk (by subst ex3_14; unfold lkM; first | rw [if_neg c_16] | rw [if_pos c_16]))
set_option maxRecDepth 100000 in
set_option maxHeartbeats 4000000 in
theorem c_X3_reason {l : Launch} (hl : l.stackTraces = false) {n : Nat} {ρ : Nat → Nat} {J : Nat → Int64} {M : Mem} {k g : Nat} (hk : k < 10) (hg : g < 4) {w : Int32} : CtO l yX3_reason cX3_reason 5 (some .int) 2 0 0 n ρ J M [.ref (ρ 9), .int (nI k), .int (nI g), .int w] (rI (omref M k g w) M) := by
  refine CtO.of hl (by decide +kernel) (Nat.le_of_ble_eq_true rfl) (fun Ξ hnL C => ?_)
  show E Ξ n ρ J M 0 0 0 [(0, .ref (ρ 9)), (1, .int (nI k)), (2, .int (nI g)), (3, .int w)] []
  refine e_aload_n (j := 0) C dX3_reason_0 rfl rfl ?_
  refine e_get3 (k := 27) (ref := "ScripHollowModel") C (by decide) rfl rfl mw_260 dX3_reason_1 ?_
  refine e_if_ne (tgt := 14) C dX3_reason_4 (by decide) (fun c_4 => ?_) (fun c_4 => ?_)
  · refine e_iconst (v := 1) C dX3_reason_14 (by decide) ?_
    exact e_iret C rfl (Nat.le_of_ble_eq_true rfl) (Nat.le_of_ble_eq_true rfl) dX3_reason_15 (pO.mk (by (try subst ex4_40); unfold omref; (repeat (first | rw [if_neg c_4]))))
  · refine e_aload_n (j := 0) C dX3_reason_7 rfl rfl ?_
    refine e_get3 (k := 26) (ref := "ScripHollowModel") C (by decide) rfl rfl mw_259 dX3_reason_8 ?_
    refine e_if_eq (tgt := 16) C dX3_reason_11 (by decide) (fun c_11 => ?_) (fun c_11 => ?_)
    · refine e_aload_n (j := 0) C dX3_reason_16 rfl rfl ?_
      refine e_get3 (k := 1) (ref := "ScripHollowModel") C (by decide) rfl rfl mw_54 dX3_reason_17 ?_
      refine e_iload_n (j := 1) C dX3_reason_20 rfl rfl ?_
      refine e_zaldN k C (cnt_fix (by decide)) (fun _ => rfl) rfl (by omega) (by decide) dX3_reason_21 ?_
      refine e_if_ne (tgt := 27) C dX3_reason_22 (by decide) (fun c_22 => ?_) (fun c_22 => ?_)
      · refine e_aload_n (j := 0) C dX3_reason_27 rfl rfl ?_
        refine e_iload_n (j := 1) C dX3_reason_28 rfl rfl ?_
        refine e_iload_n (j := 3) C dX3_reason_29 rfl rfl ?_
        refine e_aload_n (j := 0) C dX3_reason_30 rfl rfl ?_
        refine e_iload_n (j := 1) C dX3_reason_31 rfl rfl ?_
        refine e_iload_n (j := 2) C dX3_reason_32 rfl rfl ?_
        refine e_cV (i := 9) (nA := 2) (Cn := RX3) C (c_X3_raisedFor hl hk hg) rfl (cnt_fix (by decide)) (fun _ => rfl) rfl rfl mw_428 mw_425 mw_426 mw_427 mw_5 (by decide +kernel) (by decide) rfl rfl (Nat.le_of_ble_eq_true rfl) dX3_reason_33 (Nat.le_of_ble_eq_true rfl) (Nat.le_of_ble_eq_true rfl) ?_
        refine e_imul C dX3_reason_36 ?_
        refine e_cV (i := 9) (nA := 2) (Cn := RX3) C (c_X3_lacks hl hk) rfl (cnt_fix (by decide)) (fun _ => rfl) rfl rfl mw_472 mw_469 mw_470 mw_471 mw_5 (by decide +kernel) (by decide) rfl rfl (Nat.le_of_ble_eq_true rfl) dX3_reason_37 (Nat.le_of_ble_eq_true rfl) (Nat.le_of_ble_eq_true rfl) ?_
        refine e_topi (fun x4_40 ex4_40 => ?_)
        refine e_istore (ls2 := [(4, .int x4_40), (0, .ref (ρ 9)), (1, .int (nI k)), (2, .int (nI g)), (3, .int w)]) C hnL dX3_reason_40 (by decide) rfl ?_
        refine e_iload (j := 0) C dX3_reason_42 rfl ?_
        refine e_if_le (tgt := 67) C dX3_reason_44 (by decide) (fun c_44 => ?_) (fun c_44 => ?_)
        · refine e_iconst (v := 0) C dX3_reason_67 (by decide) ?_
          exact e_iret C rfl (Nat.le_of_ble_eq_true rfl) (Nat.le_of_ble_eq_true rfl) dX3_reason_68 (pO.mk (by (try subst ex4_40); unfold omref; (repeat (first | rw [if_pos c_4] | rw [if_pos c_11] | rw [if_neg c_22] | rw [if_pos c_44]))))
        · refine e_aload_n (j := 1) C dX3_reason_47 rfl rfl ?_
          refine e_get3 (k := 6) (ref := "ScripHollowModel") C (by decide) rfl rfl mw_59 dX3_reason_48 ?_
          refine e_iload_n (j := 2) C dX3_reason_51 rfl rfl ?_
          refine e_ialdN k C (cnt_fix (by decide)) (fun _ => rfl) rfl (by omega) (by decide) dX3_reason_52 ?_
          refine e_iload (j := 0) C dX3_reason_53 rfl ?_
          refine e_iadd C dX3_reason_55 ?_
          refine e_aload_n (j := 1) C dX3_reason_56 rfl rfl ?_
          refine e_get3 (k := 22) (ref := "ScripHollowModel") C (by decide) rfl rfl mw_73 dX3_reason_57 ?_
          refine e_icmp_le (tgt := 67) C dX3_reason_60 (by decide) (fun c_60 => ?_) (fun c_60 => ?_)
          · refine e_iconst (v := 0) C dX3_reason_67 (by decide) ?_
            exact e_iret C rfl (Nat.le_of_ble_eq_true rfl) (Nat.le_of_ble_eq_true rfl) dX3_reason_68 (pO.mk (by (try subst ex4_40); unfold omref; (repeat (first | rw [if_pos c_4] | rw [if_pos c_11] | rw [if_neg c_22] | rw [if_neg c_44] | rw [if_pos c_60]))))
          · refine e_iconst (v := 3) C dX3_reason_63 (by decide) ?_
            refine e_goto (tgt := 68) C dX3_reason_64 (by decide) ?_
            exact e_iret C rfl (Nat.le_of_ble_eq_true rfl) (Nat.le_of_ble_eq_true rfl) dX3_reason_68 (pO.mk (by (try subst ex4_40); unfold omref; (repeat (first | rw [if_pos c_4] | rw [if_pos c_11] | rw [if_neg c_22] | rw [if_neg c_44] | rw [if_neg c_60]))))
      · refine e_iconst (v := 2) C dX3_reason_25 (by decide) ?_
        exact e_iret C rfl (Nat.le_of_ble_eq_true rfl) (Nat.le_of_ble_eq_true rfl) dX3_reason_26 (pO.mk (by (try subst ex4_40); unfold omref; (repeat (first | rw [if_pos c_4] | rw [if_pos c_11] | rw [if_pos c_22]))))
    · refine e_iconst (v := 1) C dX3_reason_14 (by decide) ?_
      exact e_iret C rfl (Nat.le_of_ble_eq_true rfl) (Nat.le_of_ble_eq_true rfl) dX3_reason_15 (pO.mk (by (try subst ex4_40); unfold omref; (repeat (first | rw [if_pos c_4] | rw [if_neg c_11]))))
set_option maxRecDepth 100000 in
set_option maxHeartbeats 4000000 in
theorem c_X3_raised_x {l : Launch} (hl : l.stackTraces = false) {n : Nat} {ρ : Nat → Nat} {J : Nat → Int64} {M : Mem} {x : Int32} (h : x < 0 ∨ nI n ≤ x) (hn : n ≤ 10) (hm : M 9 0 = nI n) {y : Int32} : CtO l yX3_raised cX3_raised 3 (some .int) 3 0 0 n ρ J M [.ref (ρ 9), .int x, .int y] (mo M 1 0) := by
  refine CtO.of hl (by decide +kernel) (Nat.le_of_ble_eq_true rfl) (fun Ξ hnL C => ?_)
  show E Ξ n ρ J M 0 0 0 [(0, .ref (ρ 9)), (1, .int x), (2, .int y)] []
  refine e_aload_n (j := 0) C dX3_raised_0 rfl rfl ?_
  refine e_aload_n (j := 0) C dX3_raised_1 rfl rfl ?_
  refine e_iload_n (j := 1) C dX3_raised_2 rfl rfl ?_
  refine e_cV (i := 9) (nA := 1) (Cn := RX3) C (c_X3_isMiner_x hl h hn hm) rfl (cnt_fix (by decide)) (fun _ => rfl) rfl rfl mw_213 mw_210 mw_211 mw_212 mw_5 (by decide +kernel) (by decide) rfl rfl (Nat.le_of_ble_eq_true rfl) dX3_raised_3 (Nat.le_of_ble_eq_true rfl) (Nat.le_of_ble_eq_true rfl) ?_
  refine e_if_eq (tgt := 20) C dX3_raised_6 (by decide) (fun c_6 => ?_) (fun c_6 => absurd (by decide) c_6)
  refine e_iconst (v := 0) C dX3_raised_20 (by decide) ?_
  refine e_iconst (v := 1) C dX3_raised_21 (by decide) ?_
  refine e_iconst (v := 1) C dX3_raised_22 (by decide) ?_
  refine e_cV (i := 9) (nA := 3) (Cn := RX3) C (c_X3_g1 hl) rfl (cnt_fix (by decide)) (fun _ => rfl) rfl rfl mw_162 mw_159 mw_160 mw_161 mw_5 (by decide +kernel) (by decide) rfl rfl (Nat.le_of_ble_eq_true rfl) dX3_raised_23 (Nat.le_of_ble_eq_true rfl) (Nat.le_of_ble_eq_true rfl) ?_
  refine e_if_eq (tgt := 38) C dX3_raised_26 (by decide) (fun c_26 => ?_) (fun c_26 => absurd (by decide) c_26)
  refine e_iconst (v := 0) C dX3_raised_38 (by decide) ?_
  exact e_iret C rfl (Nat.le_of_ble_eq_true rfl) (Nat.le_of_ble_eq_true rfl) dX3_raised_39 (pO.mk rfl)
set_option maxRecDepth 100000 in
set_option maxHeartbeats 4000000 in
theorem c_X3_raised_g {l : Launch} (hl : l.stackTraces = false) {n : Nat} {ρ : Nat → Nat} {J : Nat → Int64} {M : Mem} {k : Nat} (hk : k < n) (hn : n ≤ 10) (hm : M 9 0 = nI n) {y : Int32} (h : y < 0 ∨ 4 ≤ y) : CtO l yX3_raised cX3_raised 3 (some .int) 3 0 0 n ρ J M [.ref (ρ 9), .int (nI k), .int y] (mo M 1 0) := by
  refine CtO.of hl (by decide +kernel) (Nat.le_of_ble_eq_true rfl) (fun Ξ hnL C => ?_)
  show E Ξ n ρ J M 0 0 0 [(0, .ref (ρ 9)), (1, .int (nI k)), (2, .int y)] []
  refine e_aload_n (j := 0) C dX3_raised_0 rfl rfl ?_
  refine e_aload_n (j := 0) C dX3_raised_1 rfl rfl ?_
  refine e_iload_n (j := 1) C dX3_raised_2 rfl rfl ?_
  refine e_cV (i := 9) (nA := 1) (Cn := RX3) C (c_X3_isMiner hl hk hn hm) rfl (cnt_fix (by decide)) (fun _ => rfl) rfl rfl mw_213 mw_210 mw_211 mw_212 mw_5 (by decide +kernel) (by decide) rfl rfl (Nat.le_of_ble_eq_true rfl) dX3_raised_3 (Nat.le_of_ble_eq_true rfl) (Nat.le_of_ble_eq_true rfl) ?_
  refine e_if_eq (tgt := 20) C dX3_raised_6 (by decide) (fun c_6 => absurd c_6 (by decide)) (fun c_6 => ?_)
  refine e_iload_n (j := 2) C dX3_raised_9 rfl rfl ?_
  refine e_cS (nA := 1) C (c_X3_isGoods_x hl h) rfl mw_409 mw_407 mw_408 mw_5 (by decide +kernel) (by decide) rfl rfl (Nat.le_of_ble_eq_true rfl) dX3_raised_10 (Nat.le_of_ble_eq_true rfl) (Nat.le_of_ble_eq_true rfl) ?_
  refine e_if_eq (tgt := 20) C dX3_raised_13 (by decide) (fun c_13 => ?_) (fun c_13 => absurd (by decide) c_13)
  refine e_iconst (v := 0) C dX3_raised_20 (by decide) ?_
  refine e_iconst (v := 1) C dX3_raised_21 (by decide) ?_
  refine e_iconst (v := 1) C dX3_raised_22 (by decide) ?_
  refine e_cV (i := 9) (nA := 3) (Cn := RX3) C (c_X3_g1 hl) rfl (cnt_fix (by decide)) (fun _ => rfl) rfl rfl mw_162 mw_159 mw_160 mw_161 mw_5 (by decide +kernel) (by decide) rfl rfl (Nat.le_of_ble_eq_true rfl) dX3_raised_23 (Nat.le_of_ble_eq_true rfl) (Nat.le_of_ble_eq_true rfl) ?_
  refine e_if_eq (tgt := 38) C dX3_raised_26 (by decide) (fun c_26 => ?_) (fun c_26 => absurd (by decide) c_26)
  refine e_iconst (v := 0) C dX3_raised_38 (by decide) ?_
  exact e_iret C rfl (Nat.le_of_ble_eq_true rfl) (Nat.le_of_ble_eq_true rfl) dX3_raised_39 (pO.mk rfl)
set_option maxRecDepth 100000 in
set_option maxHeartbeats 4000000 in
theorem c_X3_raised {l : Launch} (hl : l.stackTraces = false) {n : Nat} {ρ : Nat → Nat} {J : Nat → Int64} {M : Mem} {k : Nat} (hk : k < n) (hn : n ≤ 10) (hm : M 9 0 = nI n) {g : Nat} (hg : g < 4) : CtO l yX3_raised cX3_raised 3 (some .int) 3 0 0 n ρ J M [.ref (ρ 9), .int (nI k), .int (nI g)] (rI (raF (ml M 0) k g) (ml M 0)) := by
  refine CtO.of hl (by decide +kernel) (Nat.le_of_ble_eq_true rfl) (fun Ξ hnL C => ?_)
  show E Ξ n ρ J M 0 0 0 [(0, .ref (ρ 9)), (1, .int (nI k)), (2, .int (nI g))] []
  refine e_aload_n (j := 0) C dX3_raised_0 rfl rfl ?_
  refine e_aload_n (j := 0) C dX3_raised_1 rfl rfl ?_
  refine e_iload_n (j := 1) C dX3_raised_2 rfl rfl ?_
  refine e_cV (i := 9) (nA := 1) (Cn := RX3) C (c_X3_isMiner hl hk hn hm) rfl (cnt_fix (by decide)) (fun _ => rfl) rfl rfl mw_213 mw_210 mw_211 mw_212 mw_5 (by decide +kernel) (by decide) rfl rfl (Nat.le_of_ble_eq_true rfl) dX3_raised_3 (Nat.le_of_ble_eq_true rfl) (Nat.le_of_ble_eq_true rfl) ?_
  refine e_if_eq (tgt := 20) C dX3_raised_6 (by decide) (fun c_6 => absurd c_6 (by decide)) (fun c_6 => ?_)
  refine e_iload_n (j := 2) C dX3_raised_9 rfl rfl ?_
  refine e_cS (nA := 1) C (c_X3_isGoods hl hg) rfl mw_409 mw_407 mw_408 mw_5 (by decide +kernel) (by decide) rfl rfl (Nat.le_of_ble_eq_true rfl) dX3_raised_10 (Nat.le_of_ble_eq_true rfl) (Nat.le_of_ble_eq_true rfl) ?_
  refine e_if_eq (tgt := 20) C dX3_raised_13 (by decide) (fun c_13 => absurd c_13 (by decide)) (fun c_13 => ?_)
  refine e_iconst (v := 1) C dX3_raised_16 (by decide) ?_
  refine e_goto (tgt := 21) C dX3_raised_17 (by decide) ?_
  refine e_iconst (v := 1) C dX3_raised_21 (by decide) ?_
  refine e_iconst (v := 1) C dX3_raised_22 (by decide) ?_
  refine e_cV (i := 9) (nA := 3) (Cn := RX3) C (c_X3_g0 hl) rfl (cnt_fix (by decide)) (fun _ => rfl) rfl rfl mw_162 mw_159 mw_160 mw_161 mw_5 (by decide +kernel) (by decide) rfl rfl (Nat.le_of_ble_eq_true rfl) dX3_raised_23 (Nat.le_of_ble_eq_true rfl) (Nat.le_of_ble_eq_true rfl) ?_
  refine e_if_eq (tgt := 38) C dX3_raised_26 (by decide) (fun c_26 => absurd c_26 (by decide)) (fun c_26 => ?_)
  refine e_aload_n (j := 0) C dX3_raised_29 rfl rfl ?_
  refine e_iload_n (j := 1) C dX3_raised_30 rfl rfl ?_
  refine e_iload_n (j := 2) C dX3_raised_31 rfl rfl ?_
  refine e_cV (i := 9) (nA := 2) (Cn := RX3) C (c_X3_raisedFor hl (show k < 10 by omega) hg) rfl (cnt_fix (by decide)) (fun _ => rfl) rfl rfl mw_428 mw_425 mw_426 mw_427 mw_5 (by decide +kernel) (by decide) rfl rfl (Nat.le_of_ble_eq_true rfl) dX3_raised_32 (Nat.le_of_ble_eq_true rfl) (Nat.le_of_ble_eq_true rfl) ?_
  refine e_goto (tgt := 39) C dX3_raised_35 (by decide) ?_
  exact e_iret C rfl (Nat.le_of_ble_eq_true rfl) (Nat.le_of_ble_eq_true rfl) dX3_raised_39 (pO.mk rfl)
set_option maxRecDepth 100000 in
set_option maxHeartbeats 4000000 in
theorem c_X3_whyNot_x {l : Launch} (hl : l.stackTraces = false) {n : Nat} {ρ : Nat → Nat} {J : Nat → Int64} {M : Mem} {x y w : Int32} (h : x < 0 ∨ nI n ≤ x) (hn : n ≤ 10) (hm : M 9 0 = nI n) : CtO l yX3_whyNot cX3_whyNot 4 (some .int) 3 0 0 n ρ J M [.ref (ρ 9), .int x, .int y, .int w] (mo M 1 0) := by
  refine CtO.of hl (by decide +kernel) (Nat.le_of_ble_eq_true rfl) (fun Ξ hnL C => ?_)
  show E Ξ n ρ J M 0 0 0 [(0, .ref (ρ 9)), (1, .int x), (2, .int y), (3, .int w)] []
  by_cases hw : w < 1 ∨ 50 < w
  · refine e_aload_n (j := 0) C dX3_whyNot_0 rfl rfl ?_
    refine e_aload_n (j := 0) C dX3_whyNot_1 rfl rfl ?_
    refine e_iload_n (j := 1) C dX3_whyNot_2 rfl rfl ?_
    refine e_cV (i := 9) (nA := 1) (Cn := RX3) C (c_X3_isMiner_x hl h hn hm) rfl (cnt_fix (by decide)) (fun _ => rfl) rfl rfl mw_213 mw_210 mw_211 mw_212 mw_5 (by decide +kernel) (by decide) rfl rfl (Nat.le_of_ble_eq_true rfl) dX3_whyNot_3 (Nat.le_of_ble_eq_true rfl) (Nat.le_of_ble_eq_true rfl) ?_
    refine e_if_eq (tgt := 20) C dX3_whyNot_6 (by decide) (fun c_6 => ?_) (fun c_6 => absurd (by decide) c_6)
    refine e_iconst (v := 0) C dX3_whyNot_20 (by decide) ?_
    refine e_iload_n (j := 3) C dX3_whyNot_21 rfl rfl ?_
    refine e_iconst (v := 1) C dX3_whyNot_22 (by decide) ?_
    refine e_bipush (v := 50) C dX3_whyNot_23 (by decide) ?_
    refine e_cS (nA := 3) C (c_X3_in0 hl hw) rfl mw_216 mw_214 mw_215 mw_5 (by decide +kernel) (by decide) rfl rfl (Nat.le_of_ble_eq_true rfl) dX3_whyNot_25 (Nat.le_of_ble_eq_true rfl) (Nat.le_of_ble_eq_true rfl) ?_
    refine e_iconst (v := 1) C dX3_whyNot_28 (by decide) ?_
    refine e_cV (i := 9) (nA := 3) (Cn := RX3) C (c_X3_g1 hl) rfl (cnt_fix (by decide)) (fun _ => rfl) rfl rfl mw_162 mw_159 mw_160 mw_161 mw_5 (by decide +kernel) (by decide) rfl rfl (Nat.le_of_ble_eq_true rfl) dX3_whyNot_29 (Nat.le_of_ble_eq_true rfl) (Nat.le_of_ble_eq_true rfl) ?_
    refine e_if_eq (tgt := 45) C dX3_whyNot_32 (by decide) (fun c_32 => ?_) (fun c_32 => absurd (by decide) c_32)
    refine e_iconst (v := 0) C dX3_whyNot_45 (by decide) ?_
    exact e_iret C rfl (Nat.le_of_ble_eq_true rfl) (Nat.le_of_ble_eq_true rfl) dX3_whyNot_46 (pO.mk rfl)
  · refine e_aload_n (j := 0) C dX3_whyNot_0 rfl rfl ?_
    refine e_aload_n (j := 0) C dX3_whyNot_1 rfl rfl ?_
    refine e_iload_n (j := 1) C dX3_whyNot_2 rfl rfl ?_
    refine e_cV (i := 9) (nA := 1) (Cn := RX3) C (c_X3_isMiner_x hl h hn hm) rfl (cnt_fix (by decide)) (fun _ => rfl) rfl rfl mw_213 mw_210 mw_211 mw_212 mw_5 (by decide +kernel) (by decide) rfl rfl (Nat.le_of_ble_eq_true rfl) dX3_whyNot_3 (Nat.le_of_ble_eq_true rfl) (Nat.le_of_ble_eq_true rfl) ?_
    refine e_if_eq (tgt := 20) C dX3_whyNot_6 (by decide) (fun c_6 => ?_) (fun c_6 => absurd (by decide) c_6)
    refine e_iconst (v := 0) C dX3_whyNot_20 (by decide) ?_
    refine e_iload_n (j := 3) C dX3_whyNot_21 rfl rfl ?_
    refine e_iconst (v := 1) C dX3_whyNot_22 (by decide) ?_
    refine e_bipush (v := 50) C dX3_whyNot_23 (by decide) ?_
    refine e_cS (nA := 3) C (c_X3_in1 hl (rng_ok hw).1 (rng_ok hw).2) rfl mw_216 mw_214 mw_215 mw_5 (by decide +kernel) (by decide) rfl rfl (Nat.le_of_ble_eq_true rfl) dX3_whyNot_25 (Nat.le_of_ble_eq_true rfl) (Nat.le_of_ble_eq_true rfl) ?_
    refine e_iconst (v := 1) C dX3_whyNot_28 (by decide) ?_
    refine e_cV (i := 9) (nA := 3) (Cn := RX3) C (c_X3_g1 hl) rfl (cnt_fix (by decide)) (fun _ => rfl) rfl rfl mw_162 mw_159 mw_160 mw_161 mw_5 (by decide +kernel) (by decide) rfl rfl (Nat.le_of_ble_eq_true rfl) dX3_whyNot_29 (Nat.le_of_ble_eq_true rfl) (Nat.le_of_ble_eq_true rfl) ?_
    refine e_if_eq (tgt := 45) C dX3_whyNot_32 (by decide) (fun c_32 => ?_) (fun c_32 => absurd (by decide) c_32)
    refine e_iconst (v := 0) C dX3_whyNot_45 (by decide) ?_
    exact e_iret C rfl (Nat.le_of_ble_eq_true rfl) (Nat.le_of_ble_eq_true rfl) dX3_whyNot_46 (pO.mk rfl)
set_option maxRecDepth 100000 in
set_option maxHeartbeats 4000000 in
theorem c_X3_whyNot_g {l : Launch} (hl : l.stackTraces = false) {n : Nat} {ρ : Nat → Nat} {J : Nat → Int64} {M : Mem} {k : Nat} (hk : k < n) (hn : n ≤ 10) (hm : M 9 0 = nI n) {y w : Int32} (h : y < 0 ∨ 4 ≤ y) : CtO l yX3_whyNot cX3_whyNot 4 (some .int) 3 0 0 n ρ J M [.ref (ρ 9), .int (nI k), .int y, .int w] (mo M 1 0) := by
  refine CtO.of hl (by decide +kernel) (Nat.le_of_ble_eq_true rfl) (fun Ξ hnL C => ?_)
  show E Ξ n ρ J M 0 0 0 [(0, .ref (ρ 9)), (1, .int (nI k)), (2, .int y), (3, .int w)] []
  by_cases hw : w < 1 ∨ 50 < w
  · refine e_aload_n (j := 0) C dX3_whyNot_0 rfl rfl ?_
    refine e_aload_n (j := 0) C dX3_whyNot_1 rfl rfl ?_
    refine e_iload_n (j := 1) C dX3_whyNot_2 rfl rfl ?_
    refine e_cV (i := 9) (nA := 1) (Cn := RX3) C (c_X3_isMiner hl hk hn hm) rfl (cnt_fix (by decide)) (fun _ => rfl) rfl rfl mw_213 mw_210 mw_211 mw_212 mw_5 (by decide +kernel) (by decide) rfl rfl (Nat.le_of_ble_eq_true rfl) dX3_whyNot_3 (Nat.le_of_ble_eq_true rfl) (Nat.le_of_ble_eq_true rfl) ?_
    refine e_if_eq (tgt := 20) C dX3_whyNot_6 (by decide) (fun c_6 => absurd c_6 (by decide)) (fun c_6 => ?_)
    refine e_iload_n (j := 2) C dX3_whyNot_9 rfl rfl ?_
    refine e_cS (nA := 1) C (c_X3_isGoods_x hl h) rfl mw_409 mw_407 mw_408 mw_5 (by decide +kernel) (by decide) rfl rfl (Nat.le_of_ble_eq_true rfl) dX3_whyNot_10 (Nat.le_of_ble_eq_true rfl) (Nat.le_of_ble_eq_true rfl) ?_
    refine e_if_eq (tgt := 20) C dX3_whyNot_13 (by decide) (fun c_13 => ?_) (fun c_13 => absurd (by decide) c_13)
    refine e_iconst (v := 0) C dX3_whyNot_20 (by decide) ?_
    refine e_iload_n (j := 3) C dX3_whyNot_21 rfl rfl ?_
    refine e_iconst (v := 1) C dX3_whyNot_22 (by decide) ?_
    refine e_bipush (v := 50) C dX3_whyNot_23 (by decide) ?_
    refine e_cS (nA := 3) C (c_X3_in0 hl hw) rfl mw_216 mw_214 mw_215 mw_5 (by decide +kernel) (by decide) rfl rfl (Nat.le_of_ble_eq_true rfl) dX3_whyNot_25 (Nat.le_of_ble_eq_true rfl) (Nat.le_of_ble_eq_true rfl) ?_
    refine e_iconst (v := 1) C dX3_whyNot_28 (by decide) ?_
    refine e_cV (i := 9) (nA := 3) (Cn := RX3) C (c_X3_g1 hl) rfl (cnt_fix (by decide)) (fun _ => rfl) rfl rfl mw_162 mw_159 mw_160 mw_161 mw_5 (by decide +kernel) (by decide) rfl rfl (Nat.le_of_ble_eq_true rfl) dX3_whyNot_29 (Nat.le_of_ble_eq_true rfl) (Nat.le_of_ble_eq_true rfl) ?_
    refine e_if_eq (tgt := 45) C dX3_whyNot_32 (by decide) (fun c_32 => ?_) (fun c_32 => absurd (by decide) c_32)
    refine e_iconst (v := 0) C dX3_whyNot_45 (by decide) ?_
    exact e_iret C rfl (Nat.le_of_ble_eq_true rfl) (Nat.le_of_ble_eq_true rfl) dX3_whyNot_46 (pO.mk rfl)
  · refine e_aload_n (j := 0) C dX3_whyNot_0 rfl rfl ?_
    refine e_aload_n (j := 0) C dX3_whyNot_1 rfl rfl ?_
    refine e_iload_n (j := 1) C dX3_whyNot_2 rfl rfl ?_
    refine e_cV (i := 9) (nA := 1) (Cn := RX3) C (c_X3_isMiner hl hk hn hm) rfl (cnt_fix (by decide)) (fun _ => rfl) rfl rfl mw_213 mw_210 mw_211 mw_212 mw_5 (by decide +kernel) (by decide) rfl rfl (Nat.le_of_ble_eq_true rfl) dX3_whyNot_3 (Nat.le_of_ble_eq_true rfl) (Nat.le_of_ble_eq_true rfl) ?_
    refine e_if_eq (tgt := 20) C dX3_whyNot_6 (by decide) (fun c_6 => absurd c_6 (by decide)) (fun c_6 => ?_)
    refine e_iload_n (j := 2) C dX3_whyNot_9 rfl rfl ?_
    refine e_cS (nA := 1) C (c_X3_isGoods_x hl h) rfl mw_409 mw_407 mw_408 mw_5 (by decide +kernel) (by decide) rfl rfl (Nat.le_of_ble_eq_true rfl) dX3_whyNot_10 (Nat.le_of_ble_eq_true rfl) (Nat.le_of_ble_eq_true rfl) ?_
    refine e_if_eq (tgt := 20) C dX3_whyNot_13 (by decide) (fun c_13 => ?_) (fun c_13 => absurd (by decide) c_13)
    refine e_iconst (v := 0) C dX3_whyNot_20 (by decide) ?_
    refine e_iload_n (j := 3) C dX3_whyNot_21 rfl rfl ?_
    refine e_iconst (v := 1) C dX3_whyNot_22 (by decide) ?_
    refine e_bipush (v := 50) C dX3_whyNot_23 (by decide) ?_
    refine e_cS (nA := 3) C (c_X3_in1 hl (rng_ok hw).1 (rng_ok hw).2) rfl mw_216 mw_214 mw_215 mw_5 (by decide +kernel) (by decide) rfl rfl (Nat.le_of_ble_eq_true rfl) dX3_whyNot_25 (Nat.le_of_ble_eq_true rfl) (Nat.le_of_ble_eq_true rfl) ?_
    refine e_iconst (v := 1) C dX3_whyNot_28 (by decide) ?_
    refine e_cV (i := 9) (nA := 3) (Cn := RX3) C (c_X3_g1 hl) rfl (cnt_fix (by decide)) (fun _ => rfl) rfl rfl mw_162 mw_159 mw_160 mw_161 mw_5 (by decide +kernel) (by decide) rfl rfl (Nat.le_of_ble_eq_true rfl) dX3_whyNot_29 (Nat.le_of_ble_eq_true rfl) (Nat.le_of_ble_eq_true rfl) ?_
    refine e_if_eq (tgt := 45) C dX3_whyNot_32 (by decide) (fun c_32 => ?_) (fun c_32 => absurd (by decide) c_32)
    refine e_iconst (v := 0) C dX3_whyNot_45 (by decide) ?_
    exact e_iret C rfl (Nat.le_of_ble_eq_true rfl) (Nat.le_of_ble_eq_true rfl) dX3_whyNot_46 (pO.mk rfl)
set_option maxRecDepth 100000 in
set_option maxHeartbeats 4000000 in
theorem c_X3_buy_x {l : Launch} (hl : l.stackTraces = false) {n : Nat} {ρ : Nat → Nat} {J : Nat → Int64} {M : Mem} {x y w : Int32} (h : x < 0 ∨ nI n ≤ x) (hn : n ≤ 10) (hm : M 9 0 = nI n) : CtO l yX3_buy cX3_buy 9 (some .int) 3 0 0 n ρ J M [.ref (ρ 9), .int x, .int y, .int w] (mo M 1 0) := by
  refine CtO.of hl (by decide +kernel) (Nat.le_of_ble_eq_true rfl) (fun Ξ hnL C => ?_)
  show E Ξ n ρ J M 0 0 0 [(0, .ref (ρ 9)), (1, .int x), (2, .int y), (3, .int w)] []
  by_cases hw : w < 1 ∨ 50 < w
  · refine e_aload_n (j := 0) C dX3_buy_0 rfl rfl ?_
    refine e_iload_n (j := 1) C dX3_buy_1 rfl rfl ?_
    refine e_cV (i := 9) (nA := 1) (Cn := RX3) C (c_X3_isMiner_x hl h hn hm) rfl (cnt_fix (by decide)) (fun _ => rfl) rfl rfl mw_213 mw_210 mw_211 mw_212 mw_5 (by decide +kernel) (by decide) rfl rfl (Nat.le_of_ble_eq_true rfl) dX3_buy_2 (Nat.le_of_ble_eq_true rfl) (Nat.le_of_ble_eq_true rfl) ?_
    refine e_if_eq (tgt := 19) C dX3_buy_5 (by decide) (fun c_5 => ?_) (fun c_5 => absurd (by decide) c_5)
    refine e_iconst (v := 0) C dX3_buy_19 (by decide) ?_
    refine e_istore (ls2 := [(4, .int 0), (0, .ref (ρ 9)), (1, .int x), (2, .int y), (3, .int w)]) C hnL dX3_buy_20 (by decide) rfl ?_
    refine e_iload_n (j := 4) C dX3_buy_22 rfl rfl ?_
    refine e_iconst (v := 1) C dX3_buy_23 (by decide) ?_
    refine e_bipush (v := 50) C dX3_buy_24 (by decide) ?_
    refine e_cS (nA := 3) C (c_X3_in0 hl hw) rfl mw_216 mw_214 mw_215 mw_5 (by decide +kernel) (by decide) rfl rfl (Nat.le_of_ble_eq_true rfl) dX3_buy_26 (Nat.le_of_ble_eq_true rfl) (Nat.le_of_ble_eq_true rfl) ?_
    refine e_istore (ls2 := [(5, .int 0), (4, .int 0), (0, .ref (ρ 9)), (1, .int x), (2, .int y), (3, .int w)]) C hnL dX3_buy_29 (by decide) rfl ?_
    refine e_aload_n (j := 2) C dX3_buy_31 rfl rfl ?_
    refine e_iload (j := 1) C dX3_buy_32 rfl ?_
    refine e_iload (j := 0) C dX3_buy_34 rfl ?_
    refine e_iload (j := 1) C dX3_buy_36 rfl ?_
    refine e_if_eq (tgt := 60) C dX3_buy_38 (by decide) (fun c_38 => ?_) (fun c_38 => absurd (by decide) c_38)
    refine e_iconst (v := 0) C dX3_buy_60 (by decide) ?_
    refine e_cV (i := 9) (nA := 3) (Cn := RX3) C (c_X3_g1 hl) rfl (cnt_fix (by decide)) (fun _ => rfl) rfl rfl mw_162 mw_159 mw_160 mw_161 mw_5 (by decide +kernel) (by decide) rfl rfl (Nat.le_of_ble_eq_true rfl) dX3_buy_61 (Nat.le_of_ble_eq_true rfl) (Nat.le_of_ble_eq_true rfl) ?_
    refine e_if_ne (tgt := 69) C dX3_buy_64 (by decide) (fun c_64 => absurd (by decide) c_64) (fun c_64 => ?_)
    refine e_iconst (v := 0) C dX3_buy_67 (by decide) ?_
    exact e_iret C rfl (Nat.le_of_ble_eq_true rfl) (Nat.le_of_ble_eq_true rfl) dX3_buy_68 (pO.mk rfl)
  · refine e_aload_n (j := 0) C dX3_buy_0 rfl rfl ?_
    refine e_iload_n (j := 1) C dX3_buy_1 rfl rfl ?_
    refine e_cV (i := 9) (nA := 1) (Cn := RX3) C (c_X3_isMiner_x hl h hn hm) rfl (cnt_fix (by decide)) (fun _ => rfl) rfl rfl mw_213 mw_210 mw_211 mw_212 mw_5 (by decide +kernel) (by decide) rfl rfl (Nat.le_of_ble_eq_true rfl) dX3_buy_2 (Nat.le_of_ble_eq_true rfl) (Nat.le_of_ble_eq_true rfl) ?_
    refine e_if_eq (tgt := 19) C dX3_buy_5 (by decide) (fun c_5 => ?_) (fun c_5 => absurd (by decide) c_5)
    refine e_iconst (v := 0) C dX3_buy_19 (by decide) ?_
    refine e_istore (ls2 := [(4, .int 0), (0, .ref (ρ 9)), (1, .int x), (2, .int y), (3, .int w)]) C hnL dX3_buy_20 (by decide) rfl ?_
    refine e_iload_n (j := 4) C dX3_buy_22 rfl rfl ?_
    refine e_iconst (v := 1) C dX3_buy_23 (by decide) ?_
    refine e_bipush (v := 50) C dX3_buy_24 (by decide) ?_
    refine e_cS (nA := 3) C (c_X3_in1 hl (rng_ok hw).1 (rng_ok hw).2) rfl mw_216 mw_214 mw_215 mw_5 (by decide +kernel) (by decide) rfl rfl (Nat.le_of_ble_eq_true rfl) dX3_buy_26 (Nat.le_of_ble_eq_true rfl) (Nat.le_of_ble_eq_true rfl) ?_
    refine e_istore (ls2 := [(5, .int 1), (4, .int 0), (0, .ref (ρ 9)), (1, .int x), (2, .int y), (3, .int w)]) C hnL dX3_buy_29 (by decide) rfl ?_
    refine e_aload_n (j := 2) C dX3_buy_31 rfl rfl ?_
    refine e_iload (j := 1) C dX3_buy_32 rfl ?_
    refine e_iload (j := 0) C dX3_buy_34 rfl ?_
    refine e_iload (j := 1) C dX3_buy_36 rfl ?_
    refine e_if_eq (tgt := 60) C dX3_buy_38 (by decide) (fun c_38 => ?_) (fun c_38 => absurd (by decide) c_38)
    refine e_iconst (v := 0) C dX3_buy_60 (by decide) ?_
    refine e_cV (i := 9) (nA := 3) (Cn := RX3) C (c_X3_g1 hl) rfl (cnt_fix (by decide)) (fun _ => rfl) rfl rfl mw_162 mw_159 mw_160 mw_161 mw_5 (by decide +kernel) (by decide) rfl rfl (Nat.le_of_ble_eq_true rfl) dX3_buy_61 (Nat.le_of_ble_eq_true rfl) (Nat.le_of_ble_eq_true rfl) ?_
    refine e_if_ne (tgt := 69) C dX3_buy_64 (by decide) (fun c_64 => absurd (by decide) c_64) (fun c_64 => ?_)
    refine e_iconst (v := 0) C dX3_buy_67 (by decide) ?_
    exact e_iret C rfl (Nat.le_of_ble_eq_true rfl) (Nat.le_of_ble_eq_true rfl) dX3_buy_68 (pO.mk rfl)
set_option maxRecDepth 100000 in
set_option maxHeartbeats 4000000 in
theorem c_X3_buy_g {l : Launch} (hl : l.stackTraces = false) {n : Nat} {ρ : Nat → Nat} {J : Nat → Int64} {M : Mem} {k : Nat} (hk : k < n) (hn : n ≤ 10) (hm : M 9 0 = nI n) {y w : Int32} (h : y < 0 ∨ 4 ≤ y) : CtO l yX3_buy cX3_buy 9 (some .int) 3 0 0 n ρ J M [.ref (ρ 9), .int (nI k), .int y, .int w] (mo M 1 0) := by
  refine CtO.of hl (by decide +kernel) (Nat.le_of_ble_eq_true rfl) (fun Ξ hnL C => ?_)
  show E Ξ n ρ J M 0 0 0 [(0, .ref (ρ 9)), (1, .int (nI k)), (2, .int y), (3, .int w)] []
  by_cases hw : w < 1 ∨ 50 < w
  · refine e_aload_n (j := 0) C dX3_buy_0 rfl rfl ?_
    refine e_iload_n (j := 1) C dX3_buy_1 rfl rfl ?_
    refine e_cV (i := 9) (nA := 1) (Cn := RX3) C (c_X3_isMiner hl hk hn hm) rfl (cnt_fix (by decide)) (fun _ => rfl) rfl rfl mw_213 mw_210 mw_211 mw_212 mw_5 (by decide +kernel) (by decide) rfl rfl (Nat.le_of_ble_eq_true rfl) dX3_buy_2 (Nat.le_of_ble_eq_true rfl) (Nat.le_of_ble_eq_true rfl) ?_
    refine e_if_eq (tgt := 19) C dX3_buy_5 (by decide) (fun c_5 => absurd c_5 (by decide)) (fun c_5 => ?_)
    refine e_iload_n (j := 2) C dX3_buy_8 rfl rfl ?_
    refine e_cS (nA := 1) C (c_X3_isGoods_x hl h) rfl mw_409 mw_407 mw_408 mw_5 (by decide +kernel) (by decide) rfl rfl (Nat.le_of_ble_eq_true rfl) dX3_buy_9 (Nat.le_of_ble_eq_true rfl) (Nat.le_of_ble_eq_true rfl) ?_
    refine e_if_eq (tgt := 19) C dX3_buy_12 (by decide) (fun c_12 => ?_) (fun c_12 => absurd (by decide) c_12)
    refine e_iconst (v := 0) C dX3_buy_19 (by decide) ?_
    refine e_istore (ls2 := [(4, .int 0), (0, .ref (ρ 9)), (1, .int (nI k)), (2, .int y), (3, .int w)]) C hnL dX3_buy_20 (by decide) rfl ?_
    refine e_iload_n (j := 4) C dX3_buy_22 rfl rfl ?_
    refine e_iconst (v := 1) C dX3_buy_23 (by decide) ?_
    refine e_bipush (v := 50) C dX3_buy_24 (by decide) ?_
    refine e_cS (nA := 3) C (c_X3_in0 hl hw) rfl mw_216 mw_214 mw_215 mw_5 (by decide +kernel) (by decide) rfl rfl (Nat.le_of_ble_eq_true rfl) dX3_buy_26 (Nat.le_of_ble_eq_true rfl) (Nat.le_of_ble_eq_true rfl) ?_
    refine e_istore (ls2 := [(5, .int 0), (4, .int 0), (0, .ref (ρ 9)), (1, .int (nI k)), (2, .int y), (3, .int w)]) C hnL dX3_buy_29 (by decide) rfl ?_
    refine e_aload_n (j := 2) C dX3_buy_31 rfl rfl ?_
    refine e_iload (j := 1) C dX3_buy_32 rfl ?_
    refine e_iload (j := 0) C dX3_buy_34 rfl ?_
    refine e_iload (j := 1) C dX3_buy_36 rfl ?_
    refine e_if_eq (tgt := 60) C dX3_buy_38 (by decide) (fun c_38 => ?_) (fun c_38 => absurd (by decide) c_38)
    refine e_iconst (v := 0) C dX3_buy_60 (by decide) ?_
    refine e_cV (i := 9) (nA := 3) (Cn := RX3) C (c_X3_g1 hl) rfl (cnt_fix (by decide)) (fun _ => rfl) rfl rfl mw_162 mw_159 mw_160 mw_161 mw_5 (by decide +kernel) (by decide) rfl rfl (Nat.le_of_ble_eq_true rfl) dX3_buy_61 (Nat.le_of_ble_eq_true rfl) (Nat.le_of_ble_eq_true rfl) ?_
    refine e_if_ne (tgt := 69) C dX3_buy_64 (by decide) (fun c_64 => absurd (by decide) c_64) (fun c_64 => ?_)
    refine e_iconst (v := 0) C dX3_buy_67 (by decide) ?_
    exact e_iret C rfl (Nat.le_of_ble_eq_true rfl) (Nat.le_of_ble_eq_true rfl) dX3_buy_68 (pO.mk rfl)
  · refine e_aload_n (j := 0) C dX3_buy_0 rfl rfl ?_
    refine e_iload_n (j := 1) C dX3_buy_1 rfl rfl ?_
    refine e_cV (i := 9) (nA := 1) (Cn := RX3) C (c_X3_isMiner hl hk hn hm) rfl (cnt_fix (by decide)) (fun _ => rfl) rfl rfl mw_213 mw_210 mw_211 mw_212 mw_5 (by decide +kernel) (by decide) rfl rfl (Nat.le_of_ble_eq_true rfl) dX3_buy_2 (Nat.le_of_ble_eq_true rfl) (Nat.le_of_ble_eq_true rfl) ?_
    refine e_if_eq (tgt := 19) C dX3_buy_5 (by decide) (fun c_5 => absurd c_5 (by decide)) (fun c_5 => ?_)
    refine e_iload_n (j := 2) C dX3_buy_8 rfl rfl ?_
    refine e_cS (nA := 1) C (c_X3_isGoods_x hl h) rfl mw_409 mw_407 mw_408 mw_5 (by decide +kernel) (by decide) rfl rfl (Nat.le_of_ble_eq_true rfl) dX3_buy_9 (Nat.le_of_ble_eq_true rfl) (Nat.le_of_ble_eq_true rfl) ?_
    refine e_if_eq (tgt := 19) C dX3_buy_12 (by decide) (fun c_12 => ?_) (fun c_12 => absurd (by decide) c_12)
    refine e_iconst (v := 0) C dX3_buy_19 (by decide) ?_
    refine e_istore (ls2 := [(4, .int 0), (0, .ref (ρ 9)), (1, .int (nI k)), (2, .int y), (3, .int w)]) C hnL dX3_buy_20 (by decide) rfl ?_
    refine e_iload_n (j := 4) C dX3_buy_22 rfl rfl ?_
    refine e_iconst (v := 1) C dX3_buy_23 (by decide) ?_
    refine e_bipush (v := 50) C dX3_buy_24 (by decide) ?_
    refine e_cS (nA := 3) C (c_X3_in1 hl (rng_ok hw).1 (rng_ok hw).2) rfl mw_216 mw_214 mw_215 mw_5 (by decide +kernel) (by decide) rfl rfl (Nat.le_of_ble_eq_true rfl) dX3_buy_26 (Nat.le_of_ble_eq_true rfl) (Nat.le_of_ble_eq_true rfl) ?_
    refine e_istore (ls2 := [(5, .int 1), (4, .int 0), (0, .ref (ρ 9)), (1, .int (nI k)), (2, .int y), (3, .int w)]) C hnL dX3_buy_29 (by decide) rfl ?_
    refine e_aload_n (j := 2) C dX3_buy_31 rfl rfl ?_
    refine e_iload (j := 1) C dX3_buy_32 rfl ?_
    refine e_iload (j := 0) C dX3_buy_34 rfl ?_
    refine e_iload (j := 1) C dX3_buy_36 rfl ?_
    refine e_if_eq (tgt := 60) C dX3_buy_38 (by decide) (fun c_38 => ?_) (fun c_38 => absurd (by decide) c_38)
    refine e_iconst (v := 0) C dX3_buy_60 (by decide) ?_
    refine e_cV (i := 9) (nA := 3) (Cn := RX3) C (c_X3_g1 hl) rfl (cnt_fix (by decide)) (fun _ => rfl) rfl rfl mw_162 mw_159 mw_160 mw_161 mw_5 (by decide +kernel) (by decide) rfl rfl (Nat.le_of_ble_eq_true rfl) dX3_buy_61 (Nat.le_of_ble_eq_true rfl) (Nat.le_of_ble_eq_true rfl) ?_
    refine e_if_ne (tgt := 69) C dX3_buy_64 (by decide) (fun c_64 => absurd (by decide) c_64) (fun c_64 => ?_)
    refine e_iconst (v := 0) C dX3_buy_67 (by decide) ?_
    exact e_iret C rfl (Nat.le_of_ble_eq_true rfl) (Nat.le_of_ble_eq_true rfl) dX3_buy_68 (pO.mk rfl)
set_option maxRecDepth 100000 in
set_option maxHeartbeats 4000000 in
theorem c_X3_over_x {l : Launch} (hl : l.stackTraces = false) {n : Nat} {ρ : Nat → Nat} {J : Nat → Int64} {M : Mem} {x y w : Int32} (h : x < 0 ∨ nI n ≤ x) (hn : n ≤ 10) (hm : M 9 0 = nI n) : CtO l yX3_over cX3_over 6 (some .int) 3 0 0 n ρ J M [.ref (ρ 9), .int x, .int y, .int w] (mo M 1 0) := by
  refine CtO.of hl (by decide +kernel) (Nat.le_of_ble_eq_true rfl) (fun Ξ hnL C => ?_)
  show E Ξ n ρ J M 0 0 0 [(0, .ref (ρ 9)), (1, .int x), (2, .int y), (3, .int w)] []
  by_cases hw : w < 1 ∨ 50 < w
  · refine e_aload_n (j := 0) C dX3_over_0 rfl rfl ?_
    refine e_iload_n (j := 1) C dX3_over_1 rfl rfl ?_
    refine e_cV (i := 9) (nA := 1) (Cn := RX3) C (c_X3_isMiner_x hl h hn hm) rfl (cnt_fix (by decide)) (fun _ => rfl) rfl rfl mw_213 mw_210 mw_211 mw_212 mw_5 (by decide +kernel) (by decide) rfl rfl (Nat.le_of_ble_eq_true rfl) dX3_over_2 (Nat.le_of_ble_eq_true rfl) (Nat.le_of_ble_eq_true rfl) ?_
    refine e_if_eq (tgt := 19) C dX3_over_5 (by decide) (fun c_5 => ?_) (fun c_5 => absurd (by decide) c_5)
    refine e_iconst (v := 0) C dX3_over_19 (by decide) ?_
    refine e_istore (ls2 := [(4, .int 0), (0, .ref (ρ 9)), (1, .int x), (2, .int y), (3, .int w)]) C hnL dX3_over_20 (by decide) rfl ?_
    refine e_iload (j := 0) C dX3_over_22 rfl ?_
    refine e_if_eq (tgt := 40) C dX3_over_24 (by decide) (fun c_24 => ?_) (fun c_24 => absurd (by decide) c_24)
    refine e_iconst (v := 0) C dX3_over_40 (by decide) ?_
    refine e_istore (ls2 := [(5, .int 0), (4, .int 0), (0, .ref (ρ 9)), (1, .int x), (2, .int y), (3, .int w)]) C hnL dX3_over_41 (by decide) rfl ?_
    refine e_aload_n (j := 2) C dX3_over_43 rfl rfl ?_
    refine e_iload (j := 1) C dX3_over_44 rfl ?_
    refine e_iload_n (j := 5) C dX3_over_46 rfl rfl ?_
    refine e_iconst (v := 1) C dX3_over_47 (by decide) ?_
    refine e_bipush (v := 50) C dX3_over_48 (by decide) ?_
    refine e_cS (nA := 3) C (c_X3_in0 hl hw) rfl mw_216 mw_214 mw_215 mw_5 (by decide +kernel) (by decide) rfl rfl (Nat.le_of_ble_eq_true rfl) dX3_over_50 (Nat.le_of_ble_eq_true rfl) (Nat.le_of_ble_eq_true rfl) ?_
    refine e_iload (j := 1) C dX3_over_53 rfl ?_
    refine e_if_eq (tgt := 82) C dX3_over_55 (by decide) (fun c_55 => ?_) (fun c_55 => absurd (by decide) c_55)
    refine e_iconst (v := 0) C dX3_over_82 (by decide) ?_
    refine e_cV (i := 9) (nA := 3) (Cn := RX3) C (c_X3_g1 hl) rfl (cnt_fix (by decide)) (fun _ => rfl) rfl rfl mw_162 mw_159 mw_160 mw_161 mw_5 (by decide +kernel) (by decide) rfl rfl (Nat.le_of_ble_eq_true rfl) dX3_over_83 (Nat.le_of_ble_eq_true rfl) (Nat.le_of_ble_eq_true rfl) ?_
    refine e_if_ne (tgt := 91) C dX3_over_86 (by decide) (fun c_86 => absurd (by decide) c_86) (fun c_86 => ?_)
    refine e_iconst (v := 0) C dX3_over_89 (by decide) ?_
    exact e_iret C rfl (Nat.le_of_ble_eq_true rfl) (Nat.le_of_ble_eq_true rfl) dX3_over_90 (pO.mk rfl)
  · refine e_aload_n (j := 0) C dX3_over_0 rfl rfl ?_
    refine e_iload_n (j := 1) C dX3_over_1 rfl rfl ?_
    refine e_cV (i := 9) (nA := 1) (Cn := RX3) C (c_X3_isMiner_x hl h hn hm) rfl (cnt_fix (by decide)) (fun _ => rfl) rfl rfl mw_213 mw_210 mw_211 mw_212 mw_5 (by decide +kernel) (by decide) rfl rfl (Nat.le_of_ble_eq_true rfl) dX3_over_2 (Nat.le_of_ble_eq_true rfl) (Nat.le_of_ble_eq_true rfl) ?_
    refine e_if_eq (tgt := 19) C dX3_over_5 (by decide) (fun c_5 => ?_) (fun c_5 => absurd (by decide) c_5)
    refine e_iconst (v := 0) C dX3_over_19 (by decide) ?_
    refine e_istore (ls2 := [(4, .int 0), (0, .ref (ρ 9)), (1, .int x), (2, .int y), (3, .int w)]) C hnL dX3_over_20 (by decide) rfl ?_
    refine e_iload (j := 0) C dX3_over_22 rfl ?_
    refine e_if_eq (tgt := 40) C dX3_over_24 (by decide) (fun c_24 => ?_) (fun c_24 => absurd (by decide) c_24)
    refine e_iconst (v := 0) C dX3_over_40 (by decide) ?_
    refine e_istore (ls2 := [(5, .int 0), (4, .int 0), (0, .ref (ρ 9)), (1, .int x), (2, .int y), (3, .int w)]) C hnL dX3_over_41 (by decide) rfl ?_
    refine e_aload_n (j := 2) C dX3_over_43 rfl rfl ?_
    refine e_iload (j := 1) C dX3_over_44 rfl ?_
    refine e_iload_n (j := 5) C dX3_over_46 rfl rfl ?_
    refine e_iconst (v := 1) C dX3_over_47 (by decide) ?_
    refine e_bipush (v := 50) C dX3_over_48 (by decide) ?_
    refine e_cS (nA := 3) C (c_X3_in1 hl (rng_ok hw).1 (rng_ok hw).2) rfl mw_216 mw_214 mw_215 mw_5 (by decide +kernel) (by decide) rfl rfl (Nat.le_of_ble_eq_true rfl) dX3_over_50 (Nat.le_of_ble_eq_true rfl) (Nat.le_of_ble_eq_true rfl) ?_
    refine e_iload (j := 1) C dX3_over_53 rfl ?_
    refine e_if_eq (tgt := 82) C dX3_over_55 (by decide) (fun c_55 => ?_) (fun c_55 => absurd (by decide) c_55)
    refine e_iconst (v := 0) C dX3_over_82 (by decide) ?_
    refine e_cV (i := 9) (nA := 3) (Cn := RX3) C (c_X3_g1 hl) rfl (cnt_fix (by decide)) (fun _ => rfl) rfl rfl mw_162 mw_159 mw_160 mw_161 mw_5 (by decide +kernel) (by decide) rfl rfl (Nat.le_of_ble_eq_true rfl) dX3_over_83 (Nat.le_of_ble_eq_true rfl) (Nat.le_of_ble_eq_true rfl) ?_
    refine e_if_ne (tgt := 91) C dX3_over_86 (by decide) (fun c_86 => absurd (by decide) c_86) (fun c_86 => ?_)
    refine e_iconst (v := 0) C dX3_over_89 (by decide) ?_
    exact e_iret C rfl (Nat.le_of_ble_eq_true rfl) (Nat.le_of_ble_eq_true rfl) dX3_over_90 (pO.mk rfl)
set_option maxRecDepth 100000 in
set_option maxHeartbeats 4000000 in
theorem c_X3_over_g {l : Launch} (hl : l.stackTraces = false) {n : Nat} {ρ : Nat → Nat} {J : Nat → Int64} {M : Mem} {k : Nat} (hk : k < n) (hn : n ≤ 10) (hm : M 9 0 = nI n) {y w : Int32} (h : y < 0 ∨ 4 ≤ y) : CtO l yX3_over cX3_over 6 (some .int) 3 0 0 n ρ J M [.ref (ρ 9), .int (nI k), .int y, .int w] (mo M 1 0) := by
  refine CtO.of hl (by decide +kernel) (Nat.le_of_ble_eq_true rfl) (fun Ξ hnL C => ?_)
  show E Ξ n ρ J M 0 0 0 [(0, .ref (ρ 9)), (1, .int (nI k)), (2, .int y), (3, .int w)] []
  by_cases hw : w < 1 ∨ 50 < w
  · refine e_aload_n (j := 0) C dX3_over_0 rfl rfl ?_
    refine e_iload_n (j := 1) C dX3_over_1 rfl rfl ?_
    refine e_cV (i := 9) (nA := 1) (Cn := RX3) C (c_X3_isMiner hl hk hn hm) rfl (cnt_fix (by decide)) (fun _ => rfl) rfl rfl mw_213 mw_210 mw_211 mw_212 mw_5 (by decide +kernel) (by decide) rfl rfl (Nat.le_of_ble_eq_true rfl) dX3_over_2 (Nat.le_of_ble_eq_true rfl) (Nat.le_of_ble_eq_true rfl) ?_
    refine e_if_eq (tgt := 19) C dX3_over_5 (by decide) (fun c_5 => absurd c_5 (by decide)) (fun c_5 => ?_)
    refine e_iload_n (j := 2) C dX3_over_8 rfl rfl ?_
    refine e_cS (nA := 1) C (c_X3_isGoods_x hl h) rfl mw_409 mw_407 mw_408 mw_5 (by decide +kernel) (by decide) rfl rfl (Nat.le_of_ble_eq_true rfl) dX3_over_9 (Nat.le_of_ble_eq_true rfl) (Nat.le_of_ble_eq_true rfl) ?_
    refine e_if_eq (tgt := 19) C dX3_over_12 (by decide) (fun c_12 => ?_) (fun c_12 => absurd (by decide) c_12)
    refine e_iconst (v := 0) C dX3_over_19 (by decide) ?_
    refine e_istore (ls2 := [(4, .int 0), (0, .ref (ρ 9)), (1, .int (nI k)), (2, .int y), (3, .int w)]) C hnL dX3_over_20 (by decide) rfl ?_
    refine e_iload (j := 0) C dX3_over_22 rfl ?_
    refine e_if_eq (tgt := 40) C dX3_over_24 (by decide) (fun c_24 => ?_) (fun c_24 => absurd (by decide) c_24)
    refine e_iconst (v := 0) C dX3_over_40 (by decide) ?_
    refine e_istore (ls2 := [(5, .int 0), (4, .int 0), (0, .ref (ρ 9)), (1, .int (nI k)), (2, .int y), (3, .int w)]) C hnL dX3_over_41 (by decide) rfl ?_
    refine e_aload_n (j := 2) C dX3_over_43 rfl rfl ?_
    refine e_iload (j := 1) C dX3_over_44 rfl ?_
    refine e_iload_n (j := 5) C dX3_over_46 rfl rfl ?_
    refine e_iconst (v := 1) C dX3_over_47 (by decide) ?_
    refine e_bipush (v := 50) C dX3_over_48 (by decide) ?_
    refine e_cS (nA := 3) C (c_X3_in0 hl hw) rfl mw_216 mw_214 mw_215 mw_5 (by decide +kernel) (by decide) rfl rfl (Nat.le_of_ble_eq_true rfl) dX3_over_50 (Nat.le_of_ble_eq_true rfl) (Nat.le_of_ble_eq_true rfl) ?_
    refine e_iload (j := 1) C dX3_over_53 rfl ?_
    refine e_if_eq (tgt := 82) C dX3_over_55 (by decide) (fun c_55 => ?_) (fun c_55 => absurd (by decide) c_55)
    refine e_iconst (v := 0) C dX3_over_82 (by decide) ?_
    refine e_cV (i := 9) (nA := 3) (Cn := RX3) C (c_X3_g1 hl) rfl (cnt_fix (by decide)) (fun _ => rfl) rfl rfl mw_162 mw_159 mw_160 mw_161 mw_5 (by decide +kernel) (by decide) rfl rfl (Nat.le_of_ble_eq_true rfl) dX3_over_83 (Nat.le_of_ble_eq_true rfl) (Nat.le_of_ble_eq_true rfl) ?_
    refine e_if_ne (tgt := 91) C dX3_over_86 (by decide) (fun c_86 => absurd (by decide) c_86) (fun c_86 => ?_)
    refine e_iconst (v := 0) C dX3_over_89 (by decide) ?_
    exact e_iret C rfl (Nat.le_of_ble_eq_true rfl) (Nat.le_of_ble_eq_true rfl) dX3_over_90 (pO.mk rfl)
  · refine e_aload_n (j := 0) C dX3_over_0 rfl rfl ?_
    refine e_iload_n (j := 1) C dX3_over_1 rfl rfl ?_
    refine e_cV (i := 9) (nA := 1) (Cn := RX3) C (c_X3_isMiner hl hk hn hm) rfl (cnt_fix (by decide)) (fun _ => rfl) rfl rfl mw_213 mw_210 mw_211 mw_212 mw_5 (by decide +kernel) (by decide) rfl rfl (Nat.le_of_ble_eq_true rfl) dX3_over_2 (Nat.le_of_ble_eq_true rfl) (Nat.le_of_ble_eq_true rfl) ?_
    refine e_if_eq (tgt := 19) C dX3_over_5 (by decide) (fun c_5 => absurd c_5 (by decide)) (fun c_5 => ?_)
    refine e_iload_n (j := 2) C dX3_over_8 rfl rfl ?_
    refine e_cS (nA := 1) C (c_X3_isGoods_x hl h) rfl mw_409 mw_407 mw_408 mw_5 (by decide +kernel) (by decide) rfl rfl (Nat.le_of_ble_eq_true rfl) dX3_over_9 (Nat.le_of_ble_eq_true rfl) (Nat.le_of_ble_eq_true rfl) ?_
    refine e_if_eq (tgt := 19) C dX3_over_12 (by decide) (fun c_12 => ?_) (fun c_12 => absurd (by decide) c_12)
    refine e_iconst (v := 0) C dX3_over_19 (by decide) ?_
    refine e_istore (ls2 := [(4, .int 0), (0, .ref (ρ 9)), (1, .int (nI k)), (2, .int y), (3, .int w)]) C hnL dX3_over_20 (by decide) rfl ?_
    refine e_iload (j := 0) C dX3_over_22 rfl ?_
    refine e_if_eq (tgt := 40) C dX3_over_24 (by decide) (fun c_24 => ?_) (fun c_24 => absurd (by decide) c_24)
    refine e_iconst (v := 0) C dX3_over_40 (by decide) ?_
    refine e_istore (ls2 := [(5, .int 0), (4, .int 0), (0, .ref (ρ 9)), (1, .int (nI k)), (2, .int y), (3, .int w)]) C hnL dX3_over_41 (by decide) rfl ?_
    refine e_aload_n (j := 2) C dX3_over_43 rfl rfl ?_
    refine e_iload (j := 1) C dX3_over_44 rfl ?_
    refine e_iload_n (j := 5) C dX3_over_46 rfl rfl ?_
    refine e_iconst (v := 1) C dX3_over_47 (by decide) ?_
    refine e_bipush (v := 50) C dX3_over_48 (by decide) ?_
    refine e_cS (nA := 3) C (c_X3_in1 hl (rng_ok hw).1 (rng_ok hw).2) rfl mw_216 mw_214 mw_215 mw_5 (by decide +kernel) (by decide) rfl rfl (Nat.le_of_ble_eq_true rfl) dX3_over_50 (Nat.le_of_ble_eq_true rfl) (Nat.le_of_ble_eq_true rfl) ?_
    refine e_iload (j := 1) C dX3_over_53 rfl ?_
    refine e_if_eq (tgt := 82) C dX3_over_55 (by decide) (fun c_55 => ?_) (fun c_55 => absurd (by decide) c_55)
    refine e_iconst (v := 0) C dX3_over_82 (by decide) ?_
    refine e_cV (i := 9) (nA := 3) (Cn := RX3) C (c_X3_g1 hl) rfl (cnt_fix (by decide)) (fun _ => rfl) rfl rfl mw_162 mw_159 mw_160 mw_161 mw_5 (by decide +kernel) (by decide) rfl rfl (Nat.le_of_ble_eq_true rfl) dX3_over_83 (Nat.le_of_ble_eq_true rfl) (Nat.le_of_ble_eq_true rfl) ?_
    refine e_if_ne (tgt := 91) C dX3_over_86 (by decide) (fun c_86 => absurd (by decide) c_86) (fun c_86 => ?_)
    refine e_iconst (v := 0) C dX3_over_89 (by decide) ?_
    exact e_iret C rfl (Nat.le_of_ble_eq_true rfl) (Nat.le_of_ble_eq_true rfl) dX3_over_90 (pO.mk rfl)
def omwhy (M : Mem) (k g : Nat) (w : Int32) : Out := if w < 1 ∨ 50 < w then mo M 2 0 else rI (omref (ml M 0) k g w) (ml M 0)
set_option maxRecDepth 100000 in
set_option maxHeartbeats 4000000 in
theorem c_X3_whyNot {l : Launch} (hl : l.stackTraces = false) {n : Nat} {ρ : Nat → Nat} {J : Nat → Int64} {M : Mem} {k : Nat} (hk : k < n) (hn : n ≤ 10) (hm : M 9 0 = nI n) {g : Nat} (hg : g < 4) {w : Int32} : CtO l yX3_whyNot cX3_whyNot 4 (some .int) 3 0 0 n ρ J M [.ref (ρ 9), .int (nI k), .int (nI g), .int w] (omwhy M k g w) := by
  refine CtO.of hl (by decide +kernel) (Nat.le_of_ble_eq_true rfl) (fun Ξ hnL C => ?_)
  show E Ξ n ρ J M 0 0 0 [(0, .ref (ρ 9)), (1, .int (nI k)), (2, .int (nI g)), (3, .int w)] []
  by_cases h : w < 1 ∨ 50 < w
  · refine e_aload_n (j := 0) C dX3_whyNot_0 rfl rfl ?_
    refine e_aload_n (j := 0) C dX3_whyNot_1 rfl rfl ?_
    refine e_iload_n (j := 1) C dX3_whyNot_2 rfl rfl ?_
    refine e_cV (i := 9) (nA := 1) (Cn := RX3) C (c_X3_isMiner hl hk hn hm) rfl (cnt_fix (by decide)) (fun _ => rfl) rfl rfl mw_213 mw_210 mw_211 mw_212 mw_5 (by decide +kernel) (by decide) rfl rfl (Nat.le_of_ble_eq_true rfl) dX3_whyNot_3 (Nat.le_of_ble_eq_true rfl) (Nat.le_of_ble_eq_true rfl) ?_
    refine e_if_eq (tgt := 20) C dX3_whyNot_6 (by decide) (fun c_6 => absurd c_6 (by decide)) (fun c_6 => ?_)
    refine e_iload_n (j := 2) C dX3_whyNot_9 rfl rfl ?_
    refine e_cS (nA := 1) C (c_X3_isGoods hl hg) rfl mw_409 mw_407 mw_408 mw_5 (by decide +kernel) (by decide) rfl rfl (Nat.le_of_ble_eq_true rfl) dX3_whyNot_10 (Nat.le_of_ble_eq_true rfl) (Nat.le_of_ble_eq_true rfl) ?_
    refine e_if_eq (tgt := 20) C dX3_whyNot_13 (by decide) (fun c_13 => absurd c_13 (by decide)) (fun c_13 => ?_)
    refine e_iconst (v := 1) C dX3_whyNot_16 (by decide) ?_
    refine e_goto (tgt := 21) C dX3_whyNot_17 (by decide) ?_
    refine e_iload_n (j := 3) C dX3_whyNot_21 rfl rfl ?_
    refine e_iconst (v := 1) C dX3_whyNot_22 (by decide) ?_
    refine e_bipush (v := 50) C dX3_whyNot_23 (by decide) ?_
    refine e_cS (nA := 3) C (c_X3_in0 hl h) rfl mw_216 mw_214 mw_215 mw_5 (by decide +kernel) (by decide) rfl rfl (Nat.le_of_ble_eq_true rfl) dX3_whyNot_25 (Nat.le_of_ble_eq_true rfl) (Nat.le_of_ble_eq_true rfl) ?_
    refine e_iconst (v := 1) C dX3_whyNot_28 (by decide) ?_
    refine e_cV (i := 9) (nA := 3) (Cn := RX3) C (c_X3_g2 hl) rfl (cnt_fix (by decide)) (fun _ => rfl) rfl rfl mw_162 mw_159 mw_160 mw_161 mw_5 (by decide +kernel) (by decide) rfl rfl (Nat.le_of_ble_eq_true rfl) dX3_whyNot_29 (Nat.le_of_ble_eq_true rfl) (Nat.le_of_ble_eq_true rfl) ?_
    refine e_if_eq (tgt := 45) C dX3_whyNot_32 (by decide) (fun c_32 => ?_) (fun c_32 => absurd (by decide) c_32)
    refine e_iconst (v := 0) C dX3_whyNot_45 (by decide) ?_
    exact e_iret C rfl (Nat.le_of_ble_eq_true rfl) (Nat.le_of_ble_eq_true rfl) dX3_whyNot_46 (pO.mk (by unfold omwhy; rw [if_pos h]))
  · refine e_aload_n (j := 0) C dX3_whyNot_0 rfl rfl ?_
    refine e_aload_n (j := 0) C dX3_whyNot_1 rfl rfl ?_
    refine e_iload_n (j := 1) C dX3_whyNot_2 rfl rfl ?_
    refine e_cV (i := 9) (nA := 1) (Cn := RX3) C (c_X3_isMiner hl hk hn hm) rfl (cnt_fix (by decide)) (fun _ => rfl) rfl rfl mw_213 mw_210 mw_211 mw_212 mw_5 (by decide +kernel) (by decide) rfl rfl (Nat.le_of_ble_eq_true rfl) dX3_whyNot_3 (Nat.le_of_ble_eq_true rfl) (Nat.le_of_ble_eq_true rfl) ?_
    refine e_if_eq (tgt := 20) C dX3_whyNot_6 (by decide) (fun c_6 => absurd c_6 (by decide)) (fun c_6 => ?_)
    refine e_iload_n (j := 2) C dX3_whyNot_9 rfl rfl ?_
    refine e_cS (nA := 1) C (c_X3_isGoods hl hg) rfl mw_409 mw_407 mw_408 mw_5 (by decide +kernel) (by decide) rfl rfl (Nat.le_of_ble_eq_true rfl) dX3_whyNot_10 (Nat.le_of_ble_eq_true rfl) (Nat.le_of_ble_eq_true rfl) ?_
    refine e_if_eq (tgt := 20) C dX3_whyNot_13 (by decide) (fun c_13 => absurd c_13 (by decide)) (fun c_13 => ?_)
    refine e_iconst (v := 1) C dX3_whyNot_16 (by decide) ?_
    refine e_goto (tgt := 21) C dX3_whyNot_17 (by decide) ?_
    refine e_iload_n (j := 3) C dX3_whyNot_21 rfl rfl ?_
    refine e_iconst (v := 1) C dX3_whyNot_22 (by decide) ?_
    refine e_bipush (v := 50) C dX3_whyNot_23 (by decide) ?_
    refine e_cS (nA := 3) C (c_X3_in1 hl (rng_ok h).1 (rng_ok h).2) rfl mw_216 mw_214 mw_215 mw_5 (by decide +kernel) (by decide) rfl rfl (Nat.le_of_ble_eq_true rfl) dX3_whyNot_25 (Nat.le_of_ble_eq_true rfl) (Nat.le_of_ble_eq_true rfl) ?_
    refine e_iconst (v := 1) C dX3_whyNot_28 (by decide) ?_
    refine e_cV (i := 9) (nA := 3) (Cn := RX3) C (c_X3_g0 hl) rfl (cnt_fix (by decide)) (fun _ => rfl) rfl rfl mw_162 mw_159 mw_160 mw_161 mw_5 (by decide +kernel) (by decide) rfl rfl (Nat.le_of_ble_eq_true rfl) dX3_whyNot_29 (Nat.le_of_ble_eq_true rfl) (Nat.le_of_ble_eq_true rfl) ?_
    refine e_if_eq (tgt := 45) C dX3_whyNot_32 (by decide) (fun c_32 => absurd c_32 (by decide)) (fun c_32 => ?_)
    refine e_aload_n (j := 0) C dX3_whyNot_35 rfl rfl ?_
    refine e_iload_n (j := 1) C dX3_whyNot_36 rfl rfl ?_
    refine e_iload_n (j := 2) C dX3_whyNot_37 rfl rfl ?_
    refine e_iload_n (j := 3) C dX3_whyNot_38 rfl rfl ?_
    refine e_cV (i := 9) (nA := 3) (Cn := RX3) C (c_X3_reason hl (show k < 10 by omega) hg) rfl (cnt_fix (by decide)) (fun _ => rfl) rfl rfl mw_468 mw_465 mw_466 mw_467 mw_5 (by decide +kernel) (by decide) rfl rfl (Nat.le_of_ble_eq_true rfl) dX3_whyNot_39 (Nat.le_of_ble_eq_true rfl) (Nat.le_of_ble_eq_true rfl) ?_
    refine e_goto (tgt := 46) C dX3_whyNot_42 (by decide) ?_
    exact e_iret C rfl (Nat.le_of_ble_eq_true rfl) (Nat.le_of_ble_eq_true rfl) dX3_whyNot_46 (pO.mk (by unfold omwhy; rw [if_neg h]))
abbrev bmC (N : Mem) (k g : Nat) (w : Int32) : Int32 := w * raF N k g
abbrev bmK (N : Mem) (k g : Nat) (w : Int32) : Int32 := bmC N k g w - (tkS N k (bmC N k g w) 40).2
abbrev bm1 (N : Mem) (k g : Nat) (w : Int32) : Mem := up (tkS N k (bmC N k g w) 40).1 26 1 ((tkS N k (bmC N k g w) 40).1 26 1 + bmK N k g w)
abbrev bmL (N : Mem) (k g : Nat) (w : Int32) : Int32 := bmC N k g w - bmK N k g w
def bm2 (B : Mem) (k : Nat) (P : Int32) : Mem := up B 14 k (B 14 k - P)
def bm3 (B : Mem) (k : Nat) (L P : Int32) : Mem := up (bm2 B k P) 15 k (bm2 B k P 15 k + (L - P))
def bm4 (B : Mem) (k g : Nat) (w L P : Int32) : Mem := up (bm3 B k L P) 21 (4 * k + g) (bm3 B k L P 21 (4 * k + g) + w)
def ombuy (M : Mem) (k g : Nat) (w : Int32) : Out := if w < 1 ∨ 50 < w then mo M 2 0 else if omref M k g w = 0 then (if bmL (ml M 0) k g w ≤ bm1 (ml M 0) k g w 14 k then rI (bm4 (bm1 (ml M 0) k g w) k g w (bmL (ml M 0) k g w) (bmL (ml M 0) k g w) 15 k) (bm4 (bm1 (ml M 0) k g w) k g w (bmL (ml M 0) k g w) (bmL (ml M 0) k g w)) else rI (bm4 (bm1 (ml M 0) k g w) k g w (bmL (ml M 0) k g w) (bm1 (ml M 0) k g w 14 k) 15 k) (bm4 (bm1 (ml M 0) k g w) k g w (bmL (ml M 0) k g w) (bm1 (ml M 0) k g w 14 k))) else mo M 3 0
set_option maxRecDepth 100000 in
set_option maxHeartbeats 4000000 in
theorem c_X3_buy {l : Launch} (hl : l.stackTraces = false) {n : Nat} {ρ : Nat → Nat} {J : Nat → Int64} {M : Mem} {k : Nat} (hk : k < n) (hn : n ≤ 10) (hm : M 9 0 = nI n) {g : Nat} (hg : g < 4) {w : Int32} : CtO l yX3_buy cX3_buy 9 (some .int) 3 0 0 n ρ J M [.ref (ρ 9), .int (nI k), .int (nI g), .int w] (ombuy M k g w) := by
  refine CtO.of hl (by decide +kernel) (Nat.le_of_ble_eq_true rfl) (fun Ξ hnL C => ?_)
  show E Ξ n ρ J M 0 0 0 [(0, .ref (ρ 9)), (1, .int (nI k)), (2, .int (nI g)), (3, .int w)] []
  by_cases h : w < 1 ∨ 50 < w
  · refine e_aload_n (j := 0) C dX3_buy_0 rfl rfl ?_
    refine e_iload_n (j := 1) C dX3_buy_1 rfl rfl ?_
    refine e_cV (i := 9) (nA := 1) (Cn := RX3) C (c_X3_isMiner hl hk hn hm) rfl (cnt_fix (by decide)) (fun _ => rfl) rfl rfl mw_213 mw_210 mw_211 mw_212 mw_5 (by decide +kernel) (by decide) rfl rfl (Nat.le_of_ble_eq_true rfl) dX3_buy_2 (Nat.le_of_ble_eq_true rfl) (Nat.le_of_ble_eq_true rfl) ?_
    refine e_if_eq (tgt := 19) C dX3_buy_5 (by decide) (fun c_5 => absurd c_5 (by decide)) (fun c_5 => ?_)
    refine e_iload_n (j := 2) C dX3_buy_8 rfl rfl ?_
    refine e_cS (nA := 1) C (c_X3_isGoods hl hg) rfl mw_409 mw_407 mw_408 mw_5 (by decide +kernel) (by decide) rfl rfl (Nat.le_of_ble_eq_true rfl) dX3_buy_9 (Nat.le_of_ble_eq_true rfl) (Nat.le_of_ble_eq_true rfl) ?_
    refine e_if_eq (tgt := 19) C dX3_buy_12 (by decide) (fun c_12 => absurd c_12 (by decide)) (fun c_12 => ?_)
    refine e_iconst (v := 1) C dX3_buy_15 (by decide) ?_
    refine e_goto (tgt := 20) C dX3_buy_16 (by decide) ?_
    refine e_istore (ls2 := [(4, .int 1), (0, .ref (ρ 9)), (1, .int (nI k)), (2, .int (nI g)), (3, .int w)]) C hnL dX3_buy_20 (by decide) rfl ?_
    refine e_iload_n (j := 4) C dX3_buy_22 rfl rfl ?_
    refine e_iconst (v := 1) C dX3_buy_23 (by decide) ?_
    refine e_bipush (v := 50) C dX3_buy_24 (by decide) ?_
    refine e_cS (nA := 3) C (c_X3_in0 hl h) rfl mw_216 mw_214 mw_215 mw_5 (by decide +kernel) (by decide) rfl rfl (Nat.le_of_ble_eq_true rfl) dX3_buy_26 (Nat.le_of_ble_eq_true rfl) (Nat.le_of_ble_eq_true rfl) ?_
    refine e_istore (ls2 := [(5, .int 0), (4, .int 1), (0, .ref (ρ 9)), (1, .int (nI k)), (2, .int (nI g)), (3, .int w)]) C hnL dX3_buy_29 (by decide) rfl ?_
    refine e_aload_n (j := 2) C dX3_buy_31 rfl rfl ?_
    refine e_iload (j := 1) C dX3_buy_32 rfl ?_
    refine e_iload (j := 0) C dX3_buy_34 rfl ?_
    refine e_iload (j := 1) C dX3_buy_36 rfl ?_
    refine e_if_eq (tgt := 60) C dX3_buy_38 (by decide) (fun c_38 => absurd c_38 (by decide)) (fun c_38 => ?_)
    refine e_iload (j := 0) C dX3_buy_41 rfl ?_
    refine e_if_eq (tgt := 60) C dX3_buy_43 (by decide) (fun c_43 => ?_) (fun c_43 => absurd (by decide) c_43)
    refine e_iconst (v := 0) C dX3_buy_60 (by decide) ?_
    refine e_cV (i := 9) (nA := 3) (Cn := RX3) C (c_X3_g2 hl) rfl (cnt_fix (by decide)) (fun _ => rfl) rfl rfl mw_162 mw_159 mw_160 mw_161 mw_5 (by decide +kernel) (by decide) rfl rfl (Nat.le_of_ble_eq_true rfl) dX3_buy_61 (Nat.le_of_ble_eq_true rfl) (Nat.le_of_ble_eq_true rfl) ?_
    refine e_if_ne (tgt := 69) C dX3_buy_64 (by decide) (fun c_64 => absurd (by decide) c_64) (fun c_64 => ?_)
    refine e_iconst (v := 0) C dX3_buy_67 (by decide) ?_
    exact e_iret C rfl (Nat.le_of_ble_eq_true rfl) (Nat.le_of_ble_eq_true rfl) dX3_buy_68 (pO.mk (by unfold ombuy; rw [if_pos h]))
  · refine e_aload_n (j := 0) C dX3_buy_0 rfl rfl ?_
    refine e_iload_n (j := 1) C dX3_buy_1 rfl rfl ?_
    refine e_cV (i := 9) (nA := 1) (Cn := RX3) C (c_X3_isMiner hl hk hn hm) rfl (cnt_fix (by decide)) (fun _ => rfl) rfl rfl mw_213 mw_210 mw_211 mw_212 mw_5 (by decide +kernel) (by decide) rfl rfl (Nat.le_of_ble_eq_true rfl) dX3_buy_2 (Nat.le_of_ble_eq_true rfl) (Nat.le_of_ble_eq_true rfl) ?_
    refine e_if_eq (tgt := 19) C dX3_buy_5 (by decide) (fun c_5 => absurd c_5 (by decide)) (fun c_5 => ?_)
    refine e_iload_n (j := 2) C dX3_buy_8 rfl rfl ?_
    refine e_cS (nA := 1) C (c_X3_isGoods hl hg) rfl mw_409 mw_407 mw_408 mw_5 (by decide +kernel) (by decide) rfl rfl (Nat.le_of_ble_eq_true rfl) dX3_buy_9 (Nat.le_of_ble_eq_true rfl) (Nat.le_of_ble_eq_true rfl) ?_
    refine e_if_eq (tgt := 19) C dX3_buy_12 (by decide) (fun c_12 => absurd c_12 (by decide)) (fun c_12 => ?_)
    refine e_iconst (v := 1) C dX3_buy_15 (by decide) ?_
    refine e_goto (tgt := 20) C dX3_buy_16 (by decide) ?_
    refine e_istore (ls2 := [(4, .int 1), (0, .ref (ρ 9)), (1, .int (nI k)), (2, .int (nI g)), (3, .int w)]) C hnL dX3_buy_20 (by decide) rfl ?_
    refine e_iload_n (j := 4) C dX3_buy_22 rfl rfl ?_
    refine e_iconst (v := 1) C dX3_buy_23 (by decide) ?_
    refine e_bipush (v := 50) C dX3_buy_24 (by decide) ?_
    refine e_cS (nA := 3) C (c_X3_in1 hl (rng_ok h).1 (rng_ok h).2) rfl mw_216 mw_214 mw_215 mw_5 (by decide +kernel) (by decide) rfl rfl (Nat.le_of_ble_eq_true rfl) dX3_buy_26 (Nat.le_of_ble_eq_true rfl) (Nat.le_of_ble_eq_true rfl) ?_
    refine e_istore (ls2 := [(5, .int 1), (4, .int 1), (0, .ref (ρ 9)), (1, .int (nI k)), (2, .int (nI g)), (3, .int w)]) C hnL dX3_buy_29 (by decide) rfl ?_
    refine e_aload_n (j := 2) C dX3_buy_31 rfl rfl ?_
    refine e_iload (j := 1) C dX3_buy_32 rfl ?_
    refine e_iload (j := 0) C dX3_buy_34 rfl ?_
    refine e_iload (j := 1) C dX3_buy_36 rfl ?_
    refine e_if_eq (tgt := 60) C dX3_buy_38 (by decide) (fun c_38 => absurd c_38 (by decide)) (fun c_38 => ?_)
    refine e_iload (j := 0) C dX3_buy_41 rfl ?_
    refine e_if_eq (tgt := 60) C dX3_buy_43 (by decide) (fun c_43 => absurd c_43 (by decide)) (fun c_43 => ?_)
    refine e_aload_n (j := 2) C dX3_buy_46 rfl rfl ?_
    refine e_iload_n (j := 3) C dX3_buy_47 rfl rfl ?_
    refine e_iload_n (j := 4) C dX3_buy_48 rfl rfl ?_
    refine e_iload_n (j := 5) C dX3_buy_49 rfl rfl ?_
    refine e_cV (i := 9) (nA := 3) (Cn := RX3) C (c_X3_reason hl (show k < 10 by omega) hg) rfl (cnt_fix (by decide)) (fun _ => rfl) rfl rfl mw_468 mw_465 mw_466 mw_467 mw_5 (by decide +kernel) (by decide) rfl rfl (Nat.le_of_ble_eq_true rfl) dX3_buy_50 (Nat.le_of_ble_eq_true rfl) (Nat.le_of_ble_eq_true rfl) ?_
    refine e_if_ne (tgt := 60) C dX3_buy_53 (by decide) (fun c_53 => ?_) (fun c_53 => ?_)
    · refine e_iconst (v := 0) C dX3_buy_60 (by decide) ?_
      refine e_cV (i := 9) (nA := 3) (Cn := RX3) C (c_X3_g3 hl) rfl (cnt_fix (by decide)) (fun _ => rfl) rfl rfl mw_162 mw_159 mw_160 mw_161 mw_5 (by decide +kernel) (by decide) rfl rfl (Nat.le_of_ble_eq_true rfl) dX3_buy_61 (Nat.le_of_ble_eq_true rfl) (Nat.le_of_ble_eq_true rfl) ?_
      refine e_if_ne (tgt := 69) C dX3_buy_64 (by decide) (fun c_64 => absurd (by decide) c_64) (fun c_64 => ?_)
      refine e_iconst (v := 0) C dX3_buy_67 (by decide) ?_
      exact e_iret C rfl (Nat.le_of_ble_eq_true rfl) (Nat.le_of_ble_eq_true rfl) dX3_buy_68 (pO.mk (by unfold ombuy; rw [if_neg h]; first | rw [if_neg c_53] | (rw [if_pos c_53, hb1, hbL]; (try subst ex8_128); first | (rw [if_pos c_114]; rfl) | (rw [if_neg c_114]; rfl))))
    · refine e_iconst (v := 1) C dX3_buy_56 (by decide) ?_
      refine e_goto (tgt := 61) C dX3_buy_57 (by decide) ?_
      refine e_cV (i := 9) (nA := 3) (Cn := RX3) C (c_X3_g0 hl) rfl (cnt_fix (by decide)) (fun _ => rfl) rfl rfl mw_162 mw_159 mw_160 mw_161 mw_5 (by decide +kernel) (by decide) rfl rfl (Nat.le_of_ble_eq_true rfl) dX3_buy_61 (Nat.le_of_ble_eq_true rfl) (Nat.le_of_ble_eq_true rfl) ?_
      refine e_if_ne (tgt := 69) C dX3_buy_64 (by decide) (fun c_64 => ?_) (fun c_64 => absurd c_64 (by decide))
      refine e_iload_n (j := 5) C dX3_buy_69 rfl rfl ?_
      refine e_aload_n (j := 2) C dX3_buy_70 rfl rfl ?_
      refine e_iload_n (j := 3) C dX3_buy_71 rfl rfl ?_
      refine e_iload_n (j := 4) C dX3_buy_72 rfl rfl ?_
      refine e_cV (i := 9) (nA := 2) (Cn := RX3) C (c_X3_raisedFor hl (show k < 10 by omega) hg) rfl (cnt_fix (by decide)) (fun _ => rfl) rfl rfl mw_428 mw_425 mw_426 mw_427 mw_5 (by decide +kernel) (by decide) rfl rfl (Nat.le_of_ble_eq_true rfl) dX3_buy_73 (Nat.le_of_ble_eq_true rfl) (Nat.le_of_ble_eq_true rfl) ?_
      refine e_imul C dX3_buy_76 ?_
      refine e_topi (fun x6_77 ex6_77 => ?_)
      refine e_istore (ls2 := [(6, .int x6_77), (5, .int 1), (4, .int 1), (0, .ref (ρ 9)), (1, .int (nI k)), (2, .int (nI g)), (3, .int w)]) C hnL dX3_buy_77 (by decide) rfl ?_
      refine e_aload_n (j := 3) C dX3_buy_79 rfl rfl ?_
      refine e_iload_n (j := 4) C dX3_buy_80 rfl rfl ?_
      refine e_iload (j := 0) C dX3_buy_81 rfl ?_
      refine e_cV (i := 9) (nA := 2) (Cn := RX3) C (c_X3_takes hl (show k < 10 by omega)) rfl (cnt_fix (by decide)) (fun _ => rfl) rfl rfl mw_498 mw_495 mw_496 mw_497 mw_5 (by decide +kernel) (by decide) rfl rfl (Nat.le_of_ble_eq_true rfl) dX3_buy_83 (Nat.le_of_ble_eq_true rfl) (Nat.le_of_ble_eq_true rfl) ?_
      refine e_topi (fun x7_86 ex7_86 => ?_)
      refine e_istore (ls2 := [(7, .int x7_86), (6, .int x6_77), (5, .int 1), (4, .int 1), (0, .ref (ρ 9)), (1, .int (nI k)), (2, .int (nI g)), (3, .int w)]) C hnL dX3_buy_86 (by decide) rfl ?_
      refine e_aload_n (j := 4) C dX3_buy_88 rfl rfl ?_
      refine e_get3 (k := 17) (ref := "ScripHollowModel") C (by decide) rfl rfl mw_70 dX3_buy_89 ?_
      refine e_iconst (v := 1) C dX3_buy_92 (by decide) ?_
      refine e_dup2 C dX3_buy_93 rfl rfl ?_
      refine e_ialdN 1 C (cnt_fix (by decide)) (fun _ => rfl) rfl (by decide) (by decide) dX3_buy_94 ?_
      refine e_iload (j := 0) C dX3_buy_95 rfl ?_
      refine e_iadd C dX3_buy_97 ?_
      refine e_iastN 1 C (cnt_fix (by decide)) (fun _ _ => rfl) rfl (by decide) (by decide) dX3_buy_98 ?_
      refine e_iload (j := 1) C dX3_buy_99 rfl ?_
      refine e_iload (j := 0) C dX3_buy_101 rfl ?_
      refine e_isub C dX3_buy_103 ?_
      refine e_topi (fun x6_104 ex6_104 => ?_)
      refine e_istore (ls2 := [(6, .int x6_104), (7, .int x7_86), (5, .int 1), (4, .int 1), (0, .ref (ρ 9)), (1, .int (nI k)), (2, .int (nI g)), (3, .int w)]) C hnL dX3_buy_104 (by decide) rfl ?_
      generalize hB : up (tkS (ml M 0) k x6_77 40).1 26 1 ((tkS (ml M 0) k x6_77 40).1 26 1 + x7_86) = B
      have hbC : x6_77 = bmC (ml M 0) k g w := ex6_77
      have hb1 : bm1 (ml M 0) k g w = B := by subst hbC; subst ex7_86; exact hB
      have hbL : bmL (ml M 0) k g w = x6_104 := by subst hbC; subst ex7_86; exact ex6_104.symm
      refine e_aload_n (j := 4) C dX3_buy_106 rfl rfl ?_
      refine e_get3 (k := 5) (ref := "ScripHollowModel") C (by decide) rfl rfl mw_58 dX3_buy_107 ?_
      refine e_iload_n (j := 5) C dX3_buy_110 rfl rfl ?_
      refine e_ialdN k C (cnt_fix (by decide)) (fun _ => rfl) rfl (by omega) (by decide) dX3_buy_111 ?_
      refine e_iload (j := 0) C dX3_buy_112 rfl ?_
      refine e_icmp_ge (tgt := 126) C dX3_buy_114 (by decide) (fun c_114 => ?_) (fun c_114 => ?_)
      · refine e_iload (j := 0) C dX3_buy_126 rfl ?_
        refine e_istore (ls2 := [(8, .int x6_104), (6, .int x6_104), (7, .int x7_86), (5, .int 1), (4, .int 1), (0, .ref (ρ 9)), (1, .int (nI k)), (2, .int (nI g)), (3, .int w)]) C hnL dX3_buy_128 (by decide) rfl ?_
        refine e_aload_n (j := 5) C dX3_buy_130 rfl rfl ?_
        refine e_get3 (k := 5) (ref := "ScripHollowModel") C (by decide) rfl rfl mw_58 dX3_buy_131 ?_
        refine e_iload_n (j := 6) C dX3_buy_134 rfl rfl ?_
        refine e_dup2 C dX3_buy_135 rfl rfl ?_
        refine e_ialdN k C (cnt_fix (by decide)) (fun _ => rfl) rfl (by omega) (by decide) dX3_buy_136 ?_
        refine e_iload (j := 0) C dX3_buy_137 rfl ?_
        refine e_isub C dX3_buy_139 ?_
        refine e_iastN k C (cnt_fix (by decide)) (fun _ _ => rfl) rfl (by omega) (by decide) dX3_buy_140 ?_
        refine e_aload_n (j := 5) C dX3_buy_141 rfl rfl ?_
        refine e_get3 (k := 6) (ref := "ScripHollowModel") C (by decide) rfl rfl mw_59 dX3_buy_142 ?_
        refine e_iload_n (j := 6) C dX3_buy_145 rfl rfl ?_
        refine e_dup2 C dX3_buy_146 rfl rfl ?_
        refine e_ialdN k C (cnt_fix (by decide)) (fun _ => rfl) rfl (by omega) (by decide) dX3_buy_147 ?_
        refine e_iload (j := 1) C dX3_buy_148 rfl ?_
        refine e_iload (j := 0) C dX3_buy_150 rfl ?_
        refine e_isub C dX3_buy_152 ?_
        refine e_iadd C dX3_buy_153 ?_
        refine e_iastN k C (cnt_fix (by decide)) (fun _ _ => rfl) rfl (by omega) (by decide) dX3_buy_154 ?_
        refine e_aload_n (j := 5) C dX3_buy_155 rfl rfl ?_
        refine e_get3 (k := 12) (ref := "ScripHollowModel") C (by decide) rfl rfl mw_65 dX3_buy_156 ?_
        refine e_iconst (v := 4) C dX3_buy_159 (by decide) ?_
        refine e_iload_n (j := 6) C dX3_buy_160 rfl rfl ?_
        refine e_imul C dX3_buy_161 ?_
        refine e_iload_n (j := 7) C dX3_buy_162 rfl rfl ?_
        refine e_iadd C dX3_buy_163 ?_
        refine e_dup2 C dX3_buy_164 rfl rfl ?_
        refine e_ialdN (4 * k + g) C (cnt_fix (by decide)) (fun _ => rfl) (ix4k k g) (by omega) (by decide) dX3_buy_165 ?_
        refine e_iload_n (j := 8) C dX3_buy_166 rfl rfl ?_
        refine e_iadd C dX3_buy_167 ?_
        refine e_iastN (4 * k + g) C (cnt_fix (by decide)) (fun _ _ => rfl) (ix4k k g) (by omega) (by decide) dX3_buy_168 ?_
        refine e_aload_n (j := 5) C dX3_buy_169 rfl rfl ?_
        refine e_get3 (k := 6) (ref := "ScripHollowModel") C (by decide) rfl rfl mw_59 dX3_buy_170 ?_
        refine e_iload_n (j := 6) C dX3_buy_173 rfl rfl ?_
        refine e_ialdN k C (cnt_fix (by decide)) (fun _ => rfl) rfl (by omega) (by decide) dX3_buy_174 ?_
        exact e_iret C rfl (Nat.le_of_ble_eq_true rfl) (Nat.le_of_ble_eq_true rfl) dX3_buy_175 (pO.mk (by unfold ombuy; rw [if_neg h]; first | rw [if_neg c_53] | (rw [if_pos c_53, hb1, hbL]; (try subst ex8_128); first | (rw [if_pos c_114]; rfl) | (rw [if_neg c_114]; rfl))))
      · refine e_aload_n (j := 4) C dX3_buy_117 rfl rfl ?_
        refine e_get3 (k := 5) (ref := "ScripHollowModel") C (by decide) rfl rfl mw_58 dX3_buy_118 ?_
        refine e_iload_n (j := 5) C dX3_buy_121 rfl rfl ?_
        refine e_ialdN k C (cnt_fix (by decide)) (fun _ => rfl) rfl (by omega) (by decide) dX3_buy_122 ?_
        refine e_goto (tgt := 128) C dX3_buy_123 (by decide) ?_
        refine e_topi (fun x8_128 ex8_128 => ?_)
        refine e_istore (ls2 := [(8, .int x8_128), (6, .int x6_104), (7, .int x7_86), (5, .int 1), (4, .int 1), (0, .ref (ρ 9)), (1, .int (nI k)), (2, .int (nI g)), (3, .int w)]) C hnL dX3_buy_128 (by decide) rfl ?_
        refine e_aload_n (j := 5) C dX3_buy_130 rfl rfl ?_
        refine e_get3 (k := 5) (ref := "ScripHollowModel") C (by decide) rfl rfl mw_58 dX3_buy_131 ?_
        refine e_iload_n (j := 6) C dX3_buy_134 rfl rfl ?_
        refine e_dup2 C dX3_buy_135 rfl rfl ?_
        refine e_ialdN k C (cnt_fix (by decide)) (fun _ => rfl) rfl (by omega) (by decide) dX3_buy_136 ?_
        refine e_iload (j := 0) C dX3_buy_137 rfl ?_
        refine e_isub C dX3_buy_139 ?_
        refine e_iastN k C (cnt_fix (by decide)) (fun _ _ => rfl) rfl (by omega) (by decide) dX3_buy_140 ?_
        refine e_aload_n (j := 5) C dX3_buy_141 rfl rfl ?_
        refine e_get3 (k := 6) (ref := "ScripHollowModel") C (by decide) rfl rfl mw_59 dX3_buy_142 ?_
        refine e_iload_n (j := 6) C dX3_buy_145 rfl rfl ?_
        refine e_dup2 C dX3_buy_146 rfl rfl ?_
        refine e_ialdN k C (cnt_fix (by decide)) (fun _ => rfl) rfl (by omega) (by decide) dX3_buy_147 ?_
        refine e_iload (j := 1) C dX3_buy_148 rfl ?_
        refine e_iload (j := 0) C dX3_buy_150 rfl ?_
        refine e_isub C dX3_buy_152 ?_
        refine e_iadd C dX3_buy_153 ?_
        refine e_iastN k C (cnt_fix (by decide)) (fun _ _ => rfl) rfl (by omega) (by decide) dX3_buy_154 ?_
        refine e_aload_n (j := 5) C dX3_buy_155 rfl rfl ?_
        refine e_get3 (k := 12) (ref := "ScripHollowModel") C (by decide) rfl rfl mw_65 dX3_buy_156 ?_
        refine e_iconst (v := 4) C dX3_buy_159 (by decide) ?_
        refine e_iload_n (j := 6) C dX3_buy_160 rfl rfl ?_
        refine e_imul C dX3_buy_161 ?_
        refine e_iload_n (j := 7) C dX3_buy_162 rfl rfl ?_
        refine e_iadd C dX3_buy_163 ?_
        refine e_dup2 C dX3_buy_164 rfl rfl ?_
        refine e_ialdN (4 * k + g) C (cnt_fix (by decide)) (fun _ => rfl) (ix4k k g) (by omega) (by decide) dX3_buy_165 ?_
        refine e_iload_n (j := 8) C dX3_buy_166 rfl rfl ?_
        refine e_iadd C dX3_buy_167 ?_
        refine e_iastN (4 * k + g) C (cnt_fix (by decide)) (fun _ _ => rfl) (ix4k k g) (by omega) (by decide) dX3_buy_168 ?_
        refine e_aload_n (j := 5) C dX3_buy_169 rfl rfl ?_
        refine e_get3 (k := 6) (ref := "ScripHollowModel") C (by decide) rfl rfl mw_59 dX3_buy_170 ?_
        refine e_iload_n (j := 6) C dX3_buy_173 rfl rfl ?_
        refine e_ialdN k C (cnt_fix (by decide)) (fun _ => rfl) rfl (by omega) (by decide) dX3_buy_174 ?_
        exact e_iret C rfl (Nat.le_of_ble_eq_true rfl) (Nat.le_of_ble_eq_true rfl) dX3_buy_175 (pO.mk (by unfold ombuy; rw [if_neg h]; first | rw [if_neg c_53] | (rw [if_pos c_53, hb1, hbL]; (try subst ex8_128); first | (rw [if_pos c_114]; rfl) | (rw [if_neg c_114]; rfl))))
def om1 (N : Mem) (k : Nat) (c : Int32) : Mem := up N 14 k (N 14 k - c)
def om2 (N : Mem) (k g : Nat) (c w : Int32) : Mem := up (om1 N k c) 21 (4 * k + g) (om1 N k c 21 (4 * k + g) + w)
def omover (M : Mem) (k g : Nat) (w : Int32) : Out := if w < 1 ∨ 50 < w then mo M 2 0 else if M 10 k = 0 then mo M 3 0 else if M 14 k < w * M 24 (4 + g) then mo M 3 0 else rI (om2 (ml M 0) k g (w * M 24 (4 + g)) w 14 k) (om2 (ml M 0) k g (w * M 24 (4 + g)) w)
set_option maxRecDepth 100000 in
set_option maxHeartbeats 4000000 in
theorem c_X3_over {l : Launch} (hl : l.stackTraces = false) {n : Nat} {ρ : Nat → Nat} {J : Nat → Int64} {M : Mem} {k : Nat} (hk : k < n) (hn : n ≤ 10) (hm : M 9 0 = nI n) {g : Nat} (hg : g < 4) {w : Int32} : CtO l yX3_over cX3_over 6 (some .int) 3 0 0 n ρ J M [.ref (ρ 9), .int (nI k), .int (nI g), .int w] (omover M k g w) := by
  refine CtO.of hl (by decide +kernel) (Nat.le_of_ble_eq_true rfl) (fun Ξ hnL C => ?_)
  show E Ξ n ρ J M 0 0 0 [(0, .ref (ρ 9)), (1, .int (nI k)), (2, .int (nI g)), (3, .int w)] []
  by_cases h : w < 1 ∨ 50 < w
  · refine e_aload_n (j := 0) C dX3_over_0 rfl rfl ?_
    refine e_iload_n (j := 1) C dX3_over_1 rfl rfl ?_
    refine e_cV (i := 9) (nA := 1) (Cn := RX3) C (c_X3_isMiner hl hk hn hm) rfl (cnt_fix (by decide)) (fun _ => rfl) rfl rfl mw_213 mw_210 mw_211 mw_212 mw_5 (by decide +kernel) (by decide) rfl rfl (Nat.le_of_ble_eq_true rfl) dX3_over_2 (Nat.le_of_ble_eq_true rfl) (Nat.le_of_ble_eq_true rfl) ?_
    refine e_if_eq (tgt := 19) C dX3_over_5 (by decide) (fun c_5 => absurd c_5 (by decide)) (fun c_5 => ?_)
    refine e_iload_n (j := 2) C dX3_over_8 rfl rfl ?_
    refine e_cS (nA := 1) C (c_X3_isGoods hl hg) rfl mw_409 mw_407 mw_408 mw_5 (by decide +kernel) (by decide) rfl rfl (Nat.le_of_ble_eq_true rfl) dX3_over_9 (Nat.le_of_ble_eq_true rfl) (Nat.le_of_ble_eq_true rfl) ?_
    refine e_if_eq (tgt := 19) C dX3_over_12 (by decide) (fun c_12 => absurd c_12 (by decide)) (fun c_12 => ?_)
    refine e_iconst (v := 1) C dX3_over_15 (by decide) ?_
    refine e_goto (tgt := 20) C dX3_over_16 (by decide) ?_
    refine e_istore (ls2 := [(4, .int 1), (0, .ref (ρ 9)), (1, .int (nI k)), (2, .int (nI g)), (3, .int w)]) C hnL dX3_over_20 (by decide) rfl ?_
    refine e_iload (j := 0) C dX3_over_22 rfl ?_
    refine e_if_eq (tgt := 40) C dX3_over_24 (by decide) (fun c_24 => absurd c_24 (by decide)) (fun c_24 => ?_)
    refine e_iload_n (j := 4) C dX3_over_27 rfl rfl ?_
    refine e_aload_n (j := 1) C dX3_over_28 rfl rfl ?_
    refine e_get3 (k := 15) (ref := "ScripHollowModel") C (by decide) rfl rfl mw_68 dX3_over_29 ?_
    refine e_iconst (v := 4) C dX3_over_32 (by decide) ?_
    refine e_iload_n (j := 3) C dX3_over_33 rfl rfl ?_
    refine e_iadd C dX3_over_34 ?_
    refine e_ialdN (4 + g) C (cnt_fix (by decide)) (fun _ => rfl) (ix4g g) (by omega) (by decide) dX3_over_35 ?_
    refine e_imul C dX3_over_36 ?_
    refine e_goto (tgt := 41) C dX3_over_37 (by decide) ?_
    refine e_topi (fun x5_41 ex5_41 => ?_)
    refine e_istore (ls2 := [(5, .int x5_41), (4, .int 1), (0, .ref (ρ 9)), (1, .int (nI k)), (2, .int (nI g)), (3, .int w)]) C hnL dX3_over_41 (by decide) rfl ?_
    refine e_aload_n (j := 2) C dX3_over_43 rfl rfl ?_
    refine e_iload (j := 1) C dX3_over_44 rfl ?_
    refine e_iload_n (j := 5) C dX3_over_46 rfl rfl ?_
    refine e_iconst (v := 1) C dX3_over_47 (by decide) ?_
    refine e_bipush (v := 50) C dX3_over_48 (by decide) ?_
    refine e_cS (nA := 3) C (c_X3_in0 hl h) rfl mw_216 mw_214 mw_215 mw_5 (by decide +kernel) (by decide) rfl rfl (Nat.le_of_ble_eq_true rfl) dX3_over_50 (Nat.le_of_ble_eq_true rfl) (Nat.le_of_ble_eq_true rfl) ?_
    refine e_iload (j := 1) C dX3_over_53 rfl ?_
    refine e_if_eq (tgt := 82) C dX3_over_55 (by decide) (fun c_55 => absurd c_55 (by decide)) (fun c_55 => ?_)
    refine e_aload_n (j := 2) C dX3_over_58 rfl rfl ?_
    refine e_get3 (k := 1) (ref := "ScripHollowModel") C (by decide) rfl rfl mw_54 dX3_over_59 ?_
    refine e_iload_n (j := 3) C dX3_over_62 rfl rfl ?_
    refine e_zaldN k C (cnt_fix (by decide)) (fun _ => rfl) rfl (by omega) (by decide) dX3_over_63 ?_
    refine e_if_eq (tgt := 82) C dX3_over_64 (by decide) (fun c_64 => ?_) (fun c_64 => ?_)
    · refine e_iconst (v := 0) C dX3_over_82 (by decide) ?_
      refine e_cV (i := 9) (nA := 3) (Cn := RX3) C (c_X3_g2 hl) rfl (cnt_fix (by decide)) (fun _ => rfl) rfl rfl mw_162 mw_159 mw_160 mw_161 mw_5 (by decide +kernel) (by decide) rfl rfl (Nat.le_of_ble_eq_true rfl) dX3_over_83 (Nat.le_of_ble_eq_true rfl) (Nat.le_of_ble_eq_true rfl) ?_
      refine e_if_ne (tgt := 91) C dX3_over_86 (by decide) (fun c_86 => absurd (by decide) c_86) (fun c_86 => ?_)
      refine e_iconst (v := 0) C dX3_over_89 (by decide) ?_
      exact e_iret C rfl (Nat.le_of_ble_eq_true rfl) (Nat.le_of_ble_eq_true rfl) dX3_over_90 (pO.mk (by unfold omover; rw [if_pos h]))
    · refine e_aload_n (j := 2) C dX3_over_67 rfl rfl ?_
      refine e_get3 (k := 5) (ref := "ScripHollowModel") C (by decide) rfl rfl mw_58 dX3_over_68 ?_
      refine e_iload_n (j := 3) C dX3_over_71 rfl rfl ?_
      refine e_ialdN k C (cnt_fix (by decide)) (fun _ => rfl) rfl (by omega) (by decide) dX3_over_72 ?_
      refine e_iload (j := 0) C dX3_over_73 rfl ?_
      refine e_icmp_lt (tgt := 82) C dX3_over_75 (by decide) (fun c_75 => ?_) (fun c_75 => ?_)
      · refine e_iconst (v := 0) C dX3_over_82 (by decide) ?_
        refine e_cV (i := 9) (nA := 3) (Cn := RX3) C (c_X3_g2 hl) rfl (cnt_fix (by decide)) (fun _ => rfl) rfl rfl mw_162 mw_159 mw_160 mw_161 mw_5 (by decide +kernel) (by decide) rfl rfl (Nat.le_of_ble_eq_true rfl) dX3_over_83 (Nat.le_of_ble_eq_true rfl) (Nat.le_of_ble_eq_true rfl) ?_
        refine e_if_ne (tgt := 91) C dX3_over_86 (by decide) (fun c_86 => absurd (by decide) c_86) (fun c_86 => ?_)
        refine e_iconst (v := 0) C dX3_over_89 (by decide) ?_
        exact e_iret C rfl (Nat.le_of_ble_eq_true rfl) (Nat.le_of_ble_eq_true rfl) dX3_over_90 (pO.mk (by unfold omover; rw [if_pos h]))
      · refine e_iconst (v := 1) C dX3_over_78 (by decide) ?_
        refine e_goto (tgt := 83) C dX3_over_79 (by decide) ?_
        refine e_cV (i := 9) (nA := 3) (Cn := RX3) C (c_X3_g2 hl) rfl (cnt_fix (by decide)) (fun _ => rfl) rfl rfl mw_162 mw_159 mw_160 mw_161 mw_5 (by decide +kernel) (by decide) rfl rfl (Nat.le_of_ble_eq_true rfl) dX3_over_83 (Nat.le_of_ble_eq_true rfl) (Nat.le_of_ble_eq_true rfl) ?_
        refine e_if_ne (tgt := 91) C dX3_over_86 (by decide) (fun c_86 => absurd (by decide) c_86) (fun c_86 => ?_)
        refine e_iconst (v := 0) C dX3_over_89 (by decide) ?_
        exact e_iret C rfl (Nat.le_of_ble_eq_true rfl) (Nat.le_of_ble_eq_true rfl) dX3_over_90 (pO.mk (by unfold omover; rw [if_pos h]))
  · refine e_aload_n (j := 0) C dX3_over_0 rfl rfl ?_
    refine e_iload_n (j := 1) C dX3_over_1 rfl rfl ?_
    refine e_cV (i := 9) (nA := 1) (Cn := RX3) C (c_X3_isMiner hl hk hn hm) rfl (cnt_fix (by decide)) (fun _ => rfl) rfl rfl mw_213 mw_210 mw_211 mw_212 mw_5 (by decide +kernel) (by decide) rfl rfl (Nat.le_of_ble_eq_true rfl) dX3_over_2 (Nat.le_of_ble_eq_true rfl) (Nat.le_of_ble_eq_true rfl) ?_
    refine e_if_eq (tgt := 19) C dX3_over_5 (by decide) (fun c_5 => absurd c_5 (by decide)) (fun c_5 => ?_)
    refine e_iload_n (j := 2) C dX3_over_8 rfl rfl ?_
    refine e_cS (nA := 1) C (c_X3_isGoods hl hg) rfl mw_409 mw_407 mw_408 mw_5 (by decide +kernel) (by decide) rfl rfl (Nat.le_of_ble_eq_true rfl) dX3_over_9 (Nat.le_of_ble_eq_true rfl) (Nat.le_of_ble_eq_true rfl) ?_
    refine e_if_eq (tgt := 19) C dX3_over_12 (by decide) (fun c_12 => absurd c_12 (by decide)) (fun c_12 => ?_)
    refine e_iconst (v := 1) C dX3_over_15 (by decide) ?_
    refine e_goto (tgt := 20) C dX3_over_16 (by decide) ?_
    refine e_istore (ls2 := [(4, .int 1), (0, .ref (ρ 9)), (1, .int (nI k)), (2, .int (nI g)), (3, .int w)]) C hnL dX3_over_20 (by decide) rfl ?_
    refine e_iload (j := 0) C dX3_over_22 rfl ?_
    refine e_if_eq (tgt := 40) C dX3_over_24 (by decide) (fun c_24 => absurd c_24 (by decide)) (fun c_24 => ?_)
    refine e_iload_n (j := 4) C dX3_over_27 rfl rfl ?_
    refine e_aload_n (j := 1) C dX3_over_28 rfl rfl ?_
    refine e_get3 (k := 15) (ref := "ScripHollowModel") C (by decide) rfl rfl mw_68 dX3_over_29 ?_
    refine e_iconst (v := 4) C dX3_over_32 (by decide) ?_
    refine e_iload_n (j := 3) C dX3_over_33 rfl rfl ?_
    refine e_iadd C dX3_over_34 ?_
    refine e_ialdN (4 + g) C (cnt_fix (by decide)) (fun _ => rfl) (ix4g g) (by omega) (by decide) dX3_over_35 ?_
    refine e_imul C dX3_over_36 ?_
    refine e_goto (tgt := 41) C dX3_over_37 (by decide) ?_
    refine e_topi (fun x5_41 ex5_41 => ?_)
    refine e_istore (ls2 := [(5, .int x5_41), (4, .int 1), (0, .ref (ρ 9)), (1, .int (nI k)), (2, .int (nI g)), (3, .int w)]) C hnL dX3_over_41 (by decide) rfl ?_
    refine e_aload_n (j := 2) C dX3_over_43 rfl rfl ?_
    refine e_iload (j := 1) C dX3_over_44 rfl ?_
    refine e_iload_n (j := 5) C dX3_over_46 rfl rfl ?_
    refine e_iconst (v := 1) C dX3_over_47 (by decide) ?_
    refine e_bipush (v := 50) C dX3_over_48 (by decide) ?_
    refine e_cS (nA := 3) C (c_X3_in1 hl (rng_ok h).1 (rng_ok h).2) rfl mw_216 mw_214 mw_215 mw_5 (by decide +kernel) (by decide) rfl rfl (Nat.le_of_ble_eq_true rfl) dX3_over_50 (Nat.le_of_ble_eq_true rfl) (Nat.le_of_ble_eq_true rfl) ?_
    refine e_iload (j := 1) C dX3_over_53 rfl ?_
    refine e_if_eq (tgt := 82) C dX3_over_55 (by decide) (fun c_55 => absurd c_55 (by decide)) (fun c_55 => ?_)
    refine e_aload_n (j := 2) C dX3_over_58 rfl rfl ?_
    refine e_get3 (k := 1) (ref := "ScripHollowModel") C (by decide) rfl rfl mw_54 dX3_over_59 ?_
    refine e_iload_n (j := 3) C dX3_over_62 rfl rfl ?_
    refine e_zaldN k C (cnt_fix (by decide)) (fun _ => rfl) rfl (by omega) (by decide) dX3_over_63 ?_
    refine e_if_eq (tgt := 82) C dX3_over_64 (by decide) (fun c_64 => ?_) (fun c_64 => ?_)
    · refine e_iconst (v := 0) C dX3_over_82 (by decide) ?_
      refine e_cV (i := 9) (nA := 3) (Cn := RX3) C (c_X3_g3 hl) rfl (cnt_fix (by decide)) (fun _ => rfl) rfl rfl mw_162 mw_159 mw_160 mw_161 mw_5 (by decide +kernel) (by decide) rfl rfl (Nat.le_of_ble_eq_true rfl) dX3_over_83 (Nat.le_of_ble_eq_true rfl) (Nat.le_of_ble_eq_true rfl) ?_
      refine e_if_ne (tgt := 91) C dX3_over_86 (by decide) (fun c_86 => absurd (by decide) c_86) (fun c_86 => ?_)
      refine e_iconst (v := 0) C dX3_over_89 (by decide) ?_
      exact e_iret C rfl (Nat.le_of_ble_eq_true rfl) (Nat.le_of_ble_eq_true rfl) dX3_over_90 (pO.mk (by subst ex5_41; unfold omover; rw [if_neg h]; (repeat (first | rw [if_neg h] | rw [if_neg c_5] | rw [if_neg c_12] | rw [if_neg c_24] | rw [if_neg c_55] | rw [if_pos c_64] | rw [if_pos c_86])); (try rfl)))
    · refine e_aload_n (j := 2) C dX3_over_67 rfl rfl ?_
      refine e_get3 (k := 5) (ref := "ScripHollowModel") C (by decide) rfl rfl mw_58 dX3_over_68 ?_
      refine e_iload_n (j := 3) C dX3_over_71 rfl rfl ?_
      refine e_ialdN k C (cnt_fix (by decide)) (fun _ => rfl) rfl (by omega) (by decide) dX3_over_72 ?_
      refine e_iload (j := 0) C dX3_over_73 rfl ?_
      refine e_icmp_lt (tgt := 82) C dX3_over_75 (by decide) (fun c_75 => ?_) (fun c_75 => ?_)
      · refine e_iconst (v := 0) C dX3_over_82 (by decide) ?_
        refine e_cV (i := 9) (nA := 3) (Cn := RX3) C (c_X3_g3 hl) rfl (cnt_fix (by decide)) (fun _ => rfl) rfl rfl mw_162 mw_159 mw_160 mw_161 mw_5 (by decide +kernel) (by decide) rfl rfl (Nat.le_of_ble_eq_true rfl) dX3_over_83 (Nat.le_of_ble_eq_true rfl) (Nat.le_of_ble_eq_true rfl) ?_
        refine e_if_ne (tgt := 91) C dX3_over_86 (by decide) (fun c_86 => absurd (by decide) c_86) (fun c_86 => ?_)
        refine e_iconst (v := 0) C dX3_over_89 (by decide) ?_
        exact e_iret C rfl (Nat.le_of_ble_eq_true rfl) (Nat.le_of_ble_eq_true rfl) dX3_over_90 (pO.mk (by subst ex5_41; unfold omover; rw [if_neg h]; (repeat (first | rw [if_neg h] | rw [if_neg c_5] | rw [if_neg c_12] | rw [if_neg c_24] | rw [if_neg c_55] | rw [if_neg c_64] | rw [if_pos c_75] | rw [if_pos c_86])); (try rfl)))
      · refine e_iconst (v := 1) C dX3_over_78 (by decide) ?_
        refine e_goto (tgt := 83) C dX3_over_79 (by decide) ?_
        refine e_cV (i := 9) (nA := 3) (Cn := RX3) C (c_X3_g0 hl) rfl (cnt_fix (by decide)) (fun _ => rfl) rfl rfl mw_162 mw_159 mw_160 mw_161 mw_5 (by decide +kernel) (by decide) rfl rfl (Nat.le_of_ble_eq_true rfl) dX3_over_83 (Nat.le_of_ble_eq_true rfl) (Nat.le_of_ble_eq_true rfl) ?_
        refine e_if_ne (tgt := 91) C dX3_over_86 (by decide) (fun c_86 => ?_) (fun c_86 => absurd c_86 (by decide))
        refine e_aload_n (j := 2) C dX3_over_91 rfl rfl ?_
        refine e_get3 (k := 5) (ref := "ScripHollowModel") C (by decide) rfl rfl mw_58 dX3_over_92 ?_
        refine e_iload_n (j := 3) C dX3_over_95 rfl rfl ?_
        refine e_dup2 C dX3_over_96 rfl rfl ?_
        refine e_ialdN k C (cnt_fix (by decide)) (fun _ => rfl) rfl (by omega) (by decide) dX3_over_97 ?_
        refine e_iload (j := 0) C dX3_over_98 rfl ?_
        refine e_isub C dX3_over_100 ?_
        refine e_iastN k C (cnt_fix (by decide)) (fun _ _ => rfl) rfl (by omega) (by decide) dX3_over_101 ?_
        refine e_aload_n (j := 2) C dX3_over_102 rfl rfl ?_
        refine e_get3 (k := 12) (ref := "ScripHollowModel") C (by decide) rfl rfl mw_65 dX3_over_103 ?_
        refine e_iconst (v := 4) C dX3_over_106 (by decide) ?_
        refine e_iload_n (j := 3) C dX3_over_107 rfl rfl ?_
        refine e_imul C dX3_over_108 ?_
        refine e_iload_n (j := 4) C dX3_over_109 rfl rfl ?_
        refine e_iadd C dX3_over_110 ?_
        refine e_dup2 C dX3_over_111 rfl rfl ?_
        refine e_ialdN (4 * k + g) C (cnt_fix (by decide)) (fun _ => rfl) (ix4k k g) (by omega) (by decide) dX3_over_112 ?_
        refine e_iload_n (j := 5) C dX3_over_113 rfl rfl ?_
        refine e_iadd C dX3_over_114 ?_
        refine e_iastN (4 * k + g) C (cnt_fix (by decide)) (fun _ _ => rfl) (ix4k k g) (by omega) (by decide) dX3_over_115 ?_
        refine e_aload_n (j := 2) C dX3_over_116 rfl rfl ?_
        refine e_get3 (k := 5) (ref := "ScripHollowModel") C (by decide) rfl rfl mw_58 dX3_over_117 ?_
        refine e_iload_n (j := 3) C dX3_over_120 rfl rfl ?_
        refine e_ialdN k C (cnt_fix (by decide)) (fun _ => rfl) rfl (by omega) (by decide) dX3_over_121 ?_
        exact e_iret C rfl (Nat.le_of_ble_eq_true rfl) (Nat.le_of_ble_eq_true rfl) dX3_over_122 (pO.mk (by subst ex5_41; unfold omover; rw [if_neg h]; (repeat (first | rw [if_neg h] | rw [if_neg c_5] | rw [if_neg c_12] | rw [if_neg c_24] | rw [if_neg c_55] | rw [if_neg c_64] | rw [if_neg c_75] | rw [if_neg c_86])); (try rfl)))
abbrev cmI (N : Mem) (w : Int32) : Int32 := w * (100 - N 9 23) / 100
def cm1 (N : Mem) (k : Nat) (w : Int32) : Mem := up (tkS N k w 40).1 26 2 (N 26 2 + (w - (tkS N k w 40).2))
def cm2 (N : Mem) (k : Nat) (w : Int32) : Mem := up (cm1 N k w) 14 k (cm1 N k w 14 k + cmI (cm1 N k w) w)
def omchange (M : Mem) (k : Nat) (w : Int32) : Out := if w < 1 ∨ 100000 < w then mo M 2 0 else if M 10 k = 0 then mo M 3 0 else if smM M k 40 < w then mo M 3 0 else rI (cmI (cm1 (ml M 0) k w) w) (cm2 (ml M 0) k w)
set_option maxRecDepth 100000 in
set_option maxHeartbeats 4000000 in
theorem c_X3_change_x {l : Launch} (hl : l.stackTraces = false) {n : Nat} {ρ : Nat → Nat} {J : Nat → Int64} {M : Mem} {x w : Int32} (h : x < 0 ∨ nI n ≤ x) (hn : n ≤ 10) (hm : M 9 0 = nI n) : CtO l yX3_change cX3_change 5 (some .int) 3 0 0 n ρ J M [.ref (ρ 9), .int x, .int w] (mo M 1 0) := by
  refine CtO.of hl (by decide +kernel) (Nat.le_of_ble_eq_true rfl) (fun Ξ hnL C => ?_)
  show E Ξ n ρ J M 0 0 0 [(0, .ref (ρ 9)), (1, .int x), (2, .int w)] []
  by_cases hw : w < 1 ∨ 100000 < w
  · refine e_aload_n (j := 0) C dX3_change_0 rfl rfl ?_
    refine e_iload_n (j := 1) C dX3_change_1 rfl rfl ?_
    refine e_cV (i := 9) (nA := 1) (Cn := RX3) C (c_X3_isMiner_x hl h hn hm) rfl (cnt_fix (by decide)) (fun _ => rfl) rfl rfl mw_213 mw_210 mw_211 mw_212 mw_5 (by decide +kernel) (by decide) rfl rfl (Nat.le_of_ble_eq_true rfl) dX3_change_2 (Nat.le_of_ble_eq_true rfl) (Nat.le_of_ble_eq_true rfl) ?_
    refine e_istore_n (ls2 := [(3, .int 0), (0, .ref (ρ 9)), (1, .int x), (2, .int w)]) C hnL dX3_change_5 rfl (by decide) rfl ?_
    refine e_aload_n (j := 1) C dX3_change_6 rfl rfl ?_
    refine e_iload_n (j := 0) C dX3_change_7 rfl rfl ?_
    refine e_iload_n (j := 3) C dX3_change_8 rfl rfl ?_
    refine e_iconst (v := 1) C dX3_change_9 (by decide) ?_
    refine e_ldc (v := 100000) C dX3_change_10 mw_534 ?_
    refine e_cS (nA := 3) C (c_X3_in0 hl hw) rfl mw_216 mw_214 mw_215 mw_5 (by decide +kernel) (by decide) rfl rfl (Nat.le_of_ble_eq_true rfl) dX3_change_12 (Nat.le_of_ble_eq_true rfl) (Nat.le_of_ble_eq_true rfl) ?_
    refine e_iload_n (j := 0) C dX3_change_15 rfl rfl ?_
    refine e_if_eq (tgt := 41) C dX3_change_16 (by decide) (fun c_16 => ?_) (fun c_16 => absurd (by decide) c_16)
    refine e_iconst (v := 0) C dX3_change_41 (by decide) ?_
    refine e_cV (i := 9) (nA := 3) (Cn := RX3) C (c_X3_g1 hl) rfl (cnt_fix (by decide)) (fun _ => rfl) rfl rfl mw_162 mw_159 mw_160 mw_161 mw_5 (by decide +kernel) (by decide) rfl rfl (Nat.le_of_ble_eq_true rfl) dX3_change_42 (Nat.le_of_ble_eq_true rfl) (Nat.le_of_ble_eq_true rfl) ?_
    refine e_if_ne (tgt := 50) C dX3_change_45 (by decide) (fun c_45 => absurd (by decide) c_45) (fun c_45 => ?_)
    refine e_iconst (v := 0) C dX3_change_48 (by decide) ?_
    exact e_iret C rfl (Nat.le_of_ble_eq_true rfl) (Nat.le_of_ble_eq_true rfl) dX3_change_49 (pO.mk rfl)
  · refine e_aload_n (j := 0) C dX3_change_0 rfl rfl ?_
    refine e_iload_n (j := 1) C dX3_change_1 rfl rfl ?_
    refine e_cV (i := 9) (nA := 1) (Cn := RX3) C (c_X3_isMiner_x hl h hn hm) rfl (cnt_fix (by decide)) (fun _ => rfl) rfl rfl mw_213 mw_210 mw_211 mw_212 mw_5 (by decide +kernel) (by decide) rfl rfl (Nat.le_of_ble_eq_true rfl) dX3_change_2 (Nat.le_of_ble_eq_true rfl) (Nat.le_of_ble_eq_true rfl) ?_
    refine e_istore_n (ls2 := [(3, .int 0), (0, .ref (ρ 9)), (1, .int x), (2, .int w)]) C hnL dX3_change_5 rfl (by decide) rfl ?_
    refine e_aload_n (j := 1) C dX3_change_6 rfl rfl ?_
    refine e_iload_n (j := 0) C dX3_change_7 rfl rfl ?_
    refine e_iload_n (j := 3) C dX3_change_8 rfl rfl ?_
    refine e_iconst (v := 1) C dX3_change_9 (by decide) ?_
    refine e_ldc (v := 100000) C dX3_change_10 mw_534 ?_
    refine e_cS (nA := 3) C (c_X3_in1 hl (rng_ok hw).1 (rng_ok hw).2) rfl mw_216 mw_214 mw_215 mw_5 (by decide +kernel) (by decide) rfl rfl (Nat.le_of_ble_eq_true rfl) dX3_change_12 (Nat.le_of_ble_eq_true rfl) (Nat.le_of_ble_eq_true rfl) ?_
    refine e_iload_n (j := 0) C dX3_change_15 rfl rfl ?_
    refine e_if_eq (tgt := 41) C dX3_change_16 (by decide) (fun c_16 => ?_) (fun c_16 => absurd (by decide) c_16)
    refine e_iconst (v := 0) C dX3_change_41 (by decide) ?_
    refine e_cV (i := 9) (nA := 3) (Cn := RX3) C (c_X3_g1 hl) rfl (cnt_fix (by decide)) (fun _ => rfl) rfl rfl mw_162 mw_159 mw_160 mw_161 mw_5 (by decide +kernel) (by decide) rfl rfl (Nat.le_of_ble_eq_true rfl) dX3_change_42 (Nat.le_of_ble_eq_true rfl) (Nat.le_of_ble_eq_true rfl) ?_
    refine e_if_ne (tgt := 50) C dX3_change_45 (by decide) (fun c_45 => absurd (by decide) c_45) (fun c_45 => ?_)
    refine e_iconst (v := 0) C dX3_change_48 (by decide) ?_
    exact e_iret C rfl (Nat.le_of_ble_eq_true rfl) (Nat.le_of_ble_eq_true rfl) dX3_change_49 (pO.mk rfl)
set_option maxRecDepth 100000 in
set_option maxHeartbeats 4000000 in
theorem c_X3_change {l : Launch} (hl : l.stackTraces = false) {n : Nat} {ρ : Nat → Nat} {J : Nat → Int64} {M : Mem} {k : Nat} (hk : k < n) (hn : n ≤ 10) (hm : M 9 0 = nI n) {w : Int32} : CtO l yX3_change cX3_change 5 (some .int) 3 0 0 n ρ J M [.ref (ρ 9), .int (nI k), .int w] (omchange M k w) := by
  refine CtO.of hl (by decide +kernel) (Nat.le_of_ble_eq_true rfl) (fun Ξ hnL C => ?_)
  show E Ξ n ρ J M 0 0 0 [(0, .ref (ρ 9)), (1, .int (nI k)), (2, .int w)] []
  by_cases h : w < 1 ∨ 100000 < w
  · refine e_aload_n (j := 0) C dX3_change_0 rfl rfl ?_
    refine e_iload_n (j := 1) C dX3_change_1 rfl rfl ?_
    refine e_cV (i := 9) (nA := 1) (Cn := RX3) C (c_X3_isMiner hl hk hn hm) rfl (cnt_fix (by decide)) (fun _ => rfl) rfl rfl mw_213 mw_210 mw_211 mw_212 mw_5 (by decide +kernel) (by decide) rfl rfl (Nat.le_of_ble_eq_true rfl) dX3_change_2 (Nat.le_of_ble_eq_true rfl) (Nat.le_of_ble_eq_true rfl) ?_
    refine e_istore_n (ls2 := [(3, .int 1), (0, .ref (ρ 9)), (1, .int (nI k)), (2, .int w)]) C hnL dX3_change_5 rfl (by decide) rfl ?_
    refine e_aload_n (j := 1) C dX3_change_6 rfl rfl ?_
    refine e_iload_n (j := 0) C dX3_change_7 rfl rfl ?_
    refine e_iload_n (j := 3) C dX3_change_8 rfl rfl ?_
    refine e_iconst (v := 1) C dX3_change_9 (by decide) ?_
    refine e_ldc (v := 100000) C dX3_change_10 mw_534 ?_
    refine e_cS (nA := 3) C (c_X3_in0 hl h) rfl mw_216 mw_214 mw_215 mw_5 (by decide +kernel) (by decide) rfl rfl (Nat.le_of_ble_eq_true rfl) dX3_change_12 (Nat.le_of_ble_eq_true rfl) (Nat.le_of_ble_eq_true rfl) ?_
    refine e_iload_n (j := 0) C dX3_change_15 rfl rfl ?_
    refine e_if_eq (tgt := 41) C dX3_change_16 (by decide) (fun c_16 => absurd c_16 (by decide)) (fun c_16 => ?_)
    refine e_aload_n (j := 1) C dX3_change_19 rfl rfl ?_
    refine e_get3 (k := 1) (ref := "ScripHollowModel") C (by decide) rfl rfl mw_54 dX3_change_20 ?_
    refine e_iload_n (j := 2) C dX3_change_23 rfl rfl ?_
    refine e_zaldN k C (cnt_fix (by decide)) (fun _ => rfl) rfl (by omega) (by decide) dX3_change_24 ?_
    refine e_if_eq (tgt := 41) C dX3_change_25 (by decide) (fun c_25 => ?_) (fun c_25 => ?_)
    · refine e_iconst (v := 0) C dX3_change_41 (by decide) ?_
      refine e_cV (i := 9) (nA := 3) (Cn := RX3) C (c_X3_g2 hl) rfl (cnt_fix (by decide)) (fun _ => rfl) rfl rfl mw_162 mw_159 mw_160 mw_161 mw_5 (by decide +kernel) (by decide) rfl rfl (Nat.le_of_ble_eq_true rfl) dX3_change_42 (Nat.le_of_ble_eq_true rfl) (Nat.le_of_ble_eq_true rfl) ?_
      refine e_if_ne (tgt := 50) C dX3_change_45 (by decide) (fun c_45 => absurd (by decide) c_45) (fun c_45 => ?_)
      refine e_iconst (v := 0) C dX3_change_48 (by decide) ?_
      exact e_iret C rfl (Nat.le_of_ble_eq_true rfl) (Nat.le_of_ble_eq_true rfl) dX3_change_49 (pO.mk (by unfold omchange; rw [if_pos h]))
    · refine e_aload_n (j := 1) C dX3_change_28 rfl rfl ?_
      refine e_iload_n (j := 2) C dX3_change_29 rfl rfl ?_
      refine e_cV (i := 9) (nA := 1) (Cn := RX3) C (c_X3_scripOf hl (show k < 10 by omega)) rfl (cnt_fix (by decide)) (fun _ => rfl) rfl rfl mw_476 mw_473 mw_474 mw_475 mw_5 (by decide +kernel) (by decide) rfl rfl (Nat.le_of_ble_eq_true rfl) dX3_change_30 (Nat.le_of_ble_eq_true rfl) (Nat.le_of_ble_eq_true rfl) ?_
      refine e_iload_n (j := 3) C dX3_change_33 rfl rfl ?_
      refine e_icmp_lt (tgt := 41) C dX3_change_34 (by decide) (fun c_34 => ?_) (fun c_34 => ?_)
      · refine e_iconst (v := 0) C dX3_change_41 (by decide) ?_
        refine e_cV (i := 9) (nA := 3) (Cn := RX3) C (c_X3_g2 hl) rfl (cnt_fix (by decide)) (fun _ => rfl) rfl rfl mw_162 mw_159 mw_160 mw_161 mw_5 (by decide +kernel) (by decide) rfl rfl (Nat.le_of_ble_eq_true rfl) dX3_change_42 (Nat.le_of_ble_eq_true rfl) (Nat.le_of_ble_eq_true rfl) ?_
        refine e_if_ne (tgt := 50) C dX3_change_45 (by decide) (fun c_45 => absurd (by decide) c_45) (fun c_45 => ?_)
        refine e_iconst (v := 0) C dX3_change_48 (by decide) ?_
        exact e_iret C rfl (Nat.le_of_ble_eq_true rfl) (Nat.le_of_ble_eq_true rfl) dX3_change_49 (pO.mk (by unfold omchange; rw [if_pos h]))
      · refine e_iconst (v := 1) C dX3_change_37 (by decide) ?_
        refine e_goto (tgt := 42) C dX3_change_38 (by decide) ?_
        refine e_cV (i := 9) (nA := 3) (Cn := RX3) C (c_X3_g2 hl) rfl (cnt_fix (by decide)) (fun _ => rfl) rfl rfl mw_162 mw_159 mw_160 mw_161 mw_5 (by decide +kernel) (by decide) rfl rfl (Nat.le_of_ble_eq_true rfl) dX3_change_42 (Nat.le_of_ble_eq_true rfl) (Nat.le_of_ble_eq_true rfl) ?_
        refine e_if_ne (tgt := 50) C dX3_change_45 (by decide) (fun c_45 => absurd (by decide) c_45) (fun c_45 => ?_)
        refine e_iconst (v := 0) C dX3_change_48 (by decide) ?_
        exact e_iret C rfl (Nat.le_of_ble_eq_true rfl) (Nat.le_of_ble_eq_true rfl) dX3_change_49 (pO.mk (by unfold omchange; rw [if_pos h]))
  · refine e_aload_n (j := 0) C dX3_change_0 rfl rfl ?_
    refine e_iload_n (j := 1) C dX3_change_1 rfl rfl ?_
    refine e_cV (i := 9) (nA := 1) (Cn := RX3) C (c_X3_isMiner hl hk hn hm) rfl (cnt_fix (by decide)) (fun _ => rfl) rfl rfl mw_213 mw_210 mw_211 mw_212 mw_5 (by decide +kernel) (by decide) rfl rfl (Nat.le_of_ble_eq_true rfl) dX3_change_2 (Nat.le_of_ble_eq_true rfl) (Nat.le_of_ble_eq_true rfl) ?_
    refine e_istore_n (ls2 := [(3, .int 1), (0, .ref (ρ 9)), (1, .int (nI k)), (2, .int w)]) C hnL dX3_change_5 rfl (by decide) rfl ?_
    refine e_aload_n (j := 1) C dX3_change_6 rfl rfl ?_
    refine e_iload_n (j := 0) C dX3_change_7 rfl rfl ?_
    refine e_iload_n (j := 3) C dX3_change_8 rfl rfl ?_
    refine e_iconst (v := 1) C dX3_change_9 (by decide) ?_
    refine e_ldc (v := 100000) C dX3_change_10 mw_534 ?_
    refine e_cS (nA := 3) C (c_X3_in1 hl (rng_ok h).1 (rng_ok h).2) rfl mw_216 mw_214 mw_215 mw_5 (by decide +kernel) (by decide) rfl rfl (Nat.le_of_ble_eq_true rfl) dX3_change_12 (Nat.le_of_ble_eq_true rfl) (Nat.le_of_ble_eq_true rfl) ?_
    refine e_iload_n (j := 0) C dX3_change_15 rfl rfl ?_
    refine e_if_eq (tgt := 41) C dX3_change_16 (by decide) (fun c_16 => absurd c_16 (by decide)) (fun c_16 => ?_)
    refine e_aload_n (j := 1) C dX3_change_19 rfl rfl ?_
    refine e_get3 (k := 1) (ref := "ScripHollowModel") C (by decide) rfl rfl mw_54 dX3_change_20 ?_
    refine e_iload_n (j := 2) C dX3_change_23 rfl rfl ?_
    refine e_zaldN k C (cnt_fix (by decide)) (fun _ => rfl) rfl (by omega) (by decide) dX3_change_24 ?_
    refine e_if_eq (tgt := 41) C dX3_change_25 (by decide) (fun c_25 => ?_) (fun c_25 => ?_)
    · refine e_iconst (v := 0) C dX3_change_41 (by decide) ?_
      refine e_cV (i := 9) (nA := 3) (Cn := RX3) C (c_X3_g3 hl) rfl (cnt_fix (by decide)) (fun _ => rfl) rfl rfl mw_162 mw_159 mw_160 mw_161 mw_5 (by decide +kernel) (by decide) rfl rfl (Nat.le_of_ble_eq_true rfl) dX3_change_42 (Nat.le_of_ble_eq_true rfl) (Nat.le_of_ble_eq_true rfl) ?_
      refine e_if_ne (tgt := 50) C dX3_change_45 (by decide) (fun c_45 => absurd (by decide) c_45) (fun c_45 => ?_)
      refine e_iconst (v := 0) C dX3_change_48 (by decide) ?_
      exact e_iret C rfl (Nat.le_of_ble_eq_true rfl) (Nat.le_of_ble_eq_true rfl) dX3_change_49 (pO.mk (by (try subst ex4_77); unfold omchange; rw [if_neg h]; (repeat (first | rw [if_neg h] | rw [if_neg c_16] | rw [if_pos c_25] | rw [if_pos c_45])); (try rfl)))
    · refine e_aload_n (j := 1) C dX3_change_28 rfl rfl ?_
      refine e_iload_n (j := 2) C dX3_change_29 rfl rfl ?_
      refine e_cV (i := 9) (nA := 1) (Cn := RX3) C (c_X3_scripOf hl (show k < 10 by omega)) rfl (cnt_fix (by decide)) (fun _ => rfl) rfl rfl mw_476 mw_473 mw_474 mw_475 mw_5 (by decide +kernel) (by decide) rfl rfl (Nat.le_of_ble_eq_true rfl) dX3_change_30 (Nat.le_of_ble_eq_true rfl) (Nat.le_of_ble_eq_true rfl) ?_
      refine e_iload_n (j := 3) C dX3_change_33 rfl rfl ?_
      refine e_icmp_lt (tgt := 41) C dX3_change_34 (by decide) (fun c_34 => ?_) (fun c_34 => ?_)
      · refine e_iconst (v := 0) C dX3_change_41 (by decide) ?_
        refine e_cV (i := 9) (nA := 3) (Cn := RX3) C (c_X3_g3 hl) rfl (cnt_fix (by decide)) (fun _ => rfl) rfl rfl mw_162 mw_159 mw_160 mw_161 mw_5 (by decide +kernel) (by decide) rfl rfl (Nat.le_of_ble_eq_true rfl) dX3_change_42 (Nat.le_of_ble_eq_true rfl) (Nat.le_of_ble_eq_true rfl) ?_
        refine e_if_ne (tgt := 50) C dX3_change_45 (by decide) (fun c_45 => absurd (by decide) c_45) (fun c_45 => ?_)
        refine e_iconst (v := 0) C dX3_change_48 (by decide) ?_
        exact e_iret C rfl (Nat.le_of_ble_eq_true rfl) (Nat.le_of_ble_eq_true rfl) dX3_change_49 (pO.mk (by (try subst ex4_77); unfold omchange; rw [if_neg h]; (repeat (first | rw [if_neg h] | rw [if_neg c_16] | rw [if_neg c_25] | rw [if_pos c_34] | rw [if_pos c_45])); (try rfl)))
      · refine e_iconst (v := 1) C dX3_change_37 (by decide) ?_
        refine e_goto (tgt := 42) C dX3_change_38 (by decide) ?_
        refine e_cV (i := 9) (nA := 3) (Cn := RX3) C (c_X3_g0 hl) rfl (cnt_fix (by decide)) (fun _ => rfl) rfl rfl mw_162 mw_159 mw_160 mw_161 mw_5 (by decide +kernel) (by decide) rfl rfl (Nat.le_of_ble_eq_true rfl) dX3_change_42 (Nat.le_of_ble_eq_true rfl) (Nat.le_of_ble_eq_true rfl) ?_
        refine e_if_ne (tgt := 50) C dX3_change_45 (by decide) (fun c_45 => ?_) (fun c_45 => absurd c_45 (by decide))
        refine e_aload_n (j := 1) C dX3_change_50 rfl rfl ?_
        refine e_get3 (k := 17) (ref := "ScripHollowModel") C (by decide) rfl rfl mw_70 dX3_change_51 ?_
        refine e_iconst (v := 2) C dX3_change_54 (by decide) ?_
        refine e_dup2 C dX3_change_55 rfl rfl ?_
        refine e_ialdN 2 C (cnt_fix (by decide)) (fun _ => rfl) rfl (by decide) (by decide) dX3_change_56 ?_
        refine e_aload_n (j := 1) C dX3_change_57 rfl rfl ?_
        refine e_iload_n (j := 2) C dX3_change_58 rfl rfl ?_
        refine e_iload_n (j := 3) C dX3_change_59 rfl rfl ?_
        refine e_cV (i := 9) (nA := 2) (Cn := RX3) C (c_X3_takes hl (show k < 10 by omega)) rfl (cnt_fix (by decide)) (fun _ => rfl) rfl rfl mw_498 mw_495 mw_496 mw_497 mw_5 (by decide +kernel) (by decide) rfl rfl (Nat.le_of_ble_eq_true rfl) dX3_change_60 (Nat.le_of_ble_eq_true rfl) (Nat.le_of_ble_eq_true rfl) ?_
        refine e_iadd C dX3_change_63 ?_
        refine e_iastN 2 C (cnt_fix (by decide)) (fun _ _ => rfl) rfl (by decide) (by decide) dX3_change_64 ?_
        refine e_iload_n (j := 3) C dX3_change_65 rfl rfl ?_
        refine e_bipush (v := 100) C dX3_change_66 (by decide) ?_
        refine e_aload_n (j := 1) C dX3_change_68 rfl rfl ?_
        refine e_get3 (k := 23) (ref := "ScripHollowModel") C (by decide) rfl rfl mw_74 dX3_change_69 ?_
        refine e_isub C dX3_change_72 ?_
        refine e_imul C dX3_change_73 ?_
        refine e_bipush (v := 100) C dX3_change_74 (by decide) ?_
        refine e_idiv C dX3_change_76 (by decide) ?_
        refine e_topi (fun x4_77 ex4_77 => ?_)
        refine e_istore (ls2 := [(4, .int x4_77), (3, .int 1), (0, .ref (ρ 9)), (1, .int (nI k)), (2, .int w)]) C hnL dX3_change_77 (by decide) rfl ?_
        refine e_aload_n (j := 2) C dX3_change_79 rfl rfl ?_
        refine e_get3 (k := 5) (ref := "ScripHollowModel") C (by decide) rfl rfl mw_58 dX3_change_80 ?_
        refine e_iload_n (j := 3) C dX3_change_83 rfl rfl ?_
        refine e_dup2 C dX3_change_84 rfl rfl ?_
        refine e_ialdN k C (cnt_fix (by decide)) (fun _ => rfl) rfl (by omega) (by decide) dX3_change_85 ?_
        refine e_iload (j := 0) C dX3_change_86 rfl ?_
        refine e_iadd C dX3_change_88 ?_
        refine e_iastN k C (cnt_fix (by decide)) (fun _ _ => rfl) rfl (by omega) (by decide) dX3_change_89 ?_
        refine e_iload (j := 0) C dX3_change_90 rfl ?_
        exact e_iret C rfl (Nat.le_of_ble_eq_true rfl) (Nat.le_of_ble_eq_true rfl) dX3_change_92 (pO.mk (by (try subst ex4_77); unfold omchange; rw [if_neg h]; (repeat (first | rw [if_neg h] | rw [if_neg c_16] | rw [if_neg c_25] | rw [if_neg c_34] | rw [if_neg c_45])); (try rfl)))
set_option maxRecDepth 100000 in
set_option maxHeartbeats 4000000 in
theorem c_X3_law_x {l : Launch} (hl : l.stackTraces = false) {n : Nat} {ρ : Nat → Nat} {J : Nat → Int64} {M : Mem} {x z : Int32} (h : x < 0 ∨ 2 < x) : CtO l yX3_law cX3_law 4 (some .boolean) 3 0 0 n ρ J M [.ref (ρ 9), .int x, .int z] (mo M 1 0) := by
  refine CtO.of hl (by decide +kernel) (Nat.le_of_ble_eq_true rfl) (fun Ξ hnL C => ?_)
  show E Ξ n ρ J M 0 0 0 [(0, .ref (ρ 9)), (1, .int x), (2, .int z)] []
  refine e_aload_n (j := 0) C dX3_law_0 rfl rfl ?_
  refine e_iload_n (j := 1) C dX3_law_1 rfl rfl ?_
  refine e_iconst (v := 0) C dX3_law_2 (by decide) ?_
  refine e_iconst (v := 2) C dX3_law_3 (by decide) ?_
  refine e_cS (nA := 3) C (c_X3_in0 hl h) rfl mw_216 mw_214 mw_215 mw_5 (by decide +kernel) (by decide) rfl rfl (Nat.le_of_ble_eq_true rfl) dX3_law_4 (Nat.le_of_ble_eq_true rfl) (Nat.le_of_ble_eq_true rfl) ?_
  refine e_iconst (v := 1) C dX3_law_7 (by decide) ?_
  refine e_iconst (v := 1) C dX3_law_8 (by decide) ?_
  refine e_cV (i := 9) (nA := 3) (Cn := RX3) C (c_X3_g1 hl) rfl (cnt_fix (by decide)) (fun _ => rfl) rfl rfl mw_162 mw_159 mw_160 mw_161 mw_5 (by decide +kernel) (by decide) rfl rfl (Nat.le_of_ble_eq_true rfl) dX3_law_9 (Nat.le_of_ble_eq_true rfl) (Nat.le_of_ble_eq_true rfl) ?_
  refine e_if_ne (tgt := 17) C dX3_law_12 (by decide) (fun c_12 => absurd (by decide) c_12) (fun c_12 => ?_)
  refine e_iconst (v := 0) C dX3_law_15 (by decide) ?_
  exact e_zret C rfl rfl (Nat.le_of_ble_eq_true rfl) (Nat.le_of_ble_eq_true rfl) dX3_law_16 (pO.mk rfl)
set_option maxRecDepth 100000 in
set_option maxHeartbeats 4000000 in
theorem c_X3_law {l : Launch} (hl : l.stackTraces = false) {n : Nat} {ρ : Nat → Nat} {J : Nat → Int64} {M : Mem} {j : Nat} (hj : j < 3) {z : Int32} (hz : isB z) (hb : isB (ml M 0 25 j)) : CtO l yX3_law cX3_law 4 (some .boolean) 3 0 0 n ρ J M [.ref (ρ 9), .int (nI j), .int z] (rI (ml M 0 25 j) (up (ml M 0) 25 j z)) := by
  refine CtO.of hl (by decide +kernel) (Nat.le_of_ble_eq_true rfl) (fun Ξ hnL C => ?_)
  show E Ξ n ρ J M 0 0 0 [(0, .ref (ρ 9)), (1, .int (nI j)), (2, .int z)] []
  refine e_aload_n (j := 0) C dX3_law_0 rfl rfl ?_
  refine e_iload_n (j := 1) C dX3_law_1 rfl rfl ?_
  refine e_iconst (v := 0) C dX3_law_2 (by decide) ?_
  refine e_iconst (v := 2) C dX3_law_3 (by decide) ?_
  refine e_cS (nA := 3) C (c_X3_in1 hl (nI_pos (by omega)) (nI_le (b := 2) (by omega) (by omega))) rfl mw_216 mw_214 mw_215 mw_5 (by decide +kernel) (by decide) rfl rfl (Nat.le_of_ble_eq_true rfl) dX3_law_4 (Nat.le_of_ble_eq_true rfl) (Nat.le_of_ble_eq_true rfl) ?_
  refine e_iconst (v := 1) C dX3_law_7 (by decide) ?_
  refine e_iconst (v := 1) C dX3_law_8 (by decide) ?_
  refine e_cV (i := 9) (nA := 3) (Cn := RX3) C (c_X3_g0 hl) rfl (cnt_fix (by decide)) (fun _ => rfl) rfl rfl mw_162 mw_159 mw_160 mw_161 mw_5 (by decide +kernel) (by decide) rfl rfl (Nat.le_of_ble_eq_true rfl) dX3_law_9 (Nat.le_of_ble_eq_true rfl) (Nat.le_of_ble_eq_true rfl) ?_
  refine e_if_ne (tgt := 17) C dX3_law_12 (by decide) (fun c_12 => ?_) (fun c_12 => absurd c_12 (by decide))
  refine e_aload_n (j := 0) C dX3_law_17 rfl rfl ?_
  refine e_get3 (k := 16) (ref := "ScripHollowModel") C (by decide) rfl rfl mw_69 dX3_law_18 ?_
  refine e_iload_n (j := 1) C dX3_law_21 rfl rfl ?_
  refine e_zaldN j C (cnt_fix (by decide)) (fun _ => rfl) rfl (by omega) (by decide) dX3_law_22 ?_
  refine e_topi (fun x3_23 ex3_23 => ?_)
  refine e_istore_n (ls2 := [(3, .int x3_23), (0, .ref (ρ 9)), (1, .int (nI j)), (2, .int z)]) C hnL dX3_law_23 rfl (by decide) rfl ?_
  refine e_aload_n (j := 1) C dX3_law_24 rfl rfl ?_
  refine e_get3 (k := 16) (ref := "ScripHollowModel") C (by decide) rfl rfl mw_69 dX3_law_25 ?_
  refine e_iload_n (j := 2) C dX3_law_28 rfl rfl ?_
  refine e_iload_n (j := 3) C dX3_law_29 rfl rfl ?_
  refine e_zastN j C (cnt_fix (by decide)) (fun _ _ => rfl) rfl (by omega) (by decide) (by first | decide | exact isB.nr (by assumption)) dX3_law_30 ?_
  refine e_iload_n (j := 0) C dX3_law_31 rfl rfl ?_
  exact e_zret C rfl (isB.nar (by subst_vars; assumption)) (Nat.le_of_ble_eq_true rfl) (Nat.le_of_ble_eq_true rfl) dX3_law_32 (pO.mk (by subst_vars; rfl))
set_option maxRecDepth 100000 in
set_option maxHeartbeats 4000000 in
theorem c_X3_vote_x {l : Launch} (hl : l.stackTraces = false) {n : Nat} {ρ : Nat → Nat} {J : Nat → Int64} {M : Mem} {x : Int32} (h : x < 0 ∨ nI n ≤ x) (hn : n ≤ 10) (hm : M 9 0 = nI n) {z : Int32} : CtO l yX3_vote cX3_vote 4 (some .boolean) 3 0 0 n ρ J M [.ref (ρ 9), .int x, .int z] (mo M 1 0) := by
  refine CtO.of hl (by decide +kernel) (Nat.le_of_ble_eq_true rfl) (fun Ξ hnL C => ?_)
  show E Ξ n ρ J M 0 0 0 [(0, .ref (ρ 9)), (1, .int x), (2, .int z)] []
  refine e_aload_n (j := 0) C dX3_vote_0 rfl rfl ?_
  refine e_aload_n (j := 0) C dX3_vote_1 rfl rfl ?_
  refine e_iload_n (j := 1) C dX3_vote_2 rfl rfl ?_
  refine e_cV (i := 9) (nA := 1) (Cn := RX3) C (c_X3_isMiner_x hl h hn hm) rfl (cnt_fix (by decide)) (fun _ => rfl) rfl rfl mw_213 mw_210 mw_211 mw_212 mw_5 (by decide +kernel) (by decide) rfl rfl (Nat.le_of_ble_eq_true rfl) dX3_vote_3 (Nat.le_of_ble_eq_true rfl) (Nat.le_of_ble_eq_true rfl) ?_
  refine e_iconst (v := 1) C dX3_vote_6 (by decide) ?_
  refine e_iconst (v := 1) C dX3_vote_7 (by decide) ?_
  refine e_cV (i := 9) (nA := 3) (Cn := RX3) C (c_X3_g1 hl) rfl (cnt_fix (by decide)) (fun _ => rfl) rfl rfl mw_162 mw_159 mw_160 mw_161 mw_5 (by decide +kernel) (by decide) rfl rfl (Nat.le_of_ble_eq_true rfl) dX3_vote_8 (Nat.le_of_ble_eq_true rfl) (Nat.le_of_ble_eq_true rfl) ?_
  refine e_if_ne (tgt := 16) C dX3_vote_11 (by decide) (fun c_11 => absurd (by decide) c_11) (fun c_11 => ?_)
  refine e_iconst (v := 0) C dX3_vote_14 (by decide) ?_
  exact e_zret C rfl rfl (Nat.le_of_ble_eq_true rfl) (Nat.le_of_ble_eq_true rfl) dX3_vote_15 (pO.mk rfl)
set_option maxRecDepth 100000 in
set_option maxHeartbeats 4000000 in
theorem c_X3_vote {l : Launch} (hl : l.stackTraces = false) {n : Nat} {ρ : Nat → Nat} {J : Nat → Int64} {M : Mem} {k : Nat} (hk : k < n) (hn : n ≤ 10) (hm : M 9 0 = nI n) {z : Int32} (hz : isB z) (hb : isB (ml M 0 12 k)) : CtO l yX3_vote cX3_vote 4 (some .boolean) 3 0 0 n ρ J M [.ref (ρ 9), .int (nI k), .int z] (rI (ml M 0 12 k) (up (ml M 0) 12 k z)) := by
  refine CtO.of hl (by decide +kernel) (Nat.le_of_ble_eq_true rfl) (fun Ξ hnL C => ?_)
  show E Ξ n ρ J M 0 0 0 [(0, .ref (ρ 9)), (1, .int (nI k)), (2, .int z)] []
  refine e_aload_n (j := 0) C dX3_vote_0 rfl rfl ?_
  refine e_aload_n (j := 0) C dX3_vote_1 rfl rfl ?_
  refine e_iload_n (j := 1) C dX3_vote_2 rfl rfl ?_
  refine e_cV (i := 9) (nA := 1) (Cn := RX3) C (c_X3_isMiner hl hk hn hm) rfl (cnt_fix (by decide)) (fun _ => rfl) rfl rfl mw_213 mw_210 mw_211 mw_212 mw_5 (by decide +kernel) (by decide) rfl rfl (Nat.le_of_ble_eq_true rfl) dX3_vote_3 (Nat.le_of_ble_eq_true rfl) (Nat.le_of_ble_eq_true rfl) ?_
  refine e_iconst (v := 1) C dX3_vote_6 (by decide) ?_
  refine e_iconst (v := 1) C dX3_vote_7 (by decide) ?_
  refine e_cV (i := 9) (nA := 3) (Cn := RX3) C (c_X3_g0 hl) rfl (cnt_fix (by decide)) (fun _ => rfl) rfl rfl mw_162 mw_159 mw_160 mw_161 mw_5 (by decide +kernel) (by decide) rfl rfl (Nat.le_of_ble_eq_true rfl) dX3_vote_8 (Nat.le_of_ble_eq_true rfl) (Nat.le_of_ble_eq_true rfl) ?_
  refine e_if_ne (tgt := 16) C dX3_vote_11 (by decide) (fun c_11 => ?_) (fun c_11 => absurd c_11 (by decide))
  refine e_aload_n (j := 0) C dX3_vote_16 rfl rfl ?_
  refine e_get3 (k := 3) (ref := "ScripHollowModel") C (by decide) rfl rfl mw_56 dX3_vote_17 ?_
  refine e_iload_n (j := 1) C dX3_vote_20 rfl rfl ?_
  refine e_zaldN k C (cnt_fix (by decide)) (fun _ => rfl) rfl (by omega) (by decide) dX3_vote_21 ?_
  refine e_topi (fun x3_22 ex3_22 => ?_)
  refine e_istore_n (ls2 := [(3, .int x3_22), (0, .ref (ρ 9)), (1, .int (nI k)), (2, .int z)]) C hnL dX3_vote_22 rfl (by decide) rfl ?_
  refine e_aload_n (j := 1) C dX3_vote_23 rfl rfl ?_
  refine e_get3 (k := 3) (ref := "ScripHollowModel") C (by decide) rfl rfl mw_56 dX3_vote_24 ?_
  refine e_iload_n (j := 2) C dX3_vote_27 rfl rfl ?_
  refine e_iload_n (j := 3) C dX3_vote_28 rfl rfl ?_
  refine e_zastN k C (cnt_fix (by decide)) (fun _ _ => rfl) rfl (by omega) (by decide) (by first | decide | exact isB.nr (by assumption)) dX3_vote_29 ?_
  refine e_iload_n (j := 0) C dX3_vote_30 rfl rfl ?_
  exact e_zret C rfl (isB.nar (by subst_vars; assumption)) (Nat.le_of_ble_eq_true rfl) (Nat.le_of_ble_eq_true rfl) dX3_vote_31 (pO.mk (by subst_vars; rfl))
set_option maxRecDepth 100000 in
set_option maxHeartbeats 4000000 in
theorem c_X3_has_x {l : Launch} (hl : l.stackTraces = false) {n : Nat} {ρ : Nat → Nat} {J : Nat → Int64} {M : Mem} {x : Int32} (h : x < 0 ∨ nI n ≤ x) (hn : n ≤ 10) (hm : M 9 0 = nI n) {y : Int32} : CtO l yX3_has cX3_has 3 (some .int) 3 0 0 n ρ J M [.ref (ρ 9), .int x, .int y] (mo M 1 0) := by
  refine CtO.of hl (by decide +kernel) (Nat.le_of_ble_eq_true rfl) (fun Ξ hnL C => ?_)
  show E Ξ n ρ J M 0 0 0 [(0, .ref (ρ 9)), (1, .int x), (2, .int y)] []
  refine e_aload_n (j := 0) C dX3_has_0 rfl rfl ?_
  refine e_aload_n (j := 0) C dX3_has_1 rfl rfl ?_
  refine e_iload_n (j := 1) C dX3_has_2 rfl rfl ?_
  refine e_cV (i := 9) (nA := 1) (Cn := RX3) C (c_X3_isMiner_x hl h hn hm) rfl (cnt_fix (by decide)) (fun _ => rfl) rfl rfl mw_213 mw_210 mw_211 mw_212 mw_5 (by decide +kernel) (by decide) rfl rfl (Nat.le_of_ble_eq_true rfl) dX3_has_3 (Nat.le_of_ble_eq_true rfl) (Nat.le_of_ble_eq_true rfl) ?_
  refine e_if_eq (tgt := 20) C dX3_has_6 (by decide) (fun c_6 => ?_) (fun c_6 => absurd (by decide) c_6)
  refine e_iconst (v := 0) C dX3_has_20 (by decide) ?_
  refine e_iconst (v := 1) C dX3_has_21 (by decide) ?_
  refine e_iconst (v := 1) C dX3_has_22 (by decide) ?_
  refine e_cV (i := 9) (nA := 3) (Cn := RX3) C (c_X3_g1 hl) rfl (cnt_fix (by decide)) (fun _ => rfl) rfl rfl mw_162 mw_159 mw_160 mw_161 mw_5 (by decide +kernel) (by decide) rfl rfl (Nat.le_of_ble_eq_true rfl) dX3_has_23 (Nat.le_of_ble_eq_true rfl) (Nat.le_of_ble_eq_true rfl) ?_
  refine e_if_eq (tgt := 42) C dX3_has_26 (by decide) (fun c_26 => ?_) (fun c_26 => absurd (by decide) c_26)
  refine e_iconst (v := 0) C dX3_has_42 (by decide) ?_
  exact e_iret C rfl (Nat.le_of_ble_eq_true rfl) (Nat.le_of_ble_eq_true rfl) dX3_has_43 (pO.mk rfl)
set_option maxRecDepth 100000 in
set_option maxHeartbeats 4000000 in
theorem c_X3_has_g {l : Launch} (hl : l.stackTraces = false) {n : Nat} {ρ : Nat → Nat} {J : Nat → Int64} {M : Mem} {k : Nat} (hk : k < n) (hn : n ≤ 10) (hm : M 9 0 = nI n) {y : Int32} (h : y < 0 ∨ 4 ≤ y) : CtO l yX3_has cX3_has 3 (some .int) 3 0 0 n ρ J M [.ref (ρ 9), .int (nI k), .int y] (mo M 1 0) := by
  refine CtO.of hl (by decide +kernel) (Nat.le_of_ble_eq_true rfl) (fun Ξ hnL C => ?_)
  show E Ξ n ρ J M 0 0 0 [(0, .ref (ρ 9)), (1, .int (nI k)), (2, .int y)] []
  refine e_aload_n (j := 0) C dX3_has_0 rfl rfl ?_
  refine e_aload_n (j := 0) C dX3_has_1 rfl rfl ?_
  refine e_iload_n (j := 1) C dX3_has_2 rfl rfl ?_
  refine e_cV (i := 9) (nA := 1) (Cn := RX3) C (c_X3_isMiner hl hk hn hm) rfl (cnt_fix (by decide)) (fun _ => rfl) rfl rfl mw_213 mw_210 mw_211 mw_212 mw_5 (by decide +kernel) (by decide) rfl rfl (Nat.le_of_ble_eq_true rfl) dX3_has_3 (Nat.le_of_ble_eq_true rfl) (Nat.le_of_ble_eq_true rfl) ?_
  refine e_if_eq (tgt := 20) C dX3_has_6 (by decide) (fun c_6 => absurd c_6 (by decide)) (fun c_6 => ?_)
  refine e_iload_n (j := 2) C dX3_has_9 rfl rfl ?_
  refine e_cS (nA := 1) C (c_X3_isGoods_x hl h) rfl mw_409 mw_407 mw_408 mw_5 (by decide +kernel) (by decide) rfl rfl (Nat.le_of_ble_eq_true rfl) dX3_has_10 (Nat.le_of_ble_eq_true rfl) (Nat.le_of_ble_eq_true rfl) ?_
  refine e_if_eq (tgt := 20) C dX3_has_13 (by decide) (fun c_13 => ?_) (fun c_13 => absurd (by decide) c_13)
  refine e_iconst (v := 0) C dX3_has_20 (by decide) ?_
  refine e_iconst (v := 1) C dX3_has_21 (by decide) ?_
  refine e_iconst (v := 1) C dX3_has_22 (by decide) ?_
  refine e_cV (i := 9) (nA := 3) (Cn := RX3) C (c_X3_g1 hl) rfl (cnt_fix (by decide)) (fun _ => rfl) rfl rfl mw_162 mw_159 mw_160 mw_161 mw_5 (by decide +kernel) (by decide) rfl rfl (Nat.le_of_ble_eq_true rfl) dX3_has_23 (Nat.le_of_ble_eq_true rfl) (Nat.le_of_ble_eq_true rfl) ?_
  refine e_if_eq (tgt := 42) C dX3_has_26 (by decide) (fun c_26 => ?_) (fun c_26 => absurd (by decide) c_26)
  refine e_iconst (v := 0) C dX3_has_42 (by decide) ?_
  exact e_iret C rfl (Nat.le_of_ble_eq_true rfl) (Nat.le_of_ble_eq_true rfl) dX3_has_43 (pO.mk rfl)
set_option maxRecDepth 100000 in
set_option maxHeartbeats 4000000 in
theorem c_X3_has {l : Launch} (hl : l.stackTraces = false) {n : Nat} {ρ : Nat → Nat} {J : Nat → Int64} {M : Mem} {k : Nat} (hk : k < n) (hn : n ≤ 10) (hm : M 9 0 = nI n) {g : Nat} (hg : g < 4) : CtO l yX3_has cX3_has 3 (some .int) 3 0 0 n ρ J M [.ref (ρ 9), .int (nI k), .int (nI g)] (rI (ml M 0 21 (4 * k + g)) (ml M 0)) := by
  refine CtO.of hl (by decide +kernel) (Nat.le_of_ble_eq_true rfl) (fun Ξ hnL C => ?_)
  show E Ξ n ρ J M 0 0 0 [(0, .ref (ρ 9)), (1, .int (nI k)), (2, .int (nI g))] []
  refine e_aload_n (j := 0) C dX3_has_0 rfl rfl ?_
  refine e_aload_n (j := 0) C dX3_has_1 rfl rfl ?_
  refine e_iload_n (j := 1) C dX3_has_2 rfl rfl ?_
  refine e_cV (i := 9) (nA := 1) (Cn := RX3) C (c_X3_isMiner hl hk hn hm) rfl (cnt_fix (by decide)) (fun _ => rfl) rfl rfl mw_213 mw_210 mw_211 mw_212 mw_5 (by decide +kernel) (by decide) rfl rfl (Nat.le_of_ble_eq_true rfl) dX3_has_3 (Nat.le_of_ble_eq_true rfl) (Nat.le_of_ble_eq_true rfl) ?_
  refine e_if_eq (tgt := 20) C dX3_has_6 (by decide) (fun c_6 => absurd c_6 (by decide)) (fun c_6 => ?_)
  refine e_iload_n (j := 2) C dX3_has_9 rfl rfl ?_
  refine e_cS (nA := 1) C (c_X3_isGoods hl hg) rfl mw_409 mw_407 mw_408 mw_5 (by decide +kernel) (by decide) rfl rfl (Nat.le_of_ble_eq_true rfl) dX3_has_10 (Nat.le_of_ble_eq_true rfl) (Nat.le_of_ble_eq_true rfl) ?_
  refine e_if_eq (tgt := 20) C dX3_has_13 (by decide) (fun c_13 => absurd c_13 (by decide)) (fun c_13 => ?_)
  refine e_iconst (v := 1) C dX3_has_16 (by decide) ?_
  refine e_goto (tgt := 21) C dX3_has_17 (by decide) ?_
  refine e_iconst (v := 1) C dX3_has_21 (by decide) ?_
  refine e_iconst (v := 1) C dX3_has_22 (by decide) ?_
  refine e_cV (i := 9) (nA := 3) (Cn := RX3) C (c_X3_g0 hl) rfl (cnt_fix (by decide)) (fun _ => rfl) rfl rfl mw_162 mw_159 mw_160 mw_161 mw_5 (by decide +kernel) (by decide) rfl rfl (Nat.le_of_ble_eq_true rfl) dX3_has_23 (Nat.le_of_ble_eq_true rfl) (Nat.le_of_ble_eq_true rfl) ?_
  refine e_if_eq (tgt := 42) C dX3_has_26 (by decide) (fun c_26 => absurd c_26 (by decide)) (fun c_26 => ?_)
  refine e_aload_n (j := 0) C dX3_has_29 rfl rfl ?_
  refine e_get3 (k := 12) (ref := "ScripHollowModel") C (by decide) rfl rfl mw_65 dX3_has_30 ?_
  refine e_iconst (v := 4) C dX3_has_33 (by decide) ?_
  refine e_iload_n (j := 1) C dX3_has_34 rfl rfl ?_
  refine e_imul C dX3_has_35 ?_
  refine e_iload_n (j := 2) C dX3_has_36 rfl rfl ?_
  refine e_iadd C dX3_has_37 ?_
  refine e_ialdN (4 * k + g) C (cnt_fix (by decide)) (fun _ => rfl) (ix4k k g) (by omega) (by decide) dX3_has_38 ?_
  refine e_goto (tgt := 43) C dX3_has_39 (by decide) ?_
  exact e_iret C rfl (Nat.le_of_ble_eq_true rfl) (Nat.le_of_ble_eq_true rfl) dX3_has_43 (pO.mk rfl)
set_option maxRecDepth 100000 in
set_option maxHeartbeats 4000000 in
theorem c_X3_scrip_x {l : Launch} (hl : l.stackTraces = false) {n : Nat} {ρ : Nat → Nat} {J : Nat → Int64} {M : Mem} {x y : Int32} (h : x < 0 ∨ nI n ≤ x) (hn : n ≤ 10) (hm : M 9 0 = nI n) : CtO l yX3_scrip cX3_scrip 3 (some .int) 3 0 0 n ρ J M [.ref (ρ 9), .int x, .int y] (mo M 1 0) := by
  refine CtO.of hl (by decide +kernel) (Nat.le_of_ble_eq_true rfl) (fun Ξ hnL C => ?_)
  show E Ξ n ρ J M 0 0 0 [(0, .ref (ρ 9)), (1, .int x), (2, .int y)] []
  by_cases hw : y < 0 ∨ 39 < y
  · refine e_aload_n (j := 0) C dX3_scrip_0 rfl rfl ?_
    refine e_aload_n (j := 0) C dX3_scrip_1 rfl rfl ?_
    refine e_iload_n (j := 1) C dX3_scrip_2 rfl rfl ?_
    refine e_cV (i := 9) (nA := 1) (Cn := RX3) C (c_X3_isMiner_x hl h hn hm) rfl (cnt_fix (by decide)) (fun _ => rfl) rfl rfl mw_213 mw_210 mw_211 mw_212 mw_5 (by decide +kernel) (by decide) rfl rfl (Nat.le_of_ble_eq_true rfl) dX3_scrip_3 (Nat.le_of_ble_eq_true rfl) (Nat.le_of_ble_eq_true rfl) ?_
    refine e_iload_n (j := 2) C dX3_scrip_6 rfl rfl ?_
    refine e_iconst (v := 0) C dX3_scrip_7 (by decide) ?_
    refine e_bipush (v := 39) C dX3_scrip_8 (by decide) ?_
    refine e_cS (nA := 3) C (c_X3_in0 hl hw) rfl mw_216 mw_214 mw_215 mw_5 (by decide +kernel) (by decide) rfl rfl (Nat.le_of_ble_eq_true rfl) dX3_scrip_10 (Nat.le_of_ble_eq_true rfl) (Nat.le_of_ble_eq_true rfl) ?_
    refine e_iconst (v := 1) C dX3_scrip_13 (by decide) ?_
    refine e_cV (i := 9) (nA := 3) (Cn := RX3) C (c_X3_g1 hl) rfl (cnt_fix (by decide)) (fun _ => rfl) rfl rfl mw_162 mw_159 mw_160 mw_161 mw_5 (by decide +kernel) (by decide) rfl rfl (Nat.le_of_ble_eq_true rfl) dX3_scrip_14 (Nat.le_of_ble_eq_true rfl) (Nat.le_of_ble_eq_true rfl) ?_
    refine e_if_eq (tgt := 34) C dX3_scrip_17 (by decide) (fun c_17 => ?_) (fun c_17 => absurd (by decide) c_17)
    refine e_iconst (v := 0) C dX3_scrip_34 (by decide) ?_
    exact e_iret C rfl (Nat.le_of_ble_eq_true rfl) (Nat.le_of_ble_eq_true rfl) dX3_scrip_35 (pO.mk rfl)
  · refine e_aload_n (j := 0) C dX3_scrip_0 rfl rfl ?_
    refine e_aload_n (j := 0) C dX3_scrip_1 rfl rfl ?_
    refine e_iload_n (j := 1) C dX3_scrip_2 rfl rfl ?_
    refine e_cV (i := 9) (nA := 1) (Cn := RX3) C (c_X3_isMiner_x hl h hn hm) rfl (cnt_fix (by decide)) (fun _ => rfl) rfl rfl mw_213 mw_210 mw_211 mw_212 mw_5 (by decide +kernel) (by decide) rfl rfl (Nat.le_of_ble_eq_true rfl) dX3_scrip_3 (Nat.le_of_ble_eq_true rfl) (Nat.le_of_ble_eq_true rfl) ?_
    refine e_iload_n (j := 2) C dX3_scrip_6 rfl rfl ?_
    refine e_iconst (v := 0) C dX3_scrip_7 (by decide) ?_
    refine e_bipush (v := 39) C dX3_scrip_8 (by decide) ?_
    refine e_cS (nA := 3) C (c_X3_in1 hl (rng_ok hw).1 (rng_ok hw).2) rfl mw_216 mw_214 mw_215 mw_5 (by decide +kernel) (by decide) rfl rfl (Nat.le_of_ble_eq_true rfl) dX3_scrip_10 (Nat.le_of_ble_eq_true rfl) (Nat.le_of_ble_eq_true rfl) ?_
    refine e_iconst (v := 1) C dX3_scrip_13 (by decide) ?_
    refine e_cV (i := 9) (nA := 3) (Cn := RX3) C (c_X3_g1 hl) rfl (cnt_fix (by decide)) (fun _ => rfl) rfl rfl mw_162 mw_159 mw_160 mw_161 mw_5 (by decide +kernel) (by decide) rfl rfl (Nat.le_of_ble_eq_true rfl) dX3_scrip_14 (Nat.le_of_ble_eq_true rfl) (Nat.le_of_ble_eq_true rfl) ?_
    refine e_if_eq (tgt := 34) C dX3_scrip_17 (by decide) (fun c_17 => ?_) (fun c_17 => absurd (by decide) c_17)
    refine e_iconst (v := 0) C dX3_scrip_34 (by decide) ?_
    exact e_iret C rfl (Nat.le_of_ble_eq_true rfl) (Nat.le_of_ble_eq_true rfl) dX3_scrip_35 (pO.mk rfl)
set_option maxRecDepth 100000 in
set_option maxHeartbeats 4000000 in
theorem c_X3_scrip_g {l : Launch} (hl : l.stackTraces = false) {n : Nat} {ρ : Nat → Nat} {J : Nat → Int64} {M : Mem} {k : Nat} (hk : k < n) (hn : n ≤ 10) (hm : M 9 0 = nI n) {y : Int32} (h : y < 0 ∨ 39 < y) : CtO l yX3_scrip cX3_scrip 3 (some .int) 3 0 0 n ρ J M [.ref (ρ 9), .int (nI k), .int y] (mo M 2 0) := by
  refine CtO.of hl (by decide +kernel) (Nat.le_of_ble_eq_true rfl) (fun Ξ hnL C => ?_)
  show E Ξ n ρ J M 0 0 0 [(0, .ref (ρ 9)), (1, .int (nI k)), (2, .int y)] []
  refine e_aload_n (j := 0) C dX3_scrip_0 rfl rfl ?_
  refine e_aload_n (j := 0) C dX3_scrip_1 rfl rfl ?_
  refine e_iload_n (j := 1) C dX3_scrip_2 rfl rfl ?_
  refine e_cV (i := 9) (nA := 1) (Cn := RX3) C (c_X3_isMiner hl hk hn hm) rfl (cnt_fix (by decide)) (fun _ => rfl) rfl rfl mw_213 mw_210 mw_211 mw_212 mw_5 (by decide +kernel) (by decide) rfl rfl (Nat.le_of_ble_eq_true rfl) dX3_scrip_3 (Nat.le_of_ble_eq_true rfl) (Nat.le_of_ble_eq_true rfl) ?_
  refine e_iload_n (j := 2) C dX3_scrip_6 rfl rfl ?_
  refine e_iconst (v := 0) C dX3_scrip_7 (by decide) ?_
  refine e_bipush (v := 39) C dX3_scrip_8 (by decide) ?_
  refine e_cS (nA := 3) C (c_X3_in0 hl h) rfl mw_216 mw_214 mw_215 mw_5 (by decide +kernel) (by decide) rfl rfl (Nat.le_of_ble_eq_true rfl) dX3_scrip_10 (Nat.le_of_ble_eq_true rfl) (Nat.le_of_ble_eq_true rfl) ?_
  refine e_iconst (v := 1) C dX3_scrip_13 (by decide) ?_
  refine e_cV (i := 9) (nA := 3) (Cn := RX3) C (c_X3_g2 hl) rfl (cnt_fix (by decide)) (fun _ => rfl) rfl rfl mw_162 mw_159 mw_160 mw_161 mw_5 (by decide +kernel) (by decide) rfl rfl (Nat.le_of_ble_eq_true rfl) dX3_scrip_14 (Nat.le_of_ble_eq_true rfl) (Nat.le_of_ble_eq_true rfl) ?_
  refine e_if_eq (tgt := 34) C dX3_scrip_17 (by decide) (fun c_17 => ?_) (fun c_17 => absurd (by decide) c_17)
  refine e_iconst (v := 0) C dX3_scrip_34 (by decide) ?_
  exact e_iret C rfl (Nat.le_of_ble_eq_true rfl) (Nat.le_of_ble_eq_true rfl) dX3_scrip_35 (pO.mk rfl)
set_option maxRecDepth 100000 in
set_option maxHeartbeats 4000000 in
theorem c_X3_scrip {l : Launch} (hl : l.stackTraces = false) {n : Nat} {ρ : Nat → Nat} {J : Nat → Int64} {M : Mem} {k : Nat} (hk : k < n) (hn : n ≤ 10) (hm : M 9 0 = nI n) {j : Nat} (hj : j < 40) : CtO l yX3_scrip cX3_scrip 3 (some .int) 3 0 0 n ρ J M [.ref (ρ 9), .int (nI k), .int (nI j)] (rI (ml M 0 20 (40 * k + j)) (ml M 0)) := by
  refine CtO.of hl (by decide +kernel) (Nat.le_of_ble_eq_true rfl) (fun Ξ hnL C => ?_)
  show E Ξ n ρ J M 0 0 0 [(0, .ref (ρ 9)), (1, .int (nI k)), (2, .int (nI j))] []
  refine e_aload_n (j := 0) C dX3_scrip_0 rfl rfl ?_
  refine e_aload_n (j := 0) C dX3_scrip_1 rfl rfl ?_
  refine e_iload_n (j := 1) C dX3_scrip_2 rfl rfl ?_
  refine e_cV (i := 9) (nA := 1) (Cn := RX3) C (c_X3_isMiner hl hk hn hm) rfl (cnt_fix (by decide)) (fun _ => rfl) rfl rfl mw_213 mw_210 mw_211 mw_212 mw_5 (by decide +kernel) (by decide) rfl rfl (Nat.le_of_ble_eq_true rfl) dX3_scrip_3 (Nat.le_of_ble_eq_true rfl) (Nat.le_of_ble_eq_true rfl) ?_
  refine e_iload_n (j := 2) C dX3_scrip_6 rfl rfl ?_
  refine e_iconst (v := 0) C dX3_scrip_7 (by decide) ?_
  refine e_bipush (v := 39) C dX3_scrip_8 (by decide) ?_
  refine e_cS (nA := 3) C (c_X3_in1 hl (nI_pos (by omega)) (nI_le (b := 39) (by omega) (by omega))) rfl mw_216 mw_214 mw_215 mw_5 (by decide +kernel) (by decide) rfl rfl (Nat.le_of_ble_eq_true rfl) dX3_scrip_10 (Nat.le_of_ble_eq_true rfl) (Nat.le_of_ble_eq_true rfl) ?_
  refine e_iconst (v := 1) C dX3_scrip_13 (by decide) ?_
  refine e_cV (i := 9) (nA := 3) (Cn := RX3) C (c_X3_g0 hl) rfl (cnt_fix (by decide)) (fun _ => rfl) rfl rfl mw_162 mw_159 mw_160 mw_161 mw_5 (by decide +kernel) (by decide) rfl rfl (Nat.le_of_ble_eq_true rfl) dX3_scrip_14 (Nat.le_of_ble_eq_true rfl) (Nat.le_of_ble_eq_true rfl) ?_
  refine e_if_eq (tgt := 34) C dX3_scrip_17 (by decide) (fun c_17 => absurd c_17 (by decide)) (fun c_17 => ?_)
  refine e_aload_n (j := 0) C dX3_scrip_20 rfl rfl ?_
  refine e_get3 (k := 11) (ref := "ScripHollowModel") C (by decide) rfl rfl mw_64 dX3_scrip_21 ?_
  refine e_bipush (v := 40) C dX3_scrip_24 (by decide) ?_
  refine e_iload_n (j := 1) C dX3_scrip_26 rfl rfl ?_
  refine e_imul C dX3_scrip_27 ?_
  refine e_iload_n (j := 2) C dX3_scrip_28 rfl rfl ?_
  refine e_iadd C dX3_scrip_29 ?_
  refine e_ialdN (40 * k + j) C (cnt_fix (by decide)) (fun _ => rfl) (ix40 k j) (by omega) (by decide) dX3_scrip_30 ?_
  refine e_goto (tgt := 35) C dX3_scrip_31 (by decide) ?_
  exact e_iret C rfl (Nat.le_of_ble_eq_true rfl) (Nat.le_of_ble_eq_true rfl) dX3_scrip_35 (pO.mk rfl)
set_option maxRecDepth 100000 in
set_option maxHeartbeats 4000000 in
theorem c_X3_scripAnew_x {l : Launch} (hl : l.stackTraces = false) {n : Nat} {ρ : Nat → Nat} {J : Nat → Int64} {M : Mem} {x : Int32} (h : x < 0 ∨ nI n ≤ x) (hn : n ≤ 10) (hm : M 9 0 = nI n) : CtO l yX3_scripAnew cX3_scripAnew 2 (some .int) 3 0 0 n ρ J M [.ref (ρ 9), .int x] (mo M 1 0) := by
  refine CtO.of hl (by decide +kernel) (Nat.le_of_ble_eq_true rfl) (fun Ξ hnL C => ?_)
  show E Ξ n ρ J M 0 0 0 [(0, .ref (ρ 9)), (1, .int x)] []
  refine e_aload_n (j := 0) C dX3_scripAnew_0 rfl rfl ?_
  refine e_aload_n (j := 0) C dX3_scripAnew_1 rfl rfl ?_
  refine e_iload_n (j := 1) C dX3_scripAnew_2 rfl rfl ?_
  refine e_cV (i := 9) (nA := 1) (Cn := RX3) C (c_X3_isMiner_x hl h hn hm) rfl (cnt_fix (by decide)) (fun _ => rfl) rfl rfl mw_213 mw_210 mw_211 mw_212 mw_5 (by decide +kernel) (by decide) rfl rfl (Nat.le_of_ble_eq_true rfl) dX3_scripAnew_3 (Nat.le_of_ble_eq_true rfl) (Nat.le_of_ble_eq_true rfl) ?_
  refine e_iconst (v := 1) C dX3_scripAnew_6 (by decide) ?_
  refine e_iconst (v := 1) C dX3_scripAnew_7 (by decide) ?_
  refine e_cV (i := 9) (nA := 3) (Cn := RX3) C (c_X3_g1 hl) rfl (cnt_fix (by decide)) (fun _ => rfl) rfl rfl mw_162 mw_159 mw_160 mw_161 mw_5 (by decide +kernel) (by decide) rfl rfl (Nat.le_of_ble_eq_true rfl) dX3_scripAnew_8 (Nat.le_of_ble_eq_true rfl) (Nat.le_of_ble_eq_true rfl) ?_
  refine e_if_eq (tgt := 22) C dX3_scripAnew_11 (by decide) (fun c_11 => ?_) (fun c_11 => absurd (by decide) c_11)
  refine e_iconst (v := 0) C dX3_scripAnew_22 (by decide) ?_
  exact e_iret C rfl (Nat.le_of_ble_eq_true rfl) (Nat.le_of_ble_eq_true rfl) dX3_scripAnew_23 (pO.mk rfl)
set_option maxRecDepth 100000 in
set_option maxHeartbeats 4000000 in
theorem c_X3_scripAnew {l : Launch} (hl : l.stackTraces = false) {n : Nat} {ρ : Nat → Nat} {J : Nat → Int64} {M : Mem} {k : Nat} (hk : k < n) (hn : n ≤ 10) (hm : M 9 0 = nI n) : CtO l yX3_scripAnew cX3_scripAnew 2 (some .int) 3 0 0 n ρ J M [.ref (ρ 9), .int (nI k)] (rI (smM (ml M 0) k 40) (ml M 0)) := by
  refine CtO.of hl (by decide +kernel) (Nat.le_of_ble_eq_true rfl) (fun Ξ hnL C => ?_)
  show E Ξ n ρ J M 0 0 0 [(0, .ref (ρ 9)), (1, .int (nI k))] []
  refine e_aload_n (j := 0) C dX3_scripAnew_0 rfl rfl ?_
  refine e_aload_n (j := 0) C dX3_scripAnew_1 rfl rfl ?_
  refine e_iload_n (j := 1) C dX3_scripAnew_2 rfl rfl ?_
  refine e_cV (i := 9) (nA := 1) (Cn := RX3) C (c_X3_isMiner hl hk hn hm) rfl (cnt_fix (by decide)) (fun _ => rfl) rfl rfl mw_213 mw_210 mw_211 mw_212 mw_5 (by decide +kernel) (by decide) rfl rfl (Nat.le_of_ble_eq_true rfl) dX3_scripAnew_3 (Nat.le_of_ble_eq_true rfl) (Nat.le_of_ble_eq_true rfl) ?_
  refine e_iconst (v := 1) C dX3_scripAnew_6 (by decide) ?_
  refine e_iconst (v := 1) C dX3_scripAnew_7 (by decide) ?_
  refine e_cV (i := 9) (nA := 3) (Cn := RX3) C (c_X3_g0 hl) rfl (cnt_fix (by decide)) (fun _ => rfl) rfl rfl mw_162 mw_159 mw_160 mw_161 mw_5 (by decide +kernel) (by decide) rfl rfl (Nat.le_of_ble_eq_true rfl) dX3_scripAnew_8 (Nat.le_of_ble_eq_true rfl) (Nat.le_of_ble_eq_true rfl) ?_
  refine e_if_eq (tgt := 22) C dX3_scripAnew_11 (by decide) (fun c_11 => absurd c_11 (by decide)) (fun c_11 => ?_)
  refine e_aload_n (j := 0) C dX3_scripAnew_14 rfl rfl ?_
  refine e_iload_n (j := 1) C dX3_scripAnew_15 rfl rfl ?_
  refine e_cV (i := 9) (nA := 1) (Cn := RX3) C (c_X3_scripOf hl (show k < 10 by omega)) rfl (cnt_fix (by decide)) (fun _ => rfl) rfl rfl mw_476 mw_473 mw_474 mw_475 mw_5 (by decide +kernel) (by decide) rfl rfl (Nat.le_of_ble_eq_true rfl) dX3_scripAnew_16 (Nat.le_of_ble_eq_true rfl) (Nat.le_of_ble_eq_true rfl) ?_
  refine e_goto (tgt := 23) C dX3_scripAnew_19 (by decide) ?_
  exact e_iret C rfl (Nat.le_of_ble_eq_true rfl) (Nat.le_of_ble_eq_true rfl) dX3_scripAnew_23 (pO.mk rfl)
set_option maxRecDepth 100000 in
set_option maxHeartbeats 4000000 in
theorem c_X3_books_x {l : Launch} (hl : l.stackTraces = false) {n : Nat} {ρ : Nat → Nat} {J : Nat → Int64} {M : Mem} {x : Int32} (h : x < 0 ∨ 5 < x) : CtO l yX3_books cX3_books 2 (some .int) 3 0 0 n ρ J M [.ref (ρ 9), .int x] (mo M 1 0) := by
  refine CtO.of hl (by decide +kernel) (Nat.le_of_ble_eq_true rfl) (fun Ξ hnL C => ?_)
  show E Ξ n ρ J M 0 0 0 [(0, .ref (ρ 9)), (1, .int x)] []
  refine e_aload_n (j := 0) C dX3_books_0 rfl rfl ?_
  refine e_iload_n (j := 1) C dX3_books_1 rfl rfl ?_
  refine e_iconst (v := 0) C dX3_books_2 (by decide) ?_
  refine e_iconst (v := 5) C dX3_books_3 (by decide) ?_
  refine e_cS (nA := 3) C (c_X3_in0 hl h) rfl mw_216 mw_214 mw_215 mw_5 (by decide +kernel) (by decide) rfl rfl (Nat.le_of_ble_eq_true rfl) dX3_books_4 (Nat.le_of_ble_eq_true rfl) (Nat.le_of_ble_eq_true rfl) ?_
  refine e_iconst (v := 1) C dX3_books_7 (by decide) ?_
  refine e_iconst (v := 1) C dX3_books_8 (by decide) ?_
  refine e_cV (i := 9) (nA := 3) (Cn := RX3) C (c_X3_g1 hl) rfl (cnt_fix (by decide)) (fun _ => rfl) rfl rfl mw_162 mw_159 mw_160 mw_161 mw_5 (by decide +kernel) (by decide) rfl rfl (Nat.le_of_ble_eq_true rfl) dX3_books_9 (Nat.le_of_ble_eq_true rfl) (Nat.le_of_ble_eq_true rfl) ?_
  refine e_if_eq (tgt := 24) C dX3_books_12 (by decide) (fun c_12 => ?_) (fun c_12 => absurd (by decide) c_12)
  refine e_iconst (v := 0) C dX3_books_24 (by decide) ?_
  exact e_iret C rfl (Nat.le_of_ble_eq_true rfl) (Nat.le_of_ble_eq_true rfl) dX3_books_25 (pO.mk rfl)
set_option maxRecDepth 100000 in
set_option maxHeartbeats 4000000 in
theorem c_X3_books {l : Launch} (hl : l.stackTraces = false) {n : Nat} {ρ : Nat → Nat} {J : Nat → Int64} {M : Mem} {j : Nat} (hj : j < 6) : CtO l yX3_books cX3_books 2 (some .int) 3 0 0 n ρ J M [.ref (ρ 9), .int (nI j)] (rI (ml M 0 26 j) (ml M 0)) := by
  refine CtO.of hl (by decide +kernel) (Nat.le_of_ble_eq_true rfl) (fun Ξ hnL C => ?_)
  show E Ξ n ρ J M 0 0 0 [(0, .ref (ρ 9)), (1, .int (nI j))] []
  refine e_aload_n (j := 0) C dX3_books_0 rfl rfl ?_
  refine e_iload_n (j := 1) C dX3_books_1 rfl rfl ?_
  refine e_iconst (v := 0) C dX3_books_2 (by decide) ?_
  refine e_iconst (v := 5) C dX3_books_3 (by decide) ?_
  refine e_cS (nA := 3) C (c_X3_in1 hl (nI_pos (by omega)) (nI_le (b := 5) (by omega) (by omega))) rfl mw_216 mw_214 mw_215 mw_5 (by decide +kernel) (by decide) rfl rfl (Nat.le_of_ble_eq_true rfl) dX3_books_4 (Nat.le_of_ble_eq_true rfl) (Nat.le_of_ble_eq_true rfl) ?_
  refine e_iconst (v := 1) C dX3_books_7 (by decide) ?_
  refine e_iconst (v := 1) C dX3_books_8 (by decide) ?_
  refine e_cV (i := 9) (nA := 3) (Cn := RX3) C (c_X3_g0 hl) rfl (cnt_fix (by decide)) (fun _ => rfl) rfl rfl mw_162 mw_159 mw_160 mw_161 mw_5 (by decide +kernel) (by decide) rfl rfl (Nat.le_of_ble_eq_true rfl) dX3_books_9 (Nat.le_of_ble_eq_true rfl) (Nat.le_of_ble_eq_true rfl) ?_
  refine e_if_eq (tgt := 24) C dX3_books_12 (by decide) (fun c_12 => absurd c_12 (by decide)) (fun c_12 => ?_)
  refine e_aload_n (j := 0) C dX3_books_15 rfl rfl ?_
  refine e_get3 (k := 17) (ref := "ScripHollowModel") C (by decide) rfl rfl mw_70 dX3_books_16 ?_
  refine e_iload_n (j := 1) C dX3_books_19 rfl rfl ?_
  refine e_ialdN j C (cnt_fix (by decide)) (fun _ => rfl) rfl (by omega) (by decide) dX3_books_20 ?_
  refine e_goto (tgt := 25) C dX3_books_21 (by decide) ?_
  exact e_iret C rfl (Nat.le_of_ble_eq_true rfl) (Nat.le_of_ble_eq_true rfl) dX3_books_25 (pO.mk rfl)
def omab (M : Mem) (k : Nat) : Nat → Int32
  | 0 => if M 10 k = 0 then 0 else 1
  | 1 => M 13 k
  | 2 => M 14 k
  | 3 => smM M k 40
  | 4 => M 15 k
  | 5 => M 16 k
  | 6 => if M 11 k = 0 then 0 else 1
  | 7 => M 17 k
  | 8 => M 18 k
  | _ => M 19 k
theorem in9 {y : Int32} (h : y.toInt < 0 ∨ 9 < y.toInt) : y < 0 ∨ 9 < y := h.elim (fun z => Or.inl (Int32.lt_iff_toInt_lt.mpr z)) (fun z => Or.inr (Int32.lt_iff_toInt_lt.mpr z))
set_option maxRecDepth 100000 in
set_option maxHeartbeats 4000000 in
theorem c_X3_about_x {l : Launch} (hl : l.stackTraces = false) {n : Nat} {ρ : Nat → Nat} {J : Nat → Int64} {M : Mem} {x y : Int32} (h : x < 0 ∨ nI n ≤ x) (hn : n ≤ 10) (hm : M 9 0 = nI n) : CtO l yX3_about cX3_about 3 (some .int) 3 0 0 n ρ J M [.ref (ρ 9), .int x, .int y] (mo M 1 0) := by
  refine CtO.of hl (by decide +kernel) (Nat.le_of_ble_eq_true rfl) (fun Ξ hnL C => ?_)
  show E Ξ n ρ J M 0 0 0 [(0, .ref (ρ 9)), (1, .int x), (2, .int y)] []
  by_cases hw : y < 0 ∨ 9 < y
  · refine e_aload_n (j := 0) C dX3_about_0 rfl rfl ?_
    refine e_aload_n (j := 0) C dX3_about_1 rfl rfl ?_
    refine e_iload_n (j := 1) C dX3_about_2 rfl rfl ?_
    refine e_cV (i := 9) (nA := 1) (Cn := RX3) C (c_X3_isMiner_x hl h hn hm) rfl (cnt_fix (by decide)) (fun _ => rfl) rfl rfl mw_213 mw_210 mw_211 mw_212 mw_5 (by decide +kernel) (by decide) rfl rfl (Nat.le_of_ble_eq_true rfl) dX3_about_3 (Nat.le_of_ble_eq_true rfl) (Nat.le_of_ble_eq_true rfl) ?_
    refine e_iload_n (j := 2) C dX3_about_6 rfl rfl ?_
    refine e_iconst (v := 0) C dX3_about_7 (by decide) ?_
    refine e_bipush (v := 9) C dX3_about_8 (by decide) ?_
    refine e_cS (nA := 3) C (c_X3_in0 hl hw) rfl mw_216 mw_214 mw_215 mw_5 (by decide +kernel) (by decide) rfl rfl (Nat.le_of_ble_eq_true rfl) dX3_about_10 (Nat.le_of_ble_eq_true rfl) (Nat.le_of_ble_eq_true rfl) ?_
    refine e_iconst (v := 1) C dX3_about_13 (by decide) ?_
    refine e_cV (i := 9) (nA := 3) (Cn := RX3) C (c_X3_g1 hl) rfl (cnt_fix (by decide)) (fun _ => rfl) rfl rfl mw_162 mw_159 mw_160 mw_161 mw_5 (by decide +kernel) (by decide) rfl rfl (Nat.le_of_ble_eq_true rfl) dX3_about_14 (Nat.le_of_ble_eq_true rfl) (Nat.le_of_ble_eq_true rfl) ?_
    refine e_if_ne (tgt := 22) C dX3_about_17 (by decide) (fun c_17 => absurd (by decide) c_17) (fun c_17 => ?_)
    refine e_iconst (v := 0) C dX3_about_20 (by decide) ?_
    exact e_iret C rfl (Nat.le_of_ble_eq_true rfl) (Nat.le_of_ble_eq_true rfl) dX3_about_21 (pO.mk rfl)
  · refine e_aload_n (j := 0) C dX3_about_0 rfl rfl ?_
    refine e_aload_n (j := 0) C dX3_about_1 rfl rfl ?_
    refine e_iload_n (j := 1) C dX3_about_2 rfl rfl ?_
    refine e_cV (i := 9) (nA := 1) (Cn := RX3) C (c_X3_isMiner_x hl h hn hm) rfl (cnt_fix (by decide)) (fun _ => rfl) rfl rfl mw_213 mw_210 mw_211 mw_212 mw_5 (by decide +kernel) (by decide) rfl rfl (Nat.le_of_ble_eq_true rfl) dX3_about_3 (Nat.le_of_ble_eq_true rfl) (Nat.le_of_ble_eq_true rfl) ?_
    refine e_iload_n (j := 2) C dX3_about_6 rfl rfl ?_
    refine e_iconst (v := 0) C dX3_about_7 (by decide) ?_
    refine e_bipush (v := 9) C dX3_about_8 (by decide) ?_
    refine e_cS (nA := 3) C (c_X3_in1 hl (rng_ok hw).1 (rng_ok hw).2) rfl mw_216 mw_214 mw_215 mw_5 (by decide +kernel) (by decide) rfl rfl (Nat.le_of_ble_eq_true rfl) dX3_about_10 (Nat.le_of_ble_eq_true rfl) (Nat.le_of_ble_eq_true rfl) ?_
    refine e_iconst (v := 1) C dX3_about_13 (by decide) ?_
    refine e_cV (i := 9) (nA := 3) (Cn := RX3) C (c_X3_g1 hl) rfl (cnt_fix (by decide)) (fun _ => rfl) rfl rfl mw_162 mw_159 mw_160 mw_161 mw_5 (by decide +kernel) (by decide) rfl rfl (Nat.le_of_ble_eq_true rfl) dX3_about_14 (Nat.le_of_ble_eq_true rfl) (Nat.le_of_ble_eq_true rfl) ?_
    refine e_if_ne (tgt := 22) C dX3_about_17 (by decide) (fun c_17 => absurd (by decide) c_17) (fun c_17 => ?_)
    refine e_iconst (v := 0) C dX3_about_20 (by decide) ?_
    exact e_iret C rfl (Nat.le_of_ble_eq_true rfl) (Nat.le_of_ble_eq_true rfl) dX3_about_21 (pO.mk rfl)
set_option maxRecDepth 100000 in
set_option maxHeartbeats 4000000 in
theorem c_X3_about_y {l : Launch} (hl : l.stackTraces = false) {n : Nat} {ρ : Nat → Nat} {J : Nat → Int64} {M : Mem} {k : Nat} (hk : k < n) (hn : n ≤ 10) (hm : M 9 0 = nI n) {y : Int32} (h : y.toInt < 0 ∨ 9 < y.toInt) : CtO l yX3_about cX3_about 3 (some .int) 3 0 0 n ρ J M [.ref (ρ 9), .int (nI k), .int y] (mo M 2 0) := by
  refine CtO.of hl (by decide +kernel) (Nat.le_of_ble_eq_true rfl) (fun Ξ hnL C => ?_)
  show E Ξ n ρ J M 0 0 0 [(0, .ref (ρ 9)), (1, .int (nI k)), (2, .int y)] []
  refine e_aload_n (j := 0) C dX3_about_0 rfl rfl ?_
  refine e_aload_n (j := 0) C dX3_about_1 rfl rfl ?_
  refine e_iload_n (j := 1) C dX3_about_2 rfl rfl ?_
  refine e_cV (i := 9) (nA := 1) (Cn := RX3) C (c_X3_isMiner hl hk hn hm) rfl (cnt_fix (by decide)) (fun _ => rfl) rfl rfl mw_213 mw_210 mw_211 mw_212 mw_5 (by decide +kernel) (by decide) rfl rfl (Nat.le_of_ble_eq_true rfl) dX3_about_3 (Nat.le_of_ble_eq_true rfl) (Nat.le_of_ble_eq_true rfl) ?_
  refine e_iload_n (j := 2) C dX3_about_6 rfl rfl ?_
  refine e_iconst (v := 0) C dX3_about_7 (by decide) ?_
  refine e_bipush (v := 9) C dX3_about_8 (by decide) ?_
  refine e_cS (nA := 3) C (c_X3_in0 hl (in9 h)) rfl mw_216 mw_214 mw_215 mw_5 (by decide +kernel) (by decide) rfl rfl (Nat.le_of_ble_eq_true rfl) dX3_about_10 (Nat.le_of_ble_eq_true rfl) (Nat.le_of_ble_eq_true rfl) ?_
  refine e_iconst (v := 1) C dX3_about_13 (by decide) ?_
  refine e_cV (i := 9) (nA := 3) (Cn := RX3) C (c_X3_g2 hl) rfl (cnt_fix (by decide)) (fun _ => rfl) rfl rfl mw_162 mw_159 mw_160 mw_161 mw_5 (by decide +kernel) (by decide) rfl rfl (Nat.le_of_ble_eq_true rfl) dX3_about_14 (Nat.le_of_ble_eq_true rfl) (Nat.le_of_ble_eq_true rfl) ?_
  refine e_if_ne (tgt := 22) C dX3_about_17 (by decide) (fun c_17 => absurd (by decide) c_17) (fun c_17 => ?_)
  refine e_iconst (v := 0) C dX3_about_20 (by decide) ?_
  exact e_iret C rfl (Nat.le_of_ble_eq_true rfl) (Nat.le_of_ble_eq_true rfl) dX3_about_21 (pO.mk rfl)
set_option maxRecDepth 100000 in
set_option maxHeartbeats 4000000 in
theorem c_X3_about_0 {l : Launch} (hl : l.stackTraces = false) {n : Nat} {ρ : Nat → Nat} {J : Nat → Int64} {M : Mem} {k : Nat} (hk : k < n) (hn : n ≤ 10) (hm : M 9 0 = nI n) : CtO l yX3_about cX3_about 3 (some .int) 3 0 0 n ρ J M [.ref (ρ 9), .int (nI k), .int 0] (rI (omab (ml M 0) k 0) (ml M 0)) := by
  refine CtO.of hl (by decide +kernel) (Nat.le_of_ble_eq_true rfl) (fun Ξ hnL C => ?_)
  show E Ξ n ρ J M 0 0 0 [(0, .ref (ρ 9)), (1, .int (nI k)), (2, .int 0)] []
  refine e_aload_n (j := 0) C dX3_about_0 rfl rfl ?_
  refine e_aload_n (j := 0) C dX3_about_1 rfl rfl ?_
  refine e_iload_n (j := 1) C dX3_about_2 rfl rfl ?_
  refine e_cV (i := 9) (nA := 1) (Cn := RX3) C (c_X3_isMiner hl hk hn hm) rfl (cnt_fix (by decide)) (fun _ => rfl) rfl rfl mw_213 mw_210 mw_211 mw_212 mw_5 (by decide +kernel) (by decide) rfl rfl (Nat.le_of_ble_eq_true rfl) dX3_about_3 (Nat.le_of_ble_eq_true rfl) (Nat.le_of_ble_eq_true rfl) ?_
  refine e_iload_n (j := 2) C dX3_about_6 rfl rfl ?_
  refine e_iconst (v := 0) C dX3_about_7 (by decide) ?_
  refine e_bipush (v := 9) C dX3_about_8 (by decide) ?_
  refine e_cS (nA := 3) C (c_X3_in1 hl (by decide) (by decide)) rfl mw_216 mw_214 mw_215 mw_5 (by decide +kernel) (by decide) rfl rfl (Nat.le_of_ble_eq_true rfl) dX3_about_10 (Nat.le_of_ble_eq_true rfl) (Nat.le_of_ble_eq_true rfl) ?_
  refine e_iconst (v := 1) C dX3_about_13 (by decide) ?_
  refine e_cV (i := 9) (nA := 3) (Cn := RX3) C (c_X3_g0 hl) rfl (cnt_fix (by decide)) (fun _ => rfl) rfl rfl mw_162 mw_159 mw_160 mw_161 mw_5 (by decide +kernel) (by decide) rfl rfl (Nat.le_of_ble_eq_true rfl) dX3_about_14 (Nat.le_of_ble_eq_true rfl) (Nat.le_of_ble_eq_true rfl) ?_
  refine e_if_ne (tgt := 22) C dX3_about_17 (by decide) (fun c_17 => ?_) (fun c_17 => absurd c_17 (by decide))
  refine e_iload_n (j := 2) C dX3_about_22 rfl rfl ?_
  refine e_tswI (tgt := 72) (off := 49) C dX3_about_23 (by decide) (by decide) (by decide) (by decide) ?_
  refine e_aload_n (j := 0) C dX3_about_72 rfl rfl ?_
  refine e_get3 (k := 1) (ref := "ScripHollowModel") C (by decide) rfl rfl mw_54 dX3_about_73 ?_
  refine e_iload_n (j := 1) C dX3_about_76 rfl rfl ?_
  refine e_zaldN k C (cnt_fix (by decide)) (fun _ => rfl) rfl (by omega) (by decide) dX3_about_77 ?_
  refine e_if_eq (tgt := 85) C dX3_about_78 (by decide) (fun c_78 => ?_) (fun c_78 => ?_)
  · refine e_iconst (v := 0) C dX3_about_85 (by decide) ?_
    exact e_iret C rfl (Nat.le_of_ble_eq_true rfl) (Nat.le_of_ble_eq_true rfl) dX3_about_86 (pO.mk (by show rI (if ml M 0 10 k = 0 then 0 else 1) (ml M 0) = _; (repeat (first | rw [if_neg c_17] | rw [if_pos c_78]))))
  · refine e_iconst (v := 1) C dX3_about_81 (by decide) ?_
    refine e_goto (tgt := 86) C dX3_about_82 (by decide) ?_
    exact e_iret C rfl (Nat.le_of_ble_eq_true rfl) (Nat.le_of_ble_eq_true rfl) dX3_about_86 (pO.mk (by show rI (if ml M 0 10 k = 0 then 0 else 1) (ml M 0) = _; (repeat (first | rw [if_neg c_17] | rw [if_neg c_78]))))
set_option maxRecDepth 100000 in
set_option maxHeartbeats 4000000 in
theorem c_X3_about_1 {l : Launch} (hl : l.stackTraces = false) {n : Nat} {ρ : Nat → Nat} {J : Nat → Int64} {M : Mem} {k : Nat} (hk : k < n) (hn : n ≤ 10) (hm : M 9 0 = nI n) : CtO l yX3_about cX3_about 3 (some .int) 3 0 0 n ρ J M [.ref (ρ 9), .int (nI k), .int 1] (rI (omab (ml M 0) k 1) (ml M 0)) := by
  refine CtO.of hl (by decide +kernel) (Nat.le_of_ble_eq_true rfl) (fun Ξ hnL C => ?_)
  show E Ξ n ρ J M 0 0 0 [(0, .ref (ρ 9)), (1, .int (nI k)), (2, .int 1)] []
  refine e_aload_n (j := 0) C dX3_about_0 rfl rfl ?_
  refine e_aload_n (j := 0) C dX3_about_1 rfl rfl ?_
  refine e_iload_n (j := 1) C dX3_about_2 rfl rfl ?_
  refine e_cV (i := 9) (nA := 1) (Cn := RX3) C (c_X3_isMiner hl hk hn hm) rfl (cnt_fix (by decide)) (fun _ => rfl) rfl rfl mw_213 mw_210 mw_211 mw_212 mw_5 (by decide +kernel) (by decide) rfl rfl (Nat.le_of_ble_eq_true rfl) dX3_about_3 (Nat.le_of_ble_eq_true rfl) (Nat.le_of_ble_eq_true rfl) ?_
  refine e_iload_n (j := 2) C dX3_about_6 rfl rfl ?_
  refine e_iconst (v := 0) C dX3_about_7 (by decide) ?_
  refine e_bipush (v := 9) C dX3_about_8 (by decide) ?_
  refine e_cS (nA := 3) C (c_X3_in1 hl (by decide) (by decide)) rfl mw_216 mw_214 mw_215 mw_5 (by decide +kernel) (by decide) rfl rfl (Nat.le_of_ble_eq_true rfl) dX3_about_10 (Nat.le_of_ble_eq_true rfl) (Nat.le_of_ble_eq_true rfl) ?_
  refine e_iconst (v := 1) C dX3_about_13 (by decide) ?_
  refine e_cV (i := 9) (nA := 3) (Cn := RX3) C (c_X3_g0 hl) rfl (cnt_fix (by decide)) (fun _ => rfl) rfl rfl mw_162 mw_159 mw_160 mw_161 mw_5 (by decide +kernel) (by decide) rfl rfl (Nat.le_of_ble_eq_true rfl) dX3_about_14 (Nat.le_of_ble_eq_true rfl) (Nat.le_of_ble_eq_true rfl) ?_
  refine e_if_ne (tgt := 22) C dX3_about_17 (by decide) (fun c_17 => ?_) (fun c_17 => absurd c_17 (by decide))
  refine e_iload_n (j := 2) C dX3_about_22 rfl rfl ?_
  refine e_tswI (tgt := 87) (off := 64) C dX3_about_23 (by decide) (by decide) (by decide) (by decide) ?_
  refine e_aload_n (j := 0) C dX3_about_87 rfl rfl ?_
  refine e_get3 (k := 4) (ref := "ScripHollowModel") C (by decide) rfl rfl mw_57 dX3_about_88 ?_
  refine e_iload_n (j := 1) C dX3_about_91 rfl rfl ?_
  refine e_ialdN k C (cnt_fix (by decide)) (fun _ => rfl) rfl (by omega) (by decide) dX3_about_92 ?_
  exact e_iret C rfl (Nat.le_of_ble_eq_true rfl) (Nat.le_of_ble_eq_true rfl) dX3_about_93 (pO.mk rfl)
set_option maxRecDepth 100000 in
set_option maxHeartbeats 4000000 in
theorem c_X3_about_2 {l : Launch} (hl : l.stackTraces = false) {n : Nat} {ρ : Nat → Nat} {J : Nat → Int64} {M : Mem} {k : Nat} (hk : k < n) (hn : n ≤ 10) (hm : M 9 0 = nI n) : CtO l yX3_about cX3_about 3 (some .int) 3 0 0 n ρ J M [.ref (ρ 9), .int (nI k), .int 2] (rI (omab (ml M 0) k 2) (ml M 0)) := by
  refine CtO.of hl (by decide +kernel) (Nat.le_of_ble_eq_true rfl) (fun Ξ hnL C => ?_)
  show E Ξ n ρ J M 0 0 0 [(0, .ref (ρ 9)), (1, .int (nI k)), (2, .int 2)] []
  refine e_aload_n (j := 0) C dX3_about_0 rfl rfl ?_
  refine e_aload_n (j := 0) C dX3_about_1 rfl rfl ?_
  refine e_iload_n (j := 1) C dX3_about_2 rfl rfl ?_
  refine e_cV (i := 9) (nA := 1) (Cn := RX3) C (c_X3_isMiner hl hk hn hm) rfl (cnt_fix (by decide)) (fun _ => rfl) rfl rfl mw_213 mw_210 mw_211 mw_212 mw_5 (by decide +kernel) (by decide) rfl rfl (Nat.le_of_ble_eq_true rfl) dX3_about_3 (Nat.le_of_ble_eq_true rfl) (Nat.le_of_ble_eq_true rfl) ?_
  refine e_iload_n (j := 2) C dX3_about_6 rfl rfl ?_
  refine e_iconst (v := 0) C dX3_about_7 (by decide) ?_
  refine e_bipush (v := 9) C dX3_about_8 (by decide) ?_
  refine e_cS (nA := 3) C (c_X3_in1 hl (by decide) (by decide)) rfl mw_216 mw_214 mw_215 mw_5 (by decide +kernel) (by decide) rfl rfl (Nat.le_of_ble_eq_true rfl) dX3_about_10 (Nat.le_of_ble_eq_true rfl) (Nat.le_of_ble_eq_true rfl) ?_
  refine e_iconst (v := 1) C dX3_about_13 (by decide) ?_
  refine e_cV (i := 9) (nA := 3) (Cn := RX3) C (c_X3_g0 hl) rfl (cnt_fix (by decide)) (fun _ => rfl) rfl rfl mw_162 mw_159 mw_160 mw_161 mw_5 (by decide +kernel) (by decide) rfl rfl (Nat.le_of_ble_eq_true rfl) dX3_about_14 (Nat.le_of_ble_eq_true rfl) (Nat.le_of_ble_eq_true rfl) ?_
  refine e_if_ne (tgt := 22) C dX3_about_17 (by decide) (fun c_17 => ?_) (fun c_17 => absurd c_17 (by decide))
  refine e_iload_n (j := 2) C dX3_about_22 rfl rfl ?_
  refine e_tswI (tgt := 94) (off := 71) C dX3_about_23 (by decide) (by decide) (by decide) (by decide) ?_
  refine e_aload_n (j := 0) C dX3_about_94 rfl rfl ?_
  refine e_get3 (k := 5) (ref := "ScripHollowModel") C (by decide) rfl rfl mw_58 dX3_about_95 ?_
  refine e_iload_n (j := 1) C dX3_about_98 rfl rfl ?_
  refine e_ialdN k C (cnt_fix (by decide)) (fun _ => rfl) rfl (by omega) (by decide) dX3_about_99 ?_
  exact e_iret C rfl (Nat.le_of_ble_eq_true rfl) (Nat.le_of_ble_eq_true rfl) dX3_about_100 (pO.mk rfl)
set_option maxRecDepth 100000 in
set_option maxHeartbeats 4000000 in
theorem c_X3_about_3 {l : Launch} (hl : l.stackTraces = false) {n : Nat} {ρ : Nat → Nat} {J : Nat → Int64} {M : Mem} {k : Nat} (hk : k < n) (hn : n ≤ 10) (hm : M 9 0 = nI n) : CtO l yX3_about cX3_about 3 (some .int) 3 0 0 n ρ J M [.ref (ρ 9), .int (nI k), .int 3] (rI (omab (ml M 0) k 3) (ml M 0)) := by
  refine CtO.of hl (by decide +kernel) (Nat.le_of_ble_eq_true rfl) (fun Ξ hnL C => ?_)
  show E Ξ n ρ J M 0 0 0 [(0, .ref (ρ 9)), (1, .int (nI k)), (2, .int 3)] []
  refine e_aload_n (j := 0) C dX3_about_0 rfl rfl ?_
  refine e_aload_n (j := 0) C dX3_about_1 rfl rfl ?_
  refine e_iload_n (j := 1) C dX3_about_2 rfl rfl ?_
  refine e_cV (i := 9) (nA := 1) (Cn := RX3) C (c_X3_isMiner hl hk hn hm) rfl (cnt_fix (by decide)) (fun _ => rfl) rfl rfl mw_213 mw_210 mw_211 mw_212 mw_5 (by decide +kernel) (by decide) rfl rfl (Nat.le_of_ble_eq_true rfl) dX3_about_3 (Nat.le_of_ble_eq_true rfl) (Nat.le_of_ble_eq_true rfl) ?_
  refine e_iload_n (j := 2) C dX3_about_6 rfl rfl ?_
  refine e_iconst (v := 0) C dX3_about_7 (by decide) ?_
  refine e_bipush (v := 9) C dX3_about_8 (by decide) ?_
  refine e_cS (nA := 3) C (c_X3_in1 hl (by decide) (by decide)) rfl mw_216 mw_214 mw_215 mw_5 (by decide +kernel) (by decide) rfl rfl (Nat.le_of_ble_eq_true rfl) dX3_about_10 (Nat.le_of_ble_eq_true rfl) (Nat.le_of_ble_eq_true rfl) ?_
  refine e_iconst (v := 1) C dX3_about_13 (by decide) ?_
  refine e_cV (i := 9) (nA := 3) (Cn := RX3) C (c_X3_g0 hl) rfl (cnt_fix (by decide)) (fun _ => rfl) rfl rfl mw_162 mw_159 mw_160 mw_161 mw_5 (by decide +kernel) (by decide) rfl rfl (Nat.le_of_ble_eq_true rfl) dX3_about_14 (Nat.le_of_ble_eq_true rfl) (Nat.le_of_ble_eq_true rfl) ?_
  refine e_if_ne (tgt := 22) C dX3_about_17 (by decide) (fun c_17 => ?_) (fun c_17 => absurd c_17 (by decide))
  refine e_iload_n (j := 2) C dX3_about_22 rfl rfl ?_
  refine e_tswI (tgt := 101) (off := 78) C dX3_about_23 (by decide) (by decide) (by decide) (by decide) ?_
  refine e_aload_n (j := 0) C dX3_about_101 rfl rfl ?_
  refine e_iload_n (j := 1) C dX3_about_102 rfl rfl ?_
  refine e_cV (i := 9) (nA := 1) (Cn := RX3) C (c_X3_scripOf hl (show k < 10 by omega)) rfl (cnt_fix (by decide)) (fun _ => rfl) rfl rfl mw_476 mw_473 mw_474 mw_475 mw_5 (by decide +kernel) (by decide) rfl rfl (Nat.le_of_ble_eq_true rfl) dX3_about_103 (Nat.le_of_ble_eq_true rfl) (Nat.le_of_ble_eq_true rfl) ?_
  exact e_iret C rfl (Nat.le_of_ble_eq_true rfl) (Nat.le_of_ble_eq_true rfl) dX3_about_106 (pO.mk rfl)
set_option maxRecDepth 100000 in
set_option maxHeartbeats 4000000 in
theorem c_X3_about_4 {l : Launch} (hl : l.stackTraces = false) {n : Nat} {ρ : Nat → Nat} {J : Nat → Int64} {M : Mem} {k : Nat} (hk : k < n) (hn : n ≤ 10) (hm : M 9 0 = nI n) : CtO l yX3_about cX3_about 3 (some .int) 3 0 0 n ρ J M [.ref (ρ 9), .int (nI k), .int 4] (rI (omab (ml M 0) k 4) (ml M 0)) := by
  refine CtO.of hl (by decide +kernel) (Nat.le_of_ble_eq_true rfl) (fun Ξ hnL C => ?_)
  show E Ξ n ρ J M 0 0 0 [(0, .ref (ρ 9)), (1, .int (nI k)), (2, .int 4)] []
  refine e_aload_n (j := 0) C dX3_about_0 rfl rfl ?_
  refine e_aload_n (j := 0) C dX3_about_1 rfl rfl ?_
  refine e_iload_n (j := 1) C dX3_about_2 rfl rfl ?_
  refine e_cV (i := 9) (nA := 1) (Cn := RX3) C (c_X3_isMiner hl hk hn hm) rfl (cnt_fix (by decide)) (fun _ => rfl) rfl rfl mw_213 mw_210 mw_211 mw_212 mw_5 (by decide +kernel) (by decide) rfl rfl (Nat.le_of_ble_eq_true rfl) dX3_about_3 (Nat.le_of_ble_eq_true rfl) (Nat.le_of_ble_eq_true rfl) ?_
  refine e_iload_n (j := 2) C dX3_about_6 rfl rfl ?_
  refine e_iconst (v := 0) C dX3_about_7 (by decide) ?_
  refine e_bipush (v := 9) C dX3_about_8 (by decide) ?_
  refine e_cS (nA := 3) C (c_X3_in1 hl (by decide) (by decide)) rfl mw_216 mw_214 mw_215 mw_5 (by decide +kernel) (by decide) rfl rfl (Nat.le_of_ble_eq_true rfl) dX3_about_10 (Nat.le_of_ble_eq_true rfl) (Nat.le_of_ble_eq_true rfl) ?_
  refine e_iconst (v := 1) C dX3_about_13 (by decide) ?_
  refine e_cV (i := 9) (nA := 3) (Cn := RX3) C (c_X3_g0 hl) rfl (cnt_fix (by decide)) (fun _ => rfl) rfl rfl mw_162 mw_159 mw_160 mw_161 mw_5 (by decide +kernel) (by decide) rfl rfl (Nat.le_of_ble_eq_true rfl) dX3_about_14 (Nat.le_of_ble_eq_true rfl) (Nat.le_of_ble_eq_true rfl) ?_
  refine e_if_ne (tgt := 22) C dX3_about_17 (by decide) (fun c_17 => ?_) (fun c_17 => absurd c_17 (by decide))
  refine e_iload_n (j := 2) C dX3_about_22 rfl rfl ?_
  refine e_tswI (tgt := 107) (off := 84) C dX3_about_23 (by decide) (by decide) (by decide) (by decide) ?_
  refine e_aload_n (j := 0) C dX3_about_107 rfl rfl ?_
  refine e_get3 (k := 6) (ref := "ScripHollowModel") C (by decide) rfl rfl mw_59 dX3_about_108 ?_
  refine e_iload_n (j := 1) C dX3_about_111 rfl rfl ?_
  refine e_ialdN k C (cnt_fix (by decide)) (fun _ => rfl) rfl (by omega) (by decide) dX3_about_112 ?_
  exact e_iret C rfl (Nat.le_of_ble_eq_true rfl) (Nat.le_of_ble_eq_true rfl) dX3_about_113 (pO.mk rfl)
set_option maxRecDepth 100000 in
set_option maxHeartbeats 4000000 in
theorem c_X3_about_5 {l : Launch} (hl : l.stackTraces = false) {n : Nat} {ρ : Nat → Nat} {J : Nat → Int64} {M : Mem} {k : Nat} (hk : k < n) (hn : n ≤ 10) (hm : M 9 0 = nI n) : CtO l yX3_about cX3_about 3 (some .int) 3 0 0 n ρ J M [.ref (ρ 9), .int (nI k), .int 5] (rI (omab (ml M 0) k 5) (ml M 0)) := by
  refine CtO.of hl (by decide +kernel) (Nat.le_of_ble_eq_true rfl) (fun Ξ hnL C => ?_)
  show E Ξ n ρ J M 0 0 0 [(0, .ref (ρ 9)), (1, .int (nI k)), (2, .int 5)] []
  refine e_aload_n (j := 0) C dX3_about_0 rfl rfl ?_
  refine e_aload_n (j := 0) C dX3_about_1 rfl rfl ?_
  refine e_iload_n (j := 1) C dX3_about_2 rfl rfl ?_
  refine e_cV (i := 9) (nA := 1) (Cn := RX3) C (c_X3_isMiner hl hk hn hm) rfl (cnt_fix (by decide)) (fun _ => rfl) rfl rfl mw_213 mw_210 mw_211 mw_212 mw_5 (by decide +kernel) (by decide) rfl rfl (Nat.le_of_ble_eq_true rfl) dX3_about_3 (Nat.le_of_ble_eq_true rfl) (Nat.le_of_ble_eq_true rfl) ?_
  refine e_iload_n (j := 2) C dX3_about_6 rfl rfl ?_
  refine e_iconst (v := 0) C dX3_about_7 (by decide) ?_
  refine e_bipush (v := 9) C dX3_about_8 (by decide) ?_
  refine e_cS (nA := 3) C (c_X3_in1 hl (by decide) (by decide)) rfl mw_216 mw_214 mw_215 mw_5 (by decide +kernel) (by decide) rfl rfl (Nat.le_of_ble_eq_true rfl) dX3_about_10 (Nat.le_of_ble_eq_true rfl) (Nat.le_of_ble_eq_true rfl) ?_
  refine e_iconst (v := 1) C dX3_about_13 (by decide) ?_
  refine e_cV (i := 9) (nA := 3) (Cn := RX3) C (c_X3_g0 hl) rfl (cnt_fix (by decide)) (fun _ => rfl) rfl rfl mw_162 mw_159 mw_160 mw_161 mw_5 (by decide +kernel) (by decide) rfl rfl (Nat.le_of_ble_eq_true rfl) dX3_about_14 (Nat.le_of_ble_eq_true rfl) (Nat.le_of_ble_eq_true rfl) ?_
  refine e_if_ne (tgt := 22) C dX3_about_17 (by decide) (fun c_17 => ?_) (fun c_17 => absurd c_17 (by decide))
  refine e_iload_n (j := 2) C dX3_about_22 rfl rfl ?_
  refine e_tswI (tgt := 114) (off := 91) C dX3_about_23 (by decide) (by decide) (by decide) (by decide) ?_
  refine e_aload_n (j := 0) C dX3_about_114 rfl rfl ?_
  refine e_get3 (k := 7) (ref := "ScripHollowModel") C (by decide) rfl rfl mw_60 dX3_about_115 ?_
  refine e_iload_n (j := 1) C dX3_about_118 rfl rfl ?_
  refine e_ialdN k C (cnt_fix (by decide)) (fun _ => rfl) rfl (by omega) (by decide) dX3_about_119 ?_
  exact e_iret C rfl (Nat.le_of_ble_eq_true rfl) (Nat.le_of_ble_eq_true rfl) dX3_about_120 (pO.mk rfl)
set_option maxRecDepth 100000 in
set_option maxHeartbeats 4000000 in
theorem c_X3_about_6 {l : Launch} (hl : l.stackTraces = false) {n : Nat} {ρ : Nat → Nat} {J : Nat → Int64} {M : Mem} {k : Nat} (hk : k < n) (hn : n ≤ 10) (hm : M 9 0 = nI n) : CtO l yX3_about cX3_about 3 (some .int) 3 0 0 n ρ J M [.ref (ρ 9), .int (nI k), .int 6] (rI (omab (ml M 0) k 6) (ml M 0)) := by
  refine CtO.of hl (by decide +kernel) (Nat.le_of_ble_eq_true rfl) (fun Ξ hnL C => ?_)
  show E Ξ n ρ J M 0 0 0 [(0, .ref (ρ 9)), (1, .int (nI k)), (2, .int 6)] []
  refine e_aload_n (j := 0) C dX3_about_0 rfl rfl ?_
  refine e_aload_n (j := 0) C dX3_about_1 rfl rfl ?_
  refine e_iload_n (j := 1) C dX3_about_2 rfl rfl ?_
  refine e_cV (i := 9) (nA := 1) (Cn := RX3) C (c_X3_isMiner hl hk hn hm) rfl (cnt_fix (by decide)) (fun _ => rfl) rfl rfl mw_213 mw_210 mw_211 mw_212 mw_5 (by decide +kernel) (by decide) rfl rfl (Nat.le_of_ble_eq_true rfl) dX3_about_3 (Nat.le_of_ble_eq_true rfl) (Nat.le_of_ble_eq_true rfl) ?_
  refine e_iload_n (j := 2) C dX3_about_6 rfl rfl ?_
  refine e_iconst (v := 0) C dX3_about_7 (by decide) ?_
  refine e_bipush (v := 9) C dX3_about_8 (by decide) ?_
  refine e_cS (nA := 3) C (c_X3_in1 hl (by decide) (by decide)) rfl mw_216 mw_214 mw_215 mw_5 (by decide +kernel) (by decide) rfl rfl (Nat.le_of_ble_eq_true rfl) dX3_about_10 (Nat.le_of_ble_eq_true rfl) (Nat.le_of_ble_eq_true rfl) ?_
  refine e_iconst (v := 1) C dX3_about_13 (by decide) ?_
  refine e_cV (i := 9) (nA := 3) (Cn := RX3) C (c_X3_g0 hl) rfl (cnt_fix (by decide)) (fun _ => rfl) rfl rfl mw_162 mw_159 mw_160 mw_161 mw_5 (by decide +kernel) (by decide) rfl rfl (Nat.le_of_ble_eq_true rfl) dX3_about_14 (Nat.le_of_ble_eq_true rfl) (Nat.le_of_ble_eq_true rfl) ?_
  refine e_if_ne (tgt := 22) C dX3_about_17 (by decide) (fun c_17 => ?_) (fun c_17 => absurd c_17 (by decide))
  refine e_iload_n (j := 2) C dX3_about_22 rfl rfl ?_
  refine e_tswI (tgt := 121) (off := 98) C dX3_about_23 (by decide) (by decide) (by decide) (by decide) ?_
  refine e_aload_n (j := 0) C dX3_about_121 rfl rfl ?_
  refine e_get3 (k := 2) (ref := "ScripHollowModel") C (by decide) rfl rfl mw_55 dX3_about_122 ?_
  refine e_iload_n (j := 1) C dX3_about_125 rfl rfl ?_
  refine e_zaldN k C (cnt_fix (by decide)) (fun _ => rfl) rfl (by omega) (by decide) dX3_about_126 ?_
  refine e_if_eq (tgt := 134) C dX3_about_127 (by decide) (fun c_127 => ?_) (fun c_127 => ?_)
  · refine e_iconst (v := 0) C dX3_about_134 (by decide) ?_
    exact e_iret C rfl (Nat.le_of_ble_eq_true rfl) (Nat.le_of_ble_eq_true rfl) dX3_about_135 (pO.mk (by show rI (if ml M 0 11 k = 0 then 0 else 1) (ml M 0) = _; (repeat (first | rw [if_neg c_17] | rw [if_pos c_127]))))
  · refine e_iconst (v := 1) C dX3_about_130 (by decide) ?_
    refine e_goto (tgt := 135) C dX3_about_131 (by decide) ?_
    exact e_iret C rfl (Nat.le_of_ble_eq_true rfl) (Nat.le_of_ble_eq_true rfl) dX3_about_135 (pO.mk (by show rI (if ml M 0 11 k = 0 then 0 else 1) (ml M 0) = _; (repeat (first | rw [if_neg c_17] | rw [if_neg c_127]))))
set_option maxRecDepth 100000 in
set_option maxHeartbeats 4000000 in
theorem c_X3_about_7 {l : Launch} (hl : l.stackTraces = false) {n : Nat} {ρ : Nat → Nat} {J : Nat → Int64} {M : Mem} {k : Nat} (hk : k < n) (hn : n ≤ 10) (hm : M 9 0 = nI n) : CtO l yX3_about cX3_about 3 (some .int) 3 0 0 n ρ J M [.ref (ρ 9), .int (nI k), .int 7] (rI (omab (ml M 0) k 7) (ml M 0)) := by
  refine CtO.of hl (by decide +kernel) (Nat.le_of_ble_eq_true rfl) (fun Ξ hnL C => ?_)
  show E Ξ n ρ J M 0 0 0 [(0, .ref (ρ 9)), (1, .int (nI k)), (2, .int 7)] []
  refine e_aload_n (j := 0) C dX3_about_0 rfl rfl ?_
  refine e_aload_n (j := 0) C dX3_about_1 rfl rfl ?_
  refine e_iload_n (j := 1) C dX3_about_2 rfl rfl ?_
  refine e_cV (i := 9) (nA := 1) (Cn := RX3) C (c_X3_isMiner hl hk hn hm) rfl (cnt_fix (by decide)) (fun _ => rfl) rfl rfl mw_213 mw_210 mw_211 mw_212 mw_5 (by decide +kernel) (by decide) rfl rfl (Nat.le_of_ble_eq_true rfl) dX3_about_3 (Nat.le_of_ble_eq_true rfl) (Nat.le_of_ble_eq_true rfl) ?_
  refine e_iload_n (j := 2) C dX3_about_6 rfl rfl ?_
  refine e_iconst (v := 0) C dX3_about_7 (by decide) ?_
  refine e_bipush (v := 9) C dX3_about_8 (by decide) ?_
  refine e_cS (nA := 3) C (c_X3_in1 hl (by decide) (by decide)) rfl mw_216 mw_214 mw_215 mw_5 (by decide +kernel) (by decide) rfl rfl (Nat.le_of_ble_eq_true rfl) dX3_about_10 (Nat.le_of_ble_eq_true rfl) (Nat.le_of_ble_eq_true rfl) ?_
  refine e_iconst (v := 1) C dX3_about_13 (by decide) ?_
  refine e_cV (i := 9) (nA := 3) (Cn := RX3) C (c_X3_g0 hl) rfl (cnt_fix (by decide)) (fun _ => rfl) rfl rfl mw_162 mw_159 mw_160 mw_161 mw_5 (by decide +kernel) (by decide) rfl rfl (Nat.le_of_ble_eq_true rfl) dX3_about_14 (Nat.le_of_ble_eq_true rfl) (Nat.le_of_ble_eq_true rfl) ?_
  refine e_if_ne (tgt := 22) C dX3_about_17 (by decide) (fun c_17 => ?_) (fun c_17 => absurd c_17 (by decide))
  refine e_iload_n (j := 2) C dX3_about_22 rfl rfl ?_
  refine e_tswI (tgt := 136) (off := 113) C dX3_about_23 (by decide) (by decide) (by decide) (by decide) ?_
  refine e_aload_n (j := 0) C dX3_about_136 rfl rfl ?_
  refine e_get3 (k := 8) (ref := "ScripHollowModel") C (by decide) rfl rfl mw_61 dX3_about_137 ?_
  refine e_iload_n (j := 1) C dX3_about_140 rfl rfl ?_
  refine e_ialdN k C (cnt_fix (by decide)) (fun _ => rfl) rfl (by omega) (by decide) dX3_about_141 ?_
  exact e_iret C rfl (Nat.le_of_ble_eq_true rfl) (Nat.le_of_ble_eq_true rfl) dX3_about_142 (pO.mk rfl)
set_option maxRecDepth 100000 in
set_option maxHeartbeats 4000000 in
theorem c_X3_about_8 {l : Launch} (hl : l.stackTraces = false) {n : Nat} {ρ : Nat → Nat} {J : Nat → Int64} {M : Mem} {k : Nat} (hk : k < n) (hn : n ≤ 10) (hm : M 9 0 = nI n) : CtO l yX3_about cX3_about 3 (some .int) 3 0 0 n ρ J M [.ref (ρ 9), .int (nI k), .int 8] (rI (omab (ml M 0) k 8) (ml M 0)) := by
  refine CtO.of hl (by decide +kernel) (Nat.le_of_ble_eq_true rfl) (fun Ξ hnL C => ?_)
  show E Ξ n ρ J M 0 0 0 [(0, .ref (ρ 9)), (1, .int (nI k)), (2, .int 8)] []
  refine e_aload_n (j := 0) C dX3_about_0 rfl rfl ?_
  refine e_aload_n (j := 0) C dX3_about_1 rfl rfl ?_
  refine e_iload_n (j := 1) C dX3_about_2 rfl rfl ?_
  refine e_cV (i := 9) (nA := 1) (Cn := RX3) C (c_X3_isMiner hl hk hn hm) rfl (cnt_fix (by decide)) (fun _ => rfl) rfl rfl mw_213 mw_210 mw_211 mw_212 mw_5 (by decide +kernel) (by decide) rfl rfl (Nat.le_of_ble_eq_true rfl) dX3_about_3 (Nat.le_of_ble_eq_true rfl) (Nat.le_of_ble_eq_true rfl) ?_
  refine e_iload_n (j := 2) C dX3_about_6 rfl rfl ?_
  refine e_iconst (v := 0) C dX3_about_7 (by decide) ?_
  refine e_bipush (v := 9) C dX3_about_8 (by decide) ?_
  refine e_cS (nA := 3) C (c_X3_in1 hl (by decide) (by decide)) rfl mw_216 mw_214 mw_215 mw_5 (by decide +kernel) (by decide) rfl rfl (Nat.le_of_ble_eq_true rfl) dX3_about_10 (Nat.le_of_ble_eq_true rfl) (Nat.le_of_ble_eq_true rfl) ?_
  refine e_iconst (v := 1) C dX3_about_13 (by decide) ?_
  refine e_cV (i := 9) (nA := 3) (Cn := RX3) C (c_X3_g0 hl) rfl (cnt_fix (by decide)) (fun _ => rfl) rfl rfl mw_162 mw_159 mw_160 mw_161 mw_5 (by decide +kernel) (by decide) rfl rfl (Nat.le_of_ble_eq_true rfl) dX3_about_14 (Nat.le_of_ble_eq_true rfl) (Nat.le_of_ble_eq_true rfl) ?_
  refine e_if_ne (tgt := 22) C dX3_about_17 (by decide) (fun c_17 => ?_) (fun c_17 => absurd c_17 (by decide))
  refine e_iload_n (j := 2) C dX3_about_22 rfl rfl ?_
  refine e_tswI (tgt := 143) (off := 120) C dX3_about_23 (by decide) (by decide) (by decide) (by decide) ?_
  refine e_aload_n (j := 0) C dX3_about_143 rfl rfl ?_
  refine e_get3 (k := 9) (ref := "ScripHollowModel") C (by decide) rfl rfl mw_62 dX3_about_144 ?_
  refine e_iload_n (j := 1) C dX3_about_147 rfl rfl ?_
  refine e_ialdN k C (cnt_fix (by decide)) (fun _ => rfl) rfl (by omega) (by decide) dX3_about_148 ?_
  exact e_iret C rfl (Nat.le_of_ble_eq_true rfl) (Nat.le_of_ble_eq_true rfl) dX3_about_149 (pO.mk rfl)
set_option maxRecDepth 100000 in
set_option maxHeartbeats 4000000 in
theorem c_X3_about_9 {l : Launch} (hl : l.stackTraces = false) {n : Nat} {ρ : Nat → Nat} {J : Nat → Int64} {M : Mem} {k : Nat} (hk : k < n) (hn : n ≤ 10) (hm : M 9 0 = nI n) : CtO l yX3_about cX3_about 3 (some .int) 3 0 0 n ρ J M [.ref (ρ 9), .int (nI k), .int 9] (rI (omab (ml M 0) k 9) (ml M 0)) := by
  refine CtO.of hl (by decide +kernel) (Nat.le_of_ble_eq_true rfl) (fun Ξ hnL C => ?_)
  show E Ξ n ρ J M 0 0 0 [(0, .ref (ρ 9)), (1, .int (nI k)), (2, .int 9)] []
  refine e_aload_n (j := 0) C dX3_about_0 rfl rfl ?_
  refine e_aload_n (j := 0) C dX3_about_1 rfl rfl ?_
  refine e_iload_n (j := 1) C dX3_about_2 rfl rfl ?_
  refine e_cV (i := 9) (nA := 1) (Cn := RX3) C (c_X3_isMiner hl hk hn hm) rfl (cnt_fix (by decide)) (fun _ => rfl) rfl rfl mw_213 mw_210 mw_211 mw_212 mw_5 (by decide +kernel) (by decide) rfl rfl (Nat.le_of_ble_eq_true rfl) dX3_about_3 (Nat.le_of_ble_eq_true rfl) (Nat.le_of_ble_eq_true rfl) ?_
  refine e_iload_n (j := 2) C dX3_about_6 rfl rfl ?_
  refine e_iconst (v := 0) C dX3_about_7 (by decide) ?_
  refine e_bipush (v := 9) C dX3_about_8 (by decide) ?_
  refine e_cS (nA := 3) C (c_X3_in1 hl (by decide) (by decide)) rfl mw_216 mw_214 mw_215 mw_5 (by decide +kernel) (by decide) rfl rfl (Nat.le_of_ble_eq_true rfl) dX3_about_10 (Nat.le_of_ble_eq_true rfl) (Nat.le_of_ble_eq_true rfl) ?_
  refine e_iconst (v := 1) C dX3_about_13 (by decide) ?_
  refine e_cV (i := 9) (nA := 3) (Cn := RX3) C (c_X3_g0 hl) rfl (cnt_fix (by decide)) (fun _ => rfl) rfl rfl mw_162 mw_159 mw_160 mw_161 mw_5 (by decide +kernel) (by decide) rfl rfl (Nat.le_of_ble_eq_true rfl) dX3_about_14 (Nat.le_of_ble_eq_true rfl) (Nat.le_of_ble_eq_true rfl) ?_
  refine e_if_ne (tgt := 22) C dX3_about_17 (by decide) (fun c_17 => ?_) (fun c_17 => absurd c_17 (by decide))
  refine e_iload_n (j := 2) C dX3_about_22 rfl rfl ?_
  refine e_tswO (tgt := 150) C dX3_about_23 (Or.inr (by decide)) (by decide) ?_
  refine e_aload_n (j := 0) C dX3_about_150 rfl rfl ?_
  refine e_get3 (k := 10) (ref := "ScripHollowModel") C (by decide) rfl rfl mw_63 dX3_about_151 ?_
  refine e_iload_n (j := 1) C dX3_about_154 rfl rfl ?_
  refine e_ialdN k C (cnt_fix (by decide)) (fun _ => rfl) rfl (by omega) (by decide) dX3_about_155 ?_
  exact e_iret C rfl (Nat.le_of_ble_eq_true rfl) (Nat.le_of_ble_eq_true rfl) dX3_about_156 (pO.mk rfl)
set_option maxRecDepth 100000 in
set_option maxHeartbeats 4000000 in
theorem c_X3_baskets_x {l : Launch} (hl : l.stackTraces = false) {n : Nat} {ρ : Nat → Nat} {J : Nat → Int64} {M : Mem} {x : Int32} (h : x < 0 ∨ nI n ≤ x) (hn : n ≤ 10) (hm : M 9 0 = nI n) : CtO l yX3_baskets cX3_baskets 4 (some .int) 3 0 0 n ρ J M [.ref (ρ 9), .int x] (mo M 1 0) := by
  refine CtO.of hl (by decide +kernel) (Nat.le_of_ble_eq_true rfl) (fun Ξ hnL C => ?_)
  show E Ξ n ρ J M 0 0 0 [(0, .ref (ρ 9)), (1, .int x)] []
  refine e_aload_n (j := 0) C dX3_baskets_0 rfl rfl ?_
  refine e_aload_n (j := 0) C dX3_baskets_1 rfl rfl ?_
  refine e_iload_n (j := 1) C dX3_baskets_2 rfl rfl ?_
  refine e_cV (i := 9) (nA := 1) (Cn := RX3) C (c_X3_isMiner_x hl h hn hm) rfl (cnt_fix (by decide)) (fun _ => rfl) rfl rfl mw_213 mw_210 mw_211 mw_212 mw_5 (by decide +kernel) (by decide) rfl rfl (Nat.le_of_ble_eq_true rfl) dX3_baskets_3 (Nat.le_of_ble_eq_true rfl) (Nat.le_of_ble_eq_true rfl) ?_
  refine e_iconst (v := 1) C dX3_baskets_6 (by decide) ?_
  refine e_iconst (v := 1) C dX3_baskets_7 (by decide) ?_
  refine e_cV (i := 9) (nA := 3) (Cn := RX3) C (c_X3_g1 hl) rfl (cnt_fix (by decide)) (fun _ => rfl) rfl rfl mw_162 mw_159 mw_160 mw_161 mw_5 (by decide +kernel) (by decide) rfl rfl (Nat.le_of_ble_eq_true rfl) dX3_baskets_8 (Nat.le_of_ble_eq_true rfl) (Nat.le_of_ble_eq_true rfl) ?_
  refine e_if_ne (tgt := 16) C dX3_baskets_11 (by decide) (fun c_11 => absurd (by decide) c_11) (fun c_11 => ?_)
  refine e_iconst (v := 0) C dX3_baskets_14 (by decide) ?_
  exact e_iret C rfl (Nat.le_of_ble_eq_true rfl) (Nat.le_of_ble_eq_true rfl) dX3_baskets_15 (pO.mk rfl)
def bkM (M : Mem) (k : Nat) : Nat → Int32
  | 0 => 0
  | g + 1 => bkM M k g + raF M k g
set_option maxRecDepth 100000 in
set_option maxHeartbeats 4000000 in
theorem c_X3_baskets {l : Launch} (hl : l.stackTraces = false) {n : Nat} {ρ : Nat → Nat} {J : Nat → Int64} {M : Mem} {k : Nat} (hk : k < n) (hn : n ≤ 10) (hm : M 9 0 = nI n) (hne : ¬ bkM (ml M 0) k 4 = 0) : CtO l yX3_baskets cX3_baskets 4 (some .int) 3 0 0 n ρ J M [.ref (ρ 9), .int (nI k)] (rI (ml M 0 18 k / bkM (ml M 0) k 4) (ml M 0)) := by
  refine CtO.of hl (by decide +kernel) (Nat.le_of_ble_eq_true rfl) (fun Ξ hnL C => ?_)
  show E Ξ n ρ J M 0 0 0 [(0, .ref (ρ 9)), (1, .int (nI k))] []
  have loop : ∀ (f g : Nat), g + f = 4 → E Ξ n ρ J (ml M 0) 0 0 20 [(3, .int (nI g)), (2, .int (bkM (ml M 0) k g)), (0, .ref (ρ 9)), (1, .int (nI k))] [] := by
    intro f
    induction f with
    | zero =>
      intro g hg4
      have hg5 : g = 4 := by omega
      rw [hg5]
      refine e_iload_n (j := 0) C dX3_baskets_20 rfl rfl ?_
      refine e_iconst (v := 4) C dX3_baskets_21 (by decide) ?_
      refine e_icmp_ge (tgt := 40) C dX3_baskets_22 (by decide) (fun c_22 => ?_) (fun c_22 => absurd (show (4 : Int32) ≤ nI 4 by decide) c_22)
      refine e_aload_n (j := 2) C dX3_baskets_40 rfl rfl ?_
      refine e_get3 (k := 9) (ref := "ScripHollowModel") C (by decide) rfl rfl mw_62 dX3_baskets_41 ?_
      refine e_iload_n (j := 3) C dX3_baskets_44 rfl rfl ?_
      refine e_ialdN k C (cnt_fix (by decide)) (fun _ => rfl) rfl (by omega) (by decide) dX3_baskets_45 ?_
      refine e_iload_n (j := 1) C dX3_baskets_46 rfl rfl ?_
      refine e_idiv C dX3_baskets_47 hne ?_
      exact e_iret C rfl (Nat.le_of_ble_eq_true rfl) (Nat.le_of_ble_eq_true rfl) dX3_baskets_48 (pO.mk rfl)
    | succ f ih =>
      intro g hgf
      have hg : g < 4 := by omega
      refine e_iload_n (j := 0) C dX3_baskets_20 rfl rfl ?_
      refine e_iconst (v := 4) C dX3_baskets_21 (by decide) ?_
      refine e_icmp_ge (tgt := 40) C dX3_baskets_22 (by decide) (fun c_22 => absurd c_22 (nI_ge (a := g) (b := 4) hg (by omega))) (fun c_22 => ?_)
      refine e_iload_n (j := 1) C dX3_baskets_25 rfl rfl ?_
      refine e_aload_n (j := 2) C dX3_baskets_26 rfl rfl ?_
      refine e_iload_n (j := 3) C dX3_baskets_27 rfl rfl ?_
      refine e_iload_n (j := 0) C dX3_baskets_28 rfl rfl ?_
      refine e_cV (i := 9) (nA := 2) (Cn := RX3) C (c_X3_raisedFor hl (show k < 10 by omega) hg) rfl (cnt_fix (by decide)) (fun _ => rfl) rfl rfl mw_428 mw_425 mw_426 mw_427 mw_5 (by decide +kernel) (by decide) rfl rfl (Nat.le_of_ble_eq_true rfl) dX3_baskets_29 (Nat.le_of_ble_eq_true rfl) (Nat.le_of_ble_eq_true rfl) ?_
      refine e_iadd C dX3_baskets_32 ?_
      refine e_topi (fun x2_33 ex2_33 => ?_)
      refine e_istore_n (ls2 := [(2, .int x2_33), (3, .int (nI g)), (0, .ref (ρ 9)), (1, .int (nI k))]) C hnL dX3_baskets_33 rfl (by decide) rfl ?_
      obtain ⟨x3_34, ex3_34⟩ : ∃ z : Int32, z = (nI g) + 1 := ⟨_, rfl⟩
      refine e_iinc (j := 1) (v := x3_34) (ls2 := [(3, .int x3_34), (2, .int x2_33), (0, .ref (ρ 9)), (1, .int (nI k))]) C hnL dX3_baskets_34 rfl (by rw [ex3_34]; rfl) (by decide) rfl ?_
      refine e_goto (tgt := 20) C dX3_baskets_37 (by decide) ?_
      subst ex3_34 ex2_33
      rw [nI_1]
      exact e_sub [0, 1, 2, 3] rfl (ih (g + 1) (by omega))
  refine e_aload_n (j := 0) C dX3_baskets_0 rfl rfl ?_
  refine e_aload_n (j := 0) C dX3_baskets_1 rfl rfl ?_
  refine e_iload_n (j := 1) C dX3_baskets_2 rfl rfl ?_
  refine e_cV (i := 9) (nA := 1) (Cn := RX3) C (c_X3_isMiner hl hk hn hm) rfl (cnt_fix (by decide)) (fun _ => rfl) rfl rfl mw_213 mw_210 mw_211 mw_212 mw_5 (by decide +kernel) (by decide) rfl rfl (Nat.le_of_ble_eq_true rfl) dX3_baskets_3 (Nat.le_of_ble_eq_true rfl) (Nat.le_of_ble_eq_true rfl) ?_
  refine e_iconst (v := 1) C dX3_baskets_6 (by decide) ?_
  refine e_iconst (v := 1) C dX3_baskets_7 (by decide) ?_
  refine e_cV (i := 9) (nA := 3) (Cn := RX3) C (c_X3_g0 hl) rfl (cnt_fix (by decide)) (fun _ => rfl) rfl rfl mw_162 mw_159 mw_160 mw_161 mw_5 (by decide +kernel) (by decide) rfl rfl (Nat.le_of_ble_eq_true rfl) dX3_baskets_8 (Nat.le_of_ble_eq_true rfl) (Nat.le_of_ble_eq_true rfl) ?_
  refine e_if_ne (tgt := 16) C dX3_baskets_11 (by decide) (fun c_11 => ?_) (fun c_11 => absurd c_11 (by decide))
  refine e_iconst (v := 0) C dX3_baskets_16 (by decide) ?_
  refine e_istore_n (ls2 := [(2, .int 0), (0, .ref (ρ 9)), (1, .int (nI k))]) C hnL dX3_baskets_17 rfl (by decide) rfl ?_
  refine e_iconst (v := 0) C dX3_baskets_18 (by decide) ?_
  refine e_istore_n (ls2 := [(3, .int 0), (2, .int 0), (0, .ref (ρ 9)), (1, .int (nI k))]) C hnL dX3_baskets_19 rfl (by decide) rfl ?_
  exact e_sub [0, 1, 2, 3] rfl (loop 4 0 rfl)
def spM (M : Mem) : Int32 := if M 9 24 = 0 then 0 else if M 25 1 = 0 then 0 else 1
def brkM (M : Mem) (k : Nat) (v : Int32) : Mem := if M 9 24 = 0 then (if v ≤ 0 then M else up (up M 9 25 (M 9 25 + 1)) 17 k (up M 9 25 (M 9 25 + 1) 17 k + v)) else M
set_option maxRecDepth 100000 in
set_option maxHeartbeats 4000000 in
theorem c_X3_isSpared {l : Launch} (hl : l.stackTraces = false) {n : Nat} {ρ : Nat → Nat} {J : Nat → Int64} {M : Mem}  : CtO l yX3_isSpared cX3_isSpared 1 (some .boolean) 0 0 0 n ρ J M [.ref (ρ 9)] (rI (spM M) M) := by
  refine CtO.of hl (by decide +kernel) (Nat.le_of_ble_eq_true rfl) (fun Ξ hnL C => ?_)
  show E Ξ n ρ J M 0 0 0 [(0, .ref (ρ 9))] []
  refine e_aload_n (j := 0) C dX3_isSpared_0 rfl rfl ?_
  refine e_get3 (k := 24) (ref := "ScripHollowModel") C (by decide) rfl rfl mw_367 dX3_isSpared_1 ?_
  refine e_if_eq (tgt := 20) C dX3_isSpared_4 (by decide) (fun c_4 => ?_) (fun c_4 => ?_)
  · refine e_iconst (v := 0) C dX3_isSpared_20 (by decide) ?_
    exact e_zret C rfl rfl (Nat.le_of_ble_eq_true rfl) (Nat.le_of_ble_eq_true rfl) dX3_isSpared_21 (pO.mk (by unfold spM; (repeat (first | rw [if_pos c_4]))))
  · refine e_aload_n (j := 0) C dX3_isSpared_7 rfl rfl ?_
    refine e_get3 (k := 16) (ref := "ScripHollowModel") C (by decide) rfl rfl mw_69 dX3_isSpared_8 ?_
    refine e_iconst (v := 1) C dX3_isSpared_11 (by decide) ?_
    refine e_zaldN 1 C (cnt_fix (by decide)) (fun _ => rfl) rfl (by decide) (by decide) dX3_isSpared_12 ?_
    refine e_if_eq (tgt := 20) C dX3_isSpared_13 (by decide) (fun c_13 => ?_) (fun c_13 => ?_)
    · refine e_iconst (v := 0) C dX3_isSpared_20 (by decide) ?_
      exact e_zret C rfl rfl (Nat.le_of_ble_eq_true rfl) (Nat.le_of_ble_eq_true rfl) dX3_isSpared_21 (pO.mk (by unfold spM; (repeat (first | rw [if_neg c_4] | rw [if_pos c_13]))))
    · refine e_iconst (v := 1) C dX3_isSpared_16 (by decide) ?_
      refine e_goto (tgt := 21) C dX3_isSpared_17 (by decide) ?_
      exact e_zret C rfl rfl (Nat.le_of_ble_eq_true rfl) (Nat.le_of_ble_eq_true rfl) dX3_isSpared_21 (pO.mk (by unfold spM; (repeat (first | rw [if_neg c_4] | rw [if_neg c_13]))))
set_option maxRecDepth 100000 in
set_option maxHeartbeats 4000000 in
theorem c_X3_breaks {l : Launch} (hl : l.stackTraces = false) {n : Nat} {ρ : Nat → Nat} {J : Nat → Int64} {M : Mem} {k : Nat} (hk : k < 10) {v : Int32} : CtO l yX3_breaks cX3_breaks 3 none 0 0 0 n ρ J M [.ref (ρ 9), .int (nI k), .int v] (rV (brkM M k v)) := by
  refine CtO.of hl (by decide +kernel) (Nat.le_of_ble_eq_true rfl) (fun Ξ hnL C => ?_)
  show E Ξ n ρ J M 0 0 0 [(0, .ref (ρ 9)), (1, .int (nI k)), (2, .int v)] []
  refine e_aload_n (j := 0) C dX3_breaks_0 rfl rfl ?_
  refine e_get3 (k := 24) (ref := "ScripHollowModel") C (by decide) rfl rfl mw_367 dX3_breaks_1 ?_
  refine e_if_ne (tgt := 31) C dX3_breaks_4 (by decide) (fun c_4 => ?_) (fun c_4 => ?_)
  · exact e_vret C rfl (Nat.le_of_ble_eq_true rfl) (Nat.le_of_ble_eq_true rfl) dX3_breaks_31 (pO.mk (by unfold brkM; (repeat (first | rw [if_neg c_4]))))
  · refine e_iload_n (j := 2) C dX3_breaks_7 rfl rfl ?_
    refine e_if_le (tgt := 31) C dX3_breaks_8 (by decide) (fun c_8 => ?_) (fun c_8 => ?_)
    · exact e_vret C rfl (Nat.le_of_ble_eq_true rfl) (Nat.le_of_ble_eq_true rfl) dX3_breaks_31 (pO.mk (by unfold brkM; (repeat (first | rw [if_pos c_4] | rw [if_pos c_8]))))
    · refine e_aload_n (j := 0) C dX3_breaks_11 rfl rfl ?_
      refine e_dup C dX3_breaks_12 rfl ?_
      refine e_get3 (k := 25) (ref := "ScripHollowModel") C (by decide) rfl rfl mw_381 dX3_breaks_13 ?_
      refine e_iconst (v := 1) C dX3_breaks_16 (by decide) ?_
      refine e_iadd C dX3_breaks_17 ?_
      refine e_put3 (k := 25) (ref := "ScripHollowModel") (ty := .int) C (by decide) rfl rfl (by decide +kernel) rfl rfl rfl mw_381 dX3_breaks_18 ?_
      refine e_aload_n (j := 0) C dX3_breaks_21 rfl rfl ?_
      refine e_get3 (k := 8) (ref := "ScripHollowModel") C (by decide) rfl rfl mw_61 dX3_breaks_22 ?_
      refine e_iload_n (j := 1) C dX3_breaks_25 rfl rfl ?_
      refine e_dup2 C dX3_breaks_26 rfl rfl ?_
      refine e_ialdN k C (cnt_fix (by decide)) (fun _ => rfl) rfl (by omega) (by decide) dX3_breaks_27 ?_
      refine e_iload_n (j := 2) C dX3_breaks_28 rfl rfl ?_
      refine e_iadd C dX3_breaks_29 ?_
      refine e_iastN k C (cnt_fix (by decide)) (fun _ _ => rfl) rfl (by omega) (by decide) dX3_breaks_30 ?_
      exact e_vret C rfl (Nat.le_of_ble_eq_true rfl) (Nat.le_of_ble_eq_true rfl) dX3_breaks_31 (pO.mk (by unfold brkM; (repeat (first | rw [if_pos c_4] | rw [if_neg c_8]))))
