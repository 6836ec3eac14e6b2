/-! The reference's miner(). -/
def mmN (M : Mem) (q : Nat) : Mem := up (up (up (up (ml M 0) 10 q 1) 11 q 1) 19 q (-1)) 9 0 (nI (q + 1))
def ommin (M : Mem) (q : Nat) : Out := if q < 10 then rI (nI q) (mmN M q) else mo M 1 0
set_option maxRecDepth 100000 in
set_option maxHeartbeats 4000000 in
theorem c_X3_miner {l : Launch} (hl : l.stackTraces = false) {n : Nat} {ρ : Nat → Nat} {J : Nat → Int64} {M : Mem} {q : Nat} (hq : q ≤ 10) (hm : M 9 0 = nI q) : CtO l yX3_miner cX3_miner 1 (some .int) 3 0 0 n ρ J M [.ref (ρ 9)] (ommin M q) := by
  refine CtO.of hl (by decide +kernel) (Nat.le_of_ble_eq_true rfl) (fun Ξ hnL C => ?_)
  show E Ξ n ρ J M 0 0 0 [(0, .ref (ρ 9))] []
  by_cases h : q < 10
  · refine e_aload_n (j := 0) C dX3_miner_0 rfl rfl ?_
    refine e_aload_n (j := 0) C dX3_miner_1 rfl rfl ?_
    refine e_get3 (k := 0) (ref := "ScripHollowModel") C (by decide) rfl rfl mw_158 dX3_miner_2 ?_
    refine e_bipush (v := 10) C dX3_miner_5 (by decide) ?_
    refine e_icmp_ge (tgt := 14) C dX3_miner_7 (by decide) (fun c_7 => absurd c_7 (by rw [hm]; exact nI_ge (a := q) (b := 10) h (by omega))) (fun c_7 => ?_)
    refine e_iconst (v := 1) C dX3_miner_10 (by decide) ?_
    refine e_goto (tgt := 15) C dX3_miner_11 (by decide) ?_
    refine e_iconst (v := 1) C dX3_miner_15 (by decide) ?_
    refine e_iconst (v := 1) C dX3_miner_16 (by decide) ?_
    refine e_cV (i := 9) (nA := 3) (Cn := RX3) C (c_X3_g0 hl) rfl (cnt_fix (by decide)) (fun _ => rfl) rfl rfl mw_162 mw_159 mw_160 mw_161 mw_5 (by decide +kernel) (by decide) rfl rfl (Nat.le_of_ble_eq_true rfl) dX3_miner_17 (Nat.le_of_ble_eq_true rfl) (Nat.le_of_ble_eq_true rfl) ?_
    refine e_if_ne (tgt := 25) C dX3_miner_20 (by decide) (fun c_20 => ?_) (fun c_20 => absurd c_20 (by decide))
    refine e_aload_n (j := 0) C dX3_miner_25 rfl rfl ?_
    refine e_get3 (k := 1) (ref := "ScripHollowModel") C (by decide) rfl rfl mw_54 dX3_miner_26 ?_
    refine e_aload_n (j := 0) C dX3_miner_29 rfl rfl ?_
    refine e_get3 (k := 0) (ref := "ScripHollowModel") C (by decide) rfl rfl mw_158 dX3_miner_30 ?_
    refine e_iconst (v := 1) C dX3_miner_33 (by decide) ?_
    refine e_zastN q C (cnt_fix (by decide)) (fun _ _ => rfl) (by rw [ml_at (by decide)]; exact hm) h (by decide) (by first | decide | exact isB.nr (by assumption)) dX3_miner_34 ?_
    refine e_aload_n (j := 0) C dX3_miner_35 rfl rfl ?_
    refine e_get3 (k := 2) (ref := "ScripHollowModel") C (by decide) rfl rfl mw_55 dX3_miner_36 ?_
    refine e_aload_n (j := 0) C dX3_miner_39 rfl rfl ?_
    refine e_get3 (k := 0) (ref := "ScripHollowModel") C (by decide) rfl rfl mw_158 dX3_miner_40 ?_
    refine e_iconst (v := 1) C dX3_miner_43 (by decide) ?_
    refine e_zastN q C (cnt_fix (by decide)) (fun _ _ => rfl) (by rw [up_ne (by decide), ml_at (by decide)]; exact hm) h (by decide) (by first | decide | exact isB.nr (by assumption)) dX3_miner_44 ?_
    refine e_aload_n (j := 0) C dX3_miner_45 rfl rfl ?_
    refine e_get3 (k := 10) (ref := "ScripHollowModel") C (by decide) rfl rfl mw_63 dX3_miner_46 ?_
    refine e_aload_n (j := 0) C dX3_miner_49 rfl rfl ?_
    refine e_get3 (k := 0) (ref := "ScripHollowModel") C (by decide) rfl rfl mw_158 dX3_miner_50 ?_
    refine e_iconst (v := (-1)) C dX3_miner_53 (by decide) ?_
    refine e_iastN q C (cnt_fix (by decide)) (fun _ _ => rfl) (by rw [up_ne (by decide), up_ne (by decide), ml_at (by decide)]; exact hm) h (by decide) dX3_miner_54 ?_
    refine e_aload_n (j := 0) C dX3_miner_55 rfl rfl ?_
    refine e_dup C dX3_miner_56 rfl ?_
    refine e_get3 (k := 0) (ref := "ScripHollowModel") C (by decide) rfl rfl mw_158 dX3_miner_57 ?_
    refine e_iconst (v := 1) C dX3_miner_60 (by decide) ?_
    refine e_iadd C dX3_miner_61 ?_
    refine e_put3 (k := 0) (ref := "ScripHollowModel") (ty := .int) C (by decide) rfl rfl (by decide +kernel) rfl rfl rfl mw_158 dX3_miner_62 ?_
    refine e_aload_n (j := 0) C dX3_miner_65 rfl rfl ?_
    refine e_get3 (k := 0) (ref := "ScripHollowModel") C (by decide) rfl rfl mw_158 dX3_miner_66 ?_
    refine e_iconst (v := 1) C dX3_miner_69 (by decide) ?_
    refine e_isub C dX3_miner_70 ?_
    exact e_iret C rfl (Nat.le_of_ble_eq_true rfl) (Nat.le_of_ble_eq_true rfl) dX3_miner_71 (pO.mk (by have hz : up (up (up (ml M 0) 10 q 1) 11 q 1) 19 q (-1) 9 0 = nI q := (by rw [up_ne (by decide), up_ne (by decide), up_ne (by decide), ml_at (by decide)]; exact hm); rw [hz, nI_1, up_at, if_pos rfl, nI_pred]; unfold ommin; rw [if_pos h]; rfl))
  · have hq2 : q = 10 := by omega
    subst hq2
    refine e_aload_n (j := 0) C dX3_miner_0 rfl rfl ?_
    refine e_aload_n (j := 0) C dX3_miner_1 rfl rfl ?_
    refine e_get3 (k := 0) (ref := "ScripHollowModel") C (by decide) rfl rfl mw_158 dX3_miner_2 ?_
    refine e_bipush (v := 10) C dX3_miner_5 (by decide) ?_
    refine e_icmp_ge (tgt := 14) C dX3_miner_7 (by decide) (fun c_7 => ?_) (fun c_7 => absurd (by rw [hm]; decide) c_7)
    refine e_iconst (v := 0) C dX3_miner_14 (by decide) ?_
    refine e_iconst (v := 1) C dX3_miner_15 (by decide) ?_
    refine e_iconst (v := 1) C dX3_miner_16 (by decide) ?_
    refine e_cV (i := 9) (nA := 3) (Cn := RX3) C (c_X3_g1 hl) rfl (cnt_fix (by decide)) (fun _ => rfl) rfl rfl mw_162 mw_159 mw_160 mw_161 mw_5 (by decide +kernel) (by decide) rfl rfl (Nat.le_of_ble_eq_true rfl) dX3_miner_17 (Nat.le_of_ble_eq_true rfl) (Nat.le_of_ble_eq_true rfl) ?_
    refine e_if_ne (tgt := 25) C dX3_miner_20 (by decide) (fun c_20 => absurd (by decide) c_20) (fun c_20 => ?_)
    refine e_iconst (v := 0) C dX3_miner_23 (by decide) ?_
    exact e_iret C rfl (Nat.le_of_ble_eq_true rfl) (Nat.le_of_ble_eq_true rfl) dX3_miner_24 (pO.mk (by unfold ommin; rw [if_neg h]))
