/-! Paydays. -/
def breachM (M : Mem) (k j : Nat) (v : Int32) : Mem := if M 0 12 = 0 then (if M 6 j = 0 then M else if v ≤ 0 then M else up (up M 0 13 (M 0 13 + 1)) (mO k) 8 (up M 0 13 (M 0 13 + 1) (mO k) 8 + v)) else M
def o_due (M : Mem) (k : Nat) (x : Int32) : Int32 := if x = 1 then M (mO k) 7 + (if M (mO k) 1 = 0 then 0 else M 2 1) else if x = 2 then M 2 2 else if x = 3 then M 2 3 else if x = 4 then M 2 4 else if x = 5 then M (mO k) 6 else 0
def o_pass (M : Mem) (x : Int32) : Int32 := if M 0 12 = 0 then 0 else if M 6 1 = 0 then 0 else if x < 3 then 0 else 1
set_option maxRecDepth 100000 in
set_option maxHeartbeats 4000000 in
theorem c_X2_breach {l : Launch} (hl : l.stackTraces = false) {n : Nat} {ρ : Nat → Nat} {J : Nat → Int64} {M : Mem} {k j : Nat} (hk : k < n) (hj : j < 3) {v : Int32} : CtO l yX2_breach cX2_breach 4 none 0 0 0 n ρ J M [.ref (ρ 0), .ref (ρ (mO k)), .int (nI j), .int v] (rV (breachM M k j v)) := by
  refine CtO.of hl (by decide +kernel) (Nat.le_of_ble_eq_true rfl) (fun Ξ hnL C => ?_)
  show E Ξ n ρ J M 0 0 0 [(0, .ref (ρ 0)), (1, .ref (ρ (mO k))), (2, .int (nI j)), (3, .int v)] []
  refine e_aload_n (j := 0) C dX2_breach_0 rfl rfl ?_
  refine e_get2 (k := 12) (ref := "ScripHollow") C (by decide) rfl rfl mw_224 dX2_breach_1 ?_
  refine e_if_ne (tgt := 40) C dX2_breach_4 (by decide) (fun c_4 => ?_) (fun c_4 => ?_)
  · exact e_vret C rfl (Nat.le_of_ble_eq_true rfl) (Nat.le_of_ble_eq_true rfl) dX2_breach_40 (pO.mk (by first | contradiction | (subst_vars; unfold breachM; (repeat (first | rw [if_neg c_4])); (try rfl))))
  · refine e_aload_n (j := 0) C dX2_breach_7 rfl rfl ?_
    refine e_get2 (k := 11) (ref := "ScripHollow") C (by decide) rfl rfl mw_37 dX2_breach_8 ?_
    refine e_iload_n (j := 2) C dX2_breach_11 rfl rfl ?_
    refine e_zaldN j C (cnt_fix (by decide)) (fun _ => rfl) rfl (by omega) (by decide) dX2_breach_12 ?_
    refine e_if_eq (tgt := 40) C dX2_breach_13 (by decide) (fun c_13 => ?_) (fun c_13 => ?_)
    · exact e_vret C rfl (Nat.le_of_ble_eq_true rfl) (Nat.le_of_ble_eq_true rfl) dX2_breach_40 (pO.mk (by first | contradiction | (subst_vars; unfold breachM; (repeat (first | rw [if_pos c_4] | rw [if_pos c_13])); (try rfl))))
    · refine e_iload_n (j := 3) C dX2_breach_16 rfl rfl ?_
      refine e_if_le (tgt := 40) C dX2_breach_17 (by decide) (fun c_17 => ?_) (fun c_17 => ?_)
      · exact e_vret C rfl (Nat.le_of_ble_eq_true rfl) (Nat.le_of_ble_eq_true rfl) dX2_breach_40 (pO.mk (by first | contradiction | (subst_vars; unfold breachM; (repeat (first | rw [if_pos c_4] | rw [if_neg c_13] | rw [if_pos c_17])); (try rfl))))
      · refine e_aload_n (j := 0) C dX2_breach_20 rfl rfl ?_
        refine e_dup C dX2_breach_21 rfl ?_
        refine e_get2 (k := 13) (ref := "ScripHollow") C (by decide) rfl rfl mw_234 dX2_breach_22 ?_
        refine e_iconst (v := 1) C dX2_breach_25 (by decide) ?_
        refine e_iadd C dX2_breach_26 ?_
        refine e_put2 (k := 13) (ref := "ScripHollow") (ty := .int) C (by decide) rfl rfl (by decide +kernel) rfl rfl rfl mw_234 dX2_breach_27 ?_
        refine e_aload_n (j := 1) C dX2_breach_30 rfl rfl ?_
        refine e_dup C dX2_breach_31 rfl ?_
        refine e_get0 (k := 8) (kk0 := k) (ref := "ScripHollow$Miner") C hk (by decide) rfl rfl mw_235 dX2_breach_32 ?_
        refine e_iload_n (j := 3) C dX2_breach_35 rfl rfl ?_
        refine e_iadd C dX2_breach_36 ?_
        refine e_put0 (k := 8) (kk0 := k) (ref := "ScripHollow$Miner") (ty := .int) C hk (by decide) rfl rfl (by decide +kernel) rfl rfl rfl mw_235 dX2_breach_37 ?_
        exact e_vret C rfl (Nat.le_of_ble_eq_true rfl) (Nat.le_of_ble_eq_true rfl) dX2_breach_40 (pO.mk (by first | contradiction | (subst_vars; unfold breachM; (repeat (first | rw [if_pos c_4] | rw [if_neg c_13] | rw [if_neg c_17])); (try rfl))))
set_option maxRecDepth 100000 in
set_option maxHeartbeats 4000000 in
theorem c_X2_due {l : Launch} (hl : l.stackTraces = false) {n : Nat} {ρ : Nat → Nat} {J : Nat → Int64} {M : Mem} {k : Nat} (hk : k < n) {x : Int32} : CtO l yX2_due cX2_due 3 (some .int) 0 0 0 n ρ J M [.ref (ρ 0), .ref (ρ (mO k)), .int x] (rI (o_due M k x) M) := by
  refine CtO.of hl (by decide +kernel) (Nat.le_of_ble_eq_true rfl) (fun Ξ hnL C => ?_)
  show E Ξ n ρ J M 0 0 0 [(0, .ref (ρ 0)), (1, .ref (ρ (mO k))), (2, .int x)] []
  by_cases h1 : x = 1
  · have hx9 : x.toInt = 1 := by rw [h1]; decide
    refine e_iload_n (j := 2) C dX2_due_0 rfl rfl ?_
    refine e_tswI (tgt := 36) (off := 35) C dX2_due_1 (by rw [hx9]; decide) (by rw [hx9]; decide) (by rw [hx9]; decide) (by decide) ?_
    refine e_aload_n (j := 1) C dX2_due_36 rfl rfl ?_
    refine e_get0 (k := 7) (kk0 := k) (ref := "ScripHollow$Miner") C hk (by decide) rfl rfl mw_202 dX2_due_37 ?_
    refine e_aload_n (j := 1) C dX2_due_40 rfl rfl ?_
    refine e_get0 (k := 1) (kk0 := k) (ref := "ScripHollow$Miner") C hk (by decide) rfl rfl mw_207 dX2_due_41 ?_
    refine e_if_eq (tgt := 56) C dX2_due_44 (by decide) (fun c_44 => ?_) (fun c_44 => ?_)
    · refine e_iconst (v := 0) C dX2_due_56 (by decide) ?_
      refine e_iadd C dX2_due_57 ?_
      exact e_iret C rfl (Nat.le_of_ble_eq_true rfl) (Nat.le_of_ble_eq_true rfl) dX2_due_58 (pO.mk (by unfold o_due; (repeat (first | rw [if_pos h1] | rw [if_pos c_44]))))
    · refine e_aload_n (j := 0) C dX2_due_47 rfl rfl ?_
      refine e_get2 (k := 4) (ref := "ScripHollow") C (by decide) rfl rfl mw_27 dX2_due_48 ?_
      refine e_iconst (v := 1) C dX2_due_51 (by decide) ?_
      refine e_ialdN 1 C (cnt_fix (by decide)) (fun _ => rfl) rfl (by decide) (by decide) dX2_due_52 ?_
      refine e_goto (tgt := 57) C dX2_due_53 (by decide) ?_
      refine e_iadd C dX2_due_57 ?_
      exact e_iret C rfl (Nat.le_of_ble_eq_true rfl) (Nat.le_of_ble_eq_true rfl) dX2_due_58 (pO.mk (by unfold o_due; (repeat (first | rw [if_pos h1] | rw [if_neg c_44]))))
  · by_cases h2 : x = 2
    · have hx9 : x.toInt = 2 := by rw [h2]; decide
      refine e_iload_n (j := 2) C dX2_due_0 rfl rfl ?_
      refine e_tswI (tgt := 59) (off := 58) C dX2_due_1 (by rw [hx9]; decide) (by rw [hx9]; decide) (by rw [hx9]; decide) (by decide) ?_
      refine e_aload_n (j := 0) C dX2_due_59 rfl rfl ?_
      refine e_get2 (k := 4) (ref := "ScripHollow") C (by decide) rfl rfl mw_27 dX2_due_60 ?_
      refine e_iconst (v := 2) C dX2_due_63 (by decide) ?_
      refine e_ialdN 2 C (cnt_fix (by decide)) (fun _ => rfl) rfl (by decide) (by decide) dX2_due_64 ?_
      exact e_iret C rfl (Nat.le_of_ble_eq_true rfl) (Nat.le_of_ble_eq_true rfl) dX2_due_65 (pO.mk (by unfold o_due; (repeat (first | rw [if_neg h1] | rw [if_pos h2]))))
    · by_cases h3 : x = 3
      · have hx9 : x.toInt = 3 := by rw [h3]; decide
        refine e_iload_n (j := 2) C dX2_due_0 rfl rfl ?_
        refine e_tswI (tgt := 66) (off := 65) C dX2_due_1 (by rw [hx9]; decide) (by rw [hx9]; decide) (by rw [hx9]; decide) (by decide) ?_
        refine e_aload_n (j := 0) C dX2_due_66 rfl rfl ?_
        refine e_get2 (k := 4) (ref := "ScripHollow") C (by decide) rfl rfl mw_27 dX2_due_67 ?_
        refine e_iconst (v := 3) C dX2_due_70 (by decide) ?_
        refine e_ialdN 3 C (cnt_fix (by decide)) (fun _ => rfl) rfl (by decide) (by decide) dX2_due_71 ?_
        exact e_iret C rfl (Nat.le_of_ble_eq_true rfl) (Nat.le_of_ble_eq_true rfl) dX2_due_72 (pO.mk (by unfold o_due; (repeat (first | rw [if_neg h1] | rw [if_neg h2] | rw [if_pos h3]))))
      · by_cases h4 : x = 4
        · have hx9 : x.toInt = 4 := by rw [h4]; decide
          refine e_iload_n (j := 2) C dX2_due_0 rfl rfl ?_
          refine e_tswI (tgt := 73) (off := 72) C dX2_due_1 (by rw [hx9]; decide) (by rw [hx9]; decide) (by rw [hx9]; decide) (by decide) ?_
          refine e_aload_n (j := 0) C dX2_due_73 rfl rfl ?_
          refine e_get2 (k := 4) (ref := "ScripHollow") C (by decide) rfl rfl mw_27 dX2_due_74 ?_
          refine e_iconst (v := 4) C dX2_due_77 (by decide) ?_
          refine e_ialdN 4 C (cnt_fix (by decide)) (fun _ => rfl) rfl (by decide) (by decide) dX2_due_78 ?_
          exact e_iret C rfl (Nat.le_of_ble_eq_true rfl) (Nat.le_of_ble_eq_true rfl) dX2_due_79 (pO.mk (by unfold o_due; (repeat (first | rw [if_neg h1] | rw [if_neg h2] | rw [if_neg h3] | rw [if_pos h4]))))
        · by_cases h5 : x = 5
          · have hx9 : x.toInt = 5 := by rw [h5]; decide
            refine e_iload_n (j := 2) C dX2_due_0 rfl rfl ?_
            refine e_tswI (tgt := 80) (off := 79) C dX2_due_1 (by rw [hx9]; decide) (by rw [hx9]; decide) (by rw [hx9]; decide) (by decide) ?_
            refine e_aload_n (j := 1) C dX2_due_80 rfl rfl ?_
            refine e_get0 (k := 6) (kk0 := k) (ref := "ScripHollow$Miner") C hk (by decide) rfl rfl mw_203 dX2_due_81 ?_
            exact e_iret C rfl (Nat.le_of_ble_eq_true rfl) (Nat.le_of_ble_eq_true rfl) dX2_due_84 (pO.mk (by unfold o_due; (repeat (first | rw [if_neg h1] | rw [if_neg h2] | rw [if_neg h3] | rw [if_neg h4] | rw [if_pos h5]))))
          · refine e_iload_n (j := 2) C dX2_due_0 rfl rfl ?_
            refine e_tswO (tgt := 85) C dX2_due_1 (sw15 h1 h2 h3 h4 h5) (by decide) ?_
            refine e_iconst (v := 0) C dX2_due_85 (by decide) ?_
            exact e_iret C rfl (Nat.le_of_ble_eq_true rfl) (Nat.le_of_ble_eq_true rfl) dX2_due_86 (pO.mk (by unfold o_due; (repeat (first | rw [if_neg h1] | rw [if_neg h2] | rw [if_neg h3] | rw [if_neg h4] | rw [if_neg h5]))))
set_option maxRecDepth 100000 in
set_option maxHeartbeats 4000000 in
theorem c_X2_isPassedBy {l : Launch} (hl : l.stackTraces = false) {n : Nat} {ρ : Nat → Nat} {J : Nat → Int64} {M : Mem} {x : Int32} : CtO l yX2_isPassedBy cX2_isPassedBy 2 (some .boolean) 0 0 0 n ρ J M [.ref (ρ 0), .int x] (rI (o_pass M x) M) := by
  refine CtO.of hl (by decide +kernel) (Nat.le_of_ble_eq_true rfl) (fun Ξ hnL C => ?_)
  show E Ξ n ρ J M 0 0 0 [(0, .ref (ρ 0)), (1, .int x)] []
  refine e_aload_n (j := 0) C dX2_isPassedBy_0 rfl rfl ?_
  refine e_get2 (k := 12) (ref := "ScripHollow") C (by decide) rfl rfl mw_224 dX2_isPassedBy_1 ?_
  refine e_if_eq (tgt := 25) C dX2_isPassedBy_4 (by decide) (fun c_4 => ?_) (fun c_4 => ?_)
  · refine e_iconst (v := 0) C dX2_isPassedBy_25 (by decide) ?_
    exact e_zret C rfl rfl (Nat.le_of_ble_eq_true rfl) (Nat.le_of_ble_eq_true rfl) dX2_isPassedBy_26 (pO.mk (by first | contradiction | (subst_vars; unfold o_pass; (repeat (first | rw [if_pos c_4])); (try rfl))))
  · refine e_aload_n (j := 0) C dX2_isPassedBy_7 rfl rfl ?_
    refine e_get2 (k := 11) (ref := "ScripHollow") C (by decide) rfl rfl mw_37 dX2_isPassedBy_8 ?_
    refine e_iconst (v := 1) C dX2_isPassedBy_11 (by decide) ?_
    refine e_zaldN 1 C (cnt_fix (by decide)) (fun _ => rfl) rfl (by decide) (by decide) dX2_isPassedBy_12 ?_
    refine e_if_eq (tgt := 25) C dX2_isPassedBy_13 (by decide) (fun c_13 => ?_) (fun c_13 => ?_)
    · refine e_iconst (v := 0) C dX2_isPassedBy_25 (by decide) ?_
      exact e_zret C rfl rfl (Nat.le_of_ble_eq_true rfl) (Nat.le_of_ble_eq_true rfl) dX2_isPassedBy_26 (pO.mk (by first | contradiction | (subst_vars; unfold o_pass; (repeat (first | rw [if_neg c_4] | rw [if_pos c_13])); (try rfl))))
    · refine e_iload_n (j := 1) C dX2_isPassedBy_16 rfl rfl ?_
      refine e_iconst (v := 3) C dX2_isPassedBy_17 (by decide) ?_
      refine e_icmp_lt (tgt := 25) C dX2_isPassedBy_18 (by decide) (fun c_18 => ?_) (fun c_18 => ?_)
      · refine e_iconst (v := 0) C dX2_isPassedBy_25 (by decide) ?_
        exact e_zret C rfl rfl (Nat.le_of_ble_eq_true rfl) (Nat.le_of_ble_eq_true rfl) dX2_isPassedBy_26 (pO.mk (by first | contradiction | (subst_vars; unfold o_pass; (repeat (first | rw [if_neg c_4] | rw [if_neg c_13] | rw [if_pos c_18])); (try rfl))))
      · refine e_iconst (v := 1) C dX2_isPassedBy_21 (by decide) ?_
        refine e_goto (tgt := 26) C dX2_isPassedBy_22 (by decide) ?_
        exact e_zret C rfl rfl (Nat.le_of_ble_eq_true rfl) (Nat.le_of_ble_eq_true rfl) dX2_isPassedBy_26 (pO.mk (by first | contradiction | (subst_vars; unfold o_pass; (repeat (first | rw [if_neg c_4] | rw [if_neg c_13] | rw [if_neg c_18])); (try rfl))))
def hd1 (M : Mem) (k : Nat) (v : Int32) : Mem := up M (mO k) 9 v
def hd2 (M : Mem) (k p : Nat) (v : Int32) : Mem := up (gain (hd1 M k v) k p v) 7 0 (gain (hd1 M k v) k p v 7 0 + v)
def handM (M : Mem) (k p : Nat) (v : Int32) : Mem := if hd1 M k v 0 12 = 0 then breachM (hd2 M k p v) k 0 v else if hd1 M k v 6 0 = 0 then breachM (hd2 M k p v) k 0 v else up (hd1 M k v) (mO k) 5 (hd1 M k v (mO k) 5 + v)
theorem ne_0O {k : Nat} : (0 : Nat) ≠ mO k := by unfold mO; omega
set_option maxRecDepth 100000 in
set_option maxHeartbeats 4000000 in
theorem c_X2_hand {l : Launch} (hl : l.stackTraces = false) {n : Nat} {ρ : Nat → Nat} {J : Nat → Int64} {M : Mem} {k p : Nat} (hk : k < n) (hp : p < 40) (hpd : M 0 6 = nI p) {v : Int32} : CtO l yX2_hand cX2_hand 3 none 1 0 0 n ρ J M [.ref (ρ 0), .ref (ρ (mO k)), .int v] (rV (handM M k p v)) := by
  refine CtO.of hl (by decide +kernel) (Nat.le_of_ble_eq_true rfl) (fun Ξ hnL C => ?_)
  show E Ξ n ρ J M 0 0 0 [(0, .ref (ρ 0)), (1, .ref (ρ (mO k))), (2, .int v)] []
  refine e_aload_n (j := 1) C dX2_hand_0 rfl rfl ?_
  refine e_iload_n (j := 2) C dX2_hand_1 rfl rfl ?_
  refine e_put0 (k := 9) (kk0 := k) (ref := "ScripHollow$Miner") (ty := .int) C hk (by decide) rfl rfl (by decide +kernel) rfl rfl rfl mw_196 dX2_hand_2 ?_
  refine e_mem (M' := hd1 M k v) rfl ?_
  refine e_aload_n (j := 0) C dX2_hand_5 rfl rfl ?_
  refine e_get2 (k := 12) (ref := "ScripHollow") C (by decide) rfl rfl mw_224 dX2_hand_6 ?_
  refine e_if_eq (tgt := 32) C dX2_hand_9 (by decide) (fun c_9 => ?_) (fun c_9 => ?_)
  · refine e_aload_n (j := 1) C dX2_hand_32 rfl rfl ?_
    refine e_aload_n (j := 0) C dX2_hand_33 rfl rfl ?_
    refine e_get2 (k := 6) (ref := "ScripHollow") C (by decide) rfl rfl mw_195 dX2_hand_34 ?_
    refine e_iload_n (j := 2) C dX2_hand_37 rfl rfl ?_
    rw [show hd1 M k v 0 6 = nI p by unfold hd1; rw [up_ne ne_0O]; exact hpd]
    refine e_cV (i := (mO k)) (nA := 2) (Cn := RX0) C (c_X0_gainScrip hl hk (i := p) hp) rfl (cnt_O hk) (fun cA => cell_O cA n ρ J k _) rfl rfl mw_244 mw_241 mw_242 mw_243 mw_65 (by decide +kernel) (by decide) rfl rfl (Nat.le_of_ble_eq_true rfl) dX2_hand_38 (Nat.le_of_ble_eq_true rfl) (Nat.le_of_ble_eq_true rfl) ?_
    refine e_aload_n (j := 0) C dX2_hand_41 rfl rfl ?_
    refine e_get2 (k := 17) (ref := "ScripHollow") C (by decide) rfl rfl mw_38 dX2_hand_42 ?_
    refine e_iconst (v := 0) C dX2_hand_45 (by decide) ?_
    refine e_dup2 C dX2_hand_46 rfl rfl ?_
    refine e_ialdN 0 C (cnt_fix (by decide)) (fun _ => rfl) rfl (by decide) (by decide) dX2_hand_47 ?_
    refine e_iload_n (j := 2) C dX2_hand_48 rfl rfl ?_
    refine e_iadd C dX2_hand_49 ?_
    refine e_iastN 0 C (cnt_fix (by decide)) (fun _ _ => rfl) rfl (by decide) (by decide) dX2_hand_50 ?_
    refine e_mem (M' := hd2 M k p v) rfl ?_
    refine e_aload_n (j := 0) C dX2_hand_51 rfl rfl ?_
    refine e_aload_n (j := 1) C dX2_hand_52 rfl rfl ?_
    refine e_iconst (v := 0) C dX2_hand_53 (by decide) ?_
    refine e_iload_n (j := 2) C dX2_hand_54 rfl rfl ?_
    refine e_cV (i := 0) (nA := 3) (Cn := RX2) C (c_X2_breach hl hk (j := 0) (by omega)) rfl (cnt_fix (by decide)) (fun _ => rfl) rfl rfl mw_233 mw_230 mw_231 mw_232 mw_12 (by decide +kernel) (by decide) rfl rfl (Nat.le_of_ble_eq_true rfl) dX2_hand_55 (Nat.le_of_ble_eq_true rfl) (Nat.le_of_ble_eq_true rfl) ?_
    exact e_vret C rfl (Nat.le_of_ble_eq_true rfl) (Nat.le_of_ble_eq_true rfl) dX2_hand_58 (pO.mk (by unfold handM; (repeat (first | rw [if_pos c_9]))))
  · refine e_aload_n (j := 0) C dX2_hand_12 rfl rfl ?_
    refine e_get2 (k := 11) (ref := "ScripHollow") C (by decide) rfl rfl mw_37 dX2_hand_13 ?_
    refine e_iconst (v := 0) C dX2_hand_16 (by decide) ?_
    refine e_zaldN 0 C (cnt_fix (by decide)) (fun _ => rfl) rfl (by decide) (by decide) dX2_hand_17 ?_
    refine e_if_eq (tgt := 32) C dX2_hand_18 (by decide) (fun c_18 => ?_) (fun c_18 => ?_)
    · refine e_aload_n (j := 1) C dX2_hand_32 rfl rfl ?_
      refine e_aload_n (j := 0) C dX2_hand_33 rfl rfl ?_
      refine e_get2 (k := 6) (ref := "ScripHollow") C (by decide) rfl rfl mw_195 dX2_hand_34 ?_
      refine e_iload_n (j := 2) C dX2_hand_37 rfl rfl ?_
      rw [show hd1 M k v 0 6 = nI p by unfold hd1; rw [up_ne ne_0O]; exact hpd]
      refine e_cV (i := (mO k)) (nA := 2) (Cn := RX0) C (c_X0_gainScrip hl hk (i := p) hp) rfl (cnt_O hk) (fun cA => cell_O cA n ρ J k _) rfl rfl mw_244 mw_241 mw_242 mw_243 mw_65 (by decide +kernel) (by decide) rfl rfl (Nat.le_of_ble_eq_true rfl) dX2_hand_38 (Nat.le_of_ble_eq_true rfl) (Nat.le_of_ble_eq_true rfl) ?_
      refine e_aload_n (j := 0) C dX2_hand_41 rfl rfl ?_
      refine e_get2 (k := 17) (ref := "ScripHollow") C (by decide) rfl rfl mw_38 dX2_hand_42 ?_
      refine e_iconst (v := 0) C dX2_hand_45 (by decide) ?_
      refine e_dup2 C dX2_hand_46 rfl rfl ?_
      refine e_ialdN 0 C (cnt_fix (by decide)) (fun _ => rfl) rfl (by decide) (by decide) dX2_hand_47 ?_
      refine e_iload_n (j := 2) C dX2_hand_48 rfl rfl ?_
      refine e_iadd C dX2_hand_49 ?_
      refine e_iastN 0 C (cnt_fix (by decide)) (fun _ _ => rfl) rfl (by decide) (by decide) dX2_hand_50 ?_
      refine e_mem (M' := hd2 M k p v) rfl ?_
      refine e_aload_n (j := 0) C dX2_hand_51 rfl rfl ?_
      refine e_aload_n (j := 1) C dX2_hand_52 rfl rfl ?_
      refine e_iconst (v := 0) C dX2_hand_53 (by decide) ?_
      refine e_iload_n (j := 2) C dX2_hand_54 rfl rfl ?_
      refine e_cV (i := 0) (nA := 3) (Cn := RX2) C (c_X2_breach hl hk (j := 0) (by omega)) rfl (cnt_fix (by decide)) (fun _ => rfl) rfl rfl mw_233 mw_230 mw_231 mw_232 mw_12 (by decide +kernel) (by decide) rfl rfl (Nat.le_of_ble_eq_true rfl) dX2_hand_55 (Nat.le_of_ble_eq_true rfl) (Nat.le_of_ble_eq_true rfl) ?_
      exact e_vret C rfl (Nat.le_of_ble_eq_true rfl) (Nat.le_of_ble_eq_true rfl) dX2_hand_58 (pO.mk (by unfold handM; (repeat (first | rw [if_neg c_9] | rw [if_pos c_18]))))
    · refine e_aload_n (j := 1) C dX2_hand_21 rfl rfl ?_
      refine e_dup C dX2_hand_22 rfl ?_
      refine e_get0 (k := 5) (kk0 := k) (ref := "ScripHollow$Miner") C hk (by decide) rfl rfl mw_240 dX2_hand_23 ?_
      refine e_iload_n (j := 2) C dX2_hand_26 rfl rfl ?_
      refine e_iadd C dX2_hand_27 ?_
      refine e_put0 (k := 5) (kk0 := k) (ref := "ScripHollow$Miner") (ty := .int) C hk (by decide) rfl rfl (by decide +kernel) rfl rfl rfl mw_240 dX2_hand_28 ?_
      exact e_vret C rfl (Nat.le_of_ble_eq_true rfl) (Nat.le_of_ble_eq_true rfl) dX2_hand_31 (pO.mk (by unfold handM; (repeat (first | rw [if_neg c_9] | rw [if_neg c_18]))))
def sl0 (M : Mem) (v : Int32) : Mem := up (up (up (up M 3 0 v) 3 1 0) 3 2 0) 3 3 0
def set0 (M : Mem) (k : Nat) : Mem := up (sl0 M (M (mO k) 4 * M 2 0 / 10)) (mO k) 4 0
def kind (M : Mem) (pl : Int32) : Int32 := M 0 3 / pl - M 0 3 / pl / 10 * 10
def stepM (M : Mem) (k : Nat) (pl : Int32) : Mem := if o_pass M (kind M pl) = 0 then tk3 M (kind M pl) (o_due M k (kind M pl)) else M
def set5 (M : Mem) (k : Nat) : Mem := stepM (stepM (stepM (stepM (stepM (set0 M k) k 10000) k 1000) k 100) k 10) k 1
def set6 (N M : Mem) (k : Nat) : Mem := up N (mO k) 7 (o_due M k 1 - N 3 1)
def set7 (N : Mem) (k : Nat) : Mem := up N (mO k) 6 (N (mO k) 6 - N 3 2)
def set8 (N : Mem) (k : Nat) : Mem := breachM N k 1 (N 3 3)
def set9 (N : Mem) (k p : Nat) : Mem := handM N k p (N 3 0)
def setF (N : Mem) (k : Nat) : Mem := if N 2 1 ≤ 0 then N else if N (mO k) 7 ≤ 3 * N 2 1 then N else up N (mO k) 1 0
def setM (M : Mem) (k p : Nat) : Mem := setF (set9 (set8 (set7 (set6 (set5 M k) M k) k) k) k p) k
theorem tk3_ne {M : Mem} {c v : Int32} {i : Nat} (h : i ≠ 3) : tk3 M c v i = M i := by
  unfold tk3 tk2 tk1 tk0
  split <;> split <;> split <;> simp only [up_ne h]
theorem stepM_ne {M : Mem} {k : Nat} {pl : Int32} {i : Nat} (h : i ≠ 3) : stepM M k pl i = M i := by
  unfold stepM
  split
  · exact tk3_ne h
  · rfl
theorem breachM_0 {M : Mem} {k j : Nat} {v : Int32} {s : Nat} (h : s ≠ 13) : breachM M k j v 0 s = M 0 s := by
  unfold breachM
  split
  · split
    · rfl
    · split
      · rfl
      · rw [up_ne ne_0O, up_eq]
        unfold upd
        rw [if_neg h]
  · rfl
theorem set5_0 {M : Mem} {k : Nat} : set5 M k 0 = M 0 := by
  unfold set5
  rw [stepM_ne (by decide), stepM_ne (by decide), stepM_ne (by decide), stepM_ne (by decide), stepM_ne (by decide)]
  unfold set0 sl0
  rw [up_ne ne_0O, up_ne (by decide), up_ne (by decide), up_ne (by decide), up_ne (by decide)]
theorem set8_06 {N M : Mem} {k : Nat} : set8 (set7 (set6 N M k) k) k 0 6 = N 0 6 := by
  unfold set8
  rw [breachM_0 (by decide)]
  unfold set7 set6
  rw [up_ne ne_0O, up_ne ne_0O]
