/-! Settling, expiring. -/
set_option maxRecDepth 100000 in
set_option maxHeartbeats 4000000 in
theorem c_X2_settle {l : Launch} (hl : l.stackTraces = false) {n : Nat} {ρ : Nat → Nat} {J : Nat → Int64} {M : Mem} {k p : Nat} (hk : k < n) (hp : p < 40) (hpd : M 0 6 = nI p) : CtO l yX2_settle cX2_settle 5 none 2 0 0 n ρ J M [.ref (ρ 0), .ref (ρ (mO k))] (rV (setM M k p)) := by
  refine CtO.of hl (by decide +kernel) (Nat.le_of_ble_eq_true rfl) (fun Ξ hnL C => ?_)
  show E Ξ n ρ J M 0 0 0 [(0, .ref (ρ 0)), (1, .ref (ρ (mO k)))] []
  have loop : ∀ (N : Mem) (rd pl : Int32), ¬ pl = 0 → ¬ pl ≤ 0 → E Ξ n ρ J (stepM N k pl) 0 0 37 [(3, .int (pl / 10)), (2, .int rd), (0, .ref (ρ 0)), (1, .ref (ρ (mO k)))] [] → E Ξ n ρ J N 0 0 37 [(3, .int pl), (2, .int rd), (0, .ref (ρ 0)), (1, .ref (ρ (mO k)))] [] := by
    intro N rd pl hp0 hp1 hE
    refine e_iload_n (j := 0) C dX2_settle_37 rfl rfl ?_
    refine e_if_le (tgt := 85) C dX2_settle_38 (by decide) (fun c_38 => absurd c_38 hp1) (fun c_38 => ?_)
    refine e_aload_n (j := 2) C dX2_settle_41 rfl rfl ?_
    refine e_get2 (k := 3) (ref := "ScripHollow") C (by decide) rfl rfl mw_26 dX2_settle_42 ?_
    refine e_iload_n (j := 0) C dX2_settle_45 rfl rfl ?_
    refine e_idiv C dX2_settle_46 hp0 ?_
    refine e_bipush (v := 10) C dX2_settle_47 (by decide) ?_
    refine e_irem C dX2_settle_49 (by decide) ?_
    refine e_topi (fun x4_50 ex4_50 => ?_)
    refine e_istore (ls2 := [(4, .int x4_50), (3, .int pl), (2, .int rd), (0, .ref (ρ 0)), (1, .ref (ρ (mO k)))]) C hnL dX2_settle_50 (by decide) rfl ?_
    refine e_aload_n (j := 3) C dX2_settle_52 rfl rfl ?_
    refine e_iload (j := 0) C dX2_settle_53 rfl ?_
    refine e_cV (i := 0) (nA := 1) (Cn := RX2) C (c_X2_isPassedBy hl) rfl (cnt_fix (by decide)) (fun _ => rfl) rfl rfl mw_223 mw_220 mw_221 mw_222 mw_12 (by decide +kernel) (by decide) rfl rfl (Nat.le_of_ble_eq_true rfl) dX2_settle_55 (Nat.le_of_ble_eq_true rfl) (Nat.le_of_ble_eq_true rfl) ?_
    refine e_if_ne (tgt := 77) C dX2_settle_58 (by decide) (fun c_58 => ?_) (fun c_58 => ?_)
    · refine e_iload_n (j := 1) C dX2_settle_77 rfl rfl ?_
      refine e_bipush (v := 10) C dX2_settle_78 (by decide) ?_
      refine e_idiv C dX2_settle_80 (by decide) ?_
      refine e_topi (fun x3_81 ex3_81 => ?_)
      refine e_istore_n (ls2 := [(3, .int x3_81), (4, .int x4_50), (2, .int rd), (0, .ref (ρ 0)), (1, .ref (ρ (mO k)))]) C hnL dX2_settle_81 rfl (by decide) rfl ?_
      refine e_goto (tgt := 37) C dX2_settle_82 (by decide) ?_
      subst ex3_81 ex4_50
      first
        | exact e_sub [0, 2, 3, 4] rfl (e_mem (show N = stepM N k pl by unfold stepM kind; rw [if_neg (by assumption)]) hE)
        | exact e_sub [0, 2, 3, 4] rfl (e_mem (show tk3 N (kind N pl) (o_due N k (kind N pl)) = stepM N k pl by unfold stepM kind; rw [if_pos (by assumption)]) hE)
    · refine e_aload_n (j := 3) C dX2_settle_61 rfl rfl ?_
      refine e_get2 (k := 5) (ref := "ScripHollow") C (by decide) rfl rfl mw_31 dX2_settle_62 ?_
      refine e_iload (j := 0) C dX2_settle_65 rfl ?_
      refine e_aload_n (j := 3) C dX2_settle_67 rfl rfl ?_
      refine e_aload_n (j := 4) C dX2_settle_68 rfl rfl ?_
      refine e_iload (j := 0) C dX2_settle_69 rfl ?_
      refine e_cV (i := 0) (nA := 2) (Cn := RX2) C (c_X2_due hl hk) rfl (cnt_fix (by decide)) (fun _ => rfl) rfl rfl mw_211 mw_208 mw_209 mw_210 mw_12 (by decide +kernel) (by decide) rfl rfl (Nat.le_of_ble_eq_true rfl) dX2_settle_71 (Nat.le_of_ble_eq_true rfl) (Nat.le_of_ble_eq_true rfl) ?_
      refine e_cV (i := 3) (nA := 2) (Cn := RX1) C (c_X1_take hl) rfl (cnt_fix (by decide)) (fun _ => rfl) rfl rfl mw_228 mw_225 mw_226 mw_227 mw_30 (by decide +kernel) (by decide) rfl rfl (Nat.le_of_ble_eq_true rfl) dX2_settle_74 (Nat.le_of_ble_eq_true rfl) (Nat.le_of_ble_eq_true rfl) ?_
      refine e_iload_n (j := 1) C dX2_settle_77 rfl rfl ?_
      refine e_bipush (v := 10) C dX2_settle_78 (by decide) ?_
      refine e_idiv C dX2_settle_80 (by decide) ?_
      refine e_topi (fun x3_81 ex3_81 => ?_)
      refine e_istore_n (ls2 := [(3, .int x3_81), (4, .int x4_50), (2, .int rd), (0, .ref (ρ 0)), (1, .ref (ρ (mO k)))]) C hnL dX2_settle_81 rfl (by decide) rfl ?_
      refine e_goto (tgt := 37) C dX2_settle_82 (by decide) ?_
      subst ex3_81 ex4_50
      first
        | exact e_sub [0, 2, 3, 4] rfl (e_mem (show N = stepM N k pl by unfold stepM kind; rw [if_neg (by assumption)]) hE)
        | exact e_sub [0, 2, 3, 4] rfl (e_mem (show tk3 N (kind N pl) (o_due N k (kind N pl)) = stepM N k pl by unfold stepM kind; rw [if_pos (by assumption)]) hE)
  have tail : E Ξ n ρ J (set5 M k) 0 0 37 [(3, .int 0), (2, .int (o_due M k 1)), (0, .ref (ρ 0)), (1, .ref (ρ (mO k)))] [] := by
    generalize hN5 : set5 M k = N5
    refine e_iload_n (j := 0) C dX2_settle_37 rfl rfl ?_
    refine e_if_le (tgt := 85) C dX2_settle_38 (by decide) (fun c_38 => ?_) (fun c_38 => absurd (show (0 : Int32) ≤ 0 by decide) c_38)
    refine e_aload_n (j := 3) C dX2_settle_85 rfl rfl ?_
    refine e_iload_n (j := 1) C dX2_settle_86 rfl rfl ?_
    refine e_aload_n (j := 2) C dX2_settle_87 rfl rfl ?_
    refine e_get2 (k := 5) (ref := "ScripHollow") C (by decide) rfl rfl mw_31 dX2_settle_88 ?_
    refine e_get1 (k := 1) (ref := "ScripHollow$Slip") C (by decide) rfl rfl mw_201 dX2_settle_91 ?_
    refine e_isub C dX2_settle_94 ?_
    refine e_put0 (k := 7) (kk0 := k) (ref := "ScripHollow$Miner") (ty := .int) C hk (by decide) rfl rfl (by decide +kernel) rfl rfl rfl mw_202 dX2_settle_95 ?_
    refine e_mem (M' := set6 N5 M k) rfl ?_
    generalize hN6 : set6 N5 M k = N6
    refine e_aload_n (j := 3) C dX2_settle_98 rfl rfl ?_
    refine e_dup C dX2_settle_99 rfl ?_
    refine e_get0 (k := 6) (kk0 := k) (ref := "ScripHollow$Miner") C hk (by decide) rfl rfl mw_203 dX2_settle_100 ?_
    refine e_aload_n (j := 2) C dX2_settle_103 rfl rfl ?_
    refine e_get2 (k := 5) (ref := "ScripHollow") C (by decide) rfl rfl mw_31 dX2_settle_104 ?_
    refine e_get1 (k := 2) (ref := "ScripHollow$Slip") C (by decide) rfl rfl mw_204 dX2_settle_107 ?_
    refine e_isub C dX2_settle_110 ?_
    refine e_put0 (k := 6) (kk0 := k) (ref := "ScripHollow$Miner") (ty := .int) C hk (by decide) rfl rfl (by decide +kernel) rfl rfl rfl mw_203 dX2_settle_111 ?_
    refine e_mem (M' := set7 N6 k) rfl ?_
    generalize hN7 : set7 N6 k = N7
    refine e_aload_n (j := 2) C dX2_settle_114 rfl rfl ?_
    refine e_aload_n (j := 3) C dX2_settle_115 rfl rfl ?_
    refine e_iconst (v := 1) C dX2_settle_116 (by decide) ?_
    refine e_aload_n (j := 2) C dX2_settle_117 rfl rfl ?_
    refine e_get2 (k := 5) (ref := "ScripHollow") C (by decide) rfl rfl mw_31 dX2_settle_118 ?_
    refine e_get1 (k := 3) (ref := "ScripHollow$Slip") C (by decide) rfl rfl mw_205 dX2_settle_121 ?_
    refine e_cV (i := 0) (nA := 3) (Cn := RX2) C (c_X2_breach hl hk (j := 1) (by omega)) rfl (cnt_fix (by decide)) (fun _ => rfl) rfl rfl mw_233 mw_230 mw_231 mw_232 mw_12 (by decide +kernel) (by decide) rfl rfl (Nat.le_of_ble_eq_true rfl) dX2_settle_124 (Nat.le_of_ble_eq_true rfl) (Nat.le_of_ble_eq_true rfl) ?_
    refine e_mem (M' := set8 N7 k) rfl ?_
    generalize hN8 : set8 N7 k = N8
    have h86 : N8 0 6 = nI p := by rw [← hN8, ← hN7, ← hN6, set8_06, ← hN5, set5_0]; exact hpd
    refine e_aload_n (j := 2) C dX2_settle_127 rfl rfl ?_
    refine e_aload_n (j := 3) C dX2_settle_128 rfl rfl ?_
    refine e_aload_n (j := 2) C dX2_settle_129 rfl rfl ?_
    refine e_get2 (k := 5) (ref := "ScripHollow") C (by decide) rfl rfl mw_31 dX2_settle_130 ?_
    refine e_get1 (k := 0) (ref := "ScripHollow$Slip") C (by decide) rfl rfl mw_206 dX2_settle_133 ?_
    refine e_cV (i := 0) (nA := 2) (Cn := RX2) C (c_X2_hand hl hk hp h86) rfl (cnt_fix (by decide)) (fun _ => rfl) rfl rfl mw_239 mw_236 mw_237 mw_238 mw_12 (by decide +kernel) (by decide) rfl rfl (Nat.le_of_ble_eq_true rfl) dX2_settle_136 (Nat.le_of_ble_eq_true rfl) (Nat.le_of_ble_eq_true rfl) ?_
    refine e_mem (M' := set9 N8 k p) rfl ?_
    generalize hN9 : set9 N8 k p = N9
    have hM9 : setM M k p = setF N9 k := by unfold setM; rw [hN5, hN6, hN7, hN8, hN9]
    refine e_aload_n (j := 2) C dX2_settle_139 rfl rfl ?_
    refine e_get2 (k := 4) (ref := "ScripHollow") C (by decide) rfl rfl mw_27 dX2_settle_140 ?_
    refine e_iconst (v := 1) C dX2_settle_143 (by decide) ?_
    refine e_ialdN 1 C (cnt_fix (by decide)) (fun _ => rfl) rfl (by decide) (by decide) dX2_settle_144 ?_
    refine e_if_le (tgt := 168) C dX2_settle_145 (by decide) (fun c_145 => ?_) (fun c_145 => ?_)
    · exact e_vret C rfl (Nat.le_of_ble_eq_true rfl) (Nat.le_of_ble_eq_true rfl) dX2_settle_168 (pO.mk (by rw [hM9]; unfold setF; (repeat (first | rw [if_pos c_38] | rw [if_pos c_145]))))
    · refine e_aload_n (j := 3) C dX2_settle_148 rfl rfl ?_
      refine e_get0 (k := 7) (kk0 := k) (ref := "ScripHollow$Miner") C hk (by decide) rfl rfl mw_202 dX2_settle_149 ?_
      refine e_iconst (v := 3) C dX2_settle_152 (by decide) ?_
      refine e_aload_n (j := 2) C dX2_settle_153 rfl rfl ?_
      refine e_get2 (k := 4) (ref := "ScripHollow") C (by decide) rfl rfl mw_27 dX2_settle_154 ?_
      refine e_iconst (v := 1) C dX2_settle_157 (by decide) ?_
      refine e_ialdN 1 C (cnt_fix (by decide)) (fun _ => rfl) rfl (by decide) (by decide) dX2_settle_158 ?_
      refine e_imul C dX2_settle_159 ?_
      refine e_icmp_le (tgt := 168) C dX2_settle_160 (by decide) (fun c_160 => ?_) (fun c_160 => ?_)
      · exact e_vret C rfl (Nat.le_of_ble_eq_true rfl) (Nat.le_of_ble_eq_true rfl) dX2_settle_168 (pO.mk (by rw [hM9]; unfold setF; (repeat (first | rw [if_pos c_38] | rw [if_neg c_145] | rw [if_pos c_160]))))
      · refine e_aload_n (j := 3) C dX2_settle_163 rfl rfl ?_
        refine e_iconst (v := 0) C dX2_settle_164 (by decide) ?_
        refine e_put0 (k := 1) (kk0 := k) (ref := "ScripHollow$Miner") (ty := .boolean) C hk (by decide) rfl rfl (by decide +kernel) rfl rfl rfl mw_207 dX2_settle_165 ?_
        exact e_vret C rfl (Nat.le_of_ble_eq_true rfl) (Nat.le_of_ble_eq_true rfl) dX2_settle_168 (pO.mk (by rw [hM9]; unfold setF; (repeat (first | rw [if_pos c_38] | rw [if_neg c_145] | rw [if_neg c_160]))))
  refine e_aload_n (j := 0) C dX2_settle_0 rfl rfl ?_
  refine e_aload_n (j := 1) C dX2_settle_1 rfl rfl ?_
  refine e_iconst (v := 1) C dX2_settle_2 (by decide) ?_
  refine e_cV (i := 0) (nA := 2) (Cn := RX2) C (c_X2_due hl hk) rfl (cnt_fix (by decide)) (fun _ => rfl) rfl rfl mw_211 mw_208 mw_209 mw_210 mw_12 (by decide +kernel) (by decide) rfl rfl (Nat.le_of_ble_eq_true rfl) dX2_settle_3 (Nat.le_of_ble_eq_true rfl) (Nat.le_of_ble_eq_true rfl) ?_
  refine e_topi (fun x2_6 ex2_6 => ?_)
  refine e_istore_n (ls2 := [(2, .int x2_6), (0, .ref (ρ 0)), (1, .ref (ρ (mO k)))]) C hnL dX2_settle_6 rfl (by decide) rfl ?_
  refine e_aload_n (j := 1) C dX2_settle_7 rfl rfl ?_
  refine e_get2 (k := 5) (ref := "ScripHollow") C (by decide) rfl rfl mw_31 dX2_settle_8 ?_
  refine e_aload_n (j := 2) C dX2_settle_11 rfl rfl ?_
  refine e_get0 (k := 4) (kk0 := k) (ref := "ScripHollow$Miner") C hk (by decide) rfl rfl mw_145 dX2_settle_12 ?_
  refine e_aload_n (j := 1) C dX2_settle_15 rfl rfl ?_
  refine e_get2 (k := 4) (ref := "ScripHollow") C (by decide) rfl rfl mw_27 dX2_settle_16 ?_
  refine e_iconst (v := 0) C dX2_settle_19 (by decide) ?_
  refine e_ialdN 0 C (cnt_fix (by decide)) (fun _ => rfl) rfl (by decide) (by decide) dX2_settle_20 ?_
  refine e_imul C dX2_settle_21 ?_
  refine e_bipush (v := 10) C dX2_settle_22 (by decide) ?_
  refine e_idiv C dX2_settle_24 (by decide) ?_
  refine e_cV (i := 3) (nA := 1) (Cn := RX1) C (c_X1_open hl) rfl (cnt_fix (by decide)) (fun _ => rfl) rfl rfl mw_215 mw_212 mw_213 mw_214 mw_30 (by decide +kernel) (by decide) rfl rfl (Nat.le_of_ble_eq_true rfl) dX2_settle_25 (Nat.le_of_ble_eq_true rfl) (Nat.le_of_ble_eq_true rfl) ?_
  refine e_aload_n (j := 2) C dX2_settle_28 rfl rfl ?_
  refine e_iconst (v := 0) C dX2_settle_29 (by decide) ?_
  refine e_put0 (k := 4) (kk0 := k) (ref := "ScripHollow$Miner") (ty := .int) C hk (by decide) rfl rfl (by decide +kernel) rfl rfl rfl mw_145 dX2_settle_30 ?_
  refine e_mem (M' := set0 M k) rfl ?_
  refine e_sipush (v := 10000) C dX2_settle_33 (by decide) ?_
  refine e_istore_n (ls2 := [(3, .int 10000), (2, .int x2_6), (0, .ref (ρ 0)), (1, .ref (ρ (mO k)))]) C hnL dX2_settle_36 rfl (by decide) rfl ?_
  subst ex2_6
  refine e_sub [0, 1, 2, 3] rfl (loop _ _ _ (by decide) (by decide) ?_)
  rw [show (10000 : Int32) / 10 = 1000 by decide +kernel]
  refine loop _ _ _ (by decide) (by decide) ?_
  rw [show (1000 : Int32) / 10 = 100 by decide +kernel]
  refine loop _ _ _ (by decide) (by decide) ?_
  rw [show (100 : Int32) / 10 = 10 by decide +kernel]
  refine loop _ _ _ (by decide) (by decide) ?_
  rw [show (10 : Int32) / 10 = 1 by decide +kernel]
  refine loop _ _ _ (by decide) (by decide) ?_
  rw [show (1 : Int32) / 10 = 0 by decide +kernel]
  exact tail
def exM (M : Mem) (i : Nat) : Nat → Mem
  | 0 => M
  | j + 1 => up (lose (exM M i j) j i (exM M i j (mS j) i)) 7 3 (exM M i j 7 3 + mn (exM M i j (mS j) i) (exM M i j (mS j) i))
set_option maxRecDepth 100000 in
set_option maxHeartbeats 4000000 in
theorem c_X2_expire {l : Launch} (hl : l.stackTraces = false) {n : Nat} {ρ : Nat → Nat} {J : Nat → Int64} {M : Mem} (hn : n ≤ 10) {i : Nat} (hi : i < 40) : CtO l yX2_expire cX2_expire 4 none 3 0 0 n ρ J M [.ref (ρ 0), .int (nI i)] (rV (exM M i n)) := by
  refine CtO.of hl (by decide +kernel) (Nat.le_of_ble_eq_true rfl) (fun Ξ hnL C => ?_)
  show E Ξ n ρ J M 0 0 0 [(0, .ref (ρ 0)), (1, .int (nI i))] []
  have loop : ∀ (f j : Nat), j + f = n → E Ξ n ρ J (exM M i j) 0 0 2 [(2, .int (nI j)), (0, .ref (ρ 0)), (1, .int (nI i))] [] := by
    intro f
    induction f with
    | zero =>
      intro j hjf
      have hjn : j = n := by omega
      refine e_iload_n (j := 0) C dX2_expire_2 rfl rfl ?_
      refine e_aload_n (j := 1) C dX2_expire_3 rfl rfl ?_
      refine e_get2 (k := 0) (ref := "ScripHollow") C (by decide) rfl rfl mw_24 dX2_expire_4 ?_
      refine e_cV (i := 1) (nA := 0) (Cn := RJx4a65c) C (c_JL_size hl) rfl (cnt_fix (by decide)) (fun _ => rfl) rfl rfl mw_69 mw_66 mw_67 mw_68 mw_23 (by decide +kernel) (by decide) rfl rfl (Nat.le_of_ble_eq_true rfl) dX2_expire_7 (Nat.le_of_ble_eq_true rfl) (Nat.le_of_ble_eq_true rfl) ?_
      refine e_icmp_ge (tgt := 51) C dX2_expire_10 (by decide) (fun c_10 => ?_) (fun c_10 => absurd (nI_le (by omega) (by omega)) c_10)
      exact e_vret C rfl (Nat.le_of_ble_eq_true rfl) (Nat.le_of_ble_eq_true rfl) dX2_expire_51 (pO.mk (by rw [hjn]))
    | succ f ih =>
      intro j hjf
      have hj : j < n := by omega
      refine e_iload_n (j := 0) C dX2_expire_2 rfl rfl ?_
      refine e_aload_n (j := 1) C dX2_expire_3 rfl rfl ?_
      refine e_get2 (k := 0) (ref := "ScripHollow") C (by decide) rfl rfl mw_24 dX2_expire_4 ?_
      refine e_cV (i := 1) (nA := 0) (Cn := RJx4a65c) C (c_JL_size hl) rfl (cnt_fix (by decide)) (fun _ => rfl) rfl rfl mw_69 mw_66 mw_67 mw_68 mw_23 (by decide +kernel) (by decide) rfl rfl (Nat.le_of_ble_eq_true rfl) dX2_expire_7 (Nat.le_of_ble_eq_true rfl) (Nat.le_of_ble_eq_true rfl) ?_
      refine e_icmp_ge (tgt := 51) C dX2_expire_10 (by decide) (fun c_10 => absurd c_10 (nI_ge hj (by omega))) (fun c_10 => ?_)
      refine e_aload_n (j := 1) C dX2_expire_13 rfl rfl ?_
      refine e_get2 (k := 0) (ref := "ScripHollow") C (by decide) rfl rfl mw_24 dX2_expire_14 ?_
      refine e_iload_n (j := 0) C dX2_expire_17 rfl rfl ?_
      refine e_cV (i := 1) (nA := 1) (Cn := RJx4a65c) C (c_JL_get hl hj hn) rfl (cnt_fix (by decide)) (fun _ => rfl) rfl rfl mw_160 mw_157 mw_158 mw_159 mw_23 (by decide +kernel) (by decide) rfl rfl (Nat.le_of_ble_eq_true rfl) dX2_expire_18 (Nat.le_of_ble_eq_true rfl) (Nat.le_of_ble_eq_true rfl) ?_
      refine e_castM C hj mw_63 dX2_expire_21 ?_
      refine e_astore_n (ls2 := [(3, .ref (ρ (mO j))), (2, .int (nI j)), (0, .ref (ρ 0)), (1, .int (nI i))]) C hnL dX2_expire_24 rfl (by decide) rfl ?_
      refine e_aload_n (j := 2) C dX2_expire_25 rfl rfl ?_
      refine e_get2 (k := 17) (ref := "ScripHollow") C (by decide) rfl rfl mw_38 dX2_expire_26 ?_
      refine e_iconst (v := 3) C dX2_expire_29 (by decide) ?_
      refine e_dup2 C dX2_expire_30 rfl rfl ?_
      refine e_ialdN 3 C (cnt_fix (by decide)) (fun _ => rfl) rfl (by decide) (by decide) dX2_expire_31 ?_
      refine e_aload_n (j := 0) C dX2_expire_32 rfl rfl ?_
      refine e_iload_n (j := 3) C dX2_expire_33 rfl rfl ?_
      refine e_aload_n (j := 0) C dX2_expire_34 rfl rfl ?_
      refine e_get0 (k := 11) (kk0 := j) (ref := "ScripHollow$Miner") C hj (by decide) rfl rfl mw_250 dX2_expire_35 ?_
      refine e_iload_n (j := 3) C dX2_expire_38 rfl rfl ?_
      refine e_ialdN i C (cnt_S hj) (fun cA => cell_S cA n ρ J j _) rfl (by omega) (by decide) dX2_expire_39 ?_
      refine e_cV (i := (mO j)) (nA := 2) (Cn := RX0) C (c_X0_loseScrip hl hj hi) rfl (cnt_O hj) (fun cA => cell_O cA n ρ J j _) rfl rfl mw_254 mw_251 mw_252 mw_253 mw_65 (by decide +kernel) (by decide) rfl rfl (Nat.le_of_ble_eq_true rfl) dX2_expire_40 (Nat.le_of_ble_eq_true rfl) (Nat.le_of_ble_eq_true rfl) ?_
      refine e_iadd C dX2_expire_43 ?_
      refine e_iastN 3 C (cnt_fix (by decide)) (fun _ _ => rfl) rfl (by decide) (by decide) dX2_expire_44 ?_
      obtain ⟨x2_45, ex2_45⟩ : ∃ z : Int32, z = (nI j) + 1 := ⟨_, rfl⟩
      refine e_iinc (j := 1) (v := x2_45) (ls2 := [(2, .int x2_45), (3, .ref (ρ (mO j))), (0, .ref (ρ 0)), (1, .int (nI i))]) C hnL dX2_expire_45 rfl (by rw [ex2_45]; rfl) (by decide) rfl ?_
      refine e_goto (tgt := 2) C dX2_expire_48 (by decide) ?_
      subst ex2_45
      rw [nI_1]
      exact e_sub [0, 2, 3] rfl (ih (j + 1) (by omega))
  refine e_iconst (v := 0) C dX2_expire_0 (by decide) ?_
  refine e_istore_n (ls2 := [(2, .int 0), (0, .ref (ρ 0)), (1, .int (nI i))]) C hnL dX2_expire_1 rfl (by decide) rfl ?_
  exact e_sub [0, 1, 2] rfl (loop n 0 (by omega))
