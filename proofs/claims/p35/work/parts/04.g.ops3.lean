/-! Paydays, soup, closing, heirs, death: the loops over the miners. -/
theorem e_cnt {Ξ : CT} {n : Nat} {ρ : Nat → Nat} {J : Nat → Int64} {M : Mem} {a a' b b' pc : Nat} {ls : List (Nat × Value)} {st : List Value} (h1 : a = a') (h2 : b = b') (kk : E Ξ n ρ J M a' b' pc ls st) : E Ξ n ρ J M a b pc ls st := by subst h1; subst h2; exact kk
theorem gt4 : ∀ p : Nat, p < 41 → ∀ j : Nat, j < 41 → p < j + 4 → nI p - 4 < nI j := by decide +kernel
theorem le4 : ∀ p : Nat, p < 41 → ∀ j : Nat, j < 41 → j + 4 ≤ p → ¬ nI p - 4 < nI j := by decide +kernel
def payS (M : Mem) (p : Nat) : Nat → Mem × Int32
  | 0 => (M, 0)
  | j + 1 => if (payS M p j).1 (mO j) 0 = 0 then payS M p j else (setM (payS M p j).1 j p, (payS M p j).2 + setM (payS M p j).1 j p (mO j) 9)
theorem payS_s (M : Mem) (p j : Nat) : payS M p (j + 1) = if (payS M p j).1 (mO j) 0 = 0 then payS M p j else (setM (payS M p j).1 j p, (payS M p j).2 + setM (payS M p j).1 j p (mO j) 9) := rfl
def expS (M : Mem) (n : Nat) : Nat → Mem
  | 0 => M
  | i + 1 => exM (expS M n i) i n
def payE (M : Mem) (n p : Nat) : Mem := expS (payS M p n).1 n (p - 3)
def payF (M : Mem) (n p : Nat) : Mem := up (payE M n p) 0 6 (payE M n p 0 6 + 1)
def o_payday (M : Mem) (n p : Nat) : Out := if 40 ≤ M 0 6 then rX IS M else if M 0 15 = 0 then rI (payS M p n).2 (payF M n p) else rX IS M
theorem gain_0 {M : Mem} {k i : Nat} {v : Int32} : gain M k i v 0 = M 0 := by unfold gain; rw [up_ne ne_0O, up_ne (show (0 : Nat) ≠ mS k by unfold mS; omega)]
theorem lose_0 {M : Mem} {k i : Nat} {v : Int32} : lose M k i v 0 = M 0 := by unfold lose; rw [up_ne ne_0O, up_ne (show (0 : Nat) ≠ mS k by unfold mS; omega)]
theorem handM_06 {M : Mem} {k p : Nat} {v : Int32} : handM M k p v 0 6 = M 0 6 := by
  unfold handM
  have h1 : hd1 M k v 0 = M 0 := by unfold hd1; rw [up_ne ne_0O]
  have h2 : hd2 M k p v 0 = M 0 := by unfold hd2; rw [up_ne (by decide), gain_0, h1]
  split
  · rw [breachM_0 (by decide), h2]
  · split
    · rw [breachM_0 (by decide), h2]
    · rw [up_ne ne_0O, h1]
theorem setM_06 {M : Mem} {k p : Nat} : setM M k p 0 6 = M 0 6 := by
  have h : set9 (set8 (set7 (set6 (set5 M k) M k) k) k) k p 0 6 = M 0 6 := by unfold set9; rw [handM_06, set8_06, set5_0]
  unfold setM setF
  split
  · exact h
  · split
    · exact h
    · rw [up_ne ne_0O]; exact h
theorem payS_06 {M : Mem} {p : Nat} : ∀ j : Nat, (payS M p j).1 0 6 = M 0 6
  | 0 => rfl
  | j + 1 => by
    rw [payS_s]
    split
    · exact payS_06 j
    · exact setM_06.trans (payS_06 j)
theorem exM_06 {M : Mem} {i : Nat} : ∀ j : Nat, exM M i j 0 6 = M 0 6
  | 0 => rfl
  | j + 1 => by
    unfold exM
    rw [up_ne (by decide), lose_0]
    exact exM_06 j
theorem expS_06 {M : Mem} {n : Nat} : ∀ i : Nat, expS M n i 0 6 = M 0 6
  | 0 => rfl
  | i + 1 => by
    unfold expS
    rw [exM_06]
    exact expS_06 i
set_option maxRecDepth 100000 in
set_option maxHeartbeats 4000000 in
theorem c_X2_payday {l : Launch} (hl : l.stackTraces = false) {n : Nat} {ρ : Nat → Nat} {J : Nat → Int64} {M : Mem} (hn : n ≤ 10) {p : Nat} (hp : p ≤ 40) (hpd : M 0 6 = nI p) : CtO l yX2_payday cX2_payday 4 (some .int) 6 1 6 n ρ J M [.ref (ρ 0)] (o_payday M n p) := by
  refine CtO.of hl (by decide +kernel) (Nat.le_of_ble_eq_true rfl) (fun Ξ hnL C => ?_)
  show E Ξ n ρ J M 0 0 0 [(0, .ref (ρ 0))] []
  by_cases hz4 : 40 ≤ M 0 6
  · refine e_aload_n (j := 0) C dX2_payday_0 rfl rfl ?_
    refine e_get2 (k := 6) (ref := "ScripHollow") C (by decide) rfl rfl mw_195 dX2_payday_1 ?_
    refine e_bipush (v := 40) C dX2_payday_4 (by decide) ?_
    refine e_icmp_ge (tgt := 16) C dX2_payday_6 (by decide) (fun c_6 => ?_) (fun c_6 => absurd hz4 c_6)
    exact e_throw (text := "no payday can be held") C th_IS mw_61 mw_62 (by decide) rfl rfl dX2_payday_16 dX2_payday_19 dX2_payday_20 dX2_payday_22 dX2_payday_25 (by decide) (Nat.le_of_ble_eq_true rfl) (Nat.le_of_ble_eq_true rfl) (Nat.le_of_ble_eq_true rfl) (Nat.le_of_ble_eq_true rfl) (Nat.le_of_ble_eq_true rfl) (xO.mk (by unfold o_payday; rw [if_pos hz4]))
  · by_cases hz5 : M 0 15 = 0
    · have hp4 : p < 40 := by
        rcases Nat.lt_or_ge p 40 with z1 | z1
        · exact z1
        · exact absurd (show (40 : Int32) ≤ M 0 6 by rw [hpd]; exact nI_le (a := 40) z1 (by omega)) hz4
      have loop2 : ∀ (f j : Nat), j + f = p - 3 → E Ξ n ρ J (expS (payS M p n).1 n j) 0 0 80 [(2, .int (nI j)), (1, .int (payS M p n).2), (0, .ref (ρ 0))] [] := by
        intro f
        induction f with
        | zero =>
          intro j hjf
          have hjn : j = p - 3 := by omega
          have h6 : expS (payS M p n).1 n j 0 6 = nI p := (expS_06 j).trans ((payS_06 n).trans hpd)
          generalize hNE : expS (payS M p n).1 n j = NE at h6 ⊢
          refine e_iload_n (j := 0) C dX2_payday_80 rfl rfl ?_
          refine e_aload_n (j := 2) C dX2_payday_81 rfl rfl ?_
          refine e_get2 (k := 6) (ref := "ScripHollow") C (by decide) rfl rfl mw_195 dX2_payday_82 ?_
          refine e_iconst (v := 4) C dX2_payday_85 (by decide) ?_
          refine e_isub C dX2_payday_86 ?_
          refine e_icmp_gt (tgt := 101) C dX2_payday_87 (by decide) (fun c_87 => ?_) (fun c_87 => absurd (by rw [h6]; exact gt4 p (by omega) j (by omega) (by omega)) c_87)
          refine e_aload_n (j := 2) C dX2_payday_101 rfl rfl ?_
          refine e_dup C dX2_payday_102 rfl ?_
          refine e_get2 (k := 6) (ref := "ScripHollow") C (by decide) rfl rfl mw_195 dX2_payday_103 ?_
          refine e_iconst (v := 1) C dX2_payday_106 (by decide) ?_
          refine e_iadd C dX2_payday_107 ?_
          refine e_put2 (k := 6) (ref := "ScripHollow") (ty := .int) C (by decide) rfl rfl (by decide +kernel) rfl rfl rfl mw_195 dX2_payday_108 ?_
          refine e_iload_n (j := 1) C dX2_payday_111 rfl rfl ?_
          exact e_iret C rfl (Nat.le_of_ble_eq_true rfl) (Nat.le_of_ble_eq_true rfl) dX2_payday_112 (pO.mk (by unfold o_payday payF payE; rw [if_neg hz4, if_pos hz5, ← hjn, hNE]))
        | succ f ih =>
          intro j hjf
          have h6 : expS (payS M p n).1 n j 0 6 = nI p := (expS_06 j).trans ((payS_06 n).trans hpd)
          refine e_iload_n (j := 0) C dX2_payday_80 rfl rfl ?_
          refine e_aload_n (j := 2) C dX2_payday_81 rfl rfl ?_
          refine e_get2 (k := 6) (ref := "ScripHollow") C (by decide) rfl rfl mw_195 dX2_payday_82 ?_
          refine e_iconst (v := 4) C dX2_payday_85 (by decide) ?_
          refine e_isub C dX2_payday_86 ?_
          refine e_icmp_gt (tgt := 101) C dX2_payday_87 (by decide) (fun c_87 => absurd c_87 (by rw [h6]; exact le4 p (by omega) j (by omega) (by omega))) (fun c_87 => ?_)
          refine e_aload_n (j := 2) C dX2_payday_90 rfl rfl ?_
          refine e_iload_n (j := 0) C dX2_payday_91 rfl rfl ?_
          refine e_cV (i := 0) (nA := 1) (Cn := RX2) C (c_X2_expire hl hn (i := j) (by omega)) rfl (cnt_fix (by decide)) (fun _ => rfl) rfl rfl mw_249 mw_246 mw_247 mw_248 mw_12 (by decide +kernel) (by decide) rfl rfl (Nat.le_of_ble_eq_true rfl) dX2_payday_92 (Nat.le_of_ble_eq_true rfl) (Nat.le_of_ble_eq_true rfl) ?_
          obtain ⟨x2_95, ex2_95⟩ : ∃ z : Int32, z = (nI j) + 1 := ⟨_, rfl⟩
          refine e_iinc (j := 0) (v := x2_95) (ls2 := [(2, .int x2_95), (1, .int (payS M p n).2), (0, .ref (ρ 0))]) C hnL dX2_payday_95 rfl (by rw [ex2_95]; rfl) (by decide) rfl ?_
          refine e_goto (tgt := 80) C dX2_payday_98 (by decide) ?_
          subst ex2_95
          rw [nI_1]
          exact e_sub [0, 1, 2] rfl (ih (j + 1) (by omega))
      have loop : ∀ (f j : Nat), j + f = n → E Ξ n ρ J (payS M p j).1 0 0 30 [(2, .int (nI j)), (1, .int (payS M p j).2), (0, .ref (ρ 0))] [] := by
        intro f
        induction f with
        | zero =>
          intro j hjf
          have hjn : j = n := by omega
          refine e_iload_n (j := 0) C dX2_payday_30 rfl rfl ?_
          refine e_aload_n (j := 2) C dX2_payday_31 rfl rfl ?_
          refine e_get2 (k := 0) (ref := "ScripHollow") C (by decide) rfl rfl mw_24 dX2_payday_32 ?_
          refine e_cV (i := 1) (nA := 0) (Cn := RJx4a65c) C (c_JL_size hl) rfl (cnt_fix (by decide)) (fun _ => rfl) rfl rfl mw_69 mw_66 mw_67 mw_68 mw_23 (by decide +kernel) (by decide) rfl rfl (Nat.le_of_ble_eq_true rfl) dX2_payday_35 (Nat.le_of_ble_eq_true rfl) (Nat.le_of_ble_eq_true rfl) ?_
          refine e_icmp_ge (tgt := 78) C dX2_payday_38 (by decide) (fun c_38 => ?_) (fun c_38 => absurd (nI_le (by omega) (by omega)) c_38)
          refine e_iconst (v := 0) C dX2_payday_78 (by decide) ?_
          refine e_istore_n (ls2 := [(2, .int 0), (1, .int (payS M p j).2), (0, .ref (ρ 0))]) C hnL dX2_payday_79 rfl (by decide) rfl ?_
          rw [hjn]
          exact e_sub [0, 1, 2] rfl (loop2 (p - 3) 0 (by omega))
        | succ f ih =>
          intro j hjf
          have hj : j < n := by omega
          have ih2 := ih (j + 1) (by omega)
          rw [payS_s] at ih2
          by_cases hz6 : (payS M p j).1 (mO j) 0 = 0
          · rw [if_pos hz6] at ih2
            refine e_iload_n (j := 0) C dX2_payday_30 rfl rfl ?_
            refine e_aload_n (j := 2) C dX2_payday_31 rfl rfl ?_
            refine e_get2 (k := 0) (ref := "ScripHollow") C (by decide) rfl rfl mw_24 dX2_payday_32 ?_
            refine e_cV (i := 1) (nA := 0) (Cn := RJx4a65c) C (c_JL_size hl) rfl (cnt_fix (by decide)) (fun _ => rfl) rfl rfl mw_69 mw_66 mw_67 mw_68 mw_23 (by decide +kernel) (by decide) rfl rfl (Nat.le_of_ble_eq_true rfl) dX2_payday_35 (Nat.le_of_ble_eq_true rfl) (Nat.le_of_ble_eq_true rfl) ?_
            refine e_icmp_ge (tgt := 78) C dX2_payday_38 (by decide) (fun c_38 => absurd c_38 (nI_ge hj (by omega))) (fun c_38 => ?_)
            refine e_aload_n (j := 2) C dX2_payday_41 rfl rfl ?_
            refine e_get2 (k := 0) (ref := "ScripHollow") C (by decide) rfl rfl mw_24 dX2_payday_42 ?_
            refine e_iload_n (j := 0) C dX2_payday_45 rfl rfl ?_
            refine e_cV (i := 1) (nA := 1) (Cn := RJx4a65c) C (c_JL_get hl hj hn) rfl (cnt_fix (by decide)) (fun _ => rfl) rfl rfl mw_160 mw_157 mw_158 mw_159 mw_23 (by decide +kernel) (by decide) rfl rfl (Nat.le_of_ble_eq_true rfl) dX2_payday_46 (Nat.le_of_ble_eq_true rfl) (Nat.le_of_ble_eq_true rfl) ?_
            refine e_castM C hj mw_63 dX2_payday_49 ?_
            refine e_astore_n (ls2 := [(3, .ref (ρ (mO j))), (2, .int (nI j)), (1, .int (payS M p j).2), (0, .ref (ρ 0))]) C hnL dX2_payday_52 rfl (by decide) rfl ?_
            refine e_aload_n (j := 0) C dX2_payday_53 rfl rfl ?_
            refine e_get0 (k := 0) (kk0 := j) (ref := "ScripHollow$Miner") C hj (by decide) rfl rfl mw_181 dX2_payday_54 ?_
            refine e_if_eq (tgt := 72) C dX2_payday_57 (by decide) (fun c_57 => ?_) (fun c_57 => absurd hz6 c_57)
            obtain ⟨x2_72, ex2_72⟩ : ∃ z : Int32, z = (nI j) + 1 := ⟨_, rfl⟩
            refine e_iinc (j := 1) (v := x2_72) (ls2 := [(2, .int x2_72), (3, .ref (ρ (mO j))), (1, .int (payS M p j).2), (0, .ref (ρ 0))]) C hnL dX2_payday_72 rfl (by rw [ex2_72]; rfl) (by decide) rfl ?_
            refine e_goto (tgt := 30) C dX2_payday_75 (by decide) ?_
            subst ex2_72
            rw [nI_1]
            exact e_sub [0, 2, 3] rfl ih2
          · rw [if_neg hz6] at ih2
            refine e_iload_n (j := 0) C dX2_payday_30 rfl rfl ?_
            refine e_aload_n (j := 2) C dX2_payday_31 rfl rfl ?_
            refine e_get2 (k := 0) (ref := "ScripHollow") C (by decide) rfl rfl mw_24 dX2_payday_32 ?_
            refine e_cV (i := 1) (nA := 0) (Cn := RJx4a65c) C (c_JL_size hl) rfl (cnt_fix (by decide)) (fun _ => rfl) rfl rfl mw_69 mw_66 mw_67 mw_68 mw_23 (by decide +kernel) (by decide) rfl rfl (Nat.le_of_ble_eq_true rfl) dX2_payday_35 (Nat.le_of_ble_eq_true rfl) (Nat.le_of_ble_eq_true rfl) ?_
            refine e_icmp_ge (tgt := 78) C dX2_payday_38 (by decide) (fun c_38 => absurd c_38 (nI_ge hj (by omega))) (fun c_38 => ?_)
            refine e_aload_n (j := 2) C dX2_payday_41 rfl rfl ?_
            refine e_get2 (k := 0) (ref := "ScripHollow") C (by decide) rfl rfl mw_24 dX2_payday_42 ?_
            refine e_iload_n (j := 0) C dX2_payday_45 rfl rfl ?_
            refine e_cV (i := 1) (nA := 1) (Cn := RJx4a65c) C (c_JL_get hl hj hn) rfl (cnt_fix (by decide)) (fun _ => rfl) rfl rfl mw_160 mw_157 mw_158 mw_159 mw_23 (by decide +kernel) (by decide) rfl rfl (Nat.le_of_ble_eq_true rfl) dX2_payday_46 (Nat.le_of_ble_eq_true rfl) (Nat.le_of_ble_eq_true rfl) ?_
            refine e_castM C hj mw_63 dX2_payday_49 ?_
            refine e_astore_n (ls2 := [(3, .ref (ρ (mO j))), (2, .int (nI j)), (1, .int (payS M p j).2), (0, .ref (ρ 0))]) C hnL dX2_payday_52 rfl (by decide) rfl ?_
            refine e_aload_n (j := 0) C dX2_payday_53 rfl rfl ?_
            refine e_get0 (k := 0) (kk0 := j) (ref := "ScripHollow$Miner") C hj (by decide) rfl rfl mw_181 dX2_payday_54 ?_
            refine e_if_eq (tgt := 72) C dX2_payday_57 (by decide) (fun c_57 => absurd c_57 hz6) (fun c_57 => ?_)
            refine e_aload_n (j := 3) C dX2_payday_60 rfl rfl ?_
            refine e_aload_n (j := 0) C dX2_payday_61 rfl rfl ?_
            refine e_cV (i := 0) (nA := 1) (Cn := RX2) C (c_X2_settle hl hj hp4 ((payS_06 j).trans hpd)) rfl (cnt_fix (by decide)) (fun _ => rfl) rfl rfl mw_200 mw_197 mw_198 mw_199 mw_12 (by decide +kernel) (by decide) rfl rfl (Nat.le_of_ble_eq_true rfl) dX2_payday_62 (Nat.le_of_ble_eq_true rfl) (Nat.le_of_ble_eq_true rfl) ?_
            refine e_iload_n (j := 2) C dX2_payday_65 rfl rfl ?_
            refine e_aload_n (j := 0) C dX2_payday_66 rfl rfl ?_
            refine e_get0 (k := 9) (kk0 := j) (ref := "ScripHollow$Miner") C hj (by decide) rfl rfl mw_196 dX2_payday_67 ?_
            refine e_iadd C dX2_payday_70 ?_
            refine e_topi (fun x1_71 ex1_71 => ?_)
            refine e_istore_n (ls2 := [(1, .int x1_71), (3, .ref (ρ (mO j))), (2, .int (nI j)), (0, .ref (ρ 0))]) C hnL dX2_payday_71 rfl (by decide) rfl ?_
            obtain ⟨x2_72, ex2_72⟩ : ∃ z : Int32, z = (nI j) + 1 := ⟨_, rfl⟩
            refine e_iinc (j := 2) (v := x2_72) (ls2 := [(2, .int x2_72), (1, .int x1_71), (3, .ref (ρ (mO j))), (0, .ref (ρ 0))]) C hnL dX2_payday_72 rfl (by rw [ex2_72]; rfl) (by decide) rfl ?_
            refine e_goto (tgt := 30) C dX2_payday_75 (by decide) ?_
            subst ex2_72 ex1_71
            rw [nI_1]
            exact e_sub [0, 1, 3] rfl ih2
      refine e_aload_n (j := 0) C dX2_payday_0 rfl rfl ?_
      refine e_get2 (k := 6) (ref := "ScripHollow") C (by decide) rfl rfl mw_195 dX2_payday_1 ?_
      refine e_bipush (v := 40) C dX2_payday_4 (by decide) ?_
      refine e_icmp_ge (tgt := 16) C dX2_payday_6 (by decide) (fun c_6 => absurd c_6 hz4) (fun c_6 => ?_)
      refine e_aload_n (j := 0) C dX2_payday_9 rfl rfl ?_
      refine e_get2 (k := 15) (ref := "ScripHollow") C (by decide) rfl rfl mw_144 dX2_payday_10 ?_
      refine e_if_eq (tgt := 26) C dX2_payday_13 (by decide) (fun c_13 => ?_) (fun c_13 => absurd hz5 c_13)
      refine e_iconst (v := 0) C dX2_payday_26 (by decide) ?_
      refine e_istore_n (ls2 := [(1, .int 0), (0, .ref (ρ 0))]) C hnL dX2_payday_27 rfl (by decide) rfl ?_
      refine e_iconst (v := 0) C dX2_payday_28 (by decide) ?_
      refine e_istore_n (ls2 := [(2, .int 0), (1, .int 0), (0, .ref (ρ 0))]) C hnL dX2_payday_29 rfl (by decide) rfl ?_
      exact e_sub [0, 1, 2] rfl (loop n 0 (by omega))
    · skip
      refine e_aload_n (j := 0) C dX2_payday_0 rfl rfl ?_
      refine e_get2 (k := 6) (ref := "ScripHollow") C (by decide) rfl rfl mw_195 dX2_payday_1 ?_
      refine e_bipush (v := 40) C dX2_payday_4 (by decide) ?_
      refine e_icmp_ge (tgt := 16) C dX2_payday_6 (by decide) (fun c_6 => absurd c_6 hz4) (fun c_6 => ?_)
      refine e_aload_n (j := 0) C dX2_payday_9 rfl rfl ?_
      refine e_get2 (k := 15) (ref := "ScripHollow") C (by decide) rfl rfl mw_144 dX2_payday_10 ?_
      refine e_if_eq (tgt := 26) C dX2_payday_13 (by decide) (fun c_13 => absurd c_13 hz5) (fun c_13 => ?_)
      exact e_throw (text := "no payday can be held") C th_IS mw_61 mw_62 (by decide) rfl rfl dX2_payday_16 dX2_payday_19 dX2_payday_20 dX2_payday_22 dX2_payday_25 (by decide) (Nat.le_of_ble_eq_true rfl) (Nat.le_of_ble_eq_true rfl) (Nat.le_of_ble_eq_true rfl) (Nat.le_of_ble_eq_true rfl) (Nat.le_of_ble_eq_true rfl) (xO.mk (by unfold o_payday; rw [if_neg hz4, if_neg hz5]))
def hr (M : Mem) : Nat → Int32 → Int32
  | 0, _ => -1
  | f + 1, x => if x = -1 then -1 else if M (mO x.toNatClampNeg) 0 = 0 then hr M f (M (mO x.toNatClampNeg) 3) else x
theorem hr_s (M : Mem) (f : Nat) (x : Int32) : hr M (f + 1) x = if x = -1 then -1 else if M (mO x.toNatClampNeg) 0 = 0 then hr M f (M (mO x.toNatClampNeg) 3) else x := rfl
/-- a KIN told is none, or a miner -/
def kinOk (n : Nat) (x : Int32) : Prop := x = -1 ∨ ∃ j : Nat, j < n ∧ x = nI j
set_option maxRecDepth 100000 in
set_option maxHeartbeats 4000000 in
theorem c_X2_heirOf {l : Launch} (hl : l.stackTraces = false) {n : Nat} {ρ : Nat → Nat} {J : Nat → Int64} {M : Mem} {q : Nat} (hq : q < n) (hn : n ≤ 10) (hkin : ∀ k, k < n → kinOk n (M (mO k) 3)) : CtO l yX2_heirOf cX2_heirOf 5 (some .int) 8 10 60 n ρ J M [.ref (ρ 0), .ref (ρ (mO q))] (rI (hr M n (M (mO q) 3)) M) := by
  refine CtO.of hl (by decide +kernel) (Nat.le_of_ble_eq_true rfl) (fun Ξ hnL C => ?_)
  show E Ξ n ρ J M 0 0 0 [(0, .ref (ρ 0)), (1, .ref (ρ (mO q)))] []
  obtain ⟨R0, hR0⟩ : ∃ z, z = hr M n (M (mO q) 3) := ⟨_, rfl⟩
  rw [← hR0] at C
  have loop : ∀ (f u : Nat) (x : Int32), u + f = n → kinOk n x → R0 = hr M f x → E Ξ n ρ J M u (6 * u) 7 [(3, .int (nI u)), (2, .int x), (0, .ref (ρ 0)), (1, .ref (ρ (mO q)))] [] := by
    intro f
    induction f with
    | zero =>
      intro u x hu hx hR
      have hun : u = n := by omega
      refine e_iload_n (j := 0) C dX2_heirOf_7 rfl rfl ?_
      refine e_aload_n (j := 2) C dX2_heirOf_8 rfl rfl ?_
      refine e_get2 (k := 0) (ref := "ScripHollow") C (by decide) rfl rfl mw_24 dX2_heirOf_9 ?_
      refine e_cV (i := 1) (nA := 0) (Cn := RJx4a65c) C (c_JL_size hl) rfl (cnt_fix (by decide)) (fun _ => rfl) rfl rfl mw_69 mw_66 mw_67 mw_68 mw_23 (by decide +kernel) (by decide) rfl rfl (Nat.le_of_ble_eq_true rfl) dX2_heirOf_12 (by omega) (by omega) ?_
      refine e_icmp_ge (tgt := 52) C dX2_heirOf_15 (by decide) (fun c_15 => ?_) (fun c_15 => absurd (nI_le (by omega) (by omega)) c_15)
      refine e_iconst (v := (-1)) C dX2_heirOf_52 (by decide) ?_
      exact e_iret C rfl (by omega) (by omega) dX2_heirOf_53 (pO.mk (by rw [hR]; rfl))
    | succ f ih =>
      intro u x hu hx hR
      have hun : u < n := by omega
      rw [hr_s] at hR
      rcases hx with hx | ⟨j, hj, ej⟩
      · rw [if_pos hx] at hR
        refine e_iload_n (j := 0) C dX2_heirOf_7 rfl rfl ?_
        refine e_aload_n (j := 2) C dX2_heirOf_8 rfl rfl ?_
        refine e_get2 (k := 0) (ref := "ScripHollow") C (by decide) rfl rfl mw_24 dX2_heirOf_9 ?_
        refine e_cV (i := 1) (nA := 0) (Cn := RJx4a65c) C (c_JL_size hl) rfl (cnt_fix (by decide)) (fun _ => rfl) rfl rfl mw_69 mw_66 mw_67 mw_68 mw_23 (by decide +kernel) (by decide) rfl rfl (Nat.le_of_ble_eq_true rfl) dX2_heirOf_12 (by omega) (by omega) ?_
        refine e_icmp_ge (tgt := 52) C dX2_heirOf_15 (by decide) (fun c_15 => absurd c_15 (nI_ge hun (by omega))) (fun c_15 => ?_)
        refine e_iload_n (j := 1) C dX2_heirOf_18 rfl rfl ?_
        refine e_iconst (v := (-1)) C dX2_heirOf_19 (by decide) ?_
        refine e_icmp_eq (tgt := 52) C dX2_heirOf_20 (by decide) (fun c_20 => ?_) (fun c_20 => absurd hx c_20)
        refine e_iconst (v := (-1)) C dX2_heirOf_52 (by decide) ?_
        exact e_iret C rfl (by omega) (by omega) dX2_heirOf_53 (pO.mk (by rw [hR]))
      · subst ej
        have hne : ¬ nI j = -1 := fun z => nI_pos (n := j) (by omega) (by rw [z]; decide)
        rw [if_neg hne, nI_clamp (by omega)] at hR
        by_cases hz6 : M (mO j) 0 = 0
        · rw [if_pos hz6] at hR
          refine e_iload_n (j := 0) C dX2_heirOf_7 rfl rfl ?_
          refine e_aload_n (j := 2) C dX2_heirOf_8 rfl rfl ?_
          refine e_get2 (k := 0) (ref := "ScripHollow") C (by decide) rfl rfl mw_24 dX2_heirOf_9 ?_
          refine e_cV (i := 1) (nA := 0) (Cn := RJx4a65c) C (c_JL_size hl) rfl (cnt_fix (by decide)) (fun _ => rfl) rfl rfl mw_69 mw_66 mw_67 mw_68 mw_23 (by decide +kernel) (by decide) rfl rfl (Nat.le_of_ble_eq_true rfl) dX2_heirOf_12 (by omega) (by omega) ?_
          refine e_icmp_ge (tgt := 52) C dX2_heirOf_15 (by decide) (fun c_15 => absurd c_15 (nI_ge hun (by omega))) (fun c_15 => ?_)
          refine e_iload_n (j := 1) C dX2_heirOf_18 rfl rfl ?_
          refine e_iconst (v := (-1)) C dX2_heirOf_19 (by decide) ?_
          refine e_icmp_eq (tgt := 52) C dX2_heirOf_20 (by decide) (fun c_20 => absurd c_20 hne) (fun c_20 => ?_)
          refine e_aload_n (j := 2) C dX2_heirOf_23 rfl rfl ?_
          refine e_iload_n (j := 1) C dX2_heirOf_24 rfl rfl ?_
          refine e_cV (i := 0) (nA := 1) (Cn := RX2) C (c_X2_minerAt hl hj hn) rfl (cnt_fix (by decide)) (fun _ => rfl) rfl rfl mw_150 mw_147 mw_148 mw_149 mw_12 (by decide +kernel) (by decide) rfl rfl (Nat.le_of_ble_eq_true rfl) dX2_heirOf_25 (by omega) (by omega) ?_
          refine e_astore (ls2 := [(4, .ref (ρ (mO j))), (3, .int (nI u)), (2, .int (nI j)), (0, .ref (ρ 0)), (1, .ref (ρ (mO q)))]) C hnL dX2_heirOf_28 (by decide) rfl ?_
          refine e_aload (j := 0) C dX2_heirOf_30 rfl ?_
          refine e_get0 (k := 0) (kk0 := j) (ref := "ScripHollow$Miner") C hj (by decide) rfl rfl mw_181 dX2_heirOf_32 ?_
          refine e_if_eq (tgt := 40) C dX2_heirOf_35 (by decide) (fun c_35 => ?_) (fun c_35 => absurd hz6 c_35)
          refine e_aload (j := 0) C dX2_heirOf_40 rfl ?_
          refine e_get0 (k := 3) (kk0 := j) (ref := "ScripHollow$Miner") C hj (by decide) rfl rfl mw_378 dX2_heirOf_42 ?_
          refine e_topi (fun x2_45 ex2_45 => ?_)
          refine e_istore_n (ls2 := [(2, .int x2_45), (4, .ref (ρ (mO j))), (3, .int (nI u)), (0, .ref (ρ 0)), (1, .ref (ρ (mO q)))]) C hnL dX2_heirOf_45 rfl (by decide) rfl ?_
          obtain ⟨x3_46, ex3_46⟩ : ∃ z : Int32, z = (nI u) + 1 := ⟨_, rfl⟩
          refine e_iinc (j := 2) (v := x3_46) (ls2 := [(3, .int x3_46), (2, .int x2_45), (4, .ref (ρ (mO j))), (0, .ref (ρ 0)), (1, .ref (ρ (mO q)))]) C hnL dX2_heirOf_46 rfl (by rw [ex3_46]; rfl) (by decide) rfl ?_
          refine e_goto (tgt := 7) C dX2_heirOf_49 (by decide) ?_
          subst ex3_46 ex2_45
          rw [nI_1]
          exact e_sub [0, 1, 3, 4] rfl (e_cnt (by omega) (by omega) (ih (u + 1) _ (by omega) (hkin j hj) hR))
        · rw [if_neg hz6] at hR
          refine e_iload_n (j := 0) C dX2_heirOf_7 rfl rfl ?_
          refine e_aload_n (j := 2) C dX2_heirOf_8 rfl rfl ?_
          refine e_get2 (k := 0) (ref := "ScripHollow") C (by decide) rfl rfl mw_24 dX2_heirOf_9 ?_
          refine e_cV (i := 1) (nA := 0) (Cn := RJx4a65c) C (c_JL_size hl) rfl (cnt_fix (by decide)) (fun _ => rfl) rfl rfl mw_69 mw_66 mw_67 mw_68 mw_23 (by decide +kernel) (by decide) rfl rfl (Nat.le_of_ble_eq_true rfl) dX2_heirOf_12 (by omega) (by omega) ?_
          refine e_icmp_ge (tgt := 52) C dX2_heirOf_15 (by decide) (fun c_15 => absurd c_15 (nI_ge hun (by omega))) (fun c_15 => ?_)
          refine e_iload_n (j := 1) C dX2_heirOf_18 rfl rfl ?_
          refine e_iconst (v := (-1)) C dX2_heirOf_19 (by decide) ?_
          refine e_icmp_eq (tgt := 52) C dX2_heirOf_20 (by decide) (fun c_20 => absurd c_20 hne) (fun c_20 => ?_)
          refine e_aload_n (j := 2) C dX2_heirOf_23 rfl rfl ?_
          refine e_iload_n (j := 1) C dX2_heirOf_24 rfl rfl ?_
          refine e_cV (i := 0) (nA := 1) (Cn := RX2) C (c_X2_minerAt hl hj hn) rfl (cnt_fix (by decide)) (fun _ => rfl) rfl rfl mw_150 mw_147 mw_148 mw_149 mw_12 (by decide +kernel) (by decide) rfl rfl (Nat.le_of_ble_eq_true rfl) dX2_heirOf_25 (by omega) (by omega) ?_
          refine e_astore (ls2 := [(4, .ref (ρ (mO j))), (3, .int (nI u)), (2, .int (nI j)), (0, .ref (ρ 0)), (1, .ref (ρ (mO q)))]) C hnL dX2_heirOf_28 (by decide) rfl ?_
          refine e_aload (j := 0) C dX2_heirOf_30 rfl ?_
          refine e_get0 (k := 0) (kk0 := j) (ref := "ScripHollow$Miner") C hj (by decide) rfl rfl mw_181 dX2_heirOf_32 ?_
          refine e_if_eq (tgt := 40) C dX2_heirOf_35 (by decide) (fun c_35 => absurd c_35 hz6) (fun c_35 => ?_)
          refine e_iload_n (j := 2) C dX2_heirOf_38 rfl rfl ?_
          exact e_iret C rfl (by omega) (by omega) dX2_heirOf_39 (pO.mk (by rw [hR]))
  refine e_aload_n (j := 1) C dX2_heirOf_0 rfl rfl ?_
  refine e_get0 (k := 3) (kk0 := q) (ref := "ScripHollow$Miner") C hq (by decide) rfl rfl mw_378 dX2_heirOf_1 ?_
  refine e_topi (fun x2_4 ex2_4 => ?_)
  refine e_istore_n (ls2 := [(2, .int x2_4), (0, .ref (ρ 0)), (1, .ref (ρ (mO q)))]) C hnL dX2_heirOf_4 rfl (by decide) rfl ?_
  refine e_iconst (v := 0) C dX2_heirOf_5 (by decide) ?_
  refine e_istore_n (ls2 := [(3, .int 0), (2, .int x2_4), (0, .ref (ρ 0)), (1, .ref (ρ (mO q)))]) C hnL dX2_heirOf_6 rfl (by decide) rfl ?_
  subst ex2_4
  exact e_sub [0, 1, 2, 3] rfl (loop n 0 _ (by omega) (hkin q hq) hR0)
set_option maxRecDepth 100000 in
set_option maxHeartbeats 4000000 in
theorem c_X2_die_x {l : Launch} (hl : l.stackTraces = false) {n : Nat} {ρ : Nat → Nat} {J : Nat → Int64} {M : Mem} {x : Int32} (h : x < 0 ∨ nI n ≤ x) : CtO l yX2_die cX2_die 4 (some .int) 9 13 78 n ρ J M [.ref (ρ 0), .int x] (rX IX M) := by
  refine CtO.of hl (by decide +kernel) (Nat.le_of_ble_eq_true rfl) (fun Ξ hnL C => ?_)
  show E Ξ n ρ J M 0 0 0 [(0, .ref (ρ 0)), (1, .int x)] []
  refine e_aload_n (j := 0) C dX2_die_0 rfl rfl ?_
  refine e_iload_n (j := 1) C dX2_die_1 rfl rfl ?_
  exact e_cVx (i := 0) (nA := 1) (Cn := RX2) C (c_X2_minerAt_x hl h) rfl (cnt_fix (by decide)) (fun _ => rfl) rfl rfl mw_150 mw_147 mw_148 mw_149 mw_12 (by decide +kernel) (by decide) rfl rfl (Nat.le_of_ble_eq_true rfl) dX2_die_2 (Nat.le_of_ble_eq_true rfl) (Nat.le_of_ble_eq_true rfl) rfl
def di1 (M : Mem) (k : Nat) : Mem := up M (mO k) 0 0
def diH (M : Mem) (n k : Nat) : Int32 := hr (di1 M k) n (di1 M k (mO k) 3)
def diN (M : Mem) (k : Nat) : Mem := up (di1 M k) 7 4 (di1 M k 7 4 + sm (di1 M k (mS k)) 40)
def diS (M : Mem) (k j : Nat) : Mem := if M 6 2 = 0 then inh2 (di1 M k) j k else inh1 (di1 M k) j k
def o_die (M : Mem) (n k : Nat) : Out := if M (mO k) 0 = 0 then rX IS M else if diH M n k = -1 then rI (diH M n k) (lv2 (diN M k) k) else rI (diH M n k) (lv2 (diS M k (diH M n k).toNatClampNeg) k)
theorem hr_ok {M : Mem} {n : Nat} (hn : n ≤ 10) (hkin : ∀ k, k < n → kinOk n (M (mO k) 3)) : ∀ (f : Nat) (x : Int32), kinOk n x → kinOk n (hr M f x)
  | 0, _, _ => Or.inl rfl
  | f + 1, x, hx => by
    rw [hr_s]
    rcases hx with hx | ⟨j, hj, ej⟩
    · rw [if_pos hx]; exact Or.inl rfl
    · subst ej
      split
      · exact Or.inl rfl
      · rw [nI_clamp (by omega)]
        split
        · exact hr_ok hn hkin f _ (hkin j hj)
        · exact Or.inr ⟨j, hj, rfl⟩
theorem di1_kin {M : Mem} {n k : Nat} (hkin : ∀ k, k < n → kinOk n (M (mO k) 3)) : ∀ j, j < n → kinOk n (di1 M k (mO j) 3) := by
  intro j hj
  have e9 : di1 M k (mO j) 3 = M (mO j) 3 := by
    unfold di1
    by_cases e : mO j = mO k
    · rw [e, up_eq]; rfl
    · rw [up_ne e]
  rw [e9]
  exact hkin j hj
set_option maxRecDepth 100000 in
set_option maxHeartbeats 4000000 in
theorem c_X2_die {l : Launch} (hl : l.stackTraces = false) {n : Nat} {ρ : Nat → Nat} {J : Nat → Int64} {M : Mem} {k : Nat} (hk : k < n) (hn : n ≤ 10) (hkin : ∀ k, k < n → kinOk n (M (mO k) 3)) : CtO l yX2_die cX2_die 4 (some .int) 9 13 78 n ρ J M [.ref (ρ 0), .int (nI k)] (o_die M n k) := by
  refine CtO.of hl (by decide +kernel) (Nat.le_of_ble_eq_true rfl) (fun Ξ hnL C => ?_)
  show E Ξ n ρ J M 0 0 0 [(0, .ref (ρ 0)), (1, .int (nI k))] []
  by_cases h2 : M (mO k) 0 = 0
  · refine e_aload_n (j := 0) C dX2_die_0 rfl rfl ?_
    refine e_iload_n (j := 1) C dX2_die_1 rfl rfl ?_
    refine e_cV (i := 0) (nA := 1) (Cn := RX2) C (c_X2_minerAt hl hk hn) rfl (cnt_fix (by decide)) (fun _ => rfl) rfl rfl mw_150 mw_147 mw_148 mw_149 mw_12 (by decide +kernel) (by decide) rfl rfl (Nat.le_of_ble_eq_true rfl) dX2_die_2 (Nat.le_of_ble_eq_true rfl) (Nat.le_of_ble_eq_true rfl) ?_
    refine e_astore_n (ls2 := [(2, .ref (ρ (mO k))), (0, .ref (ρ 0)), (1, .int (nI k))]) C hnL dX2_die_5 rfl (by decide) rfl ?_
    refine e_aload_n (j := 0) C dX2_die_6 rfl rfl ?_
    exact e_cSx (nA := 1) C (c_X2_requireAlive_x hl hk h2) rfl mw_180 mw_178 mw_179 mw_12 (by decide +kernel) (by decide) rfl rfl (Nat.le_of_ble_eq_true rfl) dX2_die_7 (Nat.le_of_ble_eq_true rfl) (Nat.le_of_ble_eq_true rfl) (by unfold o_die; rw [if_pos h2])
  · obtain ⟨x9, hx9⟩ : ∃ z, z = diH M n k := ⟨_, rfl⟩
    rcases (show kinOk n (diH M n k) from hr_ok hn (di1_kin hkin) n _ (di1_kin hkin k hk)) with hz | ⟨j, hj, ej⟩
    · refine e_aload_n (j := 0) C dX2_die_0 rfl rfl ?_
      refine e_iload_n (j := 1) C dX2_die_1 rfl rfl ?_
      refine e_cV (i := 0) (nA := 1) (Cn := RX2) C (c_X2_minerAt hl hk hn) rfl (cnt_fix (by decide)) (fun _ => rfl) rfl rfl mw_150 mw_147 mw_148 mw_149 mw_12 (by decide +kernel) (by decide) rfl rfl (Nat.le_of_ble_eq_true rfl) dX2_die_2 (Nat.le_of_ble_eq_true rfl) (Nat.le_of_ble_eq_true rfl) ?_
      refine e_astore_n (ls2 := [(2, .ref (ρ (mO k))), (0, .ref (ρ 0)), (1, .int (nI k))]) C hnL dX2_die_5 rfl (by decide) rfl ?_
      refine e_aload_n (j := 0) C dX2_die_6 rfl rfl ?_
      refine e_cS (nA := 1) C (c_X2_requireAlive hl hk h2) rfl mw_180 mw_178 mw_179 mw_12 (by decide +kernel) (by decide) rfl rfl (Nat.le_of_ble_eq_true rfl) dX2_die_7 (Nat.le_of_ble_eq_true rfl) (Nat.le_of_ble_eq_true rfl) ?_
      refine e_aload_n (j := 0) C dX2_die_10 rfl rfl ?_
      refine e_iconst (v := 0) C dX2_die_11 (by decide) ?_
      refine e_put0 (k := 0) (kk0 := k) (ref := "ScripHollow$Miner") (ty := .boolean) C hk (by decide) rfl rfl (by decide +kernel) rfl rfl rfl mw_181 dX2_die_12 ?_
      refine e_aload_n (j := 1) C dX2_die_15 rfl rfl ?_
      refine e_aload_n (j := 0) C dX2_die_16 rfl rfl ?_
      refine e_cV (i := 0) (nA := 1) (Cn := RX2) C (c_X2_heirOf hl hk hn (di1_kin (M := M) (k := k) hkin)) rfl (cnt_fix (by decide)) (fun _ => rfl) rfl rfl mw_422 mw_419 mw_420 mw_421 mw_12 (by decide +kernel) (by decide) rfl rfl (Nat.le_of_ble_eq_true rfl) dX2_die_17 (Nat.le_of_ble_eq_true rfl) (Nat.le_of_ble_eq_true rfl) ?_
      refine e_topi (fun x3_20 ex3_20 => ?_)
      refine e_istore_n (ls2 := [(3, .int x3_20), (2, .ref (ρ (mO k))), (0, .ref (ρ 0)), (1, .int (nI k))]) C hnL dX2_die_20 rfl (by decide) rfl ?_
      refine e_iload_n (j := 0) C dX2_die_21 rfl rfl ?_
      refine e_iconst (v := (-1)) C dX2_die_22 (by decide) ?_
      refine e_icmp_ne (tgt := 42) C dX2_die_23 (by decide) (fun c_23 => absurd (by rw [ex3_20]; exact hz) c_23) (fun c_23 => ?_)
      refine e_aload_n (j := 2) C dX2_die_26 rfl rfl ?_
      refine e_get2 (k := 17) (ref := "ScripHollow") C (by decide) rfl rfl mw_38 dX2_die_27 ?_
      refine e_iconst (v := 4) C dX2_die_30 (by decide) ?_
      refine e_dup2 C dX2_die_31 rfl rfl ?_
      refine e_ialdN 4 C (cnt_fix (by decide)) (fun _ => rfl) rfl (by decide) (by decide) dX2_die_32 ?_
      refine e_aload_n (j := 1) C dX2_die_33 rfl rfl ?_
      refine e_cV (i := (mO k)) (nA := 0) (Cn := RX0) C (c_X0_allScrip hl hk) rfl (cnt_O hk) (fun cA => cell_O cA n ρ J k _) rfl rfl mw_297 mw_320 mw_295 mw_296 mw_65 (by decide +kernel) (by decide) rfl rfl (Nat.le_of_ble_eq_true rfl) dX2_die_34 (Nat.le_of_ble_eq_true rfl) (Nat.le_of_ble_eq_true rfl) ?_
      refine e_iadd C dX2_die_37 ?_
      refine e_iastN 4 C (cnt_fix (by decide)) (fun _ _ => rfl) rfl (by decide) (by decide) dX2_die_38 ?_
      refine e_goto (tgt := 65) C dX2_die_39 (by decide) ?_
      refine e_aload_n (j := 1) C dX2_die_65 rfl rfl ?_
      refine e_cV (i := (mO k)) (nA := 0) (Cn := RX0) C (c_X0_leaveAll hl hk) rfl (cnt_O hk) (fun cA => cell_O cA n ρ J k _) rfl rfl mw_433 mw_430 mw_431 mw_432 mw_65 (by decide +kernel) (by decide) rfl rfl (Nat.le_of_ble_eq_true rfl) dX2_die_66 (Nat.le_of_ble_eq_true rfl) (Nat.le_of_ble_eq_true rfl) ?_
      refine e_iload_n (j := 0) C dX2_die_69 rfl rfl ?_
      exact e_iret C rfl (Nat.le_of_ble_eq_true rfl) (Nat.le_of_ble_eq_true rfl) dX2_die_70 (pO.mk (by subst ex3_20; unfold o_die; rw [if_neg h2, if_pos hz]; rfl))
    · have hne : ¬ diH M n k = -1 := fun z => nI_pos (n := j) (by omega) (by rw [← ej, z]; decide)
      have hjt : (diH M n k).toNatClampNeg = j := by rw [ej]; exact nI_clamp (by omega)
      refine e_aload_n (j := 0) C dX2_die_0 rfl rfl ?_
      refine e_iload_n (j := 1) C dX2_die_1 rfl rfl ?_
      refine e_cV (i := 0) (nA := 1) (Cn := RX2) C (c_X2_minerAt hl hk hn) rfl (cnt_fix (by decide)) (fun _ => rfl) rfl rfl mw_150 mw_147 mw_148 mw_149 mw_12 (by decide +kernel) (by decide) rfl rfl (Nat.le_of_ble_eq_true rfl) dX2_die_2 (Nat.le_of_ble_eq_true rfl) (Nat.le_of_ble_eq_true rfl) ?_
      refine e_astore_n (ls2 := [(2, .ref (ρ (mO k))), (0, .ref (ρ 0)), (1, .int (nI k))]) C hnL dX2_die_5 rfl (by decide) rfl ?_
      refine e_aload_n (j := 0) C dX2_die_6 rfl rfl ?_
      refine e_cS (nA := 1) C (c_X2_requireAlive hl hk h2) rfl mw_180 mw_178 mw_179 mw_12 (by decide +kernel) (by decide) rfl rfl (Nat.le_of_ble_eq_true rfl) dX2_die_7 (Nat.le_of_ble_eq_true rfl) (Nat.le_of_ble_eq_true rfl) ?_
      refine e_aload_n (j := 0) C dX2_die_10 rfl rfl ?_
      refine e_iconst (v := 0) C dX2_die_11 (by decide) ?_
      refine e_put0 (k := 0) (kk0 := k) (ref := "ScripHollow$Miner") (ty := .boolean) C hk (by decide) rfl rfl (by decide +kernel) rfl rfl rfl mw_181 dX2_die_12 ?_
      refine e_aload_n (j := 1) C dX2_die_15 rfl rfl ?_
      refine e_aload_n (j := 0) C dX2_die_16 rfl rfl ?_
      refine e_cV (i := 0) (nA := 1) (Cn := RX2) C (c_X2_heirOf hl hk hn (di1_kin (M := M) (k := k) hkin)) rfl (cnt_fix (by decide)) (fun _ => rfl) rfl rfl mw_422 mw_419 mw_420 mw_421 mw_12 (by decide +kernel) (by decide) rfl rfl (Nat.le_of_ble_eq_true rfl) dX2_die_17 (Nat.le_of_ble_eq_true rfl) (Nat.le_of_ble_eq_true rfl) ?_
      refine e_topi (fun x3_20 ex3_20 => ?_)
      refine e_istore_n (ls2 := [(3, .int x3_20), (2, .ref (ρ (mO k))), (0, .ref (ρ 0)), (1, .int (nI k))]) C hnL dX2_die_20 rfl (by decide) rfl ?_
      refine e_iload_n (j := 0) C dX2_die_21 rfl rfl ?_
      refine e_iconst (v := (-1)) C dX2_die_22 (by decide) ?_
      refine e_icmp_ne (tgt := 42) C dX2_die_23 (by decide) (fun c_23 => ?_) (fun c_23 => absurd c_23 (by rw [ex3_20]; exact hne))
      refine e_aload_n (j := 2) C dX2_die_42 rfl rfl ?_
      refine e_iload_n (j := 0) C dX2_die_43 rfl rfl ?_
      rw [show x3_20 = nI j from ex3_20.trans ej]
      refine e_cV (i := 0) (nA := 1) (Cn := RX2) C (c_X2_minerAt hl hj hn) rfl (cnt_fix (by decide)) (fun _ => rfl) rfl rfl mw_150 mw_147 mw_148 mw_149 mw_12 (by decide +kernel) (by decide) rfl rfl (Nat.le_of_ble_eq_true rfl) dX2_die_44 (Nat.le_of_ble_eq_true rfl) (Nat.le_of_ble_eq_true rfl) ?_
      refine e_aload_n (j := 1) C dX2_die_47 rfl rfl ?_
      refine e_aload_n (j := 2) C dX2_die_48 rfl rfl ?_
      refine e_get2 (k := 11) (ref := "ScripHollow") C (by decide) rfl rfl mw_37 dX2_die_49 ?_
      refine e_iconst (v := 2) C dX2_die_52 (by decide) ?_
      refine e_zaldN 2 C (cnt_fix (by decide)) (fun _ => rfl) rfl (by decide) (by decide) dX2_die_53 ?_
      refine e_if_ne (tgt := 61) C dX2_die_54 (by decide) (fun c_54 => ?_) (fun c_54 => ?_)
      · refine e_iconst (v := 0) C dX2_die_61 (by decide) ?_
        refine e_cV (i := (mO j)) (nA := 2) (Cn := RX0) C (c_X0_inherit hl hj hk) rfl (cnt_O hj) (fun cA => cell_O cA n ρ J j _) rfl rfl mw_426 mw_423 mw_424 mw_425 mw_65 (by decide +kernel) (by decide) rfl rfl (Nat.le_of_ble_eq_true rfl) dX2_die_62 (Nat.le_of_ble_eq_true rfl) (Nat.le_of_ble_eq_true rfl) ?_
        refine e_aload_n (j := 1) C dX2_die_65 rfl rfl ?_
        refine e_cV (i := (mO k)) (nA := 0) (Cn := RX0) C (c_X0_leaveAll hl hk) rfl (cnt_O hk) (fun cA => cell_O cA n ρ J k _) rfl rfl mw_433 mw_430 mw_431 mw_432 mw_65 (by decide +kernel) (by decide) rfl rfl (Nat.le_of_ble_eq_true rfl) dX2_die_66 (Nat.le_of_ble_eq_true rfl) (Nat.le_of_ble_eq_true rfl) ?_
        refine e_iload_n (j := 0) C dX2_die_69 rfl rfl ?_
        exact e_iret C rfl (Nat.le_of_ble_eq_true rfl) (Nat.le_of_ble_eq_true rfl) dX2_die_70 (pO.mk (by subst ex3_20; rw [up_ne (show (6 : Nat) ≠ mO k by unfold mO; omega)] at c_54; unfold o_die; rw [if_neg h2, if_neg hne, hjt, ej]; unfold diS; first | (rw [if_pos c_54]; rfl) | (rw [if_neg c_54]; rfl)))
      · refine e_iconst (v := 1) C dX2_die_57 (by decide) ?_
        refine e_goto (tgt := 62) C dX2_die_58 (by decide) ?_
        refine e_cV (i := (mO j)) (nA := 2) (Cn := RX0) C (c_X0_inherit hl hj hk) rfl (cnt_O hj) (fun cA => cell_O cA n ρ J j _) rfl rfl mw_426 mw_423 mw_424 mw_425 mw_65 (by decide +kernel) (by decide) rfl rfl (Nat.le_of_ble_eq_true rfl) dX2_die_62 (Nat.le_of_ble_eq_true rfl) (Nat.le_of_ble_eq_true rfl) ?_
        refine e_aload_n (j := 1) C dX2_die_65 rfl rfl ?_
        refine e_cV (i := (mO k)) (nA := 0) (Cn := RX0) C (c_X0_leaveAll hl hk) rfl (cnt_O hk) (fun cA => cell_O cA n ρ J k _) rfl rfl mw_433 mw_430 mw_431 mw_432 mw_65 (by decide +kernel) (by decide) rfl rfl (Nat.le_of_ble_eq_true rfl) dX2_die_66 (Nat.le_of_ble_eq_true rfl) (Nat.le_of_ble_eq_true rfl) ?_
        refine e_iload_n (j := 0) C dX2_die_69 rfl rfl ?_
        exact e_iret C rfl (Nat.le_of_ble_eq_true rfl) (Nat.le_of_ble_eq_true rfl) dX2_die_70 (pO.mk (by subst ex3_20; rw [up_ne (show (6 : Nat) ≠ mO k by unfold mO; omega)] at c_54; unfold o_die; rw [if_neg h2, if_neg hne, hjt, ej]; unfold diS; first | (rw [if_pos c_54]; rfl) | (rw [if_neg c_54]; rfl)))
