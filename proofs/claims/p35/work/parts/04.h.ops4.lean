/-! Soup and closing. -/
abbrev mea (M : Mem) (j : Nat) : Int32 := M (mO j) 5 + sm (M (mS j)) 40
def pb (M : Mem) (s : Int32) : Nat → Int32 × Int32
  | 0 => (-1, 0)
  | j + 1 => if M (mO j) 0 = 0 then pb M s j else if s >>> (nI j &&& 31) &&& 1 = 0 then (if (pb M s j).1 = -1 then (nI j, mea M j) else if (pb M s j).2 ≤ mea M j then pb M s j else (nI j, mea M j)) else pb M s j
theorem pb_s (M : Mem) (s : Int32) (j : Nat) : pb M s (j + 1) = if M (mO j) 0 = 0 then pb M s j else if s >>> (nI j &&& 31) &&& 1 = 0 then (if (pb M s j).1 = -1 then (nI j, mea M j) else if (pb M s j).2 ≤ mea M j then pb M s j else (nI j, mea M j)) else pb M s j := rfl
set_option maxRecDepth 100000 in
set_option maxHeartbeats 4000000 in
theorem c_X2_poorestBut {l : Launch} (hl : l.stackTraces = false) {n : Nat} {ρ : Nat → Nat} {J : Nat → Int64} {M : Mem} (hn : n ≤ 10) {s : Int32} : CtO l yX2_poorestBut cX2_poorestBut 7 (some .int) 3 0 0 n ρ J M [.ref (ρ 0), .int s] (rI (pb M s n).1 M) := by
  refine CtO.of hl (by decide +kernel) (Nat.le_of_ble_eq_true rfl) (fun Ξ hnL C => ?_)
  show E Ξ n ρ J M 0 0 0 [(0, .ref (ρ 0)), (1, .int s)] []
  have loop : ∀ (f j : Nat) (a b : Int32), j + f = n → pb M s j = (a, b) → E Ξ n ρ J M 0 0 7 [(4, .int (nI j)), (3, .int b), (2, .int a), (0, .ref (ρ 0)), (1, .int s)] [] := by
    intro f
    induction f with
    | zero =>
      intro j a b hjf hab
      have hjn : j = n := by omega
      refine e_iload (j := 0) C dX2_poorestBut_7 rfl ?_
      refine e_aload_n (j := 3) C dX2_poorestBut_9 rfl rfl ?_
      refine e_get2 (k := 0) (ref := "ScripHollow") C (by decide) rfl rfl mw_24 dX2_poorestBut_10 ?_
      refine e_cV (i := 1) (nA := 0) (Cn := RJx4a65c) C (c_JL_size hl) rfl (cnt_fix (by decide)) (fun _ => rfl) rfl rfl mw_69 mw_66 mw_67 mw_68 mw_23 (by decide +kernel) (by decide) rfl rfl (Nat.le_of_ble_eq_true rfl) dX2_poorestBut_13 (Nat.le_of_ble_eq_true rfl) (Nat.le_of_ble_eq_true rfl) ?_
      refine e_icmp_ge (tgt := 91) C dX2_poorestBut_16 (by decide) (fun c_16 => ?_) (fun c_16 => absurd (nI_le (by omega) (by omega)) c_16)
      refine e_iload_n (j := 2) C dX2_poorestBut_91 rfl rfl ?_
      exact e_iret C rfl (Nat.le_of_ble_eq_true rfl) (Nat.le_of_ble_eq_true rfl) dX2_poorestBut_92 (pO.mk (by rw [← hjn, hab]))
    | succ f ih =>
      intro j a b hjf hab
      have hj : j < n := by omega
      have hps := pb_s M s j
      rw [hab] at hps
      dsimp only at hps
      refine e_iload (j := 0) C dX2_poorestBut_7 rfl ?_
      refine e_aload_n (j := 3) C dX2_poorestBut_9 rfl rfl ?_
      refine e_get2 (k := 0) (ref := "ScripHollow") C (by decide) rfl rfl mw_24 dX2_poorestBut_10 ?_
      refine e_cV (i := 1) (nA := 0) (Cn := RJx4a65c) C (c_JL_size hl) rfl (cnt_fix (by decide)) (fun _ => rfl) rfl rfl mw_69 mw_66 mw_67 mw_68 mw_23 (by decide +kernel) (by decide) rfl rfl (Nat.le_of_ble_eq_true rfl) dX2_poorestBut_13 (Nat.le_of_ble_eq_true rfl) (Nat.le_of_ble_eq_true rfl) ?_
      refine e_icmp_ge (tgt := 91) C dX2_poorestBut_16 (by decide) (fun c_16 => absurd c_16 (nI_ge hj (by omega))) (fun c_16 => ?_)
      refine e_aload_n (j := 3) C dX2_poorestBut_19 rfl rfl ?_
      refine e_get2 (k := 0) (ref := "ScripHollow") C (by decide) rfl rfl mw_24 dX2_poorestBut_20 ?_
      refine e_iload (j := 0) C dX2_poorestBut_23 rfl ?_
      refine e_cV (i := 1) (nA := 1) (Cn := RJx4a65c) C (c_JL_get hl hj hn) rfl (cnt_fix (by decide)) (fun _ => rfl) rfl rfl mw_160 mw_157 mw_158 mw_159 mw_23 (by decide +kernel) (by decide) rfl rfl (Nat.le_of_ble_eq_true rfl) dX2_poorestBut_25 (Nat.le_of_ble_eq_true rfl) (Nat.le_of_ble_eq_true rfl) ?_
      refine e_castM C hj mw_63 dX2_poorestBut_28 ?_
      refine e_astore (ls2 := [(5, .ref (ρ (mO j))), (4, .int (nI j)), (3, .int b), (2, .int a), (0, .ref (ρ 0)), (1, .int s)]) C hnL dX2_poorestBut_31 (by decide) rfl ?_
      refine e_aload (j := 0) C dX2_poorestBut_33 rfl ?_
      refine e_get0 (k := 0) (kk0 := j) (ref := "ScripHollow$Miner") C hj (by decide) rfl rfl mw_181 dX2_poorestBut_35 ?_
      refine e_if_eq (tgt := 54) C dX2_poorestBut_38 (by decide) (fun c_38 => ?_) (fun c_38 => ?_)
      · refine e_iconst (v := 0) C dX2_poorestBut_54 (by decide) ?_
        refine e_istore (ls2 := [(6, .int 0), (5, .ref (ρ (mO j))), (4, .int (nI j)), (3, .int b), (2, .int a), (0, .ref (ρ 0)), (1, .int s)]) C hnL dX2_poorestBut_55 (by decide) rfl ?_
        refine e_iload (j := 0) C dX2_poorestBut_57 rfl ?_
        refine e_if_eq (tgt := 85) C dX2_poorestBut_59 (by decide) (fun c_59 => ?_) (fun c_59 => absurd (by decide) c_59)
        obtain ⟨x4_85, ex4_85⟩ : ∃ z : Int32, z = (nI j) + 1 := ⟨_, rfl⟩
        refine e_iinc (j := 2) (v := x4_85) (ls2 := [(4, .int x4_85), (6, .int 0), (5, .ref (ρ (mO j))), (3, .int b), (2, .int a), (0, .ref (ρ 0)), (1, .int s)]) C hnL dX2_poorestBut_85 rfl (by rw [ex4_85]; rfl) (by decide) rfl ?_
        refine e_goto (tgt := 7) C dX2_poorestBut_88 (by decide) ?_
        subst ex4_85
        rw [nI_1]
        exact e_sub [0, 3, 4, 5, 6] rfl (ih (j + 1) _ _ (by omega) (by rw [hps]; (repeat (first | rw [if_neg c_16] | rw [if_pos c_38] | rw [if_pos c_59]))))
      · refine e_iload_n (j := 5) C dX2_poorestBut_41 rfl rfl ?_
        refine e_iload (j := 1) C dX2_poorestBut_42 rfl ?_
        refine e_ishr C dX2_poorestBut_44 ?_
        refine e_iconst (v := 1) C dX2_poorestBut_45 (by decide) ?_
        refine e_iand C dX2_poorestBut_46 ?_
        refine e_if_ne (tgt := 54) C dX2_poorestBut_47 (by decide) (fun c_47 => ?_) (fun c_47 => ?_)
        · refine e_iconst (v := 0) C dX2_poorestBut_54 (by decide) ?_
          refine e_istore (ls2 := [(6, .int 0), (5, .ref (ρ (mO j))), (4, .int (nI j)), (3, .int b), (2, .int a), (0, .ref (ρ 0)), (1, .int s)]) C hnL dX2_poorestBut_55 (by decide) rfl ?_
          refine e_iload (j := 0) C dX2_poorestBut_57 rfl ?_
          refine e_if_eq (tgt := 85) C dX2_poorestBut_59 (by decide) (fun c_59 => ?_) (fun c_59 => absurd (by decide) c_59)
          obtain ⟨x4_85, ex4_85⟩ : ∃ z : Int32, z = (nI j) + 1 := ⟨_, rfl⟩
          refine e_iinc (j := 2) (v := x4_85) (ls2 := [(4, .int x4_85), (6, .int 0), (5, .ref (ρ (mO j))), (3, .int b), (2, .int a), (0, .ref (ρ 0)), (1, .int s)]) C hnL dX2_poorestBut_85 rfl (by rw [ex4_85]; rfl) (by decide) rfl ?_
          refine e_goto (tgt := 7) C dX2_poorestBut_88 (by decide) ?_
          subst ex4_85
          rw [nI_1]
          exact e_sub [0, 3, 4, 5, 6] rfl (ih (j + 1) _ _ (by omega) (by rw [hps]; (repeat (first | rw [if_neg c_16] | rw [if_neg c_38] | rw [if_neg c_47] | rw [if_pos c_59]))))
        · refine e_iconst (v := 1) C dX2_poorestBut_50 (by decide) ?_
          refine e_goto (tgt := 55) C dX2_poorestBut_51 (by decide) ?_
          refine e_istore (ls2 := [(6, .int 1), (5, .ref (ρ (mO j))), (4, .int (nI j)), (3, .int b), (2, .int a), (0, .ref (ρ 0)), (1, .int s)]) C hnL dX2_poorestBut_55 (by decide) rfl ?_
          refine e_iload (j := 0) C dX2_poorestBut_57 rfl ?_
          refine e_if_eq (tgt := 85) C dX2_poorestBut_59 (by decide) (fun c_59 => absurd c_59 (by decide)) (fun c_59 => ?_)
          refine e_iload_n (j := 4) C dX2_poorestBut_62 rfl rfl ?_
          refine e_iconst (v := (-1)) C dX2_poorestBut_63 (by decide) ?_
          refine e_icmp_eq (tgt := 76) C dX2_poorestBut_64 (by decide) (fun c_64 => ?_) (fun c_64 => ?_)
          · refine e_iload (j := 2) C dX2_poorestBut_76 rfl ?_
            refine e_istore_n (ls2 := [(2, .int (nI j)), (6, .int 1), (5, .ref (ρ (mO j))), (4, .int (nI j)), (3, .int b), (0, .ref (ρ 0)), (1, .int s)]) C hnL dX2_poorestBut_78 rfl (by decide) rfl ?_
            refine e_aload (j := 2) C dX2_poorestBut_79 rfl ?_
            refine e_cV (i := (mO j)) (nA := 0) (Cn := RX0) C (c_X0_means hl hj) rfl (cnt_O hj) (fun cA => cell_O cA n ρ J j _) rfl rfl mw_292 mw_289 mw_290 mw_291 mw_65 (by decide +kernel) (by decide) rfl rfl (Nat.le_of_ble_eq_true rfl) dX2_poorestBut_81 (Nat.le_of_ble_eq_true rfl) (Nat.le_of_ble_eq_true rfl) ?_
            refine e_topi (fun x3_84 ex3_84 => ?_)
            refine e_istore_n (ls2 := [(3, .int x3_84), (2, .int (nI j)), (6, .int 1), (5, .ref (ρ (mO j))), (4, .int (nI j)), (0, .ref (ρ 0)), (1, .int s)]) C hnL dX2_poorestBut_84 rfl (by decide) rfl ?_
            obtain ⟨x4_85, ex4_85⟩ : ∃ z : Int32, z = (nI j) + 1 := ⟨_, rfl⟩
            refine e_iinc (j := 4) (v := x4_85) (ls2 := [(4, .int x4_85), (3, .int x3_84), (2, .int (nI j)), (6, .int 1), (5, .ref (ρ (mO j))), (0, .ref (ρ 0)), (1, .int s)]) C hnL dX2_poorestBut_85 rfl (by rw [ex4_85]; rfl) (by decide) rfl ?_
            refine e_goto (tgt := 7) C dX2_poorestBut_88 (by decide) ?_
            subst ex4_85 ex3_84
            rw [nI_1]
            exact e_sub [0, 1, 2, 5, 6] rfl (ih (j + 1) _ _ (by omega) (by rw [hps]; (repeat (first | rw [if_neg c_16] | rw [if_neg c_38] | rw [if_pos c_47] | rw [if_neg c_59] | rw [if_pos c_64]))))
          · refine e_aload (j := 1) C dX2_poorestBut_67 rfl ?_
            refine e_cV (i := (mO j)) (nA := 0) (Cn := RX0) C (c_X0_means hl hj) rfl (cnt_O hj) (fun cA => cell_O cA n ρ J j _) rfl rfl mw_292 mw_289 mw_290 mw_291 mw_65 (by decide +kernel) (by decide) rfl rfl (Nat.le_of_ble_eq_true rfl) dX2_poorestBut_69 (Nat.le_of_ble_eq_true rfl) (Nat.le_of_ble_eq_true rfl) ?_
            refine e_iload_n (j := 3) C dX2_poorestBut_72 rfl rfl ?_
            refine e_icmp_ge (tgt := 85) C dX2_poorestBut_73 (by decide) (fun c_73 => ?_) (fun c_73 => ?_)
            · obtain ⟨x4_85, ex4_85⟩ : ∃ z : Int32, z = (nI j) + 1 := ⟨_, rfl⟩
              refine e_iinc (j := 2) (v := x4_85) (ls2 := [(4, .int x4_85), (6, .int 1), (5, .ref (ρ (mO j))), (3, .int b), (2, .int a), (0, .ref (ρ 0)), (1, .int s)]) C hnL dX2_poorestBut_85 rfl (by rw [ex4_85]; rfl) (by decide) rfl ?_
              refine e_goto (tgt := 7) C dX2_poorestBut_88 (by decide) ?_
              subst ex4_85
              rw [nI_1]
              exact e_sub [0, 3, 4, 5, 6] rfl (ih (j + 1) _ _ (by omega) (by rw [hps]; (repeat (first | rw [if_neg c_16] | rw [if_neg c_38] | rw [if_pos c_47] | rw [if_neg c_59] | rw [if_neg c_64] | rw [if_pos c_73]))))
            · refine e_iload (j := 2) C dX2_poorestBut_76 rfl ?_
              refine e_istore_n (ls2 := [(2, .int (nI j)), (6, .int 1), (5, .ref (ρ (mO j))), (4, .int (nI j)), (3, .int b), (0, .ref (ρ 0)), (1, .int s)]) C hnL dX2_poorestBut_78 rfl (by decide) rfl ?_
              refine e_aload (j := 2) C dX2_poorestBut_79 rfl ?_
              refine e_cV (i := (mO j)) (nA := 0) (Cn := RX0) C (c_X0_means hl hj) rfl (cnt_O hj) (fun cA => cell_O cA n ρ J j _) rfl rfl mw_292 mw_289 mw_290 mw_291 mw_65 (by decide +kernel) (by decide) rfl rfl (Nat.le_of_ble_eq_true rfl) dX2_poorestBut_81 (Nat.le_of_ble_eq_true rfl) (Nat.le_of_ble_eq_true rfl) ?_
              refine e_topi (fun x3_84 ex3_84 => ?_)
              refine e_istore_n (ls2 := [(3, .int x3_84), (2, .int (nI j)), (6, .int 1), (5, .ref (ρ (mO j))), (4, .int (nI j)), (0, .ref (ρ 0)), (1, .int s)]) C hnL dX2_poorestBut_84 rfl (by decide) rfl ?_
              obtain ⟨x4_85, ex4_85⟩ : ∃ z : Int32, z = (nI j) + 1 := ⟨_, rfl⟩
              refine e_iinc (j := 4) (v := x4_85) (ls2 := [(4, .int x4_85), (3, .int x3_84), (2, .int (nI j)), (6, .int 1), (5, .ref (ρ (mO j))), (0, .ref (ρ 0)), (1, .int s)]) C hnL dX2_poorestBut_85 rfl (by rw [ex4_85]; rfl) (by decide) rfl ?_
              refine e_goto (tgt := 7) C dX2_poorestBut_88 (by decide) ?_
              subst ex4_85 ex3_84
              rw [nI_1]
              exact e_sub [0, 1, 2, 5, 6] rfl (ih (j + 1) _ _ (by omega) (by rw [hps]; (repeat (first | rw [if_neg c_16] | rw [if_neg c_38] | rw [if_pos c_47] | rw [if_neg c_59] | rw [if_neg c_64] | rw [if_neg c_73]))))
  refine e_iconst (v := (-1)) C dX2_poorestBut_0 (by decide) ?_
  refine e_istore_n (ls2 := [(2, .int (-1)), (0, .ref (ρ 0)), (1, .int s)]) C hnL dX2_poorestBut_1 rfl (by decide) rfl ?_
  refine e_iconst (v := 0) C dX2_poorestBut_2 (by decide) ?_
  refine e_istore_n (ls2 := [(3, .int 0), (2, .int (-1)), (0, .ref (ρ 0)), (1, .int s)]) C hnL dX2_poorestBut_3 rfl (by decide) rfl ?_
  refine e_iconst (v := 0) C dX2_poorestBut_4 (by decide) ?_
  refine e_istore (ls2 := [(4, .int 0), (3, .int 0), (2, .int (-1)), (0, .ref (ρ 0)), (1, .int s)]) C hnL dX2_poorestBut_5 (by decide) rfl ?_
  exact e_sub [0, 1, 2, 3, 4] rfl (loop n 0 (-1) 0 (by omega) rfl)
def sp (n : Nat) (M : Mem) (s : Int32) : Nat → Mem × Int32
  | 0 => (M, s)
  | f + 1 => if M 0 16 < 2 then (M, s) else if (pb M s n).1 = -1 then (M, s) else sp n (up M 0 16 (M 0 16 - 2)) (s ||| 1 <<< ((pb M s n).1 &&& 31)) f
theorem sp_s (n : Nat) (M : Mem) (s : Int32) (f : Nat) : sp n M s (f + 1) = if M 0 16 < 2 then (M, s) else if (pb M s n).1 = -1 then (M, s) else sp n (up M 0 16 (M 0 16 - 2)) (s ||| 1 <<< ((pb M s n).1 &&& 31)) f := rfl
def o_soup (M : Mem) (n : Nat) : Out := if M 0 14 = 0 then rX IS M else rI (sp n M 0 n).2 (sp n M 0 n).1
set_option maxRecDepth 100000 in
set_option maxHeartbeats 4000000 in
theorem c_X2_soup {l : Launch} (hl : l.stackTraces = false) {n : Nat} {ρ : Nat → Nat} {J : Nat → Int64} {M : Mem} (hn : n ≤ 10) : CtO l yX2_soup cX2_soup 4 (some .int) 6 1 6 n ρ J M [.ref (ρ 0)] (o_soup M n) := by
  refine CtO.of hl (by decide +kernel) (Nat.le_of_ble_eq_true rfl) (fun Ξ hnL C => ?_)
  show E Ξ n ρ J M 0 0 0 [(0, .ref (ρ 0))] []
  obtain ⟨R0, hR0⟩ : ∃ z, z = o_soup M n := ⟨_, rfl⟩
  rw [← hR0] at C
  by_cases h2 : M 0 14 = 0
  · refine e_aload_n (j := 0) C dX2_soup_0 rfl rfl ?_
    refine e_get2 (k := 14) (ref := "ScripHollow") C (by decide) rfl rfl mw_143 dX2_soup_1 ?_
    refine e_if_ne (tgt := 17) C dX2_soup_4 (by decide) (fun c_4 => absurd h2 c_4) (fun c_4 => ?_)
    exact e_throw (text := "there is no strike") C th_IS mw_61 mw_62 (by decide) rfl rfl dX2_soup_7 dX2_soup_10 dX2_soup_11 dX2_soup_13 dX2_soup_16 (by decide) (Nat.le_of_ble_eq_true rfl) (Nat.le_of_ble_eq_true rfl) (Nat.le_of_ble_eq_true rfl) (Nat.le_of_ble_eq_true rfl) (Nat.le_of_ble_eq_true rfl) (xO.mk (by rw [hR0]; unfold o_soup; rw [if_pos h2]))
  · have loop : ∀ (f u : Nat) (N : Mem) (s : Int32), u + f = n → R0 = rI (sp n N s f).2 (sp n N s f).1 → E Ξ n ρ J N 0 0 21 [(2, .int (nI u)), (1, .int s), (0, .ref (ρ 0))] [] := by
      intro f
      induction f with
      | zero =>
        intro u N s hu hR
        have hun : u = n := by omega
        refine e_iload_n (j := 0) C dX2_soup_21 rfl rfl ?_
        refine e_aload_n (j := 2) C dX2_soup_22 rfl rfl ?_
        refine e_get2 (k := 0) (ref := "ScripHollow") C (by decide) rfl rfl mw_24 dX2_soup_23 ?_
        refine e_cV (i := 1) (nA := 0) (Cn := RJx4a65c) C (c_JL_size hl) rfl (cnt_fix (by decide)) (fun _ => rfl) rfl rfl mw_69 mw_66 mw_67 mw_68 mw_23 (by decide +kernel) (by decide) rfl rfl (Nat.le_of_ble_eq_true rfl) dX2_soup_26 (Nat.le_of_ble_eq_true rfl) (Nat.le_of_ble_eq_true rfl) ?_
        refine e_icmp_ge (tgt := 76) C dX2_soup_29 (by decide) (fun c_29 => ?_) (fun c_29 => absurd (nI_le (by omega) (by omega)) c_29)
        refine e_iload_n (j := 1) C dX2_soup_76 rfl rfl ?_
        exact e_iret C rfl (Nat.le_of_ble_eq_true rfl) (Nat.le_of_ble_eq_true rfl) dX2_soup_77 (pO.mk (by rw [hR]; rfl))
      | succ f ih =>
        intro u N s hu hR
        have hun : u < n := by omega
        rw [sp_s] at hR
        refine e_iload_n (j := 0) C dX2_soup_21 rfl rfl ?_
        refine e_aload_n (j := 2) C dX2_soup_22 rfl rfl ?_
        refine e_get2 (k := 0) (ref := "ScripHollow") C (by decide) rfl rfl mw_24 dX2_soup_23 ?_
        refine e_cV (i := 1) (nA := 0) (Cn := RJx4a65c) C (c_JL_size hl) rfl (cnt_fix (by decide)) (fun _ => rfl) rfl rfl mw_69 mw_66 mw_67 mw_68 mw_23 (by decide +kernel) (by decide) rfl rfl (Nat.le_of_ble_eq_true rfl) dX2_soup_26 (Nat.le_of_ble_eq_true rfl) (Nat.le_of_ble_eq_true rfl) ?_
        refine e_icmp_ge (tgt := 76) C dX2_soup_29 (by decide) (fun c_29 => absurd c_29 (nI_ge hun (by omega))) (fun c_29 => ?_)
        refine e_aload_n (j := 2) C dX2_soup_32 rfl rfl ?_
        refine e_get2 (k := 16) (ref := "ScripHollow") C (by decide) rfl rfl mw_368 dX2_soup_33 ?_
        refine e_iconst (v := 2) C dX2_soup_36 (by decide) ?_
        refine e_icmp_lt (tgt := 76) C dX2_soup_37 (by decide) (fun c_37 => ?_) (fun c_37 => ?_)
        · refine e_iload_n (j := 1) C dX2_soup_76 rfl rfl ?_
          exact e_iret C rfl (Nat.le_of_ble_eq_true rfl) (Nat.le_of_ble_eq_true rfl) dX2_soup_77 (pO.mk (by rw [hR]; (try subst ex3_45); (repeat (first | rw [if_neg c_29] | rw [if_pos c_37]))))
        · refine e_aload_n (j := 2) C dX2_soup_40 rfl rfl ?_
          refine e_iload_n (j := 1) C dX2_soup_41 rfl rfl ?_
          refine e_cV (i := 0) (nA := 1) (Cn := RX2) C (c_X2_poorestBut hl hn) rfl (cnt_fix (by decide)) (fun _ => rfl) rfl rfl mw_397 mw_394 mw_395 mw_396 mw_12 (by decide +kernel) (by decide) rfl rfl (Nat.le_of_ble_eq_true rfl) dX2_soup_42 (Nat.le_of_ble_eq_true rfl) (Nat.le_of_ble_eq_true rfl) ?_
          refine e_topi (fun x3_45 ex3_45 => ?_)
          refine e_istore_n (ls2 := [(3, .int x3_45), (2, .int (nI u)), (1, .int s), (0, .ref (ρ 0))]) C hnL dX2_soup_45 rfl (by decide) rfl ?_
          refine e_iload_n (j := 0) C dX2_soup_46 rfl rfl ?_
          refine e_iconst (v := (-1)) C dX2_soup_47 (by decide) ?_
          refine e_icmp_ne (tgt := 54) C dX2_soup_48 (by decide) (fun c_48 => ?_) (fun c_48 => ?_)
          · refine e_aload_n (j := 3) C dX2_soup_54 rfl rfl ?_
            refine e_dup C dX2_soup_55 rfl ?_
            refine e_get2 (k := 16) (ref := "ScripHollow") C (by decide) rfl rfl mw_368 dX2_soup_56 ?_
            refine e_iconst (v := 2) C dX2_soup_59 (by decide) ?_
            refine e_isub C dX2_soup_60 ?_
            refine e_put2 (k := 16) (ref := "ScripHollow") (ty := .int) C (by decide) rfl rfl (by decide +kernel) rfl rfl rfl mw_368 dX2_soup_61 ?_
            refine e_iload_n (j := 2) C dX2_soup_64 rfl rfl ?_
            refine e_iconst (v := 1) C dX2_soup_65 (by decide) ?_
            refine e_iload_n (j := 0) C dX2_soup_66 rfl rfl ?_
            refine e_ishl C dX2_soup_67 ?_
            refine e_ior C dX2_soup_68 ?_
            refine e_topi (fun x1_69 ex1_69 => ?_)
            refine e_istore_n (ls2 := [(1, .int x1_69), (3, .int x3_45), (2, .int (nI u)), (0, .ref (ρ 0))]) C hnL dX2_soup_69 rfl (by decide) rfl ?_
            obtain ⟨x2_70, ex2_70⟩ : ∃ z : Int32, z = (nI u) + 1 := ⟨_, rfl⟩
            refine e_iinc (j := 2) (v := x2_70) (ls2 := [(2, .int x2_70), (1, .int x1_69), (3, .int x3_45), (0, .ref (ρ 0))]) C hnL dX2_soup_70 rfl (by rw [ex2_70]; rfl) (by decide) rfl ?_
            refine e_goto (tgt := 21) C dX2_soup_73 (by decide) ?_
            subst ex2_70 ex1_69 ex3_45
            rw [nI_1]
            exact e_sub [0, 1, 3] rfl (ih (u + 1) _ _ (by omega) (by rw [hR]; (repeat (first | rw [if_neg c_29] | rw [if_neg c_37] | rw [if_neg c_48]))))
          · refine e_goto (tgt := 76) C dX2_soup_51 (by decide) ?_
            refine e_iload_n (j := 2) C dX2_soup_76 rfl rfl ?_
            exact e_iret C rfl (Nat.le_of_ble_eq_true rfl) (Nat.le_of_ble_eq_true rfl) dX2_soup_77 (pO.mk (by rw [hR]; (try subst ex3_45); (repeat (first | rw [if_neg c_29] | rw [if_neg c_37] | rw [if_pos c_48]))))
    refine e_aload_n (j := 0) C dX2_soup_0 rfl rfl ?_
    refine e_get2 (k := 14) (ref := "ScripHollow") C (by decide) rfl rfl mw_143 dX2_soup_1 ?_
    refine e_if_ne (tgt := 17) C dX2_soup_4 (by decide) (fun c_4 => ?_) (fun c_4 => absurd c_4 h2)
    refine e_iconst (v := 0) C dX2_soup_17 (by decide) ?_
    refine e_istore_n (ls2 := [(1, .int 0), (0, .ref (ρ 0))]) C hnL dX2_soup_18 rfl (by decide) rfl ?_
    refine e_iconst (v := 0) C dX2_soup_19 (by decide) ?_
    refine e_istore_n (ls2 := [(2, .int 0), (1, .int 0), (0, .ref (ρ 0))]) C hnL dX2_soup_20 rfl (by decide) rfl ?_
    exact e_sub [0, 1, 2] rfl (loop n 0 M 0 (by omega) (by rw [hR0]; unfold o_soup; rw [if_neg h2]))
def tot (M : Mem) (i : Nat) : Nat → Int32
  | 0 => 0
  | j + 1 => tot M i j + M (mS j) i
def rdC (l m u : Int32) : Int32 := if m < u then (l.toInt64 * m.toInt64 / u.toInt64).toInt32 else l
def rd1 (M : Mem) (j i : Nat) : Mem := lose M j i (M (mS j) i)
def rd2 (M : Mem) (j i : Nat) (m u : Int32) : Mem := up (rd1 M j i) (mO j) 5 (rd1 M j i (mO j) 5 + rdC (mn (M (mS j) i) (M (mS j) i)) m u)
def rd (M : Mem) (i : Nat) (m u : Int32) : Nat → Mem × Int32
  | 0 => (M, 0)
  | j + 1 => (rd2 (rd M i m u j).1 j i m u, (rd M i m u j).2 + rdC (mn ((rd M i m u j).1 (mS j) i) ((rd M i m u j).1 (mS j) i)) m u)
theorem rd_s (M : Mem) (i : Nat) (m u : Int32) (j : Nat) : rd M i m u (j + 1) = (rd2 (rd M i m u j).1 j i m u, (rd M i m u j).2 + rdC (mn ((rd M i m u j).1 (mS j) i) ((rd M i m u j).1 (mS j) i)) m u) := rfl
def rdF (M : Mem) (i : Nat) (m : Int32) (n : Nat) : Mem := up (rd M i m (tot M i n) n).1 7 5 ((rd M i m (tot M i n) n).1 7 5 + tot M i n)
def redM (M : Mem) (i : Nat) (m : Int32) (n : Nat) : Mem × Int32 := if tot M i n ≤ 0 then (M, 0) else (rdF M i m n, (rd M i m (tot M i n) n).2)
theorem l0 {x : Int32} (h : ¬ x ≤ 0) : ¬ x.toInt64 = 0 := by
  intro e
  apply h
  have e2 := congrArg Int64.toInt e
  rw [Int32.toInt_toInt64] at e2
  have e3 : x = 0 := Int32.toInt_inj.mp e2
  rw [e3]
  decide
set_option maxRecDepth 100000 in
set_option maxHeartbeats 4000000 in
theorem c_X2_redeem {l : Launch} (hl : l.stackTraces = false) {n : Nat} {ρ : Nat → Nat} {J : Nat → Int64} {M : Mem} (hn : n ≤ 10) {i : Nat} (hi : i < 40) {m : Int32} : CtO l yX2_redeem cX2_redeem 9 (some .int) 3 0 0 n ρ J M [.ref (ρ 0), .int (nI i), .int m] (rI (redM M i m n).2 (redM M i m n).1) := by
  refine CtO.of hl (by decide +kernel) (Nat.le_of_ble_eq_true rfl) (fun Ξ hnL C => ?_)
  show E Ξ n ρ J M 0 0 0 [(0, .ref (ρ 0)), (1, .int (nI i)), (2, .int m)] []
  obtain ⟨R0, hR0⟩ : ∃ z, z = rI (redM M i m n).2 (redM M i m n).1 := ⟨_, rfl⟩
  rw [← hR0] at C
  have loop2 : ¬ tot M i n ≤ 0 → ∀ (f j : Nat) (N : Mem) (g : Int32), j + f = n → rd M i m (tot M i n) j = (N, g) → E Ξ n ρ J N 0 0 55 [(5, .int (nI j)), (4, .int g), (3, .int (tot M i n)), (0, .ref (ρ 0)), (1, .int (nI i)), (2, .int m)] [] := by
    intro hz f
    unfold redM rdF at hR0
    rw [if_neg hz] at hR0
    generalize hU : tot M i n = U at hz hR0
    induction f with
    | zero =>
      intro j N g hjf hN
      have hjn : j = n := by omega
      rw [← hjn, hN] at hR0
      dsimp only at hR0
      refine e_iload (j := 0) C dX2_redeem_55 rfl ?_
      refine e_aload_n (j := 3) C dX2_redeem_57 rfl rfl ?_
      refine e_get2 (k := 0) (ref := "ScripHollow") C (by decide) rfl rfl mw_24 dX2_redeem_58 ?_
      refine e_cV (i := 1) (nA := 0) (Cn := RJx4a65c) C (c_JL_size hl) rfl (cnt_fix (by decide)) (fun _ => rfl) rfl rfl mw_69 mw_66 mw_67 mw_68 mw_23 (by decide +kernel) (by decide) rfl rfl (Nat.le_of_ble_eq_true rfl) dX2_redeem_61 (Nat.le_of_ble_eq_true rfl) (Nat.le_of_ble_eq_true rfl) ?_
      refine e_icmp_ge (tgt := 143) C dX2_redeem_64 (by decide) (fun c_64 => ?_) (fun c_64 => absurd (nI_le (by omega) (by omega)) c_64)
      refine e_aload_n (j := 3) C dX2_redeem_143 rfl rfl ?_
      refine e_get2 (k := 17) (ref := "ScripHollow") C (by decide) rfl rfl mw_38 dX2_redeem_144 ?_
      refine e_iconst (v := 5) C dX2_redeem_147 (by decide) ?_
      refine e_dup2 C dX2_redeem_148 rfl rfl ?_
      refine e_ialdN 5 C (cnt_fix (by decide)) (fun _ => rfl) rfl (by decide) (by decide) dX2_redeem_149 ?_
      refine e_iload_n (j := 2) C dX2_redeem_150 rfl rfl ?_
      refine e_iadd C dX2_redeem_151 ?_
      refine e_iastN 5 C (cnt_fix (by decide)) (fun _ _ => rfl) rfl (by decide) (by decide) dX2_redeem_152 ?_
      refine e_iload (j := 1) C dX2_redeem_153 rfl ?_
      exact e_iret C rfl (Nat.le_of_ble_eq_true rfl) (Nat.le_of_ble_eq_true rfl) dX2_redeem_155 (pO.mk hR0)
    | succ f ih =>
      intro j N g hjf hN
      have hj : j < n := by omega
      have hps := rd_s M i m U j
      rw [hN] at hps
      dsimp only at hps
      unfold rd2 rdC at hps
      refine e_iload (j := 0) C dX2_redeem_55 rfl ?_
      refine e_aload_n (j := 3) C dX2_redeem_57 rfl rfl ?_
      refine e_get2 (k := 0) (ref := "ScripHollow") C (by decide) rfl rfl mw_24 dX2_redeem_58 ?_
      refine e_cV (i := 1) (nA := 0) (Cn := RJx4a65c) C (c_JL_size hl) rfl (cnt_fix (by decide)) (fun _ => rfl) rfl rfl mw_69 mw_66 mw_67 mw_68 mw_23 (by decide +kernel) (by decide) rfl rfl (Nat.le_of_ble_eq_true rfl) dX2_redeem_61 (Nat.le_of_ble_eq_true rfl) (Nat.le_of_ble_eq_true rfl) ?_
      refine e_icmp_ge (tgt := 143) C dX2_redeem_64 (by decide) (fun c_64 => absurd c_64 (nI_ge hj (by omega))) (fun c_64 => ?_)
      refine e_aload_n (j := 3) C dX2_redeem_67 rfl rfl ?_
      refine e_get2 (k := 0) (ref := "ScripHollow") C (by decide) rfl rfl mw_24 dX2_redeem_68 ?_
      refine e_iload (j := 0) C dX2_redeem_71 rfl ?_
      refine e_cV (i := 1) (nA := 1) (Cn := RJx4a65c) C (c_JL_get hl hj hn) rfl (cnt_fix (by decide)) (fun _ => rfl) rfl rfl mw_160 mw_157 mw_158 mw_159 mw_23 (by decide +kernel) (by decide) rfl rfl (Nat.le_of_ble_eq_true rfl) dX2_redeem_73 (Nat.le_of_ble_eq_true rfl) (Nat.le_of_ble_eq_true rfl) ?_
      refine e_castM C hj mw_63 dX2_redeem_76 ?_
      refine e_astore (ls2 := [(6, .ref (ρ (mO j))), (5, .int (nI j)), (4, .int g), (3, .int U), (0, .ref (ρ 0)), (1, .int (nI i)), (2, .int m)]) C hnL dX2_redeem_79 (by decide) rfl ?_
      refine e_aload (j := 0) C dX2_redeem_81 rfl ?_
      refine e_iload_n (j := 5) C dX2_redeem_83 rfl rfl ?_
      refine e_aload (j := 0) C dX2_redeem_84 rfl ?_
      refine e_get0 (k := 11) (kk0 := j) (ref := "ScripHollow$Miner") C hj (by decide) rfl rfl mw_250 dX2_redeem_86 ?_
      refine e_iload_n (j := 5) C dX2_redeem_89 rfl rfl ?_
      refine e_ialdN i C (cnt_S hj) (fun cA => cell_S cA n ρ J j _) rfl (by omega) (by decide) dX2_redeem_90 ?_
      refine e_cV (i := (mO j)) (nA := 2) (Cn := RX0) C (c_X0_loseScrip hl hj hi) rfl (cnt_O hj) (fun cA => cell_O cA n ρ J j _) rfl rfl mw_254 mw_251 mw_252 mw_253 mw_65 (by decide +kernel) (by decide) rfl rfl (Nat.le_of_ble_eq_true rfl) dX2_redeem_91 (Nat.le_of_ble_eq_true rfl) (Nat.le_of_ble_eq_true rfl) ?_
      refine e_mem (M' := rd1 N j i) rfl ?_
      refine e_topi (fun x7_94 ex7_94 => ?_)
      refine e_istore (ls2 := [(7, .int x7_94), (6, .ref (ρ (mO j))), (5, .int (nI j)), (4, .int g), (3, .int U), (0, .ref (ρ 0)), (1, .int (nI i)), (2, .int m)]) C hnL dX2_redeem_94 (by decide) rfl ?_
      refine e_iload_n (j := 7) C dX2_redeem_96 rfl rfl ?_
      refine e_iload_n (j := 4) C dX2_redeem_97 rfl rfl ?_
      refine e_icmp_lt (tgt := 106) C dX2_redeem_98 (by decide) (fun c_98 => ?_) (fun c_98 => ?_)
      · refine e_iload (j := 0) C dX2_redeem_106 rfl ?_
        refine e_i2l C dX2_redeem_108 ?_
        refine e_iload_n (j := 7) C dX2_redeem_109 rfl rfl ?_
        refine e_i2l C dX2_redeem_110 ?_
        refine e_lmul C dX2_redeem_111 ?_
        refine e_iload_n (j := 4) C dX2_redeem_112 rfl rfl ?_
        refine e_i2l C dX2_redeem_113 ?_
        refine e_ldiv C dX2_redeem_114 (l0 hz) ?_
        refine e_l2i C dX2_redeem_115 ?_
        refine e_topi (fun x8_116 ex8_116 => ?_)
        refine e_istore (ls2 := [(8, .int x8_116), (7, .int x7_94), (6, .ref (ρ (mO j))), (5, .int (nI j)), (4, .int g), (3, .int U), (0, .ref (ρ 0)), (1, .int (nI i)), (2, .int m)]) C hnL dX2_redeem_116 (by decide) rfl ?_
        refine e_aload (j := 2) C dX2_redeem_118 rfl ?_
        refine e_dup C dX2_redeem_120 rfl ?_
        refine e_get0 (k := 5) (kk0 := j) (ref := "ScripHollow$Miner") C hj (by decide) rfl rfl mw_240 dX2_redeem_121 ?_
        refine e_iload (j := 0) C dX2_redeem_124 rfl ?_
        refine e_iadd C dX2_redeem_126 ?_
        refine e_put0 (k := 5) (kk0 := j) (ref := "ScripHollow$Miner") (ty := .int) C hj (by decide) rfl rfl (by decide +kernel) rfl rfl rfl mw_240 dX2_redeem_127 ?_
        refine e_iload (j := 4) C dX2_redeem_130 rfl ?_
        refine e_iload (j := 0) C dX2_redeem_132 rfl ?_
        refine e_iadd C dX2_redeem_134 ?_
        refine e_topi (fun x4_135 ex4_135 => ?_)
        refine e_istore (ls2 := [(4, .int x4_135), (8, .int x8_116), (7, .int x7_94), (6, .ref (ρ (mO j))), (5, .int (nI j)), (3, .int U), (0, .ref (ρ 0)), (1, .int (nI i)), (2, .int m)]) C hnL dX2_redeem_135 (by decide) rfl ?_
        obtain ⟨x5_137, ex5_137⟩ : ∃ z : Int32, z = (nI j) + 1 := ⟨_, rfl⟩
        refine e_iinc (j := 4) (v := x5_137) (ls2 := [(5, .int x5_137), (4, .int x4_135), (8, .int x8_116), (7, .int x7_94), (6, .ref (ρ (mO j))), (3, .int U), (0, .ref (ρ 0)), (1, .int (nI i)), (2, .int m)]) C hnL dX2_redeem_137 rfl (by rw [ex5_137]; rfl) (by decide) rfl ?_
        refine e_goto (tgt := 55) C dX2_redeem_140 (by decide) ?_
        subst ex5_137 ex4_135 ex8_116 ex7_94
        rw [nI_1]
        exact e_sub [0, 1, 5, 6, 7, 8] rfl (ih (j + 1) _ _ (by omega) (by rw [hps]; (repeat (first | rw [if_neg c_64] | rw [if_pos c_98]))))
      · refine e_iload (j := 0) C dX2_redeem_101 rfl ?_
        refine e_goto (tgt := 116) C dX2_redeem_103 (by decide) ?_
        refine e_istore (ls2 := [(8, .int x7_94), (7, .int x7_94), (6, .ref (ρ (mO j))), (5, .int (nI j)), (4, .int g), (3, .int U), (0, .ref (ρ 0)), (1, .int (nI i)), (2, .int m)]) C hnL dX2_redeem_116 (by decide) rfl ?_
        refine e_aload (j := 2) C dX2_redeem_118 rfl ?_
        refine e_dup C dX2_redeem_120 rfl ?_
        refine e_get0 (k := 5) (kk0 := j) (ref := "ScripHollow$Miner") C hj (by decide) rfl rfl mw_240 dX2_redeem_121 ?_
        refine e_iload (j := 0) C dX2_redeem_124 rfl ?_
        refine e_iadd C dX2_redeem_126 ?_
        refine e_put0 (k := 5) (kk0 := j) (ref := "ScripHollow$Miner") (ty := .int) C hj (by decide) rfl rfl (by decide +kernel) rfl rfl rfl mw_240 dX2_redeem_127 ?_
        refine e_iload (j := 4) C dX2_redeem_130 rfl ?_
        refine e_iload (j := 0) C dX2_redeem_132 rfl ?_
        refine e_iadd C dX2_redeem_134 ?_
        refine e_topi (fun x4_135 ex4_135 => ?_)
        refine e_istore (ls2 := [(4, .int x4_135), (8, .int x7_94), (7, .int x7_94), (6, .ref (ρ (mO j))), (5, .int (nI j)), (3, .int U), (0, .ref (ρ 0)), (1, .int (nI i)), (2, .int m)]) C hnL dX2_redeem_135 (by decide) rfl ?_
        obtain ⟨x5_137, ex5_137⟩ : ∃ z : Int32, z = (nI j) + 1 := ⟨_, rfl⟩
        refine e_iinc (j := 4) (v := x5_137) (ls2 := [(5, .int x5_137), (4, .int x4_135), (8, .int x7_94), (7, .int x7_94), (6, .ref (ρ (mO j))), (3, .int U), (0, .ref (ρ 0)), (1, .int (nI i)), (2, .int m)]) C hnL dX2_redeem_137 rfl (by rw [ex5_137]; rfl) (by decide) rfl ?_
        refine e_goto (tgt := 55) C dX2_redeem_140 (by decide) ?_
        subst ex5_137 ex4_135 ex7_94
        rw [nI_1]
        exact e_sub [0, 1, 5, 6, 7, 8] rfl (ih (j + 1) _ _ (by omega) (by rw [hps]; (repeat (first | rw [if_neg c_64] | rw [if_neg c_98]))))
  have loop : ∀ (f j : Nat), j + f = n → E Ξ n ρ J M 0 0 5 [(4, .int (nI j)), (3, .int (tot M i j)), (0, .ref (ρ 0)), (1, .int (nI i)), (2, .int m)] [] := by
    intro f
    induction f with
    | zero =>
      intro j hjf
      have hjn : j = n := by omega
      rw [hjn]
      refine e_iload (j := 0) C dX2_redeem_5 rfl ?_
      refine e_aload_n (j := 2) C dX2_redeem_7 rfl rfl ?_
      refine e_get2 (k := 0) (ref := "ScripHollow") C (by decide) rfl rfl mw_24 dX2_redeem_8 ?_
      refine e_cV (i := 1) (nA := 0) (Cn := RJx4a65c) C (c_JL_size hl) rfl (cnt_fix (by decide)) (fun _ => rfl) rfl rfl mw_69 mw_66 mw_67 mw_68 mw_23 (by decide +kernel) (by decide) rfl rfl (Nat.le_of_ble_eq_true rfl) dX2_redeem_11 (Nat.le_of_ble_eq_true rfl) (Nat.le_of_ble_eq_true rfl) ?_
      refine e_icmp_ge (tgt := 43) C dX2_redeem_14 (by decide) (fun c_14 => ?_) (fun c_14 => absurd (nI_le (Nat.le_refl n) (by omega)) c_14)
      refine e_iload_n (j := 1) C dX2_redeem_43 rfl rfl ?_
      refine e_if_gt (tgt := 49) C dX2_redeem_44 (by decide) (fun c_44 => ?_) (fun c_44 => ?_)
      · refine e_iconst (v := 0) C dX2_redeem_49 (by decide) ?_
        refine e_istore (ls2 := [(4, .int 0), (3, .int (tot M i n)), (0, .ref (ρ 0)), (1, .int (nI i)), (2, .int m)]) C hnL dX2_redeem_50 (by decide) rfl ?_
        refine e_iconst (v := 0) C dX2_redeem_52 (by decide) ?_
        refine e_istore (ls2 := [(5, .int 0), (4, .int 0), (3, .int (tot M i n)), (0, .ref (ρ 0)), (1, .int (nI i)), (2, .int m)]) C hnL dX2_redeem_53 (by decide) rfl ?_
        exact e_sub [0, 1, 2, 3, 4, 5] rfl (loop2 (Int32.not_le.mpr c_44) n 0 M 0 (by omega) rfl)
      · refine e_iconst (v := 0) C dX2_redeem_47 (by decide) ?_
        exact e_iret C rfl (Nat.le_of_ble_eq_true rfl) (Nat.le_of_ble_eq_true rfl) dX2_redeem_48 (pO.mk (by rw [hR0]; unfold redM; rw [if_pos (Int32.not_lt.mp c_44)]))
    | succ f ih =>
      intro j hjf
      have hj : j < n := by omega
      refine e_iload (j := 0) C dX2_redeem_5 rfl ?_
      refine e_aload_n (j := 2) C dX2_redeem_7 rfl rfl ?_
      refine e_get2 (k := 0) (ref := "ScripHollow") C (by decide) rfl rfl mw_24 dX2_redeem_8 ?_
      refine e_cV (i := 1) (nA := 0) (Cn := RJx4a65c) C (c_JL_size hl) rfl (cnt_fix (by decide)) (fun _ => rfl) rfl rfl mw_69 mw_66 mw_67 mw_68 mw_23 (by decide +kernel) (by decide) rfl rfl (Nat.le_of_ble_eq_true rfl) dX2_redeem_11 (Nat.le_of_ble_eq_true rfl) (Nat.le_of_ble_eq_true rfl) ?_
      refine e_icmp_ge (tgt := 43) C dX2_redeem_14 (by decide) (fun c_14 => absurd c_14 (nI_ge hj (by omega))) (fun c_14 => ?_)
      refine e_iload_n (j := 1) C dX2_redeem_17 rfl rfl ?_
      refine e_aload_n (j := 2) C dX2_redeem_18 rfl rfl ?_
      refine e_get2 (k := 0) (ref := "ScripHollow") C (by decide) rfl rfl mw_24 dX2_redeem_19 ?_
      refine e_iload (j := 0) C dX2_redeem_22 rfl ?_
      refine e_cV (i := 1) (nA := 1) (Cn := RJx4a65c) C (c_JL_get hl hj hn) rfl (cnt_fix (by decide)) (fun _ => rfl) rfl rfl mw_160 mw_157 mw_158 mw_159 mw_23 (by decide +kernel) (by decide) rfl rfl (Nat.le_of_ble_eq_true rfl) dX2_redeem_24 (Nat.le_of_ble_eq_true rfl) (Nat.le_of_ble_eq_true rfl) ?_
      refine e_castM C hj mw_63 dX2_redeem_27 ?_
      refine e_get0 (k := 11) (kk0 := j) (ref := "ScripHollow$Miner") C hj (by decide) rfl rfl mw_250 dX2_redeem_30 ?_
      refine e_iload_n (j := 3) C dX2_redeem_33 rfl rfl ?_
      refine e_ialdN i C (cnt_S hj) (fun cA => cell_S cA n ρ J j _) rfl (by omega) (by decide) dX2_redeem_34 ?_
      refine e_iadd C dX2_redeem_35 ?_
      refine e_topi (fun x3_36 ex3_36 => ?_)
      refine e_istore_n (ls2 := [(3, .int x3_36), (4, .int (nI j)), (0, .ref (ρ 0)), (1, .int (nI i)), (2, .int m)]) C hnL dX2_redeem_36 rfl (by decide) rfl ?_
      obtain ⟨x4_37, ex4_37⟩ : ∃ z : Int32, z = (nI j) + 1 := ⟨_, rfl⟩
      refine e_iinc (j := 1) (v := x4_37) (ls2 := [(4, .int x4_37), (3, .int x3_36), (0, .ref (ρ 0)), (1, .int (nI i)), (2, .int m)]) C hnL dX2_redeem_37 rfl (by rw [ex4_37]; rfl) (by decide) rfl ?_
      refine e_goto (tgt := 5) C dX2_redeem_40 (by decide) ?_
      subst ex4_37 ex3_36
      rw [nI_1]
      exact e_sub [0, 1, 2, 3, 4] rfl (ih (j + 1) (by omega))
  refine e_iconst (v := 0) C dX2_redeem_0 (by decide) ?_
  refine e_istore_n (ls2 := [(3, .int 0), (0, .ref (ρ 0)), (1, .int (nI i)), (2, .int m)]) C hnL dX2_redeem_1 rfl (by decide) rfl ?_
  refine e_iconst (v := 0) C dX2_redeem_2 (by decide) ?_
  refine e_istore (ls2 := [(4, .int 0), (3, .int 0), (0, .ref (ρ 0)), (1, .int (nI i)), (2, .int m)]) C hnL dX2_redeem_3 (by decide) rfl ?_
  exact e_sub [0, 1, 2, 3, 4] rfl (loop n 0 (by omega))
def clS (n : Nat) (M : Mem) (m : Int32) : Nat → Mem × Int32
  | 0 => (M, m)
  | i + 1 => ((redM (clS n M m i).1 i (clS n M m i).2 n).1, (clS n M m i).2 - (redM (clS n M m i).1 i (clS n M m i).2 n).2)
theorem clS_s (n : Nat) (M : Mem) (m : Int32) (i : Nat) : clS n M m (i + 1) = ((redM (clS n M m i).1 i (clS n M m i).2 n).1, (clS n M m i).2 - (redM (clS n M m i).1 i (clS n M m i).2 n).2) := rfl
def clF (N : Mem) : Mem := up (up N 0 15 1) 0 14 0
def o_close (M : Mem) (n : Nat) (m : Int32) : Out := if m < 0 ∨ 100000 < m then rX IA M else if M 0 15 = 0 then rI (clS n M m 40).2 (clF (clS n M m 40).1) else rX IS M
set_option maxRecDepth 100000 in
set_option maxHeartbeats 4000000 in
theorem c_X2_close {l : Launch} (hl : l.stackTraces = false) {n : Nat} {ρ : Nat → Nat} {J : Nat → Int64} {M : Mem} (hn : n ≤ 10) {m : Int32} : CtO l yX2_close cX2_close 4 (some .int) 7 2 12 n ρ J M [.ref (ρ 0), .int m] (o_close M n m) := by
  refine CtO.of hl (by decide +kernel) (Nat.le_of_ble_eq_true rfl) (fun Ξ hnL C => ?_)
  show E Ξ n ρ J M 0 0 0 [(0, .ref (ρ 0)), (1, .int m)] []
  obtain ⟨R0, hR0⟩ : ∃ z, z = o_close M n m := ⟨_, rfl⟩
  rw [← hR0] at C
  unfold o_close at hR0
  by_cases h : m < 0 ∨ 100000 < m
  · refine e_iload_n (j := 1) C dX2_close_0 rfl rfl ?_
    refine e_iconst (v := 0) C dX2_close_1 (by decide) ?_
    refine e_ldc (v := 100000) C dX2_close_2 mw_319 ?_
    exact e_cSx (nA := 3) C (c_X2_requireRange_x hl h) rfl mw_175 mw_173 mw_174 mw_12 (by decide +kernel) (by decide) rfl rfl (Nat.le_of_ble_eq_true rfl) dX2_close_4 (Nat.le_of_ble_eq_true rfl) (Nat.le_of_ble_eq_true rfl) (by rw [hR0, if_pos h])
  · rw [if_neg h] at hR0
    by_cases h2 : M 0 15 = 0
    · rw [if_pos h2] at hR0
      have loop : ∀ (f j : Nat) (N : Mem) (g : Int32), j + f = 40 → clS n M m j = (N, g) → E Ξ n ρ J N 1 6 28 [(3, .int (nI j)), (2, .int g), (0, .ref (ρ 0)), (1, .int m)] [] := by
        intro f
        induction f with
        | zero =>
          intro j N g hjf hN
          have hjn : j = 40 := by omega
          rw [← hjn, hN] at hR0
          refine e_iload_n (j := 0) C dX2_close_28 rfl rfl ?_
          refine e_bipush (v := 40) C dX2_close_29 (by decide) ?_
          refine e_icmp_ge (tgt := 49) C dX2_close_31 (by decide) (fun c_31 => ?_) (fun c_31 => absurd (nI_le (a := 40) (b := j) (by omega) (by omega)) c_31)
          refine e_aload_n (j := 2) C dX2_close_49 rfl rfl ?_
          refine e_iconst (v := 1) C dX2_close_50 (by decide) ?_
          refine e_put2 (k := 15) (ref := "ScripHollow") (ty := .boolean) C (by decide) rfl rfl (by decide +kernel) rfl rfl rfl mw_144 dX2_close_51 ?_
          refine e_aload_n (j := 2) C dX2_close_54 rfl rfl ?_
          refine e_iconst (v := 0) C dX2_close_55 (by decide) ?_
          refine e_put2 (k := 14) (ref := "ScripHollow") (ty := .boolean) C (by decide) rfl rfl (by decide +kernel) rfl rfl rfl mw_143 dX2_close_56 ?_
          refine e_iload_n (j := 1) C dX2_close_59 rfl rfl ?_
          exact e_iret C rfl (Nat.le_of_ble_eq_true rfl) (Nat.le_of_ble_eq_true rfl) dX2_close_60 (pO.mk hR0)
        | succ f ih =>
          intro j N g hjf hN
          have hps := clS_s n M m j
          rw [hN] at hps
          refine e_iload_n (j := 0) C dX2_close_28 rfl rfl ?_
          refine e_bipush (v := 40) C dX2_close_29 (by decide) ?_
          refine e_icmp_ge (tgt := 49) C dX2_close_31 (by decide) (fun c_31 => absurd c_31 (nI_ge (a := j) (b := 40) (by omega) (by omega))) (fun c_31 => ?_)
          refine e_iload_n (j := 1) C dX2_close_34 rfl rfl ?_
          refine e_aload_n (j := 2) C dX2_close_35 rfl rfl ?_
          refine e_iload_n (j := 0) C dX2_close_36 rfl rfl ?_
          refine e_iload_n (j := 1) C dX2_close_37 rfl rfl ?_
          refine e_cV (i := 0) (nA := 2) (Cn := RX2) C (c_X2_redeem hl hn (i := j) (by omega)) rfl (cnt_fix (by decide)) (fun _ => rfl) rfl rfl mw_447 mw_444 mw_445 mw_446 mw_12 (by decide +kernel) (by decide) rfl rfl (Nat.le_of_ble_eq_true rfl) dX2_close_38 (Nat.le_of_ble_eq_true rfl) (Nat.le_of_ble_eq_true rfl) ?_
          refine e_isub C dX2_close_41 ?_
          refine e_topi (fun x2_42 ex2_42 => ?_)
          refine e_istore_n (ls2 := [(2, .int x2_42), (3, .int (nI j)), (0, .ref (ρ 0)), (1, .int m)]) C hnL dX2_close_42 rfl (by decide) rfl ?_
          obtain ⟨x3_43, ex3_43⟩ : ∃ z : Int32, z = (nI j) + 1 := ⟨_, rfl⟩
          refine e_iinc (j := 1) (v := x3_43) (ls2 := [(3, .int x3_43), (2, .int x2_42), (0, .ref (ρ 0)), (1, .int m)]) C hnL dX2_close_43 rfl (by rw [ex3_43]; rfl) (by decide) rfl ?_
          refine e_goto (tgt := 28) C dX2_close_46 (by decide) ?_
          subst ex3_43 ex2_42
          rw [nI_1]
          exact e_sub [0, 1, 2, 3] rfl (ih (j + 1) _ _ (by omega) hps)
      refine e_iload_n (j := 1) C dX2_close_0 rfl rfl ?_
      refine e_iconst (v := 0) C dX2_close_1 (by decide) ?_
      refine e_ldc (v := 100000) C dX2_close_2 mw_319 ?_
      refine e_cS (nA := 3) C (c_X2_requireRange hl (rng_ok h).1 (rng_ok h).2) rfl mw_175 mw_173 mw_174 mw_12 (by decide +kernel) (by decide) rfl rfl (Nat.le_of_ble_eq_true rfl) dX2_close_4 (Nat.le_of_ble_eq_true rfl) (Nat.le_of_ble_eq_true rfl) ?_
      refine e_aload_n (j := 0) C dX2_close_7 rfl rfl ?_
      refine e_get2 (k := 15) (ref := "ScripHollow") C (by decide) rfl rfl mw_144 dX2_close_8 ?_
      refine e_if_eq (tgt := 24) C dX2_close_11 (by decide) (fun c_11 => ?_) (fun c_11 => absurd h2 c_11)
      refine e_iload_n (j := 1) C dX2_close_24 rfl rfl ?_
      refine e_istore_n (ls2 := [(2, .int m), (0, .ref (ρ 0)), (1, .int m)]) C hnL dX2_close_25 rfl (by decide) rfl ?_
      refine e_iconst (v := 0) C dX2_close_26 (by decide) ?_
      refine e_istore_n (ls2 := [(3, .int 0), (2, .int m), (0, .ref (ρ 0)), (1, .int m)]) C hnL dX2_close_27 rfl (by decide) rfl ?_
      exact e_sub [0, 1, 2, 3] rfl (loop 40 0 M m (by omega) rfl)
    · rw [if_neg h2] at hR0
      refine e_iload_n (j := 1) C dX2_close_0 rfl rfl ?_
      refine e_iconst (v := 0) C dX2_close_1 (by decide) ?_
      refine e_ldc (v := 100000) C dX2_close_2 mw_319 ?_
      refine e_cS (nA := 3) C (c_X2_requireRange hl (rng_ok h).1 (rng_ok h).2) rfl mw_175 mw_173 mw_174 mw_12 (by decide +kernel) (by decide) rfl rfl (Nat.le_of_ble_eq_true rfl) dX2_close_4 (Nat.le_of_ble_eq_true rfl) (Nat.le_of_ble_eq_true rfl) ?_
      refine e_aload_n (j := 0) C dX2_close_7 rfl rfl ?_
      refine e_get2 (k := 15) (ref := "ScripHollow") C (by decide) rfl rfl mw_144 dX2_close_8 ?_
      refine e_if_eq (tgt := 24) C dX2_close_11 (by decide) (fun c_11 => absurd c_11 h2) (fun c_11 => ?_)
      exact e_throw (text := "the mine is closed") C th_IS mw_61 mw_62 (by decide) rfl rfl dX2_close_14 dX2_close_17 dX2_close_18 dX2_close_20 dX2_close_23 (by decide) (Nat.le_of_ble_eq_true rfl) (Nat.le_of_ble_eq_true rfl) (Nat.le_of_ble_eq_true rfl) (Nat.le_of_ble_eq_true rfl) (Nat.le_of_ble_eq_true rfl) (xO.mk hR0)
