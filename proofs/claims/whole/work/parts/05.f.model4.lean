/-! The reference's soup. -/
theorem ml_at {M : Mem} {c : Int32} {s : Nat} (h : s ≠ 29) : ml M c 9 s = M 9 s := by
  show up M 9 29 c 9 s = M 9 s
  rw [up_eq]
  unfold upd
  rw [if_neg h]
theorem ml_ne {M : Mem} {c : Int32} {i : Nat} (h : i ≠ 9) : ml M c i = M i := up_ne h
abbrev meM (M : Mem) (j : Nat) : Int32 := M 14 j + smM M j 40
def nx (M : Mem) (s : Int32) : Nat → Int32
  | 0 => -1
  | j + 1 => if M 10 j = 0 then nx M s j else if s >>> (nI j &&& 31) &&& 1 = 0 then (if nx M s j = -1 then nI j else if meM M (nx M s j).toNatClampNeg ≤ meM M j then nx M s j else nI j) else nx M s j
theorem nx_s (M : Mem) (s : Int32) (j : Nat) : nx M s (j + 1) = if M 10 j = 0 then nx M s j else if s >>> (nI j &&& 31) &&& 1 = 0 then (if nx M s j = -1 then nI j else if meM M (nx M s j).toNatClampNeg ≤ meM M j then nx M s j else nI j) else nx M s j := rfl
theorem nx_ok (M : Mem) (s : Int32) : ∀ j, nx M s j = -1 ∨ ∃ q, q < j ∧ nx M s j = nI q
  | 0 => Or.inl rfl
  | j + 1 => by
    have h := nx_ok M s j
    have h2 : nx M s j = -1 ∨ ∃ q, q < j + 1 ∧ nx M s j = nI q := h.elim Or.inl (fun ⟨q, h1, h2⟩ => Or.inr ⟨q, by omega, h2⟩)
    rw [nx_s]
    split
    · exact h2
    · split
      · split
        · exact Or.inr ⟨j, by omega, rfl⟩
        · split
          · exact h2
          · exact Or.inr ⟨j, by omega, rfl⟩
      · exact h2
def ss (n : Nat) : Nat → Mem → Int32 → Mem × Int32
  | 0, M, s => (M, s)
  | f + 1, M, s => if M 9 28 < 2 then (M, s) else if nx M s n = -1 then (M, s) else ss n f (up M 9 28 (M 9 28 - 2)) (s ||| 1 <<< (nx M s n &&& 31))
theorem ss_s (n f : Nat) (M : Mem) (s : Int32) : ss n (f + 1) M s = if M 9 28 < 2 then (M, s) else if nx M s n = -1 then (M, s) else ss n f (up M 9 28 (M 9 28 - 2)) (s ||| 1 <<< (nx M s n &&& 31)) := rfl
def omsoup (M : Mem) (n φ : Nat) : Out := if M 9 26 = 0 then mo M 1 0 else rI (ss n φ (ml M 0) 0).2 (ss n φ (ml M 0) 0).1
set_option maxRecDepth 100000 in
set_option maxHeartbeats 4000000 in
theorem c_X3_soup {l : Launch} (hl : l.stackTraces = false) {n : Nat} {ρ : Nat → Nat} {J : Nat → Int64} {M : Mem} (hn : n ≤ 10) (hm : M 9 0 = nI n) {φ : Nat} (hφ : φ < 2 ^ 31) (hf : M 9 28 = nI φ) (hb : isB (M 9 26)) : CtO l yX3_soup cX3_soup 5 (some .int) 3 0 0 n ρ J M [.ref (ρ 9)] (omsoup M n φ) := by
  refine CtO.of hl (by decide +kernel) (Nat.le_of_ble_eq_true rfl) (fun Ξ hnL C => ?_)
  show E Ξ n ρ J M 0 0 0 [(0, .ref (ρ 9))] []
  obtain ⟨R0, hR0⟩ : ∃ z, z = omsoup M n φ := ⟨_, rfl⟩
  rw [← hR0] at C
  unfold omsoup at hR0
  rcases hb with h2 | h2
  · rw [if_pos h2] at hR0
    refine e_aload_n (j := 0) C dX3_soup_0 rfl rfl ?_
    refine e_aload_n (j := 0) C dX3_soup_1 rfl rfl ?_
    refine e_get3 (k := 26) (ref := "ScripHollowModel") C (by decide) rfl rfl mw_259 dX3_soup_2 ?_
    rw [h2]
    refine e_iconst (v := 1) C dX3_soup_5 (by decide) ?_
    refine e_iconst (v := 1) C dX3_soup_6 (by decide) ?_
    refine e_cV (i := 9) (nA := 3) (Cn := RX3) C (c_X3_g1 hl) rfl (cnt_fix (by decide)) (fun _ => rfl) rfl rfl mw_162 mw_159 mw_160 mw_161 mw_5 (by decide +kernel) (by decide) rfl rfl (Nat.le_of_ble_eq_true rfl) dX3_soup_7 (Nat.le_of_ble_eq_true rfl) (Nat.le_of_ble_eq_true rfl) ?_
    refine e_if_ne (tgt := 15) C dX3_soup_10 (by decide) (fun c_10 => absurd (by decide) c_10) (fun c_10 => ?_)
    refine e_iconst (v := 0) C dX3_soup_13 (by decide) ?_
    exact e_iret C rfl (Nat.le_of_ble_eq_true rfl) (Nat.le_of_ble_eq_true rfl) dX3_soup_14 (pO.mk hR0)
  · rw [if_neg (by rw [h2]; decide)] at hR0
    have inner : ∀ (N : Mem) (s : Int32), N 9 0 = nI n → E Ξ n ρ J N 0 0 117 [(3, .int (nI n)), (2, .int (nx N s n)), (1, .int s), (0, .ref (ρ 9))] [] → ∀ (f j : Nat), j + f = n → ∀ y4 : Int32, E Ξ n ρ J N 0 0 36 [(3, .int (nI j)), (2, .int (nx N s j)), (1, .int s), (0, .ref (ρ 9))] [] := by
      intro N s hmN hE f
      induction f with
      | zero =>
        intro j hjf y4
        have hjn : j = n := by omega
        rw [hjn]
        refine e_iload_n (j := 0) C dX3_soup_36 rfl rfl ?_
        refine e_aload_n (j := 3) C dX3_soup_37 rfl rfl ?_
        refine e_get3 (k := 0) (ref := "ScripHollowModel") C (by decide) rfl rfl mw_158 dX3_soup_38 ?_
        refine e_icmp_ge (tgt := 117) C dX3_soup_41 (by decide) (fun c_41 => ?_) (fun c_41 => absurd (by rw [hmN]; exact nI_le (Nat.le_refl n) (by omega)) c_41)
        exact e_sub [0, 1, 2, 3] rfl hE
      | succ f ih =>
        intro j hjf y4
        have hj : j < n := by omega
        have ih2 := ih (j + 1) (by omega) 0
        rw [nx_s] at ih2
        rcases nx_ok N s j with hq | ⟨q, hq1, hq⟩
        · refine e_iload_n (j := 0) C dX3_soup_36 rfl rfl ?_
          refine e_aload_n (j := 3) C dX3_soup_37 rfl rfl ?_
          refine e_get3 (k := 0) (ref := "ScripHollowModel") C (by decide) rfl rfl mw_158 dX3_soup_38 ?_
          refine e_icmp_ge (tgt := 117) C dX3_soup_41 (by decide) (fun c_41 => absurd c_41 (by rw [hmN]; exact nI_ge hj (by omega))) (fun c_41 => ?_)
          refine e_aload_n (j := 3) C dX3_soup_44 rfl rfl ?_
          refine e_get3 (k := 1) (ref := "ScripHollowModel") C (by decide) rfl rfl mw_54 dX3_soup_45 ?_
          refine e_iload_n (j := 0) C dX3_soup_48 rfl rfl ?_
          refine e_zaldN j C (cnt_fix (by decide)) (fun _ => rfl) rfl (by omega) (by decide) dX3_soup_49 ?_
          refine e_if_eq (tgt := 65) C dX3_soup_50 (by decide) (fun c_50 => ?_) (fun c_50 => ?_)
          · refine e_iconst (v := 0) C dX3_soup_65 (by decide) ?_
            refine e_istore (ls2 := [(4, .int 0), (3, .int (nI j)), (2, .int (nx N s j)), (1, .int s), (0, .ref (ρ 9))]) C hnL dX3_soup_66 (by decide) rfl ?_
            refine e_iload (j := 0) C dX3_soup_68 rfl ?_
            refine e_if_eq (tgt := 109) C dX3_soup_70 (by decide) (fun c_70 => ?_) (fun c_70 => absurd (by decide) c_70)
            refine e_iload_n (j := 2) C dX3_soup_109 rfl rfl ?_
            refine e_istore_n (ls2 := [(2, .int (nx N s j)), (4, .int 0), (3, .int (nI j)), (1, .int s), (0, .ref (ρ 9))]) C hnL dX3_soup_110 rfl (by decide) rfl ?_
            obtain ⟨x3_111, ex3_111⟩ : ∃ z : Int32, z = (nI j) + 1 := ⟨_, rfl⟩
            refine e_iinc (j := 2) (v := x3_111) (ls2 := [(3, .int x3_111), (2, .int (nx N s j)), (4, .int 0), (1, .int s), (0, .ref (ρ 9))]) C hnL dX3_soup_111 rfl (by rw [ex3_111]; rfl) (by decide) rfl ?_
            refine e_goto (tgt := 36) C dX3_soup_114 (by decide) ?_
            subst ex3_111
            rw [nI_1]
            (repeat (first | rw [if_pos c_50] at ih2 | rw [if_neg c_50] at ih2 | rw [if_pos c_58] at ih2 | rw [if_neg c_58] at ih2 | rw [if_pos hq] at ih2 | rw [if_neg hqn] at ih2 | rw [if_pos c_102] at ih2 | rw [if_neg c_102] at ih2))
            exact e_sub [0, 1, 3, 4] rfl ih2
          · refine e_iload_n (j := 2) C dX3_soup_53 rfl rfl ?_
            refine e_iload_n (j := 0) C dX3_soup_54 rfl rfl ?_
            refine e_ishr C dX3_soup_55 ?_
            refine e_iconst (v := 1) C dX3_soup_56 (by decide) ?_
            refine e_iand C dX3_soup_57 ?_
            refine e_if_ne (tgt := 65) C dX3_soup_58 (by decide) (fun c_58 => ?_) (fun c_58 => ?_)
            · refine e_iconst (v := 0) C dX3_soup_65 (by decide) ?_
              refine e_istore (ls2 := [(4, .int 0), (3, .int (nI j)), (2, .int (nx N s j)), (1, .int s), (0, .ref (ρ 9))]) C hnL dX3_soup_66 (by decide) rfl ?_
              refine e_iload (j := 0) C dX3_soup_68 rfl ?_
              refine e_if_eq (tgt := 109) C dX3_soup_70 (by decide) (fun c_70 => ?_) (fun c_70 => absurd (by decide) c_70)
              refine e_iload_n (j := 2) C dX3_soup_109 rfl rfl ?_
              refine e_istore_n (ls2 := [(2, .int (nx N s j)), (4, .int 0), (3, .int (nI j)), (1, .int s), (0, .ref (ρ 9))]) C hnL dX3_soup_110 rfl (by decide) rfl ?_
              obtain ⟨x3_111, ex3_111⟩ : ∃ z : Int32, z = (nI j) + 1 := ⟨_, rfl⟩
              refine e_iinc (j := 2) (v := x3_111) (ls2 := [(3, .int x3_111), (2, .int (nx N s j)), (4, .int 0), (1, .int s), (0, .ref (ρ 9))]) C hnL dX3_soup_111 rfl (by rw [ex3_111]; rfl) (by decide) rfl ?_
              refine e_goto (tgt := 36) C dX3_soup_114 (by decide) ?_
              subst ex3_111
              rw [nI_1]
              (repeat (first | rw [if_pos c_50] at ih2 | rw [if_neg c_50] at ih2 | rw [if_pos c_58] at ih2 | rw [if_neg c_58] at ih2 | rw [if_pos hq] at ih2 | rw [if_neg hqn] at ih2 | rw [if_pos c_102] at ih2 | rw [if_neg c_102] at ih2))
              exact e_sub [0, 1, 3, 4] rfl ih2
            · refine e_iconst (v := 1) C dX3_soup_61 (by decide) ?_
              refine e_goto (tgt := 66) C dX3_soup_62 (by decide) ?_
              refine e_istore (ls2 := [(4, .int 1), (3, .int (nI j)), (2, .int (nx N s j)), (1, .int s), (0, .ref (ρ 9))]) C hnL dX3_soup_66 (by decide) rfl ?_
              refine e_iload (j := 0) C dX3_soup_68 rfl ?_
              refine e_if_eq (tgt := 109) C dX3_soup_70 (by decide) (fun c_70 => absurd c_70 (by decide)) (fun c_70 => ?_)
              refine e_iload_n (j := 2) C dX3_soup_73 rfl rfl ?_
              refine e_iconst (v := (-1)) C dX3_soup_74 (by decide) ?_
              refine e_icmp_eq (tgt := 105) C dX3_soup_75 (by decide) (fun c_75 => ?_) (fun c_75 => absurd hq c_75)
              refine e_iload_n (j := 1) C dX3_soup_105 rfl rfl ?_
              refine e_goto (tgt := 110) C dX3_soup_106 (by decide) ?_
              refine e_istore_n (ls2 := [(2, .int (nI j)), (4, .int 1), (3, .int (nI j)), (1, .int s), (0, .ref (ρ 9))]) C hnL dX3_soup_110 rfl (by decide) rfl ?_
              obtain ⟨x3_111, ex3_111⟩ : ∃ z : Int32, z = (nI j) + 1 := ⟨_, rfl⟩
              refine e_iinc (j := 2) (v := x3_111) (ls2 := [(3, .int x3_111), (2, .int (nI j)), (4, .int 1), (1, .int s), (0, .ref (ρ 9))]) C hnL dX3_soup_111 rfl (by rw [ex3_111]; rfl) (by decide) rfl ?_
              refine e_goto (tgt := 36) C dX3_soup_114 (by decide) ?_
              subst ex3_111
              rw [nI_1]
              (repeat (first | rw [if_pos c_50] at ih2 | rw [if_neg c_50] at ih2 | rw [if_pos c_58] at ih2 | rw [if_neg c_58] at ih2 | rw [if_pos hq] at ih2 | rw [if_neg hqn] at ih2 | rw [if_pos c_102] at ih2 | rw [if_neg c_102] at ih2))
              exact e_sub [0, 1, 3, 4] rfl ih2
        · have hqn : ¬ nx N s j = -1 := fun z => nI_pos (n := q) (by omega) (by rw [← hq, z]; decide)
          have hqc : (nx N s j).toNatClampNeg = q := by rw [hq]; exact nI_clamp (by omega)
          rw [hqc] at ih2
          have hqn2 : ¬ nI q = -1 := by rw [← hq]; exact hqn
          rw [hq] at ih2 ⊢
          refine e_iload_n (j := 0) C dX3_soup_36 rfl rfl ?_
          refine e_aload_n (j := 3) C dX3_soup_37 rfl rfl ?_
          refine e_get3 (k := 0) (ref := "ScripHollowModel") C (by decide) rfl rfl mw_158 dX3_soup_38 ?_
          refine e_icmp_ge (tgt := 117) C dX3_soup_41 (by decide) (fun c_41 => absurd c_41 (by rw [hmN]; exact nI_ge hj (by omega))) (fun c_41 => ?_)
          refine e_aload_n (j := 3) C dX3_soup_44 rfl rfl ?_
          refine e_get3 (k := 1) (ref := "ScripHollowModel") C (by decide) rfl rfl mw_54 dX3_soup_45 ?_
          refine e_iload_n (j := 0) C dX3_soup_48 rfl rfl ?_
          refine e_zaldN j C (cnt_fix (by decide)) (fun _ => rfl) rfl (by omega) (by decide) dX3_soup_49 ?_
          refine e_if_eq (tgt := 65) C dX3_soup_50 (by decide) (fun c_50 => ?_) (fun c_50 => ?_)
          · refine e_iconst (v := 0) C dX3_soup_65 (by decide) ?_
            refine e_istore (ls2 := [(4, .int 0), (3, .int (nI j)), (2, .int (nI q)), (1, .int s), (0, .ref (ρ 9))]) C hnL dX3_soup_66 (by decide) rfl ?_
            refine e_iload (j := 0) C dX3_soup_68 rfl ?_
            refine e_if_eq (tgt := 109) C dX3_soup_70 (by decide) (fun c_70 => ?_) (fun c_70 => absurd (by decide) c_70)
            refine e_iload_n (j := 2) C dX3_soup_109 rfl rfl ?_
            refine e_istore_n (ls2 := [(2, .int (nI q)), (4, .int 0), (3, .int (nI j)), (1, .int s), (0, .ref (ρ 9))]) C hnL dX3_soup_110 rfl (by decide) rfl ?_
            obtain ⟨x3_111, ex3_111⟩ : ∃ z : Int32, z = (nI j) + 1 := ⟨_, rfl⟩
            refine e_iinc (j := 2) (v := x3_111) (ls2 := [(3, .int x3_111), (2, .int (nI q)), (4, .int 0), (1, .int s), (0, .ref (ρ 9))]) C hnL dX3_soup_111 rfl (by rw [ex3_111]; rfl) (by decide) rfl ?_
            refine e_goto (tgt := 36) C dX3_soup_114 (by decide) ?_
            subst ex3_111
            rw [nI_1]
            (repeat (first | rw [if_pos c_50] at ih2 | rw [if_neg c_50] at ih2 | rw [if_pos c_58] at ih2 | rw [if_neg c_58] at ih2 | rw [if_neg hqn2] at ih2 | rw [if_pos c_102] at ih2 | rw [if_neg c_102] at ih2))
            exact e_sub [0, 1, 3, 4] rfl ih2
          · refine e_iload_n (j := 2) C dX3_soup_53 rfl rfl ?_
            refine e_iload_n (j := 0) C dX3_soup_54 rfl rfl ?_
            refine e_ishr C dX3_soup_55 ?_
            refine e_iconst (v := 1) C dX3_soup_56 (by decide) ?_
            refine e_iand C dX3_soup_57 ?_
            refine e_if_ne (tgt := 65) C dX3_soup_58 (by decide) (fun c_58 => ?_) (fun c_58 => ?_)
            · refine e_iconst (v := 0) C dX3_soup_65 (by decide) ?_
              refine e_istore (ls2 := [(4, .int 0), (3, .int (nI j)), (2, .int (nI q)), (1, .int s), (0, .ref (ρ 9))]) C hnL dX3_soup_66 (by decide) rfl ?_
              refine e_iload (j := 0) C dX3_soup_68 rfl ?_
              refine e_if_eq (tgt := 109) C dX3_soup_70 (by decide) (fun c_70 => ?_) (fun c_70 => absurd (by decide) c_70)
              refine e_iload_n (j := 2) C dX3_soup_109 rfl rfl ?_
              refine e_istore_n (ls2 := [(2, .int (nI q)), (4, .int 0), (3, .int (nI j)), (1, .int s), (0, .ref (ρ 9))]) C hnL dX3_soup_110 rfl (by decide) rfl ?_
              obtain ⟨x3_111, ex3_111⟩ : ∃ z : Int32, z = (nI j) + 1 := ⟨_, rfl⟩
              refine e_iinc (j := 2) (v := x3_111) (ls2 := [(3, .int x3_111), (2, .int (nI q)), (4, .int 0), (1, .int s), (0, .ref (ρ 9))]) C hnL dX3_soup_111 rfl (by rw [ex3_111]; rfl) (by decide) rfl ?_
              refine e_goto (tgt := 36) C dX3_soup_114 (by decide) ?_
              subst ex3_111
              rw [nI_1]
              (repeat (first | rw [if_pos c_50] at ih2 | rw [if_neg c_50] at ih2 | rw [if_pos c_58] at ih2 | rw [if_neg c_58] at ih2 | rw [if_neg hqn2] at ih2 | rw [if_pos c_102] at ih2 | rw [if_neg c_102] at ih2))
              exact e_sub [0, 1, 3, 4] rfl ih2
            · refine e_iconst (v := 1) C dX3_soup_61 (by decide) ?_
              refine e_goto (tgt := 66) C dX3_soup_62 (by decide) ?_
              refine e_istore (ls2 := [(4, .int 1), (3, .int (nI j)), (2, .int (nI q)), (1, .int s), (0, .ref (ρ 9))]) C hnL dX3_soup_66 (by decide) rfl ?_
              refine e_iload (j := 0) C dX3_soup_68 rfl ?_
              refine e_if_eq (tgt := 109) C dX3_soup_70 (by decide) (fun c_70 => absurd c_70 (by decide)) (fun c_70 => ?_)
              refine e_iload_n (j := 2) C dX3_soup_73 rfl rfl ?_
              refine e_iconst (v := (-1)) C dX3_soup_74 (by decide) ?_
              refine e_icmp_eq (tgt := 105) C dX3_soup_75 (by decide) (fun c_75 => absurd c_75 hqn2) (fun c_75 => ?_)
              refine e_aload_n (j := 4) C dX3_soup_78 rfl rfl ?_
              refine e_get3 (k := 5) (ref := "ScripHollowModel") C (by decide) rfl rfl mw_58 dX3_soup_79 ?_
              refine e_iload_n (j := 1) C dX3_soup_82 rfl rfl ?_
              refine e_ialdN j C (cnt_fix (by decide)) (fun _ => rfl) rfl (by omega) (by decide) dX3_soup_83 ?_
              refine e_aload_n (j := 4) C dX3_soup_84 rfl rfl ?_
              refine e_iload_n (j := 1) C dX3_soup_85 rfl rfl ?_
              refine e_cV (i := 9) (nA := 1) (Cn := RX3) C (c_X3_scripOf hl (k := j) (by omega)) rfl (cnt_fix (by decide)) (fun _ => rfl) rfl rfl mw_476 mw_473 mw_474 mw_475 mw_5 (by decide +kernel) (by decide) rfl rfl (Nat.le_of_ble_eq_true rfl) dX3_soup_86 (Nat.le_of_ble_eq_true rfl) (Nat.le_of_ble_eq_true rfl) ?_
              refine e_iadd C dX3_soup_89 ?_
              refine e_aload_n (j := 4) C dX3_soup_90 rfl rfl ?_
              refine e_get3 (k := 5) (ref := "ScripHollowModel") C (by decide) rfl rfl mw_58 dX3_soup_91 ?_
              refine e_iload_n (j := 2) C dX3_soup_94 rfl rfl ?_
              refine e_ialdN q C (cnt_fix (by decide)) (fun _ => rfl) rfl (by omega) (by decide) dX3_soup_95 ?_
              refine e_aload_n (j := 4) C dX3_soup_96 rfl rfl ?_
              refine e_iload_n (j := 2) C dX3_soup_97 rfl rfl ?_
              refine e_cV (i := 9) (nA := 1) (Cn := RX3) C (c_X3_scripOf hl (k := q) (by omega)) rfl (cnt_fix (by decide)) (fun _ => rfl) rfl rfl mw_476 mw_473 mw_474 mw_475 mw_5 (by decide +kernel) (by decide) rfl rfl (Nat.le_of_ble_eq_true rfl) dX3_soup_98 (Nat.le_of_ble_eq_true rfl) (Nat.le_of_ble_eq_true rfl) ?_
              refine e_iadd C dX3_soup_101 ?_
              refine e_icmp_ge (tgt := 109) C dX3_soup_102 (by decide) (fun c_102 => ?_) (fun c_102 => ?_)
              · refine e_iload_n (j := 2) C dX3_soup_109 rfl rfl ?_
                refine e_istore_n (ls2 := [(2, .int (nI q)), (4, .int 1), (3, .int (nI j)), (1, .int s), (0, .ref (ρ 9))]) C hnL dX3_soup_110 rfl (by decide) rfl ?_
                obtain ⟨x3_111, ex3_111⟩ : ∃ z : Int32, z = (nI j) + 1 := ⟨_, rfl⟩
                refine e_iinc (j := 2) (v := x3_111) (ls2 := [(3, .int x3_111), (2, .int (nI q)), (4, .int 1), (1, .int s), (0, .ref (ρ 9))]) C hnL dX3_soup_111 rfl (by rw [ex3_111]; rfl) (by decide) rfl ?_
                refine e_goto (tgt := 36) C dX3_soup_114 (by decide) ?_
                subst ex3_111
                rw [nI_1]
                (repeat (first | rw [if_pos c_50] at ih2 | rw [if_neg c_50] at ih2 | rw [if_pos c_58] at ih2 | rw [if_neg c_58] at ih2 | rw [if_neg hqn2] at ih2 | rw [if_pos c_102] at ih2 | rw [if_neg c_102] at ih2))
                exact e_sub [0, 1, 3, 4] rfl ih2
              · refine e_iload_n (j := 1) C dX3_soup_105 rfl rfl ?_
                refine e_goto (tgt := 110) C dX3_soup_106 (by decide) ?_
                refine e_istore_n (ls2 := [(2, .int (nI j)), (4, .int 1), (3, .int (nI j)), (1, .int s), (0, .ref (ρ 9))]) C hnL dX3_soup_110 rfl (by decide) rfl ?_
                obtain ⟨x3_111, ex3_111⟩ : ∃ z : Int32, z = (nI j) + 1 := ⟨_, rfl⟩
                refine e_iinc (j := 2) (v := x3_111) (ls2 := [(3, .int x3_111), (2, .int (nI j)), (4, .int 1), (1, .int s), (0, .ref (ρ 9))]) C hnL dX3_soup_111 rfl (by rw [ex3_111]; rfl) (by decide) rfl ?_
                refine e_goto (tgt := 36) C dX3_soup_114 (by decide) ?_
                subst ex3_111
                rw [nI_1]
                (repeat (first | rw [if_pos c_50] at ih2 | rw [if_neg c_50] at ih2 | rw [if_pos c_58] at ih2 | rw [if_neg c_58] at ih2 | rw [if_neg hqn2] at ih2 | rw [if_pos c_102] at ih2 | rw [if_neg c_102] at ih2))
                exact e_sub [0, 1, 3, 4] rfl ih2
    have outer : ∀ (f ψ : Nat) (N : Mem) (s x2 y3 : Int32), ¬ x2 = -1 → N 9 0 = nI n → N 9 28 = nI ψ → ψ < 2 ^ 31 → ψ < 2 * f + 2 → R0 = rI (ss n f N s).2 (ss n f N s).1 → E Ξ n ρ J N 0 0 19 [(2, .int x2), (1, .int s), (0, .ref (ρ 9))] [] := by
      intro f
      induction f with
      | zero =>
        intro ψ N s x2 y3 hx hmN hψ h31 hlt hR
        refine e_aload_n (j := 2) C dX3_soup_19 rfl rfl ?_
        refine e_get3 (k := 28) (ref := "ScripHollowModel") C (by decide) rfl rfl mw_637 dX3_soup_20 ?_
        refine e_iconst (v := 2) C dX3_soup_23 (by decide) ?_
        refine e_icmp_lt (tgt := 141) C dX3_soup_24 (by decide) (fun c_24 => ?_) (fun c_24 => absurd (by rw [hψ]; exact nI_lt (b := 2) (by omega) (by omega)) c_24)
        refine e_iload_n (j := 1) C dX3_soup_141 rfl rfl ?_
        exact e_iret C rfl (Nat.le_of_ble_eq_true rfl) (Nat.le_of_ble_eq_true rfl) dX3_soup_142 (pO.mk hR)
      | succ f ih =>
        intro ψ N s x2 y3 hx hmN hψ h31 hlt hR
        rw [ss_s] at hR
        by_cases hf2 : N 9 28 < 2
        · rw [if_pos hf2] at hR
          refine e_aload_n (j := 2) C dX3_soup_19 rfl rfl ?_
          refine e_get3 (k := 28) (ref := "ScripHollowModel") C (by decide) rfl rfl mw_637 dX3_soup_20 ?_
          refine e_iconst (v := 2) C dX3_soup_23 (by decide) ?_
          refine e_icmp_lt (tgt := 141) C dX3_soup_24 (by decide) (fun c_24 => ?_) (fun c_24 => absurd hf2 c_24)
          refine e_iload_n (j := 1) C dX3_soup_141 rfl rfl ?_
          exact e_iret C rfl (Nat.le_of_ble_eq_true rfl) (Nat.le_of_ble_eq_true rfl) dX3_soup_142 (pO.mk hR)
        · rw [if_neg hf2] at hR
          have hψ2 : 2 ≤ ψ := by
            rcases Nat.lt_or_ge ψ 2 with z | z
            · exact absurd (by rw [hψ]; exact nI_lt (b := 2) z (by omega)) hf2
            · exact z
          refine e_aload_n (j := 2) C dX3_soup_19 rfl rfl ?_
          refine e_get3 (k := 28) (ref := "ScripHollowModel") C (by decide) rfl rfl mw_637 dX3_soup_20 ?_
          refine e_iconst (v := 2) C dX3_soup_23 (by decide) ?_
          refine e_icmp_lt (tgt := 141) C dX3_soup_24 (by decide) (fun c_24 => absurd c_24 hf2) (fun c_24 => ?_)
          refine e_iload_n (j := 0) C dX3_soup_27 rfl rfl ?_
          refine e_iconst (v := (-1)) C dX3_soup_28 (by decide) ?_
          refine e_icmp_eq (tgt := 141) C dX3_soup_29 (by decide) (fun c_29 => absurd c_29 hx) (fun c_29 => ?_)
          refine e_iconst (v := (-1)) C dX3_soup_32 (by decide) ?_
          refine e_istore_n (ls2 := [(2, .int (-1)), (1, .int s), (0, .ref (ρ 9))]) C hnL dX3_soup_33 rfl (by decide) rfl ?_
          refine e_iconst (v := 0) C dX3_soup_34 (by decide) ?_
          refine e_istore_n (ls2 := [(3, .int 0), (2, .int (-1)), (1, .int s), (0, .ref (ρ 9))]) C hnL dX3_soup_35 rfl (by decide) rfl ?_
          refine e_sub [0, 1, 2, 3] rfl (inner N s hmN ?_ n 0 (by omega) 0)
          by_cases hnx : nx N s n = -1
          · rw [if_pos hnx] at hR
            refine e_iload_n (j := 1) C dX3_soup_117 rfl rfl ?_
            refine e_iconst (v := (-1)) C dX3_soup_118 (by decide) ?_
            refine e_icmp_eq (tgt := 19) C dX3_soup_119 (by decide) (fun c_119 => ?_) (fun c_119 => absurd hnx c_119)
            refine e_aload_n (j := 3) C dX3_soup_19 rfl rfl ?_
            refine e_get3 (k := 28) (ref := "ScripHollowModel") C (by decide) rfl rfl mw_637 dX3_soup_20 ?_
            refine e_iconst (v := 2) C dX3_soup_23 (by decide) ?_
            refine e_icmp_lt (tgt := 141) C dX3_soup_24 (by decide) (fun c_24 => absurd c_24 hf2) (fun c_24 => ?_)
            refine e_iload_n (j := 1) C dX3_soup_27 rfl rfl ?_
            refine e_iconst (v := (-1)) C dX3_soup_28 (by decide) ?_
            refine e_icmp_eq (tgt := 141) C dX3_soup_29 (by decide) (fun c_29 => ?_) (fun c_29 => absurd hnx c_29)
            refine e_iload_n (j := 2) C dX3_soup_141 rfl rfl ?_
            exact e_iret C rfl (Nat.le_of_ble_eq_true rfl) (Nat.le_of_ble_eq_true rfl) dX3_soup_142 (pO.mk hR)
          · rw [if_neg hnx] at hR
            refine e_iload_n (j := 1) C dX3_soup_117 rfl rfl ?_
            refine e_iconst (v := (-1)) C dX3_soup_118 (by decide) ?_
            refine e_icmp_eq (tgt := 19) C dX3_soup_119 (by decide) (fun c_119 => absurd c_119 hnx) (fun c_119 => ?_)
            refine e_iload_n (j := 2) C dX3_soup_122 rfl rfl ?_
            refine e_iconst (v := 1) C dX3_soup_123 (by decide) ?_
            refine e_iload_n (j := 1) C dX3_soup_124 rfl rfl ?_
            refine e_ishl C dX3_soup_125 ?_
            refine e_ior C dX3_soup_126 ?_
            refine e_topi (fun x1_127 ex1_127 => ?_)
            refine e_istore_n (ls2 := [(1, .int x1_127), (3, .int (nI n)), (2, .int (nx N s n)), (0, .ref (ρ 9))]) C hnL dX3_soup_127 rfl (by decide) rfl ?_
            refine e_aload_n (j := 3) C dX3_soup_128 rfl rfl ?_
            refine e_dup C dX3_soup_129 rfl ?_
            refine e_get3 (k := 28) (ref := "ScripHollowModel") C (by decide) rfl rfl mw_637 dX3_soup_130 ?_
            refine e_iconst (v := 2) C dX3_soup_133 (by decide) ?_
            refine e_isub C dX3_soup_134 ?_
            refine e_put3 (k := 28) (ref := "ScripHollowModel") (ty := .int) C (by decide) rfl rfl (by decide +kernel) rfl rfl rfl mw_637 dX3_soup_135 ?_
            refine e_goto (tgt := 19) C dX3_soup_138 (by decide) ?_
            subst ex1_127
            exact e_sub [2, 0, 3] rfl (ih (ψ - 2) _ _ _ 0 hnx (by rw [up_eq]; unfold upd; rw [if_neg (by decide)]; exact hmN) (by rw [up_eq]; unfold upd; rw [if_pos rfl, hψ]; exact pk_sub (b := 2) hψ2) (by omega) (by omega) hR)
    refine e_aload_n (j := 0) C dX3_soup_0 rfl rfl ?_
    refine e_aload_n (j := 0) C dX3_soup_1 rfl rfl ?_
    refine e_get3 (k := 26) (ref := "ScripHollowModel") C (by decide) rfl rfl mw_259 dX3_soup_2 ?_
    rw [h2]
    refine e_iconst (v := 1) C dX3_soup_5 (by decide) ?_
    refine e_iconst (v := 1) C dX3_soup_6 (by decide) ?_
    refine e_cV (i := 9) (nA := 3) (Cn := RX3) C (c_X3_g0 hl) rfl (cnt_fix (by decide)) (fun _ => rfl) rfl rfl mw_162 mw_159 mw_160 mw_161 mw_5 (by decide +kernel) (by decide) rfl rfl (Nat.le_of_ble_eq_true rfl) dX3_soup_7 (Nat.le_of_ble_eq_true rfl) (Nat.le_of_ble_eq_true rfl) ?_
    refine e_if_ne (tgt := 15) C dX3_soup_10 (by decide) (fun c_10 => ?_) (fun c_10 => absurd c_10 (by decide))
    refine e_iconst (v := 0) C dX3_soup_15 (by decide) ?_
    refine e_istore_n (ls2 := [(1, .int 0), (0, .ref (ρ 9))]) C hnL dX3_soup_16 rfl (by decide) rfl ?_
    refine e_iconst (v := 0) C dX3_soup_17 (by decide) ?_
    refine e_istore_n (ls2 := [(2, .int 0), (1, .int 0), (0, .ref (ρ 9))]) C hnL dX3_soup_18 rfl (by decide) rfl ?_
    exact e_sub [0, 1, 2] rfl (outer φ φ _ _ _ 0 (by decide) (by rw [ml_at (by decide)]; exact hm) (by rw [ml_at (by decide)]; exact hf) hφ (by omega) hR0)
