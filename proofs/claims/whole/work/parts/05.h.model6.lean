/-! The reference's heirs, death. -/
def mtM (M : Mem) (k : Nat) : Nat → Mem
  | 0 => M
  | j + 1 => up (mtM M k j) 22 j (if nI j = nI k then 1 else 0)
def hmS : Nat → Mem → Int32 → Mem × Int32
  | 0, M, x => (M, x)
  | f + 1, M, x => if x = -1 then (M, x) else if M 22 x.toNatClampNeg = 0 then (if M 10 x.toNatClampNeg = 0 then hmS f (up M 22 x.toNatClampNeg 1) (M 19 x.toNatClampNeg) else (M, x)) else (M, x)
theorem hmS_s (f : Nat) (M : Mem) (x : Int32) : hmS (f + 1) M x = if x = -1 then (M, x) else if M 22 x.toNatClampNeg = 0 then (if M 10 x.toNatClampNeg = 0 then hmS f (up M 22 x.toNatClampNeg 1) (M 19 x.toNatClampNeg) else (M, x)) else (M, x) := rfl
def hmR (M : Mem) (x : Int32) : Int32 := if x = -1 then x else if M 22 x.toNatClampNeg = 0 then x else -1
/-- how many of the first are not met -/
def zc (M : Mem) : Nat → Nat
  | 0 => 0
  | j + 1 => zc M j + (if M 22 j = 0 then 1 else 0)
theorem zc_le (M : Mem) : ∀ j, zc M j ≤ j
  | 0 => Nat.le_refl 0
  | j + 1 => by
    have h := zc_le M j
    unfold zc
    split <;> omega
theorem up_at {M : Mem} {i k j : Nat} {v : Int32} : up M i k v i j = if j = k then v else M i j := by
  rw [up_eq]; rfl
theorem zc_hi (M : Mem) (q : Nat) : ∀ j, j ≤ q → zc (up M 22 q 1) j = zc M j
  | 0, _ => rfl
  | j + 1, h => by
    have h2 := zc_hi M q j (by omega)
    have e9 : up M 22 q 1 22 j = M 22 j := by rw [up_at, if_neg (by omega)]
    unfold zc
    rw [h2, e9]
theorem zc_lo (M : Mem) (q : Nat) (hq : M 22 q = 0) : ∀ j, q < j → zc (up M 22 q 1) j + 1 = zc M j
  | 0, h => absurd h (Nat.not_lt_zero q)
  | j + 1, h => by
    unfold zc
    rcases Nat.lt_or_ge q j with z | z
    · have h2 := zc_lo M q hq j z
      have e9 : up M 22 q 1 22 j = M 22 j := by rw [up_at, if_neg (by omega)]
      rw [e9]
      omega
    · have e : j = q := by omega
      subst e
      rw [zc_hi M j j (Nat.le_refl j), up_at, if_pos rfl, if_pos hq, if_neg (by decide)]
set_option maxRecDepth 100000 in
set_option maxHeartbeats 4000000 in
theorem c_X3_heirOf {l : Launch} (hl : l.stackTraces = false) {n : Nat} {ρ : Nat → Nat} {J : Nat → Int64} {M : Mem} {k : Nat} (hk : k < n) (hn : n ≤ 10) (hkin : ∀ j, j < n → kinOk n (M 19 j)) : CtO l yX3_heirOf cX3_heirOf 3 (some .int) 0 0 0 n ρ J M [.ref (ρ 9), .int (nI k)] (rI (hmR (hmS 10 (mtM M k 10) (M 19 k)).1 (hmS 10 (mtM M k 10) (M 19 k)).2) (hmS 10 (mtM M k 10) (M 19 k)).1) := by
  refine CtO.of hl (by decide +kernel) (Nat.le_of_ble_eq_true rfl) (fun Ξ hnL C => ?_)
  show E Ξ n ρ J M 0 0 0 [(0, .ref (ρ 9)), (1, .int (nI k))] []
  have mt19 : ∀ j, mtM M k j 19 = M 19 := by
    intro j
    induction j with
    | zero => rfl
    | succ j ih => unfold mtM; rw [up_ne (by decide)]; exact ih
  obtain ⟨T0, hT0⟩ : ∃ z, z = hmS 10 (mtM M k 10) (M 19 k) := ⟨_, rfl⟩
  rw [← hT0] at C
  have loop2 : ∀ (f : Nat) (N : Mem) (x : Int32), zc N 10 ≤ f → N 19 = M 19 → kinOk n x → T0 = hmS f N x → E Ξ n ρ J N 0 0 37 [(2, .int x), (0, .ref (ρ 9)), (1, .int (nI k))] [] := by
    intro f
    induction f with
    | zero =>
      intro N x hz h19 hx hT
      rw [hT] at C
      rcases hx with hx | ⟨j, hj, ej⟩
      · refine e_iload_n (j := 0) C dX3_heirOf_37 rfl rfl ?_
        refine e_iconst (v := (-1)) C dX3_heirOf_38 (by decide) ?_
        refine e_icmp_eq (tgt := 77) C dX3_heirOf_39 (by decide) (fun c_39 => ?_) (fun c_39 => absurd hx c_39)
        refine e_iload_n (j := 0) C dX3_heirOf_77 rfl rfl ?_
        refine e_iconst (v := (-1)) C dX3_heirOf_78 (by decide) ?_
        refine e_icmp_eq (tgt := 95) C dX3_heirOf_79 (by decide) (fun c_79 => ?_) (fun c_79 => absurd hx c_79)
        refine e_iload_n (j := 0) C dX3_heirOf_95 rfl rfl ?_
        exact e_iret C rfl (Nat.le_of_ble_eq_true rfl) (Nat.le_of_ble_eq_true rfl) dX3_heirOf_96 (pO.mk (by show rI (hmR N x) N = _; unfold hmR; rw [if_pos hx]))
      · subst ej
        have hne : ¬ nI j = -1 := fun w => nI_pos (n := j) (by omega) (by rw [w]; decide)
        have hcl : (nI j).toNatClampNeg = j := nI_clamp (by omega)
        have hmet : ¬ N 22 j = 0 := by
          intro w
          have h9 := zc_lo N j w 10 (by omega)
          omega
        refine e_iload_n (j := 0) C dX3_heirOf_37 rfl rfl ?_
        refine e_iconst (v := (-1)) C dX3_heirOf_38 (by decide) ?_
        refine e_icmp_eq (tgt := 77) C dX3_heirOf_39 (by decide) (fun c_39 => absurd c_39 hne) (fun c_39 => ?_)
        refine e_aload_n (j := 1) C dX3_heirOf_42 rfl rfl ?_
        refine e_get3 (k := 13) (ref := "ScripHollowModel") C (by decide) rfl rfl mw_66 dX3_heirOf_43 ?_
        refine e_iload_n (j := 0) C dX3_heirOf_46 rfl rfl ?_
        refine e_zaldN j C (cnt_fix (by decide)) (fun _ => rfl) rfl (by omega) (by decide) dX3_heirOf_47 ?_
        refine e_if_ne (tgt := 77) C dX3_heirOf_48 (by decide) (fun c_48 => ?_) (fun c_48 => absurd c_48 hmet)
        refine e_iload_n (j := 0) C dX3_heirOf_77 rfl rfl ?_
        refine e_iconst (v := (-1)) C dX3_heirOf_78 (by decide) ?_
        refine e_icmp_eq (tgt := 95) C dX3_heirOf_79 (by decide) (fun c_79 => absurd c_79 hne) (fun c_79 => ?_)
        refine e_aload_n (j := 1) C dX3_heirOf_82 rfl rfl ?_
        refine e_get3 (k := 13) (ref := "ScripHollowModel") C (by decide) rfl rfl mw_66 dX3_heirOf_83 ?_
        refine e_iload_n (j := 0) C dX3_heirOf_86 rfl rfl ?_
        refine e_zaldN j C (cnt_fix (by decide)) (fun _ => rfl) rfl (by omega) (by decide) dX3_heirOf_87 ?_
        refine e_if_eq (tgt := 95) C dX3_heirOf_88 (by decide) (fun c_88 => absurd c_88 hmet) (fun c_88 => ?_)
        refine e_iconst (v := (-1)) C dX3_heirOf_91 (by decide) ?_
        refine e_goto (tgt := 96) C dX3_heirOf_92 (by decide) ?_
        exact e_iret C rfl (Nat.le_of_ble_eq_true rfl) (Nat.le_of_ble_eq_true rfl) dX3_heirOf_96 (pO.mk (by show rI (hmR N (nI j)) N = _; unfold hmR; rw [if_neg hne, hcl, if_neg hmet]))
    | succ f ih =>
      intro N x hz h19 hx hT
      rw [hmS_s] at hT
      rcases hx with hx | ⟨j, hj, ej⟩
      · rw [if_pos hx] at hT
        rw [hT] at C
        refine e_iload_n (j := 0) C dX3_heirOf_37 rfl rfl ?_
        refine e_iconst (v := (-1)) C dX3_heirOf_38 (by decide) ?_
        refine e_icmp_eq (tgt := 77) C dX3_heirOf_39 (by decide) (fun c_39 => ?_) (fun c_39 => absurd hx c_39)
        refine e_iload_n (j := 0) C dX3_heirOf_77 rfl rfl ?_
        refine e_iconst (v := (-1)) C dX3_heirOf_78 (by decide) ?_
        refine e_icmp_eq (tgt := 95) C dX3_heirOf_79 (by decide) (fun c_79 => ?_) (fun c_79 => absurd hx c_79)
        refine e_iload_n (j := 0) C dX3_heirOf_95 rfl rfl ?_
        exact e_iret C rfl (Nat.le_of_ble_eq_true rfl) (Nat.le_of_ble_eq_true rfl) dX3_heirOf_96 (pO.mk (by show rI (hmR N x) N = _; unfold hmR; rw [if_pos hx]))
      · subst ej
        have hne : ¬ nI j = -1 := fun w => nI_pos (n := j) (by omega) (by rw [w]; decide)
        have hcl : (nI j).toNatClampNeg = j := nI_clamp (by omega)
        rw [if_neg hne, hcl] at hT
        by_cases hmet : N 22 j = 0
        · rw [if_pos hmet] at hT
          by_cases hal : N 10 j = 0
          · rw [if_pos hal] at hT
            refine e_iload_n (j := 0) C dX3_heirOf_37 rfl rfl ?_
            refine e_iconst (v := (-1)) C dX3_heirOf_38 (by decide) ?_
            refine e_icmp_eq (tgt := 77) C dX3_heirOf_39 (by decide) (fun c_39 => absurd c_39 hne) (fun c_39 => ?_)
            refine e_aload_n (j := 1) C dX3_heirOf_42 rfl rfl ?_
            refine e_get3 (k := 13) (ref := "ScripHollowModel") C (by decide) rfl rfl mw_66 dX3_heirOf_43 ?_
            refine e_iload_n (j := 0) C dX3_heirOf_46 rfl rfl ?_
            refine e_zaldN j C (cnt_fix (by decide)) (fun _ => rfl) rfl (by omega) (by decide) dX3_heirOf_47 ?_
            refine e_if_ne (tgt := 77) C dX3_heirOf_48 (by decide) (fun c_48 => absurd hmet c_48) (fun c_48 => ?_)
            refine e_aload_n (j := 1) C dX3_heirOf_51 rfl rfl ?_
            refine e_get3 (k := 1) (ref := "ScripHollowModel") C (by decide) rfl rfl mw_54 dX3_heirOf_52 ?_
            refine e_iload_n (j := 0) C dX3_heirOf_55 rfl rfl ?_
            refine e_zaldN j C (cnt_fix (by decide)) (fun _ => rfl) rfl (by omega) (by decide) dX3_heirOf_56 ?_
            refine e_if_ne (tgt := 77) C dX3_heirOf_57 (by decide) (fun c_57 => absurd hal c_57) (fun c_57 => ?_)
            refine e_aload_n (j := 1) C dX3_heirOf_60 rfl rfl ?_
            refine e_get3 (k := 13) (ref := "ScripHollowModel") C (by decide) rfl rfl mw_66 dX3_heirOf_61 ?_
            refine e_iload_n (j := 0) C dX3_heirOf_64 rfl rfl ?_
            refine e_iconst (v := 1) C dX3_heirOf_65 (by decide) ?_
            refine e_zastN j C (cnt_fix (by decide)) (fun _ _ => rfl) rfl (by omega) (by decide) (by first | decide | exact isB.nr (by assumption)) dX3_heirOf_66 ?_
            refine e_aload_n (j := 1) C dX3_heirOf_67 rfl rfl ?_
            refine e_get3 (k := 10) (ref := "ScripHollowModel") C (by decide) rfl rfl mw_63 dX3_heirOf_68 ?_
            refine e_iload_n (j := 0) C dX3_heirOf_71 rfl rfl ?_
            refine e_ialdN j C (cnt_fix (by decide)) (fun _ => rfl) rfl (by omega) (by decide) dX3_heirOf_72 ?_
            refine e_topi (fun x2_73 ex2_73 => ?_)
            refine e_istore_n (ls2 := [(2, .int x2_73), (0, .ref (ρ 9)), (1, .int (nI k))]) C hnL dX3_heirOf_73 rfl (by decide) rfl ?_
            refine e_goto (tgt := 37) C dX3_heirOf_74 (by decide) ?_
            subst ex2_73
            exact e_sub [0, 1, 2] rfl (ih _ _ (by have h9 := zc_lo N j hmet 10 (by omega); omega) (by rw [up_ne (by decide)]; exact h19) (by rw [up_ne (by decide), h19]; exact hkin j hj) (by rw [up_ne (by decide)]; exact hT))
          · rw [if_neg hal] at hT
            rw [hT] at C
            refine e_iload_n (j := 0) C dX3_heirOf_37 rfl rfl ?_
            refine e_iconst (v := (-1)) C dX3_heirOf_38 (by decide) ?_
            refine e_icmp_eq (tgt := 77) C dX3_heirOf_39 (by decide) (fun c_39 => absurd c_39 hne) (fun c_39 => ?_)
            refine e_aload_n (j := 1) C dX3_heirOf_42 rfl rfl ?_
            refine e_get3 (k := 13) (ref := "ScripHollowModel") C (by decide) rfl rfl mw_66 dX3_heirOf_43 ?_
            refine e_iload_n (j := 0) C dX3_heirOf_46 rfl rfl ?_
            refine e_zaldN j C (cnt_fix (by decide)) (fun _ => rfl) rfl (by omega) (by decide) dX3_heirOf_47 ?_
            refine e_if_ne (tgt := 77) C dX3_heirOf_48 (by decide) (fun c_48 => absurd hmet c_48) (fun c_48 => ?_)
            refine e_aload_n (j := 1) C dX3_heirOf_51 rfl rfl ?_
            refine e_get3 (k := 1) (ref := "ScripHollowModel") C (by decide) rfl rfl mw_54 dX3_heirOf_52 ?_
            refine e_iload_n (j := 0) C dX3_heirOf_55 rfl rfl ?_
            refine e_zaldN j C (cnt_fix (by decide)) (fun _ => rfl) rfl (by omega) (by decide) dX3_heirOf_56 ?_
            refine e_if_ne (tgt := 77) C dX3_heirOf_57 (by decide) (fun c_57 => ?_) (fun c_57 => absurd c_57 hal)
            refine e_iload_n (j := 0) C dX3_heirOf_77 rfl rfl ?_
            refine e_iconst (v := (-1)) C dX3_heirOf_78 (by decide) ?_
            refine e_icmp_eq (tgt := 95) C dX3_heirOf_79 (by decide) (fun c_79 => absurd c_79 hne) (fun c_79 => ?_)
            refine e_aload_n (j := 1) C dX3_heirOf_82 rfl rfl ?_
            refine e_get3 (k := 13) (ref := "ScripHollowModel") C (by decide) rfl rfl mw_66 dX3_heirOf_83 ?_
            refine e_iload_n (j := 0) C dX3_heirOf_86 rfl rfl ?_
            refine e_zaldN j C (cnt_fix (by decide)) (fun _ => rfl) rfl (by omega) (by decide) dX3_heirOf_87 ?_
            refine e_if_eq (tgt := 95) C dX3_heirOf_88 (by decide) (fun c_88 => ?_) (fun c_88 => absurd hmet c_88)
            refine e_iload_n (j := 0) C dX3_heirOf_95 rfl rfl ?_
            exact e_iret C rfl (Nat.le_of_ble_eq_true rfl) (Nat.le_of_ble_eq_true rfl) dX3_heirOf_96 (pO.mk (by show rI (hmR N (nI j)) N = _; unfold hmR; rw [if_neg hne, hcl, if_pos hmet]))
        · rw [if_neg hmet] at hT
          rw [hT] at C
          refine e_iload_n (j := 0) C dX3_heirOf_37 rfl rfl ?_
          refine e_iconst (v := (-1)) C dX3_heirOf_38 (by decide) ?_
          refine e_icmp_eq (tgt := 77) C dX3_heirOf_39 (by decide) (fun c_39 => absurd c_39 hne) (fun c_39 => ?_)
          refine e_aload_n (j := 1) C dX3_heirOf_42 rfl rfl ?_
          refine e_get3 (k := 13) (ref := "ScripHollowModel") C (by decide) rfl rfl mw_66 dX3_heirOf_43 ?_
          refine e_iload_n (j := 0) C dX3_heirOf_46 rfl rfl ?_
          refine e_zaldN j C (cnt_fix (by decide)) (fun _ => rfl) rfl (by omega) (by decide) dX3_heirOf_47 ?_
          refine e_if_ne (tgt := 77) C dX3_heirOf_48 (by decide) (fun c_48 => ?_) (fun c_48 => absurd c_48 hmet)
          refine e_iload_n (j := 0) C dX3_heirOf_77 rfl rfl ?_
          refine e_iconst (v := (-1)) C dX3_heirOf_78 (by decide) ?_
          refine e_icmp_eq (tgt := 95) C dX3_heirOf_79 (by decide) (fun c_79 => absurd c_79 hne) (fun c_79 => ?_)
          refine e_aload_n (j := 1) C dX3_heirOf_82 rfl rfl ?_
          refine e_get3 (k := 13) (ref := "ScripHollowModel") C (by decide) rfl rfl mw_66 dX3_heirOf_83 ?_
          refine e_iload_n (j := 0) C dX3_heirOf_86 rfl rfl ?_
          refine e_zaldN j C (cnt_fix (by decide)) (fun _ => rfl) rfl (by omega) (by decide) dX3_heirOf_87 ?_
          refine e_if_eq (tgt := 95) C dX3_heirOf_88 (by decide) (fun c_88 => absurd c_88 hmet) (fun c_88 => ?_)
          refine e_iconst (v := (-1)) C dX3_heirOf_91 (by decide) ?_
          refine e_goto (tgt := 96) C dX3_heirOf_92 (by decide) ?_
          exact e_iret C rfl (Nat.le_of_ble_eq_true rfl) (Nat.le_of_ble_eq_true rfl) dX3_heirOf_96 (pO.mk (by show rI (hmR N (nI j)) N = _; unfold hmR; rw [if_neg hne, hcl, if_neg hmet]))
  have loop : ∀ (f j : Nat), j + f = 10 → E Ξ n ρ J (mtM M k j) 0 0 2 [(2, .int (nI j)), (0, .ref (ρ 9)), (1, .int (nI k))] [] := by
    intro f
    induction f with
    | zero =>
      intro j hjf
      have hjn : j = 10 := by omega
      rw [hjn]
      refine e_iload_n (j := 0) C dX3_heirOf_2 rfl rfl ?_
      refine e_bipush (v := 10) C dX3_heirOf_3 (by decide) ?_
      refine e_icmp_ge (tgt := 30) C dX3_heirOf_5 (by decide) (fun c_5 => ?_) (fun c_5 => absurd (show (10 : Int32) ≤ nI 10 by decide) c_5)
      refine e_aload_n (j := 1) C dX3_heirOf_30 rfl rfl ?_
      refine e_get3 (k := 10) (ref := "ScripHollowModel") C (by decide) rfl rfl mw_63 dX3_heirOf_31 ?_
      refine e_iload_n (j := 2) C dX3_heirOf_34 rfl rfl ?_
      refine e_ialdN k C (cnt_fix (by decide)) (fun _ => rfl) rfl (by omega) (by decide) dX3_heirOf_35 ?_
      refine e_topi (fun x2_36 ex2_36 => ?_)
      refine e_istore_n (ls2 := [(2, .int x2_36), (0, .ref (ρ 9)), (1, .int (nI k))]) C hnL dX3_heirOf_36 rfl (by decide) rfl ?_
      subst ex2_36
      exact e_sub [0, 1, 2] rfl (loop2 10 _ _ (zc_le _ 10) (mt19 10) (by rw [mt19]; exact hkin k hk) (by rw [mt19]; exact hT0))
    | succ f ih =>
      intro j hjf
      refine e_iload_n (j := 0) C dX3_heirOf_2 rfl rfl ?_
      refine e_bipush (v := 10) C dX3_heirOf_3 (by decide) ?_
      refine e_icmp_ge (tgt := 30) C dX3_heirOf_5 (by decide) (fun c_5 => absurd c_5 (nI_ge (a := j) (b := 10) (by omega) (by omega))) (fun c_5 => ?_)
      refine e_aload_n (j := 1) C dX3_heirOf_8 rfl rfl ?_
      refine e_get3 (k := 13) (ref := "ScripHollowModel") C (by decide) rfl rfl mw_66 dX3_heirOf_9 ?_
      refine e_iload_n (j := 0) C dX3_heirOf_12 rfl rfl ?_
      refine e_iload_n (j := 0) C dX3_heirOf_13 rfl rfl ?_
      refine e_iload_n (j := 2) C dX3_heirOf_14 rfl rfl ?_
      refine e_icmp_ne (tgt := 22) C dX3_heirOf_15 (by decide) (fun c_15 => ?_) (fun c_15 => ?_)
      · refine e_iconst (v := 0) C dX3_heirOf_22 (by decide) ?_
        refine e_zastN j C (cnt_fix (by decide)) (fun _ _ => rfl) rfl (by omega) (by decide) (by first | decide | exact isB.nr (by assumption)) dX3_heirOf_23 ?_
        obtain ⟨x2_24, ex2_24⟩ : ∃ z : Int32, z = (nI j) + 1 := ⟨_, rfl⟩
        refine e_iinc (j := 0) (v := x2_24) (ls2 := [(2, .int x2_24), (0, .ref (ρ 9)), (1, .int (nI k))]) C hnL dX3_heirOf_24 rfl (by rw [ex2_24]; rfl) (by decide) rfl ?_
        refine e_goto (tgt := 2) C dX3_heirOf_27 (by decide) ?_
        subst ex2_24
        rw [nI_1]
        have ih2 := ih (j + 1) (by omega)
        unfold mtM at ih2
        (repeat (first | rw [if_pos c_15] at ih2 | rw [if_neg c_15] at ih2))
        exact e_sub [0, 1, 2] rfl ih2
      · refine e_iconst (v := 1) C dX3_heirOf_18 (by decide) ?_
        refine e_goto (tgt := 23) C dX3_heirOf_19 (by decide) ?_
        refine e_zastN j C (cnt_fix (by decide)) (fun _ _ => rfl) rfl (by omega) (by decide) (by first | decide | exact isB.nr (by assumption)) dX3_heirOf_23 ?_
        obtain ⟨x2_24, ex2_24⟩ : ∃ z : Int32, z = (nI j) + 1 := ⟨_, rfl⟩
        refine e_iinc (j := 0) (v := x2_24) (ls2 := [(2, .int x2_24), (0, .ref (ρ 9)), (1, .int (nI k))]) C hnL dX3_heirOf_24 rfl (by rw [ex2_24]; rfl) (by decide) rfl ?_
        refine e_goto (tgt := 2) C dX3_heirOf_27 (by decide) ?_
        subst ex2_24
        rw [nI_1]
        have ih2 := ih (j + 1) (by omega)
        unfold mtM at ih2
        (repeat (first | rw [if_pos c_15] at ih2 | rw [if_neg c_15] at ih2))
        exact e_sub [0, 1, 2] rfl ih2
  refine e_iconst (v := 0) C dX3_heirOf_0 (by decide) ?_
  refine e_istore_n (ls2 := [(2, .int 0), (0, .ref (ρ 9)), (1, .int (nI k))]) C hnL dX3_heirOf_1 rfl (by decide) rfl ?_
  exact e_sub [0, 1, 2] rfl (loop 10 0 (by omega))
