/-! The reference's edition, strikes. -/
def emi : Nat → Int32 → Int32 → Int32
  | 0, _, _ => 1
  | f + 1, r, met => if r ≤ 0 then 1 else if r - r / 10 * 10 < 1 ∨ 5 < r - r / 10 * 10 then 0 else if met >>> ((r - r / 10 * 10) &&& 31) &&& 1 = 0 then emi f (r / 10) (met ||| 1 <<< ((r - r / 10 * 10) &&& 31)) else 0
theorem emi_s (f : Nat) (r met : Int32) : emi (f + 1) r met = if r ≤ 0 then 1 else if r - r / 10 * 10 < 1 ∨ 5 < r - r / 10 * 10 then 0 else if met >>> ((r - r / 10 * 10) &&& 31) &&& 1 = 0 then emi f (r / 10) (met ||| 1 <<< ((r - r / 10 * 10) &&& 31)) else 0 := rfl
theorem emi_01 : ∀ (f : Nat) (r met : Int32), emi f r met = 0 ∨ emi f r met = 1
  | 0, _, _ => Or.inr rfl
  | f + 1, r, met => by
    rw [emi_s]
    split
    · exact Or.inr rfl
    · split
      · exact Or.inl rfl
      · split
        · exact emi_01 f _ _
        · exact Or.inl rfl
def edM (x : Int32) : Int32 := if x < 0 then 0 else emi 10 x 0
theorem edM_01 (x : Int32) : edM x = 0 ∨ edM x = 1 := by
  unfold edM
  split
  · exact Or.inl rfl
  · exact emi_01 _ _ _
theorem d10 {m : Nat} (h : m < 2 ^ 31) : nI m / 10 = nI (m / 10) := pk_div (a := m) (d := 10) h (by omega) (by omega)
set_option maxRecDepth 100000 in
set_option maxHeartbeats 4000000 in
theorem c_X3_isEdition {l : Launch} (hl : l.stackTraces = false) {n : Nat} {ρ : Nat → Nat} {J : Nat → Int64} {M : Mem} {x : Int32} : CtO l yX3_isEdition cX3_isEdition 5 (some .boolean) 1 0 0 n ρ J M [.int x] (rI (edM x) M) := by
  refine CtO.of hl (by decide +kernel) (Nat.le_of_ble_eq_true rfl) (fun Ξ hnL C => ?_)
  show E Ξ n ρ J M 0 0 0 [(0, .int x)] []
  obtain ⟨R0, hR0⟩ : ∃ z, z = edM x := ⟨_, rfl⟩
  rw [← hR0] at C
  unfold edM at hR0
  have hB0 : isB R0 := by rw [hR0]; exact edM_01 x
  by_cases hx0 : x < 0
  · rw [if_pos hx0] at hR0
    refine e_iconst (v := 0) C dX3_isEdition_0 (by decide) ?_
    refine e_istore_n (ls2 := [(1, .int 0), (0, .int x)]) C hnL dX3_isEdition_1 rfl (by decide) rfl ?_
    refine e_iload_n (j := 1) C dX3_isEdition_2 rfl rfl ?_
    refine e_istore_n (ls2 := [(2, .int x), (1, .int 0), (0, .int x)]) C hnL dX3_isEdition_3 rfl (by decide) rfl ?_
    refine e_iload_n (j := 2) C dX3_isEdition_4 rfl rfl ?_
    refine e_if_lt (tgt := 12) C dX3_isEdition_5 (by decide) (fun c_5 => ?_) (fun c_5 => absurd hx0 c_5)
    refine e_iconst (v := 0) C dX3_isEdition_12 (by decide) ?_
    refine e_istore_n (ls2 := [(3, .int 0), (2, .int x), (1, .int 0), (0, .int x)]) C hnL dX3_isEdition_13 rfl (by decide) rfl ?_
    refine e_iload_n (j := 0) C dX3_isEdition_14 rfl rfl ?_
    refine e_if_eq (tgt := 76) C dX3_isEdition_15 (by decide) (fun c_15 => ?_) (fun c_15 => absurd (by decide) c_15)
    refine e_iload_n (j := 0) C dX3_isEdition_76 rfl rfl ?_
    exact e_zret C rfl rfl (Nat.le_of_ble_eq_true rfl) (Nat.le_of_ble_eq_true rfl) dX3_isEdition_77 (pO.mk (by rw [hR0]))
  · rw [if_neg hx0] at hR0
    have loop : ∀ (f m : Nat) (met y4 : Int32), m < 10 ^ f → m < 2 ^ 31 → R0 = emi f (nI m) met → E Ξ n ρ J M 0 0 14 [(3, .int 1), (1, .int met), (2, .int (nI m)), (0, .int x)] [] := by
      intro f
      induction f with
      | zero =>
        intro m met y4 hm1 hm2 hR
        have hm0 : m = 0 := by omega
        subst hm0
        refine e_iload_n (j := 0) C dX3_isEdition_14 rfl rfl ?_
        refine e_if_eq (tgt := 76) C dX3_isEdition_15 (by decide) (fun c_15 => absurd c_15 (by decide)) (fun c_15 => ?_)
        refine e_iload_n (j := 2) C dX3_isEdition_18 rfl rfl ?_
        refine e_if_le (tgt := 76) C dX3_isEdition_19 (by decide) (fun c_19 => ?_) (fun c_19 => absurd (show nI 0 ≤ 0 by decide) c_19)
        refine e_iload_n (j := 0) C dX3_isEdition_76 rfl rfl ?_
        exact e_zret C rfl rfl (Nat.le_of_ble_eq_true rfl) (Nat.le_of_ble_eq_true rfl) dX3_isEdition_77 (pO.mk (by rw [hR]; rfl))
      | succ f ih =>
        intro m met y4 hm1 hm2 hR
        rw [emi_s] at hR
        by_cases hz : nI m ≤ 0
        · rw [if_pos hz] at hR
          refine e_iload_n (j := 0) C dX3_isEdition_14 rfl rfl ?_
          refine e_if_eq (tgt := 76) C dX3_isEdition_15 (by decide) (fun c_15 => absurd c_15 (by decide)) (fun c_15 => ?_)
          refine e_iload_n (j := 2) C dX3_isEdition_18 rfl rfl ?_
          refine e_if_le (tgt := 76) C dX3_isEdition_19 (by decide) (fun c_19 => ?_) (fun c_19 => absurd hz c_19)
          refine e_iload_n (j := 0) C dX3_isEdition_76 rfl rfl ?_
          exact e_zret C rfl rfl (Nat.le_of_ble_eq_true rfl) (Nat.le_of_ble_eq_true rfl) dX3_isEdition_77 (pO.mk (by rw [hR]))
        · rw [if_neg hz] at hR
          by_cases hk9 : nI m - nI m / 10 * 10 < 1 ∨ 5 < nI m - nI m / 10 * 10
          · rw [if_pos hk9] at hR
            refine e_iload_n (j := 0) C dX3_isEdition_14 rfl rfl ?_
            refine e_if_eq (tgt := 76) C dX3_isEdition_15 (by decide) (fun c_15 => absurd c_15 (by decide)) (fun c_15 => ?_)
            refine e_iload_n (j := 2) C dX3_isEdition_18 rfl rfl ?_
            refine e_if_le (tgt := 76) C dX3_isEdition_19 (by decide) (fun c_19 => absurd c_19 hz) (fun c_19 => ?_)
            refine e_iload_n (j := 2) C dX3_isEdition_22 rfl rfl ?_
            refine e_bipush (v := 10) C dX3_isEdition_23 (by decide) ?_
            refine e_irem C dX3_isEdition_25 (by decide) ?_
            refine e_topi (fun x4_26 ex4_26 => ?_)
            refine e_istore (ls2 := [(4, .int x4_26), (3, .int 1), (1, .int met), (2, .int (nI m)), (0, .int x)]) C hnL dX3_isEdition_26 (by decide) rfl ?_
            refine e_iload (j := 0) C dX3_isEdition_28 rfl ?_
            refine e_iconst (v := 1) C dX3_isEdition_30 (by decide) ?_
            refine e_iconst (v := 5) C dX3_isEdition_31 (by decide) ?_
            refine e_cS (nA := 3) C (c_X3_in0 hl (by rw [ex4_26]; exact hk9)) rfl mw_216 mw_214 mw_215 mw_5 (by decide +kernel) (by decide) rfl rfl (Nat.le_of_ble_eq_true rfl) dX3_isEdition_32 (Nat.le_of_ble_eq_true rfl) (Nat.le_of_ble_eq_true rfl) ?_
            refine e_if_eq (tgt := 51) C dX3_isEdition_35 (by decide) (fun c_35 => ?_) (fun c_35 => absurd (by decide) c_35)
            refine e_iconst (v := 0) C dX3_isEdition_51 (by decide) ?_
            refine e_istore_n (ls2 := [(3, .int 0), (4, .int x4_26), (1, .int met), (2, .int (nI m)), (0, .int x)]) C hnL dX3_isEdition_52 rfl (by decide) rfl ?_
            refine e_iload_n (j := 2) C dX3_isEdition_53 rfl rfl ?_
            refine e_iload_n (j := 0) C dX3_isEdition_54 rfl rfl ?_
            refine e_if_eq (tgt := 65) C dX3_isEdition_55 (by decide) (fun c_55 => ?_) (fun c_55 => absurd (by decide) c_55)
            refine e_iconst (v := 0) C dX3_isEdition_65 (by decide) ?_
            refine e_ior C dX3_isEdition_66 ?_
            refine e_topi (fun x1_67 ex1_67 => ?_)
            refine e_istore_n (ls2 := [(1, .int x1_67), (3, .int 0), (4, .int x4_26), (2, .int (nI m)), (0, .int x)]) C hnL dX3_isEdition_67 rfl (by decide) rfl ?_
            refine e_iload_n (j := 3) C dX3_isEdition_68 rfl rfl ?_
            refine e_bipush (v := 10) C dX3_isEdition_69 (by decide) ?_
            refine e_idiv C dX3_isEdition_71 (by decide) ?_
            refine e_topi (fun x2_72 ex2_72 => ?_)
            refine e_istore_n (ls2 := [(2, .int x2_72), (1, .int x1_67), (3, .int 0), (4, .int x4_26), (0, .int x)]) C hnL dX3_isEdition_72 rfl (by decide) rfl ?_
            refine e_goto (tgt := 14) C dX3_isEdition_73 (by decide) ?_
            refine e_iload_n (j := 2) C dX3_isEdition_14 rfl rfl ?_
            refine e_if_eq (tgt := 76) C dX3_isEdition_15 (by decide) (fun c_15 => ?_) (fun c_15 => absurd (by decide) c_15)
            refine e_iload_n (j := 2) C dX3_isEdition_76 rfl rfl ?_
            exact e_zret C rfl rfl (Nat.le_of_ble_eq_true rfl) (Nat.le_of_ble_eq_true rfl) dX3_isEdition_77 (pO.mk (by rw [hR]))
          · rw [if_neg hk9] at hR
            by_cases hk8 : met >>> ((nI m - nI m / 10 * 10) &&& 31) &&& 1 = 0
            · rw [if_pos hk8] at hR
              refine e_iload_n (j := 0) C dX3_isEdition_14 rfl rfl ?_
              refine e_if_eq (tgt := 76) C dX3_isEdition_15 (by decide) (fun c_15 => absurd c_15 (by decide)) (fun c_15 => ?_)
              refine e_iload_n (j := 2) C dX3_isEdition_18 rfl rfl ?_
              refine e_if_le (tgt := 76) C dX3_isEdition_19 (by decide) (fun c_19 => absurd c_19 hz) (fun c_19 => ?_)
              refine e_iload_n (j := 2) C dX3_isEdition_22 rfl rfl ?_
              refine e_bipush (v := 10) C dX3_isEdition_23 (by decide) ?_
              refine e_irem C dX3_isEdition_25 (by decide) ?_
              refine e_topi (fun x4_26 ex4_26 => ?_)
              refine e_istore (ls2 := [(4, .int x4_26), (3, .int 1), (1, .int met), (2, .int (nI m)), (0, .int x)]) C hnL dX3_isEdition_26 (by decide) rfl ?_
              refine e_iload (j := 0) C dX3_isEdition_28 rfl ?_
              refine e_iconst (v := 1) C dX3_isEdition_30 (by decide) ?_
              refine e_iconst (v := 5) C dX3_isEdition_31 (by decide) ?_
              refine e_cS (nA := 3) C (c_X3_in1 hl (by rw [ex4_26]; exact (rng_ok hk9).1) (by rw [ex4_26]; exact (rng_ok hk9).2)) rfl mw_216 mw_214 mw_215 mw_5 (by decide +kernel) (by decide) rfl rfl (Nat.le_of_ble_eq_true rfl) dX3_isEdition_32 (Nat.le_of_ble_eq_true rfl) (Nat.le_of_ble_eq_true rfl) ?_
              refine e_if_eq (tgt := 51) C dX3_isEdition_35 (by decide) (fun c_35 => absurd c_35 (by decide)) (fun c_35 => ?_)
              refine e_iload_n (j := 2) C dX3_isEdition_38 rfl rfl ?_
              refine e_iload (j := 0) C dX3_isEdition_39 rfl ?_
              refine e_ishr C dX3_isEdition_41 ?_
              refine e_iconst (v := 1) C dX3_isEdition_42 (by decide) ?_
              refine e_iand C dX3_isEdition_43 ?_
              refine e_if_ne (tgt := 51) C dX3_isEdition_44 (by decide) (fun c_44 => absurd (by rw [ex4_26]; exact hk8) c_44) (fun c_44 => ?_)
              refine e_iconst (v := 1) C dX3_isEdition_47 (by decide) ?_
              refine e_goto (tgt := 52) C dX3_isEdition_48 (by decide) ?_
              refine e_istore_n (ls2 := [(3, .int 1), (4, .int x4_26), (1, .int met), (2, .int (nI m)), (0, .int x)]) C hnL dX3_isEdition_52 rfl (by decide) rfl ?_
              refine e_iload_n (j := 2) C dX3_isEdition_53 rfl rfl ?_
              refine e_iload_n (j := 0) C dX3_isEdition_54 rfl rfl ?_
              refine e_if_eq (tgt := 65) C dX3_isEdition_55 (by decide) (fun c_55 => absurd c_55 (by decide)) (fun c_55 => ?_)
              refine e_iconst (v := 1) C dX3_isEdition_58 (by decide) ?_
              refine e_iload (j := 1) C dX3_isEdition_59 rfl ?_
              refine e_ishl C dX3_isEdition_61 ?_
              refine e_goto (tgt := 66) C dX3_isEdition_62 (by decide) ?_
              refine e_ior C dX3_isEdition_66 ?_
              refine e_topi (fun x1_67 ex1_67 => ?_)
              refine e_istore_n (ls2 := [(1, .int x1_67), (3, .int 1), (4, .int x4_26), (2, .int (nI m)), (0, .int x)]) C hnL dX3_isEdition_67 rfl (by decide) rfl ?_
              refine e_iload_n (j := 3) C dX3_isEdition_68 rfl rfl ?_
              refine e_bipush (v := 10) C dX3_isEdition_69 (by decide) ?_
              refine e_idiv C dX3_isEdition_71 (by decide) ?_
              refine e_topi (fun x2_72 ex2_72 => ?_)
              refine e_istore_n (ls2 := [(2, .int x2_72), (1, .int x1_67), (3, .int 1), (4, .int x4_26), (0, .int x)]) C hnL dX3_isEdition_72 rfl (by decide) rfl ?_
              refine e_goto (tgt := 14) C dX3_isEdition_73 (by decide) ?_
              subst ex2_72 ex1_67 ex4_26
              rw [d10 hm2]
              exact e_sub [2, 1, 0, 4] rfl (ih (m / 10) _ 0 (by rw [Nat.pow_succ] at hm1; omega) (by omega) (by rw [hR, ← d10 hm2]))
            · rw [if_neg hk8] at hR
              refine e_iload_n (j := 0) C dX3_isEdition_14 rfl rfl ?_
              refine e_if_eq (tgt := 76) C dX3_isEdition_15 (by decide) (fun c_15 => absurd c_15 (by decide)) (fun c_15 => ?_)
              refine e_iload_n (j := 2) C dX3_isEdition_18 rfl rfl ?_
              refine e_if_le (tgt := 76) C dX3_isEdition_19 (by decide) (fun c_19 => absurd c_19 hz) (fun c_19 => ?_)
              refine e_iload_n (j := 2) C dX3_isEdition_22 rfl rfl ?_
              refine e_bipush (v := 10) C dX3_isEdition_23 (by decide) ?_
              refine e_irem C dX3_isEdition_25 (by decide) ?_
              refine e_topi (fun x4_26 ex4_26 => ?_)
              refine e_istore (ls2 := [(4, .int x4_26), (3, .int 1), (1, .int met), (2, .int (nI m)), (0, .int x)]) C hnL dX3_isEdition_26 (by decide) rfl ?_
              refine e_iload (j := 0) C dX3_isEdition_28 rfl ?_
              refine e_iconst (v := 1) C dX3_isEdition_30 (by decide) ?_
              refine e_iconst (v := 5) C dX3_isEdition_31 (by decide) ?_
              refine e_cS (nA := 3) C (c_X3_in1 hl (by rw [ex4_26]; exact (rng_ok hk9).1) (by rw [ex4_26]; exact (rng_ok hk9).2)) rfl mw_216 mw_214 mw_215 mw_5 (by decide +kernel) (by decide) rfl rfl (Nat.le_of_ble_eq_true rfl) dX3_isEdition_32 (Nat.le_of_ble_eq_true rfl) (Nat.le_of_ble_eq_true rfl) ?_
              refine e_if_eq (tgt := 51) C dX3_isEdition_35 (by decide) (fun c_35 => absurd c_35 (by decide)) (fun c_35 => ?_)
              refine e_iload_n (j := 2) C dX3_isEdition_38 rfl rfl ?_
              refine e_iload (j := 0) C dX3_isEdition_39 rfl ?_
              refine e_ishr C dX3_isEdition_41 ?_
              refine e_iconst (v := 1) C dX3_isEdition_42 (by decide) ?_
              refine e_iand C dX3_isEdition_43 ?_
              refine e_if_ne (tgt := 51) C dX3_isEdition_44 (by decide) (fun c_44 => ?_) (fun c_44 => absurd c_44 (by rw [ex4_26]; exact hk8))
              refine e_iconst (v := 0) C dX3_isEdition_51 (by decide) ?_
              refine e_istore_n (ls2 := [(3, .int 0), (4, .int x4_26), (1, .int met), (2, .int (nI m)), (0, .int x)]) C hnL dX3_isEdition_52 rfl (by decide) rfl ?_
              refine e_iload_n (j := 2) C dX3_isEdition_53 rfl rfl ?_
              refine e_iload_n (j := 0) C dX3_isEdition_54 rfl rfl ?_
              refine e_if_eq (tgt := 65) C dX3_isEdition_55 (by decide) (fun c_55 => ?_) (fun c_55 => absurd (by decide) c_55)
              refine e_iconst (v := 0) C dX3_isEdition_65 (by decide) ?_
              refine e_ior C dX3_isEdition_66 ?_
              refine e_topi (fun x1_67 ex1_67 => ?_)
              refine e_istore_n (ls2 := [(1, .int x1_67), (3, .int 0), (4, .int x4_26), (2, .int (nI m)), (0, .int x)]) C hnL dX3_isEdition_67 rfl (by decide) rfl ?_
              refine e_iload_n (j := 3) C dX3_isEdition_68 rfl rfl ?_
              refine e_bipush (v := 10) C dX3_isEdition_69 (by decide) ?_
              refine e_idiv C dX3_isEdition_71 (by decide) ?_
              refine e_topi (fun x2_72 ex2_72 => ?_)
              refine e_istore_n (ls2 := [(2, .int x2_72), (1, .int x1_67), (3, .int 0), (4, .int x4_26), (0, .int x)]) C hnL dX3_isEdition_72 rfl (by decide) rfl ?_
              refine e_goto (tgt := 14) C dX3_isEdition_73 (by decide) ?_
              refine e_iload_n (j := 2) C dX3_isEdition_14 rfl rfl ?_
              refine e_if_eq (tgt := 76) C dX3_isEdition_15 (by decide) (fun c_15 => ?_) (fun c_15 => absurd (by decide) c_15)
              refine e_iload_n (j := 2) C dX3_isEdition_76 rfl rfl ?_
              exact e_zret C rfl rfl (Nat.le_of_ble_eq_true rfl) (Nat.le_of_ble_eq_true rfl) dX3_isEdition_77 (pO.mk (by rw [hR]))
    obtain ⟨m, hm, em⟩ := nI_of hx0
    subst em
    refine e_iconst (v := 0) C dX3_isEdition_0 (by decide) ?_
    refine e_istore_n (ls2 := [(1, .int 0), (0, .int (nI m))]) C hnL dX3_isEdition_1 rfl (by decide) rfl ?_
    refine e_iload_n (j := 1) C dX3_isEdition_2 rfl rfl ?_
    refine e_istore_n (ls2 := [(2, .int (nI m)), (1, .int 0), (0, .int (nI m))]) C hnL dX3_isEdition_3 rfl (by decide) rfl ?_
    refine e_iload_n (j := 2) C dX3_isEdition_4 rfl rfl ?_
    refine e_if_lt (tgt := 12) C dX3_isEdition_5 (by decide) (fun c_5 => absurd c_5 hx0) (fun c_5 => ?_)
    refine e_iconst (v := 1) C dX3_isEdition_8 (by decide) ?_
    refine e_goto (tgt := 13) C dX3_isEdition_9 (by decide) ?_
    refine e_istore_n (ls2 := [(3, .int 1), (2, .int (nI m)), (1, .int 0), (0, .int (nI m))]) C hnL dX3_isEdition_13 rfl (by decide) rfl ?_
    exact e_sub [0, 2, 1, 3] rfl (loop 10 m 0 0 (by omega) hm hR0)
def omed (M : Mem) (x : Int32) : Out := if edM x = 0 then mo M 1 0 else rI (ml M 0 9 20) (up (ml M 0) 9 20 x)
set_option maxRecDepth 100000 in
set_option maxHeartbeats 4000000 in
theorem c_X3_edition {l : Launch} (hl : l.stackTraces = false) {n : Nat} {ρ : Nat → Nat} {J : Nat → Int64} {M : Mem} {x : Int32} : CtO l yX3_edition cX3_edition 3 (some .int) 2 0 0 n ρ J M [.ref (ρ 9), .int x] (omed M x) := by
  refine CtO.of hl (by decide +kernel) (Nat.le_of_ble_eq_true rfl) (fun Ξ hnL C => ?_)
  show E Ξ n ρ J M 0 0 0 [(0, .ref (ρ 9)), (1, .int x)] []
  rcases edM_01 x with h | h
  · refine e_aload_n (j := 0) C dX3_edition_0 rfl rfl ?_
    refine e_iload_n (j := 1) C dX3_edition_1 rfl rfl ?_
    refine e_cS (nA := 1) C (c_X3_isEdition hl) rfl mw_281 mw_279 mw_280 mw_5 (by decide +kernel) (by decide) rfl rfl (Nat.le_of_ble_eq_true rfl) dX3_edition_2 (Nat.le_of_ble_eq_true rfl) (Nat.le_of_ble_eq_true rfl) ?_
    rw [h]
    refine e_iconst (v := 1) C dX3_edition_5 (by decide) ?_
    refine e_iconst (v := 1) C dX3_edition_6 (by decide) ?_
    refine e_cV (i := 9) (nA := 3) (Cn := RX3) C (c_X3_g1 hl) rfl (cnt_fix (by decide)) (fun _ => rfl) rfl rfl mw_162 mw_159 mw_160 mw_161 mw_5 (by decide +kernel) (by decide) rfl rfl (Nat.le_of_ble_eq_true rfl) dX3_edition_7 (Nat.le_of_ble_eq_true rfl) (Nat.le_of_ble_eq_true rfl) ?_
    refine e_if_ne (tgt := 15) C dX3_edition_10 (by decide) (fun c_10 => absurd (by decide) c_10) (fun c_10 => ?_)
    refine e_iconst (v := 0) C dX3_edition_13 (by decide) ?_
    exact e_iret C rfl (Nat.le_of_ble_eq_true rfl) (Nat.le_of_ble_eq_true rfl) dX3_edition_14 (pO.mk (by unfold omed; rw [if_pos h]))
  · refine e_aload_n (j := 0) C dX3_edition_0 rfl rfl ?_
    refine e_iload_n (j := 1) C dX3_edition_1 rfl rfl ?_
    refine e_cS (nA := 1) C (c_X3_isEdition hl) rfl mw_281 mw_279 mw_280 mw_5 (by decide +kernel) (by decide) rfl rfl (Nat.le_of_ble_eq_true rfl) dX3_edition_2 (Nat.le_of_ble_eq_true rfl) (Nat.le_of_ble_eq_true rfl) ?_
    rw [h]
    refine e_iconst (v := 1) C dX3_edition_5 (by decide) ?_
    refine e_iconst (v := 1) C dX3_edition_6 (by decide) ?_
    refine e_cV (i := 9) (nA := 3) (Cn := RX3) C (c_X3_g0 hl) rfl (cnt_fix (by decide)) (fun _ => rfl) rfl rfl mw_162 mw_159 mw_160 mw_161 mw_5 (by decide +kernel) (by decide) rfl rfl (Nat.le_of_ble_eq_true rfl) dX3_edition_7 (Nat.le_of_ble_eq_true rfl) (Nat.le_of_ble_eq_true rfl) ?_
    refine e_if_ne (tgt := 15) C dX3_edition_10 (by decide) (fun c_10 => ?_) (fun c_10 => absurd c_10 (by decide))
    refine e_aload_n (j := 0) C dX3_edition_15 rfl rfl ?_
    refine e_get3 (k := 20) (ref := "ScripHollowModel") C (by decide) rfl rfl mw_72 dX3_edition_16 ?_
    refine e_topi (fun x2_19 ex2_19 => ?_)
    refine e_istore_n (ls2 := [(2, .int x2_19), (0, .ref (ρ 9)), (1, .int x)]) C hnL dX3_edition_19 rfl (by decide) rfl ?_
    refine e_aload_n (j := 1) C dX3_edition_20 rfl rfl ?_
    refine e_iload_n (j := 2) C dX3_edition_21 rfl rfl ?_
    refine e_put3 (k := 20) (ref := "ScripHollowModel") (ty := .int) C (by decide) rfl rfl (by decide +kernel) rfl rfl rfl mw_72 dX3_edition_22 ?_
    refine e_iload_n (j := 0) C dX3_edition_25 rfl rfl ?_
    exact e_iret C rfl (Nat.le_of_ble_eq_true rfl) (Nat.le_of_ble_eq_true rfl) dX3_edition_26 (pO.mk (by (try subst ex2_19); unfold omed; rw [if_neg (by rw [h]; decide)]))
def leadM (M : Mem) : Nat → Int32
  | 0 => 0
  | j + 1 => if M 10 j = 0 then leadM M j + 0 else if M 12 j = 0 then leadM M j + (-1) else leadM M j + 1
theorem leadM_s (M : Mem) (j : Nat) : leadM M (j + 1) = if M 10 j = 0 then leadM M j + 0 else if M 12 j = 0 then leadM M j + (-1) else leadM M j + 1 := rfl
def stM (M : Mem) : Mem := up (ml M 0) 9 26 (if ml M 0 9 26 = 0 then 1 else 0)
def omstrike (M : Mem) (n : Nat) : Out := if M 9 27 = 0 then (if M 9 26 = 0 then (if leadM M n ≤ 0 then mo M 1 0 else rI (stM M 9 26) (stM M)) else rI (stM M 9 26) (stM M)) else mo M 1 0
set_option maxRecDepth 100000 in
set_option maxHeartbeats 4000000 in
theorem c_X3_strike {l : Launch} (hl : l.stackTraces = false) {n : Nat} {ρ : Nat → Nat} {J : Nat → Int64} {M : Mem} (hn : n ≤ 10) (hm : M 9 0 = nI n) : CtO l yX3_strike cX3_strike 3 (some .boolean) 3 0 0 n ρ J M [.ref (ρ 9)] (omstrike M n) := by
  refine CtO.of hl (by decide +kernel) (Nat.le_of_ble_eq_true rfl) (fun Ξ hnL C => ?_)
  show E Ξ n ρ J M 0 0 0 [(0, .ref (ρ 9))] []
  have loop : ∀ (f j : Nat), j + f = n → E Ξ n ρ J M 0 0 4 [(2, .int (nI j)), (1, .int (leadM M j)), (0, .ref (ρ 9))] [] := by
    intro f
    induction f with
    | zero =>
      intro j hj
      have hjn : j = n := by omega
      rw [hjn]
      refine e_iload_n (j := 0) C dX3_strike_4 rfl rfl ?_
      refine e_aload_n (j := 2) C dX3_strike_5 rfl rfl ?_
      refine e_get3 (k := 0) (ref := "ScripHollowModel") C (by decide) rfl rfl mw_158 dX3_strike_6 ?_
      refine e_icmp_ge (tgt := 48) C dX3_strike_9 (by decide) (fun c_9 => ?_) (fun c_9 => absurd (by rw [hm]; exact nI_le (Nat.le_refl n) (by omega)) c_9)
      refine e_aload_n (j := 2) C dX3_strike_48 rfl rfl ?_
      refine e_aload_n (j := 2) C dX3_strike_49 rfl rfl ?_
      refine e_get3 (k := 27) (ref := "ScripHollowModel") C (by decide) rfl rfl mw_260 dX3_strike_50 ?_
      refine e_if_ne (tgt := 71) C dX3_strike_53 (by decide) (fun c_53 => ?_) (fun c_53 => ?_)
      · refine e_iconst (v := 0) C dX3_strike_71 (by decide) ?_
        refine e_iconst (v := 1) C dX3_strike_72 (by decide) ?_
        refine e_iconst (v := 1) C dX3_strike_73 (by decide) ?_
        refine e_cV (i := 9) (nA := 3) (Cn := RX3) C (c_X3_g1 hl) rfl (cnt_fix (by decide)) (fun _ => rfl) rfl rfl mw_162 mw_159 mw_160 mw_161 mw_5 (by decide +kernel) (by decide) rfl rfl (Nat.le_of_ble_eq_true rfl) dX3_strike_74 (Nat.le_of_ble_eq_true rfl) (Nat.le_of_ble_eq_true rfl) ?_
        refine e_if_ne (tgt := 82) C dX3_strike_77 (by decide) (fun c_77 => absurd (by decide) c_77) (fun c_77 => ?_)
        refine e_iconst (v := 0) C dX3_strike_80 (by decide) ?_
        exact e_zret C rfl rfl (Nat.le_of_ble_eq_true rfl) (Nat.le_of_ble_eq_true rfl) dX3_strike_81 (pO.mk (by unfold omstrike; (repeat (first | rw [if_pos c_9] | rw [if_neg c_53] | rw [if_pos c_77]))))
      · refine e_aload_n (j := 2) C dX3_strike_56 rfl rfl ?_
        refine e_get3 (k := 26) (ref := "ScripHollowModel") C (by decide) rfl rfl mw_259 dX3_strike_57 ?_
        refine e_if_ne (tgt := 67) C dX3_strike_60 (by decide) (fun c_60 => ?_) (fun c_60 => ?_)
        · refine e_iconst (v := 1) C dX3_strike_67 (by decide) ?_
          refine e_goto (tgt := 72) C dX3_strike_68 (by decide) ?_
          refine e_iconst (v := 1) C dX3_strike_72 (by decide) ?_
          refine e_iconst (v := 1) C dX3_strike_73 (by decide) ?_
          refine e_cV (i := 9) (nA := 3) (Cn := RX3) C (c_X3_g0 hl) rfl (cnt_fix (by decide)) (fun _ => rfl) rfl rfl mw_162 mw_159 mw_160 mw_161 mw_5 (by decide +kernel) (by decide) rfl rfl (Nat.le_of_ble_eq_true rfl) dX3_strike_74 (Nat.le_of_ble_eq_true rfl) (Nat.le_of_ble_eq_true rfl) ?_
          refine e_if_ne (tgt := 82) C dX3_strike_77 (by decide) (fun c_77 => ?_) (fun c_77 => absurd c_77 (by decide))
          refine e_aload_n (j := 2) C dX3_strike_82 rfl rfl ?_
          refine e_aload_n (j := 2) C dX3_strike_83 rfl rfl ?_
          refine e_get3 (k := 26) (ref := "ScripHollowModel") C (by decide) rfl rfl mw_259 dX3_strike_84 ?_
          refine e_if_ne (tgt := 94) C dX3_strike_87 (by decide) (fun c_87 => ?_) (fun c_87 => ?_)
          · refine e_iconst (v := 0) C dX3_strike_94 (by decide) ?_
            refine e_put3 (k := 26) (ref := "ScripHollowModel") (ty := .boolean) C (by decide) rfl rfl (by decide +kernel) rfl rfl rfl mw_259 dX3_strike_95 ?_
            refine e_aload_n (j := 2) C dX3_strike_98 rfl rfl ?_
            refine e_get3 (k := 26) (ref := "ScripHollowModel") C (by decide) rfl rfl mw_259 dX3_strike_99 ?_
            exact e_zret C rfl (isB.nar (by rw [up_eq]; unfold upd; rw [if_pos rfl]; first | exact Or.inl rfl | exact Or.inr rfl)) (Nat.le_of_ble_eq_true rfl) (Nat.le_of_ble_eq_true rfl) dX3_strike_102 (pO.mk (by unfold omstrike stM; (repeat (first | rw [if_pos c_9] | rw [if_pos c_53] | rw [if_neg c_60] | rw [if_neg c_77] | rw [if_neg c_87]))))
          · refine e_iconst (v := 1) C dX3_strike_90 (by decide) ?_
            refine e_goto (tgt := 95) C dX3_strike_91 (by decide) ?_
            refine e_put3 (k := 26) (ref := "ScripHollowModel") (ty := .boolean) C (by decide) rfl rfl (by decide +kernel) rfl rfl rfl mw_259 dX3_strike_95 ?_
            refine e_aload_n (j := 2) C dX3_strike_98 rfl rfl ?_
            refine e_get3 (k := 26) (ref := "ScripHollowModel") C (by decide) rfl rfl mw_259 dX3_strike_99 ?_
            exact e_zret C rfl (isB.nar (by rw [up_eq]; unfold upd; rw [if_pos rfl]; first | exact Or.inl rfl | exact Or.inr rfl)) (Nat.le_of_ble_eq_true rfl) (Nat.le_of_ble_eq_true rfl) dX3_strike_102 (pO.mk (by unfold omstrike stM; (repeat (first | rw [if_pos c_9] | rw [if_pos c_53] | rw [if_neg c_60] | rw [if_neg c_77] | rw [if_pos c_87]))))
        · refine e_iload_n (j := 1) C dX3_strike_63 rfl rfl ?_
          refine e_if_le (tgt := 71) C dX3_strike_64 (by decide) (fun c_64 => ?_) (fun c_64 => ?_)
          · refine e_iconst (v := 0) C dX3_strike_71 (by decide) ?_
            refine e_iconst (v := 1) C dX3_strike_72 (by decide) ?_
            refine e_iconst (v := 1) C dX3_strike_73 (by decide) ?_
            refine e_cV (i := 9) (nA := 3) (Cn := RX3) C (c_X3_g1 hl) rfl (cnt_fix (by decide)) (fun _ => rfl) rfl rfl mw_162 mw_159 mw_160 mw_161 mw_5 (by decide +kernel) (by decide) rfl rfl (Nat.le_of_ble_eq_true rfl) dX3_strike_74 (Nat.le_of_ble_eq_true rfl) (Nat.le_of_ble_eq_true rfl) ?_
            refine e_if_ne (tgt := 82) C dX3_strike_77 (by decide) (fun c_77 => absurd (by decide) c_77) (fun c_77 => ?_)
            refine e_iconst (v := 0) C dX3_strike_80 (by decide) ?_
            exact e_zret C rfl rfl (Nat.le_of_ble_eq_true rfl) (Nat.le_of_ble_eq_true rfl) dX3_strike_81 (pO.mk (by unfold omstrike; (repeat (first | rw [if_pos c_9] | rw [if_pos c_53] | rw [if_pos c_60] | rw [if_pos c_64] | rw [if_pos c_77]))))
          · refine e_iconst (v := 1) C dX3_strike_67 (by decide) ?_
            refine e_goto (tgt := 72) C dX3_strike_68 (by decide) ?_
            refine e_iconst (v := 1) C dX3_strike_72 (by decide) ?_
            refine e_iconst (v := 1) C dX3_strike_73 (by decide) ?_
            refine e_cV (i := 9) (nA := 3) (Cn := RX3) C (c_X3_g0 hl) rfl (cnt_fix (by decide)) (fun _ => rfl) rfl rfl mw_162 mw_159 mw_160 mw_161 mw_5 (by decide +kernel) (by decide) rfl rfl (Nat.le_of_ble_eq_true rfl) dX3_strike_74 (Nat.le_of_ble_eq_true rfl) (Nat.le_of_ble_eq_true rfl) ?_
            refine e_if_ne (tgt := 82) C dX3_strike_77 (by decide) (fun c_77 => ?_) (fun c_77 => absurd c_77 (by decide))
            refine e_aload_n (j := 2) C dX3_strike_82 rfl rfl ?_
            refine e_aload_n (j := 2) C dX3_strike_83 rfl rfl ?_
            refine e_get3 (k := 26) (ref := "ScripHollowModel") C (by decide) rfl rfl mw_259 dX3_strike_84 ?_
            refine e_if_ne (tgt := 94) C dX3_strike_87 (by decide) (fun c_87 => ?_) (fun c_87 => ?_)
            · refine e_iconst (v := 0) C dX3_strike_94 (by decide) ?_
              refine e_put3 (k := 26) (ref := "ScripHollowModel") (ty := .boolean) C (by decide) rfl rfl (by decide +kernel) rfl rfl rfl mw_259 dX3_strike_95 ?_
              refine e_aload_n (j := 2) C dX3_strike_98 rfl rfl ?_
              refine e_get3 (k := 26) (ref := "ScripHollowModel") C (by decide) rfl rfl mw_259 dX3_strike_99 ?_
              exact e_zret C rfl (isB.nar (by rw [up_eq]; unfold upd; rw [if_pos rfl]; first | exact Or.inl rfl | exact Or.inr rfl)) (Nat.le_of_ble_eq_true rfl) (Nat.le_of_ble_eq_true rfl) dX3_strike_102 (pO.mk (by unfold omstrike stM; (repeat (first | rw [if_pos c_9] | rw [if_pos c_53] | rw [if_pos c_60] | rw [if_neg c_64] | rw [if_neg c_77] | rw [if_neg c_87]))))
            · refine e_iconst (v := 1) C dX3_strike_90 (by decide) ?_
              refine e_goto (tgt := 95) C dX3_strike_91 (by decide) ?_
              refine e_put3 (k := 26) (ref := "ScripHollowModel") (ty := .boolean) C (by decide) rfl rfl (by decide +kernel) rfl rfl rfl mw_259 dX3_strike_95 ?_
              refine e_aload_n (j := 2) C dX3_strike_98 rfl rfl ?_
              refine e_get3 (k := 26) (ref := "ScripHollowModel") C (by decide) rfl rfl mw_259 dX3_strike_99 ?_
              exact e_zret C rfl (isB.nar (by rw [up_eq]; unfold upd; rw [if_pos rfl]; first | exact Or.inl rfl | exact Or.inr rfl)) (Nat.le_of_ble_eq_true rfl) (Nat.le_of_ble_eq_true rfl) dX3_strike_102 (pO.mk (by unfold omstrike stM; (repeat (first | rw [if_pos c_9] | rw [if_pos c_53] | rw [if_pos c_60] | rw [if_neg c_64] | rw [if_neg c_77] | rw [if_pos c_87]))))
    | succ f ih =>
      intro j hjf
      have hj : j < n := by omega
      refine e_iload_n (j := 0) C dX3_strike_4 rfl rfl ?_
      refine e_aload_n (j := 2) C dX3_strike_5 rfl rfl ?_
      refine e_get3 (k := 0) (ref := "ScripHollowModel") C (by decide) rfl rfl mw_158 dX3_strike_6 ?_
      refine e_icmp_ge (tgt := 48) C dX3_strike_9 (by decide) (fun c_9 => absurd c_9 (by rw [hm]; exact nI_ge hj (by omega))) (fun c_9 => ?_)
      refine e_iload_n (j := 1) C dX3_strike_12 rfl rfl ?_
      refine e_aload_n (j := 2) C dX3_strike_13 rfl rfl ?_
      refine e_get3 (k := 1) (ref := "ScripHollowModel") C (by decide) rfl rfl mw_54 dX3_strike_14 ?_
      refine e_iload_n (j := 0) C dX3_strike_17 rfl rfl ?_
      refine e_zaldN j C (cnt_fix (by decide)) (fun _ => rfl) rfl (by omega) (by decide) dX3_strike_18 ?_
      refine e_if_ne (tgt := 26) C dX3_strike_19 (by decide) (fun c_19 => ?_) (fun c_19 => ?_)
      · refine e_aload_n (j := 2) C dX3_strike_26 rfl rfl ?_
        refine e_get3 (k := 3) (ref := "ScripHollowModel") C (by decide) rfl rfl mw_56 dX3_strike_27 ?_
        refine e_iload_n (j := 0) C dX3_strike_30 rfl rfl ?_
        refine e_zaldN j C (cnt_fix (by decide)) (fun _ => rfl) rfl (by omega) (by decide) dX3_strike_31 ?_
        refine e_if_eq (tgt := 39) C dX3_strike_32 (by decide) (fun c_32 => ?_) (fun c_32 => ?_)
        · refine e_iconst (v := (-1)) C dX3_strike_39 (by decide) ?_
          refine e_iadd C dX3_strike_40 ?_
          refine e_topi (fun x1_41 ex1_41 => ?_)
          refine e_istore_n (ls2 := [(1, .int x1_41), (2, .int (nI j)), (0, .ref (ρ 9))]) C hnL dX3_strike_41 rfl (by decide) rfl ?_
          obtain ⟨x2_42, ex2_42⟩ : ∃ z : Int32, z = (nI j) + 1 := ⟨_, rfl⟩
          refine e_iinc (j := 1) (v := x2_42) (ls2 := [(2, .int x2_42), (1, .int x1_41), (0, .ref (ρ 9))]) C hnL dX3_strike_42 rfl (by rw [ex2_42]; rfl) (by decide) rfl ?_
          refine e_goto (tgt := 4) C dX3_strike_45 (by decide) ?_
          subst ex2_42 ex1_41
          rw [nI_1]
          have ih2 := ih (j + 1) (by omega)
          rw [leadM_s] at ih2
          (repeat (first | rw [if_neg c_19] at ih2 | rw [if_pos c_19] at ih2 | rw [if_pos c_32] at ih2 | rw [if_neg c_32] at ih2))
          exact e_sub [0, 1, 2] rfl ih2
        · refine e_iconst (v := 1) C dX3_strike_35 (by decide) ?_
          refine e_goto (tgt := 40) C dX3_strike_36 (by decide) ?_
          refine e_iadd C dX3_strike_40 ?_
          refine e_topi (fun x1_41 ex1_41 => ?_)
          refine e_istore_n (ls2 := [(1, .int x1_41), (2, .int (nI j)), (0, .ref (ρ 9))]) C hnL dX3_strike_41 rfl (by decide) rfl ?_
          obtain ⟨x2_42, ex2_42⟩ : ∃ z : Int32, z = (nI j) + 1 := ⟨_, rfl⟩
          refine e_iinc (j := 1) (v := x2_42) (ls2 := [(2, .int x2_42), (1, .int x1_41), (0, .ref (ρ 9))]) C hnL dX3_strike_42 rfl (by rw [ex2_42]; rfl) (by decide) rfl ?_
          refine e_goto (tgt := 4) C dX3_strike_45 (by decide) ?_
          subst ex2_42 ex1_41
          rw [nI_1]
          have ih2 := ih (j + 1) (by omega)
          rw [leadM_s] at ih2
          (repeat (first | rw [if_neg c_19] at ih2 | rw [if_pos c_19] at ih2 | rw [if_pos c_32] at ih2 | rw [if_neg c_32] at ih2))
          exact e_sub [0, 1, 2] rfl ih2
      · refine e_iconst (v := 0) C dX3_strike_22 (by decide) ?_
        refine e_goto (tgt := 40) C dX3_strike_23 (by decide) ?_
        refine e_iadd C dX3_strike_40 ?_
        refine e_topi (fun x1_41 ex1_41 => ?_)
        refine e_istore_n (ls2 := [(1, .int x1_41), (2, .int (nI j)), (0, .ref (ρ 9))]) C hnL dX3_strike_41 rfl (by decide) rfl ?_
        obtain ⟨x2_42, ex2_42⟩ : ∃ z : Int32, z = (nI j) + 1 := ⟨_, rfl⟩
        refine e_iinc (j := 1) (v := x2_42) (ls2 := [(2, .int x2_42), (1, .int x1_41), (0, .ref (ρ 9))]) C hnL dX3_strike_42 rfl (by rw [ex2_42]; rfl) (by decide) rfl ?_
        refine e_goto (tgt := 4) C dX3_strike_45 (by decide) ?_
        subst ex2_42 ex1_41
        rw [nI_1]
        have ih2 := ih (j + 1) (by omega)
        rw [leadM_s] at ih2
        (repeat (first | rw [if_neg c_19] at ih2 | rw [if_pos c_19] at ih2 | rw [if_pos c_32] at ih2 | rw [if_neg c_32] at ih2))
        exact e_sub [0, 1, 2] rfl ih2
  refine e_iconst (v := 0) C dX3_strike_0 (by decide) ?_
  refine e_istore_n (ls2 := [(1, .int 0), (0, .ref (ρ 9))]) C hnL dX3_strike_1 rfl (by decide) rfl ?_
  refine e_iconst (v := 0) C dX3_strike_2 (by decide) ?_
  refine e_istore_n (ls2 := [(2, .int 0), (1, .int 0), (0, .ref (ρ 9))]) C hnL dX3_strike_3 rfl (by decide) rfl ?_
  exact e_sub [0, 1, 2] rfl (loop n 0 (by omega))
