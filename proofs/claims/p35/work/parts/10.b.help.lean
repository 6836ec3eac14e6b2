/-! The law's helpers. -/
/-- a miner's scrip in the law's rows -/
def hasF (M : Mem) (k : Nat) : Int32 := sm (fun i => M 10 (12 * k + i)) 12
set_option maxRecDepth 100000 in
set_option maxHeartbeats 1000000 in
theorem L_has {l : Launch} (hl : l.stackTraces = false) {ρ : Nat → Nat} {J : Nat → Int64} {M : Mem} {k : Nat} (hk : k < 5) : CtO l yL_has cL_has 4 (some .int) 0 0 0 5 ρ J M [.ref (ρ 10), .int (nI k)] (rI (hasF M k) M) := by
  refine CtO.of hl (by decide +kernel) (Nat.le_of_ble_eq_true rfl) (fun Ξ hnL C => ?_)
  show E Ξ 5 ρ J M 0 0 0 [(0, .ref (ρ 10)), (1, .int (nI k))] []
  have loop : ∀ (f j : Nat), j + f = 12 → E Ξ 5 ρ J M 0 0 4 [(3, .int (nI j)), (2, .int (sm (fun i => M 10 (12 * k + i)) j)), (0, .ref (ρ 10)), (1, .int (nI k))] [] := by
    intro f
    induction f with
    | zero =>
      intro j hj
      have hj2 : j = 12 := by omega
      subst hj2
      refine e_iload_n (j := 0) C dL_has_4 rfl rfl ?_
      refine e_bipush (v := 12) C dL_has_5 (by decide) ?_
      refine e_icmp_ge (tgt := 27) C dL_has_7 (by decide) (fun c_7 => ?_) (fun c_7 => absurd ((nI_leI (a := 12) (b := 12) (by omega) (by omega)).mpr (by omega)) c_7)
      refine e_iload_n (j := 1) C dL_has_27 rfl rfl ?_
      exact e_iret C rfl (Nat.le_of_ble_eq_true rfl) (Nat.le_of_ble_eq_true rfl) dL_has_28 (pO.mk rfl)
    | succ f ih =>
      intro j hj
      refine e_iload_n (j := 0) C dL_has_4 rfl rfl ?_
      refine e_bipush (v := 12) C dL_has_5 (by decide) ?_
      refine e_icmp_ge (tgt := 27) C dL_has_7 (by decide) (fun c_7 => absurd ((nI_leI (a := 12) (b := j) (by omega) (by omega)).mp c_7) (by omega)) (fun c_7 => ?_)
      refine e_iload_n (j := 1) C dL_has_10 rfl rfl ?_
      refine e_aload_n (j := 2) C dL_has_11 rfl rfl ?_
      refine e_bipush (v := 12) C dL_has_12 (by decide) ?_
      refine e_iload_n (j := 3) C dL_has_14 rfl rfl ?_
      refine e_imulN 12 k (12 * k) C rfl rfl rfl dL_has_15 ?_
      refine e_iload_n (j := 0) C dL_has_16 rfl rfl ?_
      refine e_iaddN (12 * k) j (12 * k + j) C rfl rfl rfl dL_has_17 ?_
      refine e_ialdN (12 * k + j) C (cnt_fix (by decide)) (fun _ => rfl) rfl (by omega) (by decide) dL_has_18 ?_
      refine e_iadd C dL_has_19 ?_
      refine e_topi (fun x2_20 ex2_20 => ?_)
      refine e_istore_n (ls2 := [(2, .int x2_20), (3, .int (nI j)), (0, .ref (ρ 10)), (1, .int (nI k))]) C hnL dL_has_20 rfl (by decide) rfl ?_
      refine e_iinc (j := 1) (v := (nI (j + 1))) (ls2 := [(3, .int (nI (j + 1))), (2, .int x2_20), (0, .ref (ρ 10)), (1, .int (nI k))]) C hnL dL_has_21 rfl (nI_add (j) 1) (by decide) rfl ?_
      refine e_goto (tgt := 4) C dL_has_24 (by decide) ?_
      subst ex2_20
      exact e_sub [0, 1, 2, 3] rfl (ih (j + 1) (by omega))
  refine e_iconst (v := 0) C dL_has_0 (by decide) ?_
  refine e_istore_n (ls2 := [(2, .int 0), (0, .ref (ρ 10)), (1, .int (nI k))]) C hnL dL_has_1 rfl (by decide) rfl ?_
  refine e_iconst (v := 0) C dL_has_2 (by decide) ?_
  refine e_istore_n (ls2 := [(3, .int 0), (2, .int 0), (0, .ref (ρ 10)), (1, .int (nI k))]) C hnL dL_has_3 rfl (by decide) rfl ?_
  exact e_sub [0, 1, 2, 3] rfl (loop 12 0 (by omega))
def raL (M : Mem) (k g : Nat) : Int32 := M 12 (5 + g) + M 12 (5 + g) * M 9 (12 * k + 3) / 200
set_option maxRecDepth 100000 in
set_option maxHeartbeats 1000000 in
theorem L_raised {l : Launch} (hl : l.stackTraces = false) {ρ : Nat → Nat} {J : Nat → Int64} {M : Mem} {k : Nat} (hk : k < 5) {g : Nat} (hg : g < 4) : CtO l yL_raised cL_raised 4 (some .int) 0 0 0 5 ρ J M [.ref (ρ 9), .ref (ρ 12), .int (nI k), .int (nI g)] (rI (raL M k g) M) := by
  refine CtO.of hl (by decide +kernel) (Nat.le_of_ble_eq_true rfl) (fun Ξ hnL C => ?_)
  show E Ξ 5 ρ J M 0 0 0 [(0, .ref (ρ 9)), (1, .ref (ρ 12)), (2, .int (nI k)), (3, .int (nI g))] []
  refine e_aload_n (j := 1) C dL_raised_0 rfl rfl ?_
  refine e_iconst (v := 5) C dL_raised_1 (by decide) ?_
  refine e_iload_n (j := 3) C dL_raised_2 rfl rfl ?_
  refine e_iaddN 5 g (5 + g) C rfl rfl rfl dL_raised_3 ?_
  refine e_ialdN (5 + g) C (cnt_fix (by decide)) (fun _ => rfl) rfl (by omega) (by decide) dL_raised_4 ?_
  refine e_aload_n (j := 1) C dL_raised_5 rfl rfl ?_
  refine e_iconst (v := 5) C dL_raised_6 (by decide) ?_
  refine e_iload_n (j := 3) C dL_raised_7 rfl rfl ?_
  refine e_iaddN 5 g (5 + g) C rfl rfl rfl dL_raised_8 ?_
  refine e_ialdN (5 + g) C (cnt_fix (by decide)) (fun _ => rfl) rfl (by omega) (by decide) dL_raised_9 ?_
  refine e_aload_n (j := 0) C dL_raised_10 rfl rfl ?_
  refine e_bipush (v := 12) C dL_raised_11 (by decide) ?_
  refine e_iload_n (j := 2) C dL_raised_13 rfl rfl ?_
  refine e_imulN 12 k (12 * k) C rfl rfl rfl dL_raised_14 ?_
  refine e_iconst (v := 3) C dL_raised_15 (by decide) ?_
  refine e_iaddN (12 * k) 3 (12 * k + 3) C rfl rfl rfl dL_raised_16 ?_
  refine e_ialdN (12 * k + 3) C (cnt_fix (by decide)) (fun _ => rfl) rfl (by omega) (by decide) dL_raised_17 ?_
  refine e_imul C dL_raised_18 ?_
  refine e_sipush (v := 200) C dL_raised_19 (by decide) ?_
  refine e_idiv C dL_raised_22 (by decide) ?_
  refine e_iadd C dL_raised_23 ?_
  exact e_iret C rfl (Nat.le_of_ble_eq_true rfl) (Nat.le_of_ble_eq_true rfl) dL_raised_24 (pO.mk rfl)
def tkD (M : Mem) (k d : Nat) : Int32 := if nI d = 1 then M 9 (12 * k + 4) else if nI d = 5 then M 9 (12 * k + 3) else M 12 d
def tkT (M : Mem) (k d : Nat) (l : Int32) : Int32 := if tkD M k d ≤ l then tkD M k d else l
def tkA (M : Mem) (k d : Nat) (v : Int32) : Mem := up M 9 (12 * k + 4) (M 9 (12 * k + 4) - (if nI d = 1 then v else 0))
def tkB (M : Mem) (k d : Nat) (v : Int32) : Mem := up (tkA M k d v) 9 (12 * k + 3) (tkA M k d v 9 (12 * k + 3) - (if nI d = 5 then v else 0))
set_option maxRecDepth 100000 in
set_option maxHeartbeats 1000000 in
theorem L_take {l : Launch} (hl : l.stackTraces = false) {ρ : Nat → Nat} {J : Nat → Int64} {M : Mem} {k : Nat} (hk : k < 5) {d : Nat} (hd : d ≤ 5) {x : Int32} : CtO l yL_take cL_take 8 (some .int) 0 0 0 5 ρ J M [.ref (ρ 9), .ref (ρ 12), .int (nI k), .int (nI d), .int x] (rI (tkT M k d x) (tkB M k d (tkT M k d x))) := by
  refine CtO.of hl (by decide +kernel) (Nat.le_of_ble_eq_true rfl) (fun Ξ hnL C => ?_)
  show E Ξ 5 ρ J M 0 0 0 [(0, .ref (ρ 9)), (1, .ref (ρ 12)), (2, .int (nI k)), (3, .int (nI d)), (4, .int x)] []
  refine e_bipush (v := 12) C dL_take_0 (by decide) ?_
  refine e_iload_n (j := 2) C dL_take_2 rfl rfl ?_
  refine e_imulN 12 k (12 * k) C rfl rfl rfl dL_take_3 ?_
  refine e_istore (ls2 := [(5, .int (nI (12 * k))), (0, .ref (ρ 9)), (1, .ref (ρ 12)), (2, .int (nI k)), (3, .int (nI d)), (4, .int x)]) C hnL dL_take_4 (by decide) rfl ?_
  refine e_iload_n (j := 4) C dL_take_6 rfl rfl ?_
  refine e_iconst (v := 1) C dL_take_7 (by decide) ?_
  suffices hJ_37 : ∀ v_37 : Int32, v_37 = (if (nI d) = 1 then (M 9 (12 * k + 4)) else (if (nI d) = 5 then (M 9 (12 * k + 3)) else (M 12 d))) → E Ξ 5 ρ J M 0 0 37 [(5, .int (nI (12 * k))), (0, .ref (ρ 9)), (1, .ref (ρ 12)), (2, .int (nI k)), (3, .int (nI d)), (4, .int x)] (.int v_37 :: []) by
    refine e_icmp_ne (tgt := 20) C dL_take_8 (by decide) (fun c_8 => ?_) (fun c_8 => ?_)
    · have n_8 : ¬ (d = 1) := fun h => c_8 ((nI_eq (a := d) (b := 1) (by omega) (by omega)).mpr h)
      refine e_iload_n (j := 4) C dL_take_20 rfl rfl ?_
      refine e_iconst (v := 5) C dL_take_21 (by decide) ?_
      refine e_icmp_ne (tgt := 34) C dL_take_22 (by decide) (fun c_22 => ?_) (fun c_22 => ?_)
      · have n_22 : ¬ (d = 5) := fun h => c_22 ((nI_eq (a := d) (b := 5) (by omega) (by omega)).mpr h)
        refine e_aload_n (j := 2) C dL_take_34 rfl rfl ?_
        refine e_iload_n (j := 4) C dL_take_35 rfl rfl ?_
        refine e_ialdN d C (cnt_fix (by decide)) (fun _ => rfl) rfl (by omega) (by decide) dL_take_36 ?_
        exact hJ_37 _ (by rw [if_neg c_8, if_neg c_22])
      · have n_22 : d = 5 := (nI_eq (a := d) (b := 5) (by omega) (by omega)).mp c_22
        refine e_aload_n (j := 1) C dL_take_25 rfl rfl ?_
        refine e_iload (j := 0) C dL_take_26 rfl ?_
        refine e_iconst (v := 3) C dL_take_28 (by decide) ?_
        refine e_iaddN (12 * k) 3 (12 * k + 3) C rfl rfl rfl dL_take_29 ?_
        refine e_ialdN (12 * k + 3) C (cnt_fix (by decide)) (fun _ => rfl) rfl (by omega) (by decide) dL_take_30 ?_
        refine e_goto (tgt := 37) C dL_take_31 (by decide) ?_
        exact hJ_37 _ (by rw [if_neg c_8, if_pos c_22])
    · have n_8 : d = 1 := (nI_eq (a := d) (b := 1) (by omega) (by omega)).mp c_8
      refine e_aload_n (j := 1) C dL_take_11 rfl rfl ?_
      refine e_iload (j := 0) C dL_take_12 rfl ?_
      refine e_iconst (v := 4) C dL_take_14 (by decide) ?_
      refine e_iaddN (12 * k) 4 (12 * k + 4) C rfl rfl rfl dL_take_15 ?_
      refine e_ialdN (12 * k + 4) C (cnt_fix (by decide)) (fun _ => rfl) rfl (by omega) (by decide) dL_take_16 ?_
      refine e_goto (tgt := 37) C dL_take_17 (by decide) ?_
      exact hJ_37 _ (by rw [if_pos c_8])
  intro v_37 hv_37
  refine e_istore (ls2 := [(6, .int v_37), (5, .int (nI (12 * k))), (0, .ref (ρ 9)), (1, .ref (ρ 12)), (2, .int (nI k)), (3, .int (nI d)), (4, .int x)]) C hnL dL_take_37 (by decide) rfl ?_
  refine e_iload (j := 0) C dL_take_39 rfl ?_
  refine e_iload (j := 6) C dL_take_41 rfl ?_
  suffices hJ_53 : ∀ v_53 : Int32, v_53 = (if v_37 ≤ x then v_37 else x) → E Ξ 5 ρ J M 0 0 53 [(6, .int v_37), (5, .int (nI (12 * k))), (0, .ref (ρ 9)), (1, .ref (ρ 12)), (2, .int (nI k)), (3, .int (nI d)), (4, .int x)] (.int v_53 :: []) by
    refine e_icmp_le (tgt := 51) C dL_take_43 (by decide) (fun c_43 => ?_) (fun c_43 => ?_)
    · refine e_iload (j := 0) C dL_take_51 rfl ?_
      exact hJ_53 _ (by rw [if_pos c_43])
    · refine e_iload (j := 6) C dL_take_46 rfl ?_
      refine e_goto (tgt := 53) C dL_take_48 (by decide) ?_
      exact hJ_53 _ (by rw [if_neg c_43])
  intro v_53 hv_53
  refine e_istore (ls2 := [(7, .int v_53), (6, .int v_37), (5, .int (nI (12 * k))), (0, .ref (ρ 9)), (1, .ref (ρ 12)), (2, .int (nI k)), (3, .int (nI d)), (4, .int x)]) C hnL dL_take_53 (by decide) rfl ?_
  refine e_aload_n (j := 3) C dL_take_55 rfl rfl ?_
  refine e_iload (j := 2) C dL_take_56 rfl ?_
  refine e_iconst (v := 4) C dL_take_58 (by decide) ?_
  refine e_iaddN (12 * k) 4 (12 * k + 4) C rfl rfl rfl dL_take_59 ?_
  refine e_dup2 C dL_take_60 rfl rfl ?_
  refine e_ialdN (12 * k + 4) C (cnt_fix (by decide)) (fun _ => rfl) rfl (by omega) (by decide) dL_take_61 ?_
  refine e_iload_n (j := 6) C dL_take_62 rfl rfl ?_
  refine e_iconst (v := 1) C dL_take_63 (by decide) ?_
  suffices hJ_73 : ∀ v_73 : Int32, v_73 = (if (nI d) = 1 then v_53 else 0) → E Ξ 5 ρ J M 0 0 73 [(7, .int v_53), (6, .int v_37), (5, .int (nI (12 * k))), (0, .ref (ρ 9)), (1, .ref (ρ 12)), (2, .int (nI k)), (3, .int (nI d)), (4, .int x)] (.int v_73 :: .int (M 9 (12 * k + 4)) :: .int (nI (12 * k + 4)) :: .ref (ρ 9) :: []) by
    refine e_icmp_ne (tgt := 72) C dL_take_64 (by decide) (fun c_64 => ?_) (fun c_64 => ?_)
    · have n_64 : ¬ (d = 1) := fun h => c_64 ((nI_eq (a := d) (b := 1) (by omega) (by omega)).mpr h)
      refine e_iconst (v := 0) C dL_take_72 (by decide) ?_
      exact hJ_73 _ (by rw [if_neg c_64])
    · have n_64 : d = 1 := (nI_eq (a := d) (b := 1) (by omega) (by omega)).mp c_64
      refine e_iload (j := 0) C dL_take_67 rfl ?_
      refine e_goto (tgt := 73) C dL_take_69 (by decide) ?_
      exact hJ_73 _ (by rw [if_pos c_64])
  intro v_73 hv_73
  refine e_isub C dL_take_73 ?_
  refine e_iastN (12 * k + 4) C (cnt_fix (by decide)) (fun _ _ => rfl) rfl (by omega) (by decide) dL_take_74 ?_
  refine e_topM (fun M_74 hM_74 => ?_)
  refine e_aload_n (j := 3) C dL_take_75 rfl rfl ?_
  refine e_iload (j := 2) C dL_take_76 rfl ?_
  refine e_iconst (v := 3) C dL_take_78 (by decide) ?_
  refine e_iaddN (12 * k) 3 (12 * k + 3) C rfl rfl rfl dL_take_79 ?_
  refine e_dup2 C dL_take_80 rfl rfl ?_
  refine e_ialdN (12 * k + 3) C (cnt_fix (by decide)) (fun _ => rfl) rfl (by omega) (by decide) dL_take_81 ?_
  refine e_iload_n (j := 6) C dL_take_82 rfl rfl ?_
  refine e_iconst (v := 5) C dL_take_83 (by decide) ?_
  suffices hJ_93 : ∀ v_93 : Int32, v_93 = (if (nI d) = 5 then v_53 else 0) → E Ξ 5 ρ J M_74 0 0 93 [(7, .int v_53), (6, .int v_37), (5, .int (nI (12 * k))), (0, .ref (ρ 9)), (1, .ref (ρ 12)), (2, .int (nI k)), (3, .int (nI d)), (4, .int x)] (.int v_93 :: .int (M_74 9 (12 * k + 3)) :: .int (nI (12 * k + 3)) :: .ref (ρ 9) :: []) by
    refine e_icmp_ne (tgt := 92) C dL_take_84 (by decide) (fun c_84 => ?_) (fun c_84 => ?_)
    · have n_84 : ¬ (d = 5) := fun h => c_84 ((nI_eq (a := d) (b := 5) (by omega) (by omega)).mpr h)
      refine e_iconst (v := 0) C dL_take_92 (by decide) ?_
      exact hJ_93 _ (by rw [if_neg c_84])
    · have n_84 : d = 5 := (nI_eq (a := d) (b := 5) (by omega) (by omega)).mp c_84
      refine e_iload (j := 0) C dL_take_87 rfl ?_
      refine e_goto (tgt := 93) C dL_take_89 (by decide) ?_
      exact hJ_93 _ (by rw [if_pos c_84])
  intro v_93 hv_93
  refine e_isub C dL_take_93 ?_
  refine e_iastN (12 * k + 3) C (cnt_fix (by decide)) (fun _ _ => rfl) rfl (by omega) (by decide) dL_take_94 ?_
  refine e_topM (fun M_94 hM_94 => ?_)
  refine e_iload (j := 0) C dL_take_95 rfl ?_
  exact e_iret C rfl (Nat.le_of_ble_eq_true rfl) (Nat.le_of_ble_eq_true rfl) dL_take_97 (pO.mk (by subst_vars; rfl))
def spD (N : Mem) (k i : Nat) (l : Int32) : Mem := up N 10 (12 * k + i) (if N 10 (12 * k + i) ≤ l then 0 else N 10 (12 * k + i) - l)
def spE (N : Mem) (k i : Nat) (l : Int32) : Mem := up (spD N k i l) 9 (12 * k + 11) (spD N k i l 9 (12 * k + 11) + (if N 10 (12 * k + i) ≤ l then N 10 (12 * k + i) else l))
def spL (M : Mem) (k : Nat) (v : Int32) : Nat → Mem × Int32
  | 0 => (M, v)
  | i + 1 => if (spL M k v i).2 ≤ 0 then spL M k v i else (spE (spL M k v i).1 k i (spL M k v i).2, if (spL M k v i).1 10 (12 * k + i) ≤ (spL M k v i).2 then (spL M k v i).2 - (spL M k v i).1 10 (12 * k + i) else 0)
theorem spL_s (M : Mem) (k : Nat) (v : Int32) (i : Nat) : spL M k v (i + 1) = if (spL M k v i).2 ≤ 0 then spL M k v i else (spE (spL M k v i).1 k i (spL M k v i).2, if (spL M k v i).1 10 (12 * k + i) ≤ (spL M k v i).2 then (spL M k v i).2 - (spL M k v i).1 10 (12 * k + i) else 0) := rfl
theorem spL_end (M : Mem) (k : Nat) (v : Int32) {i : Nat} (h : (spL M k v i).2 ≤ 0) : ∀ q, spL M k v (i + q) = spL M k v i
  | 0 => rfl
  | q + 1 => by
    rw [show i + (q + 1) = i + q + 1 by omega, spL_s, spL_end M k v h q, if_pos h]
set_option maxRecDepth 100000 in
set_option maxHeartbeats 1000000 in
theorem L_spend {l : Launch} (hl : l.stackTraces = false) {ρ : Nat → Nat} {J : Nat → Int64} {M : Mem} {k : Nat} (hk : k < 5) {x : Int32} : CtO l yL_spend cL_spend 7 (some .int) 0 0 0 5 ρ J M [.ref (ρ 9), .ref (ρ 10), .int (nI k), .int x] (rI (spL M k x 12).2 (spL M k x 12).1) := by
  refine CtO.of hl (by decide +kernel) (Nat.le_of_ble_eq_true rfl) (fun Ξ hnL C => ?_)
  show E Ξ 5 ρ J M 0 0 0 [(0, .ref (ρ 9)), (1, .ref (ρ 10)), (2, .int (nI k)), (3, .int x)] []
  obtain ⟨R0, hR0⟩ : ∃ z, z = rI (spL M k x 12).2 (spL M k x 12).1 := ⟨_, rfl⟩
  rw [← hR0] at C
  have loop : ∀ (f j : Nat) (N : Mem) (y : Int32), j + f = 12 → spL M k x j = (N, y) → E Ξ 5 ρ J N 0 0 6 [(5, .int (nI j)), (4, .int y), (0, .ref (ρ 9)), (1, .ref (ρ 10)), (2, .int (nI k)), (3, .int x)] [] := by
    intro f
    induction f with
    | zero =>
      intro j N y hj hN
      have hj2 : j = 12 := by omega
      subst hj2
      rw [hN] at hR0
      refine e_iload (j := 0) C dL_spend_6 rfl ?_
      refine e_bipush (v := 12) C dL_spend_8 (by decide) ?_
      refine e_icmp_ge (tgt := 104) C dL_spend_10 (by decide) (fun c_10 => ?_) (fun c_10 => absurd ((nI_leI (a := 12) (b := 12) (by omega) (by omega)).mpr (by omega)) c_10)
      refine e_iload (j := 1) C dL_spend_104 rfl ?_
      exact e_iret C rfl (Nat.le_of_ble_eq_true rfl) (Nat.le_of_ble_eq_true rfl) dL_spend_106 (pO.mk hR0)
    | succ f ih =>
      intro j N y hj hN
      have hps := spL_s M k x j
      rw [hN] at hps
      dsimp only at hps
      refine e_iload (j := 0) C dL_spend_6 rfl ?_
      refine e_bipush (v := 12) C dL_spend_8 (by decide) ?_
      refine e_icmp_ge (tgt := 104) C dL_spend_10 (by decide) (fun c_10 => absurd ((nI_leI (a := 12) (b := j) (by omega) (by omega)).mp c_10) (by omega)) (fun c_10 => ?_)
      refine e_iload (j := 1) C dL_spend_13 rfl ?_
      refine e_if_le (tgt := 104) C dL_spend_15 (by decide) (fun c_15 => ?_) (fun c_15 => ?_)
      · refine e_iload (j := 1) C dL_spend_104 rfl ?_
        exact e_iret C rfl (Nat.le_of_ble_eq_true rfl) (Nat.le_of_ble_eq_true rfl) dL_spend_106 (pO.mk (by have h9 := spL_end M k x (i := j) (by rw [hN]; exact c_15) (12 - j); rw [show j + (12 - j) = 12 by omega, hN] at h9; rw [hR0, h9]))
      · refine e_aload_n (j := 3) C dL_spend_18 rfl rfl ?_
        refine e_bipush (v := 12) C dL_spend_19 (by decide) ?_
        refine e_iload_n (j := 4) C dL_spend_21 rfl rfl ?_
        refine e_imulN 12 k (12 * k) C rfl rfl rfl dL_spend_22 ?_
        refine e_iload (j := 0) C dL_spend_23 rfl ?_
        refine e_iaddN (12 * k) j (12 * k + j) C rfl rfl rfl dL_spend_25 ?_
        refine e_ialdN (12 * k + j) C (cnt_fix (by decide)) (fun _ => rfl) rfl (by omega) (by decide) dL_spend_26 ?_
        refine e_topi (fun x6_27 ex6_27 => ?_)
        refine e_istore (ls2 := [(6, .int x6_27), (5, .int (nI j)), (4, .int y), (0, .ref (ρ 9)), (1, .ref (ρ 10)), (2, .int (nI k)), (3, .int x)]) C hnL dL_spend_27 (by decide) rfl ?_
        refine e_aload_n (j := 4) C dL_spend_29 rfl rfl ?_
        refine e_bipush (v := 12) C dL_spend_30 (by decide) ?_
        refine e_iload_n (j := 5) C dL_spend_32 rfl rfl ?_
        refine e_imulN 12 k (12 * k) C rfl rfl rfl dL_spend_33 ?_
        refine e_iload (j := 1) C dL_spend_34 rfl ?_
        refine e_iaddN (12 * k) j (12 * k + j) C rfl rfl rfl dL_spend_36 ?_
        refine e_iload (j := 0) C dL_spend_37 rfl ?_
        refine e_iload (j := 2) C dL_spend_39 rfl ?_
        suffices hJ_53 : ∀ v_53 : Int32, v_53 = (if x6_27 ≤ y then 0 else (x6_27 - y)) → E Ξ 5 ρ J N 0 0 53 [(6, .int x6_27), (5, .int (nI j)), (4, .int y), (0, .ref (ρ 9)), (1, .ref (ρ 10)), (2, .int (nI k)), (3, .int x)] (.int v_53 :: .int (nI (12 * k + j)) :: .ref (ρ 10) :: []) by
          refine e_icmp_le (tgt := 52) C dL_spend_41 (by decide) (fun c_41 => ?_) (fun c_41 => ?_)
          · refine e_iconst (v := 0) C dL_spend_52 (by decide) ?_
            exact hJ_53 _ (by rw [if_pos c_41])
          · refine e_iload (j := 0) C dL_spend_44 rfl ?_
            refine e_iload (j := 2) C dL_spend_46 rfl ?_
            refine e_isub C dL_spend_48 ?_
            refine e_goto (tgt := 53) C dL_spend_49 (by decide) ?_
            exact hJ_53 _ (by rw [if_neg c_41])
        intro v_53 hv_53
        refine e_iastN (12 * k + j) C (cnt_fix (by decide)) (fun _ _ => rfl) rfl (by omega) (by decide) dL_spend_53 ?_
        refine e_topM (fun M_53 hM_53 => ?_)
        refine e_aload_n (j := 3) C dL_spend_54 rfl rfl ?_
        refine e_bipush (v := 12) C dL_spend_55 (by decide) ?_
        refine e_iload_n (j := 5) C dL_spend_57 rfl rfl ?_
        refine e_imulN 12 k (12 * k) C rfl rfl rfl dL_spend_58 ?_
        refine e_bipush (v := 11) C dL_spend_59 (by decide) ?_
        refine e_iaddN (12 * k) 11 (12 * k + 11) C rfl rfl rfl dL_spend_61 ?_
        refine e_dup2 C dL_spend_62 rfl rfl ?_
        refine e_ialdN (12 * k + 11) C (cnt_fix (by decide)) (fun _ => rfl) rfl (by omega) (by decide) dL_spend_63 ?_
        refine e_iload (j := 0) C dL_spend_64 rfl ?_
        refine e_iload (j := 2) C dL_spend_66 rfl ?_
        suffices hJ_78 : ∀ v_78 : Int32, v_78 = (if x6_27 ≤ y then x6_27 else y) → E Ξ 5 ρ J M_53 0 0 78 [(6, .int x6_27), (5, .int (nI j)), (4, .int y), (0, .ref (ρ 9)), (1, .ref (ρ 10)), (2, .int (nI k)), (3, .int x)] (.int v_78 :: .int (M_53 9 (12 * k + 11)) :: .int (nI (12 * k + 11)) :: .ref (ρ 9) :: []) by
          refine e_icmp_le (tgt := 76) C dL_spend_68 (by decide) (fun c_68 => ?_) (fun c_68 => ?_)
          · refine e_iload (j := 0) C dL_spend_76 rfl ?_
            exact hJ_78 _ (by rw [if_pos c_68])
          · refine e_iload (j := 2) C dL_spend_71 rfl ?_
            refine e_goto (tgt := 78) C dL_spend_73 (by decide) ?_
            exact hJ_78 _ (by rw [if_neg c_68])
        intro v_78 hv_78
        refine e_iadd C dL_spend_78 ?_
        refine e_iastN (12 * k + 11) C (cnt_fix (by decide)) (fun _ _ => rfl) rfl (by omega) (by decide) dL_spend_79 ?_
        refine e_topM (fun M_79 hM_79 => ?_)
        refine e_iload (j := 0) C dL_spend_80 rfl ?_
        refine e_iload (j := 2) C dL_spend_82 rfl ?_
        suffices hJ_96 : ∀ v_96 : Int32, v_96 = (if x6_27 ≤ y then (y - x6_27) else 0) → E Ξ 5 ρ J M_79 0 0 96 [(6, .int x6_27), (5, .int (nI j)), (4, .int y), (0, .ref (ρ 9)), (1, .ref (ρ 10)), (2, .int (nI k)), (3, .int x)] (.int v_96 :: []) by
          refine e_icmp_le (tgt := 91) C dL_spend_84 (by decide) (fun c_84 => ?_) (fun c_84 => ?_)
          · refine e_iload (j := 2) C dL_spend_91 rfl ?_
            refine e_iload (j := 0) C dL_spend_93 rfl ?_
            refine e_isub C dL_spend_95 ?_
            exact hJ_96 _ (by rw [if_pos c_84])
          · refine e_iconst (v := 0) C dL_spend_87 (by decide) ?_
            refine e_goto (tgt := 96) C dL_spend_88 (by decide) ?_
            exact hJ_96 _ (by rw [if_neg c_84])
        intro v_96 hv_96
        refine e_istore (ls2 := [(4, .int v_96), (6, .int x6_27), (5, .int (nI j)), (0, .ref (ρ 9)), (1, .ref (ρ 10)), (2, .int (nI k)), (3, .int x)]) C hnL dL_spend_96 (by decide) rfl ?_
        refine e_iinc (j := 2) (v := (nI (j + 1))) (ls2 := [(5, .int (nI (j + 1))), (4, .int v_96), (6, .int x6_27), (0, .ref (ρ 9)), (1, .ref (ρ 10)), (2, .int (nI k)), (3, .int x)]) C hnL dL_spend_98 rfl (nI_add (j) 1) (by decide) rfl ?_
        refine e_goto (tgt := 6) C dL_spend_101 (by decide) ?_
        subst_vars
        exact e_sub [0, 1, 3, 4, 5, 6] rfl (ih (j + 1) _ _ (by omega) (by rw [hps]; (repeat (first | rw [if_neg c_10] | rw [if_neg c_15])); rfl))
  refine e_iload_n (j := 3) C dL_spend_0 rfl rfl ?_
  refine e_istore (ls2 := [(4, .int x), (0, .ref (ρ 9)), (1, .ref (ρ 10)), (2, .int (nI k)), (3, .int x)]) C hnL dL_spend_1 (by decide) rfl ?_
  refine e_iconst (v := 0) C dL_spend_3 (by decide) ?_
  refine e_istore (ls2 := [(5, .int 0), (4, .int x), (0, .ref (ρ 9)), (1, .ref (ρ 10)), (2, .int (nI k)), (3, .int x)]) C hnL dL_spend_4 (by decide) rfl ?_
  exact e_sub [0, 1, 2, 3, 4, 5] rfl (loop 12 0 M x (by omega) rfl)
def whL (M : Mem) (k : Nat) (c : Int32) : Int32 := if M 12 23 = 1 then 1 else if M 12 22 = 1 then 1 else if M 9 (12 * k) = 0 then 2 else if c - hasF M k - M 9 (12 * k + 2) ≤ 0 then 0 else if M 9 (12 * k + 3) + (c - hasF M k - M 9 (12 * k + 2)) ≤ M 12 17 then 0 else 3
set_option maxRecDepth 100000 in
set_option maxHeartbeats 1000000 in
theorem L_reason {l : Launch} (hl : l.stackTraces = false) {ρ : Nat → Nat} {J : Nat → Int64} {M : Mem} {k : Nat} (hk : k < 5) {x : Int32} : CtO l yL_reason cL_reason 6 (some .int) 1 0 0 5 ρ J M [.ref (ρ 9), .ref (ρ 10), .ref (ρ 12), .int (nI k), .int x] (rI (whL M k x) M) := by
  refine CtO.of hl (by decide +kernel) (Nat.le_of_ble_eq_true rfl) (fun Ξ hnL C => ?_)
  show E Ξ 5 ρ J M 0 0 0 [(0, .ref (ρ 9)), (1, .ref (ρ 10)), (2, .ref (ρ 12)), (3, .int (nI k)), (4, .int x)] []
  refine e_iload (j := 4) C dL_reason_0 rfl ?_
  refine e_aload_n (j := 1) C dL_reason_2 rfl rfl ?_
  refine e_iload_n (j := 3) C dL_reason_3 rfl rfl ?_
  refine e_cS (nA := 2) C (L_has hl hk) rfl mw_276 mw_274 mw_275 mw_2 (by decide +kernel) (by decide) rfl rfl (Nat.le_of_ble_eq_true rfl) dL_reason_4 (Nat.le_of_ble_eq_true rfl) (Nat.le_of_ble_eq_true rfl) ?_
  refine e_isub C dL_reason_7 ?_
  refine e_aload_n (j := 0) C dL_reason_8 rfl rfl ?_
  refine e_bipush (v := 12) C dL_reason_9 (by decide) ?_
  refine e_iload_n (j := 3) C dL_reason_11 rfl rfl ?_
  refine e_imulN 12 k (12 * k) C rfl rfl rfl dL_reason_12 ?_
  refine e_iconst (v := 2) C dL_reason_13 (by decide) ?_
  refine e_iaddN (12 * k) 2 (12 * k + 2) C rfl rfl rfl dL_reason_14 ?_
  refine e_ialdN (12 * k + 2) C (cnt_fix (by decide)) (fun _ => rfl) rfl (by omega) (by decide) dL_reason_15 ?_
  refine e_isub C dL_reason_16 ?_
  refine e_topi (fun x5_17 ex5_17 => ?_)
  refine e_istore (ls2 := [(5, .int x5_17), (0, .ref (ρ 9)), (1, .ref (ρ 10)), (2, .ref (ρ 12)), (3, .int (nI k)), (4, .int x)]) C hnL dL_reason_17 (by decide) rfl ?_
  refine e_aload_n (j := 3) C dL_reason_19 rfl rfl ?_
  refine e_bipush (v := 23) C dL_reason_20 (by decide) ?_
  refine e_ialdN 23 C (cnt_fix (by decide)) (fun _ => rfl) rfl (by decide) (by decide) dL_reason_22 ?_
  refine e_iconst (v := 1) C dL_reason_23 (by decide) ?_
  refine e_icmp_eq (tgt := 35) C dL_reason_24 (by decide) (fun c_24 => ?_) (fun c_24 => ?_)
  · refine e_iconst (v := 1) C dL_reason_35 (by decide) ?_
    exact e_iret C rfl (Nat.le_of_ble_eq_true rfl) (Nat.le_of_ble_eq_true rfl) dL_reason_36 (pO.mk (by subst_vars; unfold whL; (repeat (first | rw [if_pos c_24]))))
  · refine e_aload_n (j := 3) C dL_reason_27 rfl rfl ?_
    refine e_bipush (v := 22) C dL_reason_28 (by decide) ?_
    refine e_ialdN 22 C (cnt_fix (by decide)) (fun _ => rfl) rfl (by decide) (by decide) dL_reason_30 ?_
    refine e_iconst (v := 1) C dL_reason_31 (by decide) ?_
    refine e_icmp_ne (tgt := 37) C dL_reason_32 (by decide) (fun c_32 => ?_) (fun c_32 => ?_)
    · refine e_aload_n (j := 1) C dL_reason_37 rfl rfl ?_
      refine e_bipush (v := 12) C dL_reason_38 (by decide) ?_
      refine e_iload_n (j := 4) C dL_reason_40 rfl rfl ?_
      refine e_imulN 12 k (12 * k) C rfl rfl rfl dL_reason_41 ?_
      refine e_ialdN (12 * k) C (cnt_fix (by decide)) (fun _ => rfl) rfl (by omega) (by decide) dL_reason_42 ?_
      refine e_if_ne (tgt := 50) C dL_reason_43 (by decide) (fun c_43 => ?_) (fun c_43 => ?_)
      · refine e_iload (j := 0) C dL_reason_50 rfl ?_
        refine e_if_le (tgt := 77) C dL_reason_52 (by decide) (fun c_52 => ?_) (fun c_52 => ?_)
        · refine e_iconst (v := 0) C dL_reason_77 (by decide) ?_
          exact e_iret C rfl (Nat.le_of_ble_eq_true rfl) (Nat.le_of_ble_eq_true rfl) dL_reason_78 (pO.mk (by subst_vars; unfold whL; (repeat (first | rw [if_neg c_24] | rw [if_neg c_32] | rw [if_neg c_43] | rw [if_pos c_52]))))
        · refine e_aload_n (j := 1) C dL_reason_55 rfl rfl ?_
          refine e_bipush (v := 12) C dL_reason_56 (by decide) ?_
          refine e_iload_n (j := 4) C dL_reason_58 rfl rfl ?_
          refine e_imulN 12 k (12 * k) C rfl rfl rfl dL_reason_59 ?_
          refine e_iconst (v := 3) C dL_reason_60 (by decide) ?_
          refine e_iaddN (12 * k) 3 (12 * k + 3) C rfl rfl rfl dL_reason_61 ?_
          refine e_ialdN (12 * k + 3) C (cnt_fix (by decide)) (fun _ => rfl) rfl (by omega) (by decide) dL_reason_62 ?_
          refine e_iload (j := 0) C dL_reason_63 rfl ?_
          refine e_iadd C dL_reason_65 ?_
          refine e_aload_n (j := 3) C dL_reason_66 rfl rfl ?_
          refine e_bipush (v := 17) C dL_reason_67 (by decide) ?_
          refine e_ialdN 17 C (cnt_fix (by decide)) (fun _ => rfl) rfl (by decide) (by decide) dL_reason_69 ?_
          refine e_icmp_le (tgt := 77) C dL_reason_70 (by decide) (fun c_70 => ?_) (fun c_70 => ?_)
          · refine e_iconst (v := 0) C dL_reason_77 (by decide) ?_
            exact e_iret C rfl (Nat.le_of_ble_eq_true rfl) (Nat.le_of_ble_eq_true rfl) dL_reason_78 (pO.mk (by subst_vars; unfold whL; (repeat (first | rw [if_neg c_24] | rw [if_neg c_32] | rw [if_neg c_43] | rw [if_neg c_52] | rw [if_pos c_70]))))
          · refine e_iconst (v := 3) C dL_reason_73 (by decide) ?_
            refine e_goto (tgt := 78) C dL_reason_74 (by decide) ?_
            exact e_iret C rfl (Nat.le_of_ble_eq_true rfl) (Nat.le_of_ble_eq_true rfl) dL_reason_78 (pO.mk (by subst_vars; unfold whL; (repeat (first | rw [if_neg c_24] | rw [if_neg c_32] | rw [if_neg c_43] | rw [if_neg c_52] | rw [if_neg c_70]))))
      · refine e_iconst (v := 2) C dL_reason_46 (by decide) ?_
        refine e_goto (tgt := 78) C dL_reason_47 (by decide) ?_
        exact e_iret C rfl (Nat.le_of_ble_eq_true rfl) (Nat.le_of_ble_eq_true rfl) dL_reason_78 (pO.mk (by subst_vars; unfold whL; (repeat (first | rw [if_neg c_24] | rw [if_neg c_32] | rw [if_pos c_43]))))
    · refine e_iconst (v := 1) C dL_reason_35 (by decide) ?_
      exact e_iret C rfl (Nat.le_of_ble_eq_true rfl) (Nat.le_of_ble_eq_true rfl) dL_reason_36 (pO.mk (by subst_vars; unfold whL; (repeat (first | rw [if_neg c_24] | rw [if_pos c_32]))))
/-- the law's heir: from the kin's cell on -/
def heL (M : Mem) : Nat → Int32 → Int32
  | 0, _ => -1
  | f + 1, x => if x < 0 then heL M f (-1) else if M 9 (12 * x.toNatClampNeg) = 1 then x else heL M f (M 9 (12 * x.toNatClampNeg + 8) - 1)
def kinL (M : Mem) : Prop := ∀ q, q < 5 → M 9 (12 * q + 8) - 1 = -1 ∨ ∃ j : Nat, j < 5 ∧ M 9 (12 * q + 8) - 1 = nI j
set_option maxRecDepth 100000 in
set_option maxHeartbeats 1000000 in
theorem L_heir {l : Launch} (hl : l.stackTraces = false) {ρ : Nat → Nat} {J : Nat → Int64} {M : Mem} {k : Nat} (hk : k < 5) (hkin : kinL M) : CtO l yL_heir cL_heir 4 (some .int) 0 0 0 5 ρ J M [.ref (ρ 9), .int (nI k)] (rI (heL M 5 (M 9 (12 * k + 8) - 1)) M) := by
  refine CtO.of hl (by decide +kernel) (Nat.le_of_ble_eq_true rfl) (fun Ξ hnL C => ?_)
  show E Ξ 5 ρ J M 0 0 0 [(0, .ref (ρ 9)), (1, .int (nI k))] []
  obtain ⟨R0, hR0⟩ : ∃ z, z = rI (heL M 5 (M 9 (12 * k + 8) - 1)) M := ⟨_, rfl⟩
  rw [← hR0] at C
  have loop : ∀ (f j : Nat) (x : Int32), j + f = 5 → (x = -1 ∨ ∃ q : Nat, q < 5 ∧ x = nI q) → R0 = rI (heL M f (if x < 0 then -1 else M 9 (12 * x.toNatClampNeg + 8) - 1)) M → E Ξ 5 ρ J M 0 0 4 [(3, .int (nI j)), (2, .int x), (0, .ref (ρ 9)), (1, .int (nI k))] [] := by
    intro f
    induction f with
    | zero =>
      intro j x hj hx hR
      have hj2 : j = 5 := by omega
      subst hj2
      refine e_iload_n (j := 0) C dL_heir_4 rfl rfl ?_
      refine e_iconst (v := 5) C dL_heir_5 (by decide) ?_
      refine e_icmp_ge (tgt := 51) C dL_heir_6 (by decide) (fun c_6 => ?_) (fun c_6 => absurd ((nI_leI (a := 5) (b := 5) (by omega) (by omega)).mpr (by omega)) c_6)
      refine e_iconst (v := (-1)) C dL_heir_51 (by decide) ?_
      exact e_iret C rfl (Nat.le_of_ble_eq_true rfl) (Nat.le_of_ble_eq_true rfl) dL_heir_52 (pO.mk hR)
    | succ f ih =>
      intro j x hj hx hR
      rcases hx with hx | ⟨q, hq, hx⟩
      · subst hx
        refine e_iload_n (j := 0) C dL_heir_4 rfl rfl ?_
        refine e_iconst (v := 5) C dL_heir_5 (by decide) ?_
        refine e_icmp_ge (tgt := 51) C dL_heir_6 (by decide) (fun c_6 => absurd ((nI_leI (a := 5) (b := j) (by omega) (by omega)).mp c_6) (by omega)) (fun c_6 => ?_)
        refine e_iload_n (j := 1) C dL_heir_9 rfl rfl ?_
        refine e_if_ge (tgt := 17) C dL_heir_10 (by decide) (fun c_10 => absurd c_10 (by decide)) (fun c_10 => ?_)
        refine e_iconst (v := (-1)) C dL_heir_13 (by decide) ?_
        refine e_goto (tgt := 28) C dL_heir_14 (by decide) ?_
        refine e_istore_n (ls2 := [(2, .int (-1)), (3, .int (nI j)), (0, .ref (ρ 9)), (1, .int (nI k))]) C hnL dL_heir_28 rfl (by decide) rfl ?_
        refine e_iload_n (j := 0) C dL_heir_29 rfl rfl ?_
        refine e_if_lt (tgt := 45) C dL_heir_30 (by decide) (fun c_30 => ?_) (fun c_30 => absurd (by decide) c_30)
        refine e_iinc (j := 1) (v := (nI (j + 1))) (ls2 := [(3, .int (nI (j + 1))), (2, .int (-1)), (0, .ref (ρ 9)), (1, .int (nI k))]) C hnL dL_heir_45 rfl (nI_add (j) 1) (by decide) rfl ?_
        refine e_goto (tgt := 4) C dL_heir_48 (by decide) ?_
        exact e_sub [0, 1, 2, 3] rfl (ih (j + 1) (-1) (by omega) (Or.inl rfl) hR)
      · subst hx
        have hcl : (nI q).toNatClampNeg = q := nI_clamp (by omega)
        have hnn : ¬ nI q < 0 := nI_pos (by omega)
        rw [if_neg hnn, hcl] at hR
        refine e_iload_n (j := 0) C dL_heir_4 rfl rfl ?_
        refine e_iconst (v := 5) C dL_heir_5 (by decide) ?_
        refine e_icmp_ge (tgt := 51) C dL_heir_6 (by decide) (fun c_6 => absurd ((nI_leI (a := 5) (b := j) (by omega) (by omega)).mp c_6) (by omega)) (fun c_6 => ?_)
        refine e_iload_n (j := 1) C dL_heir_9 rfl rfl ?_
        refine e_if_ge (tgt := 17) C dL_heir_10 (by decide) (fun c_10 => ?_) (fun c_10 => absurd ((nI_leI (a := 0) (b := q) (by omega) (by omega)).mpr (by omega)) c_10)
        refine e_aload_n (j := 2) C dL_heir_17 rfl rfl ?_
        refine e_bipush (v := 12) C dL_heir_18 (by decide) ?_
        refine e_iload_n (j := 1) C dL_heir_20 rfl rfl ?_
        refine e_imulN 12 q (12 * q) C rfl rfl rfl dL_heir_21 ?_
        refine e_bipush (v := 8) C dL_heir_22 (by decide) ?_
        refine e_iaddN (12 * q) 8 (12 * q + 8) C rfl rfl rfl dL_heir_24 ?_
        refine e_ialdN (12 * q + 8) C (cnt_fix (by decide)) (fun _ => rfl) rfl (by omega) (by decide) dL_heir_25 ?_
        refine e_iconst (v := 1) C dL_heir_26 (by decide) ?_
        refine e_isub C dL_heir_27 ?_
        refine e_topi (fun x2_28 ex2_28 => ?_)
        refine e_istore_n (ls2 := [(2, .int x2_28), (3, .int (nI j)), (0, .ref (ρ 9)), (1, .int (nI k))]) C hnL dL_heir_28 rfl (by decide) rfl ?_
        have hy := hkin q hq
        rw [← ex2_28] at hy hR
        rcases hy with hy | ⟨u, hu, hy⟩
        · rw [hy] at hR ⊢
          refine e_iload_n (j := 0) C dL_heir_29 rfl rfl ?_
          refine e_if_lt (tgt := 45) C dL_heir_30 (by decide) (fun c_30 => ?_) (fun c_30 => absurd (by decide) c_30)
          refine e_iinc (j := 1) (v := (nI (j + 1))) (ls2 := [(3, .int (nI (j + 1))), (2, .int (-1)), (0, .ref (ρ 9)), (1, .int (nI k))]) C hnL dL_heir_45 rfl (nI_add (j) 1) (by decide) rfl ?_
          refine e_goto (tgt := 4) C dL_heir_48 (by decide) ?_
          exact e_sub [0, 1, 2, 3] rfl (ih (j + 1) (-1) (by omega) (Or.inl rfl) hR)
        · rw [hy] at hR ⊢
          have hcu : (nI u).toNatClampNeg = u := nI_clamp (by omega)
          have hnu : ¬ nI u < 0 := nI_pos (by omega)
          unfold heL at hR
          rw [if_neg hnu, hcu] at hR
          refine e_iload_n (j := 0) C dL_heir_29 rfl rfl ?_
          refine e_if_lt (tgt := 45) C dL_heir_30 (by decide) (fun c_30 => absurd ((nI_ltI (a := u) (b := 0) (by omega) (by omega)).mp c_30) (by omega)) (fun c_30 => ?_)
          refine e_aload_n (j := 2) C dL_heir_33 rfl rfl ?_
          refine e_bipush (v := 12) C dL_heir_34 (by decide) ?_
          refine e_iload_n (j := 0) C dL_heir_36 rfl rfl ?_
          refine e_imulN 12 u (12 * u) C rfl rfl rfl dL_heir_37 ?_
          refine e_ialdN (12 * u) C (cnt_fix (by decide)) (fun _ => rfl) rfl (by omega) (by decide) dL_heir_38 ?_
          refine e_iconst (v := 1) C dL_heir_39 (by decide) ?_
          refine e_icmp_ne (tgt := 45) C dL_heir_40 (by decide) (fun c_40 => ?_) (fun c_40 => ?_)
          · refine e_iinc (j := 1) (v := (nI (j + 1))) (ls2 := [(3, .int (nI (j + 1))), (2, .int (nI u)), (0, .ref (ρ 9)), (1, .int (nI k))]) C hnL dL_heir_45 rfl (nI_add (j) 1) (by decide) rfl ?_
            refine e_goto (tgt := 4) C dL_heir_48 (by decide) ?_
            rw [if_neg c_40] at hR
            exact e_sub [0, 1, 2, 3] rfl (ih (j + 1) (nI u) (by omega) (Or.inr ⟨u, hu, rfl⟩) (by rw [if_neg hnu, hcu]; exact hR))
          · refine e_iload_n (j := 0) C dL_heir_43 rfl rfl ?_
            exact e_iret C rfl (Nat.le_of_ble_eq_true rfl) (Nat.le_of_ble_eq_true rfl) dL_heir_44 (pO.mk (by rw [if_pos c_40] at hR; exact hR))
  refine e_iload_n (j := 1) C dL_heir_0 rfl rfl ?_
  refine e_istore_n (ls2 := [(2, .int (nI k)), (0, .ref (ρ 9)), (1, .int (nI k))]) C hnL dL_heir_1 rfl (by decide) rfl ?_
  refine e_iconst (v := 0) C dL_heir_2 (by decide) ?_
  refine e_istore_n (ls2 := [(3, .int 0), (2, .int (nI k)), (0, .ref (ρ 9)), (1, .int (nI k))]) C hnL dL_heir_3 rfl (by decide) rfl ?_
  exact e_sub [0, 1, 2, 3] rfl (loop 5 0 (nI k) (by omega) (Or.inr ⟨k, hk, rfl⟩) (by rw [if_neg (nI_pos (by omega)), nI_clamp (by omega)]; exact hR0))
