/-! The law's hewing, housing, buying, changing. -/
set_option maxRecDepth 100000 in
set_option maxHeartbeats 1000000 in
theorem L_isHewn_0 {l : Launch} (hl : l.stackTraces = false) {ρ : Nat → Nat} {J : Nat → Int64} {M : Mem} {z : Nat} (hz : z < 1000000000) {k : Nat} (hk : k < 5) (hk0 : z % 5 = k) {w q : Nat} (hq : (if z / 3 % 2 = 0 then 1000 else 60) = q) (hq2 : q = 1000 ∨ q = 60) (hw : 1 + z / 5 % q = w) (h : M 9 (12 * k) = 0 ∨ M 12 22 = 1 ∨ M 12 23 = 1) : CtO l yL_isHewn cL_isHewn 6 (some .boolean) 10 13 78 5 ρ J M [.ref (ρ 0), .ref (ρ 9), .ref (ρ 12), .int (nI z)] (rI 1 M) := by
  refine CtO.of hl (by decide +kernel) (Nat.le_of_ble_eq_true rfl) (fun Ξ hnL C => ?_)
  show E Ξ 5 ρ J M 0 0 0 [(0, .ref (ρ 0)), (1, .ref (ρ 9)), (2, .ref (ρ 12)), (3, .int (nI z))] []
  by_cases h1 : M 9 (12 * k) = 0
  · refine e_iload_n (j := 3) C dL_isHewn_0 rfl rfl ?_
    refine e_iconst (v := 5) C dL_isHewn_1 (by decide) ?_
    refine e_iremN z 5 k C rfl rfl (by omega) (by omega) (by omega) hk0 dL_isHewn_2 ?_
    refine e_istore (ls2 := [(4, .int (nI k)), (0, .ref (ρ 0)), (1, .ref (ρ 9)), (2, .ref (ρ 12)), (3, .int (nI z))]) C hnL dL_isHewn_3 (by decide) rfl ?_
    refine e_iconst (v := 1) C dL_isHewn_5 (by decide) ?_
    refine e_iload_n (j := 4) C dL_isHewn_6 rfl rfl ?_
    refine e_iconst (v := 5) C dL_isHewn_7 (by decide) ?_
    refine e_idivN z 5 (z / 5) C rfl rfl (by omega) (by omega) (by omega) rfl dL_isHewn_8 ?_
    refine e_iload_n (j := 4) C dL_isHewn_9 rfl rfl ?_
    refine e_iconst (v := 3) C dL_isHewn_10 (by decide) ?_
    refine e_idivN z 3 (z / 3) C rfl rfl (by omega) (by omega) (by omega) rfl dL_isHewn_11 ?_
    refine e_iconst (v := 2) C dL_isHewn_12 (by decide) ?_
    refine e_iremN (z / 3) 2 ((z / 3) % 2) C rfl rfl (by omega) (by omega) (by omega) rfl dL_isHewn_13 ?_
    suffices hJ_25 : ∀ v : Int32, v = nI q → E Ξ 5 ρ J M 0 0 25 [(4, .int (nI k)), (0, .ref (ρ 0)), (1, .ref (ρ 9)), (2, .ref (ρ 12)), (3, .int (nI z))] (.int v :: .int (nI (z / 5)) :: .int 1 :: []) by
      refine e_if_ne (tgt := 23) C dL_isHewn_14 (by decide) (fun c_14 => ?_) (fun c_14 => ?_)
      · have n_14 : ¬ (((z / 3) % 2) = 0) := fun h => c_14 ((nI_eq (a := ((z / 3) % 2)) (b := 0) (by omega) (by omega)).mpr h)
        refine e_bipush (v := 60) C dL_isHewn_23 (by decide) ?_
        exact hJ_25 _ (by rw [← hq]; first | (rw [if_pos n_14]; rfl) | (rw [if_neg n_14]; rfl) | rw [if_pos n_14] | rw [if_neg n_14])
      · have n_14 : ((z / 3) % 2) = 0 := (nI_eq (a := ((z / 3) % 2)) (b := 0) (by omega) (by omega)).mp c_14
        refine e_sipush (v := 1000) C dL_isHewn_17 (by decide) ?_
        refine e_goto (tgt := 25) C dL_isHewn_20 (by decide) ?_
        exact hJ_25 _ (by rw [← hq]; first | (rw [if_pos n_14]; rfl) | (rw [if_neg n_14]; rfl) | rw [if_pos n_14] | rw [if_neg n_14])
    intro v_25 hv_25
    subst hv_25
    refine e_iremV (z / 5) q C rfl rfl (by omega) (by omega) (by omega) dL_isHewn_25 (fun r_25 er_25 hr_25 => ?_)
    refine e_iaddN 1 r_25 w C rfl rfl (by rw [er_25]; exact hw) dL_isHewn_26 ?_
    refine e_istore (ls2 := [(5, .int (nI w)), (4, .int (nI k)), (0, .ref (ρ 0)), (1, .ref (ρ 9)), (2, .ref (ρ 12)), (3, .int (nI z))]) C hnL dL_isHewn_27 (by decide) rfl ?_
    refine e_aload_n (j := 3) C dL_isHewn_29 rfl rfl ?_
    refine e_bipush (v := 12) C dL_isHewn_30 (by decide) ?_
    refine e_iload (j := 1) C dL_isHewn_32 rfl ?_
    refine e_imulN 12 k (12 * k) C rfl rfl rfl dL_isHewn_34 ?_
    refine e_ialdN (12 * k) C (cnt_fix (by decide)) (fun _ => rfl) rfl (by omega) (by decide) dL_isHewn_35 ?_
    refine e_if_eq (tgt := 55) C dL_isHewn_36 (by decide) (fun c_36 => ?_) (fun c_36 => absurd h1 c_36)
    refine e_iconst (v := 1) C dL_isHewn_55 (by decide) ?_
    exact e_zret C rfl rfl (Nat.le_of_ble_eq_true rfl) (Nat.le_of_ble_eq_true rfl) dL_isHewn_56 (pO.mk rfl)
  · by_cases h2 : M 12 22 = 1
    · refine e_iload_n (j := 3) C dL_isHewn_0 rfl rfl ?_
      refine e_iconst (v := 5) C dL_isHewn_1 (by decide) ?_
      refine e_iremN z 5 k C rfl rfl (by omega) (by omega) (by omega) hk0 dL_isHewn_2 ?_
      refine e_istore (ls2 := [(4, .int (nI k)), (0, .ref (ρ 0)), (1, .ref (ρ 9)), (2, .ref (ρ 12)), (3, .int (nI z))]) C hnL dL_isHewn_3 (by decide) rfl ?_
      refine e_iconst (v := 1) C dL_isHewn_5 (by decide) ?_
      refine e_iload_n (j := 4) C dL_isHewn_6 rfl rfl ?_
      refine e_iconst (v := 5) C dL_isHewn_7 (by decide) ?_
      refine e_idivN z 5 (z / 5) C rfl rfl (by omega) (by omega) (by omega) rfl dL_isHewn_8 ?_
      refine e_iload_n (j := 4) C dL_isHewn_9 rfl rfl ?_
      refine e_iconst (v := 3) C dL_isHewn_10 (by decide) ?_
      refine e_idivN z 3 (z / 3) C rfl rfl (by omega) (by omega) (by omega) rfl dL_isHewn_11 ?_
      refine e_iconst (v := 2) C dL_isHewn_12 (by decide) ?_
      refine e_iremN (z / 3) 2 ((z / 3) % 2) C rfl rfl (by omega) (by omega) (by omega) rfl dL_isHewn_13 ?_
      suffices hJ_25 : ∀ v : Int32, v = nI q → E Ξ 5 ρ J M 0 0 25 [(4, .int (nI k)), (0, .ref (ρ 0)), (1, .ref (ρ 9)), (2, .ref (ρ 12)), (3, .int (nI z))] (.int v :: .int (nI (z / 5)) :: .int 1 :: []) by
        refine e_if_ne (tgt := 23) C dL_isHewn_14 (by decide) (fun c_14 => ?_) (fun c_14 => ?_)
        · have n_14 : ¬ (((z / 3) % 2) = 0) := fun h => c_14 ((nI_eq (a := ((z / 3) % 2)) (b := 0) (by omega) (by omega)).mpr h)
          refine e_bipush (v := 60) C dL_isHewn_23 (by decide) ?_
          exact hJ_25 _ (by rw [← hq]; first | (rw [if_pos n_14]; rfl) | (rw [if_neg n_14]; rfl) | rw [if_pos n_14] | rw [if_neg n_14])
        · have n_14 : ((z / 3) % 2) = 0 := (nI_eq (a := ((z / 3) % 2)) (b := 0) (by omega) (by omega)).mp c_14
          refine e_sipush (v := 1000) C dL_isHewn_17 (by decide) ?_
          refine e_goto (tgt := 25) C dL_isHewn_20 (by decide) ?_
          exact hJ_25 _ (by rw [← hq]; first | (rw [if_pos n_14]; rfl) | (rw [if_neg n_14]; rfl) | rw [if_pos n_14] | rw [if_neg n_14])
      intro v_25 hv_25
      subst hv_25
      refine e_iremV (z / 5) q C rfl rfl (by omega) (by omega) (by omega) dL_isHewn_25 (fun r_25 er_25 hr_25 => ?_)
      refine e_iaddN 1 r_25 w C rfl rfl (by rw [er_25]; exact hw) dL_isHewn_26 ?_
      refine e_istore (ls2 := [(5, .int (nI w)), (4, .int (nI k)), (0, .ref (ρ 0)), (1, .ref (ρ 9)), (2, .ref (ρ 12)), (3, .int (nI z))]) C hnL dL_isHewn_27 (by decide) rfl ?_
      refine e_aload_n (j := 3) C dL_isHewn_29 rfl rfl ?_
      refine e_bipush (v := 12) C dL_isHewn_30 (by decide) ?_
      refine e_iload (j := 1) C dL_isHewn_32 rfl ?_
      refine e_imulN 12 k (12 * k) C rfl rfl rfl dL_isHewn_34 ?_
      refine e_ialdN (12 * k) C (cnt_fix (by decide)) (fun _ => rfl) rfl (by omega) (by decide) dL_isHewn_35 ?_
      refine e_if_eq (tgt := 55) C dL_isHewn_36 (by decide) (fun c_36 => absurd c_36 h1) (fun c_36 => ?_)
      refine e_aload_n (j := 4) C dL_isHewn_39 rfl rfl ?_
      refine e_bipush (v := 22) C dL_isHewn_40 (by decide) ?_
      refine e_ialdN 22 C (cnt_fix (by decide)) (fun _ => rfl) rfl (by decide) (by decide) dL_isHewn_42 ?_
      refine e_iconst (v := 1) C dL_isHewn_43 (by decide) ?_
      refine e_icmp_eq (tgt := 55) C dL_isHewn_44 (by decide) (fun c_44 => ?_) (fun c_44 => absurd h2 c_44)
      refine e_iconst (v := 1) C dL_isHewn_55 (by decide) ?_
      exact e_zret C rfl rfl (Nat.le_of_ble_eq_true rfl) (Nat.le_of_ble_eq_true rfl) dL_isHewn_56 (pO.mk rfl)
    · have h3 : M 12 23 = 1 := (h.resolve_left h1).resolve_left h2
      refine e_iload_n (j := 3) C dL_isHewn_0 rfl rfl ?_
      refine e_iconst (v := 5) C dL_isHewn_1 (by decide) ?_
      refine e_iremN z 5 k C rfl rfl (by omega) (by omega) (by omega) hk0 dL_isHewn_2 ?_
      refine e_istore (ls2 := [(4, .int (nI k)), (0, .ref (ρ 0)), (1, .ref (ρ 9)), (2, .ref (ρ 12)), (3, .int (nI z))]) C hnL dL_isHewn_3 (by decide) rfl ?_
      refine e_iconst (v := 1) C dL_isHewn_5 (by decide) ?_
      refine e_iload_n (j := 4) C dL_isHewn_6 rfl rfl ?_
      refine e_iconst (v := 5) C dL_isHewn_7 (by decide) ?_
      refine e_idivN z 5 (z / 5) C rfl rfl (by omega) (by omega) (by omega) rfl dL_isHewn_8 ?_
      refine e_iload_n (j := 4) C dL_isHewn_9 rfl rfl ?_
      refine e_iconst (v := 3) C dL_isHewn_10 (by decide) ?_
      refine e_idivN z 3 (z / 3) C rfl rfl (by omega) (by omega) (by omega) rfl dL_isHewn_11 ?_
      refine e_iconst (v := 2) C dL_isHewn_12 (by decide) ?_
      refine e_iremN (z / 3) 2 ((z / 3) % 2) C rfl rfl (by omega) (by omega) (by omega) rfl dL_isHewn_13 ?_
      suffices hJ_25 : ∀ v : Int32, v = nI q → E Ξ 5 ρ J M 0 0 25 [(4, .int (nI k)), (0, .ref (ρ 0)), (1, .ref (ρ 9)), (2, .ref (ρ 12)), (3, .int (nI z))] (.int v :: .int (nI (z / 5)) :: .int 1 :: []) by
        refine e_if_ne (tgt := 23) C dL_isHewn_14 (by decide) (fun c_14 => ?_) (fun c_14 => ?_)
        · have n_14 : ¬ (((z / 3) % 2) = 0) := fun h => c_14 ((nI_eq (a := ((z / 3) % 2)) (b := 0) (by omega) (by omega)).mpr h)
          refine e_bipush (v := 60) C dL_isHewn_23 (by decide) ?_
          exact hJ_25 _ (by rw [← hq]; first | (rw [if_pos n_14]; rfl) | (rw [if_neg n_14]; rfl) | rw [if_pos n_14] | rw [if_neg n_14])
        · have n_14 : ((z / 3) % 2) = 0 := (nI_eq (a := ((z / 3) % 2)) (b := 0) (by omega) (by omega)).mp c_14
          refine e_sipush (v := 1000) C dL_isHewn_17 (by decide) ?_
          refine e_goto (tgt := 25) C dL_isHewn_20 (by decide) ?_
          exact hJ_25 _ (by rw [← hq]; first | (rw [if_pos n_14]; rfl) | (rw [if_neg n_14]; rfl) | rw [if_pos n_14] | rw [if_neg n_14])
      intro v_25 hv_25
      subst hv_25
      refine e_iremV (z / 5) q C rfl rfl (by omega) (by omega) (by omega) dL_isHewn_25 (fun r_25 er_25 hr_25 => ?_)
      refine e_iaddN 1 r_25 w C rfl rfl (by rw [er_25]; exact hw) dL_isHewn_26 ?_
      refine e_istore (ls2 := [(5, .int (nI w)), (4, .int (nI k)), (0, .ref (ρ 0)), (1, .ref (ρ 9)), (2, .ref (ρ 12)), (3, .int (nI z))]) C hnL dL_isHewn_27 (by decide) rfl ?_
      refine e_aload_n (j := 3) C dL_isHewn_29 rfl rfl ?_
      refine e_bipush (v := 12) C dL_isHewn_30 (by decide) ?_
      refine e_iload (j := 1) C dL_isHewn_32 rfl ?_
      refine e_imulN 12 k (12 * k) C rfl rfl rfl dL_isHewn_34 ?_
      refine e_ialdN (12 * k) C (cnt_fix (by decide)) (fun _ => rfl) rfl (by omega) (by decide) dL_isHewn_35 ?_
      refine e_if_eq (tgt := 55) C dL_isHewn_36 (by decide) (fun c_36 => absurd c_36 h1) (fun c_36 => ?_)
      refine e_aload_n (j := 4) C dL_isHewn_39 rfl rfl ?_
      refine e_bipush (v := 22) C dL_isHewn_40 (by decide) ?_
      refine e_ialdN 22 C (cnt_fix (by decide)) (fun _ => rfl) rfl (by decide) (by decide) dL_isHewn_42 ?_
      refine e_iconst (v := 1) C dL_isHewn_43 (by decide) ?_
      refine e_icmp_eq (tgt := 55) C dL_isHewn_44 (by decide) (fun c_44 => absurd c_44 h2) (fun c_44 => ?_)
      refine e_aload_n (j := 4) C dL_isHewn_47 rfl rfl ?_
      refine e_bipush (v := 23) C dL_isHewn_48 (by decide) ?_
      refine e_ialdN 23 C (cnt_fix (by decide)) (fun _ => rfl) rfl (by decide) (by decide) dL_isHewn_50 ?_
      refine e_iconst (v := 1) C dL_isHewn_51 (by decide) ?_
      refine e_icmp_ne (tgt := 57) C dL_isHewn_52 (by decide) (fun c_52 => absurd h3 c_52) (fun c_52 => ?_)
      refine e_iconst (v := 1) C dL_isHewn_55 (by decide) ?_
      exact e_zret C rfl rfl (Nat.le_of_ble_eq_true rfl) (Nat.le_of_ble_eq_true rfl) dL_isHewn_56 (pO.mk rfl)
def hwL (M : Mem) (k w : Nat) : Mem := up M 9 (12 * k + 1) (M 9 (12 * k + 1) + (if M 12 14 = 1 then nI w else nI w * (100 - M 12 13) / 100))
set_option maxRecDepth 100000 in
set_option maxHeartbeats 1000000 in
theorem L_isHewn {l : Launch} (hl : l.stackTraces = false) {ρ : Nat → Nat} {J : Nat → Int64} {M : Mem} {z : Nat} (hz : z < 1000000000) {k : Nat} (hk : k < 5) (hk0 : z % 5 = k) {w q : Nat} (hq : (if z / 3 % 2 = 0 then 1000 else 60) = q) (hq2 : q = 1000 ∨ q = 60) (hw : 1 + z / 5 % q = w) (h1 : ¬ M 9 (12 * k) = 0) (h2 : ¬ M 12 22 = 1) (h3 : ¬ M 12 23 = 1) {x : Int32} {K : Mem} (hcall : o_hew (hwL M k w) k (nI w) = rI x K) (hx : x = K 9 (12 * k + 1)) : CtO l yL_isHewn cL_isHewn 6 (some .boolean) 10 13 78 5 ρ J M [.ref (ρ 0), .ref (ρ 9), .ref (ρ 12), .int (nI z)] (rI 1 K) := by
  refine CtO.of hl (by decide +kernel) (Nat.le_of_ble_eq_true rfl) (fun Ξ hnL C => ?_)
  show E Ξ 5 ρ J M 0 0 0 [(0, .ref (ρ 0)), (1, .ref (ρ 9)), (2, .ref (ρ 12)), (3, .int (nI z))] []
  refine e_iload_n (j := 3) C dL_isHewn_0 rfl rfl ?_
  refine e_iconst (v := 5) C dL_isHewn_1 (by decide) ?_
  refine e_iremN z 5 k C rfl rfl (by omega) (by omega) (by omega) hk0 dL_isHewn_2 ?_
  refine e_istore (ls2 := [(4, .int (nI k)), (0, .ref (ρ 0)), (1, .ref (ρ 9)), (2, .ref (ρ 12)), (3, .int (nI z))]) C hnL dL_isHewn_3 (by decide) rfl ?_
  refine e_iconst (v := 1) C dL_isHewn_5 (by decide) ?_
  refine e_iload_n (j := 4) C dL_isHewn_6 rfl rfl ?_
  refine e_iconst (v := 5) C dL_isHewn_7 (by decide) ?_
  refine e_idivN z 5 (z / 5) C rfl rfl (by omega) (by omega) (by omega) rfl dL_isHewn_8 ?_
  refine e_iload_n (j := 4) C dL_isHewn_9 rfl rfl ?_
  refine e_iconst (v := 3) C dL_isHewn_10 (by decide) ?_
  refine e_idivN z 3 (z / 3) C rfl rfl (by omega) (by omega) (by omega) rfl dL_isHewn_11 ?_
  refine e_iconst (v := 2) C dL_isHewn_12 (by decide) ?_
  refine e_iremN (z / 3) 2 ((z / 3) % 2) C rfl rfl (by omega) (by omega) (by omega) rfl dL_isHewn_13 ?_
  suffices hJ_25 : ∀ v : Int32, v = nI q → E Ξ 5 ρ J M 0 0 25 [(4, .int (nI k)), (0, .ref (ρ 0)), (1, .ref (ρ 9)), (2, .ref (ρ 12)), (3, .int (nI z))] (.int v :: .int (nI (z / 5)) :: .int 1 :: []) by
    refine e_if_ne (tgt := 23) C dL_isHewn_14 (by decide) (fun c_14 => ?_) (fun c_14 => ?_)
    · have n_14 : ¬ (((z / 3) % 2) = 0) := fun h => c_14 ((nI_eq (a := ((z / 3) % 2)) (b := 0) (by omega) (by omega)).mpr h)
      refine e_bipush (v := 60) C dL_isHewn_23 (by decide) ?_
      exact hJ_25 _ (by rw [← hq]; first | (rw [if_pos n_14]; rfl) | (rw [if_neg n_14]; rfl) | rw [if_pos n_14] | rw [if_neg n_14])
    · have n_14 : ((z / 3) % 2) = 0 := (nI_eq (a := ((z / 3) % 2)) (b := 0) (by omega) (by omega)).mp c_14
      refine e_sipush (v := 1000) C dL_isHewn_17 (by decide) ?_
      refine e_goto (tgt := 25) C dL_isHewn_20 (by decide) ?_
      exact hJ_25 _ (by rw [← hq]; first | (rw [if_pos n_14]; rfl) | (rw [if_neg n_14]; rfl) | rw [if_pos n_14] | rw [if_neg n_14])
  intro v_25 hv_25
  subst hv_25
  refine e_iremV (z / 5) q C rfl rfl (by omega) (by omega) (by omega) dL_isHewn_25 (fun r_25 er_25 hr_25 => ?_)
  refine e_iaddN 1 r_25 w C rfl rfl (by rw [er_25]; exact hw) dL_isHewn_26 ?_
  refine e_istore (ls2 := [(5, .int (nI w)), (4, .int (nI k)), (0, .ref (ρ 0)), (1, .ref (ρ 9)), (2, .ref (ρ 12)), (3, .int (nI z))]) C hnL dL_isHewn_27 (by decide) rfl ?_
  refine e_aload_n (j := 3) C dL_isHewn_29 rfl rfl ?_
  refine e_bipush (v := 12) C dL_isHewn_30 (by decide) ?_
  refine e_iload (j := 1) C dL_isHewn_32 rfl ?_
  refine e_imulN 12 k (12 * k) C rfl rfl rfl dL_isHewn_34 ?_
  refine e_ialdN (12 * k) C (cnt_fix (by decide)) (fun _ => rfl) rfl (by omega) (by decide) dL_isHewn_35 ?_
  refine e_if_eq (tgt := 55) C dL_isHewn_36 (by decide) (fun c_36 => absurd c_36 h1) (fun c_36 => ?_)
  refine e_aload_n (j := 4) C dL_isHewn_39 rfl rfl ?_
  refine e_bipush (v := 22) C dL_isHewn_40 (by decide) ?_
  refine e_ialdN 22 C (cnt_fix (by decide)) (fun _ => rfl) rfl (by decide) (by decide) dL_isHewn_42 ?_
  refine e_iconst (v := 1) C dL_isHewn_43 (by decide) ?_
  refine e_icmp_eq (tgt := 55) C dL_isHewn_44 (by decide) (fun c_44 => absurd c_44 h2) (fun c_44 => ?_)
  refine e_aload_n (j := 4) C dL_isHewn_47 rfl rfl ?_
  refine e_bipush (v := 23) C dL_isHewn_48 (by decide) ?_
  refine e_ialdN 23 C (cnt_fix (by decide)) (fun _ => rfl) rfl (by decide) (by decide) dL_isHewn_50 ?_
  refine e_iconst (v := 1) C dL_isHewn_51 (by decide) ?_
  refine e_icmp_ne (tgt := 57) C dL_isHewn_52 (by decide) (fun c_52 => ?_) (fun c_52 => absurd c_52 h3)
  refine e_aload_n (j := 3) C dL_isHewn_57 rfl rfl ?_
  refine e_bipush (v := 12) C dL_isHewn_58 (by decide) ?_
  refine e_iload (j := 1) C dL_isHewn_60 rfl ?_
  refine e_imulN 12 k (12 * k) C rfl rfl rfl dL_isHewn_62 ?_
  refine e_iconst (v := 1) C dL_isHewn_63 (by decide) ?_
  refine e_iaddN (12 * k) 1 (12 * k + 1) C rfl rfl rfl dL_isHewn_64 ?_
  refine e_dup2 C dL_isHewn_65 rfl rfl ?_
  refine e_ialdN (12 * k + 1) C (cnt_fix (by decide)) (fun _ => rfl) rfl (by omega) (by decide) dL_isHewn_66 ?_
  refine e_aload_n (j := 4) C dL_isHewn_67 rfl rfl ?_
  refine e_bipush (v := 14) C dL_isHewn_68 (by decide) ?_
  refine e_ialdN 14 C (cnt_fix (by decide)) (fun _ => rfl) rfl (by decide) (by decide) dL_isHewn_70 ?_
  refine e_iconst (v := 1) C dL_isHewn_71 (by decide) ?_
  suffices hJ_93 : ∀ v_93 : Int32, v_93 = (if (M 12 14) = 1 then (nI w) else (((nI w) * (100 - (M 12 13))) / 100)) → E Ξ 5 ρ J M 0 0 93 [(5, .int (nI w)), (4, .int (nI k)), (0, .ref (ρ 0)), (1, .ref (ρ 9)), (2, .ref (ρ 12)), (3, .int (nI z))] (.int v_93 :: .int (M 9 (12 * k + 1)) :: .int (nI (12 * k + 1)) :: .ref (ρ 9) :: []) by
    refine e_icmp_ne (tgt := 80) C dL_isHewn_72 (by decide) (fun c_72 => ?_) (fun c_72 => ?_)
    · refine e_iload (j := 0) C dL_isHewn_80 rfl ?_
      refine e_bipush (v := 100) C dL_isHewn_82 (by decide) ?_
      refine e_aload_n (j := 4) C dL_isHewn_84 rfl rfl ?_
      refine e_bipush (v := 13) C dL_isHewn_85 (by decide) ?_
      refine e_ialdN 13 C (cnt_fix (by decide)) (fun _ => rfl) rfl (by decide) (by decide) dL_isHewn_87 ?_
      refine e_isub C dL_isHewn_88 ?_
      refine e_imul C dL_isHewn_89 ?_
      refine e_bipush (v := 100) C dL_isHewn_90 (by decide) ?_
      refine e_idiv C dL_isHewn_92 (by decide) ?_
      exact hJ_93 _ (by rw [if_neg c_72])
    · refine e_iload (j := 0) C dL_isHewn_75 rfl ?_
      refine e_goto (tgt := 93) C dL_isHewn_77 (by decide) ?_
      exact hJ_93 _ (by rw [if_pos c_72])
  intro v_93 hv_93
  refine e_iadd C dL_isHewn_93 ?_
  refine e_iastN (12 * k + 1) C (cnt_fix (by decide)) (fun _ _ => rfl) rfl (by omega) (by decide) dL_isHewn_94 ?_
  refine e_topM (fun M_94 hM_94 => ?_)
  have hF : M_94 = hwL M k w := by subst_vars; rfl
  rw [hF]
  refine e_aload_n (j := 2) C dL_isHewn_95 rfl rfl ?_
  refine e_iload (j := 1) C dL_isHewn_96 rfl ?_
  refine e_iload (j := 0) C dL_isHewn_98 rfl ?_
  refine e_cV (i := 0) (nA := 2) (Cn := RX2) C (c_X2_hew hl hk (by omega)) hcall (cnt_fix (by decide)) (fun _ => rfl) rfl rfl mw_142 mw_139 mw_140 mw_141 mw_12 (by decide +kernel) (by decide) rfl rfl (Nat.le_of_ble_eq_true rfl) dL_isHewn_100 (Nat.le_of_ble_eq_true rfl) (Nat.le_of_ble_eq_true rfl) ?_
  refine e_aload_n (j := 3) C dL_isHewn_103 rfl rfl ?_
  refine e_bipush (v := 12) C dL_isHewn_104 (by decide) ?_
  refine e_iload (j := 1) C dL_isHewn_106 rfl ?_
  refine e_imulN 12 k (12 * k) C rfl rfl rfl dL_isHewn_108 ?_
  refine e_iconst (v := 1) C dL_isHewn_109 (by decide) ?_
  refine e_iaddN (12 * k) 1 (12 * k + 1) C rfl rfl rfl dL_isHewn_110 ?_
  refine e_ialdN (12 * k + 1) C (cnt_fix (by decide)) (fun _ => rfl) rfl (by omega) (by decide) dL_isHewn_111 ?_
  refine e_icmp_ne (tgt := 119) C dL_isHewn_112 (by decide) (fun c_112 => absurd hx c_112) (fun c_112 => ?_)
  refine e_iconst (v := 1) C dL_isHewn_115 (by decide) ?_
  refine e_goto (tgt := 120) C dL_isHewn_116 (by decide) ?_
  exact e_zret C rfl rfl (Nat.le_of_ble_eq_true rfl) (Nat.le_of_ble_eq_true rfl) dL_isHewn_120 (pO.mk rfl)
set_option maxRecDepth 100000 in
set_option maxHeartbeats 1000000 in
theorem L_isHoused {l : Launch} (hl : l.stackTraces = false) {ρ : Nat → Nat} {J : Nat → Int64} {M : Mem} {k : Nat} (hk : k < 5) (h1 : M 9 (12 * k) = 1) (h2 : M 9 (12 * k + 5) = 0) (h3 : M 9 (12 * k + 4) = 0) {K : Mem} (hcall : o_house (up M 9 (12 * k + 5) 1) k = rV K) (hx : o_ab K k 6 = K 9 (12 * k + 5)) : CtO l yL_isHoused cL_isHoused 3 (some .boolean) 10 13 78 5 ρ J M [.ref (ρ 0), .ref (ρ 9), .int (nI k)] (rI 1 K) := by
  refine CtO.of hl (by decide +kernel) (Nat.le_of_ble_eq_true rfl) (fun Ξ hnL C => ?_)
  show E Ξ 5 ρ J M 0 0 0 [(0, .ref (ρ 0)), (1, .ref (ρ 9)), (2, .int (nI k))] []
  refine e_aload_n (j := 1) C dL_isHoused_0 rfl rfl ?_
  refine e_bipush (v := 12) C dL_isHoused_1 (by decide) ?_
  refine e_iload_n (j := 2) C dL_isHoused_3 rfl rfl ?_
  refine e_imulN 12 k (12 * k) C rfl rfl rfl dL_isHoused_4 ?_
  refine e_ialdN (12 * k) C (cnt_fix (by decide)) (fun _ => rfl) rfl (by omega) (by decide) dL_isHoused_5 ?_
  refine e_iconst (v := 1) C dL_isHoused_6 (by decide) ?_
  refine e_icmp_ne (tgt := 46) C dL_isHoused_7 (by decide) (fun c_7 => absurd h1 c_7) (fun c_7 => ?_)
  refine e_aload_n (j := 1) C dL_isHoused_10 rfl rfl ?_
  refine e_bipush (v := 12) C dL_isHoused_11 (by decide) ?_
  refine e_iload_n (j := 2) C dL_isHoused_13 rfl rfl ?_
  refine e_imulN 12 k (12 * k) C rfl rfl rfl dL_isHoused_14 ?_
  refine e_iconst (v := 5) C dL_isHoused_15 (by decide) ?_
  refine e_iaddN (12 * k) 5 (12 * k + 5) C rfl rfl rfl dL_isHoused_16 ?_
  refine e_ialdN (12 * k + 5) C (cnt_fix (by decide)) (fun _ => rfl) rfl (by omega) (by decide) dL_isHoused_17 ?_
  refine e_if_ne (tgt := 46) C dL_isHoused_18 (by decide) (fun c_18 => absurd h2 c_18) (fun c_18 => ?_)
  refine e_aload_n (j := 1) C dL_isHoused_21 rfl rfl ?_
  refine e_bipush (v := 12) C dL_isHoused_22 (by decide) ?_
  refine e_iload_n (j := 2) C dL_isHoused_24 rfl rfl ?_
  refine e_imulN 12 k (12 * k) C rfl rfl rfl dL_isHoused_25 ?_
  refine e_iconst (v := 4) C dL_isHoused_26 (by decide) ?_
  refine e_iaddN (12 * k) 4 (12 * k + 4) C rfl rfl rfl dL_isHoused_27 ?_
  refine e_ialdN (12 * k + 4) C (cnt_fix (by decide)) (fun _ => rfl) rfl (by omega) (by decide) dL_isHoused_28 ?_
  refine e_if_ne (tgt := 46) C dL_isHoused_29 (by decide) (fun c_29 => absurd h3 c_29) (fun c_29 => ?_)
  refine e_aload_n (j := 1) C dL_isHoused_32 rfl rfl ?_
  refine e_bipush (v := 12) C dL_isHoused_33 (by decide) ?_
  refine e_iload_n (j := 2) C dL_isHoused_35 rfl rfl ?_
  refine e_imulN 12 k (12 * k) C rfl rfl rfl dL_isHoused_36 ?_
  refine e_iconst (v := 5) C dL_isHoused_37 (by decide) ?_
  refine e_iaddN (12 * k) 5 (12 * k + 5) C rfl rfl rfl dL_isHoused_38 ?_
  refine e_iconst (v := 1) C dL_isHoused_39 (by decide) ?_
  refine e_iastN (12 * k + 5) C (cnt_fix (by decide)) (fun _ _ => rfl) rfl (by omega) (by decide) dL_isHoused_40 ?_
  refine e_topM (fun M_40 hM_40 => ?_)
  rw [hM_40]
  refine e_aload_n (j := 0) C dL_isHoused_41 rfl rfl ?_
  refine e_iload_n (j := 2) C dL_isHoused_42 rfl rfl ?_
  refine e_cV (i := 0) (nA := 1) (Cn := RX2) C (c_X2_house hl hk (by omega)) hcall (cnt_fix (by decide)) (fun _ => rfl) rfl rfl mw_404 mw_401 mw_402 mw_403 mw_12 (by decide +kernel) (by decide) rfl rfl (Nat.le_of_ble_eq_true rfl) dL_isHoused_43 (Nat.le_of_ble_eq_true rfl) (Nat.le_of_ble_eq_true rfl) ?_
  refine e_aload_n (j := 0) C dL_isHoused_46 rfl rfl ?_
  refine e_iload_n (j := 2) C dL_isHoused_47 rfl rfl ?_
  refine e_bipush (v := 6) C dL_isHoused_48 (by decide) ?_
  refine e_cV (i := 0) (nA := 2) (Cn := RX2) C (c_X2_about_6 hl hk (by omega)) rfl (cnt_fix (by decide)) (fun _ => rfl) rfl rfl mw_408 mw_405 mw_406 mw_407 mw_12 (by decide +kernel) (by decide) rfl rfl (Nat.le_of_ble_eq_true rfl) dL_isHoused_50 (Nat.le_of_ble_eq_true rfl) (Nat.le_of_ble_eq_true rfl) ?_
  refine e_aload_n (j := 1) C dL_isHoused_53 rfl rfl ?_
  refine e_bipush (v := 12) C dL_isHoused_54 (by decide) ?_
  refine e_iload_n (j := 2) C dL_isHoused_56 rfl rfl ?_
  refine e_imulN 12 k (12 * k) C rfl rfl rfl dL_isHoused_57 ?_
  refine e_iconst (v := 5) C dL_isHoused_58 (by decide) ?_
  refine e_iaddN (12 * k) 5 (12 * k + 5) C rfl rfl rfl dL_isHoused_59 ?_
  refine e_ialdN (12 * k + 5) C (cnt_fix (by decide)) (fun _ => rfl) rfl (by omega) (by decide) dL_isHoused_60 ?_
  refine e_icmp_ne (tgt := 68) C dL_isHoused_61 (by decide) (fun c_61 => absurd hx c_61) (fun c_61 => ?_)
  refine e_iconst (v := 1) C dL_isHoused_64 (by decide) ?_
  refine e_goto (tgt := 69) C dL_isHoused_65 (by decide) ?_
  exact e_zret C rfl rfl (Nat.le_of_ble_eq_true rfl) (Nat.le_of_ble_eq_true rfl) dL_isHoused_69 (pO.mk rfl)
set_option maxRecDepth 100000 in
set_option maxHeartbeats 1000000 in
theorem L_isHoused_0 {l : Launch} (hl : l.stackTraces = false) {ρ : Nat → Nat} {J : Nat → Int64} {M : Mem} {k : Nat} (hk : k < 5) (h : ¬ (M 9 (12 * k) = 1 ∧ M 9 (12 * k + 5) = 0 ∧ M 9 (12 * k + 4) = 0)) (hx : o_ab M k 6 = M 9 (12 * k + 5)) : CtO l yL_isHoused cL_isHoused 3 (some .boolean) 10 13 78 5 ρ J M [.ref (ρ 0), .ref (ρ 9), .int (nI k)] (rI 1 M) := by
  refine CtO.of hl (by decide +kernel) (Nat.le_of_ble_eq_true rfl) (fun Ξ hnL C => ?_)
  show E Ξ 5 ρ J M 0 0 0 [(0, .ref (ρ 0)), (1, .ref (ρ 9)), (2, .int (nI k))] []
  by_cases h1 : M 9 (12 * k) = 1
  · by_cases h2 : M 9 (12 * k + 5) = 0
    · have h3 : ¬ M 9 (12 * k + 4) = 0 := fun q => h ⟨h1, h2, q⟩
      refine e_aload_n (j := 1) C dL_isHoused_0 rfl rfl ?_
      refine e_bipush (v := 12) C dL_isHoused_1 (by decide) ?_
      refine e_iload_n (j := 2) C dL_isHoused_3 rfl rfl ?_
      refine e_imulN 12 k (12 * k) C rfl rfl rfl dL_isHoused_4 ?_
      refine e_ialdN (12 * k) C (cnt_fix (by decide)) (fun _ => rfl) rfl (by omega) (by decide) dL_isHoused_5 ?_
      refine e_iconst (v := 1) C dL_isHoused_6 (by decide) ?_
      refine e_icmp_ne (tgt := 46) C dL_isHoused_7 (by decide) (fun c_7 => absurd h1 c_7) (fun c_7 => ?_)
      refine e_aload_n (j := 1) C dL_isHoused_10 rfl rfl ?_
      refine e_bipush (v := 12) C dL_isHoused_11 (by decide) ?_
      refine e_iload_n (j := 2) C dL_isHoused_13 rfl rfl ?_
      refine e_imulN 12 k (12 * k) C rfl rfl rfl dL_isHoused_14 ?_
      refine e_iconst (v := 5) C dL_isHoused_15 (by decide) ?_
      refine e_iaddN (12 * k) 5 (12 * k + 5) C rfl rfl rfl dL_isHoused_16 ?_
      refine e_ialdN (12 * k + 5) C (cnt_fix (by decide)) (fun _ => rfl) rfl (by omega) (by decide) dL_isHoused_17 ?_
      refine e_if_ne (tgt := 46) C dL_isHoused_18 (by decide) (fun c_18 => absurd h2 c_18) (fun c_18 => ?_)
      refine e_aload_n (j := 1) C dL_isHoused_21 rfl rfl ?_
      refine e_bipush (v := 12) C dL_isHoused_22 (by decide) ?_
      refine e_iload_n (j := 2) C dL_isHoused_24 rfl rfl ?_
      refine e_imulN 12 k (12 * k) C rfl rfl rfl dL_isHoused_25 ?_
      refine e_iconst (v := 4) C dL_isHoused_26 (by decide) ?_
      refine e_iaddN (12 * k) 4 (12 * k + 4) C rfl rfl rfl dL_isHoused_27 ?_
      refine e_ialdN (12 * k + 4) C (cnt_fix (by decide)) (fun _ => rfl) rfl (by omega) (by decide) dL_isHoused_28 ?_
      refine e_if_ne (tgt := 46) C dL_isHoused_29 (by decide) (fun c_29 => ?_) (fun c_29 => absurd c_29 h3)
      refine e_aload_n (j := 0) C dL_isHoused_46 rfl rfl ?_
      refine e_iload_n (j := 2) C dL_isHoused_47 rfl rfl ?_
      refine e_bipush (v := 6) C dL_isHoused_48 (by decide) ?_
      refine e_cV (i := 0) (nA := 2) (Cn := RX2) C (c_X2_about_6 hl hk (by omega)) rfl (cnt_fix (by decide)) (fun _ => rfl) rfl rfl mw_408 mw_405 mw_406 mw_407 mw_12 (by decide +kernel) (by decide) rfl rfl (Nat.le_of_ble_eq_true rfl) dL_isHoused_50 (Nat.le_of_ble_eq_true rfl) (Nat.le_of_ble_eq_true rfl) ?_
      refine e_aload_n (j := 1) C dL_isHoused_53 rfl rfl ?_
      refine e_bipush (v := 12) C dL_isHoused_54 (by decide) ?_
      refine e_iload_n (j := 2) C dL_isHoused_56 rfl rfl ?_
      refine e_imulN 12 k (12 * k) C rfl rfl rfl dL_isHoused_57 ?_
      refine e_iconst (v := 5) C dL_isHoused_58 (by decide) ?_
      refine e_iaddN (12 * k) 5 (12 * k + 5) C rfl rfl rfl dL_isHoused_59 ?_
      refine e_ialdN (12 * k + 5) C (cnt_fix (by decide)) (fun _ => rfl) rfl (by omega) (by decide) dL_isHoused_60 ?_
      refine e_icmp_ne (tgt := 68) C dL_isHoused_61 (by decide) (fun c_61 => absurd hx c_61) (fun c_61 => ?_)
      refine e_iconst (v := 1) C dL_isHoused_64 (by decide) ?_
      refine e_goto (tgt := 69) C dL_isHoused_65 (by decide) ?_
      exact e_zret C rfl rfl (Nat.le_of_ble_eq_true rfl) (Nat.le_of_ble_eq_true rfl) dL_isHoused_69 (pO.mk rfl)
    · refine e_aload_n (j := 1) C dL_isHoused_0 rfl rfl ?_
      refine e_bipush (v := 12) C dL_isHoused_1 (by decide) ?_
      refine e_iload_n (j := 2) C dL_isHoused_3 rfl rfl ?_
      refine e_imulN 12 k (12 * k) C rfl rfl rfl dL_isHoused_4 ?_
      refine e_ialdN (12 * k) C (cnt_fix (by decide)) (fun _ => rfl) rfl (by omega) (by decide) dL_isHoused_5 ?_
      refine e_iconst (v := 1) C dL_isHoused_6 (by decide) ?_
      refine e_icmp_ne (tgt := 46) C dL_isHoused_7 (by decide) (fun c_7 => absurd h1 c_7) (fun c_7 => ?_)
      refine e_aload_n (j := 1) C dL_isHoused_10 rfl rfl ?_
      refine e_bipush (v := 12) C dL_isHoused_11 (by decide) ?_
      refine e_iload_n (j := 2) C dL_isHoused_13 rfl rfl ?_
      refine e_imulN 12 k (12 * k) C rfl rfl rfl dL_isHoused_14 ?_
      refine e_iconst (v := 5) C dL_isHoused_15 (by decide) ?_
      refine e_iaddN (12 * k) 5 (12 * k + 5) C rfl rfl rfl dL_isHoused_16 ?_
      refine e_ialdN (12 * k + 5) C (cnt_fix (by decide)) (fun _ => rfl) rfl (by omega) (by decide) dL_isHoused_17 ?_
      refine e_if_ne (tgt := 46) C dL_isHoused_18 (by decide) (fun c_18 => ?_) (fun c_18 => absurd c_18 h2)
      refine e_aload_n (j := 0) C dL_isHoused_46 rfl rfl ?_
      refine e_iload_n (j := 2) C dL_isHoused_47 rfl rfl ?_
      refine e_bipush (v := 6) C dL_isHoused_48 (by decide) ?_
      refine e_cV (i := 0) (nA := 2) (Cn := RX2) C (c_X2_about_6 hl hk (by omega)) rfl (cnt_fix (by decide)) (fun _ => rfl) rfl rfl mw_408 mw_405 mw_406 mw_407 mw_12 (by decide +kernel) (by decide) rfl rfl (Nat.le_of_ble_eq_true rfl) dL_isHoused_50 (Nat.le_of_ble_eq_true rfl) (Nat.le_of_ble_eq_true rfl) ?_
      refine e_aload_n (j := 1) C dL_isHoused_53 rfl rfl ?_
      refine e_bipush (v := 12) C dL_isHoused_54 (by decide) ?_
      refine e_iload_n (j := 2) C dL_isHoused_56 rfl rfl ?_
      refine e_imulN 12 k (12 * k) C rfl rfl rfl dL_isHoused_57 ?_
      refine e_iconst (v := 5) C dL_isHoused_58 (by decide) ?_
      refine e_iaddN (12 * k) 5 (12 * k + 5) C rfl rfl rfl dL_isHoused_59 ?_
      refine e_ialdN (12 * k + 5) C (cnt_fix (by decide)) (fun _ => rfl) rfl (by omega) (by decide) dL_isHoused_60 ?_
      refine e_icmp_ne (tgt := 68) C dL_isHoused_61 (by decide) (fun c_61 => absurd hx c_61) (fun c_61 => ?_)
      refine e_iconst (v := 1) C dL_isHoused_64 (by decide) ?_
      refine e_goto (tgt := 69) C dL_isHoused_65 (by decide) ?_
      exact e_zret C rfl rfl (Nat.le_of_ble_eq_true rfl) (Nat.le_of_ble_eq_true rfl) dL_isHoused_69 (pO.mk rfl)
  · refine e_aload_n (j := 1) C dL_isHoused_0 rfl rfl ?_
    refine e_bipush (v := 12) C dL_isHoused_1 (by decide) ?_
    refine e_iload_n (j := 2) C dL_isHoused_3 rfl rfl ?_
    refine e_imulN 12 k (12 * k) C rfl rfl rfl dL_isHoused_4 ?_
    refine e_ialdN (12 * k) C (cnt_fix (by decide)) (fun _ => rfl) rfl (by omega) (by decide) dL_isHoused_5 ?_
    refine e_iconst (v := 1) C dL_isHoused_6 (by decide) ?_
    refine e_icmp_ne (tgt := 46) C dL_isHoused_7 (by decide) (fun c_7 => ?_) (fun c_7 => absurd c_7 h1)
    refine e_aload_n (j := 0) C dL_isHoused_46 rfl rfl ?_
    refine e_iload_n (j := 2) C dL_isHoused_47 rfl rfl ?_
    refine e_bipush (v := 6) C dL_isHoused_48 (by decide) ?_
    refine e_cV (i := 0) (nA := 2) (Cn := RX2) C (c_X2_about_6 hl hk (by omega)) rfl (cnt_fix (by decide)) (fun _ => rfl) rfl rfl mw_408 mw_405 mw_406 mw_407 mw_12 (by decide +kernel) (by decide) rfl rfl (Nat.le_of_ble_eq_true rfl) dL_isHoused_50 (Nat.le_of_ble_eq_true rfl) (Nat.le_of_ble_eq_true rfl) ?_
    refine e_aload_n (j := 1) C dL_isHoused_53 rfl rfl ?_
    refine e_bipush (v := 12) C dL_isHoused_54 (by decide) ?_
    refine e_iload_n (j := 2) C dL_isHoused_56 rfl rfl ?_
    refine e_imulN 12 k (12 * k) C rfl rfl rfl dL_isHoused_57 ?_
    refine e_iconst (v := 5) C dL_isHoused_58 (by decide) ?_
    refine e_iaddN (12 * k) 5 (12 * k + 5) C rfl rfl rfl dL_isHoused_59 ?_
    refine e_ialdN (12 * k + 5) C (cnt_fix (by decide)) (fun _ => rfl) rfl (by omega) (by decide) dL_isHoused_60 ?_
    refine e_icmp_ne (tgt := 68) C dL_isHoused_61 (by decide) (fun c_61 => absurd hx c_61) (fun c_61 => ?_)
    refine e_iconst (v := 1) C dL_isHoused_64 (by decide) ?_
    refine e_goto (tgt := 69) C dL_isHoused_65 (by decide) ?_
    exact e_zret C rfl rfl (Nat.le_of_ble_eq_true rfl) (Nat.le_of_ble_eq_true rfl) dL_isHoused_69 (pO.mk rfl)
set_option maxRecDepth 100000 in
set_option maxHeartbeats 1000000 in
theorem L_isOver_0 {l : Launch} (hl : l.stackTraces = false) {ρ : Nat → Nat} {J : Nat → Int64} {M : Mem} {z : Nat} (hz : z < 1000000000) {k : Nat} (hk : k < 5) (hk0 : z % 5 = k) {g w q : Nat} (hg : g < 4) (hg0 : z / 5 % 4 = g) (hq : (if z / 7 % 3 = 0 then 50 else 5) = q) (hq2 : q = 50 ∨ q = 5) (hw : 1 + z / 20 % q = w) (ho : z / 1000 % 4 = 0) (h : M 9 (12 * k) = 0 ∨ M 9 (12 * k + 2) < nI w * M 12 (9 + g)) : CtO l yL_isBought cL_isBought 15 (some .boolean) 10 13 78 5 ρ J M [.ref (ρ 0), .ref (ρ 9), .ref (ρ 10), .ref (ρ 11), .ref (ρ 12), .int (nI z)] (rI 1 M) := by
  refine CtO.of hl (by decide +kernel) (Nat.le_of_ble_eq_true rfl) (fun Ξ hnL C => ?_)
  show E Ξ 5 ρ J M 0 0 0 [(0, .ref (ρ 0)), (1, .ref (ρ 9)), (2, .ref (ρ 10)), (3, .ref (ρ 11)), (4, .ref (ρ 12)), (5, .int (nI z))] []
  by_cases h1 : M 9 (12 * k) = 0
  · refine e_iload (j := 5) C dL_isBought_0 rfl ?_
    refine e_iconst (v := 5) C dL_isBought_2 (by decide) ?_
    refine e_iremN z 5 k C rfl rfl (by omega) (by omega) (by omega) hk0 dL_isBought_3 ?_
    refine e_istore (ls2 := [(6, .int (nI k)), (0, .ref (ρ 0)), (1, .ref (ρ 9)), (2, .ref (ρ 10)), (3, .ref (ρ 11)), (4, .ref (ρ 12)), (5, .int (nI z))]) C hnL dL_isBought_4 (by decide) rfl ?_
    refine e_iload (j := 6) C dL_isBought_6 rfl ?_
    refine e_iconst (v := 5) C dL_isBought_8 (by decide) ?_
    refine e_idivN z 5 (z / 5) C rfl rfl (by omega) (by omega) (by omega) rfl dL_isBought_9 ?_
    refine e_iconst (v := 4) C dL_isBought_10 (by decide) ?_
    refine e_iremN (z / 5) 4 g C rfl rfl (by omega) (by omega) (by omega) hg0 dL_isBought_11 ?_
    refine e_istore (ls2 := [(7, .int (nI g)), (6, .int (nI k)), (0, .ref (ρ 0)), (1, .ref (ρ 9)), (2, .ref (ρ 10)), (3, .ref (ρ 11)), (4, .ref (ρ 12)), (5, .int (nI z))]) C hnL dL_isBought_12 (by decide) rfl ?_
    refine e_iconst (v := 1) C dL_isBought_14 (by decide) ?_
    refine e_iload (j := 7) C dL_isBought_15 rfl ?_
    refine e_bipush (v := 20) C dL_isBought_17 (by decide) ?_
    refine e_idivN z 20 (z / 20) C rfl rfl (by omega) (by omega) (by omega) rfl dL_isBought_19 ?_
    refine e_iload (j := 7) C dL_isBought_20 rfl ?_
    refine e_bipush (v := 7) C dL_isBought_22 (by decide) ?_
    refine e_idivN z 7 (z / 7) C rfl rfl (by omega) (by omega) (by omega) rfl dL_isBought_24 ?_
    refine e_iconst (v := 3) C dL_isBought_25 (by decide) ?_
    refine e_iremN (z / 7) 3 ((z / 7) % 3) C rfl rfl (by omega) (by omega) (by omega) rfl dL_isBought_26 ?_
    suffices hJ_36 : ∀ v : Int32, v = nI q → E Ξ 5 ρ J M 0 0 36 [(7, .int (nI g)), (6, .int (nI k)), (0, .ref (ρ 0)), (1, .ref (ρ 9)), (2, .ref (ρ 10)), (3, .ref (ρ 11)), (4, .ref (ρ 12)), (5, .int (nI z))] (.int v :: .int (nI (z / 20)) :: .int 1 :: []) by
      refine e_if_ne (tgt := 35) C dL_isBought_27 (by decide) (fun c_27 => ?_) (fun c_27 => ?_)
      · have n_27 : ¬ (((z / 7) % 3) = 0) := fun h => c_27 ((nI_eq (a := ((z / 7) % 3)) (b := 0) (by omega) (by omega)).mpr h)
        refine e_iconst (v := 5) C dL_isBought_35 (by decide) ?_
        exact hJ_36 _ (by rw [← hq]; first | (rw [if_pos n_27]; rfl) | (rw [if_neg n_27]; rfl) | rw [if_pos n_27] | rw [if_neg n_27])
      · have n_27 : ((z / 7) % 3) = 0 := (nI_eq (a := ((z / 7) % 3)) (b := 0) (by omega) (by omega)).mp c_27
        refine e_bipush (v := 50) C dL_isBought_30 (by decide) ?_
        refine e_goto (tgt := 36) C dL_isBought_32 (by decide) ?_
        exact hJ_36 _ (by rw [← hq]; first | (rw [if_pos n_27]; rfl) | (rw [if_neg n_27]; rfl) | rw [if_pos n_27] | rw [if_neg n_27])
    intro v_36 hv_36
    subst hv_36
    refine e_iremV (z / 20) q C rfl rfl (by omega) (by omega) (by omega) dL_isBought_36 (fun r_36 er_36 hr_36 => ?_)
    refine e_iaddN 1 r_36 w C rfl rfl (by rw [er_36]; exact hw) dL_isBought_37 ?_
    refine e_istore (ls2 := [(8, .int (nI w)), (7, .int (nI g)), (6, .int (nI k)), (0, .ref (ρ 0)), (1, .ref (ρ 9)), (2, .ref (ρ 10)), (3, .ref (ρ 11)), (4, .ref (ρ 12)), (5, .int (nI z))]) C hnL dL_isBought_38 (by decide) rfl ?_
    refine e_bipush (v := 12) C dL_isBought_40 (by decide) ?_
    refine e_iload (j := 2) C dL_isBought_42 rfl ?_
    refine e_imulN 12 k (12 * k) C rfl rfl rfl dL_isBought_44 ?_
    refine e_istore (ls2 := [(9, .int (nI (12 * k))), (8, .int (nI w)), (7, .int (nI g)), (6, .int (nI k)), (0, .ref (ρ 0)), (1, .ref (ρ 9)), (2, .ref (ρ 10)), (3, .ref (ρ 11)), (4, .ref (ρ 12)), (5, .int (nI z))]) C hnL dL_isBought_45 (by decide) rfl ?_
    refine e_iload (j := 9) C dL_isBought_47 rfl ?_
    refine e_sipush (v := 1000) C dL_isBought_49 (by decide) ?_
    refine e_idivN z 1000 (z / 1000) C rfl rfl (by omega) (by omega) (by omega) rfl dL_isBought_52 ?_
    refine e_iconst (v := 4) C dL_isBought_53 (by decide) ?_
    refine e_iremN (z / 1000) 4 ((z / 1000) % 4) C rfl rfl (by omega) (by omega) (by omega) rfl dL_isBought_54 ?_
    refine e_if_ne (tgt := 141) C dL_isBought_55 (by decide) (fun c_55 => absurd ((nI_eq (a := ((z / 1000) % 4)) (b := 0) (by omega) (by omega)).mpr (by omega)) c_55) (fun c_55 => ?_)
    refine e_iload (j := 1) C dL_isBought_58 rfl ?_
    refine e_aload (j := 8) C dL_isBought_60 rfl ?_
    refine e_bipush (v := 9) C dL_isBought_62 (by decide) ?_
    refine e_iload (j := 2) C dL_isBought_64 rfl ?_
    refine e_iaddN 9 g (9 + g) C rfl rfl rfl dL_isBought_66 ?_
    refine e_ialdN (9 + g) C (cnt_fix (by decide)) (fun _ => rfl) rfl (by omega) (by decide) dL_isBought_67 ?_
    refine e_imul C dL_isBought_68 ?_
    refine e_topi (fun x10_69 ex10_69 => ?_)
    refine e_istore (ls2 := [(10, .int x10_69), (9, .int (nI (12 * k))), (8, .int (nI w)), (7, .int (nI g)), (6, .int (nI k)), (0, .ref (ρ 0)), (1, .ref (ρ 9)), (2, .ref (ρ 10)), (3, .ref (ρ 11)), (4, .ref (ρ 12)), (5, .int (nI z))]) C hnL dL_isBought_69 (by decide) rfl ?_
    refine e_aload_n (j := 6) C dL_isBought_71 rfl rfl ?_
    refine e_iload (j := 1) C dL_isBought_72 rfl ?_
    refine e_ialdN (12 * k) C (cnt_fix (by decide)) (fun _ => rfl) rfl (by omega) (by decide) dL_isBought_74 ?_
    refine e_if_eq (tgt := 89) C dL_isBought_75 (by decide) (fun c_75 => ?_) (fun c_75 => absurd h1 c_75)
    refine e_iconst (v := 1) C dL_isBought_89 (by decide) ?_
    exact e_zret C rfl rfl (Nat.le_of_ble_eq_true rfl) (Nat.le_of_ble_eq_true rfl) dL_isBought_90 (pO.mk rfl)
  · have h2 := h.resolve_left h1
    refine e_iload (j := 5) C dL_isBought_0 rfl ?_
    refine e_iconst (v := 5) C dL_isBought_2 (by decide) ?_
    refine e_iremN z 5 k C rfl rfl (by omega) (by omega) (by omega) hk0 dL_isBought_3 ?_
    refine e_istore (ls2 := [(6, .int (nI k)), (0, .ref (ρ 0)), (1, .ref (ρ 9)), (2, .ref (ρ 10)), (3, .ref (ρ 11)), (4, .ref (ρ 12)), (5, .int (nI z))]) C hnL dL_isBought_4 (by decide) rfl ?_
    refine e_iload (j := 6) C dL_isBought_6 rfl ?_
    refine e_iconst (v := 5) C dL_isBought_8 (by decide) ?_
    refine e_idivN z 5 (z / 5) C rfl rfl (by omega) (by omega) (by omega) rfl dL_isBought_9 ?_
    refine e_iconst (v := 4) C dL_isBought_10 (by decide) ?_
    refine e_iremN (z / 5) 4 g C rfl rfl (by omega) (by omega) (by omega) hg0 dL_isBought_11 ?_
    refine e_istore (ls2 := [(7, .int (nI g)), (6, .int (nI k)), (0, .ref (ρ 0)), (1, .ref (ρ 9)), (2, .ref (ρ 10)), (3, .ref (ρ 11)), (4, .ref (ρ 12)), (5, .int (nI z))]) C hnL dL_isBought_12 (by decide) rfl ?_
    refine e_iconst (v := 1) C dL_isBought_14 (by decide) ?_
    refine e_iload (j := 7) C dL_isBought_15 rfl ?_
    refine e_bipush (v := 20) C dL_isBought_17 (by decide) ?_
    refine e_idivN z 20 (z / 20) C rfl rfl (by omega) (by omega) (by omega) rfl dL_isBought_19 ?_
    refine e_iload (j := 7) C dL_isBought_20 rfl ?_
    refine e_bipush (v := 7) C dL_isBought_22 (by decide) ?_
    refine e_idivN z 7 (z / 7) C rfl rfl (by omega) (by omega) (by omega) rfl dL_isBought_24 ?_
    refine e_iconst (v := 3) C dL_isBought_25 (by decide) ?_
    refine e_iremN (z / 7) 3 ((z / 7) % 3) C rfl rfl (by omega) (by omega) (by omega) rfl dL_isBought_26 ?_
    suffices hJ_36 : ∀ v : Int32, v = nI q → E Ξ 5 ρ J M 0 0 36 [(7, .int (nI g)), (6, .int (nI k)), (0, .ref (ρ 0)), (1, .ref (ρ 9)), (2, .ref (ρ 10)), (3, .ref (ρ 11)), (4, .ref (ρ 12)), (5, .int (nI z))] (.int v :: .int (nI (z / 20)) :: .int 1 :: []) by
      refine e_if_ne (tgt := 35) C dL_isBought_27 (by decide) (fun c_27 => ?_) (fun c_27 => ?_)
      · have n_27 : ¬ (((z / 7) % 3) = 0) := fun h => c_27 ((nI_eq (a := ((z / 7) % 3)) (b := 0) (by omega) (by omega)).mpr h)
        refine e_iconst (v := 5) C dL_isBought_35 (by decide) ?_
        exact hJ_36 _ (by rw [← hq]; first | (rw [if_pos n_27]; rfl) | (rw [if_neg n_27]; rfl) | rw [if_pos n_27] | rw [if_neg n_27])
      · have n_27 : ((z / 7) % 3) = 0 := (nI_eq (a := ((z / 7) % 3)) (b := 0) (by omega) (by omega)).mp c_27
        refine e_bipush (v := 50) C dL_isBought_30 (by decide) ?_
        refine e_goto (tgt := 36) C dL_isBought_32 (by decide) ?_
        exact hJ_36 _ (by rw [← hq]; first | (rw [if_pos n_27]; rfl) | (rw [if_neg n_27]; rfl) | rw [if_pos n_27] | rw [if_neg n_27])
    intro v_36 hv_36
    subst hv_36
    refine e_iremV (z / 20) q C rfl rfl (by omega) (by omega) (by omega) dL_isBought_36 (fun r_36 er_36 hr_36 => ?_)
    refine e_iaddN 1 r_36 w C rfl rfl (by rw [er_36]; exact hw) dL_isBought_37 ?_
    refine e_istore (ls2 := [(8, .int (nI w)), (7, .int (nI g)), (6, .int (nI k)), (0, .ref (ρ 0)), (1, .ref (ρ 9)), (2, .ref (ρ 10)), (3, .ref (ρ 11)), (4, .ref (ρ 12)), (5, .int (nI z))]) C hnL dL_isBought_38 (by decide) rfl ?_
    refine e_bipush (v := 12) C dL_isBought_40 (by decide) ?_
    refine e_iload (j := 2) C dL_isBought_42 rfl ?_
    refine e_imulN 12 k (12 * k) C rfl rfl rfl dL_isBought_44 ?_
    refine e_istore (ls2 := [(9, .int (nI (12 * k))), (8, .int (nI w)), (7, .int (nI g)), (6, .int (nI k)), (0, .ref (ρ 0)), (1, .ref (ρ 9)), (2, .ref (ρ 10)), (3, .ref (ρ 11)), (4, .ref (ρ 12)), (5, .int (nI z))]) C hnL dL_isBought_45 (by decide) rfl ?_
    refine e_iload (j := 9) C dL_isBought_47 rfl ?_
    refine e_sipush (v := 1000) C dL_isBought_49 (by decide) ?_
    refine e_idivN z 1000 (z / 1000) C rfl rfl (by omega) (by omega) (by omega) rfl dL_isBought_52 ?_
    refine e_iconst (v := 4) C dL_isBought_53 (by decide) ?_
    refine e_iremN (z / 1000) 4 ((z / 1000) % 4) C rfl rfl (by omega) (by omega) (by omega) rfl dL_isBought_54 ?_
    refine e_if_ne (tgt := 141) C dL_isBought_55 (by decide) (fun c_55 => absurd ((nI_eq (a := ((z / 1000) % 4)) (b := 0) (by omega) (by omega)).mpr (by omega)) c_55) (fun c_55 => ?_)
    refine e_iload (j := 1) C dL_isBought_58 rfl ?_
    refine e_aload (j := 8) C dL_isBought_60 rfl ?_
    refine e_bipush (v := 9) C dL_isBought_62 (by decide) ?_
    refine e_iload (j := 2) C dL_isBought_64 rfl ?_
    refine e_iaddN 9 g (9 + g) C rfl rfl rfl dL_isBought_66 ?_
    refine e_ialdN (9 + g) C (cnt_fix (by decide)) (fun _ => rfl) rfl (by omega) (by decide) dL_isBought_67 ?_
    refine e_imul C dL_isBought_68 ?_
    refine e_topi (fun x10_69 ex10_69 => ?_)
    refine e_istore (ls2 := [(10, .int x10_69), (9, .int (nI (12 * k))), (8, .int (nI w)), (7, .int (nI g)), (6, .int (nI k)), (0, .ref (ρ 0)), (1, .ref (ρ 9)), (2, .ref (ρ 10)), (3, .ref (ρ 11)), (4, .ref (ρ 12)), (5, .int (nI z))]) C hnL dL_isBought_69 (by decide) rfl ?_
    refine e_aload_n (j := 6) C dL_isBought_71 rfl rfl ?_
    refine e_iload (j := 1) C dL_isBought_72 rfl ?_
    refine e_ialdN (12 * k) C (cnt_fix (by decide)) (fun _ => rfl) rfl (by omega) (by decide) dL_isBought_74 ?_
    refine e_if_eq (tgt := 89) C dL_isBought_75 (by decide) (fun c_75 => absurd c_75 h1) (fun c_75 => ?_)
    refine e_aload_n (j := 6) C dL_isBought_78 rfl rfl ?_
    refine e_iload (j := 1) C dL_isBought_79 rfl ?_
    refine e_iconst (v := 2) C dL_isBought_81 (by decide) ?_
    refine e_iaddN (12 * k) 2 (12 * k + 2) C rfl rfl rfl dL_isBought_82 ?_
    refine e_ialdN (12 * k + 2) C (cnt_fix (by decide)) (fun _ => rfl) rfl (by omega) (by decide) dL_isBought_83 ?_
    refine e_iload (j := 0) C dL_isBought_84 rfl ?_
    refine e_icmp_ge (tgt := 91) C dL_isBought_86 (by decide) (fun c_86 => absurd c_86 (Int32.not_le.mpr (by rw [ex10_69]; exact h2))) (fun c_86 => ?_)
    refine e_iconst (v := 1) C dL_isBought_89 (by decide) ?_
    exact e_zret C rfl rfl (Nat.le_of_ble_eq_true rfl) (Nat.le_of_ble_eq_true rfl) dL_isBought_90 (pO.mk rfl)
def ovA (M : Mem) (k g w : Nat) : Mem := up M 9 (12 * k + 2) (M 9 (12 * k + 2) - nI w * M 12 (9 + g))
def ovL (M : Mem) (k g w : Nat) : Mem := up (ovA M k g w) 11 (4 * k + g) (ovA M k g w 11 (4 * k + g) + nI w)
set_option maxRecDepth 100000 in
set_option maxHeartbeats 1000000 in
theorem L_isOver {l : Launch} (hl : l.stackTraces = false) {ρ : Nat → Nat} {J : Nat → Int64} {M : Mem} {z : Nat} (hz : z < 1000000000) {k : Nat} (hk : k < 5) (hk0 : z % 5 = k) {g w q : Nat} (hg : g < 4) (hg0 : z / 5 % 4 = g) (hq : (if z / 7 % 3 = 0 then 50 else 5) = q) (hq2 : q = 50 ∨ q = 5) (hw : 1 + z / 20 % q = w) (ho : z / 1000 % 4 = 0) (h1 : ¬ M 9 (12 * k) = 0) (h2 : nI w * M 12 (9 + g) ≤ M 9 (12 * k + 2)) {x : Int32} {K : Mem} (hcall : o_over (ovL M k g w) k g (nI w) = rI x K) (hx : x = K 9 (12 * k + 2)) : CtO l yL_isBought cL_isBought 15 (some .boolean) 10 13 78 5 ρ J M [.ref (ρ 0), .ref (ρ 9), .ref (ρ 10), .ref (ρ 11), .ref (ρ 12), .int (nI z)] (rI 1 K) := by
  refine CtO.of hl (by decide +kernel) (Nat.le_of_ble_eq_true rfl) (fun Ξ hnL C => ?_)
  show E Ξ 5 ρ J M 0 0 0 [(0, .ref (ρ 0)), (1, .ref (ρ 9)), (2, .ref (ρ 10)), (3, .ref (ρ 11)), (4, .ref (ρ 12)), (5, .int (nI z))] []
  refine e_iload (j := 5) C dL_isBought_0 rfl ?_
  refine e_iconst (v := 5) C dL_isBought_2 (by decide) ?_
  refine e_iremN z 5 k C rfl rfl (by omega) (by omega) (by omega) hk0 dL_isBought_3 ?_
  refine e_istore (ls2 := [(6, .int (nI k)), (0, .ref (ρ 0)), (1, .ref (ρ 9)), (2, .ref (ρ 10)), (3, .ref (ρ 11)), (4, .ref (ρ 12)), (5, .int (nI z))]) C hnL dL_isBought_4 (by decide) rfl ?_
  refine e_iload (j := 6) C dL_isBought_6 rfl ?_
  refine e_iconst (v := 5) C dL_isBought_8 (by decide) ?_
  refine e_idivN z 5 (z / 5) C rfl rfl (by omega) (by omega) (by omega) rfl dL_isBought_9 ?_
  refine e_iconst (v := 4) C dL_isBought_10 (by decide) ?_
  refine e_iremN (z / 5) 4 g C rfl rfl (by omega) (by omega) (by omega) hg0 dL_isBought_11 ?_
  refine e_istore (ls2 := [(7, .int (nI g)), (6, .int (nI k)), (0, .ref (ρ 0)), (1, .ref (ρ 9)), (2, .ref (ρ 10)), (3, .ref (ρ 11)), (4, .ref (ρ 12)), (5, .int (nI z))]) C hnL dL_isBought_12 (by decide) rfl ?_
  refine e_iconst (v := 1) C dL_isBought_14 (by decide) ?_
  refine e_iload (j := 7) C dL_isBought_15 rfl ?_
  refine e_bipush (v := 20) C dL_isBought_17 (by decide) ?_
  refine e_idivN z 20 (z / 20) C rfl rfl (by omega) (by omega) (by omega) rfl dL_isBought_19 ?_
  refine e_iload (j := 7) C dL_isBought_20 rfl ?_
  refine e_bipush (v := 7) C dL_isBought_22 (by decide) ?_
  refine e_idivN z 7 (z / 7) C rfl rfl (by omega) (by omega) (by omega) rfl dL_isBought_24 ?_
  refine e_iconst (v := 3) C dL_isBought_25 (by decide) ?_
  refine e_iremN (z / 7) 3 ((z / 7) % 3) C rfl rfl (by omega) (by omega) (by omega) rfl dL_isBought_26 ?_
  suffices hJ_36 : ∀ v : Int32, v = nI q → E Ξ 5 ρ J M 0 0 36 [(7, .int (nI g)), (6, .int (nI k)), (0, .ref (ρ 0)), (1, .ref (ρ 9)), (2, .ref (ρ 10)), (3, .ref (ρ 11)), (4, .ref (ρ 12)), (5, .int (nI z))] (.int v :: .int (nI (z / 20)) :: .int 1 :: []) by
    refine e_if_ne (tgt := 35) C dL_isBought_27 (by decide) (fun c_27 => ?_) (fun c_27 => ?_)
    · have n_27 : ¬ (((z / 7) % 3) = 0) := fun h => c_27 ((nI_eq (a := ((z / 7) % 3)) (b := 0) (by omega) (by omega)).mpr h)
      refine e_iconst (v := 5) C dL_isBought_35 (by decide) ?_
      exact hJ_36 _ (by rw [← hq]; first | (rw [if_pos n_27]; rfl) | (rw [if_neg n_27]; rfl) | rw [if_pos n_27] | rw [if_neg n_27])
    · have n_27 : ((z / 7) % 3) = 0 := (nI_eq (a := ((z / 7) % 3)) (b := 0) (by omega) (by omega)).mp c_27
      refine e_bipush (v := 50) C dL_isBought_30 (by decide) ?_
      refine e_goto (tgt := 36) C dL_isBought_32 (by decide) ?_
      exact hJ_36 _ (by rw [← hq]; first | (rw [if_pos n_27]; rfl) | (rw [if_neg n_27]; rfl) | rw [if_pos n_27] | rw [if_neg n_27])
  intro v_36 hv_36
  subst hv_36
  refine e_iremV (z / 20) q C rfl rfl (by omega) (by omega) (by omega) dL_isBought_36 (fun r_36 er_36 hr_36 => ?_)
  refine e_iaddN 1 r_36 w C rfl rfl (by rw [er_36]; exact hw) dL_isBought_37 ?_
  refine e_istore (ls2 := [(8, .int (nI w)), (7, .int (nI g)), (6, .int (nI k)), (0, .ref (ρ 0)), (1, .ref (ρ 9)), (2, .ref (ρ 10)), (3, .ref (ρ 11)), (4, .ref (ρ 12)), (5, .int (nI z))]) C hnL dL_isBought_38 (by decide) rfl ?_
  refine e_bipush (v := 12) C dL_isBought_40 (by decide) ?_
  refine e_iload (j := 2) C dL_isBought_42 rfl ?_
  refine e_imulN 12 k (12 * k) C rfl rfl rfl dL_isBought_44 ?_
  refine e_istore (ls2 := [(9, .int (nI (12 * k))), (8, .int (nI w)), (7, .int (nI g)), (6, .int (nI k)), (0, .ref (ρ 0)), (1, .ref (ρ 9)), (2, .ref (ρ 10)), (3, .ref (ρ 11)), (4, .ref (ρ 12)), (5, .int (nI z))]) C hnL dL_isBought_45 (by decide) rfl ?_
  refine e_iload (j := 9) C dL_isBought_47 rfl ?_
  refine e_sipush (v := 1000) C dL_isBought_49 (by decide) ?_
  refine e_idivN z 1000 (z / 1000) C rfl rfl (by omega) (by omega) (by omega) rfl dL_isBought_52 ?_
  refine e_iconst (v := 4) C dL_isBought_53 (by decide) ?_
  refine e_iremN (z / 1000) 4 ((z / 1000) % 4) C rfl rfl (by omega) (by omega) (by omega) rfl dL_isBought_54 ?_
  refine e_if_ne (tgt := 141) C dL_isBought_55 (by decide) (fun c_55 => absurd ((nI_eq (a := ((z / 1000) % 4)) (b := 0) (by omega) (by omega)).mpr (by omega)) c_55) (fun c_55 => ?_)
  refine e_iload (j := 1) C dL_isBought_58 rfl ?_
  refine e_aload (j := 8) C dL_isBought_60 rfl ?_
  refine e_bipush (v := 9) C dL_isBought_62 (by decide) ?_
  refine e_iload (j := 2) C dL_isBought_64 rfl ?_
  refine e_iaddN 9 g (9 + g) C rfl rfl rfl dL_isBought_66 ?_
  refine e_ialdN (9 + g) C (cnt_fix (by decide)) (fun _ => rfl) rfl (by omega) (by decide) dL_isBought_67 ?_
  refine e_imul C dL_isBought_68 ?_
  refine e_topi (fun x10_69 ex10_69 => ?_)
  refine e_istore (ls2 := [(10, .int x10_69), (9, .int (nI (12 * k))), (8, .int (nI w)), (7, .int (nI g)), (6, .int (nI k)), (0, .ref (ρ 0)), (1, .ref (ρ 9)), (2, .ref (ρ 10)), (3, .ref (ρ 11)), (4, .ref (ρ 12)), (5, .int (nI z))]) C hnL dL_isBought_69 (by decide) rfl ?_
  refine e_aload_n (j := 6) C dL_isBought_71 rfl rfl ?_
  refine e_iload (j := 1) C dL_isBought_72 rfl ?_
  refine e_ialdN (12 * k) C (cnt_fix (by decide)) (fun _ => rfl) rfl (by omega) (by decide) dL_isBought_74 ?_
  refine e_if_eq (tgt := 89) C dL_isBought_75 (by decide) (fun c_75 => absurd c_75 h1) (fun c_75 => ?_)
  refine e_aload_n (j := 6) C dL_isBought_78 rfl rfl ?_
  refine e_iload (j := 1) C dL_isBought_79 rfl ?_
  refine e_iconst (v := 2) C dL_isBought_81 (by decide) ?_
  refine e_iaddN (12 * k) 2 (12 * k + 2) C rfl rfl rfl dL_isBought_82 ?_
  refine e_ialdN (12 * k + 2) C (cnt_fix (by decide)) (fun _ => rfl) rfl (by omega) (by decide) dL_isBought_83 ?_
  refine e_iload (j := 0) C dL_isBought_84 rfl ?_
  refine e_icmp_ge (tgt := 91) C dL_isBought_86 (by decide) (fun c_86 => ?_) (fun c_86 => absurd (by rw [ex10_69]; exact h2) c_86)
  refine e_aload_n (j := 6) C dL_isBought_91 rfl rfl ?_
  refine e_iload (j := 1) C dL_isBought_92 rfl ?_
  refine e_iconst (v := 2) C dL_isBought_94 (by decide) ?_
  refine e_iaddN (12 * k) 2 (12 * k + 2) C rfl rfl rfl dL_isBought_95 ?_
  refine e_dup2 C dL_isBought_96 rfl rfl ?_
  refine e_ialdN (12 * k + 2) C (cnt_fix (by decide)) (fun _ => rfl) rfl (by omega) (by decide) dL_isBought_97 ?_
  refine e_iload (j := 0) C dL_isBought_98 rfl ?_
  refine e_isub C dL_isBought_100 ?_
  refine e_iastN (12 * k + 2) C (cnt_fix (by decide)) (fun _ _ => rfl) rfl (by omega) (by decide) dL_isBought_101 ?_
  refine e_topM (fun M_101 hM_101 => ?_)
  refine e_aload_n (j := 8) C dL_isBought_102 rfl rfl ?_
  refine e_iconst (v := 4) C dL_isBought_103 (by decide) ?_
  refine e_iload (j := 4) C dL_isBought_104 rfl ?_
  refine e_imulN 4 k (4 * k) C rfl rfl rfl dL_isBought_106 ?_
  refine e_iload (j := 3) C dL_isBought_107 rfl ?_
  refine e_iaddN (4 * k) g (4 * k + g) C rfl rfl rfl dL_isBought_109 ?_
  refine e_dup2 C dL_isBought_110 rfl rfl ?_
  refine e_ialdN (4 * k + g) C (cnt_fix (by decide)) (fun _ => rfl) rfl (by omega) (by decide) dL_isBought_111 ?_
  refine e_iload (j := 2) C dL_isBought_112 rfl ?_
  refine e_iadd C dL_isBought_114 ?_
  refine e_iastN (4 * k + g) C (cnt_fix (by decide)) (fun _ _ => rfl) rfl (by omega) (by decide) dL_isBought_115 ?_
  refine e_topM (fun M_115 hM_115 => ?_)
  have hF : M_115 = ovL M k g w := by subst_vars; rfl
  rw [hF]
  refine e_aload_n (j := 5) C dL_isBought_116 rfl rfl ?_
  refine e_iload (j := 4) C dL_isBought_117 rfl ?_
  refine e_iload (j := 3) C dL_isBought_119 rfl ?_
  refine e_iload (j := 2) C dL_isBought_121 rfl ?_
  refine e_cV (i := 0) (nA := 3) (Cn := RX2) C (c_X2_over hl hk (by omega) hg) hcall (cnt_fix (by decide)) (fun _ => rfl) rfl rfl mw_263 mw_260 mw_261 mw_262 mw_12 (by decide +kernel) (by decide) rfl rfl (Nat.le_of_ble_eq_true rfl) dL_isBought_123 (Nat.le_of_ble_eq_true rfl) (Nat.le_of_ble_eq_true rfl) ?_
  refine e_aload_n (j := 6) C dL_isBought_126 rfl rfl ?_
  refine e_iload (j := 1) C dL_isBought_127 rfl ?_
  refine e_iconst (v := 2) C dL_isBought_129 (by decide) ?_
  refine e_iaddN (12 * k) 2 (12 * k + 2) C rfl rfl rfl dL_isBought_130 ?_
  refine e_ialdN (12 * k + 2) C (cnt_fix (by decide)) (fun _ => rfl) rfl (by omega) (by decide) dL_isBought_131 ?_
  refine e_icmp_ne (tgt := 139) C dL_isBought_132 (by decide) (fun c_132 => absurd hx c_132) (fun c_132 => ?_)
  refine e_iconst (v := 1) C dL_isBought_135 (by decide) ?_
  refine e_goto (tgt := 140) C dL_isBought_136 (by decide) ?_
  exact e_zret C rfl rfl (Nat.le_of_ble_eq_true rfl) (Nat.le_of_ble_eq_true rfl) dL_isBought_140 (pO.mk rfl)
set_option maxRecDepth 100000 in
set_option maxHeartbeats 1000000 in
theorem L_isBought_0 {l : Launch} (hl : l.stackTraces = false) {ρ : Nat → Nat} {J : Nat → Int64} {M : Mem} {z : Nat} (hz : z < 1000000000) {k : Nat} (hk : k < 5) (hk0 : z % 5 = k) {g w q : Nat} (hg : g < 4) (hg0 : z / 5 % 4 = g) (hq : (if z / 7 % 3 = 0 then 50 else 5) = q) (hq2 : q = 50 ∨ q = 5) (hw : 1 + z / 20 % q = w) (ho : ¬ z / 1000 % 4 = 0) (h1 : ¬ whL M k (nI w * raL M k g) ≤ 0) (hcall : o_why M k g (nI w) = rI (whL M k (nI w * raL M k g)) M) : CtO l yL_isBought cL_isBought 15 (some .boolean) 10 13 78 5 ρ J M [.ref (ρ 0), .ref (ρ 9), .ref (ρ 10), .ref (ρ 11), .ref (ρ 12), .int (nI z)] (rI 1 M) := by
  refine CtO.of hl (by decide +kernel) (Nat.le_of_ble_eq_true rfl) (fun Ξ hnL C => ?_)
  show E Ξ 5 ρ J M 0 0 0 [(0, .ref (ρ 0)), (1, .ref (ρ 9)), (2, .ref (ρ 10)), (3, .ref (ρ 11)), (4, .ref (ρ 12)), (5, .int (nI z))] []
  refine e_iload (j := 5) C dL_isBought_0 rfl ?_
  refine e_iconst (v := 5) C dL_isBought_2 (by decide) ?_
  refine e_iremN z 5 k C rfl rfl (by omega) (by omega) (by omega) hk0 dL_isBought_3 ?_
  refine e_istore (ls2 := [(6, .int (nI k)), (0, .ref (ρ 0)), (1, .ref (ρ 9)), (2, .ref (ρ 10)), (3, .ref (ρ 11)), (4, .ref (ρ 12)), (5, .int (nI z))]) C hnL dL_isBought_4 (by decide) rfl ?_
  refine e_iload (j := 6) C dL_isBought_6 rfl ?_
  refine e_iconst (v := 5) C dL_isBought_8 (by decide) ?_
  refine e_idivN z 5 (z / 5) C rfl rfl (by omega) (by omega) (by omega) rfl dL_isBought_9 ?_
  refine e_iconst (v := 4) C dL_isBought_10 (by decide) ?_
  refine e_iremN (z / 5) 4 g C rfl rfl (by omega) (by omega) (by omega) hg0 dL_isBought_11 ?_
  refine e_istore (ls2 := [(7, .int (nI g)), (6, .int (nI k)), (0, .ref (ρ 0)), (1, .ref (ρ 9)), (2, .ref (ρ 10)), (3, .ref (ρ 11)), (4, .ref (ρ 12)), (5, .int (nI z))]) C hnL dL_isBought_12 (by decide) rfl ?_
  refine e_iconst (v := 1) C dL_isBought_14 (by decide) ?_
  refine e_iload (j := 7) C dL_isBought_15 rfl ?_
  refine e_bipush (v := 20) C dL_isBought_17 (by decide) ?_
  refine e_idivN z 20 (z / 20) C rfl rfl (by omega) (by omega) (by omega) rfl dL_isBought_19 ?_
  refine e_iload (j := 7) C dL_isBought_20 rfl ?_
  refine e_bipush (v := 7) C dL_isBought_22 (by decide) ?_
  refine e_idivN z 7 (z / 7) C rfl rfl (by omega) (by omega) (by omega) rfl dL_isBought_24 ?_
  refine e_iconst (v := 3) C dL_isBought_25 (by decide) ?_
  refine e_iremN (z / 7) 3 ((z / 7) % 3) C rfl rfl (by omega) (by omega) (by omega) rfl dL_isBought_26 ?_
  suffices hJ_36 : ∀ v : Int32, v = nI q → E Ξ 5 ρ J M 0 0 36 [(7, .int (nI g)), (6, .int (nI k)), (0, .ref (ρ 0)), (1, .ref (ρ 9)), (2, .ref (ρ 10)), (3, .ref (ρ 11)), (4, .ref (ρ 12)), (5, .int (nI z))] (.int v :: .int (nI (z / 20)) :: .int 1 :: []) by
    refine e_if_ne (tgt := 35) C dL_isBought_27 (by decide) (fun c_27 => ?_) (fun c_27 => ?_)
    · have n_27 : ¬ (((z / 7) % 3) = 0) := fun h => c_27 ((nI_eq (a := ((z / 7) % 3)) (b := 0) (by omega) (by omega)).mpr h)
      refine e_iconst (v := 5) C dL_isBought_35 (by decide) ?_
      exact hJ_36 _ (by rw [← hq]; first | (rw [if_pos n_27]; rfl) | (rw [if_neg n_27]; rfl) | rw [if_pos n_27] | rw [if_neg n_27])
    · have n_27 : ((z / 7) % 3) = 0 := (nI_eq (a := ((z / 7) % 3)) (b := 0) (by omega) (by omega)).mp c_27
      refine e_bipush (v := 50) C dL_isBought_30 (by decide) ?_
      refine e_goto (tgt := 36) C dL_isBought_32 (by decide) ?_
      exact hJ_36 _ (by rw [← hq]; first | (rw [if_pos n_27]; rfl) | (rw [if_neg n_27]; rfl) | rw [if_pos n_27] | rw [if_neg n_27])
  intro v_36 hv_36
  subst hv_36
  refine e_iremV (z / 20) q C rfl rfl (by omega) (by omega) (by omega) dL_isBought_36 (fun r_36 er_36 hr_36 => ?_)
  refine e_iaddN 1 r_36 w C rfl rfl (by rw [er_36]; exact hw) dL_isBought_37 ?_
  refine e_istore (ls2 := [(8, .int (nI w)), (7, .int (nI g)), (6, .int (nI k)), (0, .ref (ρ 0)), (1, .ref (ρ 9)), (2, .ref (ρ 10)), (3, .ref (ρ 11)), (4, .ref (ρ 12)), (5, .int (nI z))]) C hnL dL_isBought_38 (by decide) rfl ?_
  refine e_bipush (v := 12) C dL_isBought_40 (by decide) ?_
  refine e_iload (j := 2) C dL_isBought_42 rfl ?_
  refine e_imulN 12 k (12 * k) C rfl rfl rfl dL_isBought_44 ?_
  refine e_istore (ls2 := [(9, .int (nI (12 * k))), (8, .int (nI w)), (7, .int (nI g)), (6, .int (nI k)), (0, .ref (ρ 0)), (1, .ref (ρ 9)), (2, .ref (ρ 10)), (3, .ref (ρ 11)), (4, .ref (ρ 12)), (5, .int (nI z))]) C hnL dL_isBought_45 (by decide) rfl ?_
  refine e_iload (j := 9) C dL_isBought_47 rfl ?_
  refine e_sipush (v := 1000) C dL_isBought_49 (by decide) ?_
  refine e_idivN z 1000 (z / 1000) C rfl rfl (by omega) (by omega) (by omega) rfl dL_isBought_52 ?_
  refine e_iconst (v := 4) C dL_isBought_53 (by decide) ?_
  refine e_iremN (z / 1000) 4 ((z / 1000) % 4) C rfl rfl (by omega) (by omega) (by omega) rfl dL_isBought_54 ?_
  refine e_if_ne (tgt := 141) C dL_isBought_55 (by decide) (fun c_55 => ?_) (fun c_55 => absurd ((nI_eq (a := ((z / 1000) % 4)) (b := 0) (by omega) (by omega)).mp c_55) (by omega))
  refine e_iload (j := 1) C dL_isBought_141 rfl ?_
  refine e_aload_n (j := 5) C dL_isBought_143 rfl rfl ?_
  refine e_aload (j := 8) C dL_isBought_144 rfl ?_
  refine e_iload (j := 3) C dL_isBought_146 rfl ?_
  refine e_iload (j := 2) C dL_isBought_148 rfl ?_
  refine e_cS (nA := 4) C (L_raised hl hk hg) rfl mw_270 mw_268 mw_269 mw_2 (by decide +kernel) (by decide) rfl rfl (Nat.le_of_ble_eq_true rfl) dL_isBought_150 (Nat.le_of_ble_eq_true rfl) (Nat.le_of_ble_eq_true rfl) ?_
  refine e_imul C dL_isBought_153 ?_
  refine e_topi (fun x10_154 ex10_154 => ?_)
  refine e_istore (ls2 := [(10, .int x10_154), (9, .int (nI (12 * k))), (8, .int (nI w)), (7, .int (nI g)), (6, .int (nI k)), (0, .ref (ρ 0)), (1, .ref (ρ 9)), (2, .ref (ρ 10)), (3, .ref (ρ 11)), (4, .ref (ρ 12)), (5, .int (nI z))]) C hnL dL_isBought_154 (by decide) rfl ?_
  refine e_aload_n (j := 6) C dL_isBought_156 rfl rfl ?_
  refine e_aload_n (j := 7) C dL_isBought_157 rfl rfl ?_
  refine e_aload (j := 9) C dL_isBought_158 rfl ?_
  refine e_iload (j := 4) C dL_isBought_160 rfl ?_
  refine e_iload (j := 0) C dL_isBought_162 rfl ?_
  refine e_cS (nA := 5) C (L_reason hl hk) rfl mw_273 mw_271 mw_272 mw_2 (by decide +kernel) (by decide) rfl rfl (Nat.le_of_ble_eq_true rfl) dL_isBought_164 (Nat.le_of_ble_eq_true rfl) (Nat.le_of_ble_eq_true rfl) ?_
  refine e_topi (fun x11_167 ex11_167 => ?_)
  refine e_istore (ls2 := [(11, .int x11_167), (10, .int x10_154), (9, .int (nI (12 * k))), (8, .int (nI w)), (7, .int (nI g)), (6, .int (nI k)), (0, .ref (ρ 0)), (1, .ref (ρ 9)), (2, .ref (ρ 10)), (3, .ref (ρ 11)), (4, .ref (ρ 12)), (5, .int (nI z))]) C hnL dL_isBought_167 (by decide) rfl ?_
  refine e_iload (j := 0) C dL_isBought_169 rfl ?_
  refine e_if_le (tgt := 195) C dL_isBought_171 (by decide) (fun c_171 => absurd c_171 (by rw [ex11_167, ex10_154]; exact h1)) (fun c_171 => ?_)
  refine e_aload_n (j := 6) C dL_isBought_174 rfl rfl ?_
  refine e_iload (j := 5) C dL_isBought_175 rfl ?_
  refine e_iload (j := 4) C dL_isBought_177 rfl ?_
  refine e_iload (j := 3) C dL_isBought_179 rfl ?_
  refine e_cV (i := 0) (nA := 3) (Cn := RX2) C (c_X2_whyNot hl hk (by omega) hg) hcall (cnt_fix (by decide)) (fun _ => rfl) rfl rfl mw_280 mw_277 mw_278 mw_279 mw_12 (by decide +kernel) (by decide) rfl rfl (Nat.le_of_ble_eq_true rfl) dL_isBought_181 (Nat.le_of_ble_eq_true rfl) (Nat.le_of_ble_eq_true rfl) ?_
  refine e_iload (j := 0) C dL_isBought_184 rfl ?_
  refine e_icmp_ne (tgt := 193) C dL_isBought_186 (by decide) (fun c_186 => absurd (show _ = _ by rw [ex11_167, ex10_154]) c_186) (fun c_186 => ?_)
  refine e_iconst (v := 1) C dL_isBought_189 (by decide) ?_
  refine e_goto (tgt := 194) C dL_isBought_190 (by decide) ?_
  exact e_zret C rfl rfl (Nat.le_of_ble_eq_true rfl) (Nat.le_of_ble_eq_true rfl) dL_isBought_194 (pO.mk rfl)
def bb1 (N : Mem) (c l : Int32) : Mem := up N 12 26 (N 12 26 + (c - l))
def bbV (N : Mem) (k : Nat) (l : Int32) : Int32 := if N 9 (12 * k + 2) ≤ l then N 9 (12 * k + 2) else l
def bb2 (N : Mem) (k : Nat) (v : Int32) : Mem := up N 9 (12 * k + 2) (N 9 (12 * k + 2) - v)
def bb3 (N : Mem) (k : Nat) (l v : Int32) : Mem := up N 9 (12 * k + 3) (N 9 (12 * k + 3) + (l - v))
def bb4 (N : Mem) (k g w : Nat) : Mem := up N 11 (4 * k + g) (N 11 (4 * k + g) + nI w)
def bbE (N : Mem) (k g w : Nat) (l : Int32) : Mem := bb4 (bb3 (bb2 N k (bbV N k l)) k l (bbV N k l)) k g w
def bbF (M : Mem) (k g w : Nat) : Mem := bbE (bb1 (spL M k (nI w * raL M k g) 12).1 (nI w * raL M k g) (spL M k (nI w * raL M k g) 12).2) k g w (spL M k (nI w * raL M k g) 12).2
set_option maxRecDepth 100000 in
set_option maxHeartbeats 1000000 in
theorem L_isBought {l : Launch} (hl : l.stackTraces = false) {ρ : Nat → Nat} {J : Nat → Int64} {M : Mem} {z : Nat} (hz : z < 1000000000) {k : Nat} (hk : k < 5) (hk0 : z % 5 = k) {g w q : Nat} (hg : g < 4) (hg0 : z / 5 % 4 = g) (hq : (if z / 7 % 3 = 0 then 50 else 5) = q) (hq2 : q = 50 ∨ q = 5) (hw : 1 + z / 20 % q = w) (ho : ¬ z / 1000 % 4 = 0) (h1 : whL M k (nI w * raL M k g) ≤ 0) (hwhy : o_why M k g (nI w) = rI 0 M) {x : Int32} {K : Mem} (hcall : o_buy (bbF M k g w) k g (nI w) = rI x K) (hx : x = K 9 (12 * k + 3)) : CtO l yL_isBought cL_isBought 15 (some .boolean) 10 13 78 5 ρ J M [.ref (ρ 0), .ref (ρ 9), .ref (ρ 10), .ref (ρ 11), .ref (ρ 12), .int (nI z)] (rI 1 K) := by
  refine CtO.of hl (by decide +kernel) (Nat.le_of_ble_eq_true rfl) (fun Ξ hnL C => ?_)
  show E Ξ 5 ρ J M 0 0 0 [(0, .ref (ρ 0)), (1, .ref (ρ 9)), (2, .ref (ρ 10)), (3, .ref (ρ 11)), (4, .ref (ρ 12)), (5, .int (nI z))] []
  refine e_iload (j := 5) C dL_isBought_0 rfl ?_
  refine e_iconst (v := 5) C dL_isBought_2 (by decide) ?_
  refine e_iremN z 5 k C rfl rfl (by omega) (by omega) (by omega) hk0 dL_isBought_3 ?_
  refine e_istore (ls2 := [(6, .int (nI k)), (0, .ref (ρ 0)), (1, .ref (ρ 9)), (2, .ref (ρ 10)), (3, .ref (ρ 11)), (4, .ref (ρ 12)), (5, .int (nI z))]) C hnL dL_isBought_4 (by decide) rfl ?_
  refine e_iload (j := 6) C dL_isBought_6 rfl ?_
  refine e_iconst (v := 5) C dL_isBought_8 (by decide) ?_
  refine e_idivN z 5 (z / 5) C rfl rfl (by omega) (by omega) (by omega) rfl dL_isBought_9 ?_
  refine e_iconst (v := 4) C dL_isBought_10 (by decide) ?_
  refine e_iremN (z / 5) 4 g C rfl rfl (by omega) (by omega) (by omega) hg0 dL_isBought_11 ?_
  refine e_istore (ls2 := [(7, .int (nI g)), (6, .int (nI k)), (0, .ref (ρ 0)), (1, .ref (ρ 9)), (2, .ref (ρ 10)), (3, .ref (ρ 11)), (4, .ref (ρ 12)), (5, .int (nI z))]) C hnL dL_isBought_12 (by decide) rfl ?_
  refine e_iconst (v := 1) C dL_isBought_14 (by decide) ?_
  refine e_iload (j := 7) C dL_isBought_15 rfl ?_
  refine e_bipush (v := 20) C dL_isBought_17 (by decide) ?_
  refine e_idivN z 20 (z / 20) C rfl rfl (by omega) (by omega) (by omega) rfl dL_isBought_19 ?_
  refine e_iload (j := 7) C dL_isBought_20 rfl ?_
  refine e_bipush (v := 7) C dL_isBought_22 (by decide) ?_
  refine e_idivN z 7 (z / 7) C rfl rfl (by omega) (by omega) (by omega) rfl dL_isBought_24 ?_
  refine e_iconst (v := 3) C dL_isBought_25 (by decide) ?_
  refine e_iremN (z / 7) 3 ((z / 7) % 3) C rfl rfl (by omega) (by omega) (by omega) rfl dL_isBought_26 ?_
  suffices hJ_36 : ∀ v : Int32, v = nI q → E Ξ 5 ρ J M 0 0 36 [(7, .int (nI g)), (6, .int (nI k)), (0, .ref (ρ 0)), (1, .ref (ρ 9)), (2, .ref (ρ 10)), (3, .ref (ρ 11)), (4, .ref (ρ 12)), (5, .int (nI z))] (.int v :: .int (nI (z / 20)) :: .int 1 :: []) by
    refine e_if_ne (tgt := 35) C dL_isBought_27 (by decide) (fun c_27 => ?_) (fun c_27 => ?_)
    · have n_27 : ¬ (((z / 7) % 3) = 0) := fun h => c_27 ((nI_eq (a := ((z / 7) % 3)) (b := 0) (by omega) (by omega)).mpr h)
      refine e_iconst (v := 5) C dL_isBought_35 (by decide) ?_
      exact hJ_36 _ (by rw [← hq]; first | (rw [if_pos n_27]; rfl) | (rw [if_neg n_27]; rfl) | rw [if_pos n_27] | rw [if_neg n_27])
    · have n_27 : ((z / 7) % 3) = 0 := (nI_eq (a := ((z / 7) % 3)) (b := 0) (by omega) (by omega)).mp c_27
      refine e_bipush (v := 50) C dL_isBought_30 (by decide) ?_
      refine e_goto (tgt := 36) C dL_isBought_32 (by decide) ?_
      exact hJ_36 _ (by rw [← hq]; first | (rw [if_pos n_27]; rfl) | (rw [if_neg n_27]; rfl) | rw [if_pos n_27] | rw [if_neg n_27])
  intro v_36 hv_36
  subst hv_36
  refine e_iremV (z / 20) q C rfl rfl (by omega) (by omega) (by omega) dL_isBought_36 (fun r_36 er_36 hr_36 => ?_)
  refine e_iaddN 1 r_36 w C rfl rfl (by rw [er_36]; exact hw) dL_isBought_37 ?_
  refine e_istore (ls2 := [(8, .int (nI w)), (7, .int (nI g)), (6, .int (nI k)), (0, .ref (ρ 0)), (1, .ref (ρ 9)), (2, .ref (ρ 10)), (3, .ref (ρ 11)), (4, .ref (ρ 12)), (5, .int (nI z))]) C hnL dL_isBought_38 (by decide) rfl ?_
  refine e_bipush (v := 12) C dL_isBought_40 (by decide) ?_
  refine e_iload (j := 2) C dL_isBought_42 rfl ?_
  refine e_imulN 12 k (12 * k) C rfl rfl rfl dL_isBought_44 ?_
  refine e_istore (ls2 := [(9, .int (nI (12 * k))), (8, .int (nI w)), (7, .int (nI g)), (6, .int (nI k)), (0, .ref (ρ 0)), (1, .ref (ρ 9)), (2, .ref (ρ 10)), (3, .ref (ρ 11)), (4, .ref (ρ 12)), (5, .int (nI z))]) C hnL dL_isBought_45 (by decide) rfl ?_
  refine e_iload (j := 9) C dL_isBought_47 rfl ?_
  refine e_sipush (v := 1000) C dL_isBought_49 (by decide) ?_
  refine e_idivN z 1000 (z / 1000) C rfl rfl (by omega) (by omega) (by omega) rfl dL_isBought_52 ?_
  refine e_iconst (v := 4) C dL_isBought_53 (by decide) ?_
  refine e_iremN (z / 1000) 4 ((z / 1000) % 4) C rfl rfl (by omega) (by omega) (by omega) rfl dL_isBought_54 ?_
  refine e_if_ne (tgt := 141) C dL_isBought_55 (by decide) (fun c_55 => ?_) (fun c_55 => absurd ((nI_eq (a := ((z / 1000) % 4)) (b := 0) (by omega) (by omega)).mp c_55) (by omega))
  refine e_iload (j := 1) C dL_isBought_141 rfl ?_
  refine e_aload_n (j := 5) C dL_isBought_143 rfl rfl ?_
  refine e_aload (j := 8) C dL_isBought_144 rfl ?_
  refine e_iload (j := 3) C dL_isBought_146 rfl ?_
  refine e_iload (j := 2) C dL_isBought_148 rfl ?_
  refine e_cS (nA := 4) C (L_raised hl hk hg) rfl mw_270 mw_268 mw_269 mw_2 (by decide +kernel) (by decide) rfl rfl (Nat.le_of_ble_eq_true rfl) dL_isBought_150 (Nat.le_of_ble_eq_true rfl) (Nat.le_of_ble_eq_true rfl) ?_
  refine e_imul C dL_isBought_153 ?_
  refine e_topi (fun x10_154 ex10_154 => ?_)
  refine e_istore (ls2 := [(10, .int x10_154), (9, .int (nI (12 * k))), (8, .int (nI w)), (7, .int (nI g)), (6, .int (nI k)), (0, .ref (ρ 0)), (1, .ref (ρ 9)), (2, .ref (ρ 10)), (3, .ref (ρ 11)), (4, .ref (ρ 12)), (5, .int (nI z))]) C hnL dL_isBought_154 (by decide) rfl ?_
  refine e_aload_n (j := 6) C dL_isBought_156 rfl rfl ?_
  refine e_aload_n (j := 7) C dL_isBought_157 rfl rfl ?_
  refine e_aload (j := 9) C dL_isBought_158 rfl ?_
  refine e_iload (j := 4) C dL_isBought_160 rfl ?_
  refine e_iload (j := 0) C dL_isBought_162 rfl ?_
  refine e_cS (nA := 5) C (L_reason hl hk) rfl mw_273 mw_271 mw_272 mw_2 (by decide +kernel) (by decide) rfl rfl (Nat.le_of_ble_eq_true rfl) dL_isBought_164 (Nat.le_of_ble_eq_true rfl) (Nat.le_of_ble_eq_true rfl) ?_
  refine e_topi (fun x11_167 ex11_167 => ?_)
  refine e_istore (ls2 := [(11, .int x11_167), (10, .int x10_154), (9, .int (nI (12 * k))), (8, .int (nI w)), (7, .int (nI g)), (6, .int (nI k)), (0, .ref (ρ 0)), (1, .ref (ρ 9)), (2, .ref (ρ 10)), (3, .ref (ρ 11)), (4, .ref (ρ 12)), (5, .int (nI z))]) C hnL dL_isBought_167 (by decide) rfl ?_
  refine e_iload (j := 0) C dL_isBought_169 rfl ?_
  refine e_if_le (tgt := 195) C dL_isBought_171 (by decide) (fun c_171 => ?_) (fun c_171 => absurd (by rw [ex11_167, ex10_154]; exact h1) c_171)
  refine e_aload_n (j := 6) C dL_isBought_195 rfl rfl ?_
  refine e_iload (j := 5) C dL_isBought_196 rfl ?_
  refine e_iload (j := 4) C dL_isBought_198 rfl ?_
  refine e_iload (j := 3) C dL_isBought_200 rfl ?_
  refine e_cV (i := 0) (nA := 3) (Cn := RX2) C (c_X2_whyNot hl hk (by omega) hg) hwhy (cnt_fix (by decide)) (fun _ => rfl) rfl rfl mw_280 mw_277 mw_278 mw_279 mw_12 (by decide +kernel) (by decide) rfl rfl (Nat.le_of_ble_eq_true rfl) dL_isBought_202 (Nat.le_of_ble_eq_true rfl) (Nat.le_of_ble_eq_true rfl) ?_
  refine e_if_ne (tgt := 212) C dL_isBought_205 (by decide) (fun c_205 => absurd ((nI_eq (a := 0) (b := 0) (by omega) (by omega)).mpr (by omega)) c_205) (fun c_205 => ?_)
  refine e_iconst (v := 1) C dL_isBought_208 (by decide) ?_
  refine e_goto (tgt := 213) C dL_isBought_209 (by decide) ?_
  refine e_istore (ls2 := [(12, .int 1), (11, .int x11_167), (10, .int x10_154), (9, .int (nI (12 * k))), (8, .int (nI w)), (7, .int (nI g)), (6, .int (nI k)), (0, .ref (ρ 0)), (1, .ref (ρ 9)), (2, .ref (ρ 10)), (3, .ref (ρ 11)), (4, .ref (ρ 12)), (5, .int (nI z))]) C hnL dL_isBought_213 (by decide) rfl ?_
  refine e_aload_n (j := 8) C dL_isBought_215 rfl rfl ?_
  refine e_aload_n (j := 9) C dL_isBought_216 rfl rfl ?_
  refine e_iload (j := 6) C dL_isBought_217 rfl ?_
  refine e_iload (j := 2) C dL_isBought_219 rfl ?_
  refine e_cS (nA := 4) C (L_spend hl hk) rfl mw_300 mw_298 mw_299 mw_2 (by decide +kernel) (by decide) rfl rfl (Nat.le_of_ble_eq_true rfl) dL_isBought_221 (Nat.le_of_ble_eq_true rfl) (Nat.le_of_ble_eq_true rfl) ?_
  refine e_topi (fun x13_224 ex13_224 => ?_)
  refine e_istore (ls2 := [(13, .int x13_224), (12, .int 1), (11, .int x11_167), (10, .int x10_154), (9, .int (nI (12 * k))), (8, .int (nI w)), (7, .int (nI g)), (6, .int (nI k)), (0, .ref (ρ 0)), (1, .ref (ρ 9)), (2, .ref (ρ 10)), (3, .ref (ρ 11)), (4, .ref (ρ 12)), (5, .int (nI z))]) C hnL dL_isBought_224 (by decide) rfl ?_
  refine e_aload (j := 12) C dL_isBought_226 rfl ?_
  refine e_bipush (v := 26) C dL_isBought_228 (by decide) ?_
  refine e_dup2 C dL_isBought_230 rfl rfl ?_
  refine e_ialdN 26 C (cnt_fix (by decide)) (fun _ => rfl) rfl (by decide) (by decide) dL_isBought_231 ?_
  refine e_iload (j := 3) C dL_isBought_232 rfl ?_
  refine e_iload (j := 0) C dL_isBought_234 rfl ?_
  refine e_isub C dL_isBought_236 ?_
  refine e_iadd C dL_isBought_237 ?_
  refine e_iastN 26 C (cnt_fix (by decide)) (fun _ _ => rfl) rfl (by decide) (by decide) dL_isBought_238 ?_
  refine e_topM (fun M_238 hM_238 => ?_)
  refine e_aload_n (j := 9) C dL_isBought_239 rfl rfl ?_
  refine e_iload (j := 4) C dL_isBought_240 rfl ?_
  refine e_iconst (v := 2) C dL_isBought_242 (by decide) ?_
  refine e_iaddN (12 * k) 2 (12 * k + 2) C rfl rfl rfl dL_isBought_243 ?_
  refine e_ialdN (12 * k + 2) C (cnt_fix (by decide)) (fun _ => rfl) rfl (by omega) (by decide) dL_isBought_244 ?_
  refine e_iload (j := 0) C dL_isBought_245 rfl ?_
  suffices hJ_261 : ∀ v_261 : Int32, v_261 = (if (M_238 9 (12 * k + 2)) ≤ x13_224 then (M_238 9 (12 * k + 2)) else x13_224) → E Ξ 5 ρ J M_238 ((((0 + 0) + 0) + 3) + 0) ((((0 + 0) + 0) + 18) + 0) 261 [(13, .int x13_224), (12, .int 1), (11, .int x11_167), (10, .int x10_154), (9, .int (nI (12 * k))), (8, .int (nI w)), (7, .int (nI g)), (6, .int (nI k)), (0, .ref (ρ 0)), (1, .ref (ρ 9)), (2, .ref (ρ 10)), (3, .ref (ρ 11)), (4, .ref (ρ 12)), (5, .int (nI z))] (.int v_261 :: []) by
    refine e_icmp_le (tgt := 255) C dL_isBought_247 (by decide) (fun c_247 => ?_) (fun c_247 => ?_)
    · refine e_aload_n (j := 9) C dL_isBought_255 rfl rfl ?_
      refine e_iload (j := 4) C dL_isBought_256 rfl ?_
      refine e_iconst (v := 2) C dL_isBought_258 (by decide) ?_
      refine e_iaddN (12 * k) 2 (12 * k + 2) C rfl rfl rfl dL_isBought_259 ?_
      refine e_ialdN (12 * k + 2) C (cnt_fix (by decide)) (fun _ => rfl) rfl (by omega) (by decide) dL_isBought_260 ?_
      exact hJ_261 _ (by rw [if_pos c_247])
    · refine e_iload (j := 0) C dL_isBought_250 rfl ?_
      refine e_goto (tgt := 261) C dL_isBought_252 (by decide) ?_
      exact hJ_261 _ (by rw [if_neg c_247])
  intro v_261 hv_261
  refine e_istore (ls2 := [(14, .int v_261), (13, .int x13_224), (12, .int 1), (11, .int x11_167), (10, .int x10_154), (9, .int (nI (12 * k))), (8, .int (nI w)), (7, .int (nI g)), (6, .int (nI k)), (0, .ref (ρ 0)), (1, .ref (ρ 9)), (2, .ref (ρ 10)), (3, .ref (ρ 11)), (4, .ref (ρ 12)), (5, .int (nI z))]) C hnL dL_isBought_261 (by decide) rfl ?_
  refine e_aload_n (j := 10) C dL_isBought_263 rfl rfl ?_
  refine e_iload (j := 5) C dL_isBought_264 rfl ?_
  refine e_iconst (v := 2) C dL_isBought_266 (by decide) ?_
  refine e_iaddN (12 * k) 2 (12 * k + 2) C rfl rfl rfl dL_isBought_267 ?_
  refine e_dup2 C dL_isBought_268 rfl rfl ?_
  refine e_ialdN (12 * k + 2) C (cnt_fix (by decide)) (fun _ => rfl) rfl (by omega) (by decide) dL_isBought_269 ?_
  refine e_iload (j := 0) C dL_isBought_270 rfl ?_
  refine e_isub C dL_isBought_272 ?_
  refine e_iastN (12 * k + 2) C (cnt_fix (by decide)) (fun _ _ => rfl) rfl (by omega) (by decide) dL_isBought_273 ?_
  refine e_topM (fun M_273 hM_273 => ?_)
  refine e_aload_n (j := 10) C dL_isBought_274 rfl rfl ?_
  refine e_iload (j := 5) C dL_isBought_275 rfl ?_
  refine e_iconst (v := 3) C dL_isBought_277 (by decide) ?_
  refine e_iaddN (12 * k) 3 (12 * k + 3) C rfl rfl rfl dL_isBought_278 ?_
  refine e_dup2 C dL_isBought_279 rfl rfl ?_
  refine e_ialdN (12 * k + 3) C (cnt_fix (by decide)) (fun _ => rfl) rfl (by omega) (by decide) dL_isBought_280 ?_
  refine e_iload (j := 1) C dL_isBought_281 rfl ?_
  refine e_iload (j := 0) C dL_isBought_283 rfl ?_
  refine e_isub C dL_isBought_285 ?_
  refine e_iadd C dL_isBought_286 ?_
  refine e_iastN (12 * k + 3) C (cnt_fix (by decide)) (fun _ _ => rfl) rfl (by omega) (by decide) dL_isBought_287 ?_
  refine e_topM (fun M_287 hM_287 => ?_)
  refine e_aload_n (j := 12) C dL_isBought_288 rfl rfl ?_
  refine e_iconst (v := 4) C dL_isBought_289 (by decide) ?_
  refine e_iload (j := 8) C dL_isBought_290 rfl ?_
  refine e_imulN 4 k (4 * k) C rfl rfl rfl dL_isBought_292 ?_
  refine e_iload (j := 7) C dL_isBought_293 rfl ?_
  refine e_iaddN (4 * k) g (4 * k + g) C rfl rfl rfl dL_isBought_295 ?_
  refine e_dup2 C dL_isBought_296 rfl rfl ?_
  refine e_ialdN (4 * k + g) C (cnt_fix (by decide)) (fun _ => rfl) rfl (by omega) (by decide) dL_isBought_297 ?_
  refine e_iload (j := 6) C dL_isBought_298 rfl ?_
  refine e_iadd C dL_isBought_300 ?_
  refine e_iastN (4 * k + g) C (cnt_fix (by decide)) (fun _ _ => rfl) rfl (by omega) (by decide) dL_isBought_301 ?_
  refine e_topM (fun M_301 hM_301 => ?_)
  refine e_iload (j := 2) C dL_isBought_302 rfl ?_
  refine e_if_eq (tgt := 330) C dL_isBought_304 (by decide) (fun c_304 => absurd ((nI_eq (a := 1) (b := 0) (by omega) (by omega)).mp c_304) (by omega)) (fun c_304 => ?_)
  have hF : M_301 = bbF M k g w := by subst_vars; rfl
  rw [hF]
  refine e_aload_n (j := 9) C dL_isBought_307 rfl rfl ?_
  refine e_iload (j := 8) C dL_isBought_308 rfl ?_
  refine e_iload (j := 7) C dL_isBought_310 rfl ?_
  refine e_iload (j := 6) C dL_isBought_312 rfl ?_
  refine e_cV (i := 0) (nA := 3) (Cn := RX2) C (c_X2_buy hl hk (by omega) hg) hcall (cnt_fix (by decide)) (fun _ => rfl) rfl rfl mw_304 mw_301 mw_302 mw_303 mw_12 (by decide +kernel) (by decide) rfl rfl (Nat.le_of_ble_eq_true rfl) dL_isBought_314 (Nat.le_of_ble_eq_true rfl) (Nat.le_of_ble_eq_true rfl) ?_
  refine e_aload_n (j := 10) C dL_isBought_317 rfl rfl ?_
  refine e_iload (j := 5) C dL_isBought_318 rfl ?_
  refine e_iconst (v := 3) C dL_isBought_320 (by decide) ?_
  refine e_iaddN (12 * k) 3 (12 * k + 3) C rfl rfl rfl dL_isBought_321 ?_
  refine e_ialdN (12 * k + 3) C (cnt_fix (by decide)) (fun _ => rfl) rfl (by omega) (by decide) dL_isBought_322 ?_
  refine e_icmp_ne (tgt := 330) C dL_isBought_323 (by decide) (fun c_323 => absurd hx c_323) (fun c_323 => ?_)
  refine e_iconst (v := 1) C dL_isBought_326 (by decide) ?_
  refine e_goto (tgt := 331) C dL_isBought_327 (by decide) ?_
  exact e_zret C rfl rfl (Nat.le_of_ble_eq_true rfl) (Nat.le_of_ble_eq_true rfl) dL_isBought_331 (pO.mk rfl)
set_option maxRecDepth 100000 in
set_option maxHeartbeats 1000000 in
theorem L_isChanged_0 {l : Launch} (hl : l.stackTraces = false) {ρ : Nat → Nat} {J : Nat → Int64} {M : Mem} {z : Nat} (hz : z < 1000000000) {k : Nat} (hk : k < 5) (hk0 : z % 5 = k) (h : M 9 (12 * k) = 0 ∨ hasF M k = 0) : CtO l yL_isChanged cL_isChanged 10 (some .boolean) 10 13 78 5 ρ J M [.ref (ρ 0), .ref (ρ 9), .ref (ρ 10), .ref (ρ 12), .int (nI z)] (rI 1 M) := by
  refine CtO.of hl (by decide +kernel) (Nat.le_of_ble_eq_true rfl) (fun Ξ hnL C => ?_)
  show E Ξ 5 ρ J M 0 0 0 [(0, .ref (ρ 0)), (1, .ref (ρ 9)), (2, .ref (ρ 10)), (3, .ref (ρ 12)), (4, .int (nI z))] []
  by_cases h1 : M 9 (12 * k) = 0
  · refine e_iload (j := 4) C dL_isChanged_0 rfl ?_
    refine e_iconst (v := 5) C dL_isChanged_2 (by decide) ?_
    refine e_iremN z 5 k C rfl rfl (by omega) (by omega) (by omega) hk0 dL_isChanged_3 ?_
    refine e_istore (ls2 := [(5, .int (nI k)), (0, .ref (ρ 0)), (1, .ref (ρ 9)), (2, .ref (ρ 10)), (3, .ref (ρ 12)), (4, .int (nI z))]) C hnL dL_isChanged_4 (by decide) rfl ?_
    refine e_aload_n (j := 3) C dL_isChanged_6 rfl rfl ?_
    refine e_iload (j := 0) C dL_isChanged_7 rfl ?_
    refine e_cS (nA := 2) C (L_has hl hk) rfl mw_276 mw_274 mw_275 mw_2 (by decide +kernel) (by decide) rfl rfl (Nat.le_of_ble_eq_true rfl) dL_isChanged_9 (Nat.le_of_ble_eq_true rfl) (Nat.le_of_ble_eq_true rfl) ?_
    refine e_topi (fun x6_12 ex6_12 => ?_)
    refine e_istore (ls2 := [(6, .int x6_12), (5, .int (nI k)), (0, .ref (ρ 0)), (1, .ref (ρ 9)), (2, .ref (ρ 10)), (3, .ref (ρ 12)), (4, .int (nI z))]) C hnL dL_isChanged_12 (by decide) rfl ?_
    refine e_aload_n (j := 3) C dL_isChanged_14 rfl rfl ?_
    refine e_bipush (v := 12) C dL_isChanged_15 (by decide) ?_
    refine e_iload (j := 1) C dL_isChanged_17 rfl ?_
    refine e_imulN 12 k (12 * k) C rfl rfl rfl dL_isChanged_19 ?_
    refine e_ialdN (12 * k) C (cnt_fix (by decide)) (fun _ => rfl) rfl (by omega) (by decide) dL_isChanged_20 ?_
    refine e_if_eq (tgt := 29) C dL_isChanged_21 (by decide) (fun c_21 => ?_) (fun c_21 => absurd h1 c_21)
    refine e_iconst (v := 1) C dL_isChanged_29 (by decide) ?_
    exact e_zret C rfl rfl (Nat.le_of_ble_eq_true rfl) (Nat.le_of_ble_eq_true rfl) dL_isChanged_30 (pO.mk rfl)
  · have h2 := h.resolve_left h1
    refine e_iload (j := 4) C dL_isChanged_0 rfl ?_
    refine e_iconst (v := 5) C dL_isChanged_2 (by decide) ?_
    refine e_iremN z 5 k C rfl rfl (by omega) (by omega) (by omega) hk0 dL_isChanged_3 ?_
    refine e_istore (ls2 := [(5, .int (nI k)), (0, .ref (ρ 0)), (1, .ref (ρ 9)), (2, .ref (ρ 10)), (3, .ref (ρ 12)), (4, .int (nI z))]) C hnL dL_isChanged_4 (by decide) rfl ?_
    refine e_aload_n (j := 3) C dL_isChanged_6 rfl rfl ?_
    refine e_iload (j := 0) C dL_isChanged_7 rfl ?_
    refine e_cS (nA := 2) C (L_has hl hk) rfl mw_276 mw_274 mw_275 mw_2 (by decide +kernel) (by decide) rfl rfl (Nat.le_of_ble_eq_true rfl) dL_isChanged_9 (Nat.le_of_ble_eq_true rfl) (Nat.le_of_ble_eq_true rfl) ?_
    refine e_topi (fun x6_12 ex6_12 => ?_)
    refine e_istore (ls2 := [(6, .int x6_12), (5, .int (nI k)), (0, .ref (ρ 0)), (1, .ref (ρ 9)), (2, .ref (ρ 10)), (3, .ref (ρ 12)), (4, .int (nI z))]) C hnL dL_isChanged_12 (by decide) rfl ?_
    refine e_aload_n (j := 3) C dL_isChanged_14 rfl rfl ?_
    refine e_bipush (v := 12) C dL_isChanged_15 (by decide) ?_
    refine e_iload (j := 1) C dL_isChanged_17 rfl ?_
    refine e_imulN 12 k (12 * k) C rfl rfl rfl dL_isChanged_19 ?_
    refine e_ialdN (12 * k) C (cnt_fix (by decide)) (fun _ => rfl) rfl (by omega) (by decide) dL_isChanged_20 ?_
    refine e_if_eq (tgt := 29) C dL_isChanged_21 (by decide) (fun c_21 => absurd c_21 h1) (fun c_21 => ?_)
    refine e_iload (j := 0) C dL_isChanged_24 rfl ?_
    refine e_if_ne (tgt := 31) C dL_isChanged_26 (by decide) (fun c_26 => absurd (ex6_12.trans h2) c_26) (fun c_26 => ?_)
    refine e_iconst (v := 1) C dL_isChanged_29 (by decide) ?_
    exact e_zret C rfl rfl (Nat.le_of_ble_eq_true rfl) (Nat.le_of_ble_eq_true rfl) dL_isChanged_30 (pO.mk rfl)
def chV (M : Mem) (w : Nat) : Int32 := nI w * (100 - M 12 18) / 100
def chA (N : Mem) (w : Nat) (l : Int32) : Mem := up N 12 27 (N 12 27 + (nI w - l))
def chB (N : Mem) (k : Nat) (v : Int32) : Mem := up N 9 (12 * k + 2) (N 9 (12 * k + 2) + v)
def chF (M : Mem) (k w : Nat) : Mem := chB (chA (spL M k (nI w) 12).1 w (spL M k (nI w) 12).2) k (chV M w)
set_option maxRecDepth 100000 in
set_option maxHeartbeats 1000000 in
theorem L_isChanged {l : Launch} (hl : l.stackTraces = false) {ρ : Nat → Nat} {J : Nat → Int64} {M : Mem} {z : Nat} (hz : z < 1000000000) {k : Nat} (hk : k < 5) (hk0 : z % 5 = k) {A B w : Nat} (hA : hasF M k = nI A) (hA2 : A < 2147483648) (hA0 : 0 < A) (hB : (if A ≤ 100000 then A else 100000) = B) (hB2 : 0 < B ∧ B ≤ A) (hw : 1 + z / 5 % B = w) (h1 : ¬ M 9 (12 * k) = 0) (hl0 : (spL M k (nI w) 12).2 = 0) {K : Mem} (hcall : o_change (chF M k w) k (nI w) = rI (chV M w) K) : CtO l yL_isChanged cL_isChanged 10 (some .boolean) 10 13 78 5 ρ J M [.ref (ρ 0), .ref (ρ 9), .ref (ρ 10), .ref (ρ 12), .int (nI z)] (rI 1 K) := by
  refine CtO.of hl (by decide +kernel) (Nat.le_of_ble_eq_true rfl) (fun Ξ hnL C => ?_)
  show E Ξ 5 ρ J M 0 0 0 [(0, .ref (ρ 0)), (1, .ref (ρ 9)), (2, .ref (ρ 10)), (3, .ref (ρ 12)), (4, .int (nI z))] []
  refine e_iload (j := 4) C dL_isChanged_0 rfl ?_
  refine e_iconst (v := 5) C dL_isChanged_2 (by decide) ?_
  refine e_iremN z 5 k C rfl rfl (by omega) (by omega) (by omega) hk0 dL_isChanged_3 ?_
  refine e_istore (ls2 := [(5, .int (nI k)), (0, .ref (ρ 0)), (1, .ref (ρ 9)), (2, .ref (ρ 10)), (3, .ref (ρ 12)), (4, .int (nI z))]) C hnL dL_isChanged_4 (by decide) rfl ?_
  refine e_aload_n (j := 3) C dL_isChanged_6 rfl rfl ?_
  refine e_iload (j := 0) C dL_isChanged_7 rfl ?_
  refine e_cS (nA := 2) C (L_has hl hk) rfl mw_276 mw_274 mw_275 mw_2 (by decide +kernel) (by decide) rfl rfl (Nat.le_of_ble_eq_true rfl) dL_isChanged_9 (Nat.le_of_ble_eq_true rfl) (Nat.le_of_ble_eq_true rfl) ?_
  rw [hA]
  refine e_istore (ls2 := [(6, .int (nI A)), (5, .int (nI k)), (0, .ref (ρ 0)), (1, .ref (ρ 9)), (2, .ref (ρ 10)), (3, .ref (ρ 12)), (4, .int (nI z))]) C hnL dL_isChanged_12 (by decide) rfl ?_
  refine e_aload_n (j := 3) C dL_isChanged_14 rfl rfl ?_
  refine e_bipush (v := 12) C dL_isChanged_15 (by decide) ?_
  refine e_iload (j := 1) C dL_isChanged_17 rfl ?_
  refine e_imulN 12 k (12 * k) C rfl rfl rfl dL_isChanged_19 ?_
  refine e_ialdN (12 * k) C (cnt_fix (by decide)) (fun _ => rfl) rfl (by omega) (by decide) dL_isChanged_20 ?_
  refine e_if_eq (tgt := 29) C dL_isChanged_21 (by decide) (fun c_21 => absurd c_21 h1) (fun c_21 => ?_)
  refine e_iload (j := 0) C dL_isChanged_24 rfl ?_
  refine e_if_ne (tgt := 31) C dL_isChanged_26 (by decide) (fun c_26 => ?_) (fun c_26 => absurd ((nI_eq (a := A) (b := 0) (by omega) (by omega)).mp c_26) (by omega))
  refine e_iconst (v := 1) C dL_isChanged_31 (by decide) ?_
  refine e_iload (j := 6) C dL_isChanged_32 rfl ?_
  refine e_iconst (v := 5) C dL_isChanged_34 (by decide) ?_
  refine e_idivN z 5 (z / 5) C rfl rfl (by omega) (by omega) (by omega) rfl dL_isChanged_35 ?_
  refine e_iload (j := 0) C dL_isChanged_36 rfl ?_
  refine e_ldc (v := 100000) C dL_isChanged_38 mw_314 ?_
  suffices hJ_50 : ∀ v : Int32, v = nI B → E Ξ 5 ρ J M (0 + 0) (0 + 0) 50 [(6, .int (nI A)), (5, .int (nI k)), (0, .ref (ρ 0)), (1, .ref (ρ 9)), (2, .ref (ρ 10)), (3, .ref (ρ 12)), (4, .int (nI z))] (.int v :: .int (nI (z / 5)) :: .int 1 :: []) by
    refine e_icmp_le (tgt := 48) C dL_isChanged_40 (by decide) (fun c_40 => ?_) (fun c_40 => ?_)
    · have n_40 : A ≤ 100000 := (nI_leI (a := A) (b := 100000) (by omega) (by omega)).mp c_40
      refine e_iload (j := 0) C dL_isChanged_48 rfl ?_
      exact hJ_50 _ (by rw [← hB]; first | (rw [if_pos n_40]; rfl) | (rw [if_neg n_40]; rfl) | rw [if_pos n_40] | rw [if_neg n_40])
    · have n_40 : ¬ (A ≤ 100000) := fun h => c_40 ((nI_leI (a := A) (b := 100000) (by omega) (by omega)).mpr h)
      refine e_ldc (v := 100000) C dL_isChanged_43 mw_314 ?_
      refine e_goto (tgt := 50) C dL_isChanged_45 (by decide) ?_
      exact hJ_50 _ (by rw [← hB]; first | (rw [if_pos n_40]; rfl) | (rw [if_neg n_40]; rfl) | rw [if_pos n_40] | rw [if_neg n_40])
  intro v_50 hv_50
  subst hv_50
  refine e_iremV (z / 5) B C rfl rfl (by omega) (by omega) (by omega) dL_isChanged_50 (fun r_50 er_50 hr_50 => ?_)
  refine e_iaddN 1 r_50 w C rfl rfl (by rw [er_50]; exact hw) dL_isChanged_51 ?_
  refine e_istore (ls2 := [(7, .int (nI w)), (6, .int (nI A)), (5, .int (nI k)), (0, .ref (ρ 0)), (1, .ref (ρ 9)), (2, .ref (ρ 10)), (3, .ref (ρ 12)), (4, .int (nI z))]) C hnL dL_isChanged_52 (by decide) rfl ?_
  refine e_iload (j := 0) C dL_isChanged_54 rfl ?_
  refine e_bipush (v := 100) C dL_isChanged_56 (by decide) ?_
  refine e_aload_n (j := 6) C dL_isChanged_58 rfl rfl ?_
  refine e_bipush (v := 18) C dL_isChanged_59 (by decide) ?_
  refine e_ialdN 18 C (cnt_fix (by decide)) (fun _ => rfl) rfl (by decide) (by decide) dL_isChanged_61 ?_
  refine e_isub C dL_isChanged_62 ?_
  refine e_imul C dL_isChanged_63 ?_
  refine e_bipush (v := 100) C dL_isChanged_64 (by decide) ?_
  refine e_idiv C dL_isChanged_66 (by decide) ?_
  refine e_topi (fun x8_67 ex8_67 => ?_)
  refine e_istore (ls2 := [(8, .int x8_67), (7, .int (nI w)), (6, .int (nI A)), (5, .int (nI k)), (0, .ref (ρ 0)), (1, .ref (ρ 9)), (2, .ref (ρ 10)), (3, .ref (ρ 12)), (4, .int (nI z))]) C hnL dL_isChanged_67 (by decide) rfl ?_
  refine e_aload_n (j := 5) C dL_isChanged_69 rfl rfl ?_
  refine e_aload_n (j := 6) C dL_isChanged_70 rfl rfl ?_
  refine e_iload (j := 3) C dL_isChanged_71 rfl ?_
  refine e_iload (j := 1) C dL_isChanged_73 rfl ?_
  refine e_cS (nA := 4) C (L_spend hl hk) rfl mw_300 mw_298 mw_299 mw_2 (by decide +kernel) (by decide) rfl rfl (Nat.le_of_ble_eq_true rfl) dL_isChanged_75 (Nat.le_of_ble_eq_true rfl) (Nat.le_of_ble_eq_true rfl) ?_
  refine e_topi (fun x9_78 ex9_78 => ?_)
  refine e_istore (ls2 := [(9, .int x9_78), (8, .int x8_67), (7, .int (nI w)), (6, .int (nI A)), (5, .int (nI k)), (0, .ref (ρ 0)), (1, .ref (ρ 9)), (2, .ref (ρ 10)), (3, .ref (ρ 12)), (4, .int (nI z))]) C hnL dL_isChanged_78 (by decide) rfl ?_
  refine e_aload_n (j := 8) C dL_isChanged_80 rfl rfl ?_
  refine e_bipush (v := 27) C dL_isChanged_81 (by decide) ?_
  refine e_dup2 C dL_isChanged_83 rfl rfl ?_
  refine e_ialdN 27 C (cnt_fix (by decide)) (fun _ => rfl) rfl (by decide) (by decide) dL_isChanged_84 ?_
  refine e_iload (j := 2) C dL_isChanged_85 rfl ?_
  refine e_iload (j := 0) C dL_isChanged_87 rfl ?_
  refine e_isub C dL_isChanged_89 ?_
  refine e_iadd C dL_isChanged_90 ?_
  refine e_iastN 27 C (cnt_fix (by decide)) (fun _ _ => rfl) rfl (by decide) (by decide) dL_isChanged_91 ?_
  refine e_topM (fun M_91 hM_91 => ?_)
  refine e_aload_n (j := 6) C dL_isChanged_92 rfl rfl ?_
  refine e_bipush (v := 12) C dL_isChanged_93 (by decide) ?_
  refine e_iload (j := 4) C dL_isChanged_95 rfl ?_
  refine e_imulN 12 k (12 * k) C rfl rfl rfl dL_isChanged_97 ?_
  refine e_iconst (v := 2) C dL_isChanged_98 (by decide) ?_
  refine e_iaddN (12 * k) 2 (12 * k + 2) C rfl rfl rfl dL_isChanged_99 ?_
  refine e_dup2 C dL_isChanged_100 rfl rfl ?_
  refine e_ialdN (12 * k + 2) C (cnt_fix (by decide)) (fun _ => rfl) rfl (by omega) (by decide) dL_isChanged_101 ?_
  refine e_iload (j := 1) C dL_isChanged_102 rfl ?_
  refine e_iadd C dL_isChanged_104 ?_
  refine e_iastN (12 * k + 2) C (cnt_fix (by decide)) (fun _ _ => rfl) rfl (by omega) (by decide) dL_isChanged_105 ?_
  refine e_topM (fun M_105 hM_105 => ?_)
  refine e_iload (j := 0) C dL_isChanged_106 rfl ?_
  refine e_if_ne (tgt := 128) C dL_isChanged_108 (by decide) (fun c_108 => absurd (ex9_78.trans hl0) c_108) (fun c_108 => ?_)
  have hF : M_105 = chF M k w := by rw [hM_105, hM_91, ex8_67, ex9_78]; rfl
  rw [hF]
  refine e_aload_n (j := 5) C dL_isChanged_111 rfl rfl ?_
  refine e_iload (j := 4) C dL_isChanged_112 rfl ?_
  refine e_iload (j := 2) C dL_isChanged_114 rfl ?_
  refine e_cV (i := 0) (nA := 2) (Cn := RX2) C (c_X2_change hl hk (by omega)) hcall (cnt_fix (by decide)) (fun _ => rfl) rfl rfl mw_318 mw_315 mw_316 mw_317 mw_12 (by decide +kernel) (by decide) rfl rfl (Nat.le_of_ble_eq_true rfl) dL_isChanged_116 (Nat.le_of_ble_eq_true rfl) (Nat.le_of_ble_eq_true rfl) ?_
  refine e_iload (j := 1) C dL_isChanged_119 rfl ?_
  refine e_icmp_ne (tgt := 128) C dL_isChanged_121 (by decide) (fun c_121 => absurd (show _ = _ from ex8_67.symm) c_121) (fun c_121 => ?_)
  refine e_iconst (v := 1) C dL_isChanged_124 (by decide) ?_
  refine e_goto (tgt := 129) C dL_isChanged_125 (by decide) ?_
  exact e_zret C rfl rfl (Nat.le_of_ble_eq_true rfl) (Nat.le_of_ble_eq_true rfl) dL_isChanged_129 (pO.mk rfl)
