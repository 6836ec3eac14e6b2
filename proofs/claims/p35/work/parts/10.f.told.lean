/-! The law's telling, the law's questions. -/
set_option maxRecDepth 100000 in
set_option maxHeartbeats 1000000 in
theorem L_tell_0 {l : Launch} (hl : l.stackTraces = false) {ρ : Nat → Nat} {J : Nat → Int64} {M : Mem} {z y : Nat} (hz : z < 1000000000) (hy : z / 11 = y) (hway : z % 11 = 0) {d v : Nat} (hd : d < 5) (hd0 : y % 5 = d) (hdz : d = 0) (hv : 1 + y / 5 % 50 = v) {x : Int32} {K : Mem} (hcall : o_tell (up M 12 d (nI v)) d (nI v) = rI x K) (hx : x = M 12 d) : CtO l yL_isTold cL_isTold 9 (some .boolean) 10 13 78 5 ρ J M [.ref (ρ 0), .ref (ρ 9), .ref (ρ 12), .int (nI z)] (rI 1 K) := by
  refine CtO.of hl (by decide +kernel) (Nat.le_of_ble_eq_true rfl) (fun Ξ hnL C => ?_)
  show E Ξ 5 ρ J M 0 0 0 [(0, .ref (ρ 0)), (1, .ref (ρ 9)), (2, .ref (ρ 12)), (3, .int (nI z))] []
  refine e_iload_n (j := 3) C dL_isTold_0 rfl rfl ?_
  refine e_bipush (v := 11) C dL_isTold_1 (by decide) ?_
  refine e_iremN z 11 0 C rfl rfl (by omega) (by omega) (by omega) hway dL_isTold_3 ?_
  refine e_istore (ls2 := [(4, .int 0), (0, .ref (ρ 0)), (1, .ref (ρ 9)), (2, .ref (ρ 12)), (3, .int (nI z))]) C hnL dL_isTold_4 (by decide) rfl ?_
  refine e_iload_n (j := 4) C dL_isTold_6 rfl rfl ?_
  refine e_bipush (v := 11) C dL_isTold_7 (by decide) ?_
  refine e_idivN z 11 y C rfl rfl (by omega) (by omega) (by omega) hy dL_isTold_9 ?_
  refine e_istore_n (ls2 := [(3, .int (nI y)), (4, .int 0), (0, .ref (ρ 0)), (1, .ref (ρ 9)), (2, .ref (ρ 12))]) C hnL dL_isTold_10 rfl (by decide) rfl ?_
  refine e_iload (j := 1) C dL_isTold_11 rfl ?_
  refine e_if_ne (tgt := 87) C dL_isTold_13 (by decide) (fun c_13 => absurd ((nI_eq (a := 0) (b := 0) (by omega) (by omega)).mpr (by omega)) c_13) (fun c_13 => ?_)
  refine e_iload_n (j := 0) C dL_isTold_16 rfl rfl ?_
  refine e_iconst (v := 5) C dL_isTold_17 (by decide) ?_
  refine e_iremN y 5 d C rfl rfl (by omega) (by omega) (by omega) hd0 dL_isTold_18 ?_
  refine e_istore (ls2 := [(5, .int (nI d)), (3, .int (nI y)), (4, .int 0), (0, .ref (ρ 0)), (1, .ref (ρ 9)), (2, .ref (ρ 12))]) C hnL dL_isTold_19 (by decide) rfl ?_
  refine e_aload_n (j := 5) C dL_isTold_21 rfl rfl ?_
  refine e_iload (j := 0) C dL_isTold_22 rfl ?_
  refine e_ialdN d C (cnt_fix (by decide)) (fun _ => rfl) rfl (by omega) (by decide) dL_isTold_24 ?_
  refine e_topi (fun x6_25 ex6_25 => ?_)
  refine e_istore (ls2 := [(6, .int x6_25), (5, .int (nI d)), (3, .int (nI y)), (4, .int 0), (0, .ref (ρ 0)), (1, .ref (ρ 9)), (2, .ref (ρ 12))]) C hnL dL_isTold_25 (by decide) rfl ?_
  refine e_aload_n (j := 6) C dL_isTold_27 rfl rfl ?_
  refine e_iload (j := 1) C dL_isTold_28 rfl ?_
  refine e_iload (j := 1) C dL_isTold_30 rfl ?_
  refine e_if_ne (tgt := 46) C dL_isTold_32 (by decide) (fun c_32 => absurd ((nI_eq (a := d) (b := 0) (by omega) (by omega)).mpr (by omega)) c_32) (fun c_32 => ?_)
  refine e_iconst (v := 1) C dL_isTold_35 (by decide) ?_
  refine e_iload_n (j := 2) C dL_isTold_36 rfl rfl ?_
  refine e_iconst (v := 5) C dL_isTold_37 (by decide) ?_
  refine e_idivN y 5 (y / 5) C rfl rfl (by omega) (by omega) (by omega) rfl dL_isTold_38 ?_
  refine e_bipush (v := 50) C dL_isTold_39 (by decide) ?_
  refine e_iremN (y / 5) 50 ((y / 5) % 50) C rfl rfl (by omega) (by omega) (by omega) rfl dL_isTold_41 ?_
  refine e_iaddN 1 ((y / 5) % 50) v C rfl rfl hv dL_isTold_42 ?_
  refine e_goto (tgt := 65) C dL_isTold_43 (by decide) ?_
  refine e_iastN d C (cnt_fix (by decide)) (fun _ _ => rfl) rfl (by omega) (by decide) dL_isTold_65 ?_
  refine e_topM (fun M_65 hM_65 => ?_)
  refine e_aload_n (j := 4) C dL_isTold_66 rfl rfl ?_
  refine e_iload (j := 1) C dL_isTold_67 rfl ?_
  refine e_aload_n (j := 6) C dL_isTold_69 rfl rfl ?_
  refine e_iload (j := 1) C dL_isTold_70 rfl ?_
  refine e_ialdN d C (cnt_fix (by decide)) (fun _ => rfl) rfl (by omega) (by decide) dL_isTold_72 ?_
  rw [show M_65 12 d = (nI v) by rw [hM_65]; exact up_same _ _ _ _]
  rw [show M_65 = up M 12 d (nI v) from hM_65]
  refine e_cV (i := 0) (nA := 2) (Cn := RX2) C (c_X2_tell hl hd) hcall (cnt_fix (by decide)) (fun _ => rfl) rfl rfl mw_328 mw_325 mw_326 mw_327 mw_12 (by decide +kernel) (by decide) rfl rfl (Nat.le_of_ble_eq_true rfl) dL_isTold_73 (Nat.le_of_ble_eq_true rfl) (Nat.le_of_ble_eq_true rfl) ?_
  refine e_iload (j := 0) C dL_isTold_76 rfl ?_
  refine e_icmp_ne (tgt := 85) C dL_isTold_78 (by decide) (fun c_78 => absurd (hx.trans ex6_25.symm) c_78) (fun c_78 => ?_)
  refine e_iconst (v := 1) C dL_isTold_81 (by decide) ?_
  refine e_goto (tgt := 86) C dL_isTold_82 (by decide) ?_
  exact e_zret C rfl rfl (Nat.le_of_ble_eq_true rfl) (Nat.le_of_ble_eq_true rfl) dL_isTold_86 (pO.mk rfl)
set_option maxRecDepth 100000 in
set_option maxHeartbeats 1000000 in
theorem L_tell_1 {l : Launch} (hl : l.stackTraces = false) {ρ : Nat → Nat} {J : Nat → Int64} {M : Mem} {z y : Nat} (hz : z < 1000000000) (hy : z / 11 = y) (hway : z % 11 = 0) {d v : Nat} (hd : d < 5) (hd0 : y % 5 = d) {q : Nat} (hdz : ¬ d = 0) (hq : (if y / 3 % 2 = 0 then 101 else 12) = q) (hq2 : q = 101 ∨ q = 12) (hv : y / 5 % q = v) {x : Int32} {K : Mem} (hcall : o_tell (up M 12 d (nI v)) d (nI v) = rI x K) (hx : x = M 12 d) : CtO l yL_isTold cL_isTold 9 (some .boolean) 10 13 78 5 ρ J M [.ref (ρ 0), .ref (ρ 9), .ref (ρ 12), .int (nI z)] (rI 1 K) := by
  refine CtO.of hl (by decide +kernel) (Nat.le_of_ble_eq_true rfl) (fun Ξ hnL C => ?_)
  show E Ξ 5 ρ J M 0 0 0 [(0, .ref (ρ 0)), (1, .ref (ρ 9)), (2, .ref (ρ 12)), (3, .int (nI z))] []
  refine e_iload_n (j := 3) C dL_isTold_0 rfl rfl ?_
  refine e_bipush (v := 11) C dL_isTold_1 (by decide) ?_
  refine e_iremN z 11 0 C rfl rfl (by omega) (by omega) (by omega) hway dL_isTold_3 ?_
  refine e_istore (ls2 := [(4, .int 0), (0, .ref (ρ 0)), (1, .ref (ρ 9)), (2, .ref (ρ 12)), (3, .int (nI z))]) C hnL dL_isTold_4 (by decide) rfl ?_
  refine e_iload_n (j := 4) C dL_isTold_6 rfl rfl ?_
  refine e_bipush (v := 11) C dL_isTold_7 (by decide) ?_
  refine e_idivN z 11 y C rfl rfl (by omega) (by omega) (by omega) hy dL_isTold_9 ?_
  refine e_istore_n (ls2 := [(3, .int (nI y)), (4, .int 0), (0, .ref (ρ 0)), (1, .ref (ρ 9)), (2, .ref (ρ 12))]) C hnL dL_isTold_10 rfl (by decide) rfl ?_
  refine e_iload (j := 1) C dL_isTold_11 rfl ?_
  refine e_if_ne (tgt := 87) C dL_isTold_13 (by decide) (fun c_13 => absurd ((nI_eq (a := 0) (b := 0) (by omega) (by omega)).mpr (by omega)) c_13) (fun c_13 => ?_)
  refine e_iload_n (j := 0) C dL_isTold_16 rfl rfl ?_
  refine e_iconst (v := 5) C dL_isTold_17 (by decide) ?_
  refine e_iremN y 5 d C rfl rfl (by omega) (by omega) (by omega) hd0 dL_isTold_18 ?_
  refine e_istore (ls2 := [(5, .int (nI d)), (3, .int (nI y)), (4, .int 0), (0, .ref (ρ 0)), (1, .ref (ρ 9)), (2, .ref (ρ 12))]) C hnL dL_isTold_19 (by decide) rfl ?_
  refine e_aload_n (j := 5) C dL_isTold_21 rfl rfl ?_
  refine e_iload (j := 0) C dL_isTold_22 rfl ?_
  refine e_ialdN d C (cnt_fix (by decide)) (fun _ => rfl) rfl (by omega) (by decide) dL_isTold_24 ?_
  refine e_topi (fun x6_25 ex6_25 => ?_)
  refine e_istore (ls2 := [(6, .int x6_25), (5, .int (nI d)), (3, .int (nI y)), (4, .int 0), (0, .ref (ρ 0)), (1, .ref (ρ 9)), (2, .ref (ρ 12))]) C hnL dL_isTold_25 (by decide) rfl ?_
  refine e_aload_n (j := 6) C dL_isTold_27 rfl rfl ?_
  refine e_iload (j := 1) C dL_isTold_28 rfl ?_
  refine e_iload (j := 1) C dL_isTold_30 rfl ?_
  refine e_if_ne (tgt := 46) C dL_isTold_32 (by decide) (fun c_32 => ?_) (fun c_32 => absurd ((nI_eq (a := d) (b := 0) (by omega) (by omega)).mp c_32) (by omega))
  refine e_iload_n (j := 2) C dL_isTold_46 rfl rfl ?_
  refine e_iconst (v := 5) C dL_isTold_47 (by decide) ?_
  refine e_idivN y 5 (y / 5) C rfl rfl (by omega) (by omega) (by omega) rfl dL_isTold_48 ?_
  refine e_iload_n (j := 2) C dL_isTold_49 rfl rfl ?_
  refine e_iconst (v := 3) C dL_isTold_50 (by decide) ?_
  refine e_idivN y 3 (y / 3) C rfl rfl (by omega) (by omega) (by omega) rfl dL_isTold_51 ?_
  refine e_iconst (v := 2) C dL_isTold_52 (by decide) ?_
  refine e_iremN (y / 3) 2 ((y / 3) % 2) C rfl rfl (by omega) (by omega) (by omega) rfl dL_isTold_53 ?_
  suffices hJ_64 : ∀ v : Int32, v = nI q → E Ξ 5 ρ J M 0 0 64 [(6, .int x6_25), (5, .int (nI d)), (3, .int (nI y)), (4, .int 0), (0, .ref (ρ 0)), (1, .ref (ρ 9)), (2, .ref (ρ 12))] (.int v :: .int (nI (y / 5)) :: .int (nI d) :: .ref (ρ 12) :: []) by
    refine e_if_ne (tgt := 62) C dL_isTold_54 (by decide) (fun c_54 => ?_) (fun c_54 => ?_)
    · have n_54 : ¬ (((y / 3) % 2) = 0) := fun h => c_54 ((nI_eq (a := ((y / 3) % 2)) (b := 0) (by omega) (by omega)).mpr h)
      refine e_bipush (v := 12) C dL_isTold_62 (by decide) ?_
      exact hJ_64 _ (by rw [← hq]; first | (rw [if_pos n_54]; rfl) | (rw [if_neg n_54]; rfl) | rw [if_pos n_54] | rw [if_neg n_54])
    · have n_54 : ((y / 3) % 2) = 0 := (nI_eq (a := ((y / 3) % 2)) (b := 0) (by omega) (by omega)).mp c_54
      refine e_bipush (v := 101) C dL_isTold_57 (by decide) ?_
      refine e_goto (tgt := 64) C dL_isTold_59 (by decide) ?_
      exact hJ_64 _ (by rw [← hq]; first | (rw [if_pos n_54]; rfl) | (rw [if_neg n_54]; rfl) | rw [if_pos n_54] | rw [if_neg n_54])
  intro v_64 hv_64
  subst hv_64
  refine e_iremV (y / 5) q C rfl rfl (by omega) (by omega) (by omega) dL_isTold_64 (fun r_64 er_64 hr_64 => ?_)
  rw [show r_64 = v by rw [er_64]; exact hv]
  refine e_iastN d C (cnt_fix (by decide)) (fun _ _ => rfl) rfl (by omega) (by decide) dL_isTold_65 ?_
  refine e_topM (fun M_65 hM_65 => ?_)
  refine e_aload_n (j := 4) C dL_isTold_66 rfl rfl ?_
  refine e_iload (j := 1) C dL_isTold_67 rfl ?_
  refine e_aload_n (j := 6) C dL_isTold_69 rfl rfl ?_
  refine e_iload (j := 1) C dL_isTold_70 rfl ?_
  refine e_ialdN d C (cnt_fix (by decide)) (fun _ => rfl) rfl (by omega) (by decide) dL_isTold_72 ?_
  rw [show M_65 12 d = (nI v) by rw [hM_65]; exact up_same _ _ _ _]
  rw [show M_65 = up M 12 d (nI v) from hM_65]
  refine e_cV (i := 0) (nA := 2) (Cn := RX2) C (c_X2_tell hl hd) hcall (cnt_fix (by decide)) (fun _ => rfl) rfl rfl mw_328 mw_325 mw_326 mw_327 mw_12 (by decide +kernel) (by decide) rfl rfl (Nat.le_of_ble_eq_true rfl) dL_isTold_73 (Nat.le_of_ble_eq_true rfl) (Nat.le_of_ble_eq_true rfl) ?_
  refine e_iload (j := 0) C dL_isTold_76 rfl ?_
  refine e_icmp_ne (tgt := 85) C dL_isTold_78 (by decide) (fun c_78 => absurd (hx.trans ex6_25.symm) c_78) (fun c_78 => ?_)
  refine e_iconst (v := 1) C dL_isTold_81 (by decide) ?_
  refine e_goto (tgt := 86) C dL_isTold_82 (by decide) ?_
  exact e_zret C rfl rfl (Nat.le_of_ble_eq_true rfl) (Nat.le_of_ble_eq_true rfl) dL_isTold_86 (pO.mk rfl)
set_option maxRecDepth 100000 in
set_option maxHeartbeats 1000000 in
theorem L_price_h {l : Launch} (hl : l.stackTraces = false) {ρ : Nat → Nat} {J : Nat → Int64} {M : Mem} {z y : Nat} (hz : z < 1000000000) (hy : z / 11 = y) (hway : z % 11 = 1) {g v : Nat} (hg : g < 4) (hg0 : y % 4 = g) (hv : 1 + y / 8 % 100 = v) (hh : y / 4 % 2 = 1) {x : Int32} {K : Mem} (hcall : o_price (up M 12 (9 + g) (nI v)) g (nI v) 1 = rI x K) (hx : x = M 12 (9 + g)) : CtO l yL_isTold cL_isTold 9 (some .boolean) 10 13 78 5 ρ J M [.ref (ρ 0), .ref (ρ 9), .ref (ρ 12), .int (nI z)] (rI 1 K) := by
  refine CtO.of hl (by decide +kernel) (Nat.le_of_ble_eq_true rfl) (fun Ξ hnL C => ?_)
  show E Ξ 5 ρ J M 0 0 0 [(0, .ref (ρ 0)), (1, .ref (ρ 9)), (2, .ref (ρ 12)), (3, .int (nI z))] []
  refine e_iload_n (j := 3) C dL_isTold_0 rfl rfl ?_
  refine e_bipush (v := 11) C dL_isTold_1 (by decide) ?_
  refine e_iremN z 11 1 C rfl rfl (by omega) (by omega) (by omega) hway dL_isTold_3 ?_
  refine e_istore (ls2 := [(4, .int 1), (0, .ref (ρ 0)), (1, .ref (ρ 9)), (2, .ref (ρ 12)), (3, .int (nI z))]) C hnL dL_isTold_4 (by decide) rfl ?_
  refine e_iload_n (j := 4) C dL_isTold_6 rfl rfl ?_
  refine e_bipush (v := 11) C dL_isTold_7 (by decide) ?_
  refine e_idivN z 11 y C rfl rfl (by omega) (by omega) (by omega) hy dL_isTold_9 ?_
  refine e_istore_n (ls2 := [(3, .int (nI y)), (4, .int 1), (0, .ref (ρ 0)), (1, .ref (ρ 9)), (2, .ref (ρ 12))]) C hnL dL_isTold_10 rfl (by decide) rfl ?_
  refine e_iload (j := 1) C dL_isTold_11 rfl ?_
  refine e_if_ne (tgt := 87) C dL_isTold_13 (by decide) (fun c_13 => ?_) (fun c_13 => absurd ((nI_eq (a := 1) (b := 0) (by omega) (by omega)).mp c_13) (by omega))
  refine e_iload (j := 1) C dL_isTold_87 rfl ?_
  refine e_iconst (v := 1) C dL_isTold_89 (by decide) ?_
  refine e_icmp_ne (tgt := 175) C dL_isTold_90 (by decide) (fun c_90 => absurd ((nI_eq (a := 1) (b := 1) (by omega) (by omega)).mpr (by omega)) c_90) (fun c_90 => ?_)
  refine e_iload_n (j := 0) C dL_isTold_93 rfl rfl ?_
  refine e_iconst (v := 4) C dL_isTold_94 (by decide) ?_
  refine e_iremN y 4 g C rfl rfl (by omega) (by omega) (by omega) hg0 dL_isTold_95 ?_
  refine e_istore (ls2 := [(5, .int (nI g)), (3, .int (nI y)), (4, .int 1), (0, .ref (ρ 0)), (1, .ref (ρ 9)), (2, .ref (ρ 12))]) C hnL dL_isTold_96 (by decide) rfl ?_
  refine e_iload_n (j := 1) C dL_isTold_98 rfl rfl ?_
  refine e_iconst (v := 4) C dL_isTold_99 (by decide) ?_
  refine e_idivN y 4 (y / 4) C rfl rfl (by omega) (by omega) (by omega) rfl dL_isTold_100 ?_
  refine e_iconst (v := 2) C dL_isTold_101 (by decide) ?_
  refine e_iremN (y / 4) 2 ((y / 4) % 2) C rfl rfl (by omega) (by omega) (by omega) rfl dL_isTold_102 ?_
  refine e_iconst (v := 1) C dL_isTold_103 (by decide) ?_
  refine e_icmp_ne (tgt := 111) C dL_isTold_104 (by decide) (fun c_104 => absurd ((nI_eq (a := ((y / 4) % 2)) (b := 1) (by omega) (by omega)).mpr (by omega)) c_104) (fun c_104 => ?_)
  refine e_iconst (v := 1) C dL_isTold_107 (by decide) ?_
  refine e_goto (tgt := 112) C dL_isTold_108 (by decide) ?_
  refine e_istore (ls2 := [(6, .int 1), (5, .int (nI g)), (3, .int (nI y)), (4, .int 1), (0, .ref (ρ 0)), (1, .ref (ρ 9)), (2, .ref (ρ 12))]) C hnL dL_isTold_112 (by decide) rfl ?_
  refine e_iload (j := 0) C dL_isTold_114 rfl ?_
  refine e_if_eq (tgt := 127) C dL_isTold_116 (by decide) (fun c_116 => absurd ((nI_eq (a := 1) (b := 0) (by omega) (by omega)).mp c_116) (by omega)) (fun c_116 => ?_)
  refine e_bipush (v := 9) C dL_isTold_119 (by decide) ?_
  refine e_iload (j := 1) C dL_isTold_121 rfl ?_
  refine e_iaddN 9 g (9 + g) C rfl rfl rfl dL_isTold_123 ?_
  refine e_goto (tgt := 131) C dL_isTold_124 (by decide) ?_
  refine e_istore (ls2 := [(7, .int (nI (9 + g))), (6, .int 1), (5, .int (nI g)), (3, .int (nI y)), (4, .int 1), (0, .ref (ρ 0)), (1, .ref (ρ 9)), (2, .ref (ρ 12))]) C hnL dL_isTold_131 (by decide) rfl ?_
  refine e_aload_n (j := 7) C dL_isTold_133 rfl rfl ?_
  refine e_iload (j := 0) C dL_isTold_134 rfl ?_
  refine e_ialdN (9 + g) C (cnt_fix (by decide)) (fun _ => rfl) rfl (by omega) (by decide) dL_isTold_136 ?_
  refine e_topi (fun x8_137 ex8_137 => ?_)
  refine e_istore (ls2 := [(8, .int x8_137), (7, .int (nI (9 + g))), (6, .int 1), (5, .int (nI g)), (3, .int (nI y)), (4, .int 1), (0, .ref (ρ 0)), (1, .ref (ρ 9)), (2, .ref (ρ 12))]) C hnL dL_isTold_137 (by decide) rfl ?_
  refine e_aload_n (j := 8) C dL_isTold_139 rfl rfl ?_
  refine e_iload (j := 1) C dL_isTold_140 rfl ?_
  refine e_iconst (v := 1) C dL_isTold_142 (by decide) ?_
  refine e_iload_n (j := 4) C dL_isTold_143 rfl rfl ?_
  refine e_bipush (v := 8) C dL_isTold_144 (by decide) ?_
  refine e_idivN y 8 (y / 8) C rfl rfl (by omega) (by omega) (by omega) rfl dL_isTold_146 ?_
  refine e_bipush (v := 100) C dL_isTold_147 (by decide) ?_
  refine e_iremN (y / 8) 100 ((y / 8) % 100) C rfl rfl (by omega) (by omega) (by omega) rfl dL_isTold_149 ?_
  refine e_iaddN 1 ((y / 8) % 100) v C rfl rfl hv dL_isTold_150 ?_
  refine e_iastN (9 + g) C (cnt_fix (by decide)) (fun _ _ => rfl) rfl (by omega) (by decide) dL_isTold_151 ?_
  refine e_topM (fun M_151 hM_151 => ?_)
  refine e_aload_n (j := 6) C dL_isTold_152 rfl rfl ?_
  refine e_iload (j := 3) C dL_isTold_153 rfl ?_
  refine e_aload_n (j := 8) C dL_isTold_155 rfl rfl ?_
  refine e_iload (j := 1) C dL_isTold_156 rfl ?_
  refine e_ialdN (9 + g) C (cnt_fix (by decide)) (fun _ => rfl) rfl (by omega) (by decide) dL_isTold_158 ?_
  rw [show M_151 12 (9 + g) = (nI v) by rw [hM_151]; exact up_same _ _ _ _]
  rw [show M_151 = up M 12 (9 + g) (nI v) from hM_151]
  refine e_iload (j := 2) C dL_isTold_159 rfl ?_
  refine e_cV (i := 0) (nA := 3) (Cn := RX2) C (c_X2_price hl hg) hcall (cnt_fix (by decide)) (fun _ => rfl) rfl rfl mw_332 mw_329 mw_330 mw_331 mw_12 (by decide +kernel) (by decide) rfl rfl (Nat.le_of_ble_eq_true rfl) dL_isTold_161 (Nat.le_of_ble_eq_true rfl) (Nat.le_of_ble_eq_true rfl) ?_
  refine e_iload (j := 0) C dL_isTold_164 rfl ?_
  refine e_icmp_ne (tgt := 173) C dL_isTold_166 (by decide) (fun c_166 => absurd (hx.trans ex8_137.symm) c_166) (fun c_166 => ?_)
  refine e_iconst (v := 1) C dL_isTold_169 (by decide) ?_
  refine e_goto (tgt := 174) C dL_isTold_170 (by decide) ?_
  exact e_zret C rfl rfl (Nat.le_of_ble_eq_true rfl) (Nat.le_of_ble_eq_true rfl) dL_isTold_174 (pO.mk rfl)
set_option maxRecDepth 100000 in
set_option maxHeartbeats 1000000 in
theorem L_price_s {l : Launch} (hl : l.stackTraces = false) {ρ : Nat → Nat} {J : Nat → Int64} {M : Mem} {z y : Nat} (hz : z < 1000000000) (hy : z / 11 = y) (hway : z % 11 = 1) {g v : Nat} (hg : g < 4) (hg0 : y % 4 = g) (hv : 1 + y / 8 % 100 = v) (hh : ¬ y / 4 % 2 = 1) {x : Int32} {K : Mem} (hcall : o_price (up M 12 (5 + g) (nI v)) g (nI v) 0 = rI x K) (hx : x = M 12 (5 + g)) : CtO l yL_isTold cL_isTold 9 (some .boolean) 10 13 78 5 ρ J M [.ref (ρ 0), .ref (ρ 9), .ref (ρ 12), .int (nI z)] (rI 1 K) := by
  refine CtO.of hl (by decide +kernel) (Nat.le_of_ble_eq_true rfl) (fun Ξ hnL C => ?_)
  show E Ξ 5 ρ J M 0 0 0 [(0, .ref (ρ 0)), (1, .ref (ρ 9)), (2, .ref (ρ 12)), (3, .int (nI z))] []
  refine e_iload_n (j := 3) C dL_isTold_0 rfl rfl ?_
  refine e_bipush (v := 11) C dL_isTold_1 (by decide) ?_
  refine e_iremN z 11 1 C rfl rfl (by omega) (by omega) (by omega) hway dL_isTold_3 ?_
  refine e_istore (ls2 := [(4, .int 1), (0, .ref (ρ 0)), (1, .ref (ρ 9)), (2, .ref (ρ 12)), (3, .int (nI z))]) C hnL dL_isTold_4 (by decide) rfl ?_
  refine e_iload_n (j := 4) C dL_isTold_6 rfl rfl ?_
  refine e_bipush (v := 11) C dL_isTold_7 (by decide) ?_
  refine e_idivN z 11 y C rfl rfl (by omega) (by omega) (by omega) hy dL_isTold_9 ?_
  refine e_istore_n (ls2 := [(3, .int (nI y)), (4, .int 1), (0, .ref (ρ 0)), (1, .ref (ρ 9)), (2, .ref (ρ 12))]) C hnL dL_isTold_10 rfl (by decide) rfl ?_
  refine e_iload (j := 1) C dL_isTold_11 rfl ?_
  refine e_if_ne (tgt := 87) C dL_isTold_13 (by decide) (fun c_13 => ?_) (fun c_13 => absurd ((nI_eq (a := 1) (b := 0) (by omega) (by omega)).mp c_13) (by omega))
  refine e_iload (j := 1) C dL_isTold_87 rfl ?_
  refine e_iconst (v := 1) C dL_isTold_89 (by decide) ?_
  refine e_icmp_ne (tgt := 175) C dL_isTold_90 (by decide) (fun c_90 => absurd ((nI_eq (a := 1) (b := 1) (by omega) (by omega)).mpr (by omega)) c_90) (fun c_90 => ?_)
  refine e_iload_n (j := 0) C dL_isTold_93 rfl rfl ?_
  refine e_iconst (v := 4) C dL_isTold_94 (by decide) ?_
  refine e_iremN y 4 g C rfl rfl (by omega) (by omega) (by omega) hg0 dL_isTold_95 ?_
  refine e_istore (ls2 := [(5, .int (nI g)), (3, .int (nI y)), (4, .int 1), (0, .ref (ρ 0)), (1, .ref (ρ 9)), (2, .ref (ρ 12))]) C hnL dL_isTold_96 (by decide) rfl ?_
  refine e_iload_n (j := 1) C dL_isTold_98 rfl rfl ?_
  refine e_iconst (v := 4) C dL_isTold_99 (by decide) ?_
  refine e_idivN y 4 (y / 4) C rfl rfl (by omega) (by omega) (by omega) rfl dL_isTold_100 ?_
  refine e_iconst (v := 2) C dL_isTold_101 (by decide) ?_
  refine e_iremN (y / 4) 2 ((y / 4) % 2) C rfl rfl (by omega) (by omega) (by omega) rfl dL_isTold_102 ?_
  refine e_iconst (v := 1) C dL_isTold_103 (by decide) ?_
  refine e_icmp_ne (tgt := 111) C dL_isTold_104 (by decide) (fun c_104 => ?_) (fun c_104 => absurd ((nI_eq (a := ((y / 4) % 2)) (b := 1) (by omega) (by omega)).mp c_104) (by omega))
  refine e_iconst (v := 0) C dL_isTold_111 (by decide) ?_
  refine e_istore (ls2 := [(6, .int 0), (5, .int (nI g)), (3, .int (nI y)), (4, .int 1), (0, .ref (ρ 0)), (1, .ref (ρ 9)), (2, .ref (ρ 12))]) C hnL dL_isTold_112 (by decide) rfl ?_
  refine e_iload (j := 0) C dL_isTold_114 rfl ?_
  refine e_if_eq (tgt := 127) C dL_isTold_116 (by decide) (fun c_116 => ?_) (fun c_116 => absurd ((nI_eq (a := 0) (b := 0) (by omega) (by omega)).mpr (by omega)) c_116)
  refine e_iconst (v := 5) C dL_isTold_127 (by decide) ?_
  refine e_iload (j := 1) C dL_isTold_128 rfl ?_
  refine e_iaddN 5 g (5 + g) C rfl rfl rfl dL_isTold_130 ?_
  refine e_istore (ls2 := [(7, .int (nI (5 + g))), (6, .int 0), (5, .int (nI g)), (3, .int (nI y)), (4, .int 1), (0, .ref (ρ 0)), (1, .ref (ρ 9)), (2, .ref (ρ 12))]) C hnL dL_isTold_131 (by decide) rfl ?_
  refine e_aload_n (j := 7) C dL_isTold_133 rfl rfl ?_
  refine e_iload (j := 0) C dL_isTold_134 rfl ?_
  refine e_ialdN (5 + g) C (cnt_fix (by decide)) (fun _ => rfl) rfl (by omega) (by decide) dL_isTold_136 ?_
  refine e_topi (fun x8_137 ex8_137 => ?_)
  refine e_istore (ls2 := [(8, .int x8_137), (7, .int (nI (5 + g))), (6, .int 0), (5, .int (nI g)), (3, .int (nI y)), (4, .int 1), (0, .ref (ρ 0)), (1, .ref (ρ 9)), (2, .ref (ρ 12))]) C hnL dL_isTold_137 (by decide) rfl ?_
  refine e_aload_n (j := 8) C dL_isTold_139 rfl rfl ?_
  refine e_iload (j := 1) C dL_isTold_140 rfl ?_
  refine e_iconst (v := 1) C dL_isTold_142 (by decide) ?_
  refine e_iload_n (j := 4) C dL_isTold_143 rfl rfl ?_
  refine e_bipush (v := 8) C dL_isTold_144 (by decide) ?_
  refine e_idivN y 8 (y / 8) C rfl rfl (by omega) (by omega) (by omega) rfl dL_isTold_146 ?_
  refine e_bipush (v := 100) C dL_isTold_147 (by decide) ?_
  refine e_iremN (y / 8) 100 ((y / 8) % 100) C rfl rfl (by omega) (by omega) (by omega) rfl dL_isTold_149 ?_
  refine e_iaddN 1 ((y / 8) % 100) v C rfl rfl hv dL_isTold_150 ?_
  refine e_iastN (5 + g) C (cnt_fix (by decide)) (fun _ _ => rfl) rfl (by omega) (by decide) dL_isTold_151 ?_
  refine e_topM (fun M_151 hM_151 => ?_)
  refine e_aload_n (j := 6) C dL_isTold_152 rfl rfl ?_
  refine e_iload (j := 3) C dL_isTold_153 rfl ?_
  refine e_aload_n (j := 8) C dL_isTold_155 rfl rfl ?_
  refine e_iload (j := 1) C dL_isTold_156 rfl ?_
  refine e_ialdN (5 + g) C (cnt_fix (by decide)) (fun _ => rfl) rfl (by omega) (by decide) dL_isTold_158 ?_
  rw [show M_151 12 (5 + g) = (nI v) by rw [hM_151]; exact up_same _ _ _ _]
  rw [show M_151 = up M 12 (5 + g) (nI v) from hM_151]
  refine e_iload (j := 2) C dL_isTold_159 rfl ?_
  refine e_cV (i := 0) (nA := 3) (Cn := RX2) C (c_X2_price hl hg) hcall (cnt_fix (by decide)) (fun _ => rfl) rfl rfl mw_332 mw_329 mw_330 mw_331 mw_12 (by decide +kernel) (by decide) rfl rfl (Nat.le_of_ble_eq_true rfl) dL_isTold_161 (Nat.le_of_ble_eq_true rfl) (Nat.le_of_ble_eq_true rfl) ?_
  refine e_iload (j := 0) C dL_isTold_164 rfl ?_
  refine e_icmp_ne (tgt := 173) C dL_isTold_166 (by decide) (fun c_166 => absurd (hx.trans ex8_137.symm) c_166) (fun c_166 => ?_)
  refine e_iconst (v := 1) C dL_isTold_169 (by decide) ?_
  refine e_goto (tgt := 174) C dL_isTold_170 (by decide) ?_
  exact e_zret C rfl rfl (Nat.le_of_ble_eq_true rfl) (Nat.le_of_ble_eq_true rfl) dL_isTold_174 (pO.mk rfl)
set_option maxRecDepth 100000 in
set_option maxHeartbeats 1000000 in
theorem L_dock {l : Launch} (hl : l.stackTraces = false) {ρ : Nat → Nat} {J : Nat → Int64} {M : Mem} {z y : Nat} (hz : z < 1000000000) (hy : z / 11 = y) (hway : z % 11 = 2) {v : Nat} (hv : y % 51 = v) {x : Int32} {K : Mem} (hcall : o_dock (up M 12 13 (nI v)) (nI v) = rI x K) (hx : x = M 12 13) : CtO l yL_isTold cL_isTold 9 (some .boolean) 10 13 78 5 ρ J M [.ref (ρ 0), .ref (ρ 9), .ref (ρ 12), .int (nI z)] (rI 1 K) := by
  refine CtO.of hl (by decide +kernel) (Nat.le_of_ble_eq_true rfl) (fun Ξ hnL C => ?_)
  show E Ξ 5 ρ J M 0 0 0 [(0, .ref (ρ 0)), (1, .ref (ρ 9)), (2, .ref (ρ 12)), (3, .int (nI z))] []
  refine e_iload_n (j := 3) C dL_isTold_0 rfl rfl ?_
  refine e_bipush (v := 11) C dL_isTold_1 (by decide) ?_
  refine e_iremN z 11 2 C rfl rfl (by omega) (by omega) (by omega) hway dL_isTold_3 ?_
  refine e_istore (ls2 := [(4, .int 2), (0, .ref (ρ 0)), (1, .ref (ρ 9)), (2, .ref (ρ 12)), (3, .int (nI z))]) C hnL dL_isTold_4 (by decide) rfl ?_
  refine e_iload_n (j := 4) C dL_isTold_6 rfl rfl ?_
  refine e_bipush (v := 11) C dL_isTold_7 (by decide) ?_
  refine e_idivN z 11 y C rfl rfl (by omega) (by omega) (by omega) hy dL_isTold_9 ?_
  refine e_istore_n (ls2 := [(3, .int (nI y)), (4, .int 2), (0, .ref (ρ 0)), (1, .ref (ρ 9)), (2, .ref (ρ 12))]) C hnL dL_isTold_10 rfl (by decide) rfl ?_
  refine e_iload (j := 1) C dL_isTold_11 rfl ?_
  refine e_if_ne (tgt := 87) C dL_isTold_13 (by decide) (fun c_13 => ?_) (fun c_13 => absurd ((nI_eq (a := 2) (b := 0) (by omega) (by omega)).mp c_13) (by omega))
  refine e_iload (j := 1) C dL_isTold_87 rfl ?_
  refine e_iconst (v := 1) C dL_isTold_89 (by decide) ?_
  refine e_icmp_ne (tgt := 175) C dL_isTold_90 (by decide) (fun c_90 => ?_) (fun c_90 => absurd ((nI_eq (a := 2) (b := 1) (by omega) (by omega)).mp c_90) (by omega))
  refine e_iload (j := 1) C dL_isTold_175 rfl ?_
  refine e_iconst (v := 2) C dL_isTold_177 (by decide) ?_
  refine e_icmp_ne (tgt := 214) C dL_isTold_178 (by decide) (fun c_178 => absurd ((nI_eq (a := 2) (b := 2) (by omega) (by omega)).mpr (by omega)) c_178) (fun c_178 => ?_)
  refine e_aload_n (j := 4) C dL_isTold_181 rfl rfl ?_
  refine e_bipush (v := 13) C dL_isTold_182 (by decide) ?_
  refine e_ialdN 13 C (cnt_fix (by decide)) (fun _ => rfl) rfl (by decide) (by decide) dL_isTold_184 ?_
  refine e_topi (fun x5_185 ex5_185 => ?_)
  refine e_istore (ls2 := [(5, .int x5_185), (3, .int (nI y)), (4, .int 2), (0, .ref (ρ 0)), (1, .ref (ρ 9)), (2, .ref (ρ 12))]) C hnL dL_isTold_185 (by decide) rfl ?_
  refine e_aload_n (j := 5) C dL_isTold_187 rfl rfl ?_
  refine e_bipush (v := 13) C dL_isTold_188 (by decide) ?_
  refine e_iload_n (j := 1) C dL_isTold_190 rfl rfl ?_
  refine e_bipush (v := 51) C dL_isTold_191 (by decide) ?_
  refine e_iremN y 51 v C rfl rfl (by omega) (by omega) (by omega) hv dL_isTold_193 ?_
  refine e_iastN 13 C (cnt_fix (by decide)) (fun _ _ => rfl) rfl (by decide) (by decide) dL_isTold_194 ?_
  refine e_topM (fun M_194 hM_194 => ?_)
  refine e_aload_n (j := 3) C dL_isTold_195 rfl rfl ?_
  refine e_aload_n (j := 5) C dL_isTold_196 rfl rfl ?_
  refine e_bipush (v := 13) C dL_isTold_197 (by decide) ?_
  refine e_ialdN 13 C (cnt_fix (by decide)) (fun _ => rfl) rfl (by decide) (by decide) dL_isTold_199 ?_
  rw [show M_194 12 13 = (nI v) by rw [hM_194]; exact up_same _ _ _ _]
  rw [show M_194 = up M 12 13 (nI v) from hM_194]
  refine e_cV (i := 0) (nA := 1) (Cn := RX2) C (c_X2_dock hl) hcall (cnt_fix (by decide)) (fun _ => rfl) rfl rfl mw_336 mw_333 mw_334 mw_335 mw_12 (by decide +kernel) (by decide) rfl rfl (Nat.le_of_ble_eq_true rfl) dL_isTold_200 (Nat.le_of_ble_eq_true rfl) (Nat.le_of_ble_eq_true rfl) ?_
  refine e_iload (j := 0) C dL_isTold_203 rfl ?_
  refine e_icmp_ne (tgt := 212) C dL_isTold_205 (by decide) (fun c_205 => absurd (hx.trans ex5_185.symm) c_205) (fun c_205 => ?_)
  refine e_iconst (v := 1) C dL_isTold_208 (by decide) ?_
  refine e_goto (tgt := 213) C dL_isTold_209 (by decide) ?_
  exact e_zret C rfl rfl (Nat.le_of_ble_eq_true rfl) (Nat.le_of_ble_eq_true rfl) dL_isTold_213 (pO.mk rfl)
set_option maxRecDepth 100000 in
set_option maxHeartbeats 1000000 in
theorem L_limit {l : Launch} (hl : l.stackTraces = false) {ρ : Nat → Nat} {J : Nat → Int64} {M : Mem} {z y : Nat} (hz : z < 1000000000) (hy : z / 11 = y) (hway : z % 11 = 5) {v : Nat} (hv : y % 1001 = v) {x : Int32} {K : Mem} (hcall : o_limit (up M 12 17 (nI v)) (nI v) = rI x K) (hx : x = M 12 17) : CtO l yL_isTold cL_isTold 9 (some .boolean) 10 13 78 5 ρ J M [.ref (ρ 0), .ref (ρ 9), .ref (ρ 12), .int (nI z)] (rI 1 K) := by
  refine CtO.of hl (by decide +kernel) (Nat.le_of_ble_eq_true rfl) (fun Ξ hnL C => ?_)
  show E Ξ 5 ρ J M 0 0 0 [(0, .ref (ρ 0)), (1, .ref (ρ 9)), (2, .ref (ρ 12)), (3, .int (nI z))] []
  refine e_iload_n (j := 3) C dL_isTold_0 rfl rfl ?_
  refine e_bipush (v := 11) C dL_isTold_1 (by decide) ?_
  refine e_iremN z 11 5 C rfl rfl (by omega) (by omega) (by omega) hway dL_isTold_3 ?_
  refine e_istore (ls2 := [(4, .int 5), (0, .ref (ρ 0)), (1, .ref (ρ 9)), (2, .ref (ρ 12)), (3, .int (nI z))]) C hnL dL_isTold_4 (by decide) rfl ?_
  refine e_iload_n (j := 4) C dL_isTold_6 rfl rfl ?_
  refine e_bipush (v := 11) C dL_isTold_7 (by decide) ?_
  refine e_idivN z 11 y C rfl rfl (by omega) (by omega) (by omega) hy dL_isTold_9 ?_
  refine e_istore_n (ls2 := [(3, .int (nI y)), (4, .int 5), (0, .ref (ρ 0)), (1, .ref (ρ 9)), (2, .ref (ρ 12))]) C hnL dL_isTold_10 rfl (by decide) rfl ?_
  refine e_iload (j := 1) C dL_isTold_11 rfl ?_
  refine e_if_ne (tgt := 87) C dL_isTold_13 (by decide) (fun c_13 => ?_) (fun c_13 => absurd ((nI_eq (a := 5) (b := 0) (by omega) (by omega)).mp c_13) (by omega))
  refine e_iload (j := 1) C dL_isTold_87 rfl ?_
  refine e_iconst (v := 1) C dL_isTold_89 (by decide) ?_
  refine e_icmp_ne (tgt := 175) C dL_isTold_90 (by decide) (fun c_90 => ?_) (fun c_90 => absurd ((nI_eq (a := 5) (b := 1) (by omega) (by omega)).mp c_90) (by omega))
  refine e_iload (j := 1) C dL_isTold_175 rfl ?_
  refine e_iconst (v := 2) C dL_isTold_177 (by decide) ?_
  refine e_icmp_ne (tgt := 214) C dL_isTold_178 (by decide) (fun c_178 => ?_) (fun c_178 => absurd ((nI_eq (a := 5) (b := 2) (by omega) (by omega)).mp c_178) (by omega))
  refine e_iload (j := 1) C dL_isTold_214 rfl ?_
  refine e_iconst (v := 3) C dL_isTold_216 (by decide) ?_
  refine e_icmp_ne (tgt := 270) C dL_isTold_217 (by decide) (fun c_217 => ?_) (fun c_217 => absurd ((nI_eq (a := 5) (b := 3) (by omega) (by omega)).mp c_217) (by omega))
  refine e_iload (j := 1) C dL_isTold_270 rfl ?_
  refine e_iconst (v := 4) C dL_isTold_272 (by decide) ?_
  refine e_icmp_ne (tgt := 367) C dL_isTold_273 (by decide) (fun c_273 => ?_) (fun c_273 => absurd ((nI_eq (a := 5) (b := 4) (by omega) (by omega)).mp c_273) (by omega))
  refine e_iload (j := 1) C dL_isTold_367 rfl ?_
  refine e_iconst (v := 5) C dL_isTold_369 (by decide) ?_
  refine e_icmp_ne (tgt := 407) C dL_isTold_370 (by decide) (fun c_370 => absurd ((nI_eq (a := 5) (b := 5) (by omega) (by omega)).mpr (by omega)) c_370) (fun c_370 => ?_)
  refine e_aload_n (j := 4) C dL_isTold_373 rfl rfl ?_
  refine e_bipush (v := 17) C dL_isTold_374 (by decide) ?_
  refine e_ialdN 17 C (cnt_fix (by decide)) (fun _ => rfl) rfl (by decide) (by decide) dL_isTold_376 ?_
  refine e_topi (fun x5_377 ex5_377 => ?_)
  refine e_istore (ls2 := [(5, .int x5_377), (3, .int (nI y)), (4, .int 5), (0, .ref (ρ 0)), (1, .ref (ρ 9)), (2, .ref (ρ 12))]) C hnL dL_isTold_377 (by decide) rfl ?_
  refine e_aload_n (j := 5) C dL_isTold_379 rfl rfl ?_
  refine e_bipush (v := 17) C dL_isTold_380 (by decide) ?_
  refine e_iload_n (j := 1) C dL_isTold_382 rfl rfl ?_
  refine e_sipush (v := 1001) C dL_isTold_383 (by decide) ?_
  refine e_iremN y 1001 v C rfl rfl (by omega) (by omega) (by omega) hv dL_isTold_386 ?_
  refine e_iastN 17 C (cnt_fix (by decide)) (fun _ _ => rfl) rfl (by decide) (by decide) dL_isTold_387 ?_
  refine e_topM (fun M_387 hM_387 => ?_)
  refine e_aload_n (j := 3) C dL_isTold_388 rfl rfl ?_
  refine e_aload_n (j := 5) C dL_isTold_389 rfl rfl ?_
  refine e_bipush (v := 17) C dL_isTold_390 (by decide) ?_
  refine e_ialdN 17 C (cnt_fix (by decide)) (fun _ => rfl) rfl (by decide) (by decide) dL_isTold_392 ?_
  rw [show M_387 12 17 = (nI v) by rw [hM_387]; exact up_same _ _ _ _]
  rw [show M_387 = up M 12 17 (nI v) from hM_387]
  refine e_cV (i := 0) (nA := 1) (Cn := RX2) C (c_X2_limit hl) hcall (cnt_fix (by decide)) (fun _ => rfl) rfl rfl mw_351 mw_348 mw_349 mw_350 mw_12 (by decide +kernel) (by decide) rfl rfl (Nat.le_of_ble_eq_true rfl) dL_isTold_393 (Nat.le_of_ble_eq_true rfl) (Nat.le_of_ble_eq_true rfl) ?_
  refine e_iload (j := 0) C dL_isTold_396 rfl ?_
  refine e_icmp_ne (tgt := 405) C dL_isTold_398 (by decide) (fun c_398 => absurd (hx.trans ex5_377.symm) c_398) (fun c_398 => ?_)
  refine e_iconst (v := 1) C dL_isTold_401 (by decide) ?_
  refine e_goto (tgt := 406) C dL_isTold_402 (by decide) ?_
  exact e_zret C rfl rfl (Nat.le_of_ble_eq_true rfl) (Nat.le_of_ble_eq_true rfl) dL_isTold_406 (pO.mk rfl)
set_option maxRecDepth 100000 in
set_option maxHeartbeats 1000000 in
theorem L_discount {l : Launch} (hl : l.stackTraces = false) {ρ : Nat → Nat} {J : Nat → Int64} {M : Mem} {z y : Nat} (hz : z < 1000000000) (hy : z / 11 = y) (hway : z % 11 = 6) {v : Nat} (hv : y % 91 = v) {x : Int32} {K : Mem} (hcall : o_discount (up M 12 18 (nI v)) (nI v) = rI x K) (hx : x = M 12 18) : CtO l yL_isTold cL_isTold 9 (some .boolean) 10 13 78 5 ρ J M [.ref (ρ 0), .ref (ρ 9), .ref (ρ 12), .int (nI z)] (rI 1 K) := by
  refine CtO.of hl (by decide +kernel) (Nat.le_of_ble_eq_true rfl) (fun Ξ hnL C => ?_)
  show E Ξ 5 ρ J M 0 0 0 [(0, .ref (ρ 0)), (1, .ref (ρ 9)), (2, .ref (ρ 12)), (3, .int (nI z))] []
  refine e_iload_n (j := 3) C dL_isTold_0 rfl rfl ?_
  refine e_bipush (v := 11) C dL_isTold_1 (by decide) ?_
  refine e_iremN z 11 6 C rfl rfl (by omega) (by omega) (by omega) hway dL_isTold_3 ?_
  refine e_istore (ls2 := [(4, .int 6), (0, .ref (ρ 0)), (1, .ref (ρ 9)), (2, .ref (ρ 12)), (3, .int (nI z))]) C hnL dL_isTold_4 (by decide) rfl ?_
  refine e_iload_n (j := 4) C dL_isTold_6 rfl rfl ?_
  refine e_bipush (v := 11) C dL_isTold_7 (by decide) ?_
  refine e_idivN z 11 y C rfl rfl (by omega) (by omega) (by omega) hy dL_isTold_9 ?_
  refine e_istore_n (ls2 := [(3, .int (nI y)), (4, .int 6), (0, .ref (ρ 0)), (1, .ref (ρ 9)), (2, .ref (ρ 12))]) C hnL dL_isTold_10 rfl (by decide) rfl ?_
  refine e_iload (j := 1) C dL_isTold_11 rfl ?_
  refine e_if_ne (tgt := 87) C dL_isTold_13 (by decide) (fun c_13 => ?_) (fun c_13 => absurd ((nI_eq (a := 6) (b := 0) (by omega) (by omega)).mp c_13) (by omega))
  refine e_iload (j := 1) C dL_isTold_87 rfl ?_
  refine e_iconst (v := 1) C dL_isTold_89 (by decide) ?_
  refine e_icmp_ne (tgt := 175) C dL_isTold_90 (by decide) (fun c_90 => ?_) (fun c_90 => absurd ((nI_eq (a := 6) (b := 1) (by omega) (by omega)).mp c_90) (by omega))
  refine e_iload (j := 1) C dL_isTold_175 rfl ?_
  refine e_iconst (v := 2) C dL_isTold_177 (by decide) ?_
  refine e_icmp_ne (tgt := 214) C dL_isTold_178 (by decide) (fun c_178 => ?_) (fun c_178 => absurd ((nI_eq (a := 6) (b := 2) (by omega) (by omega)).mp c_178) (by omega))
  refine e_iload (j := 1) C dL_isTold_214 rfl ?_
  refine e_iconst (v := 3) C dL_isTold_216 (by decide) ?_
  refine e_icmp_ne (tgt := 270) C dL_isTold_217 (by decide) (fun c_217 => ?_) (fun c_217 => absurd ((nI_eq (a := 6) (b := 3) (by omega) (by omega)).mp c_217) (by omega))
  refine e_iload (j := 1) C dL_isTold_270 rfl ?_
  refine e_iconst (v := 4) C dL_isTold_272 (by decide) ?_
  refine e_icmp_ne (tgt := 367) C dL_isTold_273 (by decide) (fun c_273 => ?_) (fun c_273 => absurd ((nI_eq (a := 6) (b := 4) (by omega) (by omega)).mp c_273) (by omega))
  refine e_iload (j := 1) C dL_isTold_367 rfl ?_
  refine e_iconst (v := 5) C dL_isTold_369 (by decide) ?_
  refine e_icmp_ne (tgt := 407) C dL_isTold_370 (by decide) (fun c_370 => ?_) (fun c_370 => absurd ((nI_eq (a := 6) (b := 5) (by omega) (by omega)).mp c_370) (by omega))
  refine e_iload (j := 1) C dL_isTold_407 rfl ?_
  refine e_bipush (v := 6) C dL_isTold_409 (by decide) ?_
  refine e_icmp_ne (tgt := 447) C dL_isTold_411 (by decide) (fun c_411 => absurd ((nI_eq (a := 6) (b := 6) (by omega) (by omega)).mpr (by omega)) c_411) (fun c_411 => ?_)
  refine e_aload_n (j := 4) C dL_isTold_414 rfl rfl ?_
  refine e_bipush (v := 18) C dL_isTold_415 (by decide) ?_
  refine e_ialdN 18 C (cnt_fix (by decide)) (fun _ => rfl) rfl (by decide) (by decide) dL_isTold_417 ?_
  refine e_topi (fun x5_418 ex5_418 => ?_)
  refine e_istore (ls2 := [(5, .int x5_418), (3, .int (nI y)), (4, .int 6), (0, .ref (ρ 0)), (1, .ref (ρ 9)), (2, .ref (ρ 12))]) C hnL dL_isTold_418 (by decide) rfl ?_
  refine e_aload_n (j := 5) C dL_isTold_420 rfl rfl ?_
  refine e_bipush (v := 18) C dL_isTold_421 (by decide) ?_
  refine e_iload_n (j := 1) C dL_isTold_423 rfl rfl ?_
  refine e_bipush (v := 91) C dL_isTold_424 (by decide) ?_
  refine e_iremN y 91 v C rfl rfl (by omega) (by omega) (by omega) hv dL_isTold_426 ?_
  refine e_iastN 18 C (cnt_fix (by decide)) (fun _ _ => rfl) rfl (by decide) (by decide) dL_isTold_427 ?_
  refine e_topM (fun M_427 hM_427 => ?_)
  refine e_aload_n (j := 3) C dL_isTold_428 rfl rfl ?_
  refine e_aload_n (j := 5) C dL_isTold_429 rfl rfl ?_
  refine e_bipush (v := 18) C dL_isTold_430 (by decide) ?_
  refine e_ialdN 18 C (cnt_fix (by decide)) (fun _ => rfl) rfl (by decide) (by decide) dL_isTold_432 ?_
  rw [show M_427 12 18 = (nI v) by rw [hM_427]; exact up_same _ _ _ _]
  rw [show M_427 = up M 12 18 (nI v) from hM_427]
  refine e_cV (i := 0) (nA := 1) (Cn := RX2) C (c_X2_discount hl) hcall (cnt_fix (by decide)) (fun _ => rfl) rfl rfl mw_355 mw_352 mw_353 mw_354 mw_12 (by decide +kernel) (by decide) rfl rfl (Nat.le_of_ble_eq_true rfl) dL_isTold_433 (Nat.le_of_ble_eq_true rfl) (Nat.le_of_ble_eq_true rfl) ?_
  refine e_iload (j := 0) C dL_isTold_436 rfl ?_
  refine e_icmp_ne (tgt := 445) C dL_isTold_438 (by decide) (fun c_438 => absurd (hx.trans ex5_418.symm) c_438) (fun c_438 => ?_)
  refine e_iconst (v := 1) C dL_isTold_441 (by decide) ?_
  refine e_goto (tgt := 446) C dL_isTold_442 (by decide) ?_
  exact e_zret C rfl rfl (Nat.le_of_ble_eq_true rfl) (Nat.le_of_ble_eq_true rfl) dL_isTold_446 (pO.mk rfl)
set_option maxRecDepth 100000 in
set_option maxHeartbeats 1000000 in
theorem L_edition_0 {l : Launch} (hl : l.stackTraces = false) {ρ : Nat → Nat} {J : Nat → Int64} {M : Mem} {z y : Nat} (hz : z < 1000000000) (hy : z / 11 = y) (hway : z % 11 = 4) (hv : y % 6 = 0) {x : Int32} {K : Mem} (hcall : o_edition (up M 12 15 12345) 12345 = rI x K) (hx : x = M 12 15) : CtO l yL_isTold cL_isTold 9 (some .boolean) 10 13 78 5 ρ J M [.ref (ρ 0), .ref (ρ 9), .ref (ρ 12), .int (nI z)] (rI 1 K) := by
  refine CtO.of hl (by decide +kernel) (Nat.le_of_ble_eq_true rfl) (fun Ξ hnL C => ?_)
  show E Ξ 5 ρ J M 0 0 0 [(0, .ref (ρ 0)), (1, .ref (ρ 9)), (2, .ref (ρ 12)), (3, .int (nI z))] []
  refine e_iload_n (j := 3) C dL_isTold_0 rfl rfl ?_
  refine e_bipush (v := 11) C dL_isTold_1 (by decide) ?_
  refine e_iremN z 11 4 C rfl rfl (by omega) (by omega) (by omega) hway dL_isTold_3 ?_
  refine e_istore (ls2 := [(4, .int 4), (0, .ref (ρ 0)), (1, .ref (ρ 9)), (2, .ref (ρ 12)), (3, .int (nI z))]) C hnL dL_isTold_4 (by decide) rfl ?_
  refine e_iload_n (j := 4) C dL_isTold_6 rfl rfl ?_
  refine e_bipush (v := 11) C dL_isTold_7 (by decide) ?_
  refine e_idivN z 11 y C rfl rfl (by omega) (by omega) (by omega) hy dL_isTold_9 ?_
  refine e_istore_n (ls2 := [(3, .int (nI y)), (4, .int 4), (0, .ref (ρ 0)), (1, .ref (ρ 9)), (2, .ref (ρ 12))]) C hnL dL_isTold_10 rfl (by decide) rfl ?_
  refine e_iload (j := 1) C dL_isTold_11 rfl ?_
  refine e_if_ne (tgt := 87) C dL_isTold_13 (by decide) (fun c_13 => ?_) (fun c_13 => absurd ((nI_eq (a := 4) (b := 0) (by omega) (by omega)).mp c_13) (by omega))
  refine e_iload (j := 1) C dL_isTold_87 rfl ?_
  refine e_iconst (v := 1) C dL_isTold_89 (by decide) ?_
  refine e_icmp_ne (tgt := 175) C dL_isTold_90 (by decide) (fun c_90 => ?_) (fun c_90 => absurd ((nI_eq (a := 4) (b := 1) (by omega) (by omega)).mp c_90) (by omega))
  refine e_iload (j := 1) C dL_isTold_175 rfl ?_
  refine e_iconst (v := 2) C dL_isTold_177 (by decide) ?_
  refine e_icmp_ne (tgt := 214) C dL_isTold_178 (by decide) (fun c_178 => ?_) (fun c_178 => absurd ((nI_eq (a := 4) (b := 2) (by omega) (by omega)).mp c_178) (by omega))
  refine e_iload (j := 1) C dL_isTold_214 rfl ?_
  refine e_iconst (v := 3) C dL_isTold_216 (by decide) ?_
  refine e_icmp_ne (tgt := 270) C dL_isTold_217 (by decide) (fun c_217 => ?_) (fun c_217 => absurd ((nI_eq (a := 4) (b := 3) (by omega) (by omega)).mp c_217) (by omega))
  refine e_iload (j := 1) C dL_isTold_270 rfl ?_
  refine e_iconst (v := 4) C dL_isTold_272 (by decide) ?_
  refine e_icmp_ne (tgt := 367) C dL_isTold_273 (by decide) (fun c_273 => absurd ((nI_eq (a := 4) (b := 4) (by omega) (by omega)).mpr (by omega)) c_273) (fun c_273 => ?_)
  refine e_aload_n (j := 4) C dL_isTold_276 rfl rfl ?_
  refine e_bipush (v := 15) C dL_isTold_277 (by decide) ?_
  refine e_ialdN 15 C (cnt_fix (by decide)) (fun _ => rfl) rfl (by decide) (by decide) dL_isTold_279 ?_
  refine e_topi (fun x5_280 ex5_280 => ?_)
  refine e_istore (ls2 := [(5, .int x5_280), (3, .int (nI y)), (4, .int 4), (0, .ref (ρ 0)), (1, .ref (ρ 9)), (2, .ref (ρ 12))]) C hnL dL_isTold_280 (by decide) rfl ?_
  refine e_iload_n (j := 1) C dL_isTold_282 rfl rfl ?_
  refine e_bipush (v := 6) C dL_isTold_283 (by decide) ?_
  refine e_iremN y 6 0 C rfl rfl (by omega) (by omega) (by omega) hv dL_isTold_285 ?_
  refine e_istore (ls2 := [(6, .int 0), (5, .int x5_280), (3, .int (nI y)), (4, .int 4), (0, .ref (ρ 0)), (1, .ref (ρ 9)), (2, .ref (ρ 12))]) C hnL dL_isTold_286 (by decide) rfl ?_
  refine e_aload_n (j := 6) C dL_isTold_288 rfl rfl ?_
  refine e_bipush (v := 15) C dL_isTold_289 (by decide) ?_
  refine e_iload (j := 0) C dL_isTold_291 rfl ?_
  refine e_if_ne (tgt := 302) C dL_isTold_293 (by decide) (fun c_293 => absurd ((nI_eq (a := 0) (b := 0) (by omega) (by omega)).mpr (by omega)) c_293) (fun c_293 => ?_)
  refine e_sipush (v := 12345) C dL_isTold_296 (by decide) ?_
  refine e_goto (tgt := 347) C dL_isTold_299 (by decide) ?_
  refine e_iastN 15 C (cnt_fix (by decide)) (fun _ _ => rfl) rfl (by decide) (by decide) dL_isTold_347 ?_
  refine e_topM (fun M_347 hM_347 => ?_)
  refine e_aload_n (j := 4) C dL_isTold_348 rfl rfl ?_
  refine e_aload_n (j := 6) C dL_isTold_349 rfl rfl ?_
  refine e_bipush (v := 15) C dL_isTold_350 (by decide) ?_
  refine e_ialdN 15 C (cnt_fix (by decide)) (fun _ => rfl) rfl (by decide) (by decide) dL_isTold_352 ?_
  rw [show M_347 12 15 = 12345 by rw [hM_347]; exact up_same _ _ _ _]
  rw [show M_347 = up M 12 15 12345 from hM_347]
  refine e_cV (i := 0) (nA := 1) (Cn := RX2) C (c_X2_edition hl) hcall (cnt_fix (by decide)) (fun _ => rfl) rfl rfl mw_344 mw_341 mw_342 mw_343 mw_12 (by decide +kernel) (by decide) rfl rfl (Nat.le_of_ble_eq_true rfl) dL_isTold_353 (Nat.le_of_ble_eq_true rfl) (Nat.le_of_ble_eq_true rfl) ?_
  refine e_iload (j := 1) C dL_isTold_356 rfl ?_
  refine e_icmp_ne (tgt := 365) C dL_isTold_358 (by decide) (fun c_358 => absurd (hx.trans ex5_280.symm) c_358) (fun c_358 => ?_)
  refine e_iconst (v := 1) C dL_isTold_361 (by decide) ?_
  refine e_goto (tgt := 366) C dL_isTold_362 (by decide) ?_
  exact e_zret C rfl rfl (Nat.le_of_ble_eq_true rfl) (Nat.le_of_ble_eq_true rfl) dL_isTold_366 (pO.mk rfl)
set_option maxRecDepth 100000 in
set_option maxHeartbeats 1000000 in
theorem L_edition_1 {l : Launch} (hl : l.stackTraces = false) {ρ : Nat → Nat} {J : Nat → Int64} {M : Mem} {z y : Nat} (hz : z < 1000000000) (hy : z / 11 = y) (hway : z % 11 = 4) (hv : y % 6 = 1) {x : Int32} {K : Mem} (hcall : o_edition (up M 12 15 54321) 54321 = rI x K) (hx : x = M 12 15) : CtO l yL_isTold cL_isTold 9 (some .boolean) 10 13 78 5 ρ J M [.ref (ρ 0), .ref (ρ 9), .ref (ρ 12), .int (nI z)] (rI 1 K) := by
  refine CtO.of hl (by decide +kernel) (Nat.le_of_ble_eq_true rfl) (fun Ξ hnL C => ?_)
  show E Ξ 5 ρ J M 0 0 0 [(0, .ref (ρ 0)), (1, .ref (ρ 9)), (2, .ref (ρ 12)), (3, .int (nI z))] []
  refine e_iload_n (j := 3) C dL_isTold_0 rfl rfl ?_
  refine e_bipush (v := 11) C dL_isTold_1 (by decide) ?_
  refine e_iremN z 11 4 C rfl rfl (by omega) (by omega) (by omega) hway dL_isTold_3 ?_
  refine e_istore (ls2 := [(4, .int 4), (0, .ref (ρ 0)), (1, .ref (ρ 9)), (2, .ref (ρ 12)), (3, .int (nI z))]) C hnL dL_isTold_4 (by decide) rfl ?_
  refine e_iload_n (j := 4) C dL_isTold_6 rfl rfl ?_
  refine e_bipush (v := 11) C dL_isTold_7 (by decide) ?_
  refine e_idivN z 11 y C rfl rfl (by omega) (by omega) (by omega) hy dL_isTold_9 ?_
  refine e_istore_n (ls2 := [(3, .int (nI y)), (4, .int 4), (0, .ref (ρ 0)), (1, .ref (ρ 9)), (2, .ref (ρ 12))]) C hnL dL_isTold_10 rfl (by decide) rfl ?_
  refine e_iload (j := 1) C dL_isTold_11 rfl ?_
  refine e_if_ne (tgt := 87) C dL_isTold_13 (by decide) (fun c_13 => ?_) (fun c_13 => absurd ((nI_eq (a := 4) (b := 0) (by omega) (by omega)).mp c_13) (by omega))
  refine e_iload (j := 1) C dL_isTold_87 rfl ?_
  refine e_iconst (v := 1) C dL_isTold_89 (by decide) ?_
  refine e_icmp_ne (tgt := 175) C dL_isTold_90 (by decide) (fun c_90 => ?_) (fun c_90 => absurd ((nI_eq (a := 4) (b := 1) (by omega) (by omega)).mp c_90) (by omega))
  refine e_iload (j := 1) C dL_isTold_175 rfl ?_
  refine e_iconst (v := 2) C dL_isTold_177 (by decide) ?_
  refine e_icmp_ne (tgt := 214) C dL_isTold_178 (by decide) (fun c_178 => ?_) (fun c_178 => absurd ((nI_eq (a := 4) (b := 2) (by omega) (by omega)).mp c_178) (by omega))
  refine e_iload (j := 1) C dL_isTold_214 rfl ?_
  refine e_iconst (v := 3) C dL_isTold_216 (by decide) ?_
  refine e_icmp_ne (tgt := 270) C dL_isTold_217 (by decide) (fun c_217 => ?_) (fun c_217 => absurd ((nI_eq (a := 4) (b := 3) (by omega) (by omega)).mp c_217) (by omega))
  refine e_iload (j := 1) C dL_isTold_270 rfl ?_
  refine e_iconst (v := 4) C dL_isTold_272 (by decide) ?_
  refine e_icmp_ne (tgt := 367) C dL_isTold_273 (by decide) (fun c_273 => absurd ((nI_eq (a := 4) (b := 4) (by omega) (by omega)).mpr (by omega)) c_273) (fun c_273 => ?_)
  refine e_aload_n (j := 4) C dL_isTold_276 rfl rfl ?_
  refine e_bipush (v := 15) C dL_isTold_277 (by decide) ?_
  refine e_ialdN 15 C (cnt_fix (by decide)) (fun _ => rfl) rfl (by decide) (by decide) dL_isTold_279 ?_
  refine e_topi (fun x5_280 ex5_280 => ?_)
  refine e_istore (ls2 := [(5, .int x5_280), (3, .int (nI y)), (4, .int 4), (0, .ref (ρ 0)), (1, .ref (ρ 9)), (2, .ref (ρ 12))]) C hnL dL_isTold_280 (by decide) rfl ?_
  refine e_iload_n (j := 1) C dL_isTold_282 rfl rfl ?_
  refine e_bipush (v := 6) C dL_isTold_283 (by decide) ?_
  refine e_iremN y 6 1 C rfl rfl (by omega) (by omega) (by omega) hv dL_isTold_285 ?_
  refine e_istore (ls2 := [(6, .int 1), (5, .int x5_280), (3, .int (nI y)), (4, .int 4), (0, .ref (ρ 0)), (1, .ref (ρ 9)), (2, .ref (ρ 12))]) C hnL dL_isTold_286 (by decide) rfl ?_
  refine e_aload_n (j := 6) C dL_isTold_288 rfl rfl ?_
  refine e_bipush (v := 15) C dL_isTold_289 (by decide) ?_
  refine e_iload (j := 0) C dL_isTold_291 rfl ?_
  refine e_if_ne (tgt := 302) C dL_isTold_293 (by decide) (fun c_293 => ?_) (fun c_293 => absurd ((nI_eq (a := 1) (b := 0) (by omega) (by omega)).mp c_293) (by omega))
  refine e_iload (j := 0) C dL_isTold_302 rfl ?_
  refine e_iconst (v := 1) C dL_isTold_304 (by decide) ?_
  refine e_icmp_ne (tgt := 313) C dL_isTold_305 (by decide) (fun c_305 => absurd ((nI_eq (a := 1) (b := 1) (by omega) (by omega)).mpr (by omega)) c_305) (fun c_305 => ?_)
  refine e_ldc (v := 54321) C dL_isTold_308 mw_324 ?_
  refine e_goto (tgt := 347) C dL_isTold_310 (by decide) ?_
  refine e_iastN 15 C (cnt_fix (by decide)) (fun _ _ => rfl) rfl (by decide) (by decide) dL_isTold_347 ?_
  refine e_topM (fun M_347 hM_347 => ?_)
  refine e_aload_n (j := 4) C dL_isTold_348 rfl rfl ?_
  refine e_aload_n (j := 6) C dL_isTold_349 rfl rfl ?_
  refine e_bipush (v := 15) C dL_isTold_350 (by decide) ?_
  refine e_ialdN 15 C (cnt_fix (by decide)) (fun _ => rfl) rfl (by decide) (by decide) dL_isTold_352 ?_
  rw [show M_347 12 15 = 54321 by rw [hM_347]; exact up_same _ _ _ _]
  rw [show M_347 = up M 12 15 54321 from hM_347]
  refine e_cV (i := 0) (nA := 1) (Cn := RX2) C (c_X2_edition hl) hcall (cnt_fix (by decide)) (fun _ => rfl) rfl rfl mw_344 mw_341 mw_342 mw_343 mw_12 (by decide +kernel) (by decide) rfl rfl (Nat.le_of_ble_eq_true rfl) dL_isTold_353 (Nat.le_of_ble_eq_true rfl) (Nat.le_of_ble_eq_true rfl) ?_
  refine e_iload (j := 1) C dL_isTold_356 rfl ?_
  refine e_icmp_ne (tgt := 365) C dL_isTold_358 (by decide) (fun c_358 => absurd (hx.trans ex5_280.symm) c_358) (fun c_358 => ?_)
  refine e_iconst (v := 1) C dL_isTold_361 (by decide) ?_
  refine e_goto (tgt := 366) C dL_isTold_362 (by decide) ?_
  exact e_zret C rfl rfl (Nat.le_of_ble_eq_true rfl) (Nat.le_of_ble_eq_true rfl) dL_isTold_366 (pO.mk rfl)
set_option maxRecDepth 100000 in
set_option maxHeartbeats 1000000 in
theorem L_edition_2 {l : Launch} (hl : l.stackTraces = false) {ρ : Nat → Nat} {J : Nat → Int64} {M : Mem} {z y : Nat} (hz : z < 1000000000) (hy : z / 11 = y) (hway : z % 11 = 4) (hv : y % 6 = 2) {x : Int32} {K : Mem} (hcall : o_edition (up M 12 15 0) 0 = rI x K) (hx : x = M 12 15) : CtO l yL_isTold cL_isTold 9 (some .boolean) 10 13 78 5 ρ J M [.ref (ρ 0), .ref (ρ 9), .ref (ρ 12), .int (nI z)] (rI 1 K) := by
  refine CtO.of hl (by decide +kernel) (Nat.le_of_ble_eq_true rfl) (fun Ξ hnL C => ?_)
  show E Ξ 5 ρ J M 0 0 0 [(0, .ref (ρ 0)), (1, .ref (ρ 9)), (2, .ref (ρ 12)), (3, .int (nI z))] []
  refine e_iload_n (j := 3) C dL_isTold_0 rfl rfl ?_
  refine e_bipush (v := 11) C dL_isTold_1 (by decide) ?_
  refine e_iremN z 11 4 C rfl rfl (by omega) (by omega) (by omega) hway dL_isTold_3 ?_
  refine e_istore (ls2 := [(4, .int 4), (0, .ref (ρ 0)), (1, .ref (ρ 9)), (2, .ref (ρ 12)), (3, .int (nI z))]) C hnL dL_isTold_4 (by decide) rfl ?_
  refine e_iload_n (j := 4) C dL_isTold_6 rfl rfl ?_
  refine e_bipush (v := 11) C dL_isTold_7 (by decide) ?_
  refine e_idivN z 11 y C rfl rfl (by omega) (by omega) (by omega) hy dL_isTold_9 ?_
  refine e_istore_n (ls2 := [(3, .int (nI y)), (4, .int 4), (0, .ref (ρ 0)), (1, .ref (ρ 9)), (2, .ref (ρ 12))]) C hnL dL_isTold_10 rfl (by decide) rfl ?_
  refine e_iload (j := 1) C dL_isTold_11 rfl ?_
  refine e_if_ne (tgt := 87) C dL_isTold_13 (by decide) (fun c_13 => ?_) (fun c_13 => absurd ((nI_eq (a := 4) (b := 0) (by omega) (by omega)).mp c_13) (by omega))
  refine e_iload (j := 1) C dL_isTold_87 rfl ?_
  refine e_iconst (v := 1) C dL_isTold_89 (by decide) ?_
  refine e_icmp_ne (tgt := 175) C dL_isTold_90 (by decide) (fun c_90 => ?_) (fun c_90 => absurd ((nI_eq (a := 4) (b := 1) (by omega) (by omega)).mp c_90) (by omega))
  refine e_iload (j := 1) C dL_isTold_175 rfl ?_
  refine e_iconst (v := 2) C dL_isTold_177 (by decide) ?_
  refine e_icmp_ne (tgt := 214) C dL_isTold_178 (by decide) (fun c_178 => ?_) (fun c_178 => absurd ((nI_eq (a := 4) (b := 2) (by omega) (by omega)).mp c_178) (by omega))
  refine e_iload (j := 1) C dL_isTold_214 rfl ?_
  refine e_iconst (v := 3) C dL_isTold_216 (by decide) ?_
  refine e_icmp_ne (tgt := 270) C dL_isTold_217 (by decide) (fun c_217 => ?_) (fun c_217 => absurd ((nI_eq (a := 4) (b := 3) (by omega) (by omega)).mp c_217) (by omega))
  refine e_iload (j := 1) C dL_isTold_270 rfl ?_
  refine e_iconst (v := 4) C dL_isTold_272 (by decide) ?_
  refine e_icmp_ne (tgt := 367) C dL_isTold_273 (by decide) (fun c_273 => absurd ((nI_eq (a := 4) (b := 4) (by omega) (by omega)).mpr (by omega)) c_273) (fun c_273 => ?_)
  refine e_aload_n (j := 4) C dL_isTold_276 rfl rfl ?_
  refine e_bipush (v := 15) C dL_isTold_277 (by decide) ?_
  refine e_ialdN 15 C (cnt_fix (by decide)) (fun _ => rfl) rfl (by decide) (by decide) dL_isTold_279 ?_
  refine e_topi (fun x5_280 ex5_280 => ?_)
  refine e_istore (ls2 := [(5, .int x5_280), (3, .int (nI y)), (4, .int 4), (0, .ref (ρ 0)), (1, .ref (ρ 9)), (2, .ref (ρ 12))]) C hnL dL_isTold_280 (by decide) rfl ?_
  refine e_iload_n (j := 1) C dL_isTold_282 rfl rfl ?_
  refine e_bipush (v := 6) C dL_isTold_283 (by decide) ?_
  refine e_iremN y 6 2 C rfl rfl (by omega) (by omega) (by omega) hv dL_isTold_285 ?_
  refine e_istore (ls2 := [(6, .int 2), (5, .int x5_280), (3, .int (nI y)), (4, .int 4), (0, .ref (ρ 0)), (1, .ref (ρ 9)), (2, .ref (ρ 12))]) C hnL dL_isTold_286 (by decide) rfl ?_
  refine e_aload_n (j := 6) C dL_isTold_288 rfl rfl ?_
  refine e_bipush (v := 15) C dL_isTold_289 (by decide) ?_
  refine e_iload (j := 0) C dL_isTold_291 rfl ?_
  refine e_if_ne (tgt := 302) C dL_isTold_293 (by decide) (fun c_293 => ?_) (fun c_293 => absurd ((nI_eq (a := 2) (b := 0) (by omega) (by omega)).mp c_293) (by omega))
  refine e_iload (j := 0) C dL_isTold_302 rfl ?_
  refine e_iconst (v := 1) C dL_isTold_304 (by decide) ?_
  refine e_icmp_ne (tgt := 313) C dL_isTold_305 (by decide) (fun c_305 => ?_) (fun c_305 => absurd ((nI_eq (a := 2) (b := 1) (by omega) (by omega)).mp c_305) (by omega))
  refine e_iload (j := 0) C dL_isTold_313 rfl ?_
  refine e_iconst (v := 2) C dL_isTold_315 (by decide) ?_
  refine e_icmp_ne (tgt := 323) C dL_isTold_316 (by decide) (fun c_316 => absurd ((nI_eq (a := 2) (b := 2) (by omega) (by omega)).mpr (by omega)) c_316) (fun c_316 => ?_)
  refine e_iconst (v := 0) C dL_isTold_319 (by decide) ?_
  refine e_goto (tgt := 347) C dL_isTold_320 (by decide) ?_
  refine e_iastN 15 C (cnt_fix (by decide)) (fun _ _ => rfl) rfl (by decide) (by decide) dL_isTold_347 ?_
  refine e_topM (fun M_347 hM_347 => ?_)
  refine e_aload_n (j := 4) C dL_isTold_348 rfl rfl ?_
  refine e_aload_n (j := 6) C dL_isTold_349 rfl rfl ?_
  refine e_bipush (v := 15) C dL_isTold_350 (by decide) ?_
  refine e_ialdN 15 C (cnt_fix (by decide)) (fun _ => rfl) rfl (by decide) (by decide) dL_isTold_352 ?_
  rw [show M_347 12 15 = 0 by rw [hM_347]; exact up_same _ _ _ _]
  rw [show M_347 = up M 12 15 0 from hM_347]
  refine e_cV (i := 0) (nA := 1) (Cn := RX2) C (c_X2_edition hl) hcall (cnt_fix (by decide)) (fun _ => rfl) rfl rfl mw_344 mw_341 mw_342 mw_343 mw_12 (by decide +kernel) (by decide) rfl rfl (Nat.le_of_ble_eq_true rfl) dL_isTold_353 (Nat.le_of_ble_eq_true rfl) (Nat.le_of_ble_eq_true rfl) ?_
  refine e_iload (j := 1) C dL_isTold_356 rfl ?_
  refine e_icmp_ne (tgt := 365) C dL_isTold_358 (by decide) (fun c_358 => absurd (hx.trans ex5_280.symm) c_358) (fun c_358 => ?_)
  refine e_iconst (v := 1) C dL_isTold_361 (by decide) ?_
  refine e_goto (tgt := 366) C dL_isTold_362 (by decide) ?_
  exact e_zret C rfl rfl (Nat.le_of_ble_eq_true rfl) (Nat.le_of_ble_eq_true rfl) dL_isTold_366 (pO.mk rfl)
set_option maxRecDepth 100000 in
set_option maxHeartbeats 1000000 in
theorem L_edition_3 {l : Launch} (hl : l.stackTraces = false) {ρ : Nat → Nat} {J : Nat → Int64} {M : Mem} {z y : Nat} (hz : z < 1000000000) (hy : z / 11 = y) (hway : z % 11 = 4) (hv : y % 6 = 3) {x : Int32} {K : Mem} (hcall : o_edition (up M 12 15 5) 5 = rI x K) (hx : x = M 12 15) : CtO l yL_isTold cL_isTold 9 (some .boolean) 10 13 78 5 ρ J M [.ref (ρ 0), .ref (ρ 9), .ref (ρ 12), .int (nI z)] (rI 1 K) := by
  refine CtO.of hl (by decide +kernel) (Nat.le_of_ble_eq_true rfl) (fun Ξ hnL C => ?_)
  show E Ξ 5 ρ J M 0 0 0 [(0, .ref (ρ 0)), (1, .ref (ρ 9)), (2, .ref (ρ 12)), (3, .int (nI z))] []
  refine e_iload_n (j := 3) C dL_isTold_0 rfl rfl ?_
  refine e_bipush (v := 11) C dL_isTold_1 (by decide) ?_
  refine e_iremN z 11 4 C rfl rfl (by omega) (by omega) (by omega) hway dL_isTold_3 ?_
  refine e_istore (ls2 := [(4, .int 4), (0, .ref (ρ 0)), (1, .ref (ρ 9)), (2, .ref (ρ 12)), (3, .int (nI z))]) C hnL dL_isTold_4 (by decide) rfl ?_
  refine e_iload_n (j := 4) C dL_isTold_6 rfl rfl ?_
  refine e_bipush (v := 11) C dL_isTold_7 (by decide) ?_
  refine e_idivN z 11 y C rfl rfl (by omega) (by omega) (by omega) hy dL_isTold_9 ?_
  refine e_istore_n (ls2 := [(3, .int (nI y)), (4, .int 4), (0, .ref (ρ 0)), (1, .ref (ρ 9)), (2, .ref (ρ 12))]) C hnL dL_isTold_10 rfl (by decide) rfl ?_
  refine e_iload (j := 1) C dL_isTold_11 rfl ?_
  refine e_if_ne (tgt := 87) C dL_isTold_13 (by decide) (fun c_13 => ?_) (fun c_13 => absurd ((nI_eq (a := 4) (b := 0) (by omega) (by omega)).mp c_13) (by omega))
  refine e_iload (j := 1) C dL_isTold_87 rfl ?_
  refine e_iconst (v := 1) C dL_isTold_89 (by decide) ?_
  refine e_icmp_ne (tgt := 175) C dL_isTold_90 (by decide) (fun c_90 => ?_) (fun c_90 => absurd ((nI_eq (a := 4) (b := 1) (by omega) (by omega)).mp c_90) (by omega))
  refine e_iload (j := 1) C dL_isTold_175 rfl ?_
  refine e_iconst (v := 2) C dL_isTold_177 (by decide) ?_
  refine e_icmp_ne (tgt := 214) C dL_isTold_178 (by decide) (fun c_178 => ?_) (fun c_178 => absurd ((nI_eq (a := 4) (b := 2) (by omega) (by omega)).mp c_178) (by omega))
  refine e_iload (j := 1) C dL_isTold_214 rfl ?_
  refine e_iconst (v := 3) C dL_isTold_216 (by decide) ?_
  refine e_icmp_ne (tgt := 270) C dL_isTold_217 (by decide) (fun c_217 => ?_) (fun c_217 => absurd ((nI_eq (a := 4) (b := 3) (by omega) (by omega)).mp c_217) (by omega))
  refine e_iload (j := 1) C dL_isTold_270 rfl ?_
  refine e_iconst (v := 4) C dL_isTold_272 (by decide) ?_
  refine e_icmp_ne (tgt := 367) C dL_isTold_273 (by decide) (fun c_273 => absurd ((nI_eq (a := 4) (b := 4) (by omega) (by omega)).mpr (by omega)) c_273) (fun c_273 => ?_)
  refine e_aload_n (j := 4) C dL_isTold_276 rfl rfl ?_
  refine e_bipush (v := 15) C dL_isTold_277 (by decide) ?_
  refine e_ialdN 15 C (cnt_fix (by decide)) (fun _ => rfl) rfl (by decide) (by decide) dL_isTold_279 ?_
  refine e_topi (fun x5_280 ex5_280 => ?_)
  refine e_istore (ls2 := [(5, .int x5_280), (3, .int (nI y)), (4, .int 4), (0, .ref (ρ 0)), (1, .ref (ρ 9)), (2, .ref (ρ 12))]) C hnL dL_isTold_280 (by decide) rfl ?_
  refine e_iload_n (j := 1) C dL_isTold_282 rfl rfl ?_
  refine e_bipush (v := 6) C dL_isTold_283 (by decide) ?_
  refine e_iremN y 6 3 C rfl rfl (by omega) (by omega) (by omega) hv dL_isTold_285 ?_
  refine e_istore (ls2 := [(6, .int 3), (5, .int x5_280), (3, .int (nI y)), (4, .int 4), (0, .ref (ρ 0)), (1, .ref (ρ 9)), (2, .ref (ρ 12))]) C hnL dL_isTold_286 (by decide) rfl ?_
  refine e_aload_n (j := 6) C dL_isTold_288 rfl rfl ?_
  refine e_bipush (v := 15) C dL_isTold_289 (by decide) ?_
  refine e_iload (j := 0) C dL_isTold_291 rfl ?_
  refine e_if_ne (tgt := 302) C dL_isTold_293 (by decide) (fun c_293 => ?_) (fun c_293 => absurd ((nI_eq (a := 3) (b := 0) (by omega) (by omega)).mp c_293) (by omega))
  refine e_iload (j := 0) C dL_isTold_302 rfl ?_
  refine e_iconst (v := 1) C dL_isTold_304 (by decide) ?_
  refine e_icmp_ne (tgt := 313) C dL_isTold_305 (by decide) (fun c_305 => ?_) (fun c_305 => absurd ((nI_eq (a := 3) (b := 1) (by omega) (by omega)).mp c_305) (by omega))
  refine e_iload (j := 0) C dL_isTold_313 rfl ?_
  refine e_iconst (v := 2) C dL_isTold_315 (by decide) ?_
  refine e_icmp_ne (tgt := 323) C dL_isTold_316 (by decide) (fun c_316 => ?_) (fun c_316 => absurd ((nI_eq (a := 3) (b := 2) (by omega) (by omega)).mp c_316) (by omega))
  refine e_iload (j := 0) C dL_isTold_323 rfl ?_
  refine e_iconst (v := 3) C dL_isTold_325 (by decide) ?_
  refine e_icmp_ne (tgt := 333) C dL_isTold_326 (by decide) (fun c_326 => absurd ((nI_eq (a := 3) (b := 3) (by omega) (by omega)).mpr (by omega)) c_326) (fun c_326 => ?_)
  refine e_iconst (v := 5) C dL_isTold_329 (by decide) ?_
  refine e_goto (tgt := 347) C dL_isTold_330 (by decide) ?_
  refine e_iastN 15 C (cnt_fix (by decide)) (fun _ _ => rfl) rfl (by decide) (by decide) dL_isTold_347 ?_
  refine e_topM (fun M_347 hM_347 => ?_)
  refine e_aload_n (j := 4) C dL_isTold_348 rfl rfl ?_
  refine e_aload_n (j := 6) C dL_isTold_349 rfl rfl ?_
  refine e_bipush (v := 15) C dL_isTold_350 (by decide) ?_
  refine e_ialdN 15 C (cnt_fix (by decide)) (fun _ => rfl) rfl (by decide) (by decide) dL_isTold_352 ?_
  rw [show M_347 12 15 = 5 by rw [hM_347]; exact up_same _ _ _ _]
  rw [show M_347 = up M 12 15 5 from hM_347]
  refine e_cV (i := 0) (nA := 1) (Cn := RX2) C (c_X2_edition hl) hcall (cnt_fix (by decide)) (fun _ => rfl) rfl rfl mw_344 mw_341 mw_342 mw_343 mw_12 (by decide +kernel) (by decide) rfl rfl (Nat.le_of_ble_eq_true rfl) dL_isTold_353 (Nat.le_of_ble_eq_true rfl) (Nat.le_of_ble_eq_true rfl) ?_
  refine e_iload (j := 1) C dL_isTold_356 rfl ?_
  refine e_icmp_ne (tgt := 365) C dL_isTold_358 (by decide) (fun c_358 => absurd (hx.trans ex5_280.symm) c_358) (fun c_358 => ?_)
  refine e_iconst (v := 1) C dL_isTold_361 (by decide) ?_
  refine e_goto (tgt := 366) C dL_isTold_362 (by decide) ?_
  exact e_zret C rfl rfl (Nat.le_of_ble_eq_true rfl) (Nat.le_of_ble_eq_true rfl) dL_isTold_366 (pO.mk rfl)
set_option maxRecDepth 100000 in
set_option maxHeartbeats 1000000 in
theorem L_edition_4 {l : Launch} (hl : l.stackTraces = false) {ρ : Nat → Nat} {J : Nat → Int64} {M : Mem} {z y : Nat} (hz : z < 1000000000) (hy : z / 11 = y) (hway : z % 11 = 4) (hv : y % 6 = 4) {x : Int32} {K : Mem} (hcall : o_edition (up M 12 15 2413) 2413 = rI x K) (hx : x = M 12 15) : CtO l yL_isTold cL_isTold 9 (some .boolean) 10 13 78 5 ρ J M [.ref (ρ 0), .ref (ρ 9), .ref (ρ 12), .int (nI z)] (rI 1 K) := by
  refine CtO.of hl (by decide +kernel) (Nat.le_of_ble_eq_true rfl) (fun Ξ hnL C => ?_)
  show E Ξ 5 ρ J M 0 0 0 [(0, .ref (ρ 0)), (1, .ref (ρ 9)), (2, .ref (ρ 12)), (3, .int (nI z))] []
  refine e_iload_n (j := 3) C dL_isTold_0 rfl rfl ?_
  refine e_bipush (v := 11) C dL_isTold_1 (by decide) ?_
  refine e_iremN z 11 4 C rfl rfl (by omega) (by omega) (by omega) hway dL_isTold_3 ?_
  refine e_istore (ls2 := [(4, .int 4), (0, .ref (ρ 0)), (1, .ref (ρ 9)), (2, .ref (ρ 12)), (3, .int (nI z))]) C hnL dL_isTold_4 (by decide) rfl ?_
  refine e_iload_n (j := 4) C dL_isTold_6 rfl rfl ?_
  refine e_bipush (v := 11) C dL_isTold_7 (by decide) ?_
  refine e_idivN z 11 y C rfl rfl (by omega) (by omega) (by omega) hy dL_isTold_9 ?_
  refine e_istore_n (ls2 := [(3, .int (nI y)), (4, .int 4), (0, .ref (ρ 0)), (1, .ref (ρ 9)), (2, .ref (ρ 12))]) C hnL dL_isTold_10 rfl (by decide) rfl ?_
  refine e_iload (j := 1) C dL_isTold_11 rfl ?_
  refine e_if_ne (tgt := 87) C dL_isTold_13 (by decide) (fun c_13 => ?_) (fun c_13 => absurd ((nI_eq (a := 4) (b := 0) (by omega) (by omega)).mp c_13) (by omega))
  refine e_iload (j := 1) C dL_isTold_87 rfl ?_
  refine e_iconst (v := 1) C dL_isTold_89 (by decide) ?_
  refine e_icmp_ne (tgt := 175) C dL_isTold_90 (by decide) (fun c_90 => ?_) (fun c_90 => absurd ((nI_eq (a := 4) (b := 1) (by omega) (by omega)).mp c_90) (by omega))
  refine e_iload (j := 1) C dL_isTold_175 rfl ?_
  refine e_iconst (v := 2) C dL_isTold_177 (by decide) ?_
  refine e_icmp_ne (tgt := 214) C dL_isTold_178 (by decide) (fun c_178 => ?_) (fun c_178 => absurd ((nI_eq (a := 4) (b := 2) (by omega) (by omega)).mp c_178) (by omega))
  refine e_iload (j := 1) C dL_isTold_214 rfl ?_
  refine e_iconst (v := 3) C dL_isTold_216 (by decide) ?_
  refine e_icmp_ne (tgt := 270) C dL_isTold_217 (by decide) (fun c_217 => ?_) (fun c_217 => absurd ((nI_eq (a := 4) (b := 3) (by omega) (by omega)).mp c_217) (by omega))
  refine e_iload (j := 1) C dL_isTold_270 rfl ?_
  refine e_iconst (v := 4) C dL_isTold_272 (by decide) ?_
  refine e_icmp_ne (tgt := 367) C dL_isTold_273 (by decide) (fun c_273 => absurd ((nI_eq (a := 4) (b := 4) (by omega) (by omega)).mpr (by omega)) c_273) (fun c_273 => ?_)
  refine e_aload_n (j := 4) C dL_isTold_276 rfl rfl ?_
  refine e_bipush (v := 15) C dL_isTold_277 (by decide) ?_
  refine e_ialdN 15 C (cnt_fix (by decide)) (fun _ => rfl) rfl (by decide) (by decide) dL_isTold_279 ?_
  refine e_topi (fun x5_280 ex5_280 => ?_)
  refine e_istore (ls2 := [(5, .int x5_280), (3, .int (nI y)), (4, .int 4), (0, .ref (ρ 0)), (1, .ref (ρ 9)), (2, .ref (ρ 12))]) C hnL dL_isTold_280 (by decide) rfl ?_
  refine e_iload_n (j := 1) C dL_isTold_282 rfl rfl ?_
  refine e_bipush (v := 6) C dL_isTold_283 (by decide) ?_
  refine e_iremN y 6 4 C rfl rfl (by omega) (by omega) (by omega) hv dL_isTold_285 ?_
  refine e_istore (ls2 := [(6, .int 4), (5, .int x5_280), (3, .int (nI y)), (4, .int 4), (0, .ref (ρ 0)), (1, .ref (ρ 9)), (2, .ref (ρ 12))]) C hnL dL_isTold_286 (by decide) rfl ?_
  refine e_aload_n (j := 6) C dL_isTold_288 rfl rfl ?_
  refine e_bipush (v := 15) C dL_isTold_289 (by decide) ?_
  refine e_iload (j := 0) C dL_isTold_291 rfl ?_
  refine e_if_ne (tgt := 302) C dL_isTold_293 (by decide) (fun c_293 => ?_) (fun c_293 => absurd ((nI_eq (a := 4) (b := 0) (by omega) (by omega)).mp c_293) (by omega))
  refine e_iload (j := 0) C dL_isTold_302 rfl ?_
  refine e_iconst (v := 1) C dL_isTold_304 (by decide) ?_
  refine e_icmp_ne (tgt := 313) C dL_isTold_305 (by decide) (fun c_305 => ?_) (fun c_305 => absurd ((nI_eq (a := 4) (b := 1) (by omega) (by omega)).mp c_305) (by omega))
  refine e_iload (j := 0) C dL_isTold_313 rfl ?_
  refine e_iconst (v := 2) C dL_isTold_315 (by decide) ?_
  refine e_icmp_ne (tgt := 323) C dL_isTold_316 (by decide) (fun c_316 => ?_) (fun c_316 => absurd ((nI_eq (a := 4) (b := 2) (by omega) (by omega)).mp c_316) (by omega))
  refine e_iload (j := 0) C dL_isTold_323 rfl ?_
  refine e_iconst (v := 3) C dL_isTold_325 (by decide) ?_
  refine e_icmp_ne (tgt := 333) C dL_isTold_326 (by decide) (fun c_326 => ?_) (fun c_326 => absurd ((nI_eq (a := 4) (b := 3) (by omega) (by omega)).mp c_326) (by omega))
  refine e_iload (j := 0) C dL_isTold_333 rfl ?_
  refine e_iconst (v := 4) C dL_isTold_335 (by decide) ?_
  refine e_icmp_ne (tgt := 345) C dL_isTold_336 (by decide) (fun c_336 => absurd ((nI_eq (a := 4) (b := 4) (by omega) (by omega)).mpr (by omega)) c_336) (fun c_336 => ?_)
  refine e_sipush (v := 2413) C dL_isTold_339 (by decide) ?_
  refine e_goto (tgt := 347) C dL_isTold_342 (by decide) ?_
  refine e_iastN 15 C (cnt_fix (by decide)) (fun _ _ => rfl) rfl (by decide) (by decide) dL_isTold_347 ?_
  refine e_topM (fun M_347 hM_347 => ?_)
  refine e_aload_n (j := 4) C dL_isTold_348 rfl rfl ?_
  refine e_aload_n (j := 6) C dL_isTold_349 rfl rfl ?_
  refine e_bipush (v := 15) C dL_isTold_350 (by decide) ?_
  refine e_ialdN 15 C (cnt_fix (by decide)) (fun _ => rfl) rfl (by decide) (by decide) dL_isTold_352 ?_
  rw [show M_347 12 15 = 2413 by rw [hM_347]; exact up_same _ _ _ _]
  rw [show M_347 = up M 12 15 2413 from hM_347]
  refine e_cV (i := 0) (nA := 1) (Cn := RX2) C (c_X2_edition hl) hcall (cnt_fix (by decide)) (fun _ => rfl) rfl rfl mw_344 mw_341 mw_342 mw_343 mw_12 (by decide +kernel) (by decide) rfl rfl (Nat.le_of_ble_eq_true rfl) dL_isTold_353 (Nat.le_of_ble_eq_true rfl) (Nat.le_of_ble_eq_true rfl) ?_
  refine e_iload (j := 1) C dL_isTold_356 rfl ?_
  refine e_icmp_ne (tgt := 365) C dL_isTold_358 (by decide) (fun c_358 => absurd (hx.trans ex5_280.symm) c_358) (fun c_358 => ?_)
  refine e_iconst (v := 1) C dL_isTold_361 (by decide) ?_
  refine e_goto (tgt := 366) C dL_isTold_362 (by decide) ?_
  exact e_zret C rfl rfl (Nat.le_of_ble_eq_true rfl) (Nat.le_of_ble_eq_true rfl) dL_isTold_366 (pO.mk rfl)
set_option maxRecDepth 100000 in
set_option maxHeartbeats 1000000 in
theorem L_edition_5 {l : Launch} (hl : l.stackTraces = false) {ρ : Nat → Nat} {J : Nat → Int64} {M : Mem} {z y : Nat} (hz : z < 1000000000) (hy : z / 11 = y) (hway : z % 11 = 4) (hv : y % 6 = 5) {x : Int32} {K : Mem} (hcall : o_edition (up M 12 15 31) 31 = rI x K) (hx : x = M 12 15) : CtO l yL_isTold cL_isTold 9 (some .boolean) 10 13 78 5 ρ J M [.ref (ρ 0), .ref (ρ 9), .ref (ρ 12), .int (nI z)] (rI 1 K) := by
  refine CtO.of hl (by decide +kernel) (Nat.le_of_ble_eq_true rfl) (fun Ξ hnL C => ?_)
  show E Ξ 5 ρ J M 0 0 0 [(0, .ref (ρ 0)), (1, .ref (ρ 9)), (2, .ref (ρ 12)), (3, .int (nI z))] []
  refine e_iload_n (j := 3) C dL_isTold_0 rfl rfl ?_
  refine e_bipush (v := 11) C dL_isTold_1 (by decide) ?_
  refine e_iremN z 11 4 C rfl rfl (by omega) (by omega) (by omega) hway dL_isTold_3 ?_
  refine e_istore (ls2 := [(4, .int 4), (0, .ref (ρ 0)), (1, .ref (ρ 9)), (2, .ref (ρ 12)), (3, .int (nI z))]) C hnL dL_isTold_4 (by decide) rfl ?_
  refine e_iload_n (j := 4) C dL_isTold_6 rfl rfl ?_
  refine e_bipush (v := 11) C dL_isTold_7 (by decide) ?_
  refine e_idivN z 11 y C rfl rfl (by omega) (by omega) (by omega) hy dL_isTold_9 ?_
  refine e_istore_n (ls2 := [(3, .int (nI y)), (4, .int 4), (0, .ref (ρ 0)), (1, .ref (ρ 9)), (2, .ref (ρ 12))]) C hnL dL_isTold_10 rfl (by decide) rfl ?_
  refine e_iload (j := 1) C dL_isTold_11 rfl ?_
  refine e_if_ne (tgt := 87) C dL_isTold_13 (by decide) (fun c_13 => ?_) (fun c_13 => absurd ((nI_eq (a := 4) (b := 0) (by omega) (by omega)).mp c_13) (by omega))
  refine e_iload (j := 1) C dL_isTold_87 rfl ?_
  refine e_iconst (v := 1) C dL_isTold_89 (by decide) ?_
  refine e_icmp_ne (tgt := 175) C dL_isTold_90 (by decide) (fun c_90 => ?_) (fun c_90 => absurd ((nI_eq (a := 4) (b := 1) (by omega) (by omega)).mp c_90) (by omega))
  refine e_iload (j := 1) C dL_isTold_175 rfl ?_
  refine e_iconst (v := 2) C dL_isTold_177 (by decide) ?_
  refine e_icmp_ne (tgt := 214) C dL_isTold_178 (by decide) (fun c_178 => ?_) (fun c_178 => absurd ((nI_eq (a := 4) (b := 2) (by omega) (by omega)).mp c_178) (by omega))
  refine e_iload (j := 1) C dL_isTold_214 rfl ?_
  refine e_iconst (v := 3) C dL_isTold_216 (by decide) ?_
  refine e_icmp_ne (tgt := 270) C dL_isTold_217 (by decide) (fun c_217 => ?_) (fun c_217 => absurd ((nI_eq (a := 4) (b := 3) (by omega) (by omega)).mp c_217) (by omega))
  refine e_iload (j := 1) C dL_isTold_270 rfl ?_
  refine e_iconst (v := 4) C dL_isTold_272 (by decide) ?_
  refine e_icmp_ne (tgt := 367) C dL_isTold_273 (by decide) (fun c_273 => absurd ((nI_eq (a := 4) (b := 4) (by omega) (by omega)).mpr (by omega)) c_273) (fun c_273 => ?_)
  refine e_aload_n (j := 4) C dL_isTold_276 rfl rfl ?_
  refine e_bipush (v := 15) C dL_isTold_277 (by decide) ?_
  refine e_ialdN 15 C (cnt_fix (by decide)) (fun _ => rfl) rfl (by decide) (by decide) dL_isTold_279 ?_
  refine e_topi (fun x5_280 ex5_280 => ?_)
  refine e_istore (ls2 := [(5, .int x5_280), (3, .int (nI y)), (4, .int 4), (0, .ref (ρ 0)), (1, .ref (ρ 9)), (2, .ref (ρ 12))]) C hnL dL_isTold_280 (by decide) rfl ?_
  refine e_iload_n (j := 1) C dL_isTold_282 rfl rfl ?_
  refine e_bipush (v := 6) C dL_isTold_283 (by decide) ?_
  refine e_iremN y 6 5 C rfl rfl (by omega) (by omega) (by omega) hv dL_isTold_285 ?_
  refine e_istore (ls2 := [(6, .int 5), (5, .int x5_280), (3, .int (nI y)), (4, .int 4), (0, .ref (ρ 0)), (1, .ref (ρ 9)), (2, .ref (ρ 12))]) C hnL dL_isTold_286 (by decide) rfl ?_
  refine e_aload_n (j := 6) C dL_isTold_288 rfl rfl ?_
  refine e_bipush (v := 15) C dL_isTold_289 (by decide) ?_
  refine e_iload (j := 0) C dL_isTold_291 rfl ?_
  refine e_if_ne (tgt := 302) C dL_isTold_293 (by decide) (fun c_293 => ?_) (fun c_293 => absurd ((nI_eq (a := 5) (b := 0) (by omega) (by omega)).mp c_293) (by omega))
  refine e_iload (j := 0) C dL_isTold_302 rfl ?_
  refine e_iconst (v := 1) C dL_isTold_304 (by decide) ?_
  refine e_icmp_ne (tgt := 313) C dL_isTold_305 (by decide) (fun c_305 => ?_) (fun c_305 => absurd ((nI_eq (a := 5) (b := 1) (by omega) (by omega)).mp c_305) (by omega))
  refine e_iload (j := 0) C dL_isTold_313 rfl ?_
  refine e_iconst (v := 2) C dL_isTold_315 (by decide) ?_
  refine e_icmp_ne (tgt := 323) C dL_isTold_316 (by decide) (fun c_316 => ?_) (fun c_316 => absurd ((nI_eq (a := 5) (b := 2) (by omega) (by omega)).mp c_316) (by omega))
  refine e_iload (j := 0) C dL_isTold_323 rfl ?_
  refine e_iconst (v := 3) C dL_isTold_325 (by decide) ?_
  refine e_icmp_ne (tgt := 333) C dL_isTold_326 (by decide) (fun c_326 => ?_) (fun c_326 => absurd ((nI_eq (a := 5) (b := 3) (by omega) (by omega)).mp c_326) (by omega))
  refine e_iload (j := 0) C dL_isTold_333 rfl ?_
  refine e_iconst (v := 4) C dL_isTold_335 (by decide) ?_
  refine e_icmp_ne (tgt := 345) C dL_isTold_336 (by decide) (fun c_336 => ?_) (fun c_336 => absurd ((nI_eq (a := 5) (b := 4) (by omega) (by omega)).mp c_336) (by omega))
  refine e_bipush (v := 31) C dL_isTold_345 (by decide) ?_
  refine e_iastN 15 C (cnt_fix (by decide)) (fun _ _ => rfl) rfl (by decide) (by decide) dL_isTold_347 ?_
  refine e_topM (fun M_347 hM_347 => ?_)
  refine e_aload_n (j := 4) C dL_isTold_348 rfl rfl ?_
  refine e_aload_n (j := 6) C dL_isTold_349 rfl rfl ?_
  refine e_bipush (v := 15) C dL_isTold_350 (by decide) ?_
  refine e_ialdN 15 C (cnt_fix (by decide)) (fun _ => rfl) rfl (by decide) (by decide) dL_isTold_352 ?_
  rw [show M_347 12 15 = 31 by rw [hM_347]; exact up_same _ _ _ _]
  rw [show M_347 = up M 12 15 31 from hM_347]
  refine e_cV (i := 0) (nA := 1) (Cn := RX2) C (c_X2_edition hl) hcall (cnt_fix (by decide)) (fun _ => rfl) rfl rfl mw_344 mw_341 mw_342 mw_343 mw_12 (by decide +kernel) (by decide) rfl rfl (Nat.le_of_ble_eq_true rfl) dL_isTold_353 (Nat.le_of_ble_eq_true rfl) (Nat.le_of_ble_eq_true rfl) ?_
  refine e_iload (j := 1) C dL_isTold_356 rfl ?_
  refine e_icmp_ne (tgt := 365) C dL_isTold_358 (by decide) (fun c_358 => absurd (hx.trans ex5_280.symm) c_358) (fun c_358 => ?_)
  refine e_iconst (v := 1) C dL_isTold_361 (by decide) ?_
  refine e_goto (tgt := 366) C dL_isTold_362 (by decide) ?_
  exact e_zret C rfl rfl (Nat.le_of_ble_eq_true rfl) (Nat.le_of_ble_eq_true rfl) dL_isTold_366 (pO.mk rfl)
set_option maxRecDepth 100000 in
set_option maxHeartbeats 1000000 in
theorem L_check_0 {l : Launch} (hl : l.stackTraces = false) {ρ : Nat → Nat} {J : Nat → Int64} {M : Mem} {z y : Nat} (hz : z < 1000000000) (hy : z / 11 = y) (hway : z % 11 = 3) (hv : y % 2 = 0) (hb : isB (M 0 2)) (hx : M 0 2 = if M 12 14 = 1 then 1 else 0) : CtO l yL_isTold cL_isTold 9 (some .boolean) 10 13 78 5 ρ J M [.ref (ρ 0), .ref (ρ 9), .ref (ρ 12), .int (nI z)] (rI 1 (up (up M 12 14 0) 0 2 0)) := by
  refine CtO.of hl (by decide +kernel) (Nat.le_of_ble_eq_true rfl) (fun Ξ hnL C => ?_)
  show E Ξ 5 ρ J M 0 0 0 [(0, .ref (ρ 0)), (1, .ref (ρ 9)), (2, .ref (ρ 12)), (3, .int (nI z))] []
  refine e_iload_n (j := 3) C dL_isTold_0 rfl rfl ?_
  refine e_bipush (v := 11) C dL_isTold_1 (by decide) ?_
  refine e_iremN z 11 3 C rfl rfl (by omega) (by omega) (by omega) hway dL_isTold_3 ?_
  refine e_istore (ls2 := [(4, .int 3), (0, .ref (ρ 0)), (1, .ref (ρ 9)), (2, .ref (ρ 12)), (3, .int (nI z))]) C hnL dL_isTold_4 (by decide) rfl ?_
  refine e_iload_n (j := 4) C dL_isTold_6 rfl rfl ?_
  refine e_bipush (v := 11) C dL_isTold_7 (by decide) ?_
  refine e_idivN z 11 y C rfl rfl (by omega) (by omega) (by omega) hy dL_isTold_9 ?_
  refine e_istore_n (ls2 := [(3, .int (nI y)), (4, .int 3), (0, .ref (ρ 0)), (1, .ref (ρ 9)), (2, .ref (ρ 12))]) C hnL dL_isTold_10 rfl (by decide) rfl ?_
  refine e_iload (j := 1) C dL_isTold_11 rfl ?_
  refine e_if_ne (tgt := 87) C dL_isTold_13 (by decide) (fun c_13 => ?_) (fun c_13 => absurd ((nI_eq (a := 3) (b := 0) (by omega) (by omega)).mp c_13) (by omega))
  refine e_iload (j := 1) C dL_isTold_87 rfl ?_
  refine e_iconst (v := 1) C dL_isTold_89 (by decide) ?_
  refine e_icmp_ne (tgt := 175) C dL_isTold_90 (by decide) (fun c_90 => ?_) (fun c_90 => absurd ((nI_eq (a := 3) (b := 1) (by omega) (by omega)).mp c_90) (by omega))
  refine e_iload (j := 1) C dL_isTold_175 rfl ?_
  refine e_iconst (v := 2) C dL_isTold_177 (by decide) ?_
  refine e_icmp_ne (tgt := 214) C dL_isTold_178 (by decide) (fun c_178 => ?_) (fun c_178 => absurd ((nI_eq (a := 3) (b := 2) (by omega) (by omega)).mp c_178) (by omega))
  refine e_iload (j := 1) C dL_isTold_214 rfl ?_
  refine e_iconst (v := 3) C dL_isTold_216 (by decide) ?_
  refine e_icmp_ne (tgt := 270) C dL_isTold_217 (by decide) (fun c_217 => absurd ((nI_eq (a := 3) (b := 3) (by omega) (by omega)).mpr (by omega)) c_217) (fun c_217 => ?_)
  refine e_aload_n (j := 4) C dL_isTold_220 rfl rfl ?_
  refine e_bipush (v := 14) C dL_isTold_221 (by decide) ?_
  refine e_ialdN 14 C (cnt_fix (by decide)) (fun _ => rfl) rfl (by decide) (by decide) dL_isTold_223 ?_
  refine e_iconst (v := 1) C dL_isTold_224 (by decide) ?_
  suffices hJ_233 : ∀ v_233 : Int32, v_233 = (if (M 12 14) = 1 then 1 else 0) → E Ξ 5 ρ J M 0 0 233 [(3, .int (nI y)), (4, .int 3), (0, .ref (ρ 0)), (1, .ref (ρ 9)), (2, .ref (ρ 12))] (.int v_233 :: []) by
    refine e_icmp_ne (tgt := 232) C dL_isTold_225 (by decide) (fun c_225 => ?_) (fun c_225 => ?_)
    · refine e_iconst (v := 0) C dL_isTold_232 (by decide) ?_
      exact hJ_233 _ (by rw [if_neg c_225])
    · refine e_iconst (v := 1) C dL_isTold_228 (by decide) ?_
      refine e_goto (tgt := 233) C dL_isTold_229 (by decide) ?_
      exact hJ_233 _ (by rw [if_pos c_225])
  intro v_233 hv_233
  refine e_istore (ls2 := [(5, .int v_233), (3, .int (nI y)), (4, .int 3), (0, .ref (ρ 0)), (1, .ref (ρ 9)), (2, .ref (ρ 12))]) C hnL dL_isTold_233 (by decide) rfl ?_
  refine e_aload_n (j := 5) C dL_isTold_235 rfl rfl ?_
  refine e_bipush (v := 14) C dL_isTold_236 (by decide) ?_
  refine e_iload_n (j := 1) C dL_isTold_238 rfl rfl ?_
  refine e_iconst (v := 2) C dL_isTold_239 (by decide) ?_
  refine e_iremN y 2 0 C rfl rfl (by omega) (by omega) (by omega) hv dL_isTold_240 ?_
  refine e_iastN 14 C (cnt_fix (by decide)) (fun _ _ => rfl) rfl (by decide) (by decide) dL_isTold_241 ?_
  refine e_topM (fun M_241 hM_241 => ?_)
  refine e_aload_n (j := 3) C dL_isTold_242 rfl rfl ?_
  refine e_aload_n (j := 5) C dL_isTold_243 rfl rfl ?_
  refine e_bipush (v := 14) C dL_isTold_244 (by decide) ?_
  refine e_ialdN 14 C (cnt_fix (by decide)) (fun _ => rfl) rfl (by decide) (by decide) dL_isTold_246 ?_
  rw [show M_241 12 14 = 0 by rw [hM_241]; exact up_same _ _ _ _]
  rw [show M_241 = up M 12 14 0 from hM_241]
  refine e_iconst (v := 1) C dL_isTold_247 (by decide) ?_
  refine e_icmp_ne (tgt := 255) C dL_isTold_248 (by decide) (fun c_248 => ?_) (fun c_248 => absurd ((nI_eq (a := 0) (b := 1) (by omega) (by omega)).mp c_248) (by omega))
  refine e_iconst (v := 0) C dL_isTold_255 (by decide) ?_
  refine e_cV (i := 0) (nA := 1) (Cn := RX2) C (c_X2_check hl (by first | exact Or.inl rfl | exact Or.inr rfl) (by rw [up_row (by decide)]; exact hb)) rfl (cnt_fix (by decide)) (fun _ => rfl) rfl rfl mw_340 mw_337 mw_338 mw_339 mw_12 (by decide +kernel) (by decide) rfl rfl (Nat.le_of_ble_eq_true rfl) dL_isTold_256 (Nat.le_of_ble_eq_true rfl) (Nat.le_of_ble_eq_true rfl) ?_
  refine e_iload (j := 0) C dL_isTold_259 rfl ?_
  refine e_icmp_ne (tgt := 268) C dL_isTold_261 (by decide) (fun c_261 => absurd (hx.trans hv_233.symm) c_261) (fun c_261 => ?_)
  refine e_iconst (v := 1) C dL_isTold_264 (by decide) ?_
  refine e_goto (tgt := 269) C dL_isTold_265 (by decide) ?_
  exact e_zret C rfl rfl (Nat.le_of_ble_eq_true rfl) (Nat.le_of_ble_eq_true rfl) dL_isTold_269 (pO.mk rfl)
set_option maxRecDepth 100000 in
set_option maxHeartbeats 1000000 in
theorem L_obey_0 {l : Launch} (hl : l.stackTraces = false) {ρ : Nat → Nat} {J : Nat → Int64} {M : Mem} {z y : Nat} (hz : z < 1000000000) (hy : z / 11 = y) (hway : z % 11 = 8) (hv : y % 2 = 0) (hb : isB (M 0 12)) (hx : M 0 12 = if M 12 20 = 1 then 1 else 0) : CtO l yL_isTold cL_isTold 9 (some .boolean) 10 13 78 5 ρ J M [.ref (ρ 0), .ref (ρ 9), .ref (ρ 12), .int (nI z)] (rI 1 (up (up M 12 20 0) 0 12 0)) := by
  refine CtO.of hl (by decide +kernel) (Nat.le_of_ble_eq_true rfl) (fun Ξ hnL C => ?_)
  show E Ξ 5 ρ J M 0 0 0 [(0, .ref (ρ 0)), (1, .ref (ρ 9)), (2, .ref (ρ 12)), (3, .int (nI z))] []
  refine e_iload_n (j := 3) C dL_isTold_0 rfl rfl ?_
  refine e_bipush (v := 11) C dL_isTold_1 (by decide) ?_
  refine e_iremN z 11 8 C rfl rfl (by omega) (by omega) (by omega) hway dL_isTold_3 ?_
  refine e_istore (ls2 := [(4, .int 8), (0, .ref (ρ 0)), (1, .ref (ρ 9)), (2, .ref (ρ 12)), (3, .int (nI z))]) C hnL dL_isTold_4 (by decide) rfl ?_
  refine e_iload_n (j := 4) C dL_isTold_6 rfl rfl ?_
  refine e_bipush (v := 11) C dL_isTold_7 (by decide) ?_
  refine e_idivN z 11 y C rfl rfl (by omega) (by omega) (by omega) hy dL_isTold_9 ?_
  refine e_istore_n (ls2 := [(3, .int (nI y)), (4, .int 8), (0, .ref (ρ 0)), (1, .ref (ρ 9)), (2, .ref (ρ 12))]) C hnL dL_isTold_10 rfl (by decide) rfl ?_
  refine e_iload (j := 1) C dL_isTold_11 rfl ?_
  refine e_if_ne (tgt := 87) C dL_isTold_13 (by decide) (fun c_13 => ?_) (fun c_13 => absurd ((nI_eq (a := 8) (b := 0) (by omega) (by omega)).mp c_13) (by omega))
  refine e_iload (j := 1) C dL_isTold_87 rfl ?_
  refine e_iconst (v := 1) C dL_isTold_89 (by decide) ?_
  refine e_icmp_ne (tgt := 175) C dL_isTold_90 (by decide) (fun c_90 => ?_) (fun c_90 => absurd ((nI_eq (a := 8) (b := 1) (by omega) (by omega)).mp c_90) (by omega))
  refine e_iload (j := 1) C dL_isTold_175 rfl ?_
  refine e_iconst (v := 2) C dL_isTold_177 (by decide) ?_
  refine e_icmp_ne (tgt := 214) C dL_isTold_178 (by decide) (fun c_178 => ?_) (fun c_178 => absurd ((nI_eq (a := 8) (b := 2) (by omega) (by omega)).mp c_178) (by omega))
  refine e_iload (j := 1) C dL_isTold_214 rfl ?_
  refine e_iconst (v := 3) C dL_isTold_216 (by decide) ?_
  refine e_icmp_ne (tgt := 270) C dL_isTold_217 (by decide) (fun c_217 => ?_) (fun c_217 => absurd ((nI_eq (a := 8) (b := 3) (by omega) (by omega)).mp c_217) (by omega))
  refine e_iload (j := 1) C dL_isTold_270 rfl ?_
  refine e_iconst (v := 4) C dL_isTold_272 (by decide) ?_
  refine e_icmp_ne (tgt := 367) C dL_isTold_273 (by decide) (fun c_273 => ?_) (fun c_273 => absurd ((nI_eq (a := 8) (b := 4) (by omega) (by omega)).mp c_273) (by omega))
  refine e_iload (j := 1) C dL_isTold_367 rfl ?_
  refine e_iconst (v := 5) C dL_isTold_369 (by decide) ?_
  refine e_icmp_ne (tgt := 407) C dL_isTold_370 (by decide) (fun c_370 => ?_) (fun c_370 => absurd ((nI_eq (a := 8) (b := 5) (by omega) (by omega)).mp c_370) (by omega))
  refine e_iload (j := 1) C dL_isTold_407 rfl ?_
  refine e_bipush (v := 6) C dL_isTold_409 (by decide) ?_
  refine e_icmp_ne (tgt := 447) C dL_isTold_411 (by decide) (fun c_411 => ?_) (fun c_411 => absurd ((nI_eq (a := 8) (b := 6) (by omega) (by omega)).mp c_411) (by omega))
  refine e_iload (j := 1) C dL_isTold_447 rfl ?_
  refine e_bipush (v := 7) C dL_isTold_449 (by decide) ?_
  refine e_icmp_ne (tgt := 544) C dL_isTold_451 (by decide) (fun c_451 => ?_) (fun c_451 => absurd ((nI_eq (a := 8) (b := 7) (by omega) (by omega)).mp c_451) (by omega))
  refine e_iload (j := 1) C dL_isTold_544 rfl ?_
  refine e_bipush (v := 8) C dL_isTold_546 (by decide) ?_
  refine e_icmp_ne (tgt := 600) C dL_isTold_548 (by decide) (fun c_548 => absurd ((nI_eq (a := 8) (b := 8) (by omega) (by omega)).mpr (by omega)) c_548) (fun c_548 => ?_)
  refine e_aload_n (j := 4) C dL_isTold_551 rfl rfl ?_
  refine e_bipush (v := 20) C dL_isTold_552 (by decide) ?_
  refine e_ialdN 20 C (cnt_fix (by decide)) (fun _ => rfl) rfl (by decide) (by decide) dL_isTold_554 ?_
  refine e_iconst (v := 1) C dL_isTold_555 (by decide) ?_
  suffices hJ_564 : ∀ v_564 : Int32, v_564 = (if (M 12 20) = 1 then 1 else 0) → E Ξ 5 ρ J M 0 0 564 [(3, .int (nI y)), (4, .int 8), (0, .ref (ρ 0)), (1, .ref (ρ 9)), (2, .ref (ρ 12))] (.int v_564 :: []) by
    refine e_icmp_ne (tgt := 563) C dL_isTold_556 (by decide) (fun c_556 => ?_) (fun c_556 => ?_)
    · refine e_iconst (v := 0) C dL_isTold_563 (by decide) ?_
      exact hJ_564 _ (by rw [if_neg c_556])
    · refine e_iconst (v := 1) C dL_isTold_559 (by decide) ?_
      refine e_goto (tgt := 564) C dL_isTold_560 (by decide) ?_
      exact hJ_564 _ (by rw [if_pos c_556])
  intro v_564 hv_564
  refine e_istore (ls2 := [(5, .int v_564), (3, .int (nI y)), (4, .int 8), (0, .ref (ρ 0)), (1, .ref (ρ 9)), (2, .ref (ρ 12))]) C hnL dL_isTold_564 (by decide) rfl ?_
  refine e_aload_n (j := 5) C dL_isTold_566 rfl rfl ?_
  refine e_bipush (v := 20) C dL_isTold_567 (by decide) ?_
  refine e_iload_n (j := 1) C dL_isTold_569 rfl rfl ?_
  refine e_iconst (v := 2) C dL_isTold_570 (by decide) ?_
  refine e_iremN y 2 0 C rfl rfl (by omega) (by omega) (by omega) hv dL_isTold_571 ?_
  refine e_iastN 20 C (cnt_fix (by decide)) (fun _ _ => rfl) rfl (by decide) (by decide) dL_isTold_572 ?_
  refine e_topM (fun M_572 hM_572 => ?_)
  rw [show M_572 = up M 12 20 0 from hM_572]
  refine e_aload_n (j := 3) C dL_isTold_573 rfl rfl ?_
  refine e_iload_n (j := 1) C dL_isTold_574 rfl rfl ?_
  refine e_iconst (v := 2) C dL_isTold_575 (by decide) ?_
  refine e_iremN y 2 0 C rfl rfl (by omega) (by omega) (by omega) hv dL_isTold_576 ?_
  refine e_iconst (v := 1) C dL_isTold_577 (by decide) ?_
  refine e_icmp_ne (tgt := 585) C dL_isTold_578 (by decide) (fun c_578 => ?_) (fun c_578 => absurd ((nI_eq (a := 0) (b := 1) (by omega) (by omega)).mp c_578) (by omega))
  refine e_iconst (v := 0) C dL_isTold_585 (by decide) ?_
  refine e_cV (i := 0) (nA := 1) (Cn := RX2) C (c_X2_obey hl (by first | exact Or.inl rfl | exact Or.inr rfl) (by rw [up_row (by decide)]; exact hb)) rfl (cnt_fix (by decide)) (fun _ => rfl) rfl rfl mw_363 mw_360 mw_361 mw_362 mw_12 (by decide +kernel) (by decide) rfl rfl (Nat.le_of_ble_eq_true rfl) dL_isTold_586 (Nat.le_of_ble_eq_true rfl) (Nat.le_of_ble_eq_true rfl) ?_
  refine e_iload (j := 0) C dL_isTold_589 rfl ?_
  refine e_icmp_ne (tgt := 598) C dL_isTold_591 (by decide) (fun c_591 => absurd (hx.trans hv_564.symm) c_591) (fun c_591 => ?_)
  refine e_iconst (v := 1) C dL_isTold_594 (by decide) ?_
  refine e_goto (tgt := 599) C dL_isTold_595 (by decide) ?_
  exact e_zret C rfl rfl (Nat.le_of_ble_eq_true rfl) (Nat.le_of_ble_eq_true rfl) dL_isTold_599 (pO.mk rfl)
set_option maxRecDepth 100000 in
set_option maxHeartbeats 1000000 in
theorem L_check_1 {l : Launch} (hl : l.stackTraces = false) {ρ : Nat → Nat} {J : Nat → Int64} {M : Mem} {z y : Nat} (hz : z < 1000000000) (hy : z / 11 = y) (hway : z % 11 = 3) (hv : y % 2 = 1) (hb : isB (M 0 2)) (hx : M 0 2 = if M 12 14 = 1 then 1 else 0) : CtO l yL_isTold cL_isTold 9 (some .boolean) 10 13 78 5 ρ J M [.ref (ρ 0), .ref (ρ 9), .ref (ρ 12), .int (nI z)] (rI 1 (up (up M 12 14 1) 0 2 1)) := by
  refine CtO.of hl (by decide +kernel) (Nat.le_of_ble_eq_true rfl) (fun Ξ hnL C => ?_)
  show E Ξ 5 ρ J M 0 0 0 [(0, .ref (ρ 0)), (1, .ref (ρ 9)), (2, .ref (ρ 12)), (3, .int (nI z))] []
  refine e_iload_n (j := 3) C dL_isTold_0 rfl rfl ?_
  refine e_bipush (v := 11) C dL_isTold_1 (by decide) ?_
  refine e_iremN z 11 3 C rfl rfl (by omega) (by omega) (by omega) hway dL_isTold_3 ?_
  refine e_istore (ls2 := [(4, .int 3), (0, .ref (ρ 0)), (1, .ref (ρ 9)), (2, .ref (ρ 12)), (3, .int (nI z))]) C hnL dL_isTold_4 (by decide) rfl ?_
  refine e_iload_n (j := 4) C dL_isTold_6 rfl rfl ?_
  refine e_bipush (v := 11) C dL_isTold_7 (by decide) ?_
  refine e_idivN z 11 y C rfl rfl (by omega) (by omega) (by omega) hy dL_isTold_9 ?_
  refine e_istore_n (ls2 := [(3, .int (nI y)), (4, .int 3), (0, .ref (ρ 0)), (1, .ref (ρ 9)), (2, .ref (ρ 12))]) C hnL dL_isTold_10 rfl (by decide) rfl ?_
  refine e_iload (j := 1) C dL_isTold_11 rfl ?_
  refine e_if_ne (tgt := 87) C dL_isTold_13 (by decide) (fun c_13 => ?_) (fun c_13 => absurd ((nI_eq (a := 3) (b := 0) (by omega) (by omega)).mp c_13) (by omega))
  refine e_iload (j := 1) C dL_isTold_87 rfl ?_
  refine e_iconst (v := 1) C dL_isTold_89 (by decide) ?_
  refine e_icmp_ne (tgt := 175) C dL_isTold_90 (by decide) (fun c_90 => ?_) (fun c_90 => absurd ((nI_eq (a := 3) (b := 1) (by omega) (by omega)).mp c_90) (by omega))
  refine e_iload (j := 1) C dL_isTold_175 rfl ?_
  refine e_iconst (v := 2) C dL_isTold_177 (by decide) ?_
  refine e_icmp_ne (tgt := 214) C dL_isTold_178 (by decide) (fun c_178 => ?_) (fun c_178 => absurd ((nI_eq (a := 3) (b := 2) (by omega) (by omega)).mp c_178) (by omega))
  refine e_iload (j := 1) C dL_isTold_214 rfl ?_
  refine e_iconst (v := 3) C dL_isTold_216 (by decide) ?_
  refine e_icmp_ne (tgt := 270) C dL_isTold_217 (by decide) (fun c_217 => absurd ((nI_eq (a := 3) (b := 3) (by omega) (by omega)).mpr (by omega)) c_217) (fun c_217 => ?_)
  refine e_aload_n (j := 4) C dL_isTold_220 rfl rfl ?_
  refine e_bipush (v := 14) C dL_isTold_221 (by decide) ?_
  refine e_ialdN 14 C (cnt_fix (by decide)) (fun _ => rfl) rfl (by decide) (by decide) dL_isTold_223 ?_
  refine e_iconst (v := 1) C dL_isTold_224 (by decide) ?_
  suffices hJ_233 : ∀ v_233 : Int32, v_233 = (if (M 12 14) = 1 then 1 else 0) → E Ξ 5 ρ J M 0 0 233 [(3, .int (nI y)), (4, .int 3), (0, .ref (ρ 0)), (1, .ref (ρ 9)), (2, .ref (ρ 12))] (.int v_233 :: []) by
    refine e_icmp_ne (tgt := 232) C dL_isTold_225 (by decide) (fun c_225 => ?_) (fun c_225 => ?_)
    · refine e_iconst (v := 0) C dL_isTold_232 (by decide) ?_
      exact hJ_233 _ (by rw [if_neg c_225])
    · refine e_iconst (v := 1) C dL_isTold_228 (by decide) ?_
      refine e_goto (tgt := 233) C dL_isTold_229 (by decide) ?_
      exact hJ_233 _ (by rw [if_pos c_225])
  intro v_233 hv_233
  refine e_istore (ls2 := [(5, .int v_233), (3, .int (nI y)), (4, .int 3), (0, .ref (ρ 0)), (1, .ref (ρ 9)), (2, .ref (ρ 12))]) C hnL dL_isTold_233 (by decide) rfl ?_
  refine e_aload_n (j := 5) C dL_isTold_235 rfl rfl ?_
  refine e_bipush (v := 14) C dL_isTold_236 (by decide) ?_
  refine e_iload_n (j := 1) C dL_isTold_238 rfl rfl ?_
  refine e_iconst (v := 2) C dL_isTold_239 (by decide) ?_
  refine e_iremN y 2 1 C rfl rfl (by omega) (by omega) (by omega) hv dL_isTold_240 ?_
  refine e_iastN 14 C (cnt_fix (by decide)) (fun _ _ => rfl) rfl (by decide) (by decide) dL_isTold_241 ?_
  refine e_topM (fun M_241 hM_241 => ?_)
  refine e_aload_n (j := 3) C dL_isTold_242 rfl rfl ?_
  refine e_aload_n (j := 5) C dL_isTold_243 rfl rfl ?_
  refine e_bipush (v := 14) C dL_isTold_244 (by decide) ?_
  refine e_ialdN 14 C (cnt_fix (by decide)) (fun _ => rfl) rfl (by decide) (by decide) dL_isTold_246 ?_
  rw [show M_241 12 14 = 1 by rw [hM_241]; exact up_same _ _ _ _]
  rw [show M_241 = up M 12 14 1 from hM_241]
  refine e_iconst (v := 1) C dL_isTold_247 (by decide) ?_
  refine e_icmp_ne (tgt := 255) C dL_isTold_248 (by decide) (fun c_248 => absurd ((nI_eq (a := 1) (b := 1) (by omega) (by omega)).mpr (by omega)) c_248) (fun c_248 => ?_)
  refine e_iconst (v := 1) C dL_isTold_251 (by decide) ?_
  refine e_goto (tgt := 256) C dL_isTold_252 (by decide) ?_
  refine e_cV (i := 0) (nA := 1) (Cn := RX2) C (c_X2_check hl (by first | exact Or.inl rfl | exact Or.inr rfl) (by rw [up_row (by decide)]; exact hb)) rfl (cnt_fix (by decide)) (fun _ => rfl) rfl rfl mw_340 mw_337 mw_338 mw_339 mw_12 (by decide +kernel) (by decide) rfl rfl (Nat.le_of_ble_eq_true rfl) dL_isTold_256 (Nat.le_of_ble_eq_true rfl) (Nat.le_of_ble_eq_true rfl) ?_
  refine e_iload (j := 0) C dL_isTold_259 rfl ?_
  refine e_icmp_ne (tgt := 268) C dL_isTold_261 (by decide) (fun c_261 => absurd (hx.trans hv_233.symm) c_261) (fun c_261 => ?_)
  refine e_iconst (v := 1) C dL_isTold_264 (by decide) ?_
  refine e_goto (tgt := 269) C dL_isTold_265 (by decide) ?_
  exact e_zret C rfl rfl (Nat.le_of_ble_eq_true rfl) (Nat.le_of_ble_eq_true rfl) dL_isTold_269 (pO.mk rfl)
set_option maxRecDepth 100000 in
set_option maxHeartbeats 1000000 in
theorem L_obey_1 {l : Launch} (hl : l.stackTraces = false) {ρ : Nat → Nat} {J : Nat → Int64} {M : Mem} {z y : Nat} (hz : z < 1000000000) (hy : z / 11 = y) (hway : z % 11 = 8) (hv : y % 2 = 1) (hb : isB (M 0 12)) (hx : M 0 12 = if M 12 20 = 1 then 1 else 0) : CtO l yL_isTold cL_isTold 9 (some .boolean) 10 13 78 5 ρ J M [.ref (ρ 0), .ref (ρ 9), .ref (ρ 12), .int (nI z)] (rI 1 (up (up M 12 20 1) 0 12 1)) := by
  refine CtO.of hl (by decide +kernel) (Nat.le_of_ble_eq_true rfl) (fun Ξ hnL C => ?_)
  show E Ξ 5 ρ J M 0 0 0 [(0, .ref (ρ 0)), (1, .ref (ρ 9)), (2, .ref (ρ 12)), (3, .int (nI z))] []
  refine e_iload_n (j := 3) C dL_isTold_0 rfl rfl ?_
  refine e_bipush (v := 11) C dL_isTold_1 (by decide) ?_
  refine e_iremN z 11 8 C rfl rfl (by omega) (by omega) (by omega) hway dL_isTold_3 ?_
  refine e_istore (ls2 := [(4, .int 8), (0, .ref (ρ 0)), (1, .ref (ρ 9)), (2, .ref (ρ 12)), (3, .int (nI z))]) C hnL dL_isTold_4 (by decide) rfl ?_
  refine e_iload_n (j := 4) C dL_isTold_6 rfl rfl ?_
  refine e_bipush (v := 11) C dL_isTold_7 (by decide) ?_
  refine e_idivN z 11 y C rfl rfl (by omega) (by omega) (by omega) hy dL_isTold_9 ?_
  refine e_istore_n (ls2 := [(3, .int (nI y)), (4, .int 8), (0, .ref (ρ 0)), (1, .ref (ρ 9)), (2, .ref (ρ 12))]) C hnL dL_isTold_10 rfl (by decide) rfl ?_
  refine e_iload (j := 1) C dL_isTold_11 rfl ?_
  refine e_if_ne (tgt := 87) C dL_isTold_13 (by decide) (fun c_13 => ?_) (fun c_13 => absurd ((nI_eq (a := 8) (b := 0) (by omega) (by omega)).mp c_13) (by omega))
  refine e_iload (j := 1) C dL_isTold_87 rfl ?_
  refine e_iconst (v := 1) C dL_isTold_89 (by decide) ?_
  refine e_icmp_ne (tgt := 175) C dL_isTold_90 (by decide) (fun c_90 => ?_) (fun c_90 => absurd ((nI_eq (a := 8) (b := 1) (by omega) (by omega)).mp c_90) (by omega))
  refine e_iload (j := 1) C dL_isTold_175 rfl ?_
  refine e_iconst (v := 2) C dL_isTold_177 (by decide) ?_
  refine e_icmp_ne (tgt := 214) C dL_isTold_178 (by decide) (fun c_178 => ?_) (fun c_178 => absurd ((nI_eq (a := 8) (b := 2) (by omega) (by omega)).mp c_178) (by omega))
  refine e_iload (j := 1) C dL_isTold_214 rfl ?_
  refine e_iconst (v := 3) C dL_isTold_216 (by decide) ?_
  refine e_icmp_ne (tgt := 270) C dL_isTold_217 (by decide) (fun c_217 => ?_) (fun c_217 => absurd ((nI_eq (a := 8) (b := 3) (by omega) (by omega)).mp c_217) (by omega))
  refine e_iload (j := 1) C dL_isTold_270 rfl ?_
  refine e_iconst (v := 4) C dL_isTold_272 (by decide) ?_
  refine e_icmp_ne (tgt := 367) C dL_isTold_273 (by decide) (fun c_273 => ?_) (fun c_273 => absurd ((nI_eq (a := 8) (b := 4) (by omega) (by omega)).mp c_273) (by omega))
  refine e_iload (j := 1) C dL_isTold_367 rfl ?_
  refine e_iconst (v := 5) C dL_isTold_369 (by decide) ?_
  refine e_icmp_ne (tgt := 407) C dL_isTold_370 (by decide) (fun c_370 => ?_) (fun c_370 => absurd ((nI_eq (a := 8) (b := 5) (by omega) (by omega)).mp c_370) (by omega))
  refine e_iload (j := 1) C dL_isTold_407 rfl ?_
  refine e_bipush (v := 6) C dL_isTold_409 (by decide) ?_
  refine e_icmp_ne (tgt := 447) C dL_isTold_411 (by decide) (fun c_411 => ?_) (fun c_411 => absurd ((nI_eq (a := 8) (b := 6) (by omega) (by omega)).mp c_411) (by omega))
  refine e_iload (j := 1) C dL_isTold_447 rfl ?_
  refine e_bipush (v := 7) C dL_isTold_449 (by decide) ?_
  refine e_icmp_ne (tgt := 544) C dL_isTold_451 (by decide) (fun c_451 => ?_) (fun c_451 => absurd ((nI_eq (a := 8) (b := 7) (by omega) (by omega)).mp c_451) (by omega))
  refine e_iload (j := 1) C dL_isTold_544 rfl ?_
  refine e_bipush (v := 8) C dL_isTold_546 (by decide) ?_
  refine e_icmp_ne (tgt := 600) C dL_isTold_548 (by decide) (fun c_548 => absurd ((nI_eq (a := 8) (b := 8) (by omega) (by omega)).mpr (by omega)) c_548) (fun c_548 => ?_)
  refine e_aload_n (j := 4) C dL_isTold_551 rfl rfl ?_
  refine e_bipush (v := 20) C dL_isTold_552 (by decide) ?_
  refine e_ialdN 20 C (cnt_fix (by decide)) (fun _ => rfl) rfl (by decide) (by decide) dL_isTold_554 ?_
  refine e_iconst (v := 1) C dL_isTold_555 (by decide) ?_
  suffices hJ_564 : ∀ v_564 : Int32, v_564 = (if (M 12 20) = 1 then 1 else 0) → E Ξ 5 ρ J M 0 0 564 [(3, .int (nI y)), (4, .int 8), (0, .ref (ρ 0)), (1, .ref (ρ 9)), (2, .ref (ρ 12))] (.int v_564 :: []) by
    refine e_icmp_ne (tgt := 563) C dL_isTold_556 (by decide) (fun c_556 => ?_) (fun c_556 => ?_)
    · refine e_iconst (v := 0) C dL_isTold_563 (by decide) ?_
      exact hJ_564 _ (by rw [if_neg c_556])
    · refine e_iconst (v := 1) C dL_isTold_559 (by decide) ?_
      refine e_goto (tgt := 564) C dL_isTold_560 (by decide) ?_
      exact hJ_564 _ (by rw [if_pos c_556])
  intro v_564 hv_564
  refine e_istore (ls2 := [(5, .int v_564), (3, .int (nI y)), (4, .int 8), (0, .ref (ρ 0)), (1, .ref (ρ 9)), (2, .ref (ρ 12))]) C hnL dL_isTold_564 (by decide) rfl ?_
  refine e_aload_n (j := 5) C dL_isTold_566 rfl rfl ?_
  refine e_bipush (v := 20) C dL_isTold_567 (by decide) ?_
  refine e_iload_n (j := 1) C dL_isTold_569 rfl rfl ?_
  refine e_iconst (v := 2) C dL_isTold_570 (by decide) ?_
  refine e_iremN y 2 1 C rfl rfl (by omega) (by omega) (by omega) hv dL_isTold_571 ?_
  refine e_iastN 20 C (cnt_fix (by decide)) (fun _ _ => rfl) rfl (by decide) (by decide) dL_isTold_572 ?_
  refine e_topM (fun M_572 hM_572 => ?_)
  rw [show M_572 = up M 12 20 1 from hM_572]
  refine e_aload_n (j := 3) C dL_isTold_573 rfl rfl ?_
  refine e_iload_n (j := 1) C dL_isTold_574 rfl rfl ?_
  refine e_iconst (v := 2) C dL_isTold_575 (by decide) ?_
  refine e_iremN y 2 1 C rfl rfl (by omega) (by omega) (by omega) hv dL_isTold_576 ?_
  refine e_iconst (v := 1) C dL_isTold_577 (by decide) ?_
  refine e_icmp_ne (tgt := 585) C dL_isTold_578 (by decide) (fun c_578 => absurd ((nI_eq (a := 1) (b := 1) (by omega) (by omega)).mpr (by omega)) c_578) (fun c_578 => ?_)
  refine e_iconst (v := 1) C dL_isTold_581 (by decide) ?_
  refine e_goto (tgt := 586) C dL_isTold_582 (by decide) ?_
  refine e_cV (i := 0) (nA := 1) (Cn := RX2) C (c_X2_obey hl (by first | exact Or.inl rfl | exact Or.inr rfl) (by rw [up_row (by decide)]; exact hb)) rfl (cnt_fix (by decide)) (fun _ => rfl) rfl rfl mw_363 mw_360 mw_361 mw_362 mw_12 (by decide +kernel) (by decide) rfl rfl (Nat.le_of_ble_eq_true rfl) dL_isTold_586 (Nat.le_of_ble_eq_true rfl) (Nat.le_of_ble_eq_true rfl) ?_
  refine e_iload (j := 0) C dL_isTold_589 rfl ?_
  refine e_icmp_ne (tgt := 598) C dL_isTold_591 (by decide) (fun c_591 => absurd (hx.trans hv_564.symm) c_591) (fun c_591 => ?_)
  refine e_iconst (v := 1) C dL_isTold_594 (by decide) ?_
  refine e_goto (tgt := 599) C dL_isTold_595 (by decide) ?_
  exact e_zret C rfl rfl (Nat.le_of_ble_eq_true rfl) (Nat.le_of_ble_eq_true rfl) dL_isTold_599 (pO.mk rfl)
set_option maxRecDepth 100000 in
set_option maxHeartbeats 1000000 in
theorem L_law_1 {l : Launch} (hl : l.stackTraces = false) {ρ : Nat → Nat} {J : Nat → Int64} {M : Mem} {z y : Nat} (hz : z < 1000000000) (hy : z / 11 = y) (hway : z % 11 = 7) {j : Nat} (hj : j < 3) (hj0 : y % 3 = j) (hh : 0 < y / 3 % 3) (hb : isB (M 6 j)) (hx : M 6 j = if M 12 19 >>> (nI j &&& 31) &&& 1 = 1 then 1 else 0) : CtO l yL_isTold cL_isTold 9 (some .boolean) 10 13 78 5 ρ J M [.ref (ρ 0), .ref (ρ 9), .ref (ρ 12), .int (nI z)] (rI 1 (up (up M 12 19 (M 12 19 ||| (1 : Int32) <<< (nI j &&& 31))) 6 j 1)) := by
  refine CtO.of hl (by decide +kernel) (Nat.le_of_ble_eq_true rfl) (fun Ξ hnL C => ?_)
  show E Ξ 5 ρ J M 0 0 0 [(0, .ref (ρ 0)), (1, .ref (ρ 9)), (2, .ref (ρ 12)), (3, .int (nI z))] []
  refine e_iload_n (j := 3) C dL_isTold_0 rfl rfl ?_
  refine e_bipush (v := 11) C dL_isTold_1 (by decide) ?_
  refine e_iremN z 11 7 C rfl rfl (by omega) (by omega) (by omega) hway dL_isTold_3 ?_
  refine e_istore (ls2 := [(4, .int 7), (0, .ref (ρ 0)), (1, .ref (ρ 9)), (2, .ref (ρ 12)), (3, .int (nI z))]) C hnL dL_isTold_4 (by decide) rfl ?_
  refine e_iload_n (j := 4) C dL_isTold_6 rfl rfl ?_
  refine e_bipush (v := 11) C dL_isTold_7 (by decide) ?_
  refine e_idivN z 11 y C rfl rfl (by omega) (by omega) (by omega) hy dL_isTold_9 ?_
  refine e_istore_n (ls2 := [(3, .int (nI y)), (4, .int 7), (0, .ref (ρ 0)), (1, .ref (ρ 9)), (2, .ref (ρ 12))]) C hnL dL_isTold_10 rfl (by decide) rfl ?_
  refine e_iload (j := 1) C dL_isTold_11 rfl ?_
  refine e_if_ne (tgt := 87) C dL_isTold_13 (by decide) (fun c_13 => ?_) (fun c_13 => absurd ((nI_eq (a := 7) (b := 0) (by omega) (by omega)).mp c_13) (by omega))
  refine e_iload (j := 1) C dL_isTold_87 rfl ?_
  refine e_iconst (v := 1) C dL_isTold_89 (by decide) ?_
  refine e_icmp_ne (tgt := 175) C dL_isTold_90 (by decide) (fun c_90 => ?_) (fun c_90 => absurd ((nI_eq (a := 7) (b := 1) (by omega) (by omega)).mp c_90) (by omega))
  refine e_iload (j := 1) C dL_isTold_175 rfl ?_
  refine e_iconst (v := 2) C dL_isTold_177 (by decide) ?_
  refine e_icmp_ne (tgt := 214) C dL_isTold_178 (by decide) (fun c_178 => ?_) (fun c_178 => absurd ((nI_eq (a := 7) (b := 2) (by omega) (by omega)).mp c_178) (by omega))
  refine e_iload (j := 1) C dL_isTold_214 rfl ?_
  refine e_iconst (v := 3) C dL_isTold_216 (by decide) ?_
  refine e_icmp_ne (tgt := 270) C dL_isTold_217 (by decide) (fun c_217 => ?_) (fun c_217 => absurd ((nI_eq (a := 7) (b := 3) (by omega) (by omega)).mp c_217) (by omega))
  refine e_iload (j := 1) C dL_isTold_270 rfl ?_
  refine e_iconst (v := 4) C dL_isTold_272 (by decide) ?_
  refine e_icmp_ne (tgt := 367) C dL_isTold_273 (by decide) (fun c_273 => ?_) (fun c_273 => absurd ((nI_eq (a := 7) (b := 4) (by omega) (by omega)).mp c_273) (by omega))
  refine e_iload (j := 1) C dL_isTold_367 rfl ?_
  refine e_iconst (v := 5) C dL_isTold_369 (by decide) ?_
  refine e_icmp_ne (tgt := 407) C dL_isTold_370 (by decide) (fun c_370 => ?_) (fun c_370 => absurd ((nI_eq (a := 7) (b := 5) (by omega) (by omega)).mp c_370) (by omega))
  refine e_iload (j := 1) C dL_isTold_407 rfl ?_
  refine e_bipush (v := 6) C dL_isTold_409 (by decide) ?_
  refine e_icmp_ne (tgt := 447) C dL_isTold_411 (by decide) (fun c_411 => ?_) (fun c_411 => absurd ((nI_eq (a := 7) (b := 6) (by omega) (by omega)).mp c_411) (by omega))
  refine e_iload (j := 1) C dL_isTold_447 rfl ?_
  refine e_bipush (v := 7) C dL_isTold_449 (by decide) ?_
  refine e_icmp_ne (tgt := 544) C dL_isTold_451 (by decide) (fun c_451 => absurd ((nI_eq (a := 7) (b := 7) (by omega) (by omega)).mpr (by omega)) c_451) (fun c_451 => ?_)
  refine e_iload_n (j := 0) C dL_isTold_454 rfl rfl ?_
  refine e_iconst (v := 3) C dL_isTold_455 (by decide) ?_
  refine e_iremN y 3 j C rfl rfl (by omega) (by omega) (by omega) hj0 dL_isTold_456 ?_
  refine e_istore (ls2 := [(5, .int (nI j)), (3, .int (nI y)), (4, .int 7), (0, .ref (ρ 0)), (1, .ref (ρ 9)), (2, .ref (ρ 12))]) C hnL dL_isTold_457 (by decide) rfl ?_
  refine e_aload_n (j := 5) C dL_isTold_459 rfl rfl ?_
  refine e_bipush (v := 19) C dL_isTold_460 (by decide) ?_
  refine e_ialdN 19 C (cnt_fix (by decide)) (fun _ => rfl) rfl (by decide) (by decide) dL_isTold_462 ?_
  refine e_iload (j := 0) C dL_isTold_463 rfl ?_
  refine e_ishr C dL_isTold_465 ?_
  refine e_iconst (v := 1) C dL_isTold_466 (by decide) ?_
  refine e_iand C dL_isTold_467 ?_
  refine e_iconst (v := 1) C dL_isTold_468 (by decide) ?_
  suffices hJ_477 : ∀ v_477 : Int32, v_477 = (if (((M 12 19) >>> ((nI j) &&& 31)) &&& 1) = 1 then 1 else 0) → E Ξ 5 ρ J M 0 0 477 [(5, .int (nI j)), (3, .int (nI y)), (4, .int 7), (0, .ref (ρ 0)), (1, .ref (ρ 9)), (2, .ref (ρ 12))] (.int v_477 :: []) by
    refine e_icmp_ne (tgt := 476) C dL_isTold_469 (by decide) (fun c_469 => ?_) (fun c_469 => ?_)
    · refine e_iconst (v := 0) C dL_isTold_476 (by decide) ?_
      exact hJ_477 _ (by rw [if_neg c_469])
    · refine e_iconst (v := 1) C dL_isTold_472 (by decide) ?_
      refine e_goto (tgt := 477) C dL_isTold_473 (by decide) ?_
      exact hJ_477 _ (by rw [if_pos c_469])
  intro v_477 hv_477
  refine e_istore (ls2 := [(6, .int v_477), (5, .int (nI j)), (3, .int (nI y)), (4, .int 7), (0, .ref (ρ 0)), (1, .ref (ρ 9)), (2, .ref (ρ 12))]) C hnL dL_isTold_477 (by decide) rfl ?_
  refine e_aload_n (j := 6) C dL_isTold_479 rfl rfl ?_
  refine e_bipush (v := 19) C dL_isTold_480 (by decide) ?_
  refine e_iload_n (j := 2) C dL_isTold_482 rfl rfl ?_
  refine e_iconst (v := 3) C dL_isTold_483 (by decide) ?_
  refine e_idivN y 3 (y / 3) C rfl rfl (by omega) (by omega) (by omega) rfl dL_isTold_484 ?_
  refine e_iconst (v := 3) C dL_isTold_485 (by decide) ?_
  refine e_iremN (y / 3) 3 ((y / 3) % 3) C rfl rfl (by omega) (by omega) (by omega) rfl dL_isTold_486 ?_
  refine e_if_le (tgt := 502) C dL_isTold_487 (by decide) (fun c_487 => absurd ((nI_leI (a := ((y / 3) % 3)) (b := 0) (by omega) (by omega)).mp c_487) (by omega)) (fun c_487 => ?_)
  refine e_aload_n (j := 6) C dL_isTold_490 rfl rfl ?_
  refine e_bipush (v := 19) C dL_isTold_491 (by decide) ?_
  refine e_ialdN 19 C (cnt_fix (by decide)) (fun _ => rfl) rfl (by decide) (by decide) dL_isTold_493 ?_
  refine e_iconst (v := 1) C dL_isTold_494 (by decide) ?_
  refine e_iload (j := 1) C dL_isTold_495 rfl ?_
  refine e_ishl C dL_isTold_497 ?_
  refine e_ior C dL_isTold_498 ?_
  refine e_goto (tgt := 513) C dL_isTold_499 (by decide) ?_
  refine e_iastN 19 C (cnt_fix (by decide)) (fun _ _ => rfl) rfl (by decide) (by decide) dL_isTold_513 ?_
  refine e_topM (fun M_513 hM_513 => ?_)
  rw [show M_513 = up M 12 19 (M 12 19 ||| (1 : Int32) <<< (nI j &&& 31)) from hM_513]
  refine e_aload_n (j := 4) C dL_isTold_514 rfl rfl ?_
  refine e_iload (j := 1) C dL_isTold_515 rfl ?_
  refine e_iload_n (j := 2) C dL_isTold_517 rfl rfl ?_
  refine e_iconst (v := 3) C dL_isTold_518 (by decide) ?_
  refine e_idivN y 3 (y / 3) C rfl rfl (by omega) (by omega) (by omega) rfl dL_isTold_519 ?_
  refine e_iconst (v := 3) C dL_isTold_520 (by decide) ?_
  refine e_iremN (y / 3) 3 ((y / 3) % 3) C rfl rfl (by omega) (by omega) (by omega) rfl dL_isTold_521 ?_
  refine e_if_le (tgt := 529) C dL_isTold_522 (by decide) (fun c_522 => absurd ((nI_leI (a := ((y / 3) % 3)) (b := 0) (by omega) (by omega)).mp c_522) (by omega)) (fun c_522 => ?_)
  refine e_iconst (v := 1) C dL_isTold_525 (by decide) ?_
  refine e_goto (tgt := 530) C dL_isTold_526 (by decide) ?_
  refine e_cV (i := 0) (nA := 2) (Cn := RX2) C (c_X2_law hl hj (by first | exact Or.inl rfl | exact Or.inr rfl) (by rw [up_row (by decide)]; exact hb)) rfl (cnt_fix (by decide)) (fun _ => rfl) rfl rfl mw_359 mw_356 mw_357 mw_358 mw_12 (by decide +kernel) (by decide) rfl rfl (Nat.le_of_ble_eq_true rfl) dL_isTold_530 (Nat.le_of_ble_eq_true rfl) (Nat.le_of_ble_eq_true rfl) ?_
  refine e_iload (j := 0) C dL_isTold_533 rfl ?_
  refine e_icmp_ne (tgt := 542) C dL_isTold_535 (by decide) (fun c_535 => absurd (hx.trans hv_477.symm) c_535) (fun c_535 => ?_)
  refine e_iconst (v := 1) C dL_isTold_538 (by decide) ?_
  refine e_goto (tgt := 543) C dL_isTold_539 (by decide) ?_
  exact e_zret C rfl rfl (Nat.le_of_ble_eq_true rfl) (Nat.le_of_ble_eq_true rfl) dL_isTold_543 (pO.mk rfl)
set_option maxRecDepth 100000 in
set_option maxHeartbeats 1000000 in
theorem L_law_0 {l : Launch} (hl : l.stackTraces = false) {ρ : Nat → Nat} {J : Nat → Int64} {M : Mem} {z y : Nat} (hz : z < 1000000000) (hy : z / 11 = y) (hway : z % 11 = 7) {j : Nat} (hj : j < 3) (hj0 : y % 3 = j) (hh : ¬ 0 < y / 3 % 3) (hb : isB (M 6 j)) (hx : M 6 j = if M 12 19 >>> (nI j &&& 31) &&& 1 = 1 then 1 else 0) : CtO l yL_isTold cL_isTold 9 (some .boolean) 10 13 78 5 ρ J M [.ref (ρ 0), .ref (ρ 9), .ref (ρ 12), .int (nI z)] (rI 1 (up (up M 12 19 (M 12 19 &&& ((1 : Int32) <<< (nI j &&& 31) ^^^ (-1)))) 6 j 0)) := by
  refine CtO.of hl (by decide +kernel) (Nat.le_of_ble_eq_true rfl) (fun Ξ hnL C => ?_)
  show E Ξ 5 ρ J M 0 0 0 [(0, .ref (ρ 0)), (1, .ref (ρ 9)), (2, .ref (ρ 12)), (3, .int (nI z))] []
  refine e_iload_n (j := 3) C dL_isTold_0 rfl rfl ?_
  refine e_bipush (v := 11) C dL_isTold_1 (by decide) ?_
  refine e_iremN z 11 7 C rfl rfl (by omega) (by omega) (by omega) hway dL_isTold_3 ?_
  refine e_istore (ls2 := [(4, .int 7), (0, .ref (ρ 0)), (1, .ref (ρ 9)), (2, .ref (ρ 12)), (3, .int (nI z))]) C hnL dL_isTold_4 (by decide) rfl ?_
  refine e_iload_n (j := 4) C dL_isTold_6 rfl rfl ?_
  refine e_bipush (v := 11) C dL_isTold_7 (by decide) ?_
  refine e_idivN z 11 y C rfl rfl (by omega) (by omega) (by omega) hy dL_isTold_9 ?_
  refine e_istore_n (ls2 := [(3, .int (nI y)), (4, .int 7), (0, .ref (ρ 0)), (1, .ref (ρ 9)), (2, .ref (ρ 12))]) C hnL dL_isTold_10 rfl (by decide) rfl ?_
  refine e_iload (j := 1) C dL_isTold_11 rfl ?_
  refine e_if_ne (tgt := 87) C dL_isTold_13 (by decide) (fun c_13 => ?_) (fun c_13 => absurd ((nI_eq (a := 7) (b := 0) (by omega) (by omega)).mp c_13) (by omega))
  refine e_iload (j := 1) C dL_isTold_87 rfl ?_
  refine e_iconst (v := 1) C dL_isTold_89 (by decide) ?_
  refine e_icmp_ne (tgt := 175) C dL_isTold_90 (by decide) (fun c_90 => ?_) (fun c_90 => absurd ((nI_eq (a := 7) (b := 1) (by omega) (by omega)).mp c_90) (by omega))
  refine e_iload (j := 1) C dL_isTold_175 rfl ?_
  refine e_iconst (v := 2) C dL_isTold_177 (by decide) ?_
  refine e_icmp_ne (tgt := 214) C dL_isTold_178 (by decide) (fun c_178 => ?_) (fun c_178 => absurd ((nI_eq (a := 7) (b := 2) (by omega) (by omega)).mp c_178) (by omega))
  refine e_iload (j := 1) C dL_isTold_214 rfl ?_
  refine e_iconst (v := 3) C dL_isTold_216 (by decide) ?_
  refine e_icmp_ne (tgt := 270) C dL_isTold_217 (by decide) (fun c_217 => ?_) (fun c_217 => absurd ((nI_eq (a := 7) (b := 3) (by omega) (by omega)).mp c_217) (by omega))
  refine e_iload (j := 1) C dL_isTold_270 rfl ?_
  refine e_iconst (v := 4) C dL_isTold_272 (by decide) ?_
  refine e_icmp_ne (tgt := 367) C dL_isTold_273 (by decide) (fun c_273 => ?_) (fun c_273 => absurd ((nI_eq (a := 7) (b := 4) (by omega) (by omega)).mp c_273) (by omega))
  refine e_iload (j := 1) C dL_isTold_367 rfl ?_
  refine e_iconst (v := 5) C dL_isTold_369 (by decide) ?_
  refine e_icmp_ne (tgt := 407) C dL_isTold_370 (by decide) (fun c_370 => ?_) (fun c_370 => absurd ((nI_eq (a := 7) (b := 5) (by omega) (by omega)).mp c_370) (by omega))
  refine e_iload (j := 1) C dL_isTold_407 rfl ?_
  refine e_bipush (v := 6) C dL_isTold_409 (by decide) ?_
  refine e_icmp_ne (tgt := 447) C dL_isTold_411 (by decide) (fun c_411 => ?_) (fun c_411 => absurd ((nI_eq (a := 7) (b := 6) (by omega) (by omega)).mp c_411) (by omega))
  refine e_iload (j := 1) C dL_isTold_447 rfl ?_
  refine e_bipush (v := 7) C dL_isTold_449 (by decide) ?_
  refine e_icmp_ne (tgt := 544) C dL_isTold_451 (by decide) (fun c_451 => absurd ((nI_eq (a := 7) (b := 7) (by omega) (by omega)).mpr (by omega)) c_451) (fun c_451 => ?_)
  refine e_iload_n (j := 0) C dL_isTold_454 rfl rfl ?_
  refine e_iconst (v := 3) C dL_isTold_455 (by decide) ?_
  refine e_iremN y 3 j C rfl rfl (by omega) (by omega) (by omega) hj0 dL_isTold_456 ?_
  refine e_istore (ls2 := [(5, .int (nI j)), (3, .int (nI y)), (4, .int 7), (0, .ref (ρ 0)), (1, .ref (ρ 9)), (2, .ref (ρ 12))]) C hnL dL_isTold_457 (by decide) rfl ?_
  refine e_aload_n (j := 5) C dL_isTold_459 rfl rfl ?_
  refine e_bipush (v := 19) C dL_isTold_460 (by decide) ?_
  refine e_ialdN 19 C (cnt_fix (by decide)) (fun _ => rfl) rfl (by decide) (by decide) dL_isTold_462 ?_
  refine e_iload (j := 0) C dL_isTold_463 rfl ?_
  refine e_ishr C dL_isTold_465 ?_
  refine e_iconst (v := 1) C dL_isTold_466 (by decide) ?_
  refine e_iand C dL_isTold_467 ?_
  refine e_iconst (v := 1) C dL_isTold_468 (by decide) ?_
  suffices hJ_477 : ∀ v_477 : Int32, v_477 = (if (((M 12 19) >>> ((nI j) &&& 31)) &&& 1) = 1 then 1 else 0) → E Ξ 5 ρ J M 0 0 477 [(5, .int (nI j)), (3, .int (nI y)), (4, .int 7), (0, .ref (ρ 0)), (1, .ref (ρ 9)), (2, .ref (ρ 12))] (.int v_477 :: []) by
    refine e_icmp_ne (tgt := 476) C dL_isTold_469 (by decide) (fun c_469 => ?_) (fun c_469 => ?_)
    · refine e_iconst (v := 0) C dL_isTold_476 (by decide) ?_
      exact hJ_477 _ (by rw [if_neg c_469])
    · refine e_iconst (v := 1) C dL_isTold_472 (by decide) ?_
      refine e_goto (tgt := 477) C dL_isTold_473 (by decide) ?_
      exact hJ_477 _ (by rw [if_pos c_469])
  intro v_477 hv_477
  refine e_istore (ls2 := [(6, .int v_477), (5, .int (nI j)), (3, .int (nI y)), (4, .int 7), (0, .ref (ρ 0)), (1, .ref (ρ 9)), (2, .ref (ρ 12))]) C hnL dL_isTold_477 (by decide) rfl ?_
  refine e_aload_n (j := 6) C dL_isTold_479 rfl rfl ?_
  refine e_bipush (v := 19) C dL_isTold_480 (by decide) ?_
  refine e_iload_n (j := 2) C dL_isTold_482 rfl rfl ?_
  refine e_iconst (v := 3) C dL_isTold_483 (by decide) ?_
  refine e_idivN y 3 (y / 3) C rfl rfl (by omega) (by omega) (by omega) rfl dL_isTold_484 ?_
  refine e_iconst (v := 3) C dL_isTold_485 (by decide) ?_
  refine e_iremN (y / 3) 3 ((y / 3) % 3) C rfl rfl (by omega) (by omega) (by omega) rfl dL_isTold_486 ?_
  refine e_if_le (tgt := 502) C dL_isTold_487 (by decide) (fun c_487 => ?_) (fun c_487 => absurd ((nI_leI (a := ((y / 3) % 3)) (b := 0) (by omega) (by omega)).mpr (by omega)) c_487)
  refine e_aload_n (j := 6) C dL_isTold_502 rfl rfl ?_
  refine e_bipush (v := 19) C dL_isTold_503 (by decide) ?_
  refine e_ialdN 19 C (cnt_fix (by decide)) (fun _ => rfl) rfl (by decide) (by decide) dL_isTold_505 ?_
  refine e_iconst (v := 1) C dL_isTold_506 (by decide) ?_
  refine e_iload (j := 1) C dL_isTold_507 rfl ?_
  refine e_ishl C dL_isTold_509 ?_
  refine e_iconst (v := (-1)) C dL_isTold_510 (by decide) ?_
  refine e_ixor C dL_isTold_511 ?_
  refine e_iand C dL_isTold_512 ?_
  refine e_iastN 19 C (cnt_fix (by decide)) (fun _ _ => rfl) rfl (by decide) (by decide) dL_isTold_513 ?_
  refine e_topM (fun M_513 hM_513 => ?_)
  rw [show M_513 = up M 12 19 (M 12 19 &&& ((1 : Int32) <<< (nI j &&& 31) ^^^ (-1))) from hM_513]
  refine e_aload_n (j := 4) C dL_isTold_514 rfl rfl ?_
  refine e_iload (j := 1) C dL_isTold_515 rfl ?_
  refine e_iload_n (j := 2) C dL_isTold_517 rfl rfl ?_
  refine e_iconst (v := 3) C dL_isTold_518 (by decide) ?_
  refine e_idivN y 3 (y / 3) C rfl rfl (by omega) (by omega) (by omega) rfl dL_isTold_519 ?_
  refine e_iconst (v := 3) C dL_isTold_520 (by decide) ?_
  refine e_iremN (y / 3) 3 ((y / 3) % 3) C rfl rfl (by omega) (by omega) (by omega) rfl dL_isTold_521 ?_
  refine e_if_le (tgt := 529) C dL_isTold_522 (by decide) (fun c_522 => ?_) (fun c_522 => absurd ((nI_leI (a := ((y / 3) % 3)) (b := 0) (by omega) (by omega)).mpr (by omega)) c_522)
  refine e_iconst (v := 0) C dL_isTold_529 (by decide) ?_
  refine e_cV (i := 0) (nA := 2) (Cn := RX2) C (c_X2_law hl hj (by first | exact Or.inl rfl | exact Or.inr rfl) (by rw [up_row (by decide)]; exact hb)) rfl (cnt_fix (by decide)) (fun _ => rfl) rfl rfl mw_359 mw_356 mw_357 mw_358 mw_12 (by decide +kernel) (by decide) rfl rfl (Nat.le_of_ble_eq_true rfl) dL_isTold_530 (Nat.le_of_ble_eq_true rfl) (Nat.le_of_ble_eq_true rfl) ?_
  refine e_iload (j := 0) C dL_isTold_533 rfl ?_
  refine e_icmp_ne (tgt := 542) C dL_isTold_535 (by decide) (fun c_535 => absurd (hx.trans hv_477.symm) c_535) (fun c_535 => ?_)
  refine e_iconst (v := 1) C dL_isTold_538 (by decide) ?_
  refine e_goto (tgt := 543) C dL_isTold_539 (by decide) ?_
  exact e_zret C rfl rfl (Nat.le_of_ble_eq_true rfl) (Nat.le_of_ble_eq_true rfl) dL_isTold_543 (pO.mk rfl)
set_option maxRecDepth 100000 in
set_option maxHeartbeats 1000000 in
theorem L_give_0 {l : Launch} (hl : l.stackTraces = false) {ρ : Nat → Nat} {J : Nat → Int64} {M : Mem} {z y : Nat} (hz : z < 1000000000) (hy : z / 11 = y) (hway : z % 11 = 9) {k v : Nat} (hk : k < 5) (hk0 : y % 5 = k) (hv : 1 + y / 5 % 9 = v) (hh : y / 45 % 3 = 0) {x : Int32} {K : Mem} (hcall : o_give (up (up M 12 24 (M 12 24 + nI v)) 9 (12 * k + 9) 0) (nI v) = rI x K) (hx : x = K 12 24) (hK : K 9 (12 * k + 9) = 0) (hb : isB (K (mO k) 2)) (hx2 : K (mO k) 2 = if M 9 (12 * k + 9) = 1 then 1 else 0) : CtO l yL_isTold cL_isTold 9 (some .boolean) 10 13 78 5 ρ J M [.ref (ρ 0), .ref (ρ 9), .ref (ρ 12), .int (nI z)] (rI 1 (up K (mO k) 2 0)) := by
  refine CtO.of hl (by decide +kernel) (Nat.le_of_ble_eq_true rfl) (fun Ξ hnL C => ?_)
  show E Ξ 5 ρ J M 0 0 0 [(0, .ref (ρ 0)), (1, .ref (ρ 9)), (2, .ref (ρ 12)), (3, .int (nI z))] []
  refine e_iload_n (j := 3) C dL_isTold_0 rfl rfl ?_
  refine e_bipush (v := 11) C dL_isTold_1 (by decide) ?_
  refine e_iremN z 11 9 C rfl rfl (by omega) (by omega) (by omega) hway dL_isTold_3 ?_
  refine e_istore (ls2 := [(4, .int 9), (0, .ref (ρ 0)), (1, .ref (ρ 9)), (2, .ref (ρ 12)), (3, .int (nI z))]) C hnL dL_isTold_4 (by decide) rfl ?_
  refine e_iload_n (j := 4) C dL_isTold_6 rfl rfl ?_
  refine e_bipush (v := 11) C dL_isTold_7 (by decide) ?_
  refine e_idivN z 11 y C rfl rfl (by omega) (by omega) (by omega) hy dL_isTold_9 ?_
  refine e_istore_n (ls2 := [(3, .int (nI y)), (4, .int 9), (0, .ref (ρ 0)), (1, .ref (ρ 9)), (2, .ref (ρ 12))]) C hnL dL_isTold_10 rfl (by decide) rfl ?_
  refine e_iload (j := 1) C dL_isTold_11 rfl ?_
  refine e_if_ne (tgt := 87) C dL_isTold_13 (by decide) (fun c_13 => ?_) (fun c_13 => absurd ((nI_eq (a := 9) (b := 0) (by omega) (by omega)).mp c_13) (by omega))
  refine e_iload (j := 1) C dL_isTold_87 rfl ?_
  refine e_iconst (v := 1) C dL_isTold_89 (by decide) ?_
  refine e_icmp_ne (tgt := 175) C dL_isTold_90 (by decide) (fun c_90 => ?_) (fun c_90 => absurd ((nI_eq (a := 9) (b := 1) (by omega) (by omega)).mp c_90) (by omega))
  refine e_iload (j := 1) C dL_isTold_175 rfl ?_
  refine e_iconst (v := 2) C dL_isTold_177 (by decide) ?_
  refine e_icmp_ne (tgt := 214) C dL_isTold_178 (by decide) (fun c_178 => ?_) (fun c_178 => absurd ((nI_eq (a := 9) (b := 2) (by omega) (by omega)).mp c_178) (by omega))
  refine e_iload (j := 1) C dL_isTold_214 rfl ?_
  refine e_iconst (v := 3) C dL_isTold_216 (by decide) ?_
  refine e_icmp_ne (tgt := 270) C dL_isTold_217 (by decide) (fun c_217 => ?_) (fun c_217 => absurd ((nI_eq (a := 9) (b := 3) (by omega) (by omega)).mp c_217) (by omega))
  refine e_iload (j := 1) C dL_isTold_270 rfl ?_
  refine e_iconst (v := 4) C dL_isTold_272 (by decide) ?_
  refine e_icmp_ne (tgt := 367) C dL_isTold_273 (by decide) (fun c_273 => ?_) (fun c_273 => absurd ((nI_eq (a := 9) (b := 4) (by omega) (by omega)).mp c_273) (by omega))
  refine e_iload (j := 1) C dL_isTold_367 rfl ?_
  refine e_iconst (v := 5) C dL_isTold_369 (by decide) ?_
  refine e_icmp_ne (tgt := 407) C dL_isTold_370 (by decide) (fun c_370 => ?_) (fun c_370 => absurd ((nI_eq (a := 9) (b := 5) (by omega) (by omega)).mp c_370) (by omega))
  refine e_iload (j := 1) C dL_isTold_407 rfl ?_
  refine e_bipush (v := 6) C dL_isTold_409 (by decide) ?_
  refine e_icmp_ne (tgt := 447) C dL_isTold_411 (by decide) (fun c_411 => ?_) (fun c_411 => absurd ((nI_eq (a := 9) (b := 6) (by omega) (by omega)).mp c_411) (by omega))
  refine e_iload (j := 1) C dL_isTold_447 rfl ?_
  refine e_bipush (v := 7) C dL_isTold_449 (by decide) ?_
  refine e_icmp_ne (tgt := 544) C dL_isTold_451 (by decide) (fun c_451 => ?_) (fun c_451 => absurd ((nI_eq (a := 9) (b := 7) (by omega) (by omega)).mp c_451) (by omega))
  refine e_iload (j := 1) C dL_isTold_544 rfl ?_
  refine e_bipush (v := 8) C dL_isTold_546 (by decide) ?_
  refine e_icmp_ne (tgt := 600) C dL_isTold_548 (by decide) (fun c_548 => ?_) (fun c_548 => absurd ((nI_eq (a := 9) (b := 8) (by omega) (by omega)).mp c_548) (by omega))
  refine e_iload_n (j := 0) C dL_isTold_600 rfl rfl ?_
  refine e_iconst (v := 5) C dL_isTold_601 (by decide) ?_
  refine e_iremN y 5 k C rfl rfl (by omega) (by omega) (by omega) hk0 dL_isTold_602 ?_
  refine e_istore (ls2 := [(5, .int (nI k)), (3, .int (nI y)), (4, .int 9), (0, .ref (ρ 0)), (1, .ref (ρ 9)), (2, .ref (ρ 12))]) C hnL dL_isTold_603 (by decide) rfl ?_
  refine e_iload (j := 2) C dL_isTold_605 rfl ?_
  refine e_bipush (v := 9) C dL_isTold_607 (by decide) ?_
  refine e_icmp_ne (tgt := 727) C dL_isTold_609 (by decide) (fun c_609 => absurd ((nI_eq (a := 9) (b := 9) (by omega) (by omega)).mpr (by omega)) c_609) (fun c_609 => ?_)
  refine e_aload_n (j := 5) C dL_isTold_612 rfl rfl ?_
  refine e_bipush (v := 24) C dL_isTold_613 (by decide) ?_
  refine e_dup2 C dL_isTold_615 rfl rfl ?_
  refine e_ialdN 24 C (cnt_fix (by decide)) (fun _ => rfl) rfl (by decide) (by decide) dL_isTold_616 ?_
  refine e_iconst (v := 1) C dL_isTold_617 (by decide) ?_
  refine e_iload_n (j := 1) C dL_isTold_618 rfl rfl ?_
  refine e_iconst (v := 5) C dL_isTold_619 (by decide) ?_
  refine e_idivN y 5 (y / 5) C rfl rfl (by omega) (by omega) (by omega) rfl dL_isTold_620 ?_
  refine e_bipush (v := 9) C dL_isTold_621 (by decide) ?_
  refine e_iremN (y / 5) 9 ((y / 5) % 9) C rfl rfl (by omega) (by omega) (by omega) rfl dL_isTold_623 ?_
  refine e_iaddN 1 ((y / 5) % 9) v C rfl rfl hv dL_isTold_624 ?_
  refine e_iadd C dL_isTold_625 ?_
  refine e_iastN 24 C (cnt_fix (by decide)) (fun _ _ => rfl) rfl (by decide) (by decide) dL_isTold_626 ?_
  refine e_topM (fun M_626 hM_626 => ?_)
  refine e_aload_n (j := 4) C dL_isTold_627 rfl rfl ?_
  refine e_bipush (v := 12) C dL_isTold_628 (by decide) ?_
  refine e_iload (j := 0) C dL_isTold_630 rfl ?_
  refine e_imulN 12 k (12 * k) C rfl rfl rfl dL_isTold_632 ?_
  refine e_bipush (v := 9) C dL_isTold_633 (by decide) ?_
  refine e_iaddN (12 * k) 9 (12 * k + 9) C rfl rfl rfl dL_isTold_635 ?_
  refine e_ialdN (12 * k + 9) C (cnt_fix (by decide)) (fun _ => rfl) rfl (by omega) (by decide) dL_isTold_636 ?_
  refine e_iconst (v := 1) C dL_isTold_637 (by decide) ?_
  suffices hJ_646 : ∀ v_646 : Int32, v_646 = (if (M_626 9 (12 * k + 9)) = 1 then 1 else 0) → E Ξ 5 ρ J M_626 0 0 646 [(5, .int (nI k)), (3, .int (nI y)), (4, .int 9), (0, .ref (ρ 0)), (1, .ref (ρ 9)), (2, .ref (ρ 12))] (.int v_646 :: []) by
    refine e_icmp_ne (tgt := 645) C dL_isTold_638 (by decide) (fun c_638 => ?_) (fun c_638 => ?_)
    · refine e_iconst (v := 0) C dL_isTold_645 (by decide) ?_
      exact hJ_646 _ (by rw [if_neg c_638])
    · refine e_iconst (v := 1) C dL_isTold_641 (by decide) ?_
      refine e_goto (tgt := 646) C dL_isTold_642 (by decide) ?_
      exact hJ_646 _ (by rw [if_pos c_638])
  intro v_646 hv_646
  refine e_istore (ls2 := [(6, .int v_646), (5, .int (nI k)), (3, .int (nI y)), (4, .int 9), (0, .ref (ρ 0)), (1, .ref (ρ 9)), (2, .ref (ρ 12))]) C hnL dL_isTold_646 (by decide) rfl ?_
  refine e_aload_n (j := 5) C dL_isTold_648 rfl rfl ?_
  refine e_bipush (v := 12) C dL_isTold_649 (by decide) ?_
  refine e_iload (j := 1) C dL_isTold_651 rfl ?_
  refine e_imulN 12 k (12 * k) C rfl rfl rfl dL_isTold_653 ?_
  refine e_bipush (v := 9) C dL_isTold_654 (by decide) ?_
  refine e_iaddN (12 * k) 9 (12 * k + 9) C rfl rfl rfl dL_isTold_656 ?_
  refine e_iload_n (j := 2) C dL_isTold_657 rfl rfl ?_
  refine e_bipush (v := 45) C dL_isTold_658 (by decide) ?_
  refine e_idivN y 45 (y / 45) C rfl rfl (by omega) (by omega) (by omega) rfl dL_isTold_660 ?_
  refine e_iconst (v := 3) C dL_isTold_661 (by decide) ?_
  refine e_iremN (y / 45) 3 ((y / 45) % 3) C rfl rfl (by omega) (by omega) (by omega) rfl dL_isTold_662 ?_
  refine e_if_ne (tgt := 670) C dL_isTold_663 (by decide) (fun c_663 => absurd ((nI_eq (a := ((y / 45) % 3)) (b := 0) (by omega) (by omega)).mpr (by omega)) c_663) (fun c_663 => ?_)
  refine e_iconst (v := 0) C dL_isTold_666 (by decide) ?_
  refine e_goto (tgt := 671) C dL_isTold_667 (by decide) ?_
  refine e_iastN (12 * k + 9) C (cnt_fix (by decide)) (fun _ _ => rfl) rfl (by omega) (by decide) dL_isTold_671 ?_
  refine e_topM (fun M_671 hM_671 => ?_)
  rw [show M_671 = (up (up M 12 24 (M 12 24 + nI v)) 9 (12 * k + 9) 0) by rw [hM_671, hM_626]]
  refine e_aload_n (j := 4) C dL_isTold_672 rfl rfl ?_
  refine e_iconst (v := 1) C dL_isTold_673 (by decide) ?_
  refine e_iload_n (j := 2) C dL_isTold_674 rfl rfl ?_
  refine e_iconst (v := 5) C dL_isTold_675 (by decide) ?_
  refine e_idivN y 5 (y / 5) C rfl rfl (by omega) (by omega) (by omega) rfl dL_isTold_676 ?_
  refine e_bipush (v := 9) C dL_isTold_677 (by decide) ?_
  refine e_iremN (y / 5) 9 ((y / 5) % 9) C rfl rfl (by omega) (by omega) (by omega) rfl dL_isTold_679 ?_
  refine e_iaddN 1 ((y / 5) % 9) v C rfl rfl hv dL_isTold_680 ?_
  refine e_cV (i := 0) (nA := 1) (Cn := RX2) C (c_X2_give hl) hcall (cnt_fix (by decide)) (fun _ => rfl) rfl rfl mw_367 mw_364 mw_365 mw_366 mw_12 (by decide +kernel) (by decide) rfl rfl (Nat.le_of_ble_eq_true rfl) dL_isTold_681 (Nat.le_of_ble_eq_true rfl) (Nat.le_of_ble_eq_true rfl) ?_
  refine e_aload_n (j := 6) C dL_isTold_684 rfl rfl ?_
  refine e_bipush (v := 24) C dL_isTold_685 (by decide) ?_
  refine e_ialdN 24 C (cnt_fix (by decide)) (fun _ => rfl) rfl (by decide) (by decide) dL_isTold_687 ?_
  refine e_icmp_ne (tgt := 725) C dL_isTold_688 (by decide) (fun c_688 => absurd hx c_688) (fun c_688 => ?_)
  refine e_aload_n (j := 4) C dL_isTold_691 rfl rfl ?_
  refine e_iload (j := 1) C dL_isTold_692 rfl ?_
  refine e_aload_n (j := 5) C dL_isTold_694 rfl rfl ?_
  refine e_bipush (v := 12) C dL_isTold_695 (by decide) ?_
  refine e_iload (j := 1) C dL_isTold_697 rfl ?_
  refine e_imulN 12 k (12 * k) C rfl rfl rfl dL_isTold_699 ?_
  refine e_bipush (v := 9) C dL_isTold_700 (by decide) ?_
  refine e_iaddN (12 * k) 9 (12 * k + 9) C rfl rfl rfl dL_isTold_702 ?_
  refine e_ialdN (12 * k + 9) C (cnt_fix (by decide)) (fun _ => rfl) rfl (by omega) (by decide) dL_isTold_703 ?_
  rw [hK]
  refine e_iconst (v := 1) C dL_isTold_704 (by decide) ?_
  refine e_icmp_ne (tgt := 712) C dL_isTold_705 (by decide) (fun c_705 => ?_) (fun c_705 => absurd ((nI_eq (a := 0) (b := 1) (by omega) (by omega)).mp c_705) (by omega))
  refine e_iconst (v := 0) C dL_isTold_712 (by decide) ?_
  refine e_cV (i := 0) (nA := 2) (Cn := RX2) C (c_X2_vote hl hk (by omega) (by first | exact Or.inl rfl | exact Or.inr rfl) hb) rfl (cnt_fix (by decide)) (fun _ => rfl) rfl rfl mw_372 mw_369 mw_370 mw_371 mw_12 (by decide +kernel) (by decide) rfl rfl (Nat.le_of_ble_eq_true rfl) dL_isTold_713 (Nat.le_of_ble_eq_true rfl) (Nat.le_of_ble_eq_true rfl) ?_
  refine e_iload (j := 0) C dL_isTold_716 rfl ?_
  refine e_icmp_ne (tgt := 725) C dL_isTold_718 (by decide) (fun c_718 => absurd (hx2.trans (by rw [hv_646, hM_626, up_row (by decide)])) c_718) (fun c_718 => ?_)
  refine e_iconst (v := 1) C dL_isTold_721 (by decide) ?_
  refine e_goto (tgt := 726) C dL_isTold_722 (by decide) ?_
  exact e_zret C rfl rfl (Nat.le_of_ble_eq_true rfl) (Nat.le_of_ble_eq_true rfl) dL_isTold_726 (pO.mk rfl)
set_option maxRecDepth 100000 in
set_option maxHeartbeats 1000000 in
theorem L_give_1 {l : Launch} (hl : l.stackTraces = false) {ρ : Nat → Nat} {J : Nat → Int64} {M : Mem} {z y : Nat} (hz : z < 1000000000) (hy : z / 11 = y) (hway : z % 11 = 9) {k v : Nat} (hk : k < 5) (hk0 : y % 5 = k) (hv : 1 + y / 5 % 9 = v) (hh : ¬ y / 45 % 3 = 0) {x : Int32} {K : Mem} (hcall : o_give (up (up M 12 24 (M 12 24 + nI v)) 9 (12 * k + 9) 1) (nI v) = rI x K) (hx : x = K 12 24) (hK : K 9 (12 * k + 9) = 1) (hb : isB (K (mO k) 2)) (hx2 : K (mO k) 2 = if M 9 (12 * k + 9) = 1 then 1 else 0) : CtO l yL_isTold cL_isTold 9 (some .boolean) 10 13 78 5 ρ J M [.ref (ρ 0), .ref (ρ 9), .ref (ρ 12), .int (nI z)] (rI 1 (up K (mO k) 2 1)) := by
  refine CtO.of hl (by decide +kernel) (Nat.le_of_ble_eq_true rfl) (fun Ξ hnL C => ?_)
  show E Ξ 5 ρ J M 0 0 0 [(0, .ref (ρ 0)), (1, .ref (ρ 9)), (2, .ref (ρ 12)), (3, .int (nI z))] []
  refine e_iload_n (j := 3) C dL_isTold_0 rfl rfl ?_
  refine e_bipush (v := 11) C dL_isTold_1 (by decide) ?_
  refine e_iremN z 11 9 C rfl rfl (by omega) (by omega) (by omega) hway dL_isTold_3 ?_
  refine e_istore (ls2 := [(4, .int 9), (0, .ref (ρ 0)), (1, .ref (ρ 9)), (2, .ref (ρ 12)), (3, .int (nI z))]) C hnL dL_isTold_4 (by decide) rfl ?_
  refine e_iload_n (j := 4) C dL_isTold_6 rfl rfl ?_
  refine e_bipush (v := 11) C dL_isTold_7 (by decide) ?_
  refine e_idivN z 11 y C rfl rfl (by omega) (by omega) (by omega) hy dL_isTold_9 ?_
  refine e_istore_n (ls2 := [(3, .int (nI y)), (4, .int 9), (0, .ref (ρ 0)), (1, .ref (ρ 9)), (2, .ref (ρ 12))]) C hnL dL_isTold_10 rfl (by decide) rfl ?_
  refine e_iload (j := 1) C dL_isTold_11 rfl ?_
  refine e_if_ne (tgt := 87) C dL_isTold_13 (by decide) (fun c_13 => ?_) (fun c_13 => absurd ((nI_eq (a := 9) (b := 0) (by omega) (by omega)).mp c_13) (by omega))
  refine e_iload (j := 1) C dL_isTold_87 rfl ?_
  refine e_iconst (v := 1) C dL_isTold_89 (by decide) ?_
  refine e_icmp_ne (tgt := 175) C dL_isTold_90 (by decide) (fun c_90 => ?_) (fun c_90 => absurd ((nI_eq (a := 9) (b := 1) (by omega) (by omega)).mp c_90) (by omega))
  refine e_iload (j := 1) C dL_isTold_175 rfl ?_
  refine e_iconst (v := 2) C dL_isTold_177 (by decide) ?_
  refine e_icmp_ne (tgt := 214) C dL_isTold_178 (by decide) (fun c_178 => ?_) (fun c_178 => absurd ((nI_eq (a := 9) (b := 2) (by omega) (by omega)).mp c_178) (by omega))
  refine e_iload (j := 1) C dL_isTold_214 rfl ?_
  refine e_iconst (v := 3) C dL_isTold_216 (by decide) ?_
  refine e_icmp_ne (tgt := 270) C dL_isTold_217 (by decide) (fun c_217 => ?_) (fun c_217 => absurd ((nI_eq (a := 9) (b := 3) (by omega) (by omega)).mp c_217) (by omega))
  refine e_iload (j := 1) C dL_isTold_270 rfl ?_
  refine e_iconst (v := 4) C dL_isTold_272 (by decide) ?_
  refine e_icmp_ne (tgt := 367) C dL_isTold_273 (by decide) (fun c_273 => ?_) (fun c_273 => absurd ((nI_eq (a := 9) (b := 4) (by omega) (by omega)).mp c_273) (by omega))
  refine e_iload (j := 1) C dL_isTold_367 rfl ?_
  refine e_iconst (v := 5) C dL_isTold_369 (by decide) ?_
  refine e_icmp_ne (tgt := 407) C dL_isTold_370 (by decide) (fun c_370 => ?_) (fun c_370 => absurd ((nI_eq (a := 9) (b := 5) (by omega) (by omega)).mp c_370) (by omega))
  refine e_iload (j := 1) C dL_isTold_407 rfl ?_
  refine e_bipush (v := 6) C dL_isTold_409 (by decide) ?_
  refine e_icmp_ne (tgt := 447) C dL_isTold_411 (by decide) (fun c_411 => ?_) (fun c_411 => absurd ((nI_eq (a := 9) (b := 6) (by omega) (by omega)).mp c_411) (by omega))
  refine e_iload (j := 1) C dL_isTold_447 rfl ?_
  refine e_bipush (v := 7) C dL_isTold_449 (by decide) ?_
  refine e_icmp_ne (tgt := 544) C dL_isTold_451 (by decide) (fun c_451 => ?_) (fun c_451 => absurd ((nI_eq (a := 9) (b := 7) (by omega) (by omega)).mp c_451) (by omega))
  refine e_iload (j := 1) C dL_isTold_544 rfl ?_
  refine e_bipush (v := 8) C dL_isTold_546 (by decide) ?_
  refine e_icmp_ne (tgt := 600) C dL_isTold_548 (by decide) (fun c_548 => ?_) (fun c_548 => absurd ((nI_eq (a := 9) (b := 8) (by omega) (by omega)).mp c_548) (by omega))
  refine e_iload_n (j := 0) C dL_isTold_600 rfl rfl ?_
  refine e_iconst (v := 5) C dL_isTold_601 (by decide) ?_
  refine e_iremN y 5 k C rfl rfl (by omega) (by omega) (by omega) hk0 dL_isTold_602 ?_
  refine e_istore (ls2 := [(5, .int (nI k)), (3, .int (nI y)), (4, .int 9), (0, .ref (ρ 0)), (1, .ref (ρ 9)), (2, .ref (ρ 12))]) C hnL dL_isTold_603 (by decide) rfl ?_
  refine e_iload (j := 2) C dL_isTold_605 rfl ?_
  refine e_bipush (v := 9) C dL_isTold_607 (by decide) ?_
  refine e_icmp_ne (tgt := 727) C dL_isTold_609 (by decide) (fun c_609 => absurd ((nI_eq (a := 9) (b := 9) (by omega) (by omega)).mpr (by omega)) c_609) (fun c_609 => ?_)
  refine e_aload_n (j := 5) C dL_isTold_612 rfl rfl ?_
  refine e_bipush (v := 24) C dL_isTold_613 (by decide) ?_
  refine e_dup2 C dL_isTold_615 rfl rfl ?_
  refine e_ialdN 24 C (cnt_fix (by decide)) (fun _ => rfl) rfl (by decide) (by decide) dL_isTold_616 ?_
  refine e_iconst (v := 1) C dL_isTold_617 (by decide) ?_
  refine e_iload_n (j := 1) C dL_isTold_618 rfl rfl ?_
  refine e_iconst (v := 5) C dL_isTold_619 (by decide) ?_
  refine e_idivN y 5 (y / 5) C rfl rfl (by omega) (by omega) (by omega) rfl dL_isTold_620 ?_
  refine e_bipush (v := 9) C dL_isTold_621 (by decide) ?_
  refine e_iremN (y / 5) 9 ((y / 5) % 9) C rfl rfl (by omega) (by omega) (by omega) rfl dL_isTold_623 ?_
  refine e_iaddN 1 ((y / 5) % 9) v C rfl rfl hv dL_isTold_624 ?_
  refine e_iadd C dL_isTold_625 ?_
  refine e_iastN 24 C (cnt_fix (by decide)) (fun _ _ => rfl) rfl (by decide) (by decide) dL_isTold_626 ?_
  refine e_topM (fun M_626 hM_626 => ?_)
  refine e_aload_n (j := 4) C dL_isTold_627 rfl rfl ?_
  refine e_bipush (v := 12) C dL_isTold_628 (by decide) ?_
  refine e_iload (j := 0) C dL_isTold_630 rfl ?_
  refine e_imulN 12 k (12 * k) C rfl rfl rfl dL_isTold_632 ?_
  refine e_bipush (v := 9) C dL_isTold_633 (by decide) ?_
  refine e_iaddN (12 * k) 9 (12 * k + 9) C rfl rfl rfl dL_isTold_635 ?_
  refine e_ialdN (12 * k + 9) C (cnt_fix (by decide)) (fun _ => rfl) rfl (by omega) (by decide) dL_isTold_636 ?_
  refine e_iconst (v := 1) C dL_isTold_637 (by decide) ?_
  suffices hJ_646 : ∀ v_646 : Int32, v_646 = (if (M_626 9 (12 * k + 9)) = 1 then 1 else 0) → E Ξ 5 ρ J M_626 0 0 646 [(5, .int (nI k)), (3, .int (nI y)), (4, .int 9), (0, .ref (ρ 0)), (1, .ref (ρ 9)), (2, .ref (ρ 12))] (.int v_646 :: []) by
    refine e_icmp_ne (tgt := 645) C dL_isTold_638 (by decide) (fun c_638 => ?_) (fun c_638 => ?_)
    · refine e_iconst (v := 0) C dL_isTold_645 (by decide) ?_
      exact hJ_646 _ (by rw [if_neg c_638])
    · refine e_iconst (v := 1) C dL_isTold_641 (by decide) ?_
      refine e_goto (tgt := 646) C dL_isTold_642 (by decide) ?_
      exact hJ_646 _ (by rw [if_pos c_638])
  intro v_646 hv_646
  refine e_istore (ls2 := [(6, .int v_646), (5, .int (nI k)), (3, .int (nI y)), (4, .int 9), (0, .ref (ρ 0)), (1, .ref (ρ 9)), (2, .ref (ρ 12))]) C hnL dL_isTold_646 (by decide) rfl ?_
  refine e_aload_n (j := 5) C dL_isTold_648 rfl rfl ?_
  refine e_bipush (v := 12) C dL_isTold_649 (by decide) ?_
  refine e_iload (j := 1) C dL_isTold_651 rfl ?_
  refine e_imulN 12 k (12 * k) C rfl rfl rfl dL_isTold_653 ?_
  refine e_bipush (v := 9) C dL_isTold_654 (by decide) ?_
  refine e_iaddN (12 * k) 9 (12 * k + 9) C rfl rfl rfl dL_isTold_656 ?_
  refine e_iload_n (j := 2) C dL_isTold_657 rfl rfl ?_
  refine e_bipush (v := 45) C dL_isTold_658 (by decide) ?_
  refine e_idivN y 45 (y / 45) C rfl rfl (by omega) (by omega) (by omega) rfl dL_isTold_660 ?_
  refine e_iconst (v := 3) C dL_isTold_661 (by decide) ?_
  refine e_iremN (y / 45) 3 ((y / 45) % 3) C rfl rfl (by omega) (by omega) (by omega) rfl dL_isTold_662 ?_
  refine e_if_ne (tgt := 670) C dL_isTold_663 (by decide) (fun c_663 => ?_) (fun c_663 => absurd ((nI_eq (a := ((y / 45) % 3)) (b := 0) (by omega) (by omega)).mp c_663) (by omega))
  refine e_iconst (v := 1) C dL_isTold_670 (by decide) ?_
  refine e_iastN (12 * k + 9) C (cnt_fix (by decide)) (fun _ _ => rfl) rfl (by omega) (by decide) dL_isTold_671 ?_
  refine e_topM (fun M_671 hM_671 => ?_)
  rw [show M_671 = (up (up M 12 24 (M 12 24 + nI v)) 9 (12 * k + 9) 1) by rw [hM_671, hM_626]]
  refine e_aload_n (j := 4) C dL_isTold_672 rfl rfl ?_
  refine e_iconst (v := 1) C dL_isTold_673 (by decide) ?_
  refine e_iload_n (j := 2) C dL_isTold_674 rfl rfl ?_
  refine e_iconst (v := 5) C dL_isTold_675 (by decide) ?_
  refine e_idivN y 5 (y / 5) C rfl rfl (by omega) (by omega) (by omega) rfl dL_isTold_676 ?_
  refine e_bipush (v := 9) C dL_isTold_677 (by decide) ?_
  refine e_iremN (y / 5) 9 ((y / 5) % 9) C rfl rfl (by omega) (by omega) (by omega) rfl dL_isTold_679 ?_
  refine e_iaddN 1 ((y / 5) % 9) v C rfl rfl hv dL_isTold_680 ?_
  refine e_cV (i := 0) (nA := 1) (Cn := RX2) C (c_X2_give hl) hcall (cnt_fix (by decide)) (fun _ => rfl) rfl rfl mw_367 mw_364 mw_365 mw_366 mw_12 (by decide +kernel) (by decide) rfl rfl (Nat.le_of_ble_eq_true rfl) dL_isTold_681 (Nat.le_of_ble_eq_true rfl) (Nat.le_of_ble_eq_true rfl) ?_
  refine e_aload_n (j := 6) C dL_isTold_684 rfl rfl ?_
  refine e_bipush (v := 24) C dL_isTold_685 (by decide) ?_
  refine e_ialdN 24 C (cnt_fix (by decide)) (fun _ => rfl) rfl (by decide) (by decide) dL_isTold_687 ?_
  refine e_icmp_ne (tgt := 725) C dL_isTold_688 (by decide) (fun c_688 => absurd hx c_688) (fun c_688 => ?_)
  refine e_aload_n (j := 4) C dL_isTold_691 rfl rfl ?_
  refine e_iload (j := 1) C dL_isTold_692 rfl ?_
  refine e_aload_n (j := 5) C dL_isTold_694 rfl rfl ?_
  refine e_bipush (v := 12) C dL_isTold_695 (by decide) ?_
  refine e_iload (j := 1) C dL_isTold_697 rfl ?_
  refine e_imulN 12 k (12 * k) C rfl rfl rfl dL_isTold_699 ?_
  refine e_bipush (v := 9) C dL_isTold_700 (by decide) ?_
  refine e_iaddN (12 * k) 9 (12 * k + 9) C rfl rfl rfl dL_isTold_702 ?_
  refine e_ialdN (12 * k + 9) C (cnt_fix (by decide)) (fun _ => rfl) rfl (by omega) (by decide) dL_isTold_703 ?_
  rw [hK]
  refine e_iconst (v := 1) C dL_isTold_704 (by decide) ?_
  refine e_icmp_ne (tgt := 712) C dL_isTold_705 (by decide) (fun c_705 => absurd ((nI_eq (a := 1) (b := 1) (by omega) (by omega)).mpr (by omega)) c_705) (fun c_705 => ?_)
  refine e_iconst (v := 1) C dL_isTold_708 (by decide) ?_
  refine e_goto (tgt := 713) C dL_isTold_709 (by decide) ?_
  refine e_cV (i := 0) (nA := 2) (Cn := RX2) C (c_X2_vote hl hk (by omega) (by first | exact Or.inl rfl | exact Or.inr rfl) hb) rfl (cnt_fix (by decide)) (fun _ => rfl) rfl rfl mw_372 mw_369 mw_370 mw_371 mw_12 (by decide +kernel) (by decide) rfl rfl (Nat.le_of_ble_eq_true rfl) dL_isTold_713 (Nat.le_of_ble_eq_true rfl) (Nat.le_of_ble_eq_true rfl) ?_
  refine e_iload (j := 0) C dL_isTold_716 rfl ?_
  refine e_icmp_ne (tgt := 725) C dL_isTold_718 (by decide) (fun c_718 => absurd (hx2.trans (by rw [hv_646, hM_626, up_row (by decide)])) c_718) (fun c_718 => ?_)
  refine e_iconst (v := 1) C dL_isTold_721 (by decide) ?_
  refine e_goto (tgt := 726) C dL_isTold_722 (by decide) ?_
  exact e_zret C rfl rfl (Nat.le_of_ble_eq_true rfl) (Nat.le_of_ble_eq_true rfl) dL_isTold_726 (pO.mk rfl)
set_option maxRecDepth 100000 in
set_option maxHeartbeats 1000000 in
theorem L_kin_s {l : Launch} (hl : l.stackTraces = false) {ρ : Nat → Nat} {J : Nat → Int64} {M : Mem} {z y : Nat} (hz : z < 1000000000) (hy : z / 11 = y) (hway : z % 11 = 10) {k j : Nat} (hk : k < 5) (hk0 : y % 5 = k) (hj : j < 5) (hj0 : (k + y / 5 % 5) % 5 = j) (hh : j = k) {K : Mem} (hcall : o_kin 5 (up M 9 (12 * k + 8) 0) k (-1) = rI (M 9 (12 * k + 8) - 1) K) : CtO l yL_isTold cL_isTold 9 (some .boolean) 10 13 78 5 ρ J M [.ref (ρ 0), .ref (ρ 9), .ref (ρ 12), .int (nI z)] (rI 1 K) := by
  refine CtO.of hl (by decide +kernel) (Nat.le_of_ble_eq_true rfl) (fun Ξ hnL C => ?_)
  show E Ξ 5 ρ J M 0 0 0 [(0, .ref (ρ 0)), (1, .ref (ρ 9)), (2, .ref (ρ 12)), (3, .int (nI z))] []
  refine e_iload_n (j := 3) C dL_isTold_0 rfl rfl ?_
  refine e_bipush (v := 11) C dL_isTold_1 (by decide) ?_
  refine e_iremN z 11 10 C rfl rfl (by omega) (by omega) (by omega) hway dL_isTold_3 ?_
  refine e_istore (ls2 := [(4, .int 10), (0, .ref (ρ 0)), (1, .ref (ρ 9)), (2, .ref (ρ 12)), (3, .int (nI z))]) C hnL dL_isTold_4 (by decide) rfl ?_
  refine e_iload_n (j := 4) C dL_isTold_6 rfl rfl ?_
  refine e_bipush (v := 11) C dL_isTold_7 (by decide) ?_
  refine e_idivN z 11 y C rfl rfl (by omega) (by omega) (by omega) hy dL_isTold_9 ?_
  refine e_istore_n (ls2 := [(3, .int (nI y)), (4, .int 10), (0, .ref (ρ 0)), (1, .ref (ρ 9)), (2, .ref (ρ 12))]) C hnL dL_isTold_10 rfl (by decide) rfl ?_
  refine e_iload (j := 1) C dL_isTold_11 rfl ?_
  refine e_if_ne (tgt := 87) C dL_isTold_13 (by decide) (fun c_13 => ?_) (fun c_13 => absurd ((nI_eq (a := 10) (b := 0) (by omega) (by omega)).mp c_13) (by omega))
  refine e_iload (j := 1) C dL_isTold_87 rfl ?_
  refine e_iconst (v := 1) C dL_isTold_89 (by decide) ?_
  refine e_icmp_ne (tgt := 175) C dL_isTold_90 (by decide) (fun c_90 => ?_) (fun c_90 => absurd ((nI_eq (a := 10) (b := 1) (by omega) (by omega)).mp c_90) (by omega))
  refine e_iload (j := 1) C dL_isTold_175 rfl ?_
  refine e_iconst (v := 2) C dL_isTold_177 (by decide) ?_
  refine e_icmp_ne (tgt := 214) C dL_isTold_178 (by decide) (fun c_178 => ?_) (fun c_178 => absurd ((nI_eq (a := 10) (b := 2) (by omega) (by omega)).mp c_178) (by omega))
  refine e_iload (j := 1) C dL_isTold_214 rfl ?_
  refine e_iconst (v := 3) C dL_isTold_216 (by decide) ?_
  refine e_icmp_ne (tgt := 270) C dL_isTold_217 (by decide) (fun c_217 => ?_) (fun c_217 => absurd ((nI_eq (a := 10) (b := 3) (by omega) (by omega)).mp c_217) (by omega))
  refine e_iload (j := 1) C dL_isTold_270 rfl ?_
  refine e_iconst (v := 4) C dL_isTold_272 (by decide) ?_
  refine e_icmp_ne (tgt := 367) C dL_isTold_273 (by decide) (fun c_273 => ?_) (fun c_273 => absurd ((nI_eq (a := 10) (b := 4) (by omega) (by omega)).mp c_273) (by omega))
  refine e_iload (j := 1) C dL_isTold_367 rfl ?_
  refine e_iconst (v := 5) C dL_isTold_369 (by decide) ?_
  refine e_icmp_ne (tgt := 407) C dL_isTold_370 (by decide) (fun c_370 => ?_) (fun c_370 => absurd ((nI_eq (a := 10) (b := 5) (by omega) (by omega)).mp c_370) (by omega))
  refine e_iload (j := 1) C dL_isTold_407 rfl ?_
  refine e_bipush (v := 6) C dL_isTold_409 (by decide) ?_
  refine e_icmp_ne (tgt := 447) C dL_isTold_411 (by decide) (fun c_411 => ?_) (fun c_411 => absurd ((nI_eq (a := 10) (b := 6) (by omega) (by omega)).mp c_411) (by omega))
  refine e_iload (j := 1) C dL_isTold_447 rfl ?_
  refine e_bipush (v := 7) C dL_isTold_449 (by decide) ?_
  refine e_icmp_ne (tgt := 544) C dL_isTold_451 (by decide) (fun c_451 => ?_) (fun c_451 => absurd ((nI_eq (a := 10) (b := 7) (by omega) (by omega)).mp c_451) (by omega))
  refine e_iload (j := 1) C dL_isTold_544 rfl ?_
  refine e_bipush (v := 8) C dL_isTold_546 (by decide) ?_
  refine e_icmp_ne (tgt := 600) C dL_isTold_548 (by decide) (fun c_548 => ?_) (fun c_548 => absurd ((nI_eq (a := 10) (b := 8) (by omega) (by omega)).mp c_548) (by omega))
  refine e_iload_n (j := 0) C dL_isTold_600 rfl rfl ?_
  refine e_iconst (v := 5) C dL_isTold_601 (by decide) ?_
  refine e_iremN y 5 k C rfl rfl (by omega) (by omega) (by omega) hk0 dL_isTold_602 ?_
  refine e_istore (ls2 := [(5, .int (nI k)), (3, .int (nI y)), (4, .int 10), (0, .ref (ρ 0)), (1, .ref (ρ 9)), (2, .ref (ρ 12))]) C hnL dL_isTold_603 (by decide) rfl ?_
  refine e_iload (j := 2) C dL_isTold_605 rfl ?_
  refine e_bipush (v := 9) C dL_isTold_607 (by decide) ?_
  refine e_icmp_ne (tgt := 727) C dL_isTold_609 (by decide) (fun c_609 => ?_) (fun c_609 => absurd ((nI_eq (a := 10) (b := 9) (by omega) (by omega)).mp c_609) (by omega))
  refine e_iload (j := 0) C dL_isTold_727 rfl ?_
  refine e_iload_n (j := 1) C dL_isTold_729 rfl rfl ?_
  refine e_iconst (v := 5) C dL_isTold_730 (by decide) ?_
  refine e_idivN y 5 (y / 5) C rfl rfl (by omega) (by omega) (by omega) rfl dL_isTold_731 ?_
  refine e_iconst (v := 5) C dL_isTold_732 (by decide) ?_
  refine e_iremN (y / 5) 5 ((y / 5) % 5) C rfl rfl (by omega) (by omega) (by omega) rfl dL_isTold_733 ?_
  refine e_iaddN k ((y / 5) % 5) (k + ((y / 5) % 5)) C rfl rfl rfl dL_isTold_734 ?_
  refine e_iconst (v := 5) C dL_isTold_735 (by decide) ?_
  refine e_iremN (k + ((y / 5) % 5)) 5 j C rfl rfl (by omega) (by omega) (by omega) hj0 dL_isTold_736 ?_
  refine e_istore (ls2 := [(6, .int (nI j)), (5, .int (nI k)), (3, .int (nI y)), (4, .int 10), (0, .ref (ρ 0)), (1, .ref (ρ 9)), (2, .ref (ρ 12))]) C hnL dL_isTold_737 (by decide) rfl ?_
  refine e_aload_n (j := 5) C dL_isTold_739 rfl rfl ?_
  refine e_bipush (v := 12) C dL_isTold_740 (by decide) ?_
  refine e_iload (j := 1) C dL_isTold_742 rfl ?_
  refine e_imulN 12 k (12 * k) C rfl rfl rfl dL_isTold_744 ?_
  refine e_bipush (v := 8) C dL_isTold_745 (by decide) ?_
  refine e_iaddN (12 * k) 8 (12 * k + 8) C rfl rfl rfl dL_isTold_747 ?_
  refine e_ialdN (12 * k + 8) C (cnt_fix (by decide)) (fun _ => rfl) rfl (by omega) (by decide) dL_isTold_748 ?_
  refine e_iconst (v := 1) C dL_isTold_749 (by decide) ?_
  refine e_isub C dL_isTold_750 ?_
  refine e_topi (fun x7_751 ex7_751 => ?_)
  refine e_istore (ls2 := [(7, .int x7_751), (6, .int (nI j)), (5, .int (nI k)), (3, .int (nI y)), (4, .int 10), (0, .ref (ρ 0)), (1, .ref (ρ 9)), (2, .ref (ρ 12))]) C hnL dL_isTold_751 (by decide) rfl ?_
  refine e_aload_n (j := 6) C dL_isTold_753 rfl rfl ?_
  refine e_bipush (v := 12) C dL_isTold_754 (by decide) ?_
  refine e_iload (j := 2) C dL_isTold_756 rfl ?_
  refine e_imulN 12 k (12 * k) C rfl rfl rfl dL_isTold_758 ?_
  refine e_bipush (v := 8) C dL_isTold_759 (by decide) ?_
  refine e_iaddN (12 * k) 8 (12 * k + 8) C rfl rfl rfl dL_isTold_761 ?_
  refine e_iload (j := 1) C dL_isTold_762 rfl ?_
  refine e_iload (j := 2) C dL_isTold_764 rfl ?_
  refine e_icmp_ne (tgt := 773) C dL_isTold_766 (by decide) (fun c_766 => absurd ((nI_eq (a := j) (b := k) (by omega) (by omega)).mpr (by omega)) c_766) (fun c_766 => ?_)
  refine e_iconst (v := 0) C dL_isTold_769 (by decide) ?_
  refine e_goto (tgt := 777) C dL_isTold_770 (by decide) ?_
  refine e_iastN (12 * k + 8) C (cnt_fix (by decide)) (fun _ _ => rfl) rfl (by omega) (by decide) dL_isTold_777 ?_
  refine e_topM (fun M_777 hM_777 => ?_)
  rw [show M_777 = up M 9 (12 * k + 8) 0 from hM_777]
  refine e_aload_n (j := 5) C dL_isTold_778 rfl rfl ?_
  refine e_iload (j := 2) C dL_isTold_779 rfl ?_
  refine e_iload (j := 1) C dL_isTold_781 rfl ?_
  refine e_iload (j := 2) C dL_isTold_783 rfl ?_
  refine e_icmp_ne (tgt := 792) C dL_isTold_785 (by decide) (fun c_785 => absurd ((nI_eq (a := j) (b := k) (by omega) (by omega)).mpr (by omega)) c_785) (fun c_785 => ?_)
  refine e_iconst (v := (-1)) C dL_isTold_788 (by decide) ?_
  refine e_goto (tgt := 794) C dL_isTold_789 (by decide) ?_
  refine e_cV (i := 0) (nA := 2) (Cn := RX2) C (c_X2_kin hl hk (by omega)) hcall (cnt_fix (by decide)) (fun _ => rfl) rfl rfl mw_377 mw_374 mw_375 mw_376 mw_12 (by decide +kernel) (by decide) rfl rfl (Nat.le_of_ble_eq_true rfl) dL_isTold_794 (Nat.le_of_ble_eq_true rfl) (Nat.le_of_ble_eq_true rfl) ?_
  refine e_iload (j := 0) C dL_isTold_797 rfl ?_
  refine e_icmp_ne (tgt := 806) C dL_isTold_799 (by decide) (fun c_799 => absurd ex7_751.symm c_799) (fun c_799 => ?_)
  refine e_iconst (v := 1) C dL_isTold_802 (by decide) ?_
  refine e_goto (tgt := 807) C dL_isTold_803 (by decide) ?_
  exact e_zret C rfl rfl (Nat.le_of_ble_eq_true rfl) (Nat.le_of_ble_eq_true rfl) dL_isTold_807 (pO.mk rfl)
set_option maxRecDepth 100000 in
set_option maxHeartbeats 1000000 in
theorem L_kin_o {l : Launch} (hl : l.stackTraces = false) {ρ : Nat → Nat} {J : Nat → Int64} {M : Mem} {z y : Nat} (hz : z < 1000000000) (hy : z / 11 = y) (hway : z % 11 = 10) {k j : Nat} (hk : k < 5) (hk0 : y % 5 = k) (hj : j < 5) (hj0 : (k + y / 5 % 5) % 5 = j) (hh : ¬ j = k) {K : Mem} (hcall : o_kin 5 (up M 9 (12 * k + 8) (nI (j + 1))) k (nI j) = rI (M 9 (12 * k + 8) - 1) K) : CtO l yL_isTold cL_isTold 9 (some .boolean) 10 13 78 5 ρ J M [.ref (ρ 0), .ref (ρ 9), .ref (ρ 12), .int (nI z)] (rI 1 K) := by
  refine CtO.of hl (by decide +kernel) (Nat.le_of_ble_eq_true rfl) (fun Ξ hnL C => ?_)
  show E Ξ 5 ρ J M 0 0 0 [(0, .ref (ρ 0)), (1, .ref (ρ 9)), (2, .ref (ρ 12)), (3, .int (nI z))] []
  refine e_iload_n (j := 3) C dL_isTold_0 rfl rfl ?_
  refine e_bipush (v := 11) C dL_isTold_1 (by decide) ?_
  refine e_iremN z 11 10 C rfl rfl (by omega) (by omega) (by omega) hway dL_isTold_3 ?_
  refine e_istore (ls2 := [(4, .int 10), (0, .ref (ρ 0)), (1, .ref (ρ 9)), (2, .ref (ρ 12)), (3, .int (nI z))]) C hnL dL_isTold_4 (by decide) rfl ?_
  refine e_iload_n (j := 4) C dL_isTold_6 rfl rfl ?_
  refine e_bipush (v := 11) C dL_isTold_7 (by decide) ?_
  refine e_idivN z 11 y C rfl rfl (by omega) (by omega) (by omega) hy dL_isTold_9 ?_
  refine e_istore_n (ls2 := [(3, .int (nI y)), (4, .int 10), (0, .ref (ρ 0)), (1, .ref (ρ 9)), (2, .ref (ρ 12))]) C hnL dL_isTold_10 rfl (by decide) rfl ?_
  refine e_iload (j := 1) C dL_isTold_11 rfl ?_
  refine e_if_ne (tgt := 87) C dL_isTold_13 (by decide) (fun c_13 => ?_) (fun c_13 => absurd ((nI_eq (a := 10) (b := 0) (by omega) (by omega)).mp c_13) (by omega))
  refine e_iload (j := 1) C dL_isTold_87 rfl ?_
  refine e_iconst (v := 1) C dL_isTold_89 (by decide) ?_
  refine e_icmp_ne (tgt := 175) C dL_isTold_90 (by decide) (fun c_90 => ?_) (fun c_90 => absurd ((nI_eq (a := 10) (b := 1) (by omega) (by omega)).mp c_90) (by omega))
  refine e_iload (j := 1) C dL_isTold_175 rfl ?_
  refine e_iconst (v := 2) C dL_isTold_177 (by decide) ?_
  refine e_icmp_ne (tgt := 214) C dL_isTold_178 (by decide) (fun c_178 => ?_) (fun c_178 => absurd ((nI_eq (a := 10) (b := 2) (by omega) (by omega)).mp c_178) (by omega))
  refine e_iload (j := 1) C dL_isTold_214 rfl ?_
  refine e_iconst (v := 3) C dL_isTold_216 (by decide) ?_
  refine e_icmp_ne (tgt := 270) C dL_isTold_217 (by decide) (fun c_217 => ?_) (fun c_217 => absurd ((nI_eq (a := 10) (b := 3) (by omega) (by omega)).mp c_217) (by omega))
  refine e_iload (j := 1) C dL_isTold_270 rfl ?_
  refine e_iconst (v := 4) C dL_isTold_272 (by decide) ?_
  refine e_icmp_ne (tgt := 367) C dL_isTold_273 (by decide) (fun c_273 => ?_) (fun c_273 => absurd ((nI_eq (a := 10) (b := 4) (by omega) (by omega)).mp c_273) (by omega))
  refine e_iload (j := 1) C dL_isTold_367 rfl ?_
  refine e_iconst (v := 5) C dL_isTold_369 (by decide) ?_
  refine e_icmp_ne (tgt := 407) C dL_isTold_370 (by decide) (fun c_370 => ?_) (fun c_370 => absurd ((nI_eq (a := 10) (b := 5) (by omega) (by omega)).mp c_370) (by omega))
  refine e_iload (j := 1) C dL_isTold_407 rfl ?_
  refine e_bipush (v := 6) C dL_isTold_409 (by decide) ?_
  refine e_icmp_ne (tgt := 447) C dL_isTold_411 (by decide) (fun c_411 => ?_) (fun c_411 => absurd ((nI_eq (a := 10) (b := 6) (by omega) (by omega)).mp c_411) (by omega))
  refine e_iload (j := 1) C dL_isTold_447 rfl ?_
  refine e_bipush (v := 7) C dL_isTold_449 (by decide) ?_
  refine e_icmp_ne (tgt := 544) C dL_isTold_451 (by decide) (fun c_451 => ?_) (fun c_451 => absurd ((nI_eq (a := 10) (b := 7) (by omega) (by omega)).mp c_451) (by omega))
  refine e_iload (j := 1) C dL_isTold_544 rfl ?_
  refine e_bipush (v := 8) C dL_isTold_546 (by decide) ?_
  refine e_icmp_ne (tgt := 600) C dL_isTold_548 (by decide) (fun c_548 => ?_) (fun c_548 => absurd ((nI_eq (a := 10) (b := 8) (by omega) (by omega)).mp c_548) (by omega))
  refine e_iload_n (j := 0) C dL_isTold_600 rfl rfl ?_
  refine e_iconst (v := 5) C dL_isTold_601 (by decide) ?_
  refine e_iremN y 5 k C rfl rfl (by omega) (by omega) (by omega) hk0 dL_isTold_602 ?_
  refine e_istore (ls2 := [(5, .int (nI k)), (3, .int (nI y)), (4, .int 10), (0, .ref (ρ 0)), (1, .ref (ρ 9)), (2, .ref (ρ 12))]) C hnL dL_isTold_603 (by decide) rfl ?_
  refine e_iload (j := 2) C dL_isTold_605 rfl ?_
  refine e_bipush (v := 9) C dL_isTold_607 (by decide) ?_
  refine e_icmp_ne (tgt := 727) C dL_isTold_609 (by decide) (fun c_609 => ?_) (fun c_609 => absurd ((nI_eq (a := 10) (b := 9) (by omega) (by omega)).mp c_609) (by omega))
  refine e_iload (j := 0) C dL_isTold_727 rfl ?_
  refine e_iload_n (j := 1) C dL_isTold_729 rfl rfl ?_
  refine e_iconst (v := 5) C dL_isTold_730 (by decide) ?_
  refine e_idivN y 5 (y / 5) C rfl rfl (by omega) (by omega) (by omega) rfl dL_isTold_731 ?_
  refine e_iconst (v := 5) C dL_isTold_732 (by decide) ?_
  refine e_iremN (y / 5) 5 ((y / 5) % 5) C rfl rfl (by omega) (by omega) (by omega) rfl dL_isTold_733 ?_
  refine e_iaddN k ((y / 5) % 5) (k + ((y / 5) % 5)) C rfl rfl rfl dL_isTold_734 ?_
  refine e_iconst (v := 5) C dL_isTold_735 (by decide) ?_
  refine e_iremN (k + ((y / 5) % 5)) 5 j C rfl rfl (by omega) (by omega) (by omega) hj0 dL_isTold_736 ?_
  refine e_istore (ls2 := [(6, .int (nI j)), (5, .int (nI k)), (3, .int (nI y)), (4, .int 10), (0, .ref (ρ 0)), (1, .ref (ρ 9)), (2, .ref (ρ 12))]) C hnL dL_isTold_737 (by decide) rfl ?_
  refine e_aload_n (j := 5) C dL_isTold_739 rfl rfl ?_
  refine e_bipush (v := 12) C dL_isTold_740 (by decide) ?_
  refine e_iload (j := 1) C dL_isTold_742 rfl ?_
  refine e_imulN 12 k (12 * k) C rfl rfl rfl dL_isTold_744 ?_
  refine e_bipush (v := 8) C dL_isTold_745 (by decide) ?_
  refine e_iaddN (12 * k) 8 (12 * k + 8) C rfl rfl rfl dL_isTold_747 ?_
  refine e_ialdN (12 * k + 8) C (cnt_fix (by decide)) (fun _ => rfl) rfl (by omega) (by decide) dL_isTold_748 ?_
  refine e_iconst (v := 1) C dL_isTold_749 (by decide) ?_
  refine e_isub C dL_isTold_750 ?_
  refine e_topi (fun x7_751 ex7_751 => ?_)
  refine e_istore (ls2 := [(7, .int x7_751), (6, .int (nI j)), (5, .int (nI k)), (3, .int (nI y)), (4, .int 10), (0, .ref (ρ 0)), (1, .ref (ρ 9)), (2, .ref (ρ 12))]) C hnL dL_isTold_751 (by decide) rfl ?_
  refine e_aload_n (j := 6) C dL_isTold_753 rfl rfl ?_
  refine e_bipush (v := 12) C dL_isTold_754 (by decide) ?_
  refine e_iload (j := 2) C dL_isTold_756 rfl ?_
  refine e_imulN 12 k (12 * k) C rfl rfl rfl dL_isTold_758 ?_
  refine e_bipush (v := 8) C dL_isTold_759 (by decide) ?_
  refine e_iaddN (12 * k) 8 (12 * k + 8) C rfl rfl rfl dL_isTold_761 ?_
  refine e_iload (j := 1) C dL_isTold_762 rfl ?_
  refine e_iload (j := 2) C dL_isTold_764 rfl ?_
  refine e_icmp_ne (tgt := 773) C dL_isTold_766 (by decide) (fun c_766 => ?_) (fun c_766 => absurd ((nI_eq (a := j) (b := k) (by omega) (by omega)).mp c_766) (by omega))
  refine e_iload (j := 1) C dL_isTold_773 rfl ?_
  refine e_iconst (v := 1) C dL_isTold_775 (by decide) ?_
  refine e_iaddN j 1 (j + 1) C rfl rfl rfl dL_isTold_776 ?_
  refine e_iastN (12 * k + 8) C (cnt_fix (by decide)) (fun _ _ => rfl) rfl (by omega) (by decide) dL_isTold_777 ?_
  refine e_topM (fun M_777 hM_777 => ?_)
  rw [show M_777 = up M 9 (12 * k + 8) (nI (j + 1)) from hM_777]
  refine e_aload_n (j := 5) C dL_isTold_778 rfl rfl ?_
  refine e_iload (j := 2) C dL_isTold_779 rfl ?_
  refine e_iload (j := 1) C dL_isTold_781 rfl ?_
  refine e_iload (j := 2) C dL_isTold_783 rfl ?_
  refine e_icmp_ne (tgt := 792) C dL_isTold_785 (by decide) (fun c_785 => ?_) (fun c_785 => absurd ((nI_eq (a := j) (b := k) (by omega) (by omega)).mp c_785) (by omega))
  refine e_iload (j := 1) C dL_isTold_792 rfl ?_
  refine e_cV (i := 0) (nA := 2) (Cn := RX2) C (c_X2_kin hl hk (by omega)) hcall (cnt_fix (by decide)) (fun _ => rfl) rfl rfl mw_377 mw_374 mw_375 mw_376 mw_12 (by decide +kernel) (by decide) rfl rfl (Nat.le_of_ble_eq_true rfl) dL_isTold_794 (Nat.le_of_ble_eq_true rfl) (Nat.le_of_ble_eq_true rfl) ?_
  refine e_iload (j := 0) C dL_isTold_797 rfl ?_
  refine e_icmp_ne (tgt := 806) C dL_isTold_799 (by decide) (fun c_799 => absurd ex7_751.symm c_799) (fun c_799 => ?_)
  refine e_iconst (v := 1) C dL_isTold_802 (by decide) ?_
  refine e_goto (tgt := 807) C dL_isTold_803 (by decide) ?_
  exact e_zret C rfl rfl (Nat.le_of_ble_eq_true rfl) (Nat.le_of_ble_eq_true rfl) dL_isTold_807 (pO.mk rfl)
