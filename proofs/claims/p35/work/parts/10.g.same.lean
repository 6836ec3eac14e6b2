/-! The law asks. -/
def coL (M : Mem) (k : Nat) : Int32 := 0 + raL M k 0 + raL M k 1 + raL M k 2 + raL M k 3
set_option maxRecDepth 100000 in
set_option maxHeartbeats 1000000 in
theorem L_isSame {l : Launch} (hl : l.stackTraces = false) {ρ : Nat → Nat} {J : Nat → Int64} {M : Mem} {z : Nat} (hz : z < 1000000000) {k : Nat} (hk : k < 5) (hk0 : z % 5 = k) {g i j : Nat} (hg : g < 4) (hg0 : z / 5 % 4 = g) (hi : i < 12) (hi0 : z / 20 % 12 = i) (hj : j < 6) (hj0 : z / 240 % 6 = j) (h1 : o_ab M k 3 = hasF M k) (h2 : M (mO k) 12 - M (mO k) 13 = M 9 (12 * k + 10) - M 9 (12 * k + 11)) (h3 : o_ab M k 9 = M 9 (12 * k + 8) - 1) (h4 : M (mG k) g = M 11 (4 * k + g)) (h5 : M (mS k) i = M 10 (12 * k + i)) (h6 : sPrice M k g = raL M k g) (h7 : M 0 13 = M 12 21) (h8 : M 7 j = M 12 (25 + j)) (a0 : o_ab M k 0 = M 9 (12 * k + 0)) (a1 : o_ab M k 1 = M 9 (12 * k + 1)) (a2 : o_ab M k 2 = M 9 (12 * k + 2)) (a4 : o_ab M k 4 = M 9 (12 * k + 3)) (a5 : o_ab M k 5 = M 9 (12 * k + 4)) (a6 : o_ab M k 6 = M 9 (12 * k + 5)) (a7 : o_ab M k 7 = M 9 (12 * k + 6)) (a8 : o_ab M k 8 = M 9 (12 * k + 7)) (hc : ¬ coL M k = 0) (h10 : o_bask M k = M 9 (12 * k + 7) / coL M k) : CtO l yL_isSame cL_isSame 11 (some .boolean) 10 40 240 5 ρ J M [.ref (ρ 0), .ref (ρ 9), .ref (ρ 10), .ref (ρ 11), .ref (ρ 12), .int (nI z)] (rI 1 M) := by
  refine CtO.of hl (by decide +kernel) (Nat.le_of_ble_eq_true rfl) (fun Ξ hnL C => ?_)
  show E Ξ 5 ρ J M 0 0 0 [(0, .ref (ρ 0)), (1, .ref (ρ 9)), (2, .ref (ρ 10)), (3, .ref (ρ 11)), (4, .ref (ρ 12)), (5, .int (nI z))] []
  refine e_iload (j := 5) C dL_isSame_0 rfl ?_
  refine e_iconst (v := 5) C dL_isSame_2 (by decide) ?_
  refine e_iremN z 5 k C rfl rfl (by omega) (by omega) (by omega) hk0 dL_isSame_3 ?_
  refine e_istore (ls2 := [(6, .int (nI k)), (0, .ref (ρ 0)), (1, .ref (ρ 9)), (2, .ref (ρ 10)), (3, .ref (ρ 11)), (4, .ref (ρ 12)), (5, .int (nI z))]) C hnL dL_isSame_4 (by decide) rfl ?_
  refine e_iload (j := 6) C dL_isSame_6 rfl ?_
  refine e_iconst (v := 5) C dL_isSame_8 (by decide) ?_
  refine e_idivN z 5 (z / 5) C rfl rfl (by omega) (by omega) (by omega) rfl dL_isSame_9 ?_
  refine e_iconst (v := 4) C dL_isSame_10 (by decide) ?_
  refine e_iremN (z / 5) 4 g C rfl rfl (by omega) (by omega) (by omega) hg0 dL_isSame_11 ?_
  refine e_istore (ls2 := [(7, .int (nI g)), (6, .int (nI k)), (0, .ref (ρ 0)), (1, .ref (ρ 9)), (2, .ref (ρ 10)), (3, .ref (ρ 11)), (4, .ref (ρ 12)), (5, .int (nI z))]) C hnL dL_isSame_12 (by decide) rfl ?_
  refine e_aload_n (j := 2) C dL_isSame_14 rfl rfl ?_
  refine e_iload (j := 1) C dL_isSame_15 rfl ?_
  refine e_iconst (v := 3) C dL_isSame_17 (by decide) ?_
  refine e_cV (i := 0) (nA := 2) (Cn := RX2) C (c_X2_about_3 hl hk (by omega)) rfl (cnt_fix (by decide)) (fun _ => rfl) rfl rfl mw_408 mw_405 mw_406 mw_407 mw_12 (by decide +kernel) (by decide) rfl rfl (Nat.le_of_ble_eq_true rfl) dL_isSame_18 (Nat.le_of_ble_eq_true rfl) (Nat.le_of_ble_eq_true rfl) ?_
  refine e_aload_n (j := 4) C dL_isSame_21 rfl rfl ?_
  refine e_iload (j := 1) C dL_isSame_22 rfl ?_
  refine e_cS (nA := 2) C (L_has hl hk) rfl mw_276 mw_274 mw_275 mw_2 (by decide +kernel) (by decide) rfl rfl (Nat.le_of_ble_eq_true rfl) dL_isSame_24 (Nat.le_of_ble_eq_true rfl) (Nat.le_of_ble_eq_true rfl) ?_
  refine e_icmp_ne (tgt := 204) C dL_isSame_27 (by decide) (fun c_27 => absurd h1 c_27) (fun c_27 => ?_)
  refine e_aload_n (j := 2) C dL_isSame_30 rfl rfl ?_
  refine e_iload (j := 1) C dL_isSame_31 rfl ?_
  refine e_cV (i := 0) (nA := 1) (Cn := RX2) C (c_X2_scripAnew hl hk (by omega)) rfl (cnt_fix (by decide)) (fun _ => rfl) rfl rfl mw_454 mw_451 mw_452 mw_453 mw_12 (by decide +kernel) (by decide) rfl rfl (Nat.le_of_ble_eq_true rfl) dL_isSame_33 (Nat.le_of_ble_eq_true rfl) (Nat.le_of_ble_eq_true rfl) ?_
  refine e_aload_n (j := 3) C dL_isSame_36 rfl rfl ?_
  refine e_bipush (v := 12) C dL_isSame_37 (by decide) ?_
  refine e_iload (j := 1) C dL_isSame_39 rfl ?_
  refine e_imulN 12 k (12 * k) C rfl rfl rfl dL_isSame_41 ?_
  refine e_bipush (v := 10) C dL_isSame_42 (by decide) ?_
  refine e_iaddN (12 * k) 10 (12 * k + 10) C rfl rfl rfl dL_isSame_44 ?_
  refine e_ialdN (12 * k + 10) C (cnt_fix (by decide)) (fun _ => rfl) rfl (by omega) (by decide) dL_isSame_45 ?_
  refine e_aload_n (j := 3) C dL_isSame_46 rfl rfl ?_
  refine e_bipush (v := 12) C dL_isSame_47 (by decide) ?_
  refine e_iload (j := 1) C dL_isSame_49 rfl ?_
  refine e_imulN 12 k (12 * k) C rfl rfl rfl dL_isSame_51 ?_
  refine e_bipush (v := 11) C dL_isSame_52 (by decide) ?_
  refine e_iaddN (12 * k) 11 (12 * k + 11) C rfl rfl rfl dL_isSame_54 ?_
  refine e_ialdN (12 * k + 11) C (cnt_fix (by decide)) (fun _ => rfl) rfl (by omega) (by decide) dL_isSame_55 ?_
  refine e_isub C dL_isSame_56 ?_
  refine e_icmp_ne (tgt := 204) C dL_isSame_57 (by decide) (fun c_57 => absurd h2 c_57) (fun c_57 => ?_)
  refine e_aload_n (j := 2) C dL_isSame_60 rfl rfl ?_
  refine e_iload (j := 1) C dL_isSame_61 rfl ?_
  refine e_bipush (v := 9) C dL_isSame_63 (by decide) ?_
  refine e_cV (i := 0) (nA := 2) (Cn := RX2) C (c_X2_about_9 hl hk (by omega)) rfl (cnt_fix (by decide)) (fun _ => rfl) rfl rfl mw_408 mw_405 mw_406 mw_407 mw_12 (by decide +kernel) (by decide) rfl rfl (Nat.le_of_ble_eq_true rfl) dL_isSame_65 (Nat.le_of_ble_eq_true rfl) (Nat.le_of_ble_eq_true rfl) ?_
  refine e_aload_n (j := 3) C dL_isSame_68 rfl rfl ?_
  refine e_bipush (v := 12) C dL_isSame_69 (by decide) ?_
  refine e_iload (j := 1) C dL_isSame_71 rfl ?_
  refine e_imulN 12 k (12 * k) C rfl rfl rfl dL_isSame_73 ?_
  refine e_bipush (v := 8) C dL_isSame_74 (by decide) ?_
  refine e_iaddN (12 * k) 8 (12 * k + 8) C rfl rfl rfl dL_isSame_76 ?_
  refine e_ialdN (12 * k + 8) C (cnt_fix (by decide)) (fun _ => rfl) rfl (by omega) (by decide) dL_isSame_77 ?_
  refine e_iconst (v := 1) C dL_isSame_78 (by decide) ?_
  refine e_isub C dL_isSame_79 ?_
  refine e_icmp_ne (tgt := 204) C dL_isSame_80 (by decide) (fun c_80 => absurd h3 c_80) (fun c_80 => ?_)
  refine e_aload_n (j := 2) C dL_isSame_83 rfl rfl ?_
  refine e_iload (j := 1) C dL_isSame_84 rfl ?_
  refine e_iload (j := 0) C dL_isSame_86 rfl ?_
  refine e_cV (i := 0) (nA := 2) (Cn := RX2) C (c_X2_has hl hk (by omega) hg) rfl (cnt_fix (by decide)) (fun _ => rfl) rfl rfl mw_460 mw_457 mw_458 mw_459 mw_12 (by decide +kernel) (by decide) rfl rfl (Nat.le_of_ble_eq_true rfl) dL_isSame_88 (Nat.le_of_ble_eq_true rfl) (Nat.le_of_ble_eq_true rfl) ?_
  refine e_aload_n (j := 5) C dL_isSame_91 rfl rfl ?_
  refine e_iconst (v := 4) C dL_isSame_92 (by decide) ?_
  refine e_iload (j := 1) C dL_isSame_93 rfl ?_
  refine e_imulN 4 k (4 * k) C rfl rfl rfl dL_isSame_95 ?_
  refine e_iload (j := 0) C dL_isSame_96 rfl ?_
  refine e_iaddN (4 * k) g (4 * k + g) C rfl rfl rfl dL_isSame_98 ?_
  refine e_ialdN (4 * k + g) C (cnt_fix (by decide)) (fun _ => rfl) rfl (by omega) (by decide) dL_isSame_99 ?_
  refine e_icmp_ne (tgt := 204) C dL_isSame_100 (by decide) (fun c_100 => absurd h4 c_100) (fun c_100 => ?_)
  refine e_aload_n (j := 2) C dL_isSame_103 rfl rfl ?_
  refine e_iload (j := 1) C dL_isSame_104 rfl ?_
  refine e_iload (j := 7) C dL_isSame_106 rfl ?_
  refine e_bipush (v := 20) C dL_isSame_108 (by decide) ?_
  refine e_idivN z 20 (z / 20) C rfl rfl (by omega) (by omega) (by omega) rfl dL_isSame_110 ?_
  refine e_bipush (v := 12) C dL_isSame_111 (by decide) ?_
  refine e_iremN (z / 20) 12 i C rfl rfl (by omega) (by omega) (by omega) hi0 dL_isSame_113 ?_
  refine e_cV (i := 0) (nA := 2) (Cn := RX2) C (c_X2_scrip hl hk (by omega) (j := i) (by omega)) rfl (cnt_fix (by decide)) (fun _ => rfl) rfl rfl mw_464 mw_461 mw_462 mw_463 mw_12 (by decide +kernel) (by decide) rfl rfl (Nat.le_of_ble_eq_true rfl) dL_isSame_114 (Nat.le_of_ble_eq_true rfl) (Nat.le_of_ble_eq_true rfl) ?_
  refine e_aload_n (j := 4) C dL_isSame_117 rfl rfl ?_
  refine e_bipush (v := 12) C dL_isSame_118 (by decide) ?_
  refine e_iload (j := 1) C dL_isSame_120 rfl ?_
  refine e_imulN 12 k (12 * k) C rfl rfl rfl dL_isSame_122 ?_
  refine e_iload (j := 7) C dL_isSame_123 rfl ?_
  refine e_bipush (v := 20) C dL_isSame_125 (by decide) ?_
  refine e_idivN z 20 (z / 20) C rfl rfl (by omega) (by omega) (by omega) rfl dL_isSame_127 ?_
  refine e_bipush (v := 12) C dL_isSame_128 (by decide) ?_
  refine e_iremN (z / 20) 12 i C rfl rfl (by omega) (by omega) (by omega) hi0 dL_isSame_130 ?_
  refine e_iaddN (12 * k) i (12 * k + i) C rfl rfl rfl dL_isSame_131 ?_
  refine e_ialdN (12 * k + i) C (cnt_fix (by decide)) (fun _ => rfl) rfl (by omega) (by decide) dL_isSame_132 ?_
  refine e_icmp_ne (tgt := 204) C dL_isSame_133 (by decide) (fun c_133 => absurd h5 c_133) (fun c_133 => ?_)
  refine e_aload_n (j := 2) C dL_isSame_136 rfl rfl ?_
  refine e_iload (j := 1) C dL_isSame_137 rfl ?_
  refine e_iload (j := 0) C dL_isSame_139 rfl ?_
  refine e_cV (i := 0) (nA := 2) (Cn := RX2) C (c_X2_raised hl hk (by omega) hg) rfl (cnt_fix (by decide)) (fun _ => rfl) rfl rfl mw_468 mw_465 mw_466 mw_467 mw_12 (by decide +kernel) (by decide) rfl rfl (Nat.le_of_ble_eq_true rfl) dL_isSame_141 (Nat.le_of_ble_eq_true rfl) (Nat.le_of_ble_eq_true rfl) ?_
  refine e_aload_n (j := 3) C dL_isSame_144 rfl rfl ?_
  refine e_aload (j := 6) C dL_isSame_145 rfl ?_
  refine e_iload (j := 1) C dL_isSame_147 rfl ?_
  refine e_iload (j := 0) C dL_isSame_149 rfl ?_
  refine e_cS (nA := 4) C (L_raised hl hk hg) rfl mw_270 mw_268 mw_269 mw_2 (by decide +kernel) (by decide) rfl rfl (Nat.le_of_ble_eq_true rfl) dL_isSame_151 (Nat.le_of_ble_eq_true rfl) (Nat.le_of_ble_eq_true rfl) ?_
  refine e_icmp_ne (tgt := 204) C dL_isSame_154 (by decide) (fun c_154 => absurd h6 c_154) (fun c_154 => ?_)
  refine e_aload_n (j := 2) C dL_isSame_157 rfl rfl ?_
  refine e_cV (i := 0) (nA := 0) (Cn := RX2) C (c_X2_breaches hl) rfl (cnt_fix (by decide)) (fun _ => rfl) rfl rfl mw_472 mw_469 mw_470 mw_471 mw_12 (by decide +kernel) (by decide) rfl rfl (Nat.le_of_ble_eq_true rfl) dL_isSame_158 (Nat.le_of_ble_eq_true rfl) (Nat.le_of_ble_eq_true rfl) ?_
  refine e_aload (j := 6) C dL_isSame_161 rfl ?_
  refine e_bipush (v := 21) C dL_isSame_163 (by decide) ?_
  refine e_ialdN 21 C (cnt_fix (by decide)) (fun _ => rfl) rfl (by decide) (by decide) dL_isSame_165 ?_
  refine e_icmp_ne (tgt := 204) C dL_isSame_166 (by decide) (fun c_166 => absurd h7 c_166) (fun c_166 => ?_)
  refine e_aload_n (j := 2) C dL_isSame_169 rfl rfl ?_
  refine e_iload (j := 7) C dL_isSame_170 rfl ?_
  refine e_sipush (v := 240) C dL_isSame_172 (by decide) ?_
  refine e_idivN z 240 (z / 240) C rfl rfl (by omega) (by omega) (by omega) rfl dL_isSame_175 ?_
  refine e_bipush (v := 6) C dL_isSame_176 (by decide) ?_
  refine e_iremN (z / 240) 6 j C rfl rfl (by omega) (by omega) (by omega) hj0 dL_isSame_178 ?_
  refine e_cV (i := 0) (nA := 1) (Cn := RX2) C (c_X2_books hl hj) rfl (cnt_fix (by decide)) (fun _ => rfl) rfl rfl mw_476 mw_473 mw_474 mw_475 mw_12 (by decide +kernel) (by decide) rfl rfl (Nat.le_of_ble_eq_true rfl) dL_isSame_179 (Nat.le_of_ble_eq_true rfl) (Nat.le_of_ble_eq_true rfl) ?_
  refine e_aload (j := 6) C dL_isSame_182 rfl ?_
  refine e_bipush (v := 25) C dL_isSame_184 (by decide) ?_
  refine e_iload (j := 7) C dL_isSame_186 rfl ?_
  refine e_sipush (v := 240) C dL_isSame_188 (by decide) ?_
  refine e_idivN z 240 (z / 240) C rfl rfl (by omega) (by omega) (by omega) rfl dL_isSame_191 ?_
  refine e_bipush (v := 6) C dL_isSame_192 (by decide) ?_
  refine e_iremN (z / 240) 6 j C rfl rfl (by omega) (by omega) (by omega) hj0 dL_isSame_194 ?_
  refine e_iaddN 25 j (25 + j) C rfl rfl rfl dL_isSame_195 ?_
  refine e_ialdN (25 + j) C (cnt_fix (by decide)) (fun _ => rfl) rfl (by omega) (by decide) dL_isSame_196 ?_
  refine e_icmp_ne (tgt := 204) C dL_isSame_197 (by decide) (fun c_197 => absurd h8 c_197) (fun c_197 => ?_)
  refine e_iconst (v := 1) C dL_isSame_200 (by decide) ?_
  refine e_goto (tgt := 205) C dL_isSame_201 (by decide) ?_
  refine e_istore (ls2 := [(8, .int 1), (7, .int (nI g)), (6, .int (nI k)), (0, .ref (ρ 0)), (1, .ref (ρ 9)), (2, .ref (ρ 10)), (3, .ref (ρ 11)), (4, .ref (ρ 12)), (5, .int (nI z))]) C hnL dL_isSame_205 (by decide) rfl ?_
  refine e_iconst (v := 0) C dL_isSame_207 (by decide) ?_
  refine e_istore (ls2 := [(9, .int 0), (8, .int 1), (7, .int (nI g)), (6, .int (nI k)), (0, .ref (ρ 0)), (1, .ref (ρ 9)), (2, .ref (ρ 10)), (3, .ref (ρ 11)), (4, .ref (ρ 12)), (5, .int (nI z))]) C hnL dL_isSame_208 (by decide) rfl ?_
  refine e_iload (j := 0) C dL_isSame_210 rfl ?_
  refine e_bipush (v := 9) C dL_isSame_212 (by decide) ?_
  refine e_icmp_ge (tgt := 309) C dL_isSame_214 (by decide) (fun c_214 => absurd ((nI_leI (a := 9) (b := 0) (by omega) (by omega)).mp c_214) (by omega)) (fun c_214 => ?_)
  refine e_iload (j := 1) C dL_isSame_217 rfl ?_
  refine e_if_eq (tgt := 309) C dL_isSame_219 (by decide) (fun c_219 => absurd ((nI_eq (a := 1) (b := 0) (by omega) (by omega)).mp c_219) (by omega)) (fun c_219 => ?_)
  refine e_iload (j := 0) C dL_isSame_222 rfl ?_
  refine e_iconst (v := 3) C dL_isSame_224 (by decide) ?_
  refine e_icmp_eq (tgt := 296) C dL_isSame_225 (by decide) (fun c_225 => absurd ((nI_eq (a := 0) (b := 3) (by omega) (by omega)).mp c_225) (by omega)) (fun c_225 => ?_)
  refine e_aload_n (j := 4) C dL_isSame_228 rfl rfl ?_
  refine e_iload (j := 3) C dL_isSame_229 rfl ?_
  refine e_iload (j := 0) C dL_isSame_231 rfl ?_
  refine e_cV (i := 0) (nA := 2) (Cn := RX2) C (c_X2_about_0 hl hk (by omega)) rfl (cnt_fix (by decide)) (fun _ => rfl) rfl rfl mw_408 mw_405 mw_406 mw_407 mw_12 (by decide +kernel) (by decide) rfl rfl (Nat.le_of_ble_eq_true rfl) dL_isSame_233 (Nat.le_of_ble_eq_true rfl) (Nat.le_of_ble_eq_true rfl) ?_
  refine e_aload_n (j := 5) C dL_isSame_236 rfl rfl ?_
  refine e_bipush (v := 12) C dL_isSame_237 (by decide) ?_
  refine e_iload (j := 3) C dL_isSame_239 rfl ?_
  refine e_imulN 12 k (12 * k) C rfl rfl rfl dL_isSame_241 ?_
  refine e_iload (j := 0) C dL_isSame_242 rfl ?_
  refine e_if_ne (tgt := 251) C dL_isSame_244 (by decide) (fun c_244 => absurd ((nI_eq (a := 0) (b := 0) (by omega) (by omega)).mpr (by omega)) c_244) (fun c_244 => ?_)
  refine e_iconst (v := 0) C dL_isSame_247 (by decide) ?_
  refine e_goto (tgt := 291) C dL_isSame_248 (by decide) ?_
  refine e_iaddN (12 * k) 0 (12 * k + 0) C rfl rfl rfl dL_isSame_291 ?_
  refine e_ialdN (12 * k + 0) C (cnt_fix (by decide)) (fun _ => rfl) rfl (by omega) (by decide) dL_isSame_292 ?_
  refine e_icmp_ne (tgt := 300) C dL_isSame_293 (by decide) (fun c_293 => absurd (by assumption) c_293) (fun c_293 => ?_)
  refine e_iconst (v := 1) C dL_isSame_296 (by decide) ?_
  refine e_goto (tgt := 301) C dL_isSame_297 (by decide) ?_
  refine e_istore (ls2 := [(8, .int 1), (9, .int 0), (7, .int (nI g)), (6, .int (nI k)), (0, .ref (ρ 0)), (1, .ref (ρ 9)), (2, .ref (ρ 10)), (3, .ref (ρ 11)), (4, .ref (ρ 12)), (5, .int (nI z))]) C hnL dL_isSame_301 (by decide) rfl ?_
  refine e_iinc (j := 1) (v := (nI (1))) (ls2 := [(9, .int 1), (8, .int 1), (7, .int (nI g)), (6, .int (nI k)), (0, .ref (ρ 0)), (1, .ref (ρ 9)), (2, .ref (ρ 10)), (3, .ref (ρ 11)), (4, .ref (ρ 12)), (5, .int (nI z))]) C hnL dL_isSame_303 rfl (nI_add (0) 1) (by decide) rfl ?_
  refine e_goto (tgt := 210) C dL_isSame_306 (by decide) ?_
  refine e_iload (j := 0) C dL_isSame_210 rfl ?_
  refine e_bipush (v := 9) C dL_isSame_212 (by decide) ?_
  refine e_icmp_ge (tgt := 309) C dL_isSame_214 (by decide) (fun c_214 => absurd ((nI_leI (a := 9) (b := 1) (by omega) (by omega)).mp c_214) (by omega)) (fun c_214 => ?_)
  refine e_iload (j := 1) C dL_isSame_217 rfl ?_
  refine e_if_eq (tgt := 309) C dL_isSame_219 (by decide) (fun c_219 => absurd ((nI_eq (a := 1) (b := 0) (by omega) (by omega)).mp c_219) (by omega)) (fun c_219 => ?_)
  refine e_iload (j := 0) C dL_isSame_222 rfl ?_
  refine e_iconst (v := 3) C dL_isSame_224 (by decide) ?_
  refine e_icmp_eq (tgt := 296) C dL_isSame_225 (by decide) (fun c_225 => absurd ((nI_eq (a := 1) (b := 3) (by omega) (by omega)).mp c_225) (by omega)) (fun c_225 => ?_)
  refine e_aload_n (j := 4) C dL_isSame_228 rfl rfl ?_
  refine e_iload (j := 3) C dL_isSame_229 rfl ?_
  refine e_iload (j := 0) C dL_isSame_231 rfl ?_
  refine e_cV (i := 0) (nA := 2) (Cn := RX2) C (c_X2_about_1 hl hk (by omega)) rfl (cnt_fix (by decide)) (fun _ => rfl) rfl rfl mw_408 mw_405 mw_406 mw_407 mw_12 (by decide +kernel) (by decide) rfl rfl (Nat.le_of_ble_eq_true rfl) dL_isSame_233 (Nat.le_of_ble_eq_true rfl) (Nat.le_of_ble_eq_true rfl) ?_
  refine e_aload_n (j := 5) C dL_isSame_236 rfl rfl ?_
  refine e_bipush (v := 12) C dL_isSame_237 (by decide) ?_
  refine e_iload (j := 3) C dL_isSame_239 rfl ?_
  refine e_imulN 12 k (12 * k) C rfl rfl rfl dL_isSame_241 ?_
  refine e_iload (j := 0) C dL_isSame_242 rfl ?_
  refine e_if_ne (tgt := 251) C dL_isSame_244 (by decide) (fun c_244 => ?_) (fun c_244 => absurd ((nI_eq (a := 1) (b := 0) (by omega) (by omega)).mp c_244) (by omega))
  refine e_iload (j := 0) C dL_isSame_251 rfl ?_
  refine e_iconst (v := 3) C dL_isSame_253 (by decide) ?_
  refine e_icmp_ge (tgt := 262) C dL_isSame_254 (by decide) (fun c_254 => absurd ((nI_leI (a := 3) (b := 1) (by omega) (by omega)).mp c_254) (by omega)) (fun c_254 => ?_)
  refine e_iload (j := 0) C dL_isSame_257 rfl ?_
  refine e_goto (tgt := 291) C dL_isSame_259 (by decide) ?_
  refine e_iaddN (12 * k) 1 (12 * k + 1) C rfl rfl rfl dL_isSame_291 ?_
  refine e_ialdN (12 * k + 1) C (cnt_fix (by decide)) (fun _ => rfl) rfl (by omega) (by decide) dL_isSame_292 ?_
  refine e_icmp_ne (tgt := 300) C dL_isSame_293 (by decide) (fun c_293 => absurd (by assumption) c_293) (fun c_293 => ?_)
  refine e_iconst (v := 1) C dL_isSame_296 (by decide) ?_
  refine e_goto (tgt := 301) C dL_isSame_297 (by decide) ?_
  refine e_istore (ls2 := [(8, .int 1), (9, .int 1), (7, .int (nI g)), (6, .int (nI k)), (0, .ref (ρ 0)), (1, .ref (ρ 9)), (2, .ref (ρ 10)), (3, .ref (ρ 11)), (4, .ref (ρ 12)), (5, .int (nI z))]) C hnL dL_isSame_301 (by decide) rfl ?_
  refine e_iinc (j := 1) (v := (nI (2))) (ls2 := [(9, .int 2), (8, .int 1), (7, .int (nI g)), (6, .int (nI k)), (0, .ref (ρ 0)), (1, .ref (ρ 9)), (2, .ref (ρ 10)), (3, .ref (ρ 11)), (4, .ref (ρ 12)), (5, .int (nI z))]) C hnL dL_isSame_303 rfl (nI_add (1) 1) (by decide) rfl ?_
  refine e_goto (tgt := 210) C dL_isSame_306 (by decide) ?_
  refine e_iload (j := 0) C dL_isSame_210 rfl ?_
  refine e_bipush (v := 9) C dL_isSame_212 (by decide) ?_
  refine e_icmp_ge (tgt := 309) C dL_isSame_214 (by decide) (fun c_214 => absurd ((nI_leI (a := 9) (b := 2) (by omega) (by omega)).mp c_214) (by omega)) (fun c_214 => ?_)
  refine e_iload (j := 1) C dL_isSame_217 rfl ?_
  refine e_if_eq (tgt := 309) C dL_isSame_219 (by decide) (fun c_219 => absurd ((nI_eq (a := 1) (b := 0) (by omega) (by omega)).mp c_219) (by omega)) (fun c_219 => ?_)
  refine e_iload (j := 0) C dL_isSame_222 rfl ?_
  refine e_iconst (v := 3) C dL_isSame_224 (by decide) ?_
  refine e_icmp_eq (tgt := 296) C dL_isSame_225 (by decide) (fun c_225 => absurd ((nI_eq (a := 2) (b := 3) (by omega) (by omega)).mp c_225) (by omega)) (fun c_225 => ?_)
  refine e_aload_n (j := 4) C dL_isSame_228 rfl rfl ?_
  refine e_iload (j := 3) C dL_isSame_229 rfl ?_
  refine e_iload (j := 0) C dL_isSame_231 rfl ?_
  refine e_cV (i := 0) (nA := 2) (Cn := RX2) C (c_X2_about_2 hl hk (by omega)) rfl (cnt_fix (by decide)) (fun _ => rfl) rfl rfl mw_408 mw_405 mw_406 mw_407 mw_12 (by decide +kernel) (by decide) rfl rfl (Nat.le_of_ble_eq_true rfl) dL_isSame_233 (Nat.le_of_ble_eq_true rfl) (Nat.le_of_ble_eq_true rfl) ?_
  refine e_aload_n (j := 5) C dL_isSame_236 rfl rfl ?_
  refine e_bipush (v := 12) C dL_isSame_237 (by decide) ?_
  refine e_iload (j := 3) C dL_isSame_239 rfl ?_
  refine e_imulN 12 k (12 * k) C rfl rfl rfl dL_isSame_241 ?_
  refine e_iload (j := 0) C dL_isSame_242 rfl ?_
  refine e_if_ne (tgt := 251) C dL_isSame_244 (by decide) (fun c_244 => ?_) (fun c_244 => absurd ((nI_eq (a := 2) (b := 0) (by omega) (by omega)).mp c_244) (by omega))
  refine e_iload (j := 0) C dL_isSame_251 rfl ?_
  refine e_iconst (v := 3) C dL_isSame_253 (by decide) ?_
  refine e_icmp_ge (tgt := 262) C dL_isSame_254 (by decide) (fun c_254 => absurd ((nI_leI (a := 3) (b := 2) (by omega) (by omega)).mp c_254) (by omega)) (fun c_254 => ?_)
  refine e_iload (j := 0) C dL_isSame_257 rfl ?_
  refine e_goto (tgt := 291) C dL_isSame_259 (by decide) ?_
  refine e_iaddN (12 * k) 2 (12 * k + 2) C rfl rfl rfl dL_isSame_291 ?_
  refine e_ialdN (12 * k + 2) C (cnt_fix (by decide)) (fun _ => rfl) rfl (by omega) (by decide) dL_isSame_292 ?_
  refine e_icmp_ne (tgt := 300) C dL_isSame_293 (by decide) (fun c_293 => absurd (by assumption) c_293) (fun c_293 => ?_)
  refine e_iconst (v := 1) C dL_isSame_296 (by decide) ?_
  refine e_goto (tgt := 301) C dL_isSame_297 (by decide) ?_
  refine e_istore (ls2 := [(8, .int 1), (9, .int 2), (7, .int (nI g)), (6, .int (nI k)), (0, .ref (ρ 0)), (1, .ref (ρ 9)), (2, .ref (ρ 10)), (3, .ref (ρ 11)), (4, .ref (ρ 12)), (5, .int (nI z))]) C hnL dL_isSame_301 (by decide) rfl ?_
  refine e_iinc (j := 1) (v := (nI (3))) (ls2 := [(9, .int 3), (8, .int 1), (7, .int (nI g)), (6, .int (nI k)), (0, .ref (ρ 0)), (1, .ref (ρ 9)), (2, .ref (ρ 10)), (3, .ref (ρ 11)), (4, .ref (ρ 12)), (5, .int (nI z))]) C hnL dL_isSame_303 rfl (nI_add (2) 1) (by decide) rfl ?_
  refine e_goto (tgt := 210) C dL_isSame_306 (by decide) ?_
  refine e_iload (j := 0) C dL_isSame_210 rfl ?_
  refine e_bipush (v := 9) C dL_isSame_212 (by decide) ?_
  refine e_icmp_ge (tgt := 309) C dL_isSame_214 (by decide) (fun c_214 => absurd ((nI_leI (a := 9) (b := 3) (by omega) (by omega)).mp c_214) (by omega)) (fun c_214 => ?_)
  refine e_iload (j := 1) C dL_isSame_217 rfl ?_
  refine e_if_eq (tgt := 309) C dL_isSame_219 (by decide) (fun c_219 => absurd ((nI_eq (a := 1) (b := 0) (by omega) (by omega)).mp c_219) (by omega)) (fun c_219 => ?_)
  refine e_iload (j := 0) C dL_isSame_222 rfl ?_
  refine e_iconst (v := 3) C dL_isSame_224 (by decide) ?_
  refine e_icmp_eq (tgt := 296) C dL_isSame_225 (by decide) (fun c_225 => ?_) (fun c_225 => absurd ((nI_eq (a := 3) (b := 3) (by omega) (by omega)).mpr (by omega)) c_225)
  refine e_iconst (v := 1) C dL_isSame_296 (by decide) ?_
  refine e_goto (tgt := 301) C dL_isSame_297 (by decide) ?_
  refine e_istore (ls2 := [(8, .int 1), (9, .int 3), (7, .int (nI g)), (6, .int (nI k)), (0, .ref (ρ 0)), (1, .ref (ρ 9)), (2, .ref (ρ 10)), (3, .ref (ρ 11)), (4, .ref (ρ 12)), (5, .int (nI z))]) C hnL dL_isSame_301 (by decide) rfl ?_
  refine e_iinc (j := 1) (v := (nI (4))) (ls2 := [(9, .int 4), (8, .int 1), (7, .int (nI g)), (6, .int (nI k)), (0, .ref (ρ 0)), (1, .ref (ρ 9)), (2, .ref (ρ 10)), (3, .ref (ρ 11)), (4, .ref (ρ 12)), (5, .int (nI z))]) C hnL dL_isSame_303 rfl (nI_add (3) 1) (by decide) rfl ?_
  refine e_goto (tgt := 210) C dL_isSame_306 (by decide) ?_
  refine e_iload (j := 0) C dL_isSame_210 rfl ?_
  refine e_bipush (v := 9) C dL_isSame_212 (by decide) ?_
  refine e_icmp_ge (tgt := 309) C dL_isSame_214 (by decide) (fun c_214 => absurd ((nI_leI (a := 9) (b := 4) (by omega) (by omega)).mp c_214) (by omega)) (fun c_214 => ?_)
  refine e_iload (j := 1) C dL_isSame_217 rfl ?_
  refine e_if_eq (tgt := 309) C dL_isSame_219 (by decide) (fun c_219 => absurd ((nI_eq (a := 1) (b := 0) (by omega) (by omega)).mp c_219) (by omega)) (fun c_219 => ?_)
  refine e_iload (j := 0) C dL_isSame_222 rfl ?_
  refine e_iconst (v := 3) C dL_isSame_224 (by decide) ?_
  refine e_icmp_eq (tgt := 296) C dL_isSame_225 (by decide) (fun c_225 => absurd ((nI_eq (a := 4) (b := 3) (by omega) (by omega)).mp c_225) (by omega)) (fun c_225 => ?_)
  refine e_aload_n (j := 4) C dL_isSame_228 rfl rfl ?_
  refine e_iload (j := 3) C dL_isSame_229 rfl ?_
  refine e_iload (j := 0) C dL_isSame_231 rfl ?_
  refine e_cV (i := 0) (nA := 2) (Cn := RX2) C (c_X2_about_4 hl hk (by omega)) rfl (cnt_fix (by decide)) (fun _ => rfl) rfl rfl mw_408 mw_405 mw_406 mw_407 mw_12 (by decide +kernel) (by decide) rfl rfl (Nat.le_of_ble_eq_true rfl) dL_isSame_233 (Nat.le_of_ble_eq_true rfl) (Nat.le_of_ble_eq_true rfl) ?_
  refine e_aload_n (j := 5) C dL_isSame_236 rfl rfl ?_
  refine e_bipush (v := 12) C dL_isSame_237 (by decide) ?_
  refine e_iload (j := 3) C dL_isSame_239 rfl ?_
  refine e_imulN 12 k (12 * k) C rfl rfl rfl dL_isSame_241 ?_
  refine e_iload (j := 0) C dL_isSame_242 rfl ?_
  refine e_if_ne (tgt := 251) C dL_isSame_244 (by decide) (fun c_244 => ?_) (fun c_244 => absurd ((nI_eq (a := 4) (b := 0) (by omega) (by omega)).mp c_244) (by omega))
  refine e_iload (j := 0) C dL_isSame_251 rfl ?_
  refine e_iconst (v := 3) C dL_isSame_253 (by decide) ?_
  refine e_icmp_ge (tgt := 262) C dL_isSame_254 (by decide) (fun c_254 => ?_) (fun c_254 => absurd ((nI_leI (a := 3) (b := 4) (by omega) (by omega)).mpr (by omega)) c_254)
  refine e_iload (j := 0) C dL_isSame_262 rfl ?_
  refine e_bipush (v := 6) C dL_isSame_264 (by decide) ?_
  refine e_icmp_ge (tgt := 276) C dL_isSame_266 (by decide) (fun c_266 => absurd ((nI_leI (a := 6) (b := 4) (by omega) (by omega)).mp c_266) (by omega)) (fun c_266 => ?_)
  refine e_iload (j := 0) C dL_isSame_269 rfl ?_
  refine e_iconst (v := 1) C dL_isSame_271 (by decide) ?_
  refine e_isubN 4 1 3 C rfl rfl (by omega) rfl dL_isSame_272 ?_
  refine e_goto (tgt := 291) C dL_isSame_273 (by decide) ?_
  refine e_iaddN (12 * k) 3 (12 * k + 3) C rfl rfl rfl dL_isSame_291 ?_
  refine e_ialdN (12 * k + 3) C (cnt_fix (by decide)) (fun _ => rfl) rfl (by omega) (by decide) dL_isSame_292 ?_
  refine e_icmp_ne (tgt := 300) C dL_isSame_293 (by decide) (fun c_293 => absurd (by assumption) c_293) (fun c_293 => ?_)
  refine e_iconst (v := 1) C dL_isSame_296 (by decide) ?_
  refine e_goto (tgt := 301) C dL_isSame_297 (by decide) ?_
  refine e_istore (ls2 := [(8, .int 1), (9, .int 4), (7, .int (nI g)), (6, .int (nI k)), (0, .ref (ρ 0)), (1, .ref (ρ 9)), (2, .ref (ρ 10)), (3, .ref (ρ 11)), (4, .ref (ρ 12)), (5, .int (nI z))]) C hnL dL_isSame_301 (by decide) rfl ?_
  refine e_iinc (j := 1) (v := (nI (5))) (ls2 := [(9, .int 5), (8, .int 1), (7, .int (nI g)), (6, .int (nI k)), (0, .ref (ρ 0)), (1, .ref (ρ 9)), (2, .ref (ρ 10)), (3, .ref (ρ 11)), (4, .ref (ρ 12)), (5, .int (nI z))]) C hnL dL_isSame_303 rfl (nI_add (4) 1) (by decide) rfl ?_
  refine e_goto (tgt := 210) C dL_isSame_306 (by decide) ?_
  refine e_iload (j := 0) C dL_isSame_210 rfl ?_
  refine e_bipush (v := 9) C dL_isSame_212 (by decide) ?_
  refine e_icmp_ge (tgt := 309) C dL_isSame_214 (by decide) (fun c_214 => absurd ((nI_leI (a := 9) (b := 5) (by omega) (by omega)).mp c_214) (by omega)) (fun c_214 => ?_)
  refine e_iload (j := 1) C dL_isSame_217 rfl ?_
  refine e_if_eq (tgt := 309) C dL_isSame_219 (by decide) (fun c_219 => absurd ((nI_eq (a := 1) (b := 0) (by omega) (by omega)).mp c_219) (by omega)) (fun c_219 => ?_)
  refine e_iload (j := 0) C dL_isSame_222 rfl ?_
  refine e_iconst (v := 3) C dL_isSame_224 (by decide) ?_
  refine e_icmp_eq (tgt := 296) C dL_isSame_225 (by decide) (fun c_225 => absurd ((nI_eq (a := 5) (b := 3) (by omega) (by omega)).mp c_225) (by omega)) (fun c_225 => ?_)
  refine e_aload_n (j := 4) C dL_isSame_228 rfl rfl ?_
  refine e_iload (j := 3) C dL_isSame_229 rfl ?_
  refine e_iload (j := 0) C dL_isSame_231 rfl ?_
  refine e_cV (i := 0) (nA := 2) (Cn := RX2) C (c_X2_about_5 hl hk (by omega)) rfl (cnt_fix (by decide)) (fun _ => rfl) rfl rfl mw_408 mw_405 mw_406 mw_407 mw_12 (by decide +kernel) (by decide) rfl rfl (Nat.le_of_ble_eq_true rfl) dL_isSame_233 (Nat.le_of_ble_eq_true rfl) (Nat.le_of_ble_eq_true rfl) ?_
  refine e_aload_n (j := 5) C dL_isSame_236 rfl rfl ?_
  refine e_bipush (v := 12) C dL_isSame_237 (by decide) ?_
  refine e_iload (j := 3) C dL_isSame_239 rfl ?_
  refine e_imulN 12 k (12 * k) C rfl rfl rfl dL_isSame_241 ?_
  refine e_iload (j := 0) C dL_isSame_242 rfl ?_
  refine e_if_ne (tgt := 251) C dL_isSame_244 (by decide) (fun c_244 => ?_) (fun c_244 => absurd ((nI_eq (a := 5) (b := 0) (by omega) (by omega)).mp c_244) (by omega))
  refine e_iload (j := 0) C dL_isSame_251 rfl ?_
  refine e_iconst (v := 3) C dL_isSame_253 (by decide) ?_
  refine e_icmp_ge (tgt := 262) C dL_isSame_254 (by decide) (fun c_254 => ?_) (fun c_254 => absurd ((nI_leI (a := 3) (b := 5) (by omega) (by omega)).mpr (by omega)) c_254)
  refine e_iload (j := 0) C dL_isSame_262 rfl ?_
  refine e_bipush (v := 6) C dL_isSame_264 (by decide) ?_
  refine e_icmp_ge (tgt := 276) C dL_isSame_266 (by decide) (fun c_266 => absurd ((nI_leI (a := 6) (b := 5) (by omega) (by omega)).mp c_266) (by omega)) (fun c_266 => ?_)
  refine e_iload (j := 0) C dL_isSame_269 rfl ?_
  refine e_iconst (v := 1) C dL_isSame_271 (by decide) ?_
  refine e_isubN 5 1 4 C rfl rfl (by omega) rfl dL_isSame_272 ?_
  refine e_goto (tgt := 291) C dL_isSame_273 (by decide) ?_
  refine e_iaddN (12 * k) 4 (12 * k + 4) C rfl rfl rfl dL_isSame_291 ?_
  refine e_ialdN (12 * k + 4) C (cnt_fix (by decide)) (fun _ => rfl) rfl (by omega) (by decide) dL_isSame_292 ?_
  refine e_icmp_ne (tgt := 300) C dL_isSame_293 (by decide) (fun c_293 => absurd (by assumption) c_293) (fun c_293 => ?_)
  refine e_iconst (v := 1) C dL_isSame_296 (by decide) ?_
  refine e_goto (tgt := 301) C dL_isSame_297 (by decide) ?_
  refine e_istore (ls2 := [(8, .int 1), (9, .int 5), (7, .int (nI g)), (6, .int (nI k)), (0, .ref (ρ 0)), (1, .ref (ρ 9)), (2, .ref (ρ 10)), (3, .ref (ρ 11)), (4, .ref (ρ 12)), (5, .int (nI z))]) C hnL dL_isSame_301 (by decide) rfl ?_
  refine e_iinc (j := 1) (v := (nI (6))) (ls2 := [(9, .int 6), (8, .int 1), (7, .int (nI g)), (6, .int (nI k)), (0, .ref (ρ 0)), (1, .ref (ρ 9)), (2, .ref (ρ 10)), (3, .ref (ρ 11)), (4, .ref (ρ 12)), (5, .int (nI z))]) C hnL dL_isSame_303 rfl (nI_add (5) 1) (by decide) rfl ?_
  refine e_goto (tgt := 210) C dL_isSame_306 (by decide) ?_
  refine e_iload (j := 0) C dL_isSame_210 rfl ?_
  refine e_bipush (v := 9) C dL_isSame_212 (by decide) ?_
  refine e_icmp_ge (tgt := 309) C dL_isSame_214 (by decide) (fun c_214 => absurd ((nI_leI (a := 9) (b := 6) (by omega) (by omega)).mp c_214) (by omega)) (fun c_214 => ?_)
  refine e_iload (j := 1) C dL_isSame_217 rfl ?_
  refine e_if_eq (tgt := 309) C dL_isSame_219 (by decide) (fun c_219 => absurd ((nI_eq (a := 1) (b := 0) (by omega) (by omega)).mp c_219) (by omega)) (fun c_219 => ?_)
  refine e_iload (j := 0) C dL_isSame_222 rfl ?_
  refine e_iconst (v := 3) C dL_isSame_224 (by decide) ?_
  refine e_icmp_eq (tgt := 296) C dL_isSame_225 (by decide) (fun c_225 => absurd ((nI_eq (a := 6) (b := 3) (by omega) (by omega)).mp c_225) (by omega)) (fun c_225 => ?_)
  refine e_aload_n (j := 4) C dL_isSame_228 rfl rfl ?_
  refine e_iload (j := 3) C dL_isSame_229 rfl ?_
  refine e_iload (j := 0) C dL_isSame_231 rfl ?_
  refine e_cV (i := 0) (nA := 2) (Cn := RX2) C (c_X2_about_6 hl hk (by omega)) rfl (cnt_fix (by decide)) (fun _ => rfl) rfl rfl mw_408 mw_405 mw_406 mw_407 mw_12 (by decide +kernel) (by decide) rfl rfl (Nat.le_of_ble_eq_true rfl) dL_isSame_233 (Nat.le_of_ble_eq_true rfl) (Nat.le_of_ble_eq_true rfl) ?_
  refine e_aload_n (j := 5) C dL_isSame_236 rfl rfl ?_
  refine e_bipush (v := 12) C dL_isSame_237 (by decide) ?_
  refine e_iload (j := 3) C dL_isSame_239 rfl ?_
  refine e_imulN 12 k (12 * k) C rfl rfl rfl dL_isSame_241 ?_
  refine e_iload (j := 0) C dL_isSame_242 rfl ?_
  refine e_if_ne (tgt := 251) C dL_isSame_244 (by decide) (fun c_244 => ?_) (fun c_244 => absurd ((nI_eq (a := 6) (b := 0) (by omega) (by omega)).mp c_244) (by omega))
  refine e_iload (j := 0) C dL_isSame_251 rfl ?_
  refine e_iconst (v := 3) C dL_isSame_253 (by decide) ?_
  refine e_icmp_ge (tgt := 262) C dL_isSame_254 (by decide) (fun c_254 => ?_) (fun c_254 => absurd ((nI_leI (a := 3) (b := 6) (by omega) (by omega)).mpr (by omega)) c_254)
  refine e_iload (j := 0) C dL_isSame_262 rfl ?_
  refine e_bipush (v := 6) C dL_isSame_264 (by decide) ?_
  refine e_icmp_ge (tgt := 276) C dL_isSame_266 (by decide) (fun c_266 => ?_) (fun c_266 => absurd ((nI_leI (a := 6) (b := 6) (by omega) (by omega)).mpr (by omega)) c_266)
  refine e_iload (j := 0) C dL_isSame_276 rfl ?_
  refine e_bipush (v := 6) C dL_isSame_278 (by decide) ?_
  refine e_icmp_ne (tgt := 287) C dL_isSame_280 (by decide) (fun c_280 => absurd ((nI_eq (a := 6) (b := 6) (by omega) (by omega)).mpr (by omega)) c_280) (fun c_280 => ?_)
  refine e_iconst (v := 5) C dL_isSame_283 (by decide) ?_
  refine e_goto (tgt := 291) C dL_isSame_284 (by decide) ?_
  refine e_iaddN (12 * k) 5 (12 * k + 5) C rfl rfl rfl dL_isSame_291 ?_
  refine e_ialdN (12 * k + 5) C (cnt_fix (by decide)) (fun _ => rfl) rfl (by omega) (by decide) dL_isSame_292 ?_
  refine e_icmp_ne (tgt := 300) C dL_isSame_293 (by decide) (fun c_293 => absurd (by assumption) c_293) (fun c_293 => ?_)
  refine e_iconst (v := 1) C dL_isSame_296 (by decide) ?_
  refine e_goto (tgt := 301) C dL_isSame_297 (by decide) ?_
  refine e_istore (ls2 := [(8, .int 1), (9, .int 6), (7, .int (nI g)), (6, .int (nI k)), (0, .ref (ρ 0)), (1, .ref (ρ 9)), (2, .ref (ρ 10)), (3, .ref (ρ 11)), (4, .ref (ρ 12)), (5, .int (nI z))]) C hnL dL_isSame_301 (by decide) rfl ?_
  refine e_iinc (j := 1) (v := (nI (7))) (ls2 := [(9, .int 7), (8, .int 1), (7, .int (nI g)), (6, .int (nI k)), (0, .ref (ρ 0)), (1, .ref (ρ 9)), (2, .ref (ρ 10)), (3, .ref (ρ 11)), (4, .ref (ρ 12)), (5, .int (nI z))]) C hnL dL_isSame_303 rfl (nI_add (6) 1) (by decide) rfl ?_
  refine e_goto (tgt := 210) C dL_isSame_306 (by decide) ?_
  refine e_iload (j := 0) C dL_isSame_210 rfl ?_
  refine e_bipush (v := 9) C dL_isSame_212 (by decide) ?_
  refine e_icmp_ge (tgt := 309) C dL_isSame_214 (by decide) (fun c_214 => absurd ((nI_leI (a := 9) (b := 7) (by omega) (by omega)).mp c_214) (by omega)) (fun c_214 => ?_)
  refine e_iload (j := 1) C dL_isSame_217 rfl ?_
  refine e_if_eq (tgt := 309) C dL_isSame_219 (by decide) (fun c_219 => absurd ((nI_eq (a := 1) (b := 0) (by omega) (by omega)).mp c_219) (by omega)) (fun c_219 => ?_)
  refine e_iload (j := 0) C dL_isSame_222 rfl ?_
  refine e_iconst (v := 3) C dL_isSame_224 (by decide) ?_
  refine e_icmp_eq (tgt := 296) C dL_isSame_225 (by decide) (fun c_225 => absurd ((nI_eq (a := 7) (b := 3) (by omega) (by omega)).mp c_225) (by omega)) (fun c_225 => ?_)
  refine e_aload_n (j := 4) C dL_isSame_228 rfl rfl ?_
  refine e_iload (j := 3) C dL_isSame_229 rfl ?_
  refine e_iload (j := 0) C dL_isSame_231 rfl ?_
  refine e_cV (i := 0) (nA := 2) (Cn := RX2) C (c_X2_about_7 hl hk (by omega)) rfl (cnt_fix (by decide)) (fun _ => rfl) rfl rfl mw_408 mw_405 mw_406 mw_407 mw_12 (by decide +kernel) (by decide) rfl rfl (Nat.le_of_ble_eq_true rfl) dL_isSame_233 (Nat.le_of_ble_eq_true rfl) (Nat.le_of_ble_eq_true rfl) ?_
  refine e_aload_n (j := 5) C dL_isSame_236 rfl rfl ?_
  refine e_bipush (v := 12) C dL_isSame_237 (by decide) ?_
  refine e_iload (j := 3) C dL_isSame_239 rfl ?_
  refine e_imulN 12 k (12 * k) C rfl rfl rfl dL_isSame_241 ?_
  refine e_iload (j := 0) C dL_isSame_242 rfl ?_
  refine e_if_ne (tgt := 251) C dL_isSame_244 (by decide) (fun c_244 => ?_) (fun c_244 => absurd ((nI_eq (a := 7) (b := 0) (by omega) (by omega)).mp c_244) (by omega))
  refine e_iload (j := 0) C dL_isSame_251 rfl ?_
  refine e_iconst (v := 3) C dL_isSame_253 (by decide) ?_
  refine e_icmp_ge (tgt := 262) C dL_isSame_254 (by decide) (fun c_254 => ?_) (fun c_254 => absurd ((nI_leI (a := 3) (b := 7) (by omega) (by omega)).mpr (by omega)) c_254)
  refine e_iload (j := 0) C dL_isSame_262 rfl ?_
  refine e_bipush (v := 6) C dL_isSame_264 (by decide) ?_
  refine e_icmp_ge (tgt := 276) C dL_isSame_266 (by decide) (fun c_266 => ?_) (fun c_266 => absurd ((nI_leI (a := 6) (b := 7) (by omega) (by omega)).mpr (by omega)) c_266)
  refine e_iload (j := 0) C dL_isSame_276 rfl ?_
  refine e_bipush (v := 6) C dL_isSame_278 (by decide) ?_
  refine e_icmp_ne (tgt := 287) C dL_isSame_280 (by decide) (fun c_280 => ?_) (fun c_280 => absurd ((nI_eq (a := 7) (b := 6) (by omega) (by omega)).mp c_280) (by omega))
  refine e_iload (j := 0) C dL_isSame_287 rfl ?_
  refine e_iconst (v := 1) C dL_isSame_289 (by decide) ?_
  refine e_isubN 7 1 6 C rfl rfl (by omega) rfl dL_isSame_290 ?_
  refine e_iaddN (12 * k) 6 (12 * k + 6) C rfl rfl rfl dL_isSame_291 ?_
  refine e_ialdN (12 * k + 6) C (cnt_fix (by decide)) (fun _ => rfl) rfl (by omega) (by decide) dL_isSame_292 ?_
  refine e_icmp_ne (tgt := 300) C dL_isSame_293 (by decide) (fun c_293 => absurd (by assumption) c_293) (fun c_293 => ?_)
  refine e_iconst (v := 1) C dL_isSame_296 (by decide) ?_
  refine e_goto (tgt := 301) C dL_isSame_297 (by decide) ?_
  refine e_istore (ls2 := [(8, .int 1), (9, .int 7), (7, .int (nI g)), (6, .int (nI k)), (0, .ref (ρ 0)), (1, .ref (ρ 9)), (2, .ref (ρ 10)), (3, .ref (ρ 11)), (4, .ref (ρ 12)), (5, .int (nI z))]) C hnL dL_isSame_301 (by decide) rfl ?_
  refine e_iinc (j := 1) (v := (nI (8))) (ls2 := [(9, .int 8), (8, .int 1), (7, .int (nI g)), (6, .int (nI k)), (0, .ref (ρ 0)), (1, .ref (ρ 9)), (2, .ref (ρ 10)), (3, .ref (ρ 11)), (4, .ref (ρ 12)), (5, .int (nI z))]) C hnL dL_isSame_303 rfl (nI_add (7) 1) (by decide) rfl ?_
  refine e_goto (tgt := 210) C dL_isSame_306 (by decide) ?_
  refine e_iload (j := 0) C dL_isSame_210 rfl ?_
  refine e_bipush (v := 9) C dL_isSame_212 (by decide) ?_
  refine e_icmp_ge (tgt := 309) C dL_isSame_214 (by decide) (fun c_214 => absurd ((nI_leI (a := 9) (b := 8) (by omega) (by omega)).mp c_214) (by omega)) (fun c_214 => ?_)
  refine e_iload (j := 1) C dL_isSame_217 rfl ?_
  refine e_if_eq (tgt := 309) C dL_isSame_219 (by decide) (fun c_219 => absurd ((nI_eq (a := 1) (b := 0) (by omega) (by omega)).mp c_219) (by omega)) (fun c_219 => ?_)
  refine e_iload (j := 0) C dL_isSame_222 rfl ?_
  refine e_iconst (v := 3) C dL_isSame_224 (by decide) ?_
  refine e_icmp_eq (tgt := 296) C dL_isSame_225 (by decide) (fun c_225 => absurd ((nI_eq (a := 8) (b := 3) (by omega) (by omega)).mp c_225) (by omega)) (fun c_225 => ?_)
  refine e_aload_n (j := 4) C dL_isSame_228 rfl rfl ?_
  refine e_iload (j := 3) C dL_isSame_229 rfl ?_
  refine e_iload (j := 0) C dL_isSame_231 rfl ?_
  refine e_cV (i := 0) (nA := 2) (Cn := RX2) C (c_X2_about_8 hl hk (by omega)) rfl (cnt_fix (by decide)) (fun _ => rfl) rfl rfl mw_408 mw_405 mw_406 mw_407 mw_12 (by decide +kernel) (by decide) rfl rfl (Nat.le_of_ble_eq_true rfl) dL_isSame_233 (Nat.le_of_ble_eq_true rfl) (Nat.le_of_ble_eq_true rfl) ?_
  refine e_aload_n (j := 5) C dL_isSame_236 rfl rfl ?_
  refine e_bipush (v := 12) C dL_isSame_237 (by decide) ?_
  refine e_iload (j := 3) C dL_isSame_239 rfl ?_
  refine e_imulN 12 k (12 * k) C rfl rfl rfl dL_isSame_241 ?_
  refine e_iload (j := 0) C dL_isSame_242 rfl ?_
  refine e_if_ne (tgt := 251) C dL_isSame_244 (by decide) (fun c_244 => ?_) (fun c_244 => absurd ((nI_eq (a := 8) (b := 0) (by omega) (by omega)).mp c_244) (by omega))
  refine e_iload (j := 0) C dL_isSame_251 rfl ?_
  refine e_iconst (v := 3) C dL_isSame_253 (by decide) ?_
  refine e_icmp_ge (tgt := 262) C dL_isSame_254 (by decide) (fun c_254 => ?_) (fun c_254 => absurd ((nI_leI (a := 3) (b := 8) (by omega) (by omega)).mpr (by omega)) c_254)
  refine e_iload (j := 0) C dL_isSame_262 rfl ?_
  refine e_bipush (v := 6) C dL_isSame_264 (by decide) ?_
  refine e_icmp_ge (tgt := 276) C dL_isSame_266 (by decide) (fun c_266 => ?_) (fun c_266 => absurd ((nI_leI (a := 6) (b := 8) (by omega) (by omega)).mpr (by omega)) c_266)
  refine e_iload (j := 0) C dL_isSame_276 rfl ?_
  refine e_bipush (v := 6) C dL_isSame_278 (by decide) ?_
  refine e_icmp_ne (tgt := 287) C dL_isSame_280 (by decide) (fun c_280 => ?_) (fun c_280 => absurd ((nI_eq (a := 8) (b := 6) (by omega) (by omega)).mp c_280) (by omega))
  refine e_iload (j := 0) C dL_isSame_287 rfl ?_
  refine e_iconst (v := 1) C dL_isSame_289 (by decide) ?_
  refine e_isubN 8 1 7 C rfl rfl (by omega) rfl dL_isSame_290 ?_
  refine e_iaddN (12 * k) 7 (12 * k + 7) C rfl rfl rfl dL_isSame_291 ?_
  refine e_ialdN (12 * k + 7) C (cnt_fix (by decide)) (fun _ => rfl) rfl (by omega) (by decide) dL_isSame_292 ?_
  refine e_icmp_ne (tgt := 300) C dL_isSame_293 (by decide) (fun c_293 => absurd (by assumption) c_293) (fun c_293 => ?_)
  refine e_iconst (v := 1) C dL_isSame_296 (by decide) ?_
  refine e_goto (tgt := 301) C dL_isSame_297 (by decide) ?_
  refine e_istore (ls2 := [(8, .int 1), (9, .int 8), (7, .int (nI g)), (6, .int (nI k)), (0, .ref (ρ 0)), (1, .ref (ρ 9)), (2, .ref (ρ 10)), (3, .ref (ρ 11)), (4, .ref (ρ 12)), (5, .int (nI z))]) C hnL dL_isSame_301 (by decide) rfl ?_
  refine e_iinc (j := 1) (v := (nI (9))) (ls2 := [(9, .int 9), (8, .int 1), (7, .int (nI g)), (6, .int (nI k)), (0, .ref (ρ 0)), (1, .ref (ρ 9)), (2, .ref (ρ 10)), (3, .ref (ρ 11)), (4, .ref (ρ 12)), (5, .int (nI z))]) C hnL dL_isSame_303 rfl (nI_add (8) 1) (by decide) rfl ?_
  refine e_goto (tgt := 210) C dL_isSame_306 (by decide) ?_
  refine e_iload (j := 0) C dL_isSame_210 rfl ?_
  refine e_bipush (v := 9) C dL_isSame_212 (by decide) ?_
  refine e_icmp_ge (tgt := 309) C dL_isSame_214 (by decide) (fun c_214 => ?_) (fun c_214 => absurd ((nI_leI (a := 9) (b := 9) (by omega) (by omega)).mpr (by omega)) c_214)
  refine e_iconst (v := 0) C dL_isSame_309 (by decide) ?_
  refine e_istore (ls2 := [(9, .int 0), (8, .int 1), (7, .int (nI g)), (6, .int (nI k)), (0, .ref (ρ 0)), (1, .ref (ρ 9)), (2, .ref (ρ 10)), (3, .ref (ρ 11)), (4, .ref (ρ 12)), (5, .int (nI z))]) C hnL dL_isSame_310 (by decide) rfl ?_
  refine e_iconst (v := 0) C dL_isSame_312 (by decide) ?_
  refine e_istore (ls2 := [(10, .int 0), (9, .int 0), (8, .int 1), (7, .int (nI g)), (6, .int (nI k)), (0, .ref (ρ 0)), (1, .ref (ρ 9)), (2, .ref (ρ 10)), (3, .ref (ρ 11)), (4, .ref (ρ 12)), (5, .int (nI z))]) C hnL dL_isSame_313 (by decide) rfl ?_
  refine e_iload (j := 0) C dL_isSame_315 rfl ?_
  refine e_iconst (v := 4) C dL_isSame_317 (by decide) ?_
  refine e_icmp_ge (tgt := 342) C dL_isSame_318 (by decide) (fun c_318 => absurd ((nI_leI (a := 4) (b := 0) (by omega) (by omega)).mp c_318) (by omega)) (fun c_318 => ?_)
  refine e_iload (j := 1) C dL_isSame_321 rfl ?_
  refine e_aload_n (j := 6) C dL_isSame_323 rfl rfl ?_
  refine e_aload (j := 9) C dL_isSame_324 rfl ?_
  refine e_iload (j := 4) C dL_isSame_326 rfl ?_
  refine e_iload (j := 0) C dL_isSame_328 rfl ?_
  refine e_cS (nA := 4) C (L_raised hl hk (g := 0) (by decide)) rfl mw_270 mw_268 mw_269 mw_2 (by decide +kernel) (by decide) rfl rfl (Nat.le_of_ble_eq_true rfl) dL_isSame_330 (Nat.le_of_ble_eq_true rfl) (Nat.le_of_ble_eq_true rfl) ?_
  refine e_iadd C dL_isSame_333 ?_
  refine e_topi (fun x9_334 ex9_334 => ?_)
  refine e_istore (ls2 := [(9, .int x9_334), (10, .int 0), (8, .int 1), (7, .int (nI g)), (6, .int (nI k)), (0, .ref (ρ 0)), (1, .ref (ρ 9)), (2, .ref (ρ 10)), (3, .ref (ρ 11)), (4, .ref (ρ 12)), (5, .int (nI z))]) C hnL dL_isSame_334 (by decide) rfl ?_
  refine e_iinc (j := 1) (v := (nI (1))) (ls2 := [(10, .int 1), (9, .int x9_334), (8, .int 1), (7, .int (nI g)), (6, .int (nI k)), (0, .ref (ρ 0)), (1, .ref (ρ 9)), (2, .ref (ρ 10)), (3, .ref (ρ 11)), (4, .ref (ρ 12)), (5, .int (nI z))]) C hnL dL_isSame_336 rfl (nI_add (0) 1) (by decide) rfl ?_
  refine e_goto (tgt := 315) C dL_isSame_339 (by decide) ?_
  refine e_iload (j := 0) C dL_isSame_315 rfl ?_
  refine e_iconst (v := 4) C dL_isSame_317 (by decide) ?_
  refine e_icmp_ge (tgt := 342) C dL_isSame_318 (by decide) (fun c_318 => absurd ((nI_leI (a := 4) (b := 1) (by omega) (by omega)).mp c_318) (by omega)) (fun c_318 => ?_)
  refine e_iload (j := 1) C dL_isSame_321 rfl ?_
  refine e_aload_n (j := 6) C dL_isSame_323 rfl rfl ?_
  refine e_aload (j := 9) C dL_isSame_324 rfl ?_
  refine e_iload (j := 4) C dL_isSame_326 rfl ?_
  refine e_iload (j := 0) C dL_isSame_328 rfl ?_
  refine e_cS (nA := 4) C (L_raised hl hk (g := 1) (by decide)) rfl mw_270 mw_268 mw_269 mw_2 (by decide +kernel) (by decide) rfl rfl (Nat.le_of_ble_eq_true rfl) dL_isSame_330 (Nat.le_of_ble_eq_true rfl) (Nat.le_of_ble_eq_true rfl) ?_
  refine e_iadd C dL_isSame_333 ?_
  refine e_topi (fun x9_334_1 ex9_334_1 => ?_)
  refine e_istore (ls2 := [(9, .int x9_334_1), (10, .int 1), (8, .int 1), (7, .int (nI g)), (6, .int (nI k)), (0, .ref (ρ 0)), (1, .ref (ρ 9)), (2, .ref (ρ 10)), (3, .ref (ρ 11)), (4, .ref (ρ 12)), (5, .int (nI z))]) C hnL dL_isSame_334 (by decide) rfl ?_
  refine e_iinc (j := 1) (v := (nI (2))) (ls2 := [(10, .int 2), (9, .int x9_334_1), (8, .int 1), (7, .int (nI g)), (6, .int (nI k)), (0, .ref (ρ 0)), (1, .ref (ρ 9)), (2, .ref (ρ 10)), (3, .ref (ρ 11)), (4, .ref (ρ 12)), (5, .int (nI z))]) C hnL dL_isSame_336 rfl (nI_add (1) 1) (by decide) rfl ?_
  refine e_goto (tgt := 315) C dL_isSame_339 (by decide) ?_
  refine e_iload (j := 0) C dL_isSame_315 rfl ?_
  refine e_iconst (v := 4) C dL_isSame_317 (by decide) ?_
  refine e_icmp_ge (tgt := 342) C dL_isSame_318 (by decide) (fun c_318 => absurd ((nI_leI (a := 4) (b := 2) (by omega) (by omega)).mp c_318) (by omega)) (fun c_318 => ?_)
  refine e_iload (j := 1) C dL_isSame_321 rfl ?_
  refine e_aload_n (j := 6) C dL_isSame_323 rfl rfl ?_
  refine e_aload (j := 9) C dL_isSame_324 rfl ?_
  refine e_iload (j := 4) C dL_isSame_326 rfl ?_
  refine e_iload (j := 0) C dL_isSame_328 rfl ?_
  refine e_cS (nA := 4) C (L_raised hl hk (g := 2) (by decide)) rfl mw_270 mw_268 mw_269 mw_2 (by decide +kernel) (by decide) rfl rfl (Nat.le_of_ble_eq_true rfl) dL_isSame_330 (Nat.le_of_ble_eq_true rfl) (Nat.le_of_ble_eq_true rfl) ?_
  refine e_iadd C dL_isSame_333 ?_
  refine e_topi (fun x9_334_2 ex9_334_2 => ?_)
  refine e_istore (ls2 := [(9, .int x9_334_2), (10, .int 2), (8, .int 1), (7, .int (nI g)), (6, .int (nI k)), (0, .ref (ρ 0)), (1, .ref (ρ 9)), (2, .ref (ρ 10)), (3, .ref (ρ 11)), (4, .ref (ρ 12)), (5, .int (nI z))]) C hnL dL_isSame_334 (by decide) rfl ?_
  refine e_iinc (j := 1) (v := (nI (3))) (ls2 := [(10, .int 3), (9, .int x9_334_2), (8, .int 1), (7, .int (nI g)), (6, .int (nI k)), (0, .ref (ρ 0)), (1, .ref (ρ 9)), (2, .ref (ρ 10)), (3, .ref (ρ 11)), (4, .ref (ρ 12)), (5, .int (nI z))]) C hnL dL_isSame_336 rfl (nI_add (2) 1) (by decide) rfl ?_
  refine e_goto (tgt := 315) C dL_isSame_339 (by decide) ?_
  refine e_iload (j := 0) C dL_isSame_315 rfl ?_
  refine e_iconst (v := 4) C dL_isSame_317 (by decide) ?_
  refine e_icmp_ge (tgt := 342) C dL_isSame_318 (by decide) (fun c_318 => absurd ((nI_leI (a := 4) (b := 3) (by omega) (by omega)).mp c_318) (by omega)) (fun c_318 => ?_)
  refine e_iload (j := 1) C dL_isSame_321 rfl ?_
  refine e_aload_n (j := 6) C dL_isSame_323 rfl rfl ?_
  refine e_aload (j := 9) C dL_isSame_324 rfl ?_
  refine e_iload (j := 4) C dL_isSame_326 rfl ?_
  refine e_iload (j := 0) C dL_isSame_328 rfl ?_
  refine e_cS (nA := 4) C (L_raised hl hk (g := 3) (by decide)) rfl mw_270 mw_268 mw_269 mw_2 (by decide +kernel) (by decide) rfl rfl (Nat.le_of_ble_eq_true rfl) dL_isSame_330 (Nat.le_of_ble_eq_true rfl) (Nat.le_of_ble_eq_true rfl) ?_
  refine e_iadd C dL_isSame_333 ?_
  refine e_topi (fun x9_334_3 ex9_334_3 => ?_)
  refine e_istore (ls2 := [(9, .int x9_334_3), (10, .int 3), (8, .int 1), (7, .int (nI g)), (6, .int (nI k)), (0, .ref (ρ 0)), (1, .ref (ρ 9)), (2, .ref (ρ 10)), (3, .ref (ρ 11)), (4, .ref (ρ 12)), (5, .int (nI z))]) C hnL dL_isSame_334 (by decide) rfl ?_
  refine e_iinc (j := 1) (v := (nI (4))) (ls2 := [(10, .int 4), (9, .int x9_334_3), (8, .int 1), (7, .int (nI g)), (6, .int (nI k)), (0, .ref (ρ 0)), (1, .ref (ρ 9)), (2, .ref (ρ 10)), (3, .ref (ρ 11)), (4, .ref (ρ 12)), (5, .int (nI z))]) C hnL dL_isSame_336 rfl (nI_add (3) 1) (by decide) rfl ?_
  refine e_goto (tgt := 315) C dL_isSame_339 (by decide) ?_
  refine e_iload (j := 0) C dL_isSame_315 rfl ?_
  refine e_iconst (v := 4) C dL_isSame_317 (by decide) ?_
  refine e_icmp_ge (tgt := 342) C dL_isSame_318 (by decide) (fun c_318 => ?_) (fun c_318 => absurd ((nI_leI (a := 4) (b := 4) (by omega) (by omega)).mpr (by omega)) c_318)
  have hCO : coL M k = x9_334_3 := by rw [ex9_334_3, ex9_334_2, ex9_334_1, ex9_334]; rfl
  refine e_iload (j := 2) C dL_isSame_342 rfl ?_
  refine e_if_eq (tgt := 373) C dL_isSame_344 (by decide) (fun c_344 => absurd ((nI_eq (a := 1) (b := 0) (by omega) (by omega)).mp c_344) (by omega)) (fun c_344 => ?_)
  refine e_aload_n (j := 5) C dL_isSame_347 rfl rfl ?_
  refine e_iload (j := 4) C dL_isSame_348 rfl ?_
  refine e_cV (i := 0) (nA := 1) (Cn := RX2) C (c_X2_baskets hl hk (by omega)) rfl (cnt_fix (by decide)) (fun _ => rfl) rfl rfl mw_480 mw_477 mw_478 mw_479 mw_12 (by decide +kernel) (by decide) rfl rfl (Nat.le_of_ble_eq_true rfl) dL_isSame_350 (Nat.le_of_ble_eq_true rfl) (Nat.le_of_ble_eq_true rfl) ?_
  refine e_aload_n (j := 6) C dL_isSame_353 rfl rfl ?_
  refine e_bipush (v := 12) C dL_isSame_354 (by decide) ?_
  refine e_iload (j := 4) C dL_isSame_356 rfl ?_
  refine e_imulN 12 k (12 * k) C rfl rfl rfl dL_isSame_358 ?_
  refine e_bipush (v := 7) C dL_isSame_359 (by decide) ?_
  refine e_iaddN (12 * k) 7 (12 * k + 7) C rfl rfl rfl dL_isSame_361 ?_
  refine e_ialdN (12 * k + 7) C (cnt_fix (by decide)) (fun _ => rfl) rfl (by omega) (by decide) dL_isSame_362 ?_
  refine e_iload (j := 1) C dL_isSame_363 rfl ?_
  refine e_idiv C dL_isSame_365 (fun q => hc (hCO.trans q)) ?_
  refine e_icmp_ne (tgt := 373) C dL_isSame_366 (by decide) (fun c_366 => absurd (by rw [← hCO]; exact h10) c_366) (fun c_366 => ?_)
  refine e_iconst (v := 1) C dL_isSame_369 (by decide) ?_
  refine e_goto (tgt := 374) C dL_isSame_370 (by decide) ?_
  exact e_zret C rfl rfl (Nat.le_of_ble_eq_true rfl) (Nat.le_of_ble_eq_true rfl) dL_isSame_374 (pO.mk rfl)
