/-! The reference's payday. -/
def dgN (x pl : Int32) : Nat := (x / pl - x / pl / 10 * 10).toNatClampNeg
/-- every digit is 0 to 5 -/
def edOk (x : Int32) : Prop := ∀ pl ∈ ([10000, 1000, 100, 10, 1] : List Int32), x / pl - x / pl / 10 * 10 = nI (dgN x pl) ∧ dgN x pl ≤ 5
theorem psM_9 {M : Mem} {k d : Nat} {r l : Int32} : psM M k d r l 9 = M 9 := by
  unfold psM psB psA
  rw [up_ne (by decide), up_ne (by decide)]
def psN (k : Nat) (rent : Int32) (S : Mem × Int32 × Int32) (d : Nat) : Mem × Int32 × Int32 := (psM S.1 k d rent S.2.1, psL S.1 k d rent S.2.1, psT S.1 k d rent S.2.1 S.2.2)
def psF (M : Mem) (k : Nat) : Mem × Int32 × Int32 := [dgN (M 9 20) 10000, dgN (M 9 20) 1000, dgN (M 9 20) 100, dgN (M 9 20) 10, dgN (M 9 20) 1].foldl (psN k (ps0 M k 16 k)) (ps0 M k, psW M k, 0)
def psH (N : Mem) (k : Nat) : Mem := up N 11 k (if N 11 k = 0 then 0 else if N 23 1 = 0 then 1 else if 3 * N 23 1 < N 16 k then 0 else 1)
def ps1 (N : Mem) (k : Nat) (l : Int32) : Mem := brkM N k (if N 25 0 = 0 then 0 else l)
def ps2 (N : Mem) (k : Nat) (t : Int32) : Mem := brkM N k (if N 25 1 = 0 then 0 else t)
def psE (M : Mem) (k : Nat) : Mem := ps2 (ps1 (psH (psF M k).1 k) k (psF M k).2.1) k (psF M k).2.2
def psV (M : Mem) (k : Nat) : Int32 := (psF M k).2.1
theorem sg_d {l : Launch} (hl : l.stackTraces = false) {n : Nat} {ρ : Nat → Nat} {J : Nat → Int64} {M : Mem} {k : Nat} (hk : k < 10) {o : Out} {Ξ : CT} (hnL : Ξ.2.2.2.2.2.2 = 11) (C : CxO l 1 0 0 cX3_pays RX3 (some .int) n ρ J o Ξ) {pl tk rent lf : Int32} {wg : Int64} {d : Nat} (hd : d ≤ 5)
    (hE : E Ξ n ρ J (psM M k d rent lf) 0 0 75 [(7, .int (pl / 10)), (6, .int (psT M k d rent lf tk)), (5, .int rent), (4, .int (psL M k d rent lf)), (2, .long wg), (0, .ref (ρ 9)), (1, .int (nI k))] []) :
    E Ξ n ρ J M 0 0 92 [(8, .int (nI d)), (7, .int pl), (6, .int tk), (5, .int rent), (4, .int lf), (2, .long wg), (0, .ref (ρ 9)), (1, .int (nI k))] [] := by
  match d, hd with
  | 0, _ => exact sg_0 hl hk hnL C hE
  | 1, _ => exact sg_1 hl hk hnL C hE
  | 2, _ => exact sg_2 hl hk hnL C hE
  | 3, _ => exact sg_3 hl hk hnL C hE
  | 4, _ => exact sg_4 hl hk hnL C hE
  | 5, _ => exact sg_5 hl hk hnL C hE
theorem sg_t {l : Launch} (hl : l.stackTraces = false) {n : Nat} {ρ : Nat → Nat} {J : Nat → Int64} {M : Mem} {k : Nat} (hk : k < 10) {o : Out} {Ξ : CT} (hnL : Ξ.2.2.2.2.2.2 = 11) (C : CxO l 1 0 0 cX3_pays RX3 (some .int) n ρ J o Ξ) {pl tk rent lf : Int32} {wg : Int64} (hpl : ¬ pl ≤ 0) {d : Nat} (hd : d ≤ 5) (hdg : M 9 20 / pl - M 9 20 / pl / 10 * 10 = nI d)
    (hE : E Ξ n ρ J (psM M k d rent lf) 0 0 75 [(7, .int (pl / 10)), (6, .int (psT M k d rent lf tk)), (5, .int rent), (4, .int (psL M k d rent lf)), (2, .long wg), (0, .ref (ρ 9)), (1, .int (nI k))] []) :
    E Ξ n ρ J M 0 0 75 [(7, .int pl), (6, .int tk), (5, .int rent), (4, .int lf), (2, .long wg), (0, .ref (ρ 9)), (1, .int (nI k))] [] := by
  refine e_iload (j := 0) C dX3_pays_75 rfl ?_
  refine e_if_le (tgt := 241) C dX3_pays_77 (by decide) (fun c_77 => absurd c_77 hpl) (fun c_77 => ?_)
  refine e_aload_n (j := 5) C dX3_pays_80 rfl rfl ?_
  refine e_get3 (k := 20) (ref := "ScripHollowModel") C (by decide) rfl rfl mw_72 dX3_pays_81 ?_
  refine e_iload (j := 0) C dX3_pays_84 rfl ?_
  refine e_idiv C dX3_pays_86 (fun w => hpl (by rw [w]; decide)) ?_
  refine e_bipush (v := 10) C dX3_pays_87 (by decide) ?_
  refine e_irem C dX3_pays_89 (by decide) ?_
  refine e_topi (fun x8_90 ex8_90 => ?_)
  refine e_istore (ls2 := [(8, .int x8_90), (7, .int pl), (6, .int tk), (5, .int rent), (4, .int lf), (2, .long wg), (0, .ref (ρ 9)), (1, .int (nI k))]) C hnL dX3_pays_90 (by decide) rfl ?_
  rw [hdg] at ex8_90
  subst ex8_90
  exact sg_d hl hk hnL C hd hE
set_option maxRecDepth 100000 in
set_option maxHeartbeats 4000000 in
theorem sg_e {l : Launch} (hl : l.stackTraces = false) {n : Nat} {ρ : Nat → Nat} {J : Nat → Int64} {M : Mem} {k : Nat} (hk : k < 10) {o : Out} {Ξ : CT} (hnL : Ξ.2.2.2.2.2.2 = 11) (C : CxO l 1 0 0 cX3_pays RX3 (some .int) n ρ J o Ξ) {pl tk rent lf : Int32} {wg : Int64} (ho : o = rI lf (ps2 (ps1 (psH M k) k lf) k tk)) : E Ξ n ρ J M 0 0 75 [(7, .int 0), (6, .int tk), (5, .int rent), (4, .int lf), (2, .long wg), (0, .ref (ρ 9)), (1, .int (nI k))] [] := by
  generalize hN1 : psH M k = N1 at ho
  generalize hN2 : ps1 N1 k lf = N2 at ho
  generalize hN3 : ps2 N2 k tk = N3 at ho
  have h3 : E Ξ n ρ J N2 0 0 307 [(7, .int 0), (6, .int tk), (5, .int rent), (4, .int lf), (2, .long wg), (0, .ref (ρ 9)), (1, .int (nI k))] [] := by
    refine e_aload_n (j := 5) C dX3_pays_307 rfl rfl ?_
    refine e_iload_n (j := 6) C dX3_pays_308 rfl rfl ?_
    refine e_aload_n (j := 5) C dX3_pays_309 rfl rfl ?_
    refine e_get3 (k := 16) (ref := "ScripHollowModel") C (by decide) rfl rfl mw_69 dX3_pays_310 ?_
    refine e_iconst (v := 1) C dX3_pays_313 (by decide) ?_
    refine e_zaldN 1 C (cnt_fix (by decide)) (fun _ => rfl) rfl (by decide) (by decide) dX3_pays_314 ?_
    refine e_if_eq (tgt := 323) C dX3_pays_315 (by decide) (fun c_315 => ?_) (fun c_315 => ?_)
    · refine e_iconst (v := 0) C dX3_pays_323 (by decide) ?_
      refine e_cV (i := 9) (nA := 2) (Cn := RX3) C (c_X3_breaks hl hk) rfl (cnt_fix (by decide)) (fun _ => rfl) rfl rfl mw_380 mw_377 mw_378 mw_379 mw_5 (by decide +kernel) (by decide) rfl rfl (Nat.le_of_ble_eq_true rfl) dX3_pays_324 (Nat.le_of_ble_eq_true rfl) (Nat.le_of_ble_eq_true rfl) ?_
      refine e_mem (M' := N3) (by rw [← hN3]; unfold ps2; (repeat (first | rw [if_pos c_315]))) ?_
      refine e_iload (j := 3) C dX3_pays_327 rfl ?_
      exact e_iret C rfl (Nat.le_of_ble_eq_true rfl) (Nat.le_of_ble_eq_true rfl) dX3_pays_329 (pO.mk ho)
    · refine e_iload (j := 1) C dX3_pays_318 rfl ?_
      refine e_goto (tgt := 324) C dX3_pays_320 (by decide) ?_
      refine e_cV (i := 9) (nA := 2) (Cn := RX3) C (c_X3_breaks hl hk) rfl (cnt_fix (by decide)) (fun _ => rfl) rfl rfl mw_380 mw_377 mw_378 mw_379 mw_5 (by decide +kernel) (by decide) rfl rfl (Nat.le_of_ble_eq_true rfl) dX3_pays_324 (Nat.le_of_ble_eq_true rfl) (Nat.le_of_ble_eq_true rfl) ?_
      refine e_mem (M' := N3) (by rw [← hN3]; unfold ps2; (repeat (first | rw [if_neg c_315]))) ?_
      refine e_iload (j := 3) C dX3_pays_327 rfl ?_
      exact e_iret C rfl (Nat.le_of_ble_eq_true rfl) (Nat.le_of_ble_eq_true rfl) dX3_pays_329 (pO.mk ho)
  have h2 : E Ξ n ρ J N1 0 0 287 [(7, .int 0), (6, .int tk), (5, .int rent), (4, .int lf), (2, .long wg), (0, .ref (ρ 9)), (1, .int (nI k))] [] := by
    refine e_aload_n (j := 5) C dX3_pays_287 rfl rfl ?_
    refine e_iload_n (j := 6) C dX3_pays_288 rfl rfl ?_
    refine e_aload_n (j := 5) C dX3_pays_289 rfl rfl ?_
    refine e_get3 (k := 16) (ref := "ScripHollowModel") C (by decide) rfl rfl mw_69 dX3_pays_290 ?_
    refine e_iconst (v := 0) C dX3_pays_293 (by decide) ?_
    refine e_zaldN 0 C (cnt_fix (by decide)) (fun _ => rfl) rfl (by decide) (by decide) dX3_pays_294 ?_
    refine e_if_eq (tgt := 303) C dX3_pays_295 (by decide) (fun c_295 => ?_) (fun c_295 => ?_)
    · refine e_iconst (v := 0) C dX3_pays_303 (by decide) ?_
      refine e_cV (i := 9) (nA := 2) (Cn := RX3) C (c_X3_breaks hl hk) rfl (cnt_fix (by decide)) (fun _ => rfl) rfl rfl mw_380 mw_377 mw_378 mw_379 mw_5 (by decide +kernel) (by decide) rfl rfl (Nat.le_of_ble_eq_true rfl) dX3_pays_304 (Nat.le_of_ble_eq_true rfl) (Nat.le_of_ble_eq_true rfl) ?_
      refine e_mem (M' := N2) (by rw [← hN2]; unfold ps1; (repeat (first | rw [if_pos c_295]))) ?_
      exact h3
    · refine e_iload (j := 3) C dX3_pays_298 rfl ?_
      refine e_goto (tgt := 304) C dX3_pays_300 (by decide) ?_
      refine e_cV (i := 9) (nA := 2) (Cn := RX3) C (c_X3_breaks hl hk) rfl (cnt_fix (by decide)) (fun _ => rfl) rfl rfl mw_380 mw_377 mw_378 mw_379 mw_5 (by decide +kernel) (by decide) rfl rfl (Nat.le_of_ble_eq_true rfl) dX3_pays_304 (Nat.le_of_ble_eq_true rfl) (Nat.le_of_ble_eq_true rfl) ?_
      refine e_mem (M' := N2) (by rw [← hN2]; unfold ps1; (repeat (first | rw [if_neg c_295]))) ?_
      exact h3
  refine e_iload (j := 0) C dX3_pays_75 rfl ?_
  refine e_if_le (tgt := 241) C dX3_pays_77 (by decide) (fun c_77 => ?_) (fun c_77 => absurd (by decide) c_77)
  refine e_aload_n (j := 5) C dX3_pays_241 rfl rfl ?_
  refine e_get3 (k := 2) (ref := "ScripHollowModel") C (by decide) rfl rfl mw_55 dX3_pays_242 ?_
  refine e_iload_n (j := 6) C dX3_pays_245 rfl rfl ?_
  refine e_aload_n (j := 5) C dX3_pays_246 rfl rfl ?_
  refine e_get3 (k := 2) (ref := "ScripHollowModel") C (by decide) rfl rfl mw_55 dX3_pays_247 ?_
  refine e_iload_n (j := 6) C dX3_pays_250 rfl rfl ?_
  refine e_zaldN k C (cnt_fix (by decide)) (fun _ => rfl) rfl (by omega) (by decide) dX3_pays_251 ?_
  refine e_if_eq (tgt := 285) C dX3_pays_252 (by decide) (fun c_252 => ?_) (fun c_252 => ?_)
  · refine e_iconst (v := 0) C dX3_pays_285 (by decide) ?_
    refine e_zastN k C (cnt_fix (by decide)) (fun _ _ => rfl) rfl (by omega) (by decide) (by decide) dX3_pays_286 ?_
    refine e_mem (M' := N1) (by rw [← hN1]; unfold psH; (repeat (first | rw [if_pos c_77] | rw [if_pos c_252]))) ?_
    exact h2
  · refine e_aload_n (j := 5) C dX3_pays_255 rfl rfl ?_
    refine e_get3 (k := 14) (ref := "ScripHollowModel") C (by decide) rfl rfl mw_67 dX3_pays_256 ?_
    refine e_iconst (v := 1) C dX3_pays_259 (by decide) ?_
    refine e_ialdN 1 C (cnt_fix (by decide)) (fun _ => rfl) rfl (by decide) (by decide) dX3_pays_260 ?_
    refine e_if_eq (tgt := 281) C dX3_pays_261 (by decide) (fun c_261 => ?_) (fun c_261 => ?_)
    · refine e_iconst (v := 1) C dX3_pays_281 (by decide) ?_
      refine e_goto (tgt := 286) C dX3_pays_282 (by decide) ?_
      refine e_zastN k C (cnt_fix (by decide)) (fun _ _ => rfl) rfl (by omega) (by decide) (by decide) dX3_pays_286 ?_
      refine e_mem (M' := N1) (by rw [← hN1]; unfold psH; (repeat (first | rw [if_pos c_77] | rw [if_neg c_252] | rw [if_pos c_261]))) ?_
      exact h2
    · refine e_aload_n (j := 5) C dX3_pays_264 rfl rfl ?_
      refine e_get3 (k := 7) (ref := "ScripHollowModel") C (by decide) rfl rfl mw_60 dX3_pays_265 ?_
      refine e_iload_n (j := 6) C dX3_pays_268 rfl rfl ?_
      refine e_ialdN k C (cnt_fix (by decide)) (fun _ => rfl) rfl (by omega) (by decide) dX3_pays_269 ?_
      refine e_iconst (v := 3) C dX3_pays_270 (by decide) ?_
      refine e_aload_n (j := 5) C dX3_pays_271 rfl rfl ?_
      refine e_get3 (k := 14) (ref := "ScripHollowModel") C (by decide) rfl rfl mw_67 dX3_pays_272 ?_
      refine e_iconst (v := 1) C dX3_pays_275 (by decide) ?_
      refine e_ialdN 1 C (cnt_fix (by decide)) (fun _ => rfl) rfl (by decide) (by decide) dX3_pays_276 ?_
      refine e_imul C dX3_pays_277 ?_
      refine e_icmp_gt (tgt := 285) C dX3_pays_278 (by decide) (fun c_278 => ?_) (fun c_278 => ?_)
      · refine e_iconst (v := 0) C dX3_pays_285 (by decide) ?_
        refine e_zastN k C (cnt_fix (by decide)) (fun _ _ => rfl) rfl (by omega) (by decide) (by decide) dX3_pays_286 ?_
        refine e_mem (M' := N1) (by rw [← hN1]; unfold psH; (repeat (first | rw [if_pos c_77] | rw [if_neg c_252] | rw [if_neg c_261] | rw [if_pos c_278]))) ?_
        exact h2
      · refine e_iconst (v := 1) C dX3_pays_281 (by decide) ?_
        refine e_goto (tgt := 286) C dX3_pays_282 (by decide) ?_
        refine e_zastN k C (cnt_fix (by decide)) (fun _ _ => rfl) rfl (by omega) (by decide) (by decide) dX3_pays_286 ?_
        refine e_mem (M' := N1) (by rw [← hN1]; unfold psH; (repeat (first | rw [if_pos c_77] | rw [if_neg c_252] | rw [if_neg c_261] | rw [if_neg c_278]))) ?_
        exact h2
set_option maxRecDepth 100000 in
set_option maxHeartbeats 4000000 in
theorem c_X3_pays {l : Launch} (hl : l.stackTraces = false) {n : Nat} {ρ : Nat → Nat} {J : Nat → Int64} {M : Mem} {k : Nat} (hk : k < 10) (he : edOk (M 9 20)) : CtO l yX3_pays cX3_pays 11 (some .int) 1 0 0 n ρ J M [.ref (ρ 9), .int (nI k)] (rI (psV M k) (psE M k)) := by
  refine CtO.of hl (by decide +kernel) (Nat.le_of_ble_eq_true rfl) (fun Ξ hnL C => ?_)
  show E Ξ n ρ J M 0 0 0 [(0, .ref (ρ 9)), (1, .int (nI k))] []
  refine e_aload_n (j := 0) C dX3_pays_0 rfl rfl ?_
  refine e_get3 (k := 4) (ref := "ScripHollowModel") C (by decide) rfl rfl mw_57 dX3_pays_1 ?_
  refine e_iload_n (j := 1) C dX3_pays_4 rfl rfl ?_
  refine e_ialdN k C (cnt_fix (by decide)) (fun _ => rfl) rfl (by omega) (by decide) dX3_pays_5 ?_
  refine e_i2l C dX3_pays_6 ?_
  refine e_aload_n (j := 0) C dX3_pays_7 rfl rfl ?_
  refine e_get3 (k := 14) (ref := "ScripHollowModel") C (by decide) rfl rfl mw_67 dX3_pays_8 ?_
  refine e_iconst (v := 0) C dX3_pays_11 (by decide) ?_
  refine e_ialdN 0 C (cnt_fix (by decide)) (fun _ => rfl) rfl (by decide) (by decide) dX3_pays_12 ?_
  refine e_i2l C dX3_pays_13 ?_
  refine e_lmul C dX3_pays_14 ?_
  refine e_ldc2 (v := 10) C dX3_pays_15 mw_372 ?_
  refine e_ldiv C dX3_pays_18 (by decide) ?_
  refine e_topl (fun x2_19 ex2_19 => ?_)
  refine e_lstore_n (ls2 := [(2, .long x2_19), (0, .ref (ρ 9)), (1, .int (nI k))]) C hnL dX3_pays_19 rfl (by decide) rfl ?_
  refine e_lload_n (j := 0) C dX3_pays_20 rfl rfl ?_
  refine e_l2i C dX3_pays_21 ?_
  refine e_topi (fun x4_22 ex4_22 => ?_)
  refine e_istore (ls2 := [(4, .int x4_22), (2, .long x2_19), (0, .ref (ρ 9)), (1, .int (nI k))]) C hnL dX3_pays_22 (by decide) rfl ?_
  refine e_aload_n (j := 2) C dX3_pays_24 rfl rfl ?_
  refine e_get3 (k := 4) (ref := "ScripHollowModel") C (by decide) rfl rfl mw_57 dX3_pays_25 ?_
  refine e_iload_n (j := 3) C dX3_pays_28 rfl rfl ?_
  refine e_iconst (v := 0) C dX3_pays_29 (by decide) ?_
  refine e_iastN k C (cnt_fix (by decide)) (fun _ _ => rfl) rfl (by omega) (by decide) dX3_pays_30 ?_
  refine e_aload_n (j := 2) C dX3_pays_31 rfl rfl ?_
  refine e_get3 (k := 7) (ref := "ScripHollowModel") C (by decide) rfl rfl mw_60 dX3_pays_32 ?_
  refine e_iload_n (j := 3) C dX3_pays_35 rfl rfl ?_
  refine e_ialdN k C (cnt_fix (by decide)) (fun _ => rfl) rfl (by omega) (by decide) dX3_pays_36 ?_
  refine e_aload_n (j := 2) C dX3_pays_37 rfl rfl ?_
  refine e_get3 (k := 2) (ref := "ScripHollowModel") C (by decide) rfl rfl mw_55 dX3_pays_38 ?_
  refine e_iload_n (j := 3) C dX3_pays_41 rfl rfl ?_
  refine e_zaldN k C (cnt_fix (by decide)) (fun _ => rfl) rfl (by omega) (by decide) dX3_pays_42 ?_
  refine e_if_eq (tgt := 55) C dX3_pays_43 (by decide) (fun c_43 => ?_) (fun c_43 => ?_)
  · refine e_iconst (v := 0) C dX3_pays_55 (by decide) ?_
    refine e_iadd C dX3_pays_56 ?_
    refine e_topi (fun x5_57 ex5_57 => ?_)
    refine e_istore (ls2 := [(5, .int x5_57), (4, .int x4_22), (2, .long x2_19), (0, .ref (ρ 9)), (1, .int (nI k))]) C hnL dX3_pays_57 (by decide) rfl ?_
    refine e_aload_n (j := 3) C dX3_pays_59 rfl rfl ?_
    refine e_get3 (k := 7) (ref := "ScripHollowModel") C (by decide) rfl rfl mw_60 dX3_pays_60 ?_
    refine e_iload_n (j := 4) C dX3_pays_63 rfl rfl ?_
    refine e_iload (j := 0) C dX3_pays_64 rfl ?_
    refine e_iastN k C (cnt_fix (by decide)) (fun _ _ => rfl) rfl (by omega) (by decide) dX3_pays_66 ?_
    refine e_iconst (v := 0) C dX3_pays_67 (by decide) ?_
    refine e_istore (ls2 := [(6, .int 0), (5, .int x5_57), (4, .int x4_22), (2, .long x2_19), (0, .ref (ρ 9)), (1, .int (nI k))]) C hnL dX3_pays_68 (by decide) rfl ?_
    refine e_sipush (v := 10000) C dX3_pays_70 (by decide) ?_
    refine e_istore (ls2 := [(7, .int 10000), (6, .int 0), (5, .int x5_57), (4, .int x4_22), (2, .long x2_19), (0, .ref (ρ 9)), (1, .int (nI k))]) C hnL dX3_pays_73 (by decide) rfl ?_
    refine e_mem (M' := ps0 M k) (by subst ex5_57; unfold ps0 psR; (repeat (first | rw [if_pos c_43]))) ?_
    have he5 : x5_57 = ps0 M k 16 k := by subst ex5_57; unfold ps0 psR; rw [up_at, if_pos rfl]; (repeat (first | rw [if_pos c_43]))
    have he4 : x4_22 = psW M k := by rw [ex4_22, ex2_19]; rfl
    rw [he5, he4]
    clear he5 he4
    refine e_sub [0, 1, 2, 3, 4, 5, 6] rfl ?_
    have h9 : ps0 M k 9 = M 9 := by unfold ps0; rw [up_ne (by decide), up_ne (by decide)]
    have hO : rI (psV M k) (psE M k) = rI (psF M k).2.1 (ps2 (ps1 (psH (psF M k).1 k) k (psF M k).2.1) k (psF M k).2.2) := rfl
    rw [hO] at C
    clear hO
    unfold psF at C
    rw [← h9] at C he
    simp only [List.foldl_cons, List.foldl_nil] at C
    generalize ps0 M k = N0 at C he ⊢
    generalize N0 16 k = rent at C ⊢
    generalize psW M k = lf at C ⊢
    refine sg_t hl hk hnL C (by decide) (he 10000 (by decide)).2 (by exact (he 10000 (by decide)).1) ?_
    rw [show (10000 : Int32) / 10 = 1000 by decide +kernel]
    obtain ⟨A1, hA1⟩ : ∃ z, z = psN k rent (N0, lf, 0) (dgN (N0 9 20) 10000) := ⟨_, rfl⟩
    rw [← hA1] at C
    have hp1 : (psM N0 k (dgN (N0 9 20) 10000) rent lf, psL N0 k (dgN (N0 9 20) 10000) rent lf, psT N0 k (dgN (N0 9 20) 10000) rent lf 0) = A1 := hA1.symm
    have h1 : A1.1 9 = N0 9 := by rw [← hp1]; exact (show psM N0 k (dgN (N0 9 20) 10000) rent lf 9 = N0 9 from psM_9)
    rw [show psM N0 k (dgN (N0 9 20) 10000) rent lf = A1.1 by rw [← hp1], show psL N0 k (dgN (N0 9 20) 10000) rent lf = A1.2.1 by rw [← hp1], show psT N0 k (dgN (N0 9 20) 10000) rent lf 0 = A1.2.2 by rw [← hp1]]
    refine sg_t hl hk hnL C (by decide) (he 1000 (by decide)).2 (by rw [h1]; exact (he 1000 (by decide)).1) ?_
    rw [show (1000 : Int32) / 10 = 100 by decide +kernel]
    obtain ⟨A2, hA2⟩ : ∃ z, z = psN k rent A1 (dgN (N0 9 20) 1000) := ⟨_, rfl⟩
    rw [← hA2] at C
    have hp2 : (psM A1.1 k (dgN (N0 9 20) 1000) rent A1.2.1, psL A1.1 k (dgN (N0 9 20) 1000) rent A1.2.1, psT A1.1 k (dgN (N0 9 20) 1000) rent A1.2.1 A1.2.2) = A2 := hA2.symm
    have h2 : A2.1 9 = N0 9 := by rw [← hp2]; exact (show psM A1.1 k (dgN (N0 9 20) 1000) rent A1.2.1 9 = A1.1 9 from psM_9).trans h1
    rw [show psM A1.1 k (dgN (N0 9 20) 1000) rent A1.2.1 = A2.1 by rw [← hp2], show psL A1.1 k (dgN (N0 9 20) 1000) rent A1.2.1 = A2.2.1 by rw [← hp2], show psT A1.1 k (dgN (N0 9 20) 1000) rent A1.2.1 A1.2.2 = A2.2.2 by rw [← hp2]]
    refine sg_t hl hk hnL C (by decide) (he 100 (by decide)).2 (by rw [h2]; exact (he 100 (by decide)).1) ?_
    rw [show (100 : Int32) / 10 = 10 by decide +kernel]
    obtain ⟨A3, hA3⟩ : ∃ z, z = psN k rent A2 (dgN (N0 9 20) 100) := ⟨_, rfl⟩
    rw [← hA3] at C
    have hp3 : (psM A2.1 k (dgN (N0 9 20) 100) rent A2.2.1, psL A2.1 k (dgN (N0 9 20) 100) rent A2.2.1, psT A2.1 k (dgN (N0 9 20) 100) rent A2.2.1 A2.2.2) = A3 := hA3.symm
    have h3 : A3.1 9 = N0 9 := by rw [← hp3]; exact (show psM A2.1 k (dgN (N0 9 20) 100) rent A2.2.1 9 = A2.1 9 from psM_9).trans h2
    rw [show psM A2.1 k (dgN (N0 9 20) 100) rent A2.2.1 = A3.1 by rw [← hp3], show psL A2.1 k (dgN (N0 9 20) 100) rent A2.2.1 = A3.2.1 by rw [← hp3], show psT A2.1 k (dgN (N0 9 20) 100) rent A2.2.1 A2.2.2 = A3.2.2 by rw [← hp3]]
    refine sg_t hl hk hnL C (by decide) (he 10 (by decide)).2 (by rw [h3]; exact (he 10 (by decide)).1) ?_
    rw [show (10 : Int32) / 10 = 1 by decide +kernel]
    obtain ⟨A4, hA4⟩ : ∃ z, z = psN k rent A3 (dgN (N0 9 20) 10) := ⟨_, rfl⟩
    rw [← hA4] at C
    have hp4 : (psM A3.1 k (dgN (N0 9 20) 10) rent A3.2.1, psL A3.1 k (dgN (N0 9 20) 10) rent A3.2.1, psT A3.1 k (dgN (N0 9 20) 10) rent A3.2.1 A3.2.2) = A4 := hA4.symm
    have h4 : A4.1 9 = N0 9 := by rw [← hp4]; exact (show psM A3.1 k (dgN (N0 9 20) 10) rent A3.2.1 9 = A3.1 9 from psM_9).trans h3
    rw [show psM A3.1 k (dgN (N0 9 20) 10) rent A3.2.1 = A4.1 by rw [← hp4], show psL A3.1 k (dgN (N0 9 20) 10) rent A3.2.1 = A4.2.1 by rw [← hp4], show psT A3.1 k (dgN (N0 9 20) 10) rent A3.2.1 A3.2.2 = A4.2.2 by rw [← hp4]]
    refine sg_t hl hk hnL C (by decide) (he 1 (by decide)).2 (by rw [h4]; exact (he 1 (by decide)).1) ?_
    rw [show (1 : Int32) / 10 = 0 by decide +kernel]
    obtain ⟨A5, hA5⟩ : ∃ z, z = psN k rent A4 (dgN (N0 9 20) 1) := ⟨_, rfl⟩
    rw [← hA5] at C
    have hp5 : (psM A4.1 k (dgN (N0 9 20) 1) rent A4.2.1, psL A4.1 k (dgN (N0 9 20) 1) rent A4.2.1, psT A4.1 k (dgN (N0 9 20) 1) rent A4.2.1 A4.2.2) = A5 := hA5.symm
    have h5 : A5.1 9 = N0 9 := by rw [← hp5]; exact (show psM A4.1 k (dgN (N0 9 20) 1) rent A4.2.1 9 = A4.1 9 from psM_9).trans h4
    rw [show psM A4.1 k (dgN (N0 9 20) 1) rent A4.2.1 = A5.1 by rw [← hp5], show psL A4.1 k (dgN (N0 9 20) 1) rent A4.2.1 = A5.2.1 by rw [← hp5], show psT A4.1 k (dgN (N0 9 20) 1) rent A4.2.1 A4.2.2 = A5.2.2 by rw [← hp5]]
    exact sg_e (pl := 0) hl hk hnL C rfl
  · refine e_aload_n (j := 2) C dX3_pays_46 rfl rfl ?_
    refine e_get3 (k := 14) (ref := "ScripHollowModel") C (by decide) rfl rfl mw_67 dX3_pays_47 ?_
    refine e_iconst (v := 1) C dX3_pays_50 (by decide) ?_
    refine e_ialdN 1 C (cnt_fix (by decide)) (fun _ => rfl) rfl (by decide) (by decide) dX3_pays_51 ?_
    refine e_goto (tgt := 56) C dX3_pays_52 (by decide) ?_
    refine e_iadd C dX3_pays_56 ?_
    refine e_topi (fun x5_57 ex5_57 => ?_)
    refine e_istore (ls2 := [(5, .int x5_57), (4, .int x4_22), (2, .long x2_19), (0, .ref (ρ 9)), (1, .int (nI k))]) C hnL dX3_pays_57 (by decide) rfl ?_
    refine e_aload_n (j := 3) C dX3_pays_59 rfl rfl ?_
    refine e_get3 (k := 7) (ref := "ScripHollowModel") C (by decide) rfl rfl mw_60 dX3_pays_60 ?_
    refine e_iload_n (j := 4) C dX3_pays_63 rfl rfl ?_
    refine e_iload (j := 0) C dX3_pays_64 rfl ?_
    refine e_iastN k C (cnt_fix (by decide)) (fun _ _ => rfl) rfl (by omega) (by decide) dX3_pays_66 ?_
    refine e_iconst (v := 0) C dX3_pays_67 (by decide) ?_
    refine e_istore (ls2 := [(6, .int 0), (5, .int x5_57), (4, .int x4_22), (2, .long x2_19), (0, .ref (ρ 9)), (1, .int (nI k))]) C hnL dX3_pays_68 (by decide) rfl ?_
    refine e_sipush (v := 10000) C dX3_pays_70 (by decide) ?_
    refine e_istore (ls2 := [(7, .int 10000), (6, .int 0), (5, .int x5_57), (4, .int x4_22), (2, .long x2_19), (0, .ref (ρ 9)), (1, .int (nI k))]) C hnL dX3_pays_73 (by decide) rfl ?_
    refine e_mem (M' := ps0 M k) (by subst ex5_57; unfold ps0 psR; (repeat (first | rw [if_neg c_43]))) ?_
    have he5 : x5_57 = ps0 M k 16 k := by subst ex5_57; unfold ps0 psR; rw [up_at, if_pos rfl]; (repeat (first | rw [if_neg c_43]))
    have he4 : x4_22 = psW M k := by rw [ex4_22, ex2_19]; rfl
    rw [he5, he4]
    clear he5 he4
    refine e_sub [0, 1, 2, 3, 4, 5, 6] rfl ?_
    have h9 : ps0 M k 9 = M 9 := by unfold ps0; rw [up_ne (by decide), up_ne (by decide)]
    have hO : rI (psV M k) (psE M k) = rI (psF M k).2.1 (ps2 (ps1 (psH (psF M k).1 k) k (psF M k).2.1) k (psF M k).2.2) := rfl
    rw [hO] at C
    clear hO
    unfold psF at C
    rw [← h9] at C he
    simp only [List.foldl_cons, List.foldl_nil] at C
    generalize ps0 M k = N0 at C he ⊢
    generalize N0 16 k = rent at C ⊢
    generalize psW M k = lf at C ⊢
    refine sg_t hl hk hnL C (by decide) (he 10000 (by decide)).2 (by exact (he 10000 (by decide)).1) ?_
    rw [show (10000 : Int32) / 10 = 1000 by decide +kernel]
    obtain ⟨A1, hA1⟩ : ∃ z, z = psN k rent (N0, lf, 0) (dgN (N0 9 20) 10000) := ⟨_, rfl⟩
    rw [← hA1] at C
    have hp1 : (psM N0 k (dgN (N0 9 20) 10000) rent lf, psL N0 k (dgN (N0 9 20) 10000) rent lf, psT N0 k (dgN (N0 9 20) 10000) rent lf 0) = A1 := hA1.symm
    have h1 : A1.1 9 = N0 9 := by rw [← hp1]; exact (show psM N0 k (dgN (N0 9 20) 10000) rent lf 9 = N0 9 from psM_9)
    rw [show psM N0 k (dgN (N0 9 20) 10000) rent lf = A1.1 by rw [← hp1], show psL N0 k (dgN (N0 9 20) 10000) rent lf = A1.2.1 by rw [← hp1], show psT N0 k (dgN (N0 9 20) 10000) rent lf 0 = A1.2.2 by rw [← hp1]]
    refine sg_t hl hk hnL C (by decide) (he 1000 (by decide)).2 (by rw [h1]; exact (he 1000 (by decide)).1) ?_
    rw [show (1000 : Int32) / 10 = 100 by decide +kernel]
    obtain ⟨A2, hA2⟩ : ∃ z, z = psN k rent A1 (dgN (N0 9 20) 1000) := ⟨_, rfl⟩
    rw [← hA2] at C
    have hp2 : (psM A1.1 k (dgN (N0 9 20) 1000) rent A1.2.1, psL A1.1 k (dgN (N0 9 20) 1000) rent A1.2.1, psT A1.1 k (dgN (N0 9 20) 1000) rent A1.2.1 A1.2.2) = A2 := hA2.symm
    have h2 : A2.1 9 = N0 9 := by rw [← hp2]; exact (show psM A1.1 k (dgN (N0 9 20) 1000) rent A1.2.1 9 = A1.1 9 from psM_9).trans h1
    rw [show psM A1.1 k (dgN (N0 9 20) 1000) rent A1.2.1 = A2.1 by rw [← hp2], show psL A1.1 k (dgN (N0 9 20) 1000) rent A1.2.1 = A2.2.1 by rw [← hp2], show psT A1.1 k (dgN (N0 9 20) 1000) rent A1.2.1 A1.2.2 = A2.2.2 by rw [← hp2]]
    refine sg_t hl hk hnL C (by decide) (he 100 (by decide)).2 (by rw [h2]; exact (he 100 (by decide)).1) ?_
    rw [show (100 : Int32) / 10 = 10 by decide +kernel]
    obtain ⟨A3, hA3⟩ : ∃ z, z = psN k rent A2 (dgN (N0 9 20) 100) := ⟨_, rfl⟩
    rw [← hA3] at C
    have hp3 : (psM A2.1 k (dgN (N0 9 20) 100) rent A2.2.1, psL A2.1 k (dgN (N0 9 20) 100) rent A2.2.1, psT A2.1 k (dgN (N0 9 20) 100) rent A2.2.1 A2.2.2) = A3 := hA3.symm
    have h3 : A3.1 9 = N0 9 := by rw [← hp3]; exact (show psM A2.1 k (dgN (N0 9 20) 100) rent A2.2.1 9 = A2.1 9 from psM_9).trans h2
    rw [show psM A2.1 k (dgN (N0 9 20) 100) rent A2.2.1 = A3.1 by rw [← hp3], show psL A2.1 k (dgN (N0 9 20) 100) rent A2.2.1 = A3.2.1 by rw [← hp3], show psT A2.1 k (dgN (N0 9 20) 100) rent A2.2.1 A2.2.2 = A3.2.2 by rw [← hp3]]
    refine sg_t hl hk hnL C (by decide) (he 10 (by decide)).2 (by rw [h3]; exact (he 10 (by decide)).1) ?_
    rw [show (10 : Int32) / 10 = 1 by decide +kernel]
    obtain ⟨A4, hA4⟩ : ∃ z, z = psN k rent A3 (dgN (N0 9 20) 10) := ⟨_, rfl⟩
    rw [← hA4] at C
    have hp4 : (psM A3.1 k (dgN (N0 9 20) 10) rent A3.2.1, psL A3.1 k (dgN (N0 9 20) 10) rent A3.2.1, psT A3.1 k (dgN (N0 9 20) 10) rent A3.2.1 A3.2.2) = A4 := hA4.symm
    have h4 : A4.1 9 = N0 9 := by rw [← hp4]; exact (show psM A3.1 k (dgN (N0 9 20) 10) rent A3.2.1 9 = A3.1 9 from psM_9).trans h3
    rw [show psM A3.1 k (dgN (N0 9 20) 10) rent A3.2.1 = A4.1 by rw [← hp4], show psL A3.1 k (dgN (N0 9 20) 10) rent A3.2.1 = A4.2.1 by rw [← hp4], show psT A3.1 k (dgN (N0 9 20) 10) rent A3.2.1 A3.2.2 = A4.2.2 by rw [← hp4]]
    refine sg_t hl hk hnL C (by decide) (he 1 (by decide)).2 (by rw [h4]; exact (he 1 (by decide)).1) ?_
    rw [show (1 : Int32) / 10 = 0 by decide +kernel]
    obtain ⟨A5, hA5⟩ : ∃ z, z = psN k rent A4 (dgN (N0 9 20) 1) := ⟨_, rfl⟩
    rw [← hA5] at C
    have hp5 : (psM A4.1 k (dgN (N0 9 20) 1) rent A4.2.1, psL A4.1 k (dgN (N0 9 20) 1) rent A4.2.1, psT A4.1 k (dgN (N0 9 20) 1) rent A4.2.1 A4.2.2) = A5 := hA5.symm
    have h5 : A5.1 9 = N0 9 := by rw [← hp5]; exact (show psM A4.1 k (dgN (N0 9 20) 1) rent A4.2.1 9 = A4.1 9 from psM_9).trans h4
    rw [show psM A4.1 k (dgN (N0 9 20) 1) rent A4.2.1 = A5.1 by rw [← hp5], show psL A4.1 k (dgN (N0 9 20) 1) rent A4.2.1 = A5.2.1 by rw [← hp5], show psT A4.1 k (dgN (N0 9 20) 1) rent A4.2.1 A4.2.2 = A5.2.2 by rw [← hp5]]
    exact sg_e (pl := 0) hl hk hnL C rfl
