/-! The law's payday. -/
def plen (r : Nat) : Nat := if r = 0 then 0 else if r < 10 then 1 else if r < 100 then 2 else if r < 1000 then 3 else if r < 10000 then 4 else 5
theorem plen_le (r : Nat) : plen r ≤ 5 := by unfold plen; (repeat' split) <;> omega
def dgl (r i : Nat) : Nat := r / 10 ^ (plen r - 1 - i) % 10
def pyT (N : Mem) (k d : Nat) (l s : Int32) : Mem × Int32 × Int32 := (tkB N k d (tkT N k d l), l - tkT N k d l, s + (if nI d ≤ 2 then 0 else tkT N k d l))
def pyD (N : Mem) (k d : Nat) (l s : Int32) : Mem × Int32 × Int32 := if nI d < 3 then pyT N k d l s else if N 12 20 = 0 then pyT N k d l s else if N 12 19 &&& 2 = 0 then pyT N k d l s else (N, l, s)
def pyS (M : Mem) (k r : Nat) (l : Int32) : Nat → Mem × Int32 × Int32
  | 0 => (M, l, 0)
  | i + 1 => pyD (pyS M k r l i).1 k (dgl r i) (pyS M k r l i).2.1 (pyS M k r l i).2.2
theorem pyS_s (M : Mem) (k r : Nat) (l : Int32) (i : Nat) : pyS M k r l (i + 1) = pyD (pyS M k r l i).1 k (dgl r i) (pyS M k r l i).2.1 (pyS M k r l i).2.2 := rfl
theorem tkB_r {N : Mem} {k d : Nat} {v : Int32} {i : Nat} (h : ¬ i = 9) : tkB N k d v i = N i := by
  unfold tkB tkA; rw [up_row h, up_row h]
theorem pyD_r {N : Mem} {k d : Nat} {l s : Int32} {i : Nat} (h : ¬ i = 9) : (pyD N k d l s).1 i = N i := by
  unfold pyD pyT
  (repeat' split) <;> first | rfl | exact tkB_r h
theorem pyS_r {M : Mem} {k r : Nat} {l : Int32} {i : Nat} (h : ¬ i = 9) : ∀ j, (pyS M k r l j).1 i = M i
  | 0 => rfl
  | j + 1 => by rw [pyS_s, pyD_r h, pyS_r h j]
/-- the rent is due -/
def py0 (M : Mem) (k : Nat) : Mem := up M 9 (12 * k + 1) 0
def py1 (M : Mem) (k : Nat) : Mem := up (py0 M k) 9 (12 * k + 4) (py0 M k 9 (12 * k + 4) + (if py0 M k 9 (12 * k + 5) = 1 then py0 M k 12 1 else 0))
/-- the house -/
def pyH (N : Mem) (k : Nat) : Mem := up N 9 (12 * k + 5) (if N 12 1 ≤ 0 then N 9 (12 * k + 5) else if N 9 (12 * k + 4) ≤ 3 * N 12 1 then N 9 (12 * k + 5) else 0)
def pyQ (N : Mem) : Int32 := if N 12 20 = 1 then (if N 12 19 &&& 1 = 1 then 1 else 0) else 0
def pyA (N : Mem) (k : Nat) (l : Int32) : Mem := up N 9 (12 * k + 7) l
def pyB (N : Mem) (k : Nat) (l q : Int32) : Mem := up N 9 (12 * k + 2) (N 9 (12 * k + 2) + (if q = 0 then 0 else l))
def pyC (N : Mem) (k p : Nat) (l q : Int32) : Mem := up N 10 (12 * k + p) (N 10 (12 * k + p) + (if q = 0 then l else 0))
def pyE (N : Mem) (k : Nat) (l q : Int32) : Mem := up N 9 (12 * k + 10) (N 9 (12 * k + 10) + (if q = 0 then l else 0))
def pyF (N : Mem) (l q : Int32) : Mem := up N 12 25 (N 12 25 + (if q = 0 then l else 0))
def pyK (N : Mem) (k p : Nat) (l : Int32) : Mem := pyF (pyE (pyC (pyB (pyA N k l) k l (pyQ N)) k p l (pyQ N)) k l (pyQ N)) l (pyQ N)
def pyU (N : Mem) (l : Int32) : Int32 := if N 12 19 &&& 1 = 1 then (if l ≤ 0 then 0 else 1) else 0
def pyV (N : Mem) (s : Int32) : Int32 := if N 12 19 &&& 2 = 2 then (if s ≤ 0 then 0 else 1) else 0
def pyX (N : Mem) (u v : Int32) : Mem := up N 12 21 (N 12 21 + ((if u = 0 then 0 else 1) + (if v = 0 then 0 else 1)))
def pyY (N : Mem) (k : Nat) (l s u v : Int32) : Mem := up N 9 (12 * k + 6) (N 9 (12 * k + 6) + ((if u = 0 then 0 else l) + (if v = 0 then 0 else s)))
def pyZ (N : Mem) (k : Nat) (l s : Int32) : Mem := if N 12 20 = 0 then pyY (pyX N (pyU N l) (pyV N s)) k l s (pyU N l) (pyV N s) else N
def pyW (M : Mem) (k : Nat) : Int32 := M 9 (12 * k + 1) * M 12 0 / 10
def pyG (M : Mem) (k r : Nat) : Mem × Int32 × Int32 := pyS (py1 M k) k r (pyW M k) (plen r)
def payL (M : Mem) (k p r : Nat) : Mem := pyZ (pyK (pyH (pyG M k r).1 k) k p (pyG M k r).2.1) k (pyG M k r).2.1 (pyG M k r).2.2
set_option maxRecDepth 100000 in
set_option maxHeartbeats 1000000 in
theorem L_pay {l : Launch} (hl : l.stackTraces = false) {ρ : Nat → Nat} {J : Nat → Int64} {M : Mem} {k : Nat} (hk : k < 5) {p : Nat} (hp : p < 12) (hpd : M 12 16 = nI p) {r : Nat} (hr : M 12 15 = nI r) (hr2 : r < 100000) (hdg : ∀ i, i < plen r → dgl r i ≤ 5) : CtO l yL_pay cL_pay 12 (some .int) 1 0 0 5 ρ J M [.ref (ρ 9), .ref (ρ 10), .ref (ρ 12), .int (nI k)] (rI (pyG M k r).2.1 (payL M k p r)) := by
  refine CtO.of hl (by decide +kernel) (Nat.le_of_ble_eq_true rfl) (fun Ξ hnL C => ?_)
  show E Ξ 5 ρ J M 0 0 0 [(0, .ref (ρ 9)), (1, .ref (ρ 10)), (2, .ref (ρ 12)), (3, .int (nI k))] []
  obtain ⟨R0, hR0⟩ : ∃ z, z = rI (pyG M k r).2.1 (payL M k p r) := ⟨_, rfl⟩
  rw [← hR0] at C
  have hpl := plen_le r
  have tail : ∀ (S : Mem × Int32 × Int32), S = pyG M k r → S.1 12 = M 12 → E Ξ 5 ρ J S.1 0 0 232 [(9, .int (nI (plen r))), (8, .int (nI (plen r))), (7, .int (nI r)), (6, .int S.2.2), (5, .int S.2.1), (4, .int (nI (12 * k))), (0, .ref (ρ 9)), (1, .ref (ρ 10)), (2, .ref (ρ 12)), (3, .int (nI k))] [] := by
    rintro ⟨N, x, y⟩ hS h12
    dsimp only at h12 ⊢
    have hR1 : R0 = rI x (pyZ (pyK (pyH N k) k p x) k x y) := by rw [hR0]; unfold payL; rw [← hS]
    refine e_aload_n (j := 6) C dL_pay_232 rfl rfl ?_
    refine e_iload (j := 5) C dL_pay_233 rfl ?_
    refine e_iconst (v := 5) C dL_pay_235 (by decide) ?_
    refine e_iaddN (12 * k) 5 (12 * k + 5) C rfl rfl rfl dL_pay_236 ?_
    refine e_aload_n (j := 8) C dL_pay_237 rfl rfl ?_
    refine e_iconst (v := 1) C dL_pay_238 (by decide) ?_
    refine e_ialdN 1 C (cnt_fix (by decide)) (fun _ => rfl) rfl (by decide) (by decide) dL_pay_239 ?_
    suffices hJ_267 : ∀ v_267 : Int32, v_267 = (if (N 12 1) ≤ 0 then (N 9 (12 * k + 5)) else (if (N 9 (12 * k + 4)) ≤ (3 * (N 12 1)) then (N 9 (12 * k + 5)) else 0)) → E Ξ 5 ρ J N 0 0 267 [(9, .int (nI (plen r))), (8, .int (nI (plen r))), (7, .int (nI r)), (6, .int y), (5, .int x), (4, .int (nI (12 * k))), (0, .ref (ρ 9)), (1, .ref (ρ 10)), (2, .ref (ρ 12)), (3, .int (nI k))] (.int v_267 :: .int (nI (12 * k + 5)) :: .ref (ρ 9) :: []) by
      refine e_if_le (tgt := 261) C dL_pay_240 (by decide) (fun c_240 => ?_) (fun c_240 => ?_)
      · refine e_aload_n (j := 6) C dL_pay_261 rfl rfl ?_
        refine e_iload (j := 5) C dL_pay_262 rfl ?_
        refine e_iconst (v := 5) C dL_pay_264 (by decide) ?_
        refine e_iaddN (12 * k) 5 (12 * k + 5) C rfl rfl rfl dL_pay_265 ?_
        refine e_ialdN (12 * k + 5) C (cnt_fix (by decide)) (fun _ => rfl) rfl (by omega) (by decide) dL_pay_266 ?_
        exact hJ_267 _ (by rw [if_pos c_240])
      · refine e_aload_n (j := 6) C dL_pay_243 rfl rfl ?_
        refine e_iload (j := 5) C dL_pay_244 rfl ?_
        refine e_iconst (v := 4) C dL_pay_246 (by decide) ?_
        refine e_iaddN (12 * k) 4 (12 * k + 4) C rfl rfl rfl dL_pay_247 ?_
        refine e_ialdN (12 * k + 4) C (cnt_fix (by decide)) (fun _ => rfl) rfl (by omega) (by decide) dL_pay_248 ?_
        refine e_iconst (v := 3) C dL_pay_249 (by decide) ?_
        refine e_aload_n (j := 8) C dL_pay_250 rfl rfl ?_
        refine e_iconst (v := 1) C dL_pay_251 (by decide) ?_
        refine e_ialdN 1 C (cnt_fix (by decide)) (fun _ => rfl) rfl (by decide) (by decide) dL_pay_252 ?_
        refine e_imul C dL_pay_253 ?_
        refine e_icmp_le (tgt := 261) C dL_pay_254 (by decide) (fun c_254 => ?_) (fun c_254 => ?_)
        · refine e_aload_n (j := 6) C dL_pay_261 rfl rfl ?_
          refine e_iload (j := 5) C dL_pay_262 rfl ?_
          refine e_iconst (v := 5) C dL_pay_264 (by decide) ?_
          refine e_iaddN (12 * k) 5 (12 * k + 5) C rfl rfl rfl dL_pay_265 ?_
          refine e_ialdN (12 * k + 5) C (cnt_fix (by decide)) (fun _ => rfl) rfl (by omega) (by decide) dL_pay_266 ?_
          exact hJ_267 _ (by rw [if_neg c_240, if_pos c_254])
        · refine e_iconst (v := 0) C dL_pay_257 (by decide) ?_
          refine e_goto (tgt := 267) C dL_pay_258 (by decide) ?_
          exact hJ_267 _ (by rw [if_neg c_240, if_neg c_254])
    intro v_267 hv_267
    refine e_iastN (12 * k + 5) C (cnt_fix (by decide)) (fun _ _ => rfl) rfl (by omega) (by decide) dL_pay_267 ?_
    refine e_topM (fun M_267 hM_267 => ?_)
    refine e_aload_n (j := 8) C dL_pay_268 rfl rfl ?_
    refine e_bipush (v := 20) C dL_pay_269 (by decide) ?_
    refine e_ialdN 20 C (cnt_fix (by decide)) (fun _ => rfl) rfl (by decide) (by decide) dL_pay_271 ?_
    refine e_iconst (v := 1) C dL_pay_272 (by decide) ?_
    suffices hJ_291 : ∀ v_291 : Int32, v_291 = (if (M_267 12 20) = 1 then (if ((M_267 12 19) &&& 1) = 1 then 1 else 0) else 0) → E Ξ 5 ρ J M_267 0 0 291 [(9, .int (nI (plen r))), (8, .int (nI (plen r))), (7, .int (nI r)), (6, .int y), (5, .int x), (4, .int (nI (12 * k))), (0, .ref (ρ 9)), (1, .ref (ρ 10)), (2, .ref (ρ 12)), (3, .int (nI k))] (.int v_291 :: []) by
      refine e_icmp_ne (tgt := 290) C dL_pay_273 (by decide) (fun c_273 => ?_) (fun c_273 => ?_)
      · refine e_iconst (v := 0) C dL_pay_290 (by decide) ?_
        exact hJ_291 _ (by rw [if_neg c_273])
      · refine e_aload_n (j := 8) C dL_pay_276 rfl rfl ?_
        refine e_bipush (v := 19) C dL_pay_277 (by decide) ?_
        refine e_ialdN 19 C (cnt_fix (by decide)) (fun _ => rfl) rfl (by decide) (by decide) dL_pay_279 ?_
        refine e_iconst (v := 1) C dL_pay_280 (by decide) ?_
        refine e_iand C dL_pay_281 ?_
        refine e_iconst (v := 1) C dL_pay_282 (by decide) ?_
        refine e_icmp_ne (tgt := 290) C dL_pay_283 (by decide) (fun c_283 => ?_) (fun c_283 => ?_)
        · refine e_iconst (v := 0) C dL_pay_290 (by decide) ?_
          exact hJ_291 _ (by rw [if_pos c_273, if_neg c_283])
        · refine e_iconst (v := 1) C dL_pay_286 (by decide) ?_
          refine e_goto (tgt := 291) C dL_pay_287 (by decide) ?_
          exact hJ_291 _ (by rw [if_pos c_273, if_pos c_283])
    intro v_291 hv_291
    refine e_istore (ls2 := [(9, .int v_291), (8, .int (nI (plen r))), (7, .int (nI r)), (6, .int y), (5, .int x), (4, .int (nI (12 * k))), (0, .ref (ρ 9)), (1, .ref (ρ 10)), (2, .ref (ρ 12)), (3, .int (nI k))]) C hnL dL_pay_291 (by decide) rfl ?_
    refine e_aload_n (j := 6) C dL_pay_293 rfl rfl ?_
    refine e_iload (j := 5) C dL_pay_294 rfl ?_
    refine e_bipush (v := 7) C dL_pay_296 (by decide) ?_
    refine e_iaddN (12 * k) 7 (12 * k + 7) C rfl rfl rfl dL_pay_298 ?_
    refine e_iload (j := 4) C dL_pay_299 rfl ?_
    refine e_iastN (12 * k + 7) C (cnt_fix (by decide)) (fun _ _ => rfl) rfl (by omega) (by decide) dL_pay_301 ?_
    refine e_topM (fun M_301 hM_301 => ?_)
    refine e_aload_n (j := 6) C dL_pay_302 rfl rfl ?_
    refine e_iload (j := 5) C dL_pay_303 rfl ?_
    refine e_iconst (v := 2) C dL_pay_305 (by decide) ?_
    refine e_iaddN (12 * k) 2 (12 * k + 2) C rfl rfl rfl dL_pay_306 ?_
    refine e_dup2 C dL_pay_307 rfl rfl ?_
    refine e_ialdN (12 * k + 2) C (cnt_fix (by decide)) (fun _ => rfl) rfl (by omega) (by decide) dL_pay_308 ?_
    refine e_iload (j := 0) C dL_pay_309 rfl ?_
    suffices hJ_320 : ∀ v_320 : Int32, v_320 = (if v_291 = 0 then 0 else x) → E Ξ 5 ρ J M_301 0 0 320 [(9, .int v_291), (8, .int (nI (plen r))), (7, .int (nI r)), (6, .int y), (5, .int x), (4, .int (nI (12 * k))), (0, .ref (ρ 9)), (1, .ref (ρ 10)), (2, .ref (ρ 12)), (3, .int (nI k))] (.int v_320 :: .int (M_301 9 (12 * k + 2)) :: .int (nI (12 * k + 2)) :: .ref (ρ 9) :: []) by
      refine e_if_eq (tgt := 319) C dL_pay_311 (by decide) (fun c_311 => ?_) (fun c_311 => ?_)
      · refine e_iconst (v := 0) C dL_pay_319 (by decide) ?_
        exact hJ_320 _ (by rw [if_pos c_311])
      · refine e_iload (j := 4) C dL_pay_314 rfl ?_
        refine e_goto (tgt := 320) C dL_pay_316 (by decide) ?_
        exact hJ_320 _ (by rw [if_neg c_311])
    intro v_320 hv_320
    refine e_iadd C dL_pay_320 ?_
    refine e_iastN (12 * k + 2) C (cnt_fix (by decide)) (fun _ _ => rfl) rfl (by omega) (by decide) dL_pay_321 ?_
    refine e_topM (fun M_321 hM_321 => ?_)
    refine e_aload_n (j := 7) C dL_pay_322 rfl rfl ?_
    refine e_bipush (v := 12) C dL_pay_323 (by decide) ?_
    refine e_iload_n (j := 9) C dL_pay_325 rfl rfl ?_
    refine e_imulN 12 k (12 * k) C rfl rfl rfl dL_pay_326 ?_
    refine e_aload_n (j := 8) C dL_pay_327 rfl rfl ?_
    refine e_bipush (v := 16) C dL_pay_328 (by decide) ?_
    refine e_ialdN 16 C (cnt_fix (by decide)) (fun _ => rfl) rfl (by decide) (by decide) dL_pay_330 ?_
    rw [show M_321 12 16 = nI p by rw [hM_321, up_row (by decide), hM_301, up_row (by decide), hM_267, up_row (by decide), h12]; exact hpd]
    refine e_iaddN (12 * k) p (12 * k + p) C rfl rfl rfl dL_pay_331 ?_
    refine e_dup2 C dL_pay_332 rfl rfl ?_
    refine e_ialdN (12 * k + p) C (cnt_fix (by decide)) (fun _ => rfl) rfl (by omega) (by decide) dL_pay_333 ?_
    refine e_iload (j := 0) C dL_pay_334 rfl ?_
    suffices hJ_345 : ∀ v_345 : Int32, v_345 = (if v_291 = 0 then x else 0) → E Ξ 5 ρ J M_321 0 0 345 [(9, .int v_291), (8, .int (nI (plen r))), (7, .int (nI r)), (6, .int y), (5, .int x), (4, .int (nI (12 * k))), (0, .ref (ρ 9)), (1, .ref (ρ 10)), (2, .ref (ρ 12)), (3, .int (nI k))] (.int v_345 :: .int (M_321 10 (12 * k + p)) :: .int (nI (12 * k + p)) :: .ref (ρ 10) :: []) by
      refine e_if_eq (tgt := 343) C dL_pay_336 (by decide) (fun c_336 => ?_) (fun c_336 => ?_)
      · refine e_iload (j := 4) C dL_pay_343 rfl ?_
        exact hJ_345 _ (by rw [if_pos c_336])
      · refine e_iconst (v := 0) C dL_pay_339 (by decide) ?_
        refine e_goto (tgt := 345) C dL_pay_340 (by decide) ?_
        exact hJ_345 _ (by rw [if_neg c_336])
    intro v_345 hv_345
    refine e_iadd C dL_pay_345 ?_
    refine e_iastN (12 * k + p) C (cnt_fix (by decide)) (fun _ _ => rfl) rfl (by omega) (by decide) dL_pay_346 ?_
    refine e_topM (fun M_346 hM_346 => ?_)
    refine e_aload_n (j := 6) C dL_pay_347 rfl rfl ?_
    refine e_iload (j := 5) C dL_pay_348 rfl ?_
    refine e_bipush (v := 10) C dL_pay_350 (by decide) ?_
    refine e_iaddN (12 * k) 10 (12 * k + 10) C rfl rfl rfl dL_pay_352 ?_
    refine e_dup2 C dL_pay_353 rfl rfl ?_
    refine e_ialdN (12 * k + 10) C (cnt_fix (by decide)) (fun _ => rfl) rfl (by omega) (by decide) dL_pay_354 ?_
    refine e_iload (j := 0) C dL_pay_355 rfl ?_
    suffices hJ_366 : ∀ v_366 : Int32, v_366 = (if v_291 = 0 then x else 0) → E Ξ 5 ρ J M_346 0 0 366 [(9, .int v_291), (8, .int (nI (plen r))), (7, .int (nI r)), (6, .int y), (5, .int x), (4, .int (nI (12 * k))), (0, .ref (ρ 9)), (1, .ref (ρ 10)), (2, .ref (ρ 12)), (3, .int (nI k))] (.int v_366 :: .int (M_346 9 (12 * k + 10)) :: .int (nI (12 * k + 10)) :: .ref (ρ 9) :: []) by
      refine e_if_eq (tgt := 364) C dL_pay_357 (by decide) (fun c_357 => ?_) (fun c_357 => ?_)
      · refine e_iload (j := 4) C dL_pay_364 rfl ?_
        exact hJ_366 _ (by rw [if_pos c_357])
      · refine e_iconst (v := 0) C dL_pay_360 (by decide) ?_
        refine e_goto (tgt := 366) C dL_pay_361 (by decide) ?_
        exact hJ_366 _ (by rw [if_neg c_357])
    intro v_366 hv_366
    refine e_iadd C dL_pay_366 ?_
    refine e_iastN (12 * k + 10) C (cnt_fix (by decide)) (fun _ _ => rfl) rfl (by omega) (by decide) dL_pay_367 ?_
    refine e_topM (fun M_367 hM_367 => ?_)
    refine e_aload_n (j := 8) C dL_pay_368 rfl rfl ?_
    refine e_bipush (v := 25) C dL_pay_369 (by decide) ?_
    refine e_dup2 C dL_pay_371 rfl rfl ?_
    refine e_ialdN 25 C (cnt_fix (by decide)) (fun _ => rfl) rfl (by decide) (by decide) dL_pay_372 ?_
    refine e_iload (j := 0) C dL_pay_373 rfl ?_
    suffices hJ_384 : ∀ v_384 : Int32, v_384 = (if v_291 = 0 then x else 0) → E Ξ 5 ρ J M_367 0 0 384 [(9, .int v_291), (8, .int (nI (plen r))), (7, .int (nI r)), (6, .int y), (5, .int x), (4, .int (nI (12 * k))), (0, .ref (ρ 9)), (1, .ref (ρ 10)), (2, .ref (ρ 12)), (3, .int (nI k))] (.int v_384 :: .int (M_367 12 25) :: .int 25 :: .ref (ρ 12) :: []) by
      refine e_if_eq (tgt := 382) C dL_pay_375 (by decide) (fun c_375 => ?_) (fun c_375 => ?_)
      · refine e_iload (j := 4) C dL_pay_382 rfl ?_
        exact hJ_384 _ (by rw [if_pos c_375])
      · refine e_iconst (v := 0) C dL_pay_378 (by decide) ?_
        refine e_goto (tgt := 384) C dL_pay_379 (by decide) ?_
        exact hJ_384 _ (by rw [if_neg c_375])
    intro v_384 hv_384
    refine e_iadd C dL_pay_384 ?_
    refine e_iastN 25 C (cnt_fix (by decide)) (fun _ _ => rfl) rfl (by decide) (by decide) dL_pay_385 ?_
    refine e_topM (fun M_385 hM_385 => ?_)
    refine e_aload_n (j := 8) C dL_pay_386 rfl rfl ?_
    refine e_bipush (v := 20) C dL_pay_387 (by decide) ?_
    refine e_ialdN 20 C (cnt_fix (by decide)) (fun _ => rfl) rfl (by decide) (by decide) dL_pay_389 ?_
    refine e_if_ne (tgt := 498) C dL_pay_390 (by decide) (fun c_390 => ?_) (fun c_390 => ?_)
    · refine e_iload (j := 4) C dL_pay_498 rfl ?_
      exact e_iret C rfl (Nat.le_of_ble_eq_true rfl) (Nat.le_of_ble_eq_true rfl) dL_pay_500 (pO.mk (by rw [hR1]; unfold pyZ; subst_vars; first | rw [if_pos (by assumption)]; rfl | rw [if_neg (by assumption)]; rfl))
    · refine e_aload_n (j := 8) C dL_pay_393 rfl rfl ?_
      refine e_bipush (v := 19) C dL_pay_394 (by decide) ?_
      refine e_ialdN 19 C (cnt_fix (by decide)) (fun _ => rfl) rfl (by decide) (by decide) dL_pay_396 ?_
      refine e_iconst (v := 1) C dL_pay_397 (by decide) ?_
      refine e_iand C dL_pay_398 ?_
      refine e_iconst (v := 1) C dL_pay_399 (by decide) ?_
      suffices hJ_413 : ∀ v_413 : Int32, v_413 = (if ((M_385 12 19) &&& 1) = 1 then (if x ≤ 0 then 0 else 1) else 0) → E Ξ 5 ρ J M_385 0 0 413 [(9, .int v_291), (8, .int (nI (plen r))), (7, .int (nI r)), (6, .int y), (5, .int x), (4, .int (nI (12 * k))), (0, .ref (ρ 9)), (1, .ref (ρ 10)), (2, .ref (ρ 12)), (3, .int (nI k))] (.int v_413 :: []) by
        refine e_icmp_ne (tgt := 412) C dL_pay_400 (by decide) (fun c_400 => ?_) (fun c_400 => ?_)
        · refine e_iconst (v := 0) C dL_pay_412 (by decide) ?_
          exact hJ_413 _ (by rw [if_neg c_400])
        · refine e_iload (j := 4) C dL_pay_403 rfl ?_
          refine e_if_le (tgt := 412) C dL_pay_405 (by decide) (fun c_405 => ?_) (fun c_405 => ?_)
          · refine e_iconst (v := 0) C dL_pay_412 (by decide) ?_
            exact hJ_413 _ (by rw [if_pos c_400, if_pos c_405])
          · refine e_iconst (v := 1) C dL_pay_408 (by decide) ?_
            refine e_goto (tgt := 413) C dL_pay_409 (by decide) ?_
            exact hJ_413 _ (by rw [if_pos c_400, if_neg c_405])
      intro v_413 hv_413
      refine e_istore (ls2 := [(10, .int v_413), (9, .int v_291), (8, .int (nI (plen r))), (7, .int (nI r)), (6, .int y), (5, .int x), (4, .int (nI (12 * k))), (0, .ref (ρ 9)), (1, .ref (ρ 10)), (2, .ref (ρ 12)), (3, .int (nI k))]) C hnL dL_pay_413 (by decide) rfl ?_
      refine e_aload_n (j := 9) C dL_pay_415 rfl rfl ?_
      refine e_bipush (v := 19) C dL_pay_416 (by decide) ?_
      refine e_ialdN 19 C (cnt_fix (by decide)) (fun _ => rfl) rfl (by decide) (by decide) dL_pay_418 ?_
      refine e_iconst (v := 2) C dL_pay_419 (by decide) ?_
      refine e_iand C dL_pay_420 ?_
      refine e_iconst (v := 2) C dL_pay_421 (by decide) ?_
      suffices hJ_435 : ∀ v_435 : Int32, v_435 = (if ((M_385 12 19) &&& 2) = 2 then (if y ≤ 0 then 0 else 1) else 0) → E Ξ 5 ρ J M_385 0 0 435 [(10, .int v_413), (9, .int v_291), (8, .int (nI (plen r))), (7, .int (nI r)), (6, .int y), (5, .int x), (4, .int (nI (12 * k))), (0, .ref (ρ 9)), (1, .ref (ρ 10)), (2, .ref (ρ 12)), (3, .int (nI k))] (.int v_435 :: []) by
        refine e_icmp_ne (tgt := 434) C dL_pay_422 (by decide) (fun c_422 => ?_) (fun c_422 => ?_)
        · refine e_iconst (v := 0) C dL_pay_434 (by decide) ?_
          exact hJ_435 _ (by rw [if_neg c_422])
        · refine e_iload (j := 4) C dL_pay_425 rfl ?_
          refine e_if_le (tgt := 434) C dL_pay_427 (by decide) (fun c_427 => ?_) (fun c_427 => ?_)
          · refine e_iconst (v := 0) C dL_pay_434 (by decide) ?_
            exact hJ_435 _ (by rw [if_pos c_422, if_pos c_427])
          · refine e_iconst (v := 1) C dL_pay_430 (by decide) ?_
            refine e_goto (tgt := 435) C dL_pay_431 (by decide) ?_
            exact hJ_435 _ (by rw [if_pos c_422, if_neg c_427])
      intro v_435 hv_435
      refine e_istore (ls2 := [(11, .int v_435), (10, .int v_413), (9, .int v_291), (8, .int (nI (plen r))), (7, .int (nI r)), (6, .int y), (5, .int x), (4, .int (nI (12 * k))), (0, .ref (ρ 9)), (1, .ref (ρ 10)), (2, .ref (ρ 12)), (3, .int (nI k))]) C hnL dL_pay_435 (by decide) rfl ?_
      refine e_aload_n (j := 10) C dL_pay_437 rfl rfl ?_
      refine e_bipush (v := 21) C dL_pay_438 (by decide) ?_
      refine e_dup2 C dL_pay_440 rfl rfl ?_
      refine e_ialdN 21 C (cnt_fix (by decide)) (fun _ => rfl) rfl (by decide) (by decide) dL_pay_441 ?_
      refine e_iload (j := 1) C dL_pay_442 rfl ?_
      suffices hJ_452 : ∀ v_452 : Int32, v_452 = (if v_413 = 0 then 0 else 1) → E Ξ 5 ρ J M_385 0 0 452 [(11, .int v_435), (10, .int v_413), (9, .int v_291), (8, .int (nI (plen r))), (7, .int (nI r)), (6, .int y), (5, .int x), (4, .int (nI (12 * k))), (0, .ref (ρ 9)), (1, .ref (ρ 10)), (2, .ref (ρ 12)), (3, .int (nI k))] (.int v_452 :: .int (M_385 12 21) :: .int 21 :: .ref (ρ 12) :: []) by
        refine e_if_eq (tgt := 451) C dL_pay_444 (by decide) (fun c_444 => ?_) (fun c_444 => ?_)
        · refine e_iconst (v := 0) C dL_pay_451 (by decide) ?_
          exact hJ_452 _ (by rw [if_pos c_444])
        · refine e_iconst (v := 1) C dL_pay_447 (by decide) ?_
          refine e_goto (tgt := 452) C dL_pay_448 (by decide) ?_
          exact hJ_452 _ (by rw [if_neg c_444])
      intro v_452 hv_452
      refine e_iload (j := 0) C dL_pay_452 rfl ?_
      suffices hJ_462 : ∀ v_462 : Int32, v_462 = (if v_435 = 0 then 0 else 1) → E Ξ 5 ρ J M_385 0 0 462 [(11, .int v_435), (10, .int v_413), (9, .int v_291), (8, .int (nI (plen r))), (7, .int (nI r)), (6, .int y), (5, .int x), (4, .int (nI (12 * k))), (0, .ref (ρ 9)), (1, .ref (ρ 10)), (2, .ref (ρ 12)), (3, .int (nI k))] (.int v_462 :: .int v_452 :: .int (M_385 12 21) :: .int 21 :: .ref (ρ 12) :: []) by
        refine e_if_eq (tgt := 461) C dL_pay_454 (by decide) (fun c_454 => ?_) (fun c_454 => ?_)
        · refine e_iconst (v := 0) C dL_pay_461 (by decide) ?_
          exact hJ_462 _ (by rw [if_pos c_454])
        · refine e_iconst (v := 1) C dL_pay_457 (by decide) ?_
          refine e_goto (tgt := 462) C dL_pay_458 (by decide) ?_
          exact hJ_462 _ (by rw [if_neg c_454])
      intro v_462 hv_462
      refine e_iadd C dL_pay_462 ?_
      refine e_iadd C dL_pay_463 ?_
      refine e_iastN 21 C (cnt_fix (by decide)) (fun _ _ => rfl) rfl (by decide) (by decide) dL_pay_464 ?_
      refine e_topM (fun M_464 hM_464 => ?_)
      refine e_aload_n (j := 8) C dL_pay_465 rfl rfl ?_
      refine e_iload (j := 7) C dL_pay_466 rfl ?_
      refine e_bipush (v := 6) C dL_pay_468 (by decide) ?_
      refine e_iaddN (12 * k) 6 (12 * k + 6) C rfl rfl rfl dL_pay_470 ?_
      refine e_dup2 C dL_pay_471 rfl rfl ?_
      refine e_ialdN (12 * k + 6) C (cnt_fix (by decide)) (fun _ => rfl) rfl (by omega) (by decide) dL_pay_472 ?_
      refine e_iload (j := 1) C dL_pay_473 rfl ?_
      suffices hJ_484 : ∀ v_484 : Int32, v_484 = (if v_413 = 0 then 0 else x) → E Ξ 5 ρ J M_464 0 0 484 [(11, .int v_435), (10, .int v_413), (9, .int v_291), (8, .int (nI (plen r))), (7, .int (nI r)), (6, .int y), (5, .int x), (4, .int (nI (12 * k))), (0, .ref (ρ 9)), (1, .ref (ρ 10)), (2, .ref (ρ 12)), (3, .int (nI k))] (.int v_484 :: .int (M_464 9 (12 * k + 6)) :: .int (nI (12 * k + 6)) :: .ref (ρ 9) :: []) by
        refine e_if_eq (tgt := 483) C dL_pay_475 (by decide) (fun c_475 => ?_) (fun c_475 => ?_)
        · refine e_iconst (v := 0) C dL_pay_483 (by decide) ?_
          exact hJ_484 _ (by rw [if_pos c_475])
        · refine e_iload (j := 6) C dL_pay_478 rfl ?_
          refine e_goto (tgt := 484) C dL_pay_480 (by decide) ?_
          exact hJ_484 _ (by rw [if_neg c_475])
      intro v_484 hv_484
      refine e_iload (j := 0) C dL_pay_484 rfl ?_
      suffices hJ_495 : ∀ v_495 : Int32, v_495 = (if v_435 = 0 then 0 else y) → E Ξ 5 ρ J M_464 0 0 495 [(11, .int v_435), (10, .int v_413), (9, .int v_291), (8, .int (nI (plen r))), (7, .int (nI r)), (6, .int y), (5, .int x), (4, .int (nI (12 * k))), (0, .ref (ρ 9)), (1, .ref (ρ 10)), (2, .ref (ρ 12)), (3, .int (nI k))] (.int v_495 :: .int v_484 :: .int (M_464 9 (12 * k + 6)) :: .int (nI (12 * k + 6)) :: .ref (ρ 9) :: []) by
        refine e_if_eq (tgt := 494) C dL_pay_486 (by decide) (fun c_486 => ?_) (fun c_486 => ?_)
        · refine e_iconst (v := 0) C dL_pay_494 (by decide) ?_
          exact hJ_495 _ (by rw [if_pos c_486])
        · refine e_iload (j := 5) C dL_pay_489 rfl ?_
          refine e_goto (tgt := 495) C dL_pay_491 (by decide) ?_
          exact hJ_495 _ (by rw [if_neg c_486])
      intro v_495 hv_495
      refine e_iadd C dL_pay_495 ?_
      refine e_iadd C dL_pay_496 ?_
      refine e_iastN (12 * k + 6) C (cnt_fix (by decide)) (fun _ _ => rfl) rfl (by omega) (by decide) dL_pay_497 ?_
      refine e_topM (fun M_497 hM_497 => ?_)
      refine e_iload (j := 6) C dL_pay_498 rfl ?_
      exact e_iret C rfl (Nat.le_of_ble_eq_true rfl) (Nat.le_of_ble_eq_true rfl) dL_pay_500 (pO.mk (by rw [hR1]; unfold pyZ; subst_vars; first | rw [if_pos (by assumption)]; rfl | rw [if_neg (by assumption)]; rfl))
  have step : ∀ (N : Mem) (i : Nat) (x y : Int32), i < plen r → N 12 = M 12 → E Ξ 5 ρ J (pyD N k (dgl r i) x y).1 0 0 124 [(9, .int (nI (i + 1))), (8, .int (nI (plen r))), (7, .int (nI r)), (6, .int (pyD N k (dgl r i) x y).2.2), (5, .int (pyD N k (dgl r i) x y).2.1), (4, .int (nI (12 * k))), (0, .ref (ρ 9)), (1, .ref (ρ 10)), (2, .ref (ρ 12)), (3, .int (nI k))] [] → E Ξ 5 ρ J N 0 0 161 [(11, .int (nI i)), (10, .int (nI (r / 10 ^ (plen r - 1 - i)))), (9, .int (nI i)), (8, .int (nI (plen r))), (7, .int (nI r)), (6, .int y), (5, .int x), (4, .int (nI (12 * k))), (0, .ref (ρ 9)), (1, .ref (ρ 10)), (2, .ref (ρ 12)), (3, .int (nI k))] [] := by
    intro N i x y hi h12 hE
    have hd := hdg i hi
    have hlt : r / 10 ^ (plen r - 1 - i) ≤ r := Nat.div_le_self _ _
    obtain ⟨R1, hR1⟩ : ∃ z, z = pyD N k (dgl r i) x y := ⟨_, rfl⟩
    rw [← hR1] at hE
    unfold pyD pyT at hR1
    have hdd : r / 10 ^ (plen r - 1 - i) % 10 = dgl r i := rfl
    generalize dgl r i = d at hd hR1 hdd
    refine e_iload (j := 1) C dL_pay_161 rfl ?_
    refine e_bipush (v := 10) C dL_pay_163 (by decide) ?_
    refine e_iremN (r / 10 ^ (plen r - 1 - i)) 10 d C rfl rfl (by omega) (by omega) (by omega) hdd dL_pay_165 ?_
    refine e_istore (ls2 := [(10, .int (nI d)), (11, .int (nI i)), (9, .int (nI i)), (8, .int (nI (plen r))), (7, .int (nI r)), (6, .int y), (5, .int x), (4, .int (nI (12 * k))), (0, .ref (ρ 9)), (1, .ref (ρ 10)), (2, .ref (ρ 12)), (3, .int (nI k))]) C hnL dL_pay_166 (by decide) rfl ?_
    refine e_iload (j := 0) C dL_pay_168 rfl ?_
    refine e_iconst (v := 3) C dL_pay_170 (by decide) ?_
    refine e_icmp_lt (tgt := 190) C dL_pay_171 (by decide) (fun c_171 => ?_) (fun c_171 => ?_)
    · have n_171 : d < 3 := (nI_ltI (a := d) (b := 3) (by omega) (by omega)).mp c_171
      refine e_aload_n (j := 8) C dL_pay_190 rfl rfl ?_
      refine e_aload_n (j := 10) C dL_pay_191 rfl rfl ?_
      refine e_iload_n (j := 11) C dL_pay_192 rfl rfl ?_
      refine e_iload (j := 0) C dL_pay_193 rfl ?_
      refine e_iload (j := 6) C dL_pay_195 rfl ?_
      refine e_cS (nA := 5) C (L_take hl hk hd) rfl mw_190 mw_188 mw_189 mw_2 (by decide +kernel) (by decide) rfl rfl (Nat.le_of_ble_eq_true rfl) dL_pay_197 (Nat.le_of_ble_eq_true rfl) (Nat.le_of_ble_eq_true rfl) ?_
      refine e_topi (fun x11_200 ex11_200 => ?_)
      refine e_istore (ls2 := [(11, .int x11_200), (10, .int (nI d)), (9, .int (nI i)), (8, .int (nI (plen r))), (7, .int (nI r)), (6, .int y), (5, .int x), (4, .int (nI (12 * k))), (0, .ref (ρ 9)), (1, .ref (ρ 10)), (2, .ref (ρ 12)), (3, .int (nI k))]) C hnL dL_pay_200 (by decide) rfl ?_
      refine e_iload (j := 6) C dL_pay_202 rfl ?_
      refine e_iload (j := 0) C dL_pay_204 rfl ?_
      refine e_isub C dL_pay_206 ?_
      refine e_topi (fun x5_207 ex5_207 => ?_)
      refine e_istore (ls2 := [(5, .int x5_207), (11, .int x11_200), (10, .int (nI d)), (9, .int (nI i)), (8, .int (nI (plen r))), (7, .int (nI r)), (6, .int y), (4, .int (nI (12 * k))), (0, .ref (ρ 9)), (1, .ref (ρ 10)), (2, .ref (ρ 12)), (3, .int (nI k))]) C hnL dL_pay_207 (by decide) rfl ?_
      refine e_iload (j := 6) C dL_pay_209 rfl ?_
      refine e_iload (j := 2) C dL_pay_211 rfl ?_
      refine e_iconst (v := 2) C dL_pay_213 (by decide) ?_
      suffices hJ_223 : ∀ v_223 : Int32, v_223 = (if (nI d) ≤ 2 then 0 else x11_200) → E Ξ 5 ρ J (tkB N k d (tkT N k d x)) (0 + 0) (0 + 0) 223 [(5, .int x5_207), (11, .int x11_200), (10, .int (nI d)), (9, .int (nI i)), (8, .int (nI (plen r))), (7, .int (nI r)), (6, .int y), (4, .int (nI (12 * k))), (0, .ref (ρ 9)), (1, .ref (ρ 10)), (2, .ref (ρ 12)), (3, .int (nI k))] (.int v_223 :: .int y :: []) by
        refine e_icmp_le (tgt := 222) C dL_pay_214 (by decide) (fun c_214 => ?_) (fun c_214 => ?_)
        · have n_214 : d ≤ 2 := (nI_leI (a := d) (b := 2) (by omega) (by omega)).mp c_214
          refine e_iconst (v := 0) C dL_pay_222 (by decide) ?_
          exact hJ_223 _ (by rw [if_pos c_214])
        · have n_214 : ¬ (d ≤ 2) := fun h => c_214 ((nI_leI (a := d) (b := 2) (by omega) (by omega)).mpr h)
          refine e_iload (j := 1) C dL_pay_217 rfl ?_
          refine e_goto (tgt := 223) C dL_pay_219 (by decide) ?_
          exact hJ_223 _ (by rw [if_neg c_214])
      intro v_223 hv_223
      refine e_iadd C dL_pay_223 ?_
      refine e_topi (fun x6_224 ex6_224 => ?_)
      refine e_istore (ls2 := [(6, .int x6_224), (5, .int x5_207), (11, .int x11_200), (10, .int (nI d)), (9, .int (nI i)), (8, .int (nI (plen r))), (7, .int (nI r)), (4, .int (nI (12 * k))), (0, .ref (ρ 9)), (1, .ref (ρ 10)), (2, .ref (ρ 12)), (3, .int (nI k))]) C hnL dL_pay_224 (by decide) rfl ?_
      refine e_iinc (j := 4) (v := (nI (i + 1))) (ls2 := [(9, .int (nI (i + 1))), (6, .int x6_224), (5, .int x5_207), (11, .int x11_200), (10, .int (nI d)), (8, .int (nI (plen r))), (7, .int (nI r)), (4, .int (nI (12 * k))), (0, .ref (ρ 9)), (1, .ref (ρ 10)), (2, .ref (ρ 12)), (3, .int (nI k))]) C hnL dL_pay_226 rfl (nI_add (i) 1) (by decide) rfl ?_
      refine e_goto (tgt := 124) C dL_pay_229 (by decide) ?_
      subst_vars
      (first | rw [if_pos (by assumption)] at hE | rw [if_neg (by assumption), if_pos (by assumption)] at hE | rw [if_neg (by assumption), if_neg (by assumption), if_pos (by assumption)] at hE | rw [if_neg (by assumption), if_neg (by assumption), if_neg (by assumption)] at hE)
      exact e_sub [0, 5, 6, 1, 2, 7, 8, 9, 10, 11] rfl hE
    · have n_171 : ¬ (d < 3) := fun h => c_171 ((nI_ltI (a := d) (b := 3) (by omega) (by omega)).mpr h)
      refine e_aload_n (j := 10) C dL_pay_174 rfl rfl ?_
      refine e_bipush (v := 20) C dL_pay_175 (by decide) ?_
      refine e_ialdN 20 C (cnt_fix (by decide)) (fun _ => rfl) rfl (by decide) (by decide) dL_pay_177 ?_
      refine e_if_eq (tgt := 190) C dL_pay_178 (by decide) (fun c_178 => ?_) (fun c_178 => ?_)
      · refine e_aload_n (j := 8) C dL_pay_190 rfl rfl ?_
        refine e_aload_n (j := 10) C dL_pay_191 rfl rfl ?_
        refine e_iload_n (j := 11) C dL_pay_192 rfl rfl ?_
        refine e_iload (j := 0) C dL_pay_193 rfl ?_
        refine e_iload (j := 6) C dL_pay_195 rfl ?_
        refine e_cS (nA := 5) C (L_take hl hk hd) rfl mw_190 mw_188 mw_189 mw_2 (by decide +kernel) (by decide) rfl rfl (Nat.le_of_ble_eq_true rfl) dL_pay_197 (Nat.le_of_ble_eq_true rfl) (Nat.le_of_ble_eq_true rfl) ?_
        refine e_topi (fun x11_200 ex11_200 => ?_)
        refine e_istore (ls2 := [(11, .int x11_200), (10, .int (nI d)), (9, .int (nI i)), (8, .int (nI (plen r))), (7, .int (nI r)), (6, .int y), (5, .int x), (4, .int (nI (12 * k))), (0, .ref (ρ 9)), (1, .ref (ρ 10)), (2, .ref (ρ 12)), (3, .int (nI k))]) C hnL dL_pay_200 (by decide) rfl ?_
        refine e_iload (j := 6) C dL_pay_202 rfl ?_
        refine e_iload (j := 0) C dL_pay_204 rfl ?_
        refine e_isub C dL_pay_206 ?_
        refine e_topi (fun x5_207 ex5_207 => ?_)
        refine e_istore (ls2 := [(5, .int x5_207), (11, .int x11_200), (10, .int (nI d)), (9, .int (nI i)), (8, .int (nI (plen r))), (7, .int (nI r)), (6, .int y), (4, .int (nI (12 * k))), (0, .ref (ρ 9)), (1, .ref (ρ 10)), (2, .ref (ρ 12)), (3, .int (nI k))]) C hnL dL_pay_207 (by decide) rfl ?_
        refine e_iload (j := 6) C dL_pay_209 rfl ?_
        refine e_iload (j := 2) C dL_pay_211 rfl ?_
        refine e_iconst (v := 2) C dL_pay_213 (by decide) ?_
        suffices hJ_223 : ∀ v_223 : Int32, v_223 = (if (nI d) ≤ 2 then 0 else x11_200) → E Ξ 5 ρ J (tkB N k d (tkT N k d x)) (0 + 0) (0 + 0) 223 [(5, .int x5_207), (11, .int x11_200), (10, .int (nI d)), (9, .int (nI i)), (8, .int (nI (plen r))), (7, .int (nI r)), (6, .int y), (4, .int (nI (12 * k))), (0, .ref (ρ 9)), (1, .ref (ρ 10)), (2, .ref (ρ 12)), (3, .int (nI k))] (.int v_223 :: .int y :: []) by
          refine e_icmp_le (tgt := 222) C dL_pay_214 (by decide) (fun c_214 => ?_) (fun c_214 => ?_)
          · have n_214 : d ≤ 2 := (nI_leI (a := d) (b := 2) (by omega) (by omega)).mp c_214
            refine e_iconst (v := 0) C dL_pay_222 (by decide) ?_
            exact hJ_223 _ (by rw [if_pos c_214])
          · have n_214 : ¬ (d ≤ 2) := fun h => c_214 ((nI_leI (a := d) (b := 2) (by omega) (by omega)).mpr h)
            refine e_iload (j := 1) C dL_pay_217 rfl ?_
            refine e_goto (tgt := 223) C dL_pay_219 (by decide) ?_
            exact hJ_223 _ (by rw [if_neg c_214])
        intro v_223 hv_223
        refine e_iadd C dL_pay_223 ?_
        refine e_topi (fun x6_224 ex6_224 => ?_)
        refine e_istore (ls2 := [(6, .int x6_224), (5, .int x5_207), (11, .int x11_200), (10, .int (nI d)), (9, .int (nI i)), (8, .int (nI (plen r))), (7, .int (nI r)), (4, .int (nI (12 * k))), (0, .ref (ρ 9)), (1, .ref (ρ 10)), (2, .ref (ρ 12)), (3, .int (nI k))]) C hnL dL_pay_224 (by decide) rfl ?_
        refine e_iinc (j := 4) (v := (nI (i + 1))) (ls2 := [(9, .int (nI (i + 1))), (6, .int x6_224), (5, .int x5_207), (11, .int x11_200), (10, .int (nI d)), (8, .int (nI (plen r))), (7, .int (nI r)), (4, .int (nI (12 * k))), (0, .ref (ρ 9)), (1, .ref (ρ 10)), (2, .ref (ρ 12)), (3, .int (nI k))]) C hnL dL_pay_226 rfl (nI_add (i) 1) (by decide) rfl ?_
        refine e_goto (tgt := 124) C dL_pay_229 (by decide) ?_
        subst_vars
        (first | rw [if_pos (by assumption)] at hE | rw [if_neg (by assumption), if_pos (by assumption)] at hE | rw [if_neg (by assumption), if_neg (by assumption), if_pos (by assumption)] at hE | rw [if_neg (by assumption), if_neg (by assumption), if_neg (by assumption)] at hE)
        exact e_sub [0, 5, 6, 1, 2, 7, 8, 9, 10, 11] rfl hE
      · refine e_aload_n (j := 10) C dL_pay_181 rfl rfl ?_
        refine e_bipush (v := 19) C dL_pay_182 (by decide) ?_
        refine e_ialdN 19 C (cnt_fix (by decide)) (fun _ => rfl) rfl (by decide) (by decide) dL_pay_184 ?_
        refine e_iconst (v := 2) C dL_pay_185 (by decide) ?_
        refine e_iand C dL_pay_186 ?_
        refine e_if_ne (tgt := 226) C dL_pay_187 (by decide) (fun c_187 => ?_) (fun c_187 => ?_)
        · refine e_iinc (j := 2) (v := (nI (i + 1))) (ls2 := [(9, .int (nI (i + 1))), (10, .int (nI d)), (11, .int (nI i)), (8, .int (nI (plen r))), (7, .int (nI r)), (6, .int y), (5, .int x), (4, .int (nI (12 * k))), (0, .ref (ρ 9)), (1, .ref (ρ 10)), (2, .ref (ρ 12)), (3, .int (nI k))]) C hnL dL_pay_226 rfl (nI_add (i) 1) (by decide) rfl ?_
          refine e_goto (tgt := 124) C dL_pay_229 (by decide) ?_
          subst_vars
          (first | rw [if_pos (by assumption)] at hE | rw [if_neg (by assumption), if_pos (by assumption)] at hE | rw [if_neg (by assumption), if_neg (by assumption), if_pos (by assumption)] at hE | rw [if_neg (by assumption), if_neg (by assumption), if_neg (by assumption)] at hE)
          exact e_sub [0, 3, 4, 5, 6, 7, 8, 9, 10, 11] rfl hE
        · refine e_aload_n (j := 8) C dL_pay_190 rfl rfl ?_
          refine e_aload_n (j := 10) C dL_pay_191 rfl rfl ?_
          refine e_iload_n (j := 11) C dL_pay_192 rfl rfl ?_
          refine e_iload (j := 0) C dL_pay_193 rfl ?_
          refine e_iload (j := 6) C dL_pay_195 rfl ?_
          refine e_cS (nA := 5) C (L_take hl hk hd) rfl mw_190 mw_188 mw_189 mw_2 (by decide +kernel) (by decide) rfl rfl (Nat.le_of_ble_eq_true rfl) dL_pay_197 (Nat.le_of_ble_eq_true rfl) (Nat.le_of_ble_eq_true rfl) ?_
          refine e_topi (fun x11_200 ex11_200 => ?_)
          refine e_istore (ls2 := [(11, .int x11_200), (10, .int (nI d)), (9, .int (nI i)), (8, .int (nI (plen r))), (7, .int (nI r)), (6, .int y), (5, .int x), (4, .int (nI (12 * k))), (0, .ref (ρ 9)), (1, .ref (ρ 10)), (2, .ref (ρ 12)), (3, .int (nI k))]) C hnL dL_pay_200 (by decide) rfl ?_
          refine e_iload (j := 6) C dL_pay_202 rfl ?_
          refine e_iload (j := 0) C dL_pay_204 rfl ?_
          refine e_isub C dL_pay_206 ?_
          refine e_topi (fun x5_207 ex5_207 => ?_)
          refine e_istore (ls2 := [(5, .int x5_207), (11, .int x11_200), (10, .int (nI d)), (9, .int (nI i)), (8, .int (nI (plen r))), (7, .int (nI r)), (6, .int y), (4, .int (nI (12 * k))), (0, .ref (ρ 9)), (1, .ref (ρ 10)), (2, .ref (ρ 12)), (3, .int (nI k))]) C hnL dL_pay_207 (by decide) rfl ?_
          refine e_iload (j := 6) C dL_pay_209 rfl ?_
          refine e_iload (j := 2) C dL_pay_211 rfl ?_
          refine e_iconst (v := 2) C dL_pay_213 (by decide) ?_
          suffices hJ_223 : ∀ v_223 : Int32, v_223 = (if (nI d) ≤ 2 then 0 else x11_200) → E Ξ 5 ρ J (tkB N k d (tkT N k d x)) (0 + 0) (0 + 0) 223 [(5, .int x5_207), (11, .int x11_200), (10, .int (nI d)), (9, .int (nI i)), (8, .int (nI (plen r))), (7, .int (nI r)), (6, .int y), (4, .int (nI (12 * k))), (0, .ref (ρ 9)), (1, .ref (ρ 10)), (2, .ref (ρ 12)), (3, .int (nI k))] (.int v_223 :: .int y :: []) by
            refine e_icmp_le (tgt := 222) C dL_pay_214 (by decide) (fun c_214 => ?_) (fun c_214 => ?_)
            · have n_214 : d ≤ 2 := (nI_leI (a := d) (b := 2) (by omega) (by omega)).mp c_214
              refine e_iconst (v := 0) C dL_pay_222 (by decide) ?_
              exact hJ_223 _ (by rw [if_pos c_214])
            · have n_214 : ¬ (d ≤ 2) := fun h => c_214 ((nI_leI (a := d) (b := 2) (by omega) (by omega)).mpr h)
              refine e_iload (j := 1) C dL_pay_217 rfl ?_
              refine e_goto (tgt := 223) C dL_pay_219 (by decide) ?_
              exact hJ_223 _ (by rw [if_neg c_214])
          intro v_223 hv_223
          refine e_iadd C dL_pay_223 ?_
          refine e_topi (fun x6_224 ex6_224 => ?_)
          refine e_istore (ls2 := [(6, .int x6_224), (5, .int x5_207), (11, .int x11_200), (10, .int (nI d)), (9, .int (nI i)), (8, .int (nI (plen r))), (7, .int (nI r)), (4, .int (nI (12 * k))), (0, .ref (ρ 9)), (1, .ref (ρ 10)), (2, .ref (ρ 12)), (3, .int (nI k))]) C hnL dL_pay_224 (by decide) rfl ?_
          refine e_iinc (j := 4) (v := (nI (i + 1))) (ls2 := [(9, .int (nI (i + 1))), (6, .int x6_224), (5, .int x5_207), (11, .int x11_200), (10, .int (nI d)), (8, .int (nI (plen r))), (7, .int (nI r)), (4, .int (nI (12 * k))), (0, .ref (ρ 9)), (1, .ref (ρ 10)), (2, .ref (ρ 12)), (3, .int (nI k))]) C hnL dL_pay_226 rfl (nI_add (i) 1) (by decide) rfl ?_
          refine e_goto (tgt := 124) C dL_pay_229 (by decide) ?_
          subst_vars
          (first | rw [if_pos (by assumption)] at hE | rw [if_neg (by assumption), if_pos (by assumption)] at hE | rw [if_neg (by assumption), if_neg (by assumption), if_pos (by assumption)] at hE | rw [if_neg (by assumption), if_neg (by assumption), if_neg (by assumption)] at hE)
          exact e_sub [0, 5, 6, 1, 2, 7, 8, 9, 10, 11] rfl hE
  have div : ∀ (f : Nat) (N : Mem) (i : Nat) (x y : Int32), i + f < plen r → N 12 = M 12 → E Ξ 5 ρ J (pyD N k (dgl r i) x y).1 0 0 124 [(9, .int (nI (i + 1))), (8, .int (nI (plen r))), (7, .int (nI r)), (6, .int (pyD N k (dgl r i) x y).2.2), (5, .int (pyD N k (dgl r i) x y).2.1), (4, .int (nI (12 * k))), (0, .ref (ρ 9)), (1, .ref (ρ 10)), (2, .ref (ρ 12)), (3, .int (nI k))] [] → E Ξ 5 ρ J N 0 0 141 [(11, .int (nI (i + f))), (10, .int (nI (r / 10 ^ (plen r - 1 - (i + f))))), (9, .int (nI i)), (8, .int (nI (plen r))), (7, .int (nI r)), (6, .int y), (5, .int x), (4, .int (nI (12 * k))), (0, .ref (ρ 9)), (1, .ref (ρ 10)), (2, .ref (ρ 12)), (3, .int (nI k))] [] := by
    intro f
    induction f with
    | zero =>
      intro N i x y hi h12 hE
      have hlt : r / 10 ^ (plen r - 1 - i) ≤ r := Nat.div_le_self _ _
      refine e_iload (j := 0) C dL_pay_141 rfl ?_
      refine e_iload (j := 2) C dL_pay_143 rfl ?_
      refine e_icmp_le (tgt := 161) C dL_pay_145 (by decide) (fun c_145 => ?_) (fun c_145 => absurd ((nI_leI (a := i) (b := i) (by omega) (by omega)).mpr (by omega)) c_145)
      exact step N i x y (by omega) h12 hE
    | succ f ih =>
      intro N i x y hi h12 hE
      have hlt : r / 10 ^ (plen r - 1 - (i + f + 1)) ≤ r := Nat.div_le_self _ _
      have hq : r / 10 ^ (plen r - 1 - (i + f + 1)) / 10 = r / 10 ^ (plen r - 1 - (i + f)) := by
        rw [Nat.div_div_eq_div_mul, ← Nat.pow_succ, show (plen r - 1 - (i + f + 1)).succ = plen r - 1 - (i + f) by omega]
      refine e_iload (j := 0) C dL_pay_141 rfl ?_
      refine e_iload (j := 2) C dL_pay_143 rfl ?_
      refine e_icmp_le (tgt := 161) C dL_pay_145 (by decide) (fun c_145 => absurd ((nI_leI (a := (i + f + 1)) (b := i) (by omega) (by omega)).mp c_145) (by omega)) (fun c_145 => ?_)
      refine e_iload (j := 1) C dL_pay_148 rfl ?_
      refine e_bipush (v := 10) C dL_pay_150 (by decide) ?_
      refine e_idivN (r / 10 ^ (plen r - 1 - (i + f + 1))) 10 (r / 10 ^ (plen r - 1 - (i + f))) C rfl rfl (by omega) (by omega) (by omega) hq dL_pay_152 ?_
      refine e_istore (ls2 := [(10, .int (nI (r / 10 ^ (plen r - 1 - (i + f))))), (11, .int (nI (i + f + 1))), (9, .int (nI i)), (8, .int (nI (plen r))), (7, .int (nI r)), (6, .int y), (5, .int x), (4, .int (nI (12 * k))), (0, .ref (ρ 9)), (1, .ref (ρ 10)), (2, .ref (ρ 12)), (3, .int (nI k))]) C hnL dL_pay_153 (by decide) rfl ?_
      refine e_iinc (j := 1) (v := (nI (i + f))) (ls2 := [(11, .int (nI (i + f))), (10, .int (nI (r / 10 ^ (plen r - 1 - (i + f))))), (9, .int (nI i)), (8, .int (nI (plen r))), (7, .int (nI r)), (6, .int y), (5, .int x), (4, .int (nI (12 * k))), (0, .ref (ρ 9)), (1, .ref (ρ 10)), (2, .ref (ρ 12)), (3, .int (nI k))]) C hnL dL_pay_155 rfl (pk_m1 (i + f)) (by decide) rfl ?_
      refine e_goto (tgt := 141) C dL_pay_158 (by decide) ?_
      exact e_sub [0, 1, 2, 3, 4, 5, 6, 7, 8, 9, 10, 11] rfl (ih N i x y (by omega) h12 hE)
  have loop : ∀ (f i : Nat) (S : Mem × Int32 × Int32), i + f = plen r → S = pyS (py1 M k) k r (pyW M k) i → S.1 12 = M 12 → E Ξ 5 ρ J S.1 0 0 124 [(9, .int (nI i)), (8, .int (nI (plen r))), (7, .int (nI r)), (6, .int S.2.2), (5, .int S.2.1), (4, .int (nI (12 * k))), (0, .ref (ρ 9)), (1, .ref (ρ 10)), (2, .ref (ρ 12)), (3, .int (nI k))] [] := by
    intro f
    induction f with
    | zero =>
      intro i S hi hS h12
      have hi2 : i = plen r := by omega
      subst hi2
      refine e_iload (j := 0) C dL_pay_124 rfl ?_
      refine e_iload (j := 1) C dL_pay_126 rfl ?_
      refine e_icmp_ge (tgt := 232) C dL_pay_128 (by decide) (fun c_128 => ?_) (fun c_128 => absurd ((nI_leI (a := (plen r)) (b := (plen r)) (by omega) (by omega)).mpr (by omega)) c_128)
      exact tail S hS h12
    | succ f ih =>
      intro i S hi hS h12
      have hps := pyS_s (py1 M k) k r (pyW M k) i
      rw [← hS] at hps
      refine e_iload (j := 0) C dL_pay_124 rfl ?_
      refine e_iload (j := 1) C dL_pay_126 rfl ?_
      refine e_icmp_ge (tgt := 232) C dL_pay_128 (by decide) (fun c_128 => absurd ((nI_leI (a := (plen r)) (b := i) (by omega) (by omega)).mp c_128) (by omega)) (fun c_128 => ?_)
      refine e_iload (j := 2) C dL_pay_131 rfl ?_
      refine e_istore (ls2 := [(10, .int (nI r)), (9, .int (nI i)), (8, .int (nI (plen r))), (7, .int (nI r)), (6, .int S.2.2), (5, .int S.2.1), (4, .int (nI (12 * k))), (0, .ref (ρ 9)), (1, .ref (ρ 10)), (2, .ref (ρ 12)), (3, .int (nI k))]) C hnL dL_pay_133 (by decide) rfl ?_
      refine e_iload (j := 2) C dL_pay_135 rfl ?_
      refine e_iconst (v := 1) C dL_pay_137 (by decide) ?_
      refine e_isubN (plen r) 1 (i + f) C rfl rfl (by omega) (by omega) dL_pay_138 ?_
      refine e_istore (ls2 := [(11, .int (nI (i + f))), (10, .int (nI r)), (9, .int (nI i)), (8, .int (nI (plen r))), (7, .int (nI r)), (6, .int S.2.2), (5, .int S.2.1), (4, .int (nI (12 * k))), (0, .ref (ρ 9)), (1, .ref (ρ 10)), (2, .ref (ρ 12)), (3, .int (nI k))]) C hnL dL_pay_139 (by decide) rfl ?_
      have hx0 : r / 10 ^ (plen r - 1 - (i + f)) = r := by rw [show plen r - 1 - (i + f) = 0 by omega, Nat.pow_zero, Nat.div_one]
      have hE := div f S.1 i S.2.1 S.2.2 (by omega) h12 (ih (i + 1) _ (by omega) hps.symm (by rw [pyD_r (by decide)]; exact h12))
      rw [hx0] at hE
      exact e_sub [0, 1, 2, 3, 4, 5, 6, 7, 8, 9, 10, 11] rfl hE
  refine e_bipush (v := 12) C dL_pay_0 (by decide) ?_
  refine e_iload_n (j := 3) C dL_pay_2 rfl rfl ?_
  refine e_imulN 12 k (12 * k) C rfl rfl rfl dL_pay_3 ?_
  refine e_istore (ls2 := [(4, .int (nI (12 * k))), (0, .ref (ρ 9)), (1, .ref (ρ 10)), (2, .ref (ρ 12)), (3, .int (nI k))]) C hnL dL_pay_4 (by decide) rfl ?_
  refine e_aload_n (j := 1) C dL_pay_6 rfl rfl ?_
  refine e_iload (j := 0) C dL_pay_7 rfl ?_
  refine e_iconst (v := 1) C dL_pay_9 (by decide) ?_
  refine e_iaddN (12 * k) 1 (12 * k + 1) C rfl rfl rfl dL_pay_10 ?_
  refine e_ialdN (12 * k + 1) C (cnt_fix (by decide)) (fun _ => rfl) rfl (by omega) (by decide) dL_pay_11 ?_
  refine e_aload_n (j := 3) C dL_pay_12 rfl rfl ?_
  refine e_iconst (v := 0) C dL_pay_13 (by decide) ?_
  refine e_ialdN 0 C (cnt_fix (by decide)) (fun _ => rfl) rfl (by decide) (by decide) dL_pay_14 ?_
  refine e_imul C dL_pay_15 ?_
  refine e_bipush (v := 10) C dL_pay_16 (by decide) ?_
  refine e_idiv C dL_pay_18 (by decide) ?_
  refine e_topi (fun x5_19 ex5_19 => ?_)
  refine e_istore (ls2 := [(5, .int x5_19), (4, .int (nI (12 * k))), (0, .ref (ρ 9)), (1, .ref (ρ 10)), (2, .ref (ρ 12)), (3, .int (nI k))]) C hnL dL_pay_19 (by decide) rfl ?_
  refine e_aload_n (j := 2) C dL_pay_21 rfl rfl ?_
  refine e_iload (j := 1) C dL_pay_22 rfl ?_
  refine e_iconst (v := 1) C dL_pay_24 (by decide) ?_
  refine e_iaddN (12 * k) 1 (12 * k + 1) C rfl rfl rfl dL_pay_25 ?_
  refine e_iconst (v := 0) C dL_pay_26 (by decide) ?_
  refine e_iastN (12 * k + 1) C (cnt_fix (by decide)) (fun _ _ => rfl) rfl (by omega) (by decide) dL_pay_27 ?_
  refine e_topM (fun M_27 hM_27 => ?_)
  refine e_aload_n (j := 2) C dL_pay_28 rfl rfl ?_
  refine e_iload (j := 1) C dL_pay_29 rfl ?_
  refine e_iconst (v := 4) C dL_pay_31 (by decide) ?_
  refine e_iaddN (12 * k) 4 (12 * k + 4) C rfl rfl rfl dL_pay_32 ?_
  refine e_dup2 C dL_pay_33 rfl rfl ?_
  refine e_ialdN (12 * k + 4) C (cnt_fix (by decide)) (fun _ => rfl) rfl (by omega) (by decide) dL_pay_34 ?_
  refine e_aload_n (j := 2) C dL_pay_35 rfl rfl ?_
  refine e_iload (j := 1) C dL_pay_36 rfl ?_
  refine e_iconst (v := 5) C dL_pay_38 (by decide) ?_
  refine e_iaddN (12 * k) 5 (12 * k + 5) C rfl rfl rfl dL_pay_39 ?_
  refine e_ialdN (12 * k + 5) C (cnt_fix (by decide)) (fun _ => rfl) rfl (by omega) (by decide) dL_pay_40 ?_
  refine e_iconst (v := 1) C dL_pay_41 (by decide) ?_
  suffices hJ_52 : ∀ v_52 : Int32, v_52 = (if (M_27 9 (12 * k + 5)) = 1 then (M_27 12 1) else 0) → E Ξ 5 ρ J M_27 0 0 52 [(5, .int x5_19), (4, .int (nI (12 * k))), (0, .ref (ρ 9)), (1, .ref (ρ 10)), (2, .ref (ρ 12)), (3, .int (nI k))] (.int v_52 :: .int (M_27 9 (12 * k + 4)) :: .int (nI (12 * k + 4)) :: .ref (ρ 9) :: []) by
    refine e_icmp_ne (tgt := 51) C dL_pay_42 (by decide) (fun c_42 => ?_) (fun c_42 => ?_)
    · refine e_iconst (v := 0) C dL_pay_51 (by decide) ?_
      exact hJ_52 _ (by rw [if_neg c_42])
    · refine e_aload_n (j := 4) C dL_pay_45 rfl rfl ?_
      refine e_iconst (v := 1) C dL_pay_46 (by decide) ?_
      refine e_ialdN 1 C (cnt_fix (by decide)) (fun _ => rfl) rfl (by decide) (by decide) dL_pay_47 ?_
      refine e_goto (tgt := 52) C dL_pay_48 (by decide) ?_
      exact hJ_52 _ (by rw [if_pos c_42])
  intro v_52 hv_52
  refine e_iadd C dL_pay_52 ?_
  refine e_iastN (12 * k + 4) C (cnt_fix (by decide)) (fun _ _ => rfl) rfl (by omega) (by decide) dL_pay_53 ?_
  refine e_topM (fun M_53 hM_53 => ?_)
  refine e_iconst (v := 0) C dL_pay_54 (by decide) ?_
  refine e_istore (ls2 := [(6, .int 0), (5, .int x5_19), (4, .int (nI (12 * k))), (0, .ref (ρ 9)), (1, .ref (ρ 10)), (2, .ref (ρ 12)), (3, .int (nI k))]) C hnL dL_pay_55 (by decide) rfl ?_
  refine e_aload_n (j := 5) C dL_pay_57 rfl rfl ?_
  refine e_bipush (v := 15) C dL_pay_58 (by decide) ?_
  refine e_ialdN 15 C (cnt_fix (by decide)) (fun _ => rfl) rfl (by decide) (by decide) dL_pay_60 ?_
  rw [show M_53 12 15 = nI r by rw [hM_53, up_row (by decide), hM_27, up_row (by decide)]; exact hr]
  refine e_istore (ls2 := [(7, .int (nI r)), (6, .int 0), (5, .int x5_19), (4, .int (nI (12 * k))), (0, .ref (ρ 9)), (1, .ref (ρ 10)), (2, .ref (ρ 12)), (3, .int (nI k))]) C hnL dL_pay_61 (by decide) rfl ?_
  refine e_iload (j := 0) C dL_pay_63 rfl ?_
  suffices hJ_119 : ∀ v : Int32, v = nI (plen r) → E Ξ 5 ρ J M_53 0 0 119 [(7, .int (nI r)), (6, .int 0), (5, .int x5_19), (4, .int (nI (12 * k))), (0, .ref (ρ 9)), (1, .ref (ρ 10)), (2, .ref (ρ 12)), (3, .int (nI k))] (.int v :: []) by
    refine e_if_ne (tgt := 72) C dL_pay_65 (by decide) (fun c_65 => ?_) (fun c_65 => ?_)
    · have n_65 : ¬ (r = 0) := fun h => c_65 ((nI_eq (a := r) (b := 0) (by omega) (by omega)).mpr h)
      refine e_iload (j := 0) C dL_pay_72 rfl ?_
      refine e_bipush (v := 10) C dL_pay_74 (by decide) ?_
      refine e_icmp_ge (tgt := 83) C dL_pay_76 (by decide) (fun c_76 => ?_) (fun c_76 => ?_)
      · have n_76 : 10 ≤ r := (nI_leI (a := 10) (b := r) (by omega) (by omega)).mp c_76
        refine e_iload (j := 0) C dL_pay_83 rfl ?_
        refine e_bipush (v := 100) C dL_pay_85 (by decide) ?_
        refine e_icmp_ge (tgt := 94) C dL_pay_87 (by decide) (fun c_87 => ?_) (fun c_87 => ?_)
        · have n_87 : 100 ≤ r := (nI_leI (a := 100) (b := r) (by omega) (by omega)).mp c_87
          refine e_iload (j := 0) C dL_pay_94 rfl ?_
          refine e_sipush (v := 1000) C dL_pay_96 (by decide) ?_
          refine e_icmp_ge (tgt := 106) C dL_pay_99 (by decide) (fun c_99 => ?_) (fun c_99 => ?_)
          · have n_99 : 1000 ≤ r := (nI_leI (a := 1000) (b := r) (by omega) (by omega)).mp c_99
            refine e_iload (j := 0) C dL_pay_106 rfl ?_
            refine e_sipush (v := 10000) C dL_pay_108 (by decide) ?_
            refine e_icmp_ge (tgt := 118) C dL_pay_111 (by decide) (fun c_111 => ?_) (fun c_111 => ?_)
            · have n_111 : 10000 ≤ r := (nI_leI (a := 10000) (b := r) (by omega) (by omega)).mp c_111
              refine e_iconst (v := 5) C dL_pay_118 (by decide) ?_
              exact hJ_119 _ (by unfold plen; (repeat (first | rw [if_pos (by omega)] | rw [if_neg (by omega)])); try rfl)
            · have n_111 : ¬ (10000 ≤ r) := fun h => c_111 ((nI_leI (a := 10000) (b := r) (by omega) (by omega)).mpr h)
              refine e_iconst (v := 4) C dL_pay_114 (by decide) ?_
              refine e_goto (tgt := 119) C dL_pay_115 (by decide) ?_
              exact hJ_119 _ (by unfold plen; (repeat (first | rw [if_pos (by omega)] | rw [if_neg (by omega)])); try rfl)
          · have n_99 : ¬ (1000 ≤ r) := fun h => c_99 ((nI_leI (a := 1000) (b := r) (by omega) (by omega)).mpr h)
            refine e_iconst (v := 3) C dL_pay_102 (by decide) ?_
            refine e_goto (tgt := 119) C dL_pay_103 (by decide) ?_
            exact hJ_119 _ (by unfold plen; (repeat (first | rw [if_pos (by omega)] | rw [if_neg (by omega)])); try rfl)
        · have n_87 : ¬ (100 ≤ r) := fun h => c_87 ((nI_leI (a := 100) (b := r) (by omega) (by omega)).mpr h)
          refine e_iconst (v := 2) C dL_pay_90 (by decide) ?_
          refine e_goto (tgt := 119) C dL_pay_91 (by decide) ?_
          exact hJ_119 _ (by unfold plen; (repeat (first | rw [if_pos (by omega)] | rw [if_neg (by omega)])); try rfl)
      · have n_76 : ¬ (10 ≤ r) := fun h => c_76 ((nI_leI (a := 10) (b := r) (by omega) (by omega)).mpr h)
        refine e_iconst (v := 1) C dL_pay_79 (by decide) ?_
        refine e_goto (tgt := 119) C dL_pay_80 (by decide) ?_
        exact hJ_119 _ (by unfold plen; (repeat (first | rw [if_pos (by omega)] | rw [if_neg (by omega)])); try rfl)
    · have n_65 : r = 0 := (nI_eq (a := r) (b := 0) (by omega) (by omega)).mp c_65
      refine e_iconst (v := 0) C dL_pay_68 (by decide) ?_
      refine e_goto (tgt := 119) C dL_pay_69 (by decide) ?_
      exact hJ_119 _ (by unfold plen; (repeat (first | rw [if_pos (by omega)] | rw [if_neg (by omega)])); try rfl)
  intro v_119 hv_119
  subst hv_119
  refine e_istore (ls2 := [(8, .int (nI (plen r))), (7, .int (nI r)), (6, .int 0), (5, .int x5_19), (4, .int (nI (12 * k))), (0, .ref (ρ 9)), (1, .ref (ρ 10)), (2, .ref (ρ 12)), (3, .int (nI k))]) C hnL dL_pay_119 (by decide) rfl ?_
  refine e_iconst (v := 0) C dL_pay_121 (by decide) ?_
  refine e_istore (ls2 := [(9, .int 0), (8, .int (nI (plen r))), (7, .int (nI r)), (6, .int 0), (5, .int x5_19), (4, .int (nI (12 * k))), (0, .ref (ρ 9)), (1, .ref (ρ 10)), (2, .ref (ρ 12)), (3, .int (nI k))]) C hnL dL_pay_122 (by decide) rfl ?_
  subst_vars
  exact e_sub [0, 1, 2, 3, 4, 5, 6, 7, 8, 9] rfl (loop (plen r) 0 _ (by omega) rfl rfl)
def ipS (M : Mem) (p r : Nat) : Nat → Mem × Int32
  | 0 => (M, 0)
  | j + 1 => if (ipS M p r j).1 9 (12 * j) = 1 then (payL (ipS M p r j).1 j p r, (ipS M p r j).2 + (pyG (ipS M p r j).1 j r).2.1) else ((ipS M p r j).1, (ipS M p r j).2 + 0)
theorem ipS_s (M : Mem) (p r j : Nat) : ipS M p r (j + 1) = if (ipS M p r j).1 9 (12 * j) = 1 then (payL (ipS M p r j).1 j p r, (ipS M p r j).2 + (pyG (ipS M p r j).1 j r).2.1) else ((ipS M p r j).1, (ipS M p r j).2 + 0) := rfl
def ix1 (N : Mem) (q : Nat) : Mem := up N 12 28 (N 12 28 + N 10 q)
def ix2 (N : Mem) (q : Nat) : Mem := up (ix1 N q) 9 (q / 12 * 12 + 11) (ix1 N q 9 (q / 12 * 12 + 11) + ix1 N q 10 q)
def ix3 (N : Mem) (q : Nat) : Mem := up (ix2 N q) 10 q 0
def ixS (N : Mem) (p : Nat) : Nat → Mem
  | 0 => N
  | q + 1 => if p < q % 12 + 4 then ixS N p q else ix3 (ixS N p q) q
theorem ixS_s (N : Mem) (p q : Nat) : ixS N p (q + 1) = if p < q % 12 + 4 then ixS N p q else ix3 (ixS N p q) q := rfl
def ipE (M : Mem) (p r : Nat) : Mem := ixS (ipS M p r 5).1 p 60
def ipF (M : Mem) (p r : Nat) : Mem := up (ipE M p r) 12 16 (ipE M p r 12 16 + 1)
theorem up12 {M : Mem} {i k a b : Nat} {v : Int32} (h : ¬ (a = i ∧ b = k)) : up M i k v a b = M a b := by
  rw [up_r]
  split
  · split
    · rename_i h1 h2; exact absurd ⟨h1, h2⟩ h
    · rename_i h1 h2; rw [h1]
  · rfl
theorem payL_c {M : Mem} {k p r j : Nat} (h : ¬ j = 21) (h2 : ¬ j = 25) : payL M k p r 12 j = M 12 j := by
  have e1 : ∀ N : Mem, ∀ x y : Int32, pyZ N k x y 12 j = N 12 j := fun N x y => by
    unfold pyZ pyY pyX
    split
    · rw [up_row (by decide), up12 (by omega)]
    · rfl
  have e2 : ∀ N : Mem, ∀ x : Int32, pyK N k p x 12 j = N 12 j := fun N x => by
    unfold pyK pyF pyE pyC pyB pyA
    rw [up12 (by omega), up_row (by decide), up_row (by decide), up_row (by decide), up_row (by decide)]
  unfold payL pyG
  rw [e1, e2]
  unfold pyH
  rw [up_row (by decide), pyS_r (by decide)]
  unfold py1 py0
  rw [up_row (by decide), up_row (by decide)]
theorem ipS_c {M : Mem} {p r j : Nat} (h : ¬ j = 21) (h2 : ¬ j = 25) : ∀ i, (ipS M p r i).1 12 j = M 12 j
  | 0 => rfl
  | i + 1 => by
    rw [ipS_s]
    split
    · dsimp only; rw [payL_c h h2, ipS_c h h2 i]
    · exact ipS_c h h2 i
theorem ixS_c {N : Mem} {p j : Nat} (h : ¬ j = 28) : ∀ q, ixS N p q 12 j = N 12 j
  | 0 => rfl
  | q + 1 => by
    rw [ixS_s]
    split
    · exact ixS_c h q
    · unfold ix3 ix2 ix1
      rw [up_row (by decide), up_row (by decide), up12 (by omega), ixS_c h q]
set_option maxRecDepth 100000 in
set_option maxHeartbeats 1000000 in
theorem L_isPayday_0 {l : Launch} (hl : l.stackTraces = false) {ρ : Nat → Nat} {J : Nat → Int64} {M : Mem} (h : M 12 16 = 12 ∨ M 12 23 = 1) : CtO l yL_isPayday cL_isPayday 6 (some .boolean) 10 13 78 5 ρ J M [.ref (ρ 0), .ref (ρ 9), .ref (ρ 10), .ref (ρ 12)] (rI 1 M) := by
  refine CtO.of hl (by decide +kernel) (Nat.le_of_ble_eq_true rfl) (fun Ξ hnL C => ?_)
  show E Ξ 5 ρ J M 0 0 0 [(0, .ref (ρ 0)), (1, .ref (ρ 9)), (2, .ref (ρ 10)), (3, .ref (ρ 12))] []
  by_cases h1 : M 12 16 = 12
  · refine e_aload_n (j := 3) C dL_isPayday_0 rfl rfl ?_
    refine e_bipush (v := 16) C dL_isPayday_1 (by decide) ?_
    refine e_ialdN 16 C (cnt_fix (by decide)) (fun _ => rfl) rfl (by decide) (by decide) dL_isPayday_3 ?_
    refine e_bipush (v := 12) C dL_isPayday_4 (by decide) ?_
    refine e_icmp_eq (tgt := 17) C dL_isPayday_6 (by decide) (fun c_6 => ?_) (fun c_6 => absurd h1 c_6)
    refine e_iconst (v := 1) C dL_isPayday_17 (by decide) ?_
    exact e_zret C rfl rfl (Nat.le_of_ble_eq_true rfl) (Nat.le_of_ble_eq_true rfl) dL_isPayday_18 (pO.mk rfl)
  · have h2 : M 12 23 = 1 := h.elim (fun q => absurd q h1) id
    refine e_aload_n (j := 3) C dL_isPayday_0 rfl rfl ?_
    refine e_bipush (v := 16) C dL_isPayday_1 (by decide) ?_
    refine e_ialdN 16 C (cnt_fix (by decide)) (fun _ => rfl) rfl (by decide) (by decide) dL_isPayday_3 ?_
    refine e_bipush (v := 12) C dL_isPayday_4 (by decide) ?_
    refine e_icmp_eq (tgt := 17) C dL_isPayday_6 (by decide) (fun c_6 => absurd c_6 h1) (fun c_6 => ?_)
    refine e_aload_n (j := 3) C dL_isPayday_9 rfl rfl ?_
    refine e_bipush (v := 23) C dL_isPayday_10 (by decide) ?_
    refine e_ialdN 23 C (cnt_fix (by decide)) (fun _ => rfl) rfl (by decide) (by decide) dL_isPayday_12 ?_
    refine e_iconst (v := 1) C dL_isPayday_13 (by decide) ?_
    refine e_icmp_ne (tgt := 19) C dL_isPayday_14 (by decide) (fun c_14 => absurd h2 c_14) (fun c_14 => ?_)
    refine e_iconst (v := 1) C dL_isPayday_17 (by decide) ?_
    exact e_zret C rfl rfl (Nat.le_of_ble_eq_true rfl) (Nat.le_of_ble_eq_true rfl) dL_isPayday_18 (pO.mk rfl)
set_option maxRecDepth 100000 in
set_option maxHeartbeats 1000000 in
theorem L_isPayday {l : Launch} (hl : l.stackTraces = false) {ρ : Nat → Nat} {J : Nat → Int64} {M : Mem} {p : Nat} (hp : p < 12) (hpd : M 12 16 = nI p) (hcl : ¬ M 12 23 = 1) {r : Nat} (hr : M 12 15 = nI r) (hr2 : r < 100000) (hdg : ∀ i, i < plen r → dgl r i ≤ 5) {K : Mem} (hK : ipF M p r 0 6 = nI p) (hcall : o_payday (ipF M p r) 5 p = rI (ipS M p r 5).2 K) : CtO l yL_isPayday cL_isPayday 6 (some .boolean) 10 13 78 5 ρ J M [.ref (ρ 0), .ref (ρ 9), .ref (ρ 10), .ref (ρ 12)] (rI 1 K) := by
  refine CtO.of hl (by decide +kernel) (Nat.le_of_ble_eq_true rfl) (fun Ξ hnL C => ?_)
  show E Ξ 5 ρ J M 0 0 0 [(0, .ref (ρ 0)), (1, .ref (ρ 9)), (2, .ref (ρ 10)), (3, .ref (ρ 12))] []
  have hp12 : ¬ M 12 16 = 12 := fun q => by rw [hpd] at q; exact absurd ((nI_eq (a := p) (b := 12) (by omega) (by omega)).mp q) (by omega)
  have fin : E Ξ 5 ρ J (ipE M p r) 0 0 131 [(5, .int 60), (4, .int (ipS M p r 5).2), (0, .ref (ρ 0)), (1, .ref (ρ 9)), (2, .ref (ρ 10)), (3, .ref (ρ 12))] [] := by
    obtain ⟨T, hT⟩ : ∃ z, z = ipE M p r := ⟨_, rfl⟩
    rw [← hT]
    refine e_aload_n (j := 5) C dL_isPayday_131 rfl rfl ?_
    refine e_bipush (v := 16) C dL_isPayday_132 (by decide) ?_
    refine e_dup2 C dL_isPayday_134 rfl rfl ?_
    refine e_ialdN 16 C (cnt_fix (by decide)) (fun _ => rfl) rfl (by decide) (by decide) dL_isPayday_135 ?_
    refine e_iconst (v := 1) C dL_isPayday_136 (by decide) ?_
    refine e_iadd C dL_isPayday_137 ?_
    refine e_iastN 16 C (cnt_fix (by decide)) (fun _ _ => rfl) rfl (by decide) (by decide) dL_isPayday_138 ?_
    refine e_topM (fun M_138 hM_138 => ?_)
    have hF : M_138 = ipF M p r := by rw [hM_138, hT]; rfl
    rw [hF]
    refine e_aload_n (j := 2) C dL_isPayday_139 rfl rfl ?_
    refine e_cV (i := 0) (nA := 0) (Cn := RX2) C (c_X2_payday hl (by omega) (p := p) (by omega) hK) hcall (cnt_fix (by decide)) (fun _ => rfl) rfl rfl mw_194 mw_191 mw_192 mw_193 mw_12 (by decide +kernel) (by decide) rfl rfl (Nat.le_of_ble_eq_true rfl) dL_isPayday_140 (Nat.le_of_ble_eq_true rfl) (Nat.le_of_ble_eq_true rfl) ?_
    refine e_iload (j := 1) C dL_isPayday_143 rfl ?_
    refine e_icmp_ne (tgt := 152) C dL_isPayday_145 (by decide) (fun c_145 => absurd rfl c_145) (fun c_145 => ?_)
    refine e_iconst (v := 1) C dL_isPayday_148 (by decide) ?_
    refine e_goto (tgt := 153) C dL_isPayday_149 (by decide) ?_
    exact e_zret C rfl rfl (Nat.le_of_ble_eq_true rfl) (Nat.le_of_ble_eq_true rfl) dL_isPayday_153 (pO.mk rfl)
  have exl : ∀ (f q : Nat) (N : Mem), q + f = 60 → N = ixS (ipS M p r 5).1 p q → E Ξ 5 ρ J N 0 0 68 [(5, .int (nI q)), (4, .int (ipS M p r 5).2), (0, .ref (ρ 0)), (1, .ref (ρ 9)), (2, .ref (ρ 10)), (3, .ref (ρ 12))] [] := by
    intro f
    induction f with
    | zero =>
      intro q N hq hN
      have hq2 : q = 60 := by omega
      subst hq2
      refine e_iload (j := 0) C dL_isPayday_68 rfl ?_
      refine e_bipush (v := 60) C dL_isPayday_70 (by decide) ?_
      refine e_icmp_ge (tgt := 131) C dL_isPayday_72 (by decide) (fun c_72 => ?_) (fun c_72 => absurd ((nI_leI (a := 60) (b := 60) (by omega) (by omega)).mpr (by omega)) c_72)
      rw [show N = ipE M p r from hN]
      exact fin
    | succ f ih =>
      intro q N hq hN
      have hps := ixS_s (ipS M p r 5).1 p q
      rw [← hN] at hps
      have h16 : N 12 16 = nI p := by rw [hN, ixS_c (by decide), ipS_c (by decide) (by decide)]; exact hpd
      refine e_iload (j := 0) C dL_isPayday_68 rfl ?_
      refine e_bipush (v := 60) C dL_isPayday_70 (by decide) ?_
      refine e_icmp_ge (tgt := 131) C dL_isPayday_72 (by decide) (fun c_72 => absurd ((nI_leI (a := 60) (b := q) (by omega) (by omega)).mp c_72) (by omega)) (fun c_72 => ?_)
      refine e_iload (j := 0) C dL_isPayday_75 rfl ?_
      refine e_bipush (v := 12) C dL_isPayday_77 (by decide) ?_
      refine e_iremN q 12 (q % 12) C rfl rfl (by omega) (by omega) (by omega) rfl dL_isPayday_79 ?_
      refine e_iconst (v := 4) C dL_isPayday_80 (by decide) ?_
      refine e_iaddN (q % 12) 4 (q % 12 + 4) C rfl rfl rfl dL_isPayday_81 ?_
      refine e_aload_n (j := 5) C dL_isPayday_82 rfl rfl ?_
      refine e_bipush (v := 16) C dL_isPayday_83 (by decide) ?_
      refine e_ialdN 16 C (cnt_fix (by decide)) (fun _ => rfl) rfl (by decide) (by decide) dL_isPayday_85 ?_
      rw [h16]
      refine e_icmp_gt (tgt := 125) C dL_isPayday_86 (by decide) (fun c_86 => ?_) (fun c_86 => ?_)
      · have n_86 : p < (q % 12 + 4) := (nI_ltI (a := p) (b := (q % 12 + 4)) (by omega) (by omega)).mp c_86
        refine e_iinc (j := 0) (v := (nI (q + 1))) (ls2 := [(5, .int (nI (q + 1))), (4, .int (ipS M p r 5).2), (0, .ref (ρ 0)), (1, .ref (ρ 9)), (2, .ref (ρ 10)), (3, .ref (ρ 12))]) C hnL dL_isPayday_125 rfl (nI_add (q) 1) (by decide) rfl ?_
        refine e_goto (tgt := 68) C dL_isPayday_128 (by decide) ?_
        exact e_sub [0, 1, 2, 3, 4, 5] rfl (ih (q + 1) _ (by omega) (by rw [hps]; first | rw [if_pos n_86] | (rw [if_neg n_86]; subst_vars; rfl)))
      · have n_86 : ¬ (p < (q % 12 + 4)) := fun h => c_86 ((nI_ltI (a := p) (b := (q % 12 + 4)) (by omega) (by omega)).mpr h)
        refine e_aload_n (j := 5) C dL_isPayday_89 rfl rfl ?_
        refine e_bipush (v := 28) C dL_isPayday_90 (by decide) ?_
        refine e_dup2 C dL_isPayday_92 rfl rfl ?_
        refine e_ialdN 28 C (cnt_fix (by decide)) (fun _ => rfl) rfl (by decide) (by decide) dL_isPayday_93 ?_
        refine e_aload_n (j := 4) C dL_isPayday_94 rfl rfl ?_
        refine e_iload (j := 0) C dL_isPayday_95 rfl ?_
        refine e_ialdN q C (cnt_fix (by decide)) (fun _ => rfl) rfl (by omega) (by decide) dL_isPayday_97 ?_
        refine e_iadd C dL_isPayday_98 ?_
        refine e_iastN 28 C (cnt_fix (by decide)) (fun _ _ => rfl) rfl (by decide) (by decide) dL_isPayday_99 ?_
        refine e_topM (fun M_99 hM_99 => ?_)
        refine e_aload_n (j := 3) C dL_isPayday_100 rfl rfl ?_
        refine e_iload (j := 0) C dL_isPayday_101 rfl ?_
        refine e_bipush (v := 12) C dL_isPayday_103 (by decide) ?_
        refine e_idivN q 12 (q / 12) C rfl rfl (by omega) (by omega) (by omega) rfl dL_isPayday_105 ?_
        refine e_bipush (v := 12) C dL_isPayday_106 (by decide) ?_
        refine e_imulN (q / 12) 12 ((q / 12) * 12) C rfl rfl rfl dL_isPayday_108 ?_
        refine e_bipush (v := 11) C dL_isPayday_109 (by decide) ?_
        refine e_iaddN ((q / 12) * 12) 11 ((q / 12) * 12 + 11) C rfl rfl rfl dL_isPayday_111 ?_
        refine e_dup2 C dL_isPayday_112 rfl rfl ?_
        refine e_ialdN ((q / 12) * 12 + 11) C (cnt_fix (by decide)) (fun _ => rfl) rfl (by omega) (by decide) dL_isPayday_113 ?_
        refine e_aload_n (j := 4) C dL_isPayday_114 rfl rfl ?_
        refine e_iload (j := 0) C dL_isPayday_115 rfl ?_
        refine e_ialdN q C (cnt_fix (by decide)) (fun _ => rfl) rfl (by omega) (by decide) dL_isPayday_117 ?_
        refine e_iadd C dL_isPayday_118 ?_
        refine e_iastN ((q / 12) * 12 + 11) C (cnt_fix (by decide)) (fun _ _ => rfl) rfl (by omega) (by decide) dL_isPayday_119 ?_
        refine e_topM (fun M_119 hM_119 => ?_)
        refine e_aload_n (j := 4) C dL_isPayday_120 rfl rfl ?_
        refine e_iload (j := 0) C dL_isPayday_121 rfl ?_
        refine e_iconst (v := 0) C dL_isPayday_123 (by decide) ?_
        refine e_iastN q C (cnt_fix (by decide)) (fun _ _ => rfl) rfl (by omega) (by decide) dL_isPayday_124 ?_
        refine e_topM (fun M_124 hM_124 => ?_)
        refine e_iinc (j := 0) (v := (nI (q + 1))) (ls2 := [(5, .int (nI (q + 1))), (4, .int (ipS M p r 5).2), (0, .ref (ρ 0)), (1, .ref (ρ 9)), (2, .ref (ρ 10)), (3, .ref (ρ 12))]) C hnL dL_isPayday_125 rfl (nI_add (q) 1) (by decide) rfl ?_
        refine e_goto (tgt := 68) C dL_isPayday_128 (by decide) ?_
        exact e_sub [0, 1, 2, 3, 4, 5] rfl (ih (q + 1) _ (by omega) (by rw [hps]; first | rw [if_pos n_86] | (rw [if_neg n_86]; subst_vars; rfl)))
  have pays : ∀ (f j : Nat) (N : Mem) (s : Int32), j + f = 5 → (N, s) = ipS M p r j → E Ξ 5 ρ J N 0 0 25 [(5, .int (nI j)), (4, .int s), (0, .ref (ρ 0)), (1, .ref (ρ 9)), (2, .ref (ρ 10)), (3, .ref (ρ 12))] [] := by
    intro f
    induction f with
    | zero =>
      intro j N s hj hN
      have hj2 : j = 5 := by omega
      subst hj2
      have e1 : N = (ipS M p r 5).1 := congrArg Prod.fst hN
      have e2 : s = (ipS M p r 5).2 := congrArg Prod.snd hN
      refine e_iload (j := 0) C dL_isPayday_25 rfl ?_
      refine e_iconst (v := 5) C dL_isPayday_27 (by decide) ?_
      refine e_icmp_ge (tgt := 65) C dL_isPayday_28 (by decide) (fun c_28 => ?_) (fun c_28 => absurd ((nI_leI (a := 5) (b := 5) (by omega) (by omega)).mpr (by omega)) c_28)
      refine e_iconst (v := 0) C dL_isPayday_65 (by decide) ?_
      refine e_istore (ls2 := [(5, .int 0), (4, .int s), (0, .ref (ρ 0)), (1, .ref (ρ 9)), (2, .ref (ρ 10)), (3, .ref (ρ 12))]) C hnL dL_isPayday_66 (by decide) rfl ?_
      rw [e2]
      exact e_sub [0, 1, 2, 3, 4, 5] rfl (exl 60 0 N (by omega) e1)
    | succ f ih =>
      intro j N s hj hN
      have hps := ipS_s M p r j
      rw [← hN] at hps
      dsimp only at hps
      have e1 : N = (ipS M p r j).1 := congrArg Prod.fst hN
      have h16 : N 12 16 = nI p := by rw [e1, ipS_c (by decide) (by decide)]; exact hpd
      have h15 : N 12 15 = nI r := by rw [e1, ipS_c (by decide) (by decide)]; exact hr
      refine e_iload (j := 0) C dL_isPayday_25 rfl ?_
      refine e_iconst (v := 5) C dL_isPayday_27 (by decide) ?_
      refine e_icmp_ge (tgt := 65) C dL_isPayday_28 (by decide) (fun c_28 => absurd ((nI_leI (a := 5) (b := j) (by omega) (by omega)).mp c_28) (by omega)) (fun c_28 => ?_)
      refine e_iload (j := 1) C dL_isPayday_31 rfl ?_
      refine e_aload_n (j := 3) C dL_isPayday_33 rfl rfl ?_
      refine e_bipush (v := 12) C dL_isPayday_34 (by decide) ?_
      refine e_iload (j := 0) C dL_isPayday_36 rfl ?_
      refine e_imulN 12 j (12 * j) C rfl rfl rfl dL_isPayday_38 ?_
      refine e_ialdN (12 * j) C (cnt_fix (by decide)) (fun _ => rfl) rfl (by omega) (by decide) dL_isPayday_39 ?_
      refine e_iconst (v := 1) C dL_isPayday_40 (by decide) ?_
      refine e_icmp_ne (tgt := 55) C dL_isPayday_41 (by decide) (fun c_41 => ?_) (fun c_41 => ?_)
      · refine e_iconst (v := 0) C dL_isPayday_55 (by decide) ?_
        refine e_iadd C dL_isPayday_56 ?_
        refine e_topi (fun x4_57 ex4_57 => ?_)
        refine e_istore (ls2 := [(4, .int x4_57), (5, .int (nI j)), (0, .ref (ρ 0)), (1, .ref (ρ 9)), (2, .ref (ρ 10)), (3, .ref (ρ 12))]) C hnL dL_isPayday_57 (by decide) rfl ?_
        refine e_iinc (j := 1) (v := (nI (j + 1))) (ls2 := [(5, .int (nI (j + 1))), (4, .int x4_57), (0, .ref (ρ 0)), (1, .ref (ρ 9)), (2, .ref (ρ 10)), (3, .ref (ρ 12))]) C hnL dL_isPayday_59 rfl (nI_add (j) 1) (by decide) rfl ?_
        refine e_goto (tgt := 25) C dL_isPayday_62 (by decide) ?_
        subst_vars
        exact e_sub [0, 1, 2, 3, 4, 5] rfl (ih (j + 1) _ _ (by omega) (by rw [hps]; first | rw [if_pos c_41] | rw [if_neg c_41]))
      · refine e_aload_n (j := 3) C dL_isPayday_44 rfl rfl ?_
        refine e_aload_n (j := 4) C dL_isPayday_45 rfl rfl ?_
        refine e_aload_n (j := 5) C dL_isPayday_46 rfl rfl ?_
        refine e_iload (j := 0) C dL_isPayday_47 rfl ?_
        refine e_cS (nA := 4) C (L_pay hl (k := j) (by omega) hp h16 h15 hr2 hdg) rfl mw_187 mw_185 mw_186 mw_2 (by decide +kernel) (by decide) rfl rfl (Nat.le_of_ble_eq_true rfl) dL_isPayday_49 (Nat.le_of_ble_eq_true rfl) (Nat.le_of_ble_eq_true rfl) ?_
        refine e_goto (tgt := 56) C dL_isPayday_52 (by decide) ?_
        refine e_iadd C dL_isPayday_56 ?_
        refine e_topi (fun x4_57 ex4_57 => ?_)
        refine e_istore (ls2 := [(4, .int x4_57), (5, .int (nI j)), (0, .ref (ρ 0)), (1, .ref (ρ 9)), (2, .ref (ρ 10)), (3, .ref (ρ 12))]) C hnL dL_isPayday_57 (by decide) rfl ?_
        refine e_iinc (j := 1) (v := (nI (j + 1))) (ls2 := [(5, .int (nI (j + 1))), (4, .int x4_57), (0, .ref (ρ 0)), (1, .ref (ρ 9)), (2, .ref (ρ 10)), (3, .ref (ρ 12))]) C hnL dL_isPayday_59 rfl (nI_add (j) 1) (by decide) rfl ?_
        refine e_goto (tgt := 25) C dL_isPayday_62 (by decide) ?_
        subst_vars
        exact e_sub [0, 1, 2, 3, 4, 5] rfl (ih (j + 1) _ _ (by omega) (by rw [hps]; first | rw [if_pos c_41] | rw [if_neg c_41]))
  refine e_aload_n (j := 3) C dL_isPayday_0 rfl rfl ?_
  refine e_bipush (v := 16) C dL_isPayday_1 (by decide) ?_
  refine e_ialdN 16 C (cnt_fix (by decide)) (fun _ => rfl) rfl (by decide) (by decide) dL_isPayday_3 ?_
  refine e_bipush (v := 12) C dL_isPayday_4 (by decide) ?_
  refine e_icmp_eq (tgt := 17) C dL_isPayday_6 (by decide) (fun c_6 => absurd c_6 hp12) (fun c_6 => ?_)
  refine e_aload_n (j := 3) C dL_isPayday_9 rfl rfl ?_
  refine e_bipush (v := 23) C dL_isPayday_10 (by decide) ?_
  refine e_ialdN 23 C (cnt_fix (by decide)) (fun _ => rfl) rfl (by decide) (by decide) dL_isPayday_12 ?_
  refine e_iconst (v := 1) C dL_isPayday_13 (by decide) ?_
  refine e_icmp_ne (tgt := 19) C dL_isPayday_14 (by decide) (fun c_14 => ?_) (fun c_14 => absurd c_14 hcl)
  refine e_iconst (v := 0) C dL_isPayday_19 (by decide) ?_
  refine e_istore (ls2 := [(4, .int 0), (0, .ref (ρ 0)), (1, .ref (ρ 9)), (2, .ref (ρ 10)), (3, .ref (ρ 12))]) C hnL dL_isPayday_20 (by decide) rfl ?_
  refine e_iconst (v := 0) C dL_isPayday_22 (by decide) ?_
  refine e_istore (ls2 := [(5, .int 0), (4, .int 0), (0, .ref (ρ 0)), (1, .ref (ρ 9)), (2, .ref (ρ 10)), (3, .ref (ρ 12))]) C hnL dL_isPayday_23 (by decide) rfl ?_
  exact e_sub [0, 1, 2, 3, 4, 5] rfl (pays 5 0 M 0 (by omega) rfl)
