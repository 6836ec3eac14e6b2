/-! The law's loop, way by way. -/
set_option maxRecDepth 100000 in
theorem w_hewn {l : Launch} (hl : l.stackTraces = false) {mn : String} {e bs L : Nat} {xs : Nat → Int32} {tb : List ExceptionTableEntry} {Ξ : CT} (hnL : Ξ.2.2.2.2.2.2 = 10) (B : CB (EXl e bs L xs) l (rmm 12 5000 30000) cL_holds RL mn tb Ξ) {ρ : Nat → Nat} {J : Nat → Int64} {M : Mem} {n y z a b : Nat} (hn : n < 80) (hz : z < 1000000000) (ha : a ≤ 60 + 60 * n) (hb : b ≤ 600 + 330 * n) (s : SR (2 * n) M) (tl : ∀ (K : Mem) (a' b' : Nat), SR (2 * n + 1 + 1) K → a' ≤ a + 13 → b' ≤ b + 78 → G Ξ (wsd 5 ρ J K) a' b' 436 [(6, .int 1), (9, .int (nI z)), (8, .int (nI y)), (7, .int (nI n)), (5, .ref (ρ 12)), (4, .ref (ρ 11)), (3, .ref (ρ 10)), (2, .ref (ρ 9)), (1, .ref (ρ 0)), (0, .ref bs)] []) : G Ξ (wsd 5 ρ J M) a b 200 [(9, .int (nI z)), (8, .int (nI y)), (7, .int (nI n)), (6, .int 1), (5, .ref (ρ 12)), (4, .ref (ρ 11)), (3, .ref (ρ 10)), (2, .ref (ρ 9)), (1, .ref (ρ 0)), (0, .ref bs)] [] := by
  obtain ⟨K, hK, hC⟩ := G_hew hl (by omega) s hz
  refine g_aload_n (j := 8) B dL_holds_200 rfl rfl ?_
  refine g_aload_n (j := 7) B dL_holds_201 rfl rfl ?_
  refine g_aload (j := 4) B dL_holds_202 rfl ?_
  refine g_iload (j := 0) B dL_holds_204 rfl ?_
  refine g_lawS (nA := 4) B (hC ρ J) mw_138 mw_136 mw_137 mw_2 (by decide +kernel) ⟨(Nat.le_of_ble_eq_true rfl), (Nat.le_of_ble_eq_true rfl)⟩ rfl rfl (Nat.le_of_ble_eq_true rfl) dL_holds_206 ⟨show a + 13 ≤ 5000 by omega, show b + 78 ≤ 30000 by omega⟩ ?_
  refine g_istore (ls2 := [(6, .int 1), (9, .int (nI z)), (8, .int (nI y)), (7, .int (nI n)), (5, .ref (ρ 12)), (4, .ref (ρ 11)), (3, .ref (ρ 10)), (2, .ref (ρ 9)), (1, .ref (ρ 0)), (0, .ref bs)]) B hnL dL_holds_209 (by decide) rfl ?_
  refine g_goto (tgt := 436) B dL_holds_211 (by decide) ?_
  exact tl K _ _ (hK.idle (by omega)) (by omega) (by omega)
set_option maxRecDepth 100000 in
theorem w_payday {l : Launch} (hl : l.stackTraces = false) {mn : String} {e bs L : Nat} {xs : Nat → Int32} {tb : List ExceptionTableEntry} {Ξ : CT} (hnL : Ξ.2.2.2.2.2.2 = 10) (B : CB (EXl e bs L xs) l (rmm 12 5000 30000) cL_holds RL mn tb Ξ) {ρ : Nat → Nat} {J : Nat → Int64} {M : Mem} {n y z a b : Nat} (hn : n < 80) (hz : z < 1000000000) (ha : a ≤ 60 + 60 * n) (hb : b ≤ 600 + 330 * n) (s : SR (2 * n) M) (tl : ∀ (K : Mem) (a' b' : Nat), SR (2 * n + 1 + 1) K → a' ≤ a + 13 → b' ≤ b + 78 → G Ξ (wsd 5 ρ J K) a' b' 436 [(6, .int 1), (9, .int (nI z)), (8, .int (nI y)), (7, .int (nI n)), (5, .ref (ρ 12)), (4, .ref (ρ 11)), (3, .ref (ρ 10)), (2, .ref (ρ 9)), (1, .ref (ρ 0)), (0, .ref bs)] []) : G Ξ (wsd 5 ρ J M) a b 221 [(9, .int (nI z)), (8, .int (nI y)), (7, .int (nI n)), (6, .int 1), (5, .ref (ρ 12)), (4, .ref (ρ 11)), (3, .ref (ρ 10)), (2, .ref (ρ 9)), (1, .ref (ρ 0)), (0, .ref bs)] [] := by
  obtain ⟨K, hK, hC⟩ := G_payday hl (by omega) s
  refine g_aload_n (j := 8) B dL_holds_221 rfl rfl ?_
  refine g_aload_n (j := 7) B dL_holds_222 rfl rfl ?_
  refine g_aload_n (j := 6) B dL_holds_223 rfl rfl ?_
  refine g_aload (j := 4) B dL_holds_224 rfl ?_
  refine g_lawS (nA := 4) B (hC ρ J) mw_184 mw_182 mw_183 mw_2 (by decide +kernel) ⟨(Nat.le_of_ble_eq_true rfl), (Nat.le_of_ble_eq_true rfl)⟩ rfl rfl (Nat.le_of_ble_eq_true rfl) dL_holds_226 ⟨show a + 13 ≤ 5000 by omega, show b + 78 ≤ 30000 by omega⟩ ?_
  refine g_istore (ls2 := [(6, .int 1), (9, .int (nI z)), (8, .int (nI y)), (7, .int (nI n)), (5, .ref (ρ 12)), (4, .ref (ρ 11)), (3, .ref (ρ 10)), (2, .ref (ρ 9)), (1, .ref (ρ 0)), (0, .ref bs)]) B hnL dL_holds_229 (by decide) rfl ?_
  refine g_goto (tgt := 436) B dL_holds_231 (by decide) ?_
  exact tl K _ _ (hK.idle (by omega)) (by omega) (by omega)
set_option maxRecDepth 100000 in
theorem w_bought {l : Launch} (hl : l.stackTraces = false) {mn : String} {e bs L : Nat} {xs : Nat → Int32} {tb : List ExceptionTableEntry} {Ξ : CT} (hnL : Ξ.2.2.2.2.2.2 = 10) (B : CB (EXl e bs L xs) l (rmm 12 5000 30000) cL_holds RL mn tb Ξ) {ρ : Nat → Nat} {J : Nat → Int64} {M : Mem} {n y z a b : Nat} (hn : n < 80) (hz : z < 1000000000) (ha : a ≤ 60 + 60 * n) (hb : b ≤ 600 + 330 * n) (s : SR (2 * n) M) (tl : ∀ (K : Mem) (a' b' : Nat), SR (2 * n + 1 + 1) K → a' ≤ a + 13 → b' ≤ b + 78 → G Ξ (wsd 5 ρ J K) a' b' 436 [(6, .int 1), (9, .int (nI z)), (8, .int (nI y)), (7, .int (nI n)), (5, .ref (ρ 12)), (4, .ref (ρ 11)), (3, .ref (ρ 10)), (2, .ref (ρ 9)), (1, .ref (ρ 0)), (0, .ref bs)] []) : G Ξ (wsd 5 ρ J M) a b 241 [(9, .int (nI z)), (8, .int (nI y)), (7, .int (nI n)), (6, .int 1), (5, .ref (ρ 12)), (4, .ref (ρ 11)), (3, .ref (ρ 10)), (2, .ref (ρ 9)), (1, .ref (ρ 0)), (0, .ref bs)] [] := by
  obtain ⟨K, hK, hC⟩ := (if ho : z / 1000 % 4 = 0 then G_over hl (by omega) s hz ho else G_bought hl (by omega) s hz ho : LwGo l (2 * n) yL_isBought cL_isBought 15 M (fun ρ => [.ref (ρ 0), .ref (ρ 9), .ref (ρ 10), .ref (ρ 11), .ref (ρ 12), .int (nI z)]))
  refine g_aload_n (j := 8) B dL_holds_241 rfl rfl ?_
  refine g_aload_n (j := 7) B dL_holds_242 rfl rfl ?_
  refine g_aload_n (j := 6) B dL_holds_243 rfl rfl ?_
  refine g_aload (j := 5) B dL_holds_244 rfl ?_
  refine g_aload (j := 4) B dL_holds_246 rfl ?_
  refine g_iload (j := 0) B dL_holds_248 rfl ?_
  refine g_lawS (nA := 6) B (hC ρ J) mw_259 mw_257 mw_258 mw_2 (by decide +kernel) ⟨(Nat.le_of_ble_eq_true rfl), (Nat.le_of_ble_eq_true rfl)⟩ rfl rfl (Nat.le_of_ble_eq_true rfl) dL_holds_250 ⟨show a + 13 ≤ 5000 by omega, show b + 78 ≤ 30000 by omega⟩ ?_
  refine g_istore (ls2 := [(6, .int 1), (9, .int (nI z)), (8, .int (nI y)), (7, .int (nI n)), (5, .ref (ρ 12)), (4, .ref (ρ 11)), (3, .ref (ρ 10)), (2, .ref (ρ 9)), (1, .ref (ρ 0)), (0, .ref bs)]) B hnL dL_holds_253 (by decide) rfl ?_
  refine g_goto (tgt := 436) B dL_holds_255 (by decide) ?_
  exact tl K _ _ (hK.idle (by omega)) (by omega) (by omega)
set_option maxRecDepth 100000 in
theorem w_changed {l : Launch} (hl : l.stackTraces = false) {mn : String} {e bs L : Nat} {xs : Nat → Int32} {tb : List ExceptionTableEntry} {Ξ : CT} (hnL : Ξ.2.2.2.2.2.2 = 10) (B : CB (EXl e bs L xs) l (rmm 12 5000 30000) cL_holds RL mn tb Ξ) {ρ : Nat → Nat} {J : Nat → Int64} {M : Mem} {n y z a b : Nat} (hn : n < 80) (hz : z < 1000000000) (ha : a ≤ 60 + 60 * n) (hb : b ≤ 600 + 330 * n) (s : SR (2 * n) M) (tl : ∀ (K : Mem) (a' b' : Nat), SR (2 * n + 1 + 1) K → a' ≤ a + 13 → b' ≤ b + 78 → G Ξ (wsd 5 ρ J K) a' b' 436 [(6, .int 1), (9, .int (nI z)), (8, .int (nI y)), (7, .int (nI n)), (5, .ref (ρ 12)), (4, .ref (ρ 11)), (3, .ref (ρ 10)), (2, .ref (ρ 9)), (1, .ref (ρ 0)), (0, .ref bs)] []) : G Ξ (wsd 5 ρ J M) a b 265 [(9, .int (nI z)), (8, .int (nI y)), (7, .int (nI n)), (6, .int 1), (5, .ref (ρ 12)), (4, .ref (ρ 11)), (3, .ref (ρ 10)), (2, .ref (ρ 9)), (1, .ref (ρ 0)), (0, .ref bs)] [] := by
  obtain ⟨K, hK, hC⟩ := G_changed hl (by omega) s hz
  refine g_aload_n (j := 8) B dL_holds_265 rfl rfl ?_
  refine g_aload_n (j := 7) B dL_holds_266 rfl rfl ?_
  refine g_aload_n (j := 6) B dL_holds_267 rfl rfl ?_
  refine g_aload (j := 4) B dL_holds_268 rfl ?_
  refine g_iload (j := 0) B dL_holds_270 rfl ?_
  refine g_lawS (nA := 5) B (hC ρ J) mw_313 mw_311 mw_312 mw_2 (by decide +kernel) ⟨(Nat.le_of_ble_eq_true rfl), (Nat.le_of_ble_eq_true rfl)⟩ rfl rfl (Nat.le_of_ble_eq_true rfl) dL_holds_272 ⟨show a + 13 ≤ 5000 by omega, show b + 78 ≤ 30000 by omega⟩ ?_
  refine g_istore (ls2 := [(6, .int 1), (9, .int (nI z)), (8, .int (nI y)), (7, .int (nI n)), (5, .ref (ρ 12)), (4, .ref (ρ 11)), (3, .ref (ρ 10)), (2, .ref (ρ 9)), (1, .ref (ρ 0)), (0, .ref bs)]) B hnL dL_holds_275 (by decide) rfl ?_
  refine g_goto (tgt := 436) B dL_holds_277 (by decide) ?_
  exact tl K _ _ (hK.idle (by omega)) (by omega) (by omega)
set_option maxRecDepth 100000 in
theorem w_told {l : Launch} (hl : l.stackTraces = false) {mn : String} {e bs L : Nat} {xs : Nat → Int32} {tb : List ExceptionTableEntry} {Ξ : CT} (hnL : Ξ.2.2.2.2.2.2 = 10) (B : CB (EXl e bs L xs) l (rmm 12 5000 30000) cL_holds RL mn tb Ξ) {ρ : Nat → Nat} {J : Nat → Int64} {M : Mem} {n y z a b : Nat} (hn : n < 80) (hz : z < 1000000000) (ha : a ≤ 60 + 60 * n) (hb : b ≤ 600 + 330 * n) (s : SR (2 * n) M) (tl : ∀ (K : Mem) (a' b' : Nat), SR (2 * n + 1 + 1) K → a' ≤ a + 13 → b' ≤ b + 78 → G Ξ (wsd 5 ρ J K) a' b' 436 [(6, .int 1), (9, .int (nI z)), (8, .int (nI y)), (7, .int (nI n)), (5, .ref (ρ 12)), (4, .ref (ρ 11)), (3, .ref (ρ 10)), (2, .ref (ρ 9)), (1, .ref (ρ 0)), (0, .ref bs)] []) : G Ξ (wsd 5 ρ J M) a b 287 [(9, .int (nI z)), (8, .int (nI y)), (7, .int (nI n)), (6, .int 1), (5, .ref (ρ 12)), (4, .ref (ρ 11)), (3, .ref (ρ 10)), (2, .ref (ρ 9)), (1, .ref (ρ 0)), (0, .ref bs)] [] := by
  obtain ⟨K, hK, hC⟩ := G_told hl (by omega) s hz
  refine g_aload_n (j := 8) B dL_holds_287 rfl rfl ?_
  refine g_aload_n (j := 7) B dL_holds_288 rfl rfl ?_
  refine g_aload (j := 4) B dL_holds_289 rfl ?_
  refine g_iload (j := 0) B dL_holds_291 rfl ?_
  refine g_lawS (nA := 4) B (hC ρ J) mw_323 mw_321 mw_322 mw_2 (by decide +kernel) ⟨(Nat.le_of_ble_eq_true rfl), (Nat.le_of_ble_eq_true rfl)⟩ rfl rfl (Nat.le_of_ble_eq_true rfl) dL_holds_293 ⟨show a + 13 ≤ 5000 by omega, show b + 78 ≤ 30000 by omega⟩ ?_
  refine g_istore (ls2 := [(6, .int 1), (9, .int (nI z)), (8, .int (nI y)), (7, .int (nI n)), (5, .ref (ρ 12)), (4, .ref (ρ 11)), (3, .ref (ρ 10)), (2, .ref (ρ 9)), (1, .ref (ρ 0)), (0, .ref bs)]) B hnL dL_holds_296 (by decide) rfl ?_
  refine g_goto (tgt := 436) B dL_holds_298 (by decide) ?_
  exact tl K _ _ hK (by omega) (by omega)
set_option maxRecDepth 100000 in
theorem w_struck {l : Launch} (hl : l.stackTraces = false) {mn : String} {e bs L : Nat} {xs : Nat → Int32} {tb : List ExceptionTableEntry} {Ξ : CT} (hnL : Ξ.2.2.2.2.2.2 = 10) (B : CB (EXl e bs L xs) l (rmm 12 5000 30000) cL_holds RL mn tb Ξ) {ρ : Nat → Nat} {J : Nat → Int64} {M : Mem} {n y z a b : Nat} (hn : n < 80) (hz : z < 1000000000) (ha : a ≤ 60 + 60 * n) (hb : b ≤ 600 + 330 * n) (s : SR (2 * n) M) (tl : ∀ (K : Mem) (a' b' : Nat), SR (2 * n + 1 + 1) K → a' ≤ a + 13 → b' ≤ b + 78 → G Ξ (wsd 5 ρ J K) a' b' 436 [(6, .int 1), (9, .int (nI z)), (8, .int (nI y)), (7, .int (nI n)), (5, .ref (ρ 12)), (4, .ref (ρ 11)), (3, .ref (ρ 10)), (2, .ref (ρ 9)), (1, .ref (ρ 0)), (0, .ref bs)] []) : G Ξ (wsd 5 ρ J M) a b 308 [(9, .int (nI z)), (8, .int (nI y)), (7, .int (nI n)), (6, .int 1), (5, .ref (ρ 12)), (4, .ref (ρ 11)), (3, .ref (ρ 10)), (2, .ref (ρ 9)), (1, .ref (ρ 0)), (0, .ref bs)] [] := by
  refine g_aload_n (j := 8) B dL_holds_308 rfl rfl ?_
  refine g_aload_n (j := 7) B dL_holds_309 rfl rfl ?_
  refine g_aload_n (j := 6) B dL_holds_310 rfl rfl ?_
  refine g_aload (j := 4) B dL_holds_311 rfl ?_
  refine g_iload (j := 0) B dL_holds_313 rfl ?_
  refine g_iconst (v := 3) B dL_holds_315 (by decide) ?_
  refine g_iremN z 3 (z % 3) B rfl rfl (by omega) (by decide) (by decide) rfl dL_holds_316 ?_
  have go : ∀ v : Int32, v = 0 ∨ v = 1 → G Ξ (wsd 5 ρ J M) a b 328 [(9, .int (nI z)), (8, .int (nI y)), (7, .int (nI n)), (6, .int 1), (5, .ref (ρ 12)), (4, .ref (ρ 11)), (3, .ref (ρ 10)), (2, .ref (ρ 9)), (1, .ref (ρ 0)), (0, .ref bs)] (.int v :: .ref (ρ 12) :: .ref (ρ 10) :: .ref (ρ 9) :: .ref (ρ 0) :: []) := by
    intro v hv
    obtain ⟨K, hK, hC⟩ : LwGo l (2 * n) yL_isStruck cL_isStruck 11 M (fun ρ => [.ref (ρ 0), .ref (ρ 9), .ref (ρ 10), .ref (ρ 12), .int v]) := by
      rcases hv with rfl | rfl
      · exact G_struck0 hl (by omega) s
      · exact G_struck1 hl (by omega) s
    refine g_lawS (nA := 5) B (hC ρ J) mw_381 mw_379 mw_380 mw_2 (by decide +kernel) ⟨(Nat.le_of_ble_eq_true rfl), (Nat.le_of_ble_eq_true rfl)⟩ rfl rfl (Nat.le_of_ble_eq_true rfl) dL_holds_328 ⟨show a + 13 ≤ 5000 by omega, show b + 78 ≤ 30000 by omega⟩ ?_
    refine g_istore (ls2 := [(6, .int 1), (9, .int (nI z)), (8, .int (nI y)), (7, .int (nI n)), (5, .ref (ρ 12)), (4, .ref (ρ 11)), (3, .ref (ρ 10)), (2, .ref (ρ 9)), (1, .ref (ρ 0)), (0, .ref bs)]) B hnL dL_holds_331 (by decide) rfl ?_
    refine g_goto (tgt := 436) B dL_holds_333 (by decide) ?_
    exact tl K _ _ (hK.idle (by omega)) (by omega) (by omega)
  refine g_if_ne (tgt := 324) B dL_holds_317 (by decide) (fun _ => ?_) (fun _ => ?_)
  · refine g_iload (j := 0) B dL_holds_324 rfl ?_
    refine g_iconst (v := 2) B dL_holds_326 (by decide) ?_
    refine g_iremN z 2 (z % 2) B rfl rfl (by omega) (by decide) (by decide) rfl dL_holds_327 ?_
    refine go _ ?_
    have h2 : z % 2 = 0 ∨ z % 2 = 1 := by omega
    rcases h2 with h2 | h2 <;> rw [h2]
    · exact Or.inl rfl
    · exact Or.inr rfl
  · refine g_iconst (v := 0) B dL_holds_320 (by decide) ?_
    refine g_goto (tgt := 328) B dL_holds_321 (by decide) ?_
    exact go _ (Or.inl rfl)
set_option maxRecDepth 100000 in
theorem w_housed {l : Launch} (hl : l.stackTraces = false) {mn : String} {e bs L : Nat} {xs : Nat → Int32} {tb : List ExceptionTableEntry} {Ξ : CT} (hnL : Ξ.2.2.2.2.2.2 = 10) (B : CB (EXl e bs L xs) l (rmm 12 5000 30000) cL_holds RL mn tb Ξ) {ρ : Nat → Nat} {J : Nat → Int64} {M : Mem} {n y z a b : Nat} (hn : n < 80) (hz : z < 1000000000) (ha : a ≤ 60 + 60 * n) (hb : b ≤ 600 + 330 * n) (s : SR (2 * n) M) (tl : ∀ (K : Mem) (a' b' : Nat), SR (2 * n + 1 + 1) K → a' ≤ a + 13 → b' ≤ b + 78 → G Ξ (wsd 5 ρ J K) a' b' 436 [(6, .int 1), (9, .int (nI z)), (8, .int (nI y)), (7, .int (nI n)), (5, .ref (ρ 12)), (4, .ref (ρ 11)), (3, .ref (ρ 10)), (2, .ref (ρ 9)), (1, .ref (ρ 0)), (0, .ref bs)] []) : G Ξ (wsd 5 ρ J M) a b 343 [(9, .int (nI z)), (8, .int (nI y)), (7, .int (nI n)), (6, .int 1), (5, .ref (ρ 12)), (4, .ref (ρ 11)), (3, .ref (ρ 10)), (2, .ref (ρ 9)), (1, .ref (ρ 0)), (0, .ref bs)] [] := by
  obtain ⟨K, hK, hC⟩ := G_house hl (by omega) s (k := z % 5) (by omega)
  refine g_aload_n (j := 8) B dL_holds_343 rfl rfl ?_
  refine g_aload_n (j := 7) B dL_holds_344 rfl rfl ?_
  refine g_iload (j := 0) B dL_holds_345 rfl ?_
  refine g_iconst (v := 5) B dL_holds_347 (by decide) ?_
  refine g_iremN z 5 (z % 5) B rfl rfl (by omega) (by decide) (by decide) rfl dL_holds_348 ?_
  refine g_lawS (nA := 3) B (hC ρ J) mw_400 mw_398 mw_399 mw_2 (by decide +kernel) ⟨(Nat.le_of_ble_eq_true rfl), (Nat.le_of_ble_eq_true rfl)⟩ rfl rfl (Nat.le_of_ble_eq_true rfl) dL_holds_349 ⟨show a + 13 ≤ 5000 by omega, show b + 78 ≤ 30000 by omega⟩ ?_
  refine g_istore (ls2 := [(6, .int 1), (9, .int (nI z)), (8, .int (nI y)), (7, .int (nI n)), (5, .ref (ρ 12)), (4, .ref (ρ 11)), (3, .ref (ρ 10)), (2, .ref (ρ 9)), (1, .ref (ρ 0)), (0, .ref bs)]) B hnL dL_holds_352 (by decide) rfl ?_
  refine g_goto (tgt := 436) B dL_holds_354 (by decide) ?_
  exact tl K _ _ (hK.idle (by omega)) (by omega) (by omega)
set_option maxRecDepth 100000 in
theorem w_dead {l : Launch} (hl : l.stackTraces = false) {mn : String} {e bs L : Nat} {xs : Nat → Int32} {tb : List ExceptionTableEntry} {Ξ : CT} (hnL : Ξ.2.2.2.2.2.2 = 10) (B : CB (EXl e bs L xs) l (rmm 12 5000 30000) cL_holds RL mn tb Ξ) {ρ : Nat → Nat} {J : Nat → Int64} {M : Mem} {n y z a b : Nat} (hn : n < 80) (hz : z < 1000000000) (ha : a ≤ 60 + 60 * n) (hb : b ≤ 600 + 330 * n) (s : SR (2 * n) M) (tl : ∀ (K : Mem) (a' b' : Nat), SR (2 * n + 1 + 1) K → a' ≤ a + 13 → b' ≤ b + 78 → G Ξ (wsd 5 ρ J K) a' b' 436 [(6, .int 1), (9, .int (nI z)), (8, .int (nI y)), (7, .int (nI n)), (5, .ref (ρ 12)), (4, .ref (ρ 11)), (3, .ref (ρ 10)), (2, .ref (ρ 9)), (1, .ref (ρ 0)), (0, .ref bs)] []) : G Ξ (wsd 5 ρ J M) a b 364 [(9, .int (nI z)), (8, .int (nI y)), (7, .int (nI n)), (6, .int 1), (5, .ref (ρ 12)), (4, .ref (ρ 11)), (3, .ref (ρ 10)), (2, .ref (ρ 9)), (1, .ref (ρ 0)), (0, .ref bs)] [] := by
  have go : ∀ (K : Mem) (a' b' : Nat), SR (2 * n + 1) K → a' ≤ a + 13 → b' ≤ b + 78 → G Ξ (wsd 5 ρ J K) a' b' 390 [(9, .int (nI z)), (8, .int (nI y)), (7, .int (nI n)), (6, .int 1), (5, .ref (ρ 12)), (4, .ref (ρ 11)), (3, .ref (ρ 10)), (2, .ref (ρ 9)), (1, .ref (ρ 0)), (0, .ref bs)] [] := by
    intro K a' b' hK h1 h2
    refine g_iconst (v := 1) B dL_holds_390 (by decide) ?_
    refine g_goto (tgt := 395) B dL_holds_391 (by decide) ?_
    refine g_istore (ls2 := [(6, .int 1), (9, .int (nI z)), (8, .int (nI y)), (7, .int (nI n)), (5, .ref (ρ 12)), (4, .ref (ρ 11)), (3, .ref (ρ 10)), (2, .ref (ρ 9)), (1, .ref (ρ 0)), (0, .ref bs)]) B hnL dL_holds_395 (by decide) rfl ?_
    refine g_goto (tgt := 436) B dL_holds_397 (by decide) ?_
    exact tl K _ _ (hK.idle (by omega)) h1 h2
  refine g_iload (j := 0) B dL_holds_364 rfl ?_
  refine g_iconst (v := 3) B dL_holds_366 (by decide) ?_
  refine g_iremN z 3 (z % 3) B rfl rfl (by omega) (by decide) (by decide) rfl dL_holds_367 ?_
  refine g_if_gt (tgt := 390) B dL_holds_368 (by decide) (fun _ => go M a b (s.idle (by omega)) (by omega) (by omega)) (fun _ => ?_)
  obtain ⟨K, hK, hC⟩ := G_dead hl (by omega) s (k := z / 3 % 5) (by omega)
  refine g_aload_n (j := 8) B dL_holds_371 rfl rfl ?_
  refine g_aload_n (j := 7) B dL_holds_372 rfl rfl ?_
  refine g_aload_n (j := 6) B dL_holds_373 rfl rfl ?_
  refine g_aload (j := 5) B dL_holds_374 rfl ?_
  refine g_aload (j := 4) B dL_holds_376 rfl ?_
  refine g_iload (j := 0) B dL_holds_378 rfl ?_
  refine g_iconst (v := 3) B dL_holds_380 (by decide) ?_
  refine g_idivN z 3 (z / 3) B rfl rfl (by omega) (by decide) (by decide) rfl dL_holds_381 ?_
  refine g_iconst (v := 5) B dL_holds_382 (by decide) ?_
  refine g_iremN (z / 3) 5 ((z / 3) % 5) B rfl rfl (by omega) (by decide) (by decide) rfl dL_holds_383 ?_
  refine g_lawS (nA := 6) B (hC ρ J) mw_411 mw_409 mw_410 mw_2 (by decide +kernel) ⟨(Nat.le_of_ble_eq_true rfl), (Nat.le_of_ble_eq_true rfl)⟩ rfl rfl (Nat.le_of_ble_eq_true rfl) dL_holds_384 ⟨show a + 13 ≤ 5000 by omega, show b + 78 ≤ 30000 by omega⟩ ?_
  refine g_if_eq (tgt := 394) B dL_holds_387 (by decide) (fun h => absurd h (by decide)) (fun _ => ?_)
  exact go K _ _ hK (by omega) (by omega)
set_option maxRecDepth 100000 in
theorem w_closed {l : Launch} (hl : l.stackTraces = false) {mn : String} {e bs L : Nat} {xs : Nat → Int32} {tb : List ExceptionTableEntry} {Ξ : CT} (hnL : Ξ.2.2.2.2.2.2 = 10) (B : CB (EXl e bs L xs) l (rmm 12 5000 30000) cL_holds RL mn tb Ξ) {ρ : Nat → Nat} {J : Nat → Int64} {M : Mem} {n y z a b : Nat} (hn : n < 80) (hz : z < 1000000000) (ha : a ≤ 60 + 60 * n) (hb : b ≤ 600 + 330 * n) (s : SR (2 * n) M) (tl : ∀ (K : Mem) (a' b' : Nat), SR (2 * n + 1 + 1) K → a' ≤ a + 13 → b' ≤ b + 78 → G Ξ (wsd 5 ρ J K) a' b' 436 [(6, .int 1), (9, .int (nI z)), (8, .int (nI y)), (7, .int (nI n)), (5, .ref (ρ 12)), (4, .ref (ρ 11)), (3, .ref (ρ 10)), (2, .ref (ρ 9)), (1, .ref (ρ 0)), (0, .ref bs)] []) : G Ξ (wsd 5 ρ J M) a b 400 [(9, .int (nI z)), (8, .int (nI y)), (7, .int (nI n)), (6, .int 1), (5, .ref (ρ 12)), (4, .ref (ρ 11)), (3, .ref (ρ 10)), (2, .ref (ρ 9)), (1, .ref (ρ 0)), (0, .ref bs)] [] := by
  have go : ∀ (K : Mem) (a' b' : Nat), SR (2 * n + 1) K → a' ≤ a + 13 → b' ≤ b + 78 → G Ξ (wsd 5 ρ J K) a' b' 429 [(9, .int (nI z)), (8, .int (nI y)), (7, .int (nI n)), (6, .int 1), (5, .ref (ρ 12)), (4, .ref (ρ 11)), (3, .ref (ρ 10)), (2, .ref (ρ 9)), (1, .ref (ρ 0)), (0, .ref bs)] [] := by
    intro K a' b' hK h1 h2
    refine g_iconst (v := 1) B dL_holds_429 (by decide) ?_
    refine g_goto (tgt := 434) B dL_holds_430 (by decide) ?_
    refine g_istore (ls2 := [(6, .int 1), (9, .int (nI z)), (8, .int (nI y)), (7, .int (nI n)), (5, .ref (ρ 12)), (4, .ref (ρ 11)), (3, .ref (ρ 10)), (2, .ref (ρ 9)), (1, .ref (ρ 0)), (0, .ref bs)]) B hnL dL_holds_434 (by decide) rfl ?_
    exact tl K _ _ (hK.idle (by omega)) h1 h2
  refine g_iload (j := 2) B dL_holds_400 rfl ?_
  refine g_bipush (v := 40) B dL_holds_402 (by decide) ?_
  refine g_icmp_lt (tgt := 429) B dL_holds_404 (by decide) (fun _ => go M a b (s.idle (by omega)) (by omega) (by omega)) (fun _ => ?_)
  refine g_iload (j := 0) B dL_holds_407 rfl ?_
  refine g_iconst (v := 3) B dL_holds_409 (by decide) ?_
  refine g_iremN z 3 (z % 3) B rfl rfl (by omega) (by decide) (by decide) rfl dL_holds_410 ?_
  refine g_if_gt (tgt := 429) B dL_holds_411 (by decide) (fun _ => go M a b (s.idle (by omega)) (by omega) (by omega)) (fun _ => ?_)
  obtain ⟨K, hK, hC⟩ := G_closed hl (by omega) s (z := z / 3) (by omega)
  refine g_aload_n (j := 8) B dL_holds_414 rfl rfl ?_
  refine g_aload_n (j := 7) B dL_holds_415 rfl rfl ?_
  refine g_aload_n (j := 6) B dL_holds_416 rfl rfl ?_
  refine g_aload (j := 4) B dL_holds_417 rfl ?_
  refine g_iload (j := 0) B dL_holds_419 rfl ?_
  refine g_iconst (v := 3) B dL_holds_421 (by decide) ?_
  refine g_idivN z 3 (z / 3) B rfl rfl (by omega) (by decide) (by decide) rfl dL_holds_422 ?_
  refine g_lawS (nA := 5) B (hC ρ J) mw_438 mw_436 mw_437 mw_2 (by decide +kernel) ⟨(Nat.le_of_ble_eq_true rfl), (Nat.le_of_ble_eq_true rfl)⟩ rfl rfl (Nat.le_of_ble_eq_true rfl) dL_holds_423 ⟨show a + 13 ≤ 5000 by omega, show b + 78 ≤ 30000 by omega⟩ ?_
  refine g_if_eq (tgt := 433) B dL_holds_426 (by decide) (fun h => absurd h (by decide)) (fun _ => ?_)
  exact go K _ _ hK (by omega) (by omega)
set_option maxRecDepth 100000 in
theorem holds_loop {l : Launch} (hl : l.stackTraces = false) {mn : String} {e bs L : Nat} {xs : Nat → Int32} (hL : L < 2 ^ 31) {tb : List ExceptionTableEntry} {Ξ : CT} (hnL : Ξ.2.2.2.2.2.2 = 10) (B : CB (EXl e bs L xs) l (rmm 12 5000 30000) cL_holds RL mn tb Ξ) {ρ : Nat → Nat} {J : Nat → Int64} (hret : ∀ (w : Wd) (a b : Nat) (ls : List (Nat × Value)), a ≤ 5000 → b ≤ 30000 → G Ξ w a b 474 ls [.int 1]) :
    ∀ (f n : Nat) (M : Mem) (a b : Nat), n + f = 80 → SR (2 * n) M → a ≤ 60 + 60 * n → b ≤ 600 + 330 * n → G Ξ (wsd 5 ρ J M) a b 155 [(7, .int (nI n)), (6, .int 1), (5, .ref (ρ 12)), (4, .ref (ρ 11)), (3, .ref (ρ 10)), (2, .ref (ρ 9)), (1, .ref (ρ 0)), (0, .ref bs)] [] := by
  intro f
  induction f with
  | zero =>
    intro n M a b hn s ha hb
    refine g_iload (j := 0) B dL_holds_155 rfl ?_
    refine g_bipush (v := 80) B dL_holds_157 (by decide) ?_
    refine g_icmp_ge (tgt := 472) B dL_holds_159 (by decide) (fun _ => ?_) (fun h => absurd ((nI_leI (a := 80) (b := n) (by omega) (by omega)).mpr (by omega)) h)
    refine g_iload (j := 1) B dL_holds_472 rfl ?_
    exact hret _ _ _ _ (by omega) (by omega)
  | succ f ih =>
    intro n M a b hn s ha hb
    refine g_iload (j := 0) B dL_holds_155 rfl ?_
    refine g_bipush (v := 80) B dL_holds_157 (by decide) ?_
    refine g_icmp_ge (tgt := 472) B dL_holds_159 (by decide) (fun h => absurd ((nI_leI (a := 80) (b := n) (by omega) (by omega)).mp h) (by omega)) (fun _ => ?_)
    refine g_iload (j := 1) B dL_holds_162 rfl ?_
    refine g_if_eq (tgt := 472) B dL_holds_164 (by decide) (fun h => absurd h (by decide)) (fun _ => ?_)
    refine g_aload_n (j := 7) B dL_holds_167 rfl rfl ?_
    refine g_iconst (v := 2) B dL_holds_168 (by decide) ?_
    refine g_iload (j := 0) B dL_holds_169 rfl ?_
    refine g_imulN 2 n (2 * n) B rfl rfl rfl dL_holds_171 ?_
    refine g_bipush (v := 32) B dL_holds_172 (by decide) ?_
    refine g_callS (nA := 3) (As := [.ref bs, .int (nI (2 * n)), .int 32]) B (c_from hl (e := e) (xs := xs) hL (k := 2 * n) (below := 32) (by omega) (by decide) (by decide)) (fun _ _ _ h => h) EXl.carr mw_133 mw_131 mw_132 mw_2 (by decide +kernel) ⟨(Nat.le_of_ble_eq_true rfl), (Nat.le_of_ble_eq_true rfl)⟩ rfl rfl (Nat.le_of_ble_eq_true rfl) dL_holds_174 ⟨show a + 0 ≤ 5000 by omega, show b + 0 ≤ 30000 by omega⟩ (fun _ _ h => h.elim) (fun v u hvu => ?_)
    obtain ⟨y, hy, rfl, rfl⟩ := hvu
    refine g_istore (ls2 := [(8, .int (nI y)), (7, .int (nI n)), (6, .int 1), (5, .ref (ρ 12)), (4, .ref (ρ 11)), (3, .ref (ρ 10)), (2, .ref (ρ 9)), (1, .ref (ρ 0)), (0, .ref bs)]) B hnL dL_holds_177 (by decide) rfl ?_
    refine g_aload_n (j := 8) B dL_holds_179 rfl rfl ?_
    refine g_iconst (v := 2) B dL_holds_180 (by decide) ?_
    refine g_iload (j := 1) B dL_holds_181 rfl ?_
    refine g_imulN 2 n (2 * n) B rfl rfl rfl dL_holds_183 ?_
    refine g_iconst (v := 1) B dL_holds_184 (by decide) ?_
    refine g_iaddN (2 * n) 1 ((2 * n) + 1) B rfl rfl rfl dL_holds_185 ?_
    refine g_ldc (v := 1000000000) B dL_holds_186 mw_14 ?_
    refine g_callS (nA := 3) (As := [.ref bs, .int (nI (2 * n + 1)), .int 1000000000]) B (c_from hl (e := e) (xs := xs) hL (k := 2 * n + 1) (below := 1000000000) (by omega) (by decide) (by decide)) (fun _ _ _ h => h) EXl.carr mw_133 mw_131 mw_132 mw_2 (by decide +kernel) ⟨(Nat.le_of_ble_eq_true rfl), (Nat.le_of_ble_eq_true rfl)⟩ rfl rfl (Nat.le_of_ble_eq_true rfl) dL_holds_188 ⟨show a + 0 + 0 ≤ 5000 by omega, show b + 0 + 0 ≤ 30000 by omega⟩ (fun _ _ h => h.elim) (fun v u hvu => ?_)
    obtain ⟨z, hz, rfl, rfl⟩ := hvu
    refine g_cnt (a' := a) (b' := b) rfl rfl ?_
    refine g_istore (ls2 := [(9, .int (nI z)), (8, .int (nI y)), (7, .int (nI n)), (6, .int 1), (5, .ref (ρ 12)), (4, .ref (ρ 11)), (3, .ref (ρ 10)), (2, .ref (ρ 9)), (1, .ref (ρ 0)), (0, .ref bs)]) B hnL dL_holds_191 (by decide) rfl ?_
    have tl : ∀ (K : Mem) (a' b' : Nat), SR (2 * n + 1 + 1) K → a' ≤ a + 13 → b' ≤ b + 78 → G Ξ (wsd 5 ρ J K) a' b' 436 [(6, .int 1), (9, .int (nI z)), (8, .int (nI y)), (7, .int (nI n)), (5, .ref (ρ 12)), (4, .ref (ρ 11)), (3, .ref (ρ 10)), (2, .ref (ρ 9)), (1, .ref (ρ 0)), (0, .ref bs)] [] := by
      intro K a' b' hK h1 h2
      refine g_iload (j := 0) B dL_holds_436 rfl ?_
      refine g_if_eq (tgt := 463) B dL_holds_438 (by decide) (fun h => absurd h (by decide)) (fun _ => ?_)
      refine g_aload_n (j := 8) B dL_holds_441 rfl rfl ?_
      refine g_aload_n (j := 7) B dL_holds_442 rfl rfl ?_
      refine g_aload_n (j := 6) B dL_holds_443 rfl rfl ?_
      refine g_aload (j := 5) B dL_holds_444 rfl ?_
      refine g_aload (j := 4) B dL_holds_446 rfl ?_
      refine g_iload (j := 1) B dL_holds_448 rfl ?_
      refine g_bipush (v := 7) B dL_holds_450 (by decide) ?_
      refine g_idivN z 7 (z / 7) B rfl rfl (by omega) (by decide) (by decide) rfl dL_holds_452 ?_
      refine g_lawS (nA := 6) B (G_same hl hK (z := z / 7) (by omega) ρ J) mw_450 mw_448 mw_449 mw_2 (by decide +kernel) ⟨(Nat.le_of_ble_eq_true rfl), (Nat.le_of_ble_eq_true rfl)⟩ rfl rfl (Nat.le_of_ble_eq_true rfl) dL_holds_453 ⟨show a' + 40 ≤ 5000 by omega, show b' + 240 ≤ 30000 by omega⟩ ?_
      refine g_if_eq (tgt := 463) B dL_holds_456 (by decide) (fun h => absurd h (by decide)) (fun _ => ?_)
      refine g_iconst (v := 1) B dL_holds_459 (by decide) ?_
      refine g_goto (tgt := 464) B dL_holds_460 (by decide) ?_
      refine g_istore (ls2 := [(6, .int 1), (9, .int (nI z)), (8, .int (nI y)), (7, .int (nI n)), (5, .ref (ρ 12)), (4, .ref (ρ 11)), (3, .ref (ρ 10)), (2, .ref (ρ 9)), (1, .ref (ρ 0)), (0, .ref bs)]) B hnL dL_holds_464 (by decide) rfl ?_
      refine g_iinc (j := 3) (v := (nI (n + 1))) (ls2 := [(7, .int (nI (n + 1))), (6, .int 1), (9, .int (nI z)), (8, .int (nI y)), (5, .ref (ρ 12)), (4, .ref (ρ 11)), (3, .ref (ρ 10)), (2, .ref (ρ 9)), (1, .ref (ρ 0)), (0, .ref bs)]) B hnL dL_holds_466 rfl (nI_add (n) 1) (by decide) rfl ?_
      refine g_goto (tgt := 155) B dL_holds_469 (by decide) ?_
      exact g_sub [0, 1, 4, 5, 6, 7, 8, 9] rfl (ih (n + 1) K _ _ (by omega) hK (by omega) (by omega))
    refine g_iload (j := 1) B dL_holds_193 rfl ?_
    refine g_bipush (v := 8) B dL_holds_195 (by decide) ?_
    refine g_icmp_ge (tgt := 214) B dL_holds_197 (by decide) (fun _ => ?_) (fun _ => w_hewn hl hnL B (by omega) hz ha hb s tl)
    refine g_iload (j := 1) B dL_holds_214 rfl ?_
    refine g_bipush (v := 12) B dL_holds_216 (by decide) ?_
    refine g_icmp_ge (tgt := 234) B dL_holds_218 (by decide) (fun _ => ?_) (fun _ => w_payday hl hnL B (by omega) hz ha hb s tl)
    refine g_iload (j := 1) B dL_holds_234 rfl ?_
    refine g_bipush (v := 18) B dL_holds_236 (by decide) ?_
    refine g_icmp_ge (tgt := 258) B dL_holds_238 (by decide) (fun _ => ?_) (fun _ => w_bought hl hnL B (by omega) hz ha hb s tl)
    refine g_iload (j := 1) B dL_holds_258 rfl ?_
    refine g_bipush (v := 20) B dL_holds_260 (by decide) ?_
    refine g_icmp_ge (tgt := 280) B dL_holds_262 (by decide) (fun _ => ?_) (fun _ => w_changed hl hnL B (by omega) hz ha hb s tl)
    refine g_iload (j := 1) B dL_holds_280 rfl ?_
    refine g_bipush (v := 27) B dL_holds_282 (by decide) ?_
    refine g_icmp_ge (tgt := 301) B dL_holds_284 (by decide) (fun _ => ?_) (fun _ => w_told hl hnL B (by omega) hz ha hb s tl)
    refine g_iload (j := 1) B dL_holds_301 rfl ?_
    refine g_bipush (v := 29) B dL_holds_303 (by decide) ?_
    refine g_icmp_ge (tgt := 336) B dL_holds_305 (by decide) (fun _ => ?_) (fun _ => w_struck hl hnL B (by omega) hz ha hb s tl)
    refine g_iload (j := 1) B dL_holds_336 rfl ?_
    refine g_bipush (v := 29) B dL_holds_338 (by decide) ?_
    refine g_icmp_ne (tgt := 357) B dL_holds_340 (by decide) (fun _ => ?_) (fun _ => w_housed hl hnL B (by omega) hz ha hb s tl)
    refine g_iload (j := 1) B dL_holds_357 rfl ?_
    refine g_bipush (v := 30) B dL_holds_359 (by decide) ?_
    refine g_icmp_ne (tgt := 400) B dL_holds_361 (by decide) (fun _ => ?_) (fun _ => w_dead hl hnL B (by omega) hz ha hb s tl)
    exact w_closed hl hnL B (by omega) hz ha hb s tl
