/-! The class's smaller methods. -/
abbrev rI (r : Int32) (M : Mem) : Out := (.inr (some (.int r)), M)
abbrev rV (M : Mem) : Out := (.inr none, M)
abbrev rX (Ex : String) (M : Mem) : Out := (.inl Ex, M)
def o_dock (M : Mem) (x : Int32) : Out := if x < 0 ∨ 50 < x then rX IA M else rI (M 0 1) (up M 0 1 x)
set_option maxRecDepth 100000 in
set_option maxHeartbeats 4000000 in
theorem c_X2_dock {l : Launch} (hl : l.stackTraces = false) {n : Nat} {ρ : Nat → Nat} {J : Nat → Int64} {M : Mem} {x : Int32} : CtO l yX2_dock cX2_dock 3 (some .int) 7 1 6 n ρ J M [.ref (ρ 0), .int x] (o_dock M x) := by
  refine CtO.of hl (by decide +kernel) (Nat.le_of_ble_eq_true rfl) (fun Ξ hnL C => ?_)
  show E Ξ n ρ J M 0 0 0 [(0, .ref (ρ 0)), (1, .int x)] []
  by_cases h : x < 0 ∨ 50 < x
  · refine e_iload_n (j := 1) C dX2_dock_0 rfl rfl ?_
    refine e_iconst (v := 0) C dX2_dock_1 (by decide) ?_
    refine e_bipush (v := 50) C dX2_dock_2 (by decide) ?_
    exact e_cSx (nA := 3) C (c_X2_requireRange_x hl h) rfl mw_175 mw_173 mw_174 mw_12 (by decide +kernel) (by decide) rfl rfl (Nat.le_of_ble_eq_true rfl) dX2_dock_4 (Nat.le_of_ble_eq_true rfl) (Nat.le_of_ble_eq_true rfl) (by subst_vars; unfold o_dock; (repeat (first | rw [if_pos (by assumption)] | rw [if_neg (by assumption)])); (try rfl))
  · refine e_iload_n (j := 1) C dX2_dock_0 rfl rfl ?_
    refine e_iconst (v := 0) C dX2_dock_1 (by decide) ?_
    refine e_bipush (v := 50) C dX2_dock_2 (by decide) ?_
    refine e_cS (nA := 3) C (c_X2_requireRange hl (rng_ok h).1 (rng_ok h).2) rfl mw_175 mw_173 mw_174 mw_12 (by decide +kernel) (by decide) rfl rfl (Nat.le_of_ble_eq_true rfl) dX2_dock_4 (Nat.le_of_ble_eq_true rfl) (Nat.le_of_ble_eq_true rfl) ?_
    refine e_aload_n (j := 0) C dX2_dock_7 rfl rfl ?_
    refine e_get2 (k := 1) (ref := "ScripHollow") C (by decide) rfl rfl mw_25 dX2_dock_8 ?_
    refine e_topi (fun x2_11 ex2_11 => ?_)
    refine e_istore_n (ls2 := [(2, .int x2_11), (0, .ref (ρ 0)), (1, .int x)]) C hnL dX2_dock_11 rfl (by decide) rfl ?_
    refine e_aload_n (j := 1) C dX2_dock_12 rfl rfl ?_
    refine e_iload_n (j := 2) C dX2_dock_13 rfl rfl ?_
    refine e_put2 (k := 1) (ref := "ScripHollow") (ty := .int) C (by decide) rfl rfl (by decide +kernel) rfl rfl rfl mw_25 dX2_dock_14 ?_
    refine e_iload_n (j := 0) C dX2_dock_17 rfl rfl ?_
    exact e_iret C rfl (Nat.le_of_ble_eq_true rfl) (Nat.le_of_ble_eq_true rfl) dX2_dock_18 (pO.mk (by subst_vars; unfold o_dock; (repeat (first | rw [if_pos (by assumption)] | rw [if_neg (by assumption)])); (try rfl)))
def o_limit (M : Mem) (x : Int32) : Out := if x < 0 ∨ 1000 < x then rX IA M else rI (M 0 9) (up M 0 9 x)
set_option maxRecDepth 100000 in
set_option maxHeartbeats 4000000 in
theorem c_X2_limit {l : Launch} (hl : l.stackTraces = false) {n : Nat} {ρ : Nat → Nat} {J : Nat → Int64} {M : Mem} {x : Int32} : CtO l yX2_limit cX2_limit 3 (some .int) 7 1 6 n ρ J M [.ref (ρ 0), .int x] (o_limit M x) := by
  refine CtO.of hl (by decide +kernel) (Nat.le_of_ble_eq_true rfl) (fun Ξ hnL C => ?_)
  show E Ξ n ρ J M 0 0 0 [(0, .ref (ρ 0)), (1, .int x)] []
  by_cases h : x < 0 ∨ 1000 < x
  · refine e_iload_n (j := 1) C dX2_limit_0 rfl rfl ?_
    refine e_iconst (v := 0) C dX2_limit_1 (by decide) ?_
    refine e_sipush (v := 1000) C dX2_limit_2 (by decide) ?_
    exact e_cSx (nA := 3) C (c_X2_requireRange_x hl h) rfl mw_175 mw_173 mw_174 mw_12 (by decide +kernel) (by decide) rfl rfl (Nat.le_of_ble_eq_true rfl) dX2_limit_5 (Nat.le_of_ble_eq_true rfl) (Nat.le_of_ble_eq_true rfl) (by subst_vars; unfold o_limit; (repeat (first | rw [if_pos (by assumption)] | rw [if_neg (by assumption)])); (try rfl))
  · refine e_iload_n (j := 1) C dX2_limit_0 rfl rfl ?_
    refine e_iconst (v := 0) C dX2_limit_1 (by decide) ?_
    refine e_sipush (v := 1000) C dX2_limit_2 (by decide) ?_
    refine e_cS (nA := 3) C (c_X2_requireRange hl (rng_ok h).1 (rng_ok h).2) rfl mw_175 mw_173 mw_174 mw_12 (by decide +kernel) (by decide) rfl rfl (Nat.le_of_ble_eq_true rfl) dX2_limit_5 (Nat.le_of_ble_eq_true rfl) (Nat.le_of_ble_eq_true rfl) ?_
    refine e_aload_n (j := 0) C dX2_limit_8 rfl rfl ?_
    refine e_get2 (k := 9) (ref := "ScripHollow") C (by decide) rfl rfl mw_34 dX2_limit_9 ?_
    refine e_topi (fun x2_12 ex2_12 => ?_)
    refine e_istore_n (ls2 := [(2, .int x2_12), (0, .ref (ρ 0)), (1, .int x)]) C hnL dX2_limit_12 rfl (by decide) rfl ?_
    refine e_aload_n (j := 1) C dX2_limit_13 rfl rfl ?_
    refine e_iload_n (j := 2) C dX2_limit_14 rfl rfl ?_
    refine e_put2 (k := 9) (ref := "ScripHollow") (ty := .int) C (by decide) rfl rfl (by decide +kernel) rfl rfl rfl mw_34 dX2_limit_15 ?_
    refine e_iload_n (j := 0) C dX2_limit_18 rfl rfl ?_
    exact e_iret C rfl (Nat.le_of_ble_eq_true rfl) (Nat.le_of_ble_eq_true rfl) dX2_limit_19 (pO.mk (by subst_vars; unfold o_limit; (repeat (first | rw [if_pos (by assumption)] | rw [if_neg (by assumption)])); (try rfl)))
def o_discount (M : Mem) (x : Int32) : Out := if x < 0 ∨ 90 < x then rX IA M else rI (M 0 10) (up M 0 10 x)
set_option maxRecDepth 100000 in
set_option maxHeartbeats 4000000 in
theorem c_X2_discount {l : Launch} (hl : l.stackTraces = false) {n : Nat} {ρ : Nat → Nat} {J : Nat → Int64} {M : Mem} {x : Int32} : CtO l yX2_discount cX2_discount 3 (some .int) 7 1 6 n ρ J M [.ref (ρ 0), .int x] (o_discount M x) := by
  refine CtO.of hl (by decide +kernel) (Nat.le_of_ble_eq_true rfl) (fun Ξ hnL C => ?_)
  show E Ξ n ρ J M 0 0 0 [(0, .ref (ρ 0)), (1, .int x)] []
  by_cases h : x < 0 ∨ 90 < x
  · refine e_iload_n (j := 1) C dX2_discount_0 rfl rfl ?_
    refine e_iconst (v := 0) C dX2_discount_1 (by decide) ?_
    refine e_bipush (v := 90) C dX2_discount_2 (by decide) ?_
    exact e_cSx (nA := 3) C (c_X2_requireRange_x hl h) rfl mw_175 mw_173 mw_174 mw_12 (by decide +kernel) (by decide) rfl rfl (Nat.le_of_ble_eq_true rfl) dX2_discount_4 (Nat.le_of_ble_eq_true rfl) (Nat.le_of_ble_eq_true rfl) (by subst_vars; unfold o_discount; (repeat (first | rw [if_pos (by assumption)] | rw [if_neg (by assumption)])); (try rfl))
  · refine e_iload_n (j := 1) C dX2_discount_0 rfl rfl ?_
    refine e_iconst (v := 0) C dX2_discount_1 (by decide) ?_
    refine e_bipush (v := 90) C dX2_discount_2 (by decide) ?_
    refine e_cS (nA := 3) C (c_X2_requireRange hl (rng_ok h).1 (rng_ok h).2) rfl mw_175 mw_173 mw_174 mw_12 (by decide +kernel) (by decide) rfl rfl (Nat.le_of_ble_eq_true rfl) dX2_discount_4 (Nat.le_of_ble_eq_true rfl) (Nat.le_of_ble_eq_true rfl) ?_
    refine e_aload_n (j := 0) C dX2_discount_7 rfl rfl ?_
    refine e_get2 (k := 10) (ref := "ScripHollow") C (by decide) rfl rfl mw_35 dX2_discount_8 ?_
    refine e_topi (fun x2_11 ex2_11 => ?_)
    refine e_istore_n (ls2 := [(2, .int x2_11), (0, .ref (ρ 0)), (1, .int x)]) C hnL dX2_discount_11 rfl (by decide) rfl ?_
    refine e_aload_n (j := 1) C dX2_discount_12 rfl rfl ?_
    refine e_iload_n (j := 2) C dX2_discount_13 rfl rfl ?_
    refine e_put2 (k := 10) (ref := "ScripHollow") (ty := .int) C (by decide) rfl rfl (by decide +kernel) rfl rfl rfl mw_35 dX2_discount_14 ?_
    refine e_iload_n (j := 0) C dX2_discount_17 rfl rfl ?_
    exact e_iret C rfl (Nat.le_of_ble_eq_true rfl) (Nat.le_of_ble_eq_true rfl) dX2_discount_18 (pO.mk (by subst_vars; unfold o_discount; (repeat (first | rw [if_pos (by assumption)] | rw [if_neg (by assumption)])); (try rfl)))
set_option maxRecDepth 100000 in
set_option maxHeartbeats 4000000 in
theorem c_X2_check {l : Launch} (hl : l.stackTraces = false) {n : Nat} {ρ : Nat → Nat} {J : Nat → Int64} {M : Mem} {x : Int32} (hx : isB x) (hb : isB (M 0 2)) : CtO l yX2_check cX2_check 3 (some .boolean) 0 0 0 n ρ J M [.ref (ρ 0), .int x] (rI (M 0 2) (up M 0 2 x)) := by
  refine CtO.of hl (by decide +kernel) (Nat.le_of_ble_eq_true rfl) (fun Ξ hnL C => ?_)
  show E Ξ n ρ J M 0 0 0 [(0, .ref (ρ 0)), (1, .int x)] []
  refine e_aload_n (j := 0) C dX2_check_0 rfl rfl ?_
  refine e_get2 (k := 2) (ref := "ScripHollow") C (by decide) rfl rfl mw_146 dX2_check_1 ?_
  refine e_topi (fun x2_4 ex2_4 => ?_)
  refine e_istore_n (ls2 := [(2, .int x2_4), (0, .ref (ρ 0)), (1, .int x)]) C hnL dX2_check_4 rfl (by decide) rfl ?_
  refine e_aload_n (j := 1) C dX2_check_5 rfl rfl ?_
  refine e_iload_n (j := 2) C dX2_check_6 rfl rfl ?_
  refine e_put2 (k := 2) (ref := "ScripHollow") (ty := .boolean) C (by decide) rfl rfl (by decide +kernel) (isB.nar (by assumption)) (isB.fit (by assumption)) rfl mw_146 dX2_check_7 ?_
  refine e_iload_n (j := 0) C dX2_check_10 rfl rfl ?_
  exact e_zret C rfl (isB.nar (by subst_vars; assumption)) (Nat.le_of_ble_eq_true rfl) (Nat.le_of_ble_eq_true rfl) dX2_check_11 (pO.mk (by subst_vars; rfl))
set_option maxRecDepth 100000 in
set_option maxHeartbeats 4000000 in
theorem c_X2_obey {l : Launch} (hl : l.stackTraces = false) {n : Nat} {ρ : Nat → Nat} {J : Nat → Int64} {M : Mem} {x : Int32} (hx : isB x) (hb : isB (M 0 12)) : CtO l yX2_obey cX2_obey 3 (some .boolean) 0 0 0 n ρ J M [.ref (ρ 0), .int x] (rI (M 0 12) (up M 0 12 x)) := by
  refine CtO.of hl (by decide +kernel) (Nat.le_of_ble_eq_true rfl) (fun Ξ hnL C => ?_)
  show E Ξ n ρ J M 0 0 0 [(0, .ref (ρ 0)), (1, .int x)] []
  refine e_aload_n (j := 0) C dX2_obey_0 rfl rfl ?_
  refine e_get2 (k := 12) (ref := "ScripHollow") C (by decide) rfl rfl mw_224 dX2_obey_1 ?_
  refine e_topi (fun x2_4 ex2_4 => ?_)
  refine e_istore_n (ls2 := [(2, .int x2_4), (0, .ref (ρ 0)), (1, .int x)]) C hnL dX2_obey_4 rfl (by decide) rfl ?_
  refine e_aload_n (j := 1) C dX2_obey_5 rfl rfl ?_
  refine e_iload_n (j := 2) C dX2_obey_6 rfl rfl ?_
  refine e_put2 (k := 12) (ref := "ScripHollow") (ty := .boolean) C (by decide) rfl rfl (by decide +kernel) (isB.nar (by assumption)) (isB.fit (by assumption)) rfl mw_224 dX2_obey_7 ?_
  refine e_iload_n (j := 0) C dX2_obey_10 rfl rfl ?_
  exact e_zret C rfl (isB.nar (by subst_vars; assumption)) (Nat.le_of_ble_eq_true rfl) (Nat.le_of_ble_eq_true rfl) dX2_obey_11 (pO.mk (by subst_vars; rfl))
set_option maxRecDepth 100000 in
set_option maxHeartbeats 4000000 in
theorem c_X2_breaches {l : Launch} (hl : l.stackTraces = false) {n : Nat} {ρ : Nat → Nat} {J : Nat → Int64} {M : Mem}  : CtO l yX2_breaches cX2_breaches 1 (some .int) 0 0 0 n ρ J M [.ref (ρ 0)] (rI (M 0 13) M) := by
  refine CtO.of hl (by decide +kernel) (Nat.le_of_ble_eq_true rfl) (fun Ξ hnL C => ?_)
  show E Ξ n ρ J M 0 0 0 [(0, .ref (ρ 0))] []
  refine e_aload_n (j := 0) C dX2_breaches_0 rfl rfl ?_
  refine e_get2 (k := 13) (ref := "ScripHollow") C (by decide) rfl rfl mw_234 dX2_breaches_1 ?_
  exact e_iret C rfl (Nat.le_of_ble_eq_true rfl) (Nat.le_of_ble_eq_true rfl) dX2_breaches_4 (pO.mk rfl)
def o_give (M : Mem) (x : Int32) : Out := if x < 1 ∨ 1000 < x then rX IA M else rI (up M 0 16 (M 0 16 + x) 0 16) (up M 0 16 (M 0 16 + x))
set_option maxRecDepth 100000 in
set_option maxHeartbeats 4000000 in
theorem c_X2_give {l : Launch} (hl : l.stackTraces = false) {n : Nat} {ρ : Nat → Nat} {J : Nat → Int64} {M : Mem} {x : Int32} : CtO l yX2_give cX2_give 2 (some .int) 7 1 6 n ρ J M [.ref (ρ 0), .int x] (o_give M x) := by
  refine CtO.of hl (by decide +kernel) (Nat.le_of_ble_eq_true rfl) (fun Ξ hnL C => ?_)
  show E Ξ n ρ J M 0 0 0 [(0, .ref (ρ 0)), (1, .int x)] []
  by_cases h : x < 1 ∨ 1000 < x
  · refine e_iload_n (j := 1) C dX2_give_0 rfl rfl ?_
    refine e_iconst (v := 1) C dX2_give_1 (by decide) ?_
    refine e_sipush (v := 1000) C dX2_give_2 (by decide) ?_
    exact e_cSx (nA := 3) C (c_X2_requireRange_x hl h) rfl mw_175 mw_173 mw_174 mw_12 (by decide +kernel) (by decide) rfl rfl (Nat.le_of_ble_eq_true rfl) dX2_give_5 (Nat.le_of_ble_eq_true rfl) (Nat.le_of_ble_eq_true rfl) (by subst_vars; unfold o_give; (repeat (first | rw [if_pos (by assumption)] | rw [if_neg (by assumption)])); (try rfl))
  · refine e_iload_n (j := 1) C dX2_give_0 rfl rfl ?_
    refine e_iconst (v := 1) C dX2_give_1 (by decide) ?_
    refine e_sipush (v := 1000) C dX2_give_2 (by decide) ?_
    refine e_cS (nA := 3) C (c_X2_requireRange hl (rng_ok h).1 (rng_ok h).2) rfl mw_175 mw_173 mw_174 mw_12 (by decide +kernel) (by decide) rfl rfl (Nat.le_of_ble_eq_true rfl) dX2_give_5 (Nat.le_of_ble_eq_true rfl) (Nat.le_of_ble_eq_true rfl) ?_
    refine e_aload_n (j := 0) C dX2_give_8 rfl rfl ?_
    refine e_dup C dX2_give_9 rfl ?_
    refine e_get2 (k := 16) (ref := "ScripHollow") C (by decide) rfl rfl mw_368 dX2_give_10 ?_
    refine e_iload_n (j := 1) C dX2_give_13 rfl rfl ?_
    refine e_iadd C dX2_give_14 ?_
    refine e_put2 (k := 16) (ref := "ScripHollow") (ty := .int) C (by decide) rfl rfl (by decide +kernel) rfl rfl rfl mw_368 dX2_give_15 ?_
    refine e_aload_n (j := 0) C dX2_give_18 rfl rfl ?_
    refine e_get2 (k := 16) (ref := "ScripHollow") C (by decide) rfl rfl mw_368 dX2_give_19 ?_
    exact e_iret C rfl (Nat.le_of_ble_eq_true rfl) (Nat.le_of_ble_eq_true rfl) dX2_give_22 (pO.mk (by subst_vars; unfold o_give; (repeat (first | rw [if_pos (by assumption)] | rw [if_neg (by assumption)])); (try rfl)))
set_option maxRecDepth 100000 in
set_option maxHeartbeats 4000000 in
theorem c_X2_hew_x {l : Launch} (hl : l.stackTraces = false) {n : Nat} {ρ : Nat → Nat} {J : Nat → Int64} {M : Mem} {x : Int32} (h : x < 0 ∨ nI n ≤ x) {w : Int32} : CtO l yX2_hew cX2_hew 4 (some .int) 8 1 6 n ρ J M [.ref (ρ 0), .int x, .int w] (rX IX M) := by
  refine CtO.of hl (by decide +kernel) (Nat.le_of_ble_eq_true rfl) (fun Ξ hnL C => ?_)
  show E Ξ n ρ J M 0 0 0 [(0, .ref (ρ 0)), (1, .int x), (2, .int w)] []
  refine e_aload_n (j := 0) C dX2_hew_0 rfl rfl ?_
  refine e_iload_n (j := 1) C dX2_hew_1 rfl rfl ?_
  exact e_cVx (i := 0) (nA := 1) (Cn := RX2) C (c_X2_minerAt_x hl h) rfl (cnt_fix (by decide)) (fun _ => rfl) rfl rfl mw_150 mw_147 mw_148 mw_149 mw_12 (by decide +kernel) (by decide) rfl rfl (Nat.le_of_ble_eq_true rfl) dX2_hew_2 (Nat.le_of_ble_eq_true rfl) (Nat.le_of_ble_eq_true rfl) rfl
def hewn (M : Mem) (w : Int32) : Int32 := if M 0 2 = 0 then w * (100 - M 0 1) / 100 else w
def o_hew (M : Mem) (k : Nat) (w : Int32) : Out := if w < 1 ∨ 1000 < w then rX IA M else if M (mO k) 0 = 0 then rX IS M else if M 0 14 = 0 then (if M 0 15 = 0 then rI (up M (mO k) 4 (M (mO k) 4 + hewn M w) (mO k) 4) (up M (mO k) 4 (M (mO k) 4 + hewn M w)) else rX IS M) else rX IS M
set_option maxRecDepth 100000 in
set_option maxHeartbeats 4000000 in
theorem c_X2_hew {l : Launch} (hl : l.stackTraces = false) {n : Nat} {ρ : Nat → Nat} {J : Nat → Int64} {M : Mem} {k : Nat} (hk : k < n) (hn : n ≤ 10) {w : Int32} : CtO l yX2_hew cX2_hew 4 (some .int) 8 4 24 n ρ J M [.ref (ρ 0), .int (nI k), .int w] (o_hew M k w) := by
  refine CtO.of hl (by decide +kernel) (Nat.le_of_ble_eq_true rfl) (fun Ξ hnL C => ?_)
  show E Ξ n ρ J M 0 0 0 [(0, .ref (ρ 0)), (1, .int (nI k)), (2, .int w)] []
  by_cases h : w < 1 ∨ 1000 < w
  · refine e_aload_n (j := 0) C dX2_hew_0 rfl rfl ?_
    refine e_iload_n (j := 1) C dX2_hew_1 rfl rfl ?_
    refine e_cV (i := 0) (nA := 1) (Cn := RX2) C (c_X2_minerAt hl hk hn) rfl (cnt_fix (by decide)) (fun _ => rfl) rfl rfl mw_150 mw_147 mw_148 mw_149 mw_12 (by decide +kernel) (by decide) rfl rfl (Nat.le_of_ble_eq_true rfl) dX2_hew_2 (Nat.le_of_ble_eq_true rfl) (Nat.le_of_ble_eq_true rfl) ?_
    refine e_astore_n (ls2 := [(3, .ref (ρ (mO k))), (0, .ref (ρ 0)), (1, .int (nI k)), (2, .int w)]) C hnL dX2_hew_5 rfl (by decide) rfl ?_
    refine e_iload_n (j := 3) C dX2_hew_6 rfl rfl ?_
    refine e_iconst (v := 1) C dX2_hew_7 (by decide) ?_
    refine e_sipush (v := 1000) C dX2_hew_8 (by decide) ?_
    exact e_cSx (nA := 3) C (c_X2_requireRange_x hl h) rfl mw_175 mw_173 mw_174 mw_12 (by decide +kernel) (by decide) rfl rfl (Nat.le_of_ble_eq_true rfl) dX2_hew_11 (Nat.le_of_ble_eq_true rfl) (Nat.le_of_ble_eq_true rfl) (by subst_vars; unfold o_hew hewn; (repeat (first | rw [if_pos (by assumption)] | rw [if_neg (by assumption)])); (try rfl))
  · by_cases h2 : M (mO k) 0 = 0
    · refine e_aload_n (j := 0) C dX2_hew_0 rfl rfl ?_
      refine e_iload_n (j := 1) C dX2_hew_1 rfl rfl ?_
      refine e_cV (i := 0) (nA := 1) (Cn := RX2) C (c_X2_minerAt hl hk hn) rfl (cnt_fix (by decide)) (fun _ => rfl) rfl rfl mw_150 mw_147 mw_148 mw_149 mw_12 (by decide +kernel) (by decide) rfl rfl (Nat.le_of_ble_eq_true rfl) dX2_hew_2 (Nat.le_of_ble_eq_true rfl) (Nat.le_of_ble_eq_true rfl) ?_
      refine e_astore_n (ls2 := [(3, .ref (ρ (mO k))), (0, .ref (ρ 0)), (1, .int (nI k)), (2, .int w)]) C hnL dX2_hew_5 rfl (by decide) rfl ?_
      refine e_iload_n (j := 3) C dX2_hew_6 rfl rfl ?_
      refine e_iconst (v := 1) C dX2_hew_7 (by decide) ?_
      refine e_sipush (v := 1000) C dX2_hew_8 (by decide) ?_
      refine e_cS (nA := 3) C (c_X2_requireRange hl (rng_ok h).1 (rng_ok h).2) rfl mw_175 mw_173 mw_174 mw_12 (by decide +kernel) (by decide) rfl rfl (Nat.le_of_ble_eq_true rfl) dX2_hew_11 (Nat.le_of_ble_eq_true rfl) (Nat.le_of_ble_eq_true rfl) ?_
      refine e_aload_n (j := 0) C dX2_hew_14 rfl rfl ?_
      exact e_cSx (nA := 1) C (c_X2_requireAlive_x hl hk h2) rfl mw_180 mw_178 mw_179 mw_12 (by decide +kernel) (by decide) rfl rfl (Nat.le_of_ble_eq_true rfl) dX2_hew_15 (Nat.le_of_ble_eq_true rfl) (Nat.le_of_ble_eq_true rfl) (by subst_vars; unfold o_hew hewn; (repeat (first | rw [if_pos (by assumption)] | rw [if_neg (by assumption)])); (try rfl))
    · refine e_aload_n (j := 0) C dX2_hew_0 rfl rfl ?_
      refine e_iload_n (j := 1) C dX2_hew_1 rfl rfl ?_
      refine e_cV (i := 0) (nA := 1) (Cn := RX2) C (c_X2_minerAt hl hk hn) rfl (cnt_fix (by decide)) (fun _ => rfl) rfl rfl mw_150 mw_147 mw_148 mw_149 mw_12 (by decide +kernel) (by decide) rfl rfl (Nat.le_of_ble_eq_true rfl) dX2_hew_2 (Nat.le_of_ble_eq_true rfl) (Nat.le_of_ble_eq_true rfl) ?_
      refine e_astore_n (ls2 := [(3, .ref (ρ (mO k))), (0, .ref (ρ 0)), (1, .int (nI k)), (2, .int w)]) C hnL dX2_hew_5 rfl (by decide) rfl ?_
      refine e_iload_n (j := 3) C dX2_hew_6 rfl rfl ?_
      refine e_iconst (v := 1) C dX2_hew_7 (by decide) ?_
      refine e_sipush (v := 1000) C dX2_hew_8 (by decide) ?_
      refine e_cS (nA := 3) C (c_X2_requireRange hl (rng_ok h).1 (rng_ok h).2) rfl mw_175 mw_173 mw_174 mw_12 (by decide +kernel) (by decide) rfl rfl (Nat.le_of_ble_eq_true rfl) dX2_hew_11 (Nat.le_of_ble_eq_true rfl) (Nat.le_of_ble_eq_true rfl) ?_
      refine e_aload_n (j := 0) C dX2_hew_14 rfl rfl ?_
      refine e_cS (nA := 1) C (c_X2_requireAlive hl hk h2) rfl mw_180 mw_178 mw_179 mw_12 (by decide +kernel) (by decide) rfl rfl (Nat.le_of_ble_eq_true rfl) dX2_hew_15 (Nat.le_of_ble_eq_true rfl) (Nat.le_of_ble_eq_true rfl) ?_
      refine e_aload_n (j := 1) C dX2_hew_18 rfl rfl ?_
      refine e_get2 (k := 14) (ref := "ScripHollow") C (by decide) rfl rfl mw_143 dX2_hew_19 ?_
      refine e_if_ne (tgt := 32) C dX2_hew_22 (by decide) (fun c_22 => ?_) (fun c_22 => ?_)
      · exact e_throw (text := "nobody hews now") C th_IS mw_61 mw_62 (by decide) rfl rfl dX2_hew_32 dX2_hew_35 dX2_hew_36 dX2_hew_38 dX2_hew_41 (by decide) (Nat.le_of_ble_eq_true rfl) (Nat.le_of_ble_eq_true rfl) (Nat.le_of_ble_eq_true rfl) (Nat.le_of_ble_eq_true rfl) (Nat.le_of_ble_eq_true rfl) (xO.mk (by subst_vars; unfold o_hew hewn; (repeat (first | rw [if_pos (by assumption)] | rw [if_neg (by assumption)])); (try rfl)))
      · refine e_aload_n (j := 1) C dX2_hew_25 rfl rfl ?_
        refine e_get2 (k := 15) (ref := "ScripHollow") C (by decide) rfl rfl mw_144 dX2_hew_26 ?_
        refine e_if_eq (tgt := 42) C dX2_hew_29 (by decide) (fun c_29 => ?_) (fun c_29 => ?_)
        · refine e_aload_n (j := 0) C dX2_hew_42 rfl rfl ?_
          refine e_dup C dX2_hew_43 rfl ?_
          refine e_get0 (k := 4) (kk0 := k) (ref := "ScripHollow$Miner") C hk (by decide) rfl rfl mw_145 dX2_hew_44 ?_
          refine e_aload_n (j := 1) C dX2_hew_47 rfl rfl ?_
          refine e_get2 (k := 2) (ref := "ScripHollow") C (by decide) rfl rfl mw_146 dX2_hew_48 ?_
          refine e_if_eq (tgt := 58) C dX2_hew_51 (by decide) (fun c_51 => ?_) (fun c_51 => ?_)
          · refine e_iload_n (j := 3) C dX2_hew_58 rfl rfl ?_
            refine e_bipush (v := 100) C dX2_hew_59 (by decide) ?_
            refine e_aload_n (j := 1) C dX2_hew_61 rfl rfl ?_
            refine e_get2 (k := 1) (ref := "ScripHollow") C (by decide) rfl rfl mw_25 dX2_hew_62 ?_
            refine e_isub C dX2_hew_65 ?_
            refine e_imul C dX2_hew_66 ?_
            refine e_bipush (v := 100) C dX2_hew_67 (by decide) ?_
            refine e_idiv C dX2_hew_69 (by decide) ?_
            refine e_iadd C dX2_hew_70 ?_
            refine e_put0 (k := 4) (kk0 := k) (ref := "ScripHollow$Miner") (ty := .int) C hk (by decide) rfl rfl (by decide +kernel) rfl rfl rfl mw_145 dX2_hew_71 ?_
            refine e_aload_n (j := 0) C dX2_hew_74 rfl rfl ?_
            refine e_get0 (k := 4) (kk0 := k) (ref := "ScripHollow$Miner") C hk (by decide) rfl rfl mw_145 dX2_hew_75 ?_
            exact e_iret C rfl (Nat.le_of_ble_eq_true rfl) (Nat.le_of_ble_eq_true rfl) dX2_hew_78 (pO.mk (by subst_vars; unfold o_hew hewn; (repeat (first | rw [if_pos (by assumption)] | rw [if_neg (by assumption)])); (try rfl)))
          · refine e_iload_n (j := 3) C dX2_hew_54 rfl rfl ?_
            refine e_goto (tgt := 70) C dX2_hew_55 (by decide) ?_
            refine e_iadd C dX2_hew_70 ?_
            refine e_put0 (k := 4) (kk0 := k) (ref := "ScripHollow$Miner") (ty := .int) C hk (by decide) rfl rfl (by decide +kernel) rfl rfl rfl mw_145 dX2_hew_71 ?_
            refine e_aload_n (j := 0) C dX2_hew_74 rfl rfl ?_
            refine e_get0 (k := 4) (kk0 := k) (ref := "ScripHollow$Miner") C hk (by decide) rfl rfl mw_145 dX2_hew_75 ?_
            exact e_iret C rfl (Nat.le_of_ble_eq_true rfl) (Nat.le_of_ble_eq_true rfl) dX2_hew_78 (pO.mk (by subst_vars; unfold o_hew hewn; (repeat (first | rw [if_pos (by assumption)] | rw [if_neg (by assumption)])); (try rfl)))
        · exact e_throw (text := "nobody hews now") C th_IS mw_61 mw_62 (by decide) rfl rfl dX2_hew_32 dX2_hew_35 dX2_hew_36 dX2_hew_38 dX2_hew_41 (by decide) (Nat.le_of_ble_eq_true rfl) (Nat.le_of_ble_eq_true rfl) (Nat.le_of_ble_eq_true rfl) (Nat.le_of_ble_eq_true rfl) (Nat.le_of_ble_eq_true rfl) (xO.mk (by subst_vars; unfold o_hew hewn; (repeat (first | rw [if_pos (by assumption)] | rw [if_neg (by assumption)])); (try rfl)))
def o_tell (M : Mem) (j : Nat) (y : Int32) : Out := if nI j = 0 then (if y < 1 ∨ 50 < y then rX IA M else rI (M 2 j) (up M 2 j y)) else if y < 0 ∨ 100 < y then rX IA M else rI (M 2 j) (up M 2 j y)
set_option maxRecDepth 100000 in
set_option maxHeartbeats 4000000 in
theorem c_X2_tell_x {l : Launch} (hl : l.stackTraces = false) {n : Nat} {ρ : Nat → Nat} {J : Nat → Int64} {M : Mem} {x y : Int32} (h : x < 0 ∨ 4 < x) : CtO l yX2_tell cX2_tell 4 (some .int) 7 2 12 n ρ J M [.ref (ρ 0), .int x, .int y] (rX IA M) := by
  refine CtO.of hl (by decide +kernel) (Nat.le_of_ble_eq_true rfl) (fun Ξ hnL C => ?_)
  show E Ξ n ρ J M 0 0 0 [(0, .ref (ρ 0)), (1, .int x), (2, .int y)] []
  refine e_iload_n (j := 1) C dX2_tell_0 rfl rfl ?_
  refine e_iconst (v := 0) C dX2_tell_1 (by decide) ?_
  refine e_iconst (v := 4) C dX2_tell_2 (by decide) ?_
  exact e_cSx (nA := 3) C (c_X2_requireRange_x hl h) rfl mw_175 mw_173 mw_174 mw_12 (by decide +kernel) (by decide) rfl rfl (Nat.le_of_ble_eq_true rfl) dX2_tell_3 (Nat.le_of_ble_eq_true rfl) (Nat.le_of_ble_eq_true rfl) rfl
set_option maxRecDepth 100000 in
set_option maxHeartbeats 4000000 in
theorem c_X2_tell {l : Launch} (hl : l.stackTraces = false) {n : Nat} {ρ : Nat → Nat} {J : Nat → Int64} {M : Mem} {j : Nat} (hj : j < 5) {y : Int32} : CtO l yX2_tell cX2_tell 4 (some .int) 7 2 12 n ρ J M [.ref (ρ 0), .int (nI j), .int y] (o_tell M j y) := by
  refine CtO.of hl (by decide +kernel) (Nat.le_of_ble_eq_true rfl) (fun Ξ hnL C => ?_)
  show E Ξ n ρ J M 0 0 0 [(0, .ref (ρ 0)), (1, .int (nI j)), (2, .int y)] []
  by_cases h0 : nI j = 0
  · by_cases h : y < 1 ∨ 50 < y
    · refine e_iload_n (j := 1) C dX2_tell_0 rfl rfl ?_
      refine e_iconst (v := 0) C dX2_tell_1 (by decide) ?_
      refine e_iconst (v := 4) C dX2_tell_2 (by decide) ?_
      refine e_cS (nA := 3) C (c_X2_requireRange hl (nI_pos (by omega)) (nI_le (b := 4) (by omega) (by omega))) rfl mw_175 mw_173 mw_174 mw_12 (by decide +kernel) (by decide) rfl rfl (Nat.le_of_ble_eq_true rfl) dX2_tell_3 (Nat.le_of_ble_eq_true rfl) (Nat.le_of_ble_eq_true rfl) ?_
      refine e_iload_n (j := 1) C dX2_tell_6 rfl rfl ?_
      refine e_if_ne (tgt := 20) C dX2_tell_7 (by decide) (fun c_7 => absurd h0 c_7) (fun c_7 => ?_)
      refine e_iload_n (j := 2) C dX2_tell_10 rfl rfl ?_
      refine e_iconst (v := 1) C dX2_tell_11 (by decide) ?_
      refine e_bipush (v := 50) C dX2_tell_12 (by decide) ?_
      exact e_cSx (nA := 3) C (c_X2_requireRange_x hl h) rfl mw_175 mw_173 mw_174 mw_12 (by decide +kernel) (by decide) rfl rfl (Nat.le_of_ble_eq_true rfl) dX2_tell_14 (Nat.le_of_ble_eq_true rfl) (Nat.le_of_ble_eq_true rfl) (by subst_vars; unfold o_tell; (repeat (first | rw [if_pos (by assumption)] | rw [if_neg (by assumption)])); (try rfl))
    · refine e_iload_n (j := 1) C dX2_tell_0 rfl rfl ?_
      refine e_iconst (v := 0) C dX2_tell_1 (by decide) ?_
      refine e_iconst (v := 4) C dX2_tell_2 (by decide) ?_
      refine e_cS (nA := 3) C (c_X2_requireRange hl (nI_pos (by omega)) (nI_le (b := 4) (by omega) (by omega))) rfl mw_175 mw_173 mw_174 mw_12 (by decide +kernel) (by decide) rfl rfl (Nat.le_of_ble_eq_true rfl) dX2_tell_3 (Nat.le_of_ble_eq_true rfl) (Nat.le_of_ble_eq_true rfl) ?_
      refine e_iload_n (j := 1) C dX2_tell_6 rfl rfl ?_
      refine e_if_ne (tgt := 20) C dX2_tell_7 (by decide) (fun c_7 => absurd h0 c_7) (fun c_7 => ?_)
      refine e_iload_n (j := 2) C dX2_tell_10 rfl rfl ?_
      refine e_iconst (v := 1) C dX2_tell_11 (by decide) ?_
      refine e_bipush (v := 50) C dX2_tell_12 (by decide) ?_
      refine e_cS (nA := 3) C (c_X2_requireRange hl (rng_ok h).1 (rng_ok h).2) rfl mw_175 mw_173 mw_174 mw_12 (by decide +kernel) (by decide) rfl rfl (Nat.le_of_ble_eq_true rfl) dX2_tell_14 (Nat.le_of_ble_eq_true rfl) (Nat.le_of_ble_eq_true rfl) ?_
      refine e_goto (tgt := 27) C dX2_tell_17 (by decide) ?_
      refine e_aload_n (j := 0) C dX2_tell_27 rfl rfl ?_
      refine e_get2 (k := 4) (ref := "ScripHollow") C (by decide) rfl rfl mw_27 dX2_tell_28 ?_
      refine e_iload_n (j := 1) C dX2_tell_31 rfl rfl ?_
      refine e_ialdN j C (cnt_fix (by decide)) (fun _ => rfl) rfl (by omega) (by decide) dX2_tell_32 ?_
      refine e_topi (fun x3_33 ex3_33 => ?_)
      refine e_istore_n (ls2 := [(3, .int x3_33), (0, .ref (ρ 0)), (1, .int (nI j)), (2, .int y)]) C hnL dX2_tell_33 rfl (by decide) rfl ?_
      refine e_aload_n (j := 1) C dX2_tell_34 rfl rfl ?_
      refine e_get2 (k := 4) (ref := "ScripHollow") C (by decide) rfl rfl mw_27 dX2_tell_35 ?_
      refine e_iload_n (j := 2) C dX2_tell_38 rfl rfl ?_
      refine e_iload_n (j := 3) C dX2_tell_39 rfl rfl ?_
      refine e_iastN j C (cnt_fix (by decide)) (fun _ _ => rfl) rfl (by omega) (by decide) dX2_tell_40 ?_
      refine e_iload_n (j := 0) C dX2_tell_41 rfl rfl ?_
      exact e_iret C rfl (Nat.le_of_ble_eq_true rfl) (Nat.le_of_ble_eq_true rfl) dX2_tell_42 (pO.mk (by subst_vars; unfold o_tell; (repeat (first | rw [if_pos (by assumption)] | rw [if_neg (by assumption)])); (try rfl)))
  · by_cases h : y < 0 ∨ 100 < y
    · refine e_iload_n (j := 1) C dX2_tell_0 rfl rfl ?_
      refine e_iconst (v := 0) C dX2_tell_1 (by decide) ?_
      refine e_iconst (v := 4) C dX2_tell_2 (by decide) ?_
      refine e_cS (nA := 3) C (c_X2_requireRange hl (nI_pos (by omega)) (nI_le (b := 4) (by omega) (by omega))) rfl mw_175 mw_173 mw_174 mw_12 (by decide +kernel) (by decide) rfl rfl (Nat.le_of_ble_eq_true rfl) dX2_tell_3 (Nat.le_of_ble_eq_true rfl) (Nat.le_of_ble_eq_true rfl) ?_
      refine e_iload_n (j := 1) C dX2_tell_6 rfl rfl ?_
      refine e_if_ne (tgt := 20) C dX2_tell_7 (by decide) (fun c_7 => ?_) (fun c_7 => absurd c_7 h0)
      refine e_iload_n (j := 2) C dX2_tell_20 rfl rfl ?_
      refine e_iconst (v := 0) C dX2_tell_21 (by decide) ?_
      refine e_bipush (v := 100) C dX2_tell_22 (by decide) ?_
      exact e_cSx (nA := 3) C (c_X2_requireRange_x hl h) rfl mw_175 mw_173 mw_174 mw_12 (by decide +kernel) (by decide) rfl rfl (Nat.le_of_ble_eq_true rfl) dX2_tell_24 (Nat.le_of_ble_eq_true rfl) (Nat.le_of_ble_eq_true rfl) (by subst_vars; unfold o_tell; (repeat (first | rw [if_pos (by assumption)] | rw [if_neg (by assumption)])); (try rfl))
    · refine e_iload_n (j := 1) C dX2_tell_0 rfl rfl ?_
      refine e_iconst (v := 0) C dX2_tell_1 (by decide) ?_
      refine e_iconst (v := 4) C dX2_tell_2 (by decide) ?_
      refine e_cS (nA := 3) C (c_X2_requireRange hl (nI_pos (by omega)) (nI_le (b := 4) (by omega) (by omega))) rfl mw_175 mw_173 mw_174 mw_12 (by decide +kernel) (by decide) rfl rfl (Nat.le_of_ble_eq_true rfl) dX2_tell_3 (Nat.le_of_ble_eq_true rfl) (Nat.le_of_ble_eq_true rfl) ?_
      refine e_iload_n (j := 1) C dX2_tell_6 rfl rfl ?_
      refine e_if_ne (tgt := 20) C dX2_tell_7 (by decide) (fun c_7 => ?_) (fun c_7 => absurd c_7 h0)
      refine e_iload_n (j := 2) C dX2_tell_20 rfl rfl ?_
      refine e_iconst (v := 0) C dX2_tell_21 (by decide) ?_
      refine e_bipush (v := 100) C dX2_tell_22 (by decide) ?_
      refine e_cS (nA := 3) C (c_X2_requireRange hl (rng_ok h).1 (rng_ok h).2) rfl mw_175 mw_173 mw_174 mw_12 (by decide +kernel) (by decide) rfl rfl (Nat.le_of_ble_eq_true rfl) dX2_tell_24 (Nat.le_of_ble_eq_true rfl) (Nat.le_of_ble_eq_true rfl) ?_
      refine e_aload_n (j := 0) C dX2_tell_27 rfl rfl ?_
      refine e_get2 (k := 4) (ref := "ScripHollow") C (by decide) rfl rfl mw_27 dX2_tell_28 ?_
      refine e_iload_n (j := 1) C dX2_tell_31 rfl rfl ?_
      refine e_ialdN j C (cnt_fix (by decide)) (fun _ => rfl) rfl (by omega) (by decide) dX2_tell_32 ?_
      refine e_topi (fun x3_33 ex3_33 => ?_)
      refine e_istore_n (ls2 := [(3, .int x3_33), (0, .ref (ρ 0)), (1, .int (nI j)), (2, .int y)]) C hnL dX2_tell_33 rfl (by decide) rfl ?_
      refine e_aload_n (j := 1) C dX2_tell_34 rfl rfl ?_
      refine e_get2 (k := 4) (ref := "ScripHollow") C (by decide) rfl rfl mw_27 dX2_tell_35 ?_
      refine e_iload_n (j := 2) C dX2_tell_38 rfl rfl ?_
      refine e_iload_n (j := 3) C dX2_tell_39 rfl rfl ?_
      refine e_iastN j C (cnt_fix (by decide)) (fun _ _ => rfl) rfl (by omega) (by decide) dX2_tell_40 ?_
      refine e_iload_n (j := 0) C dX2_tell_41 rfl rfl ?_
      exact e_iret C rfl (Nat.le_of_ble_eq_true rfl) (Nat.le_of_ble_eq_true rfl) dX2_tell_42 (pO.mk (by subst_vars; unfold o_tell; (repeat (first | rw [if_pos (by assumption)] | rw [if_neg (by assumption)])); (try rfl)))
set_option maxRecDepth 100000 in
set_option maxHeartbeats 4000000 in
theorem c_X2_house_x {l : Launch} (hl : l.stackTraces = false) {n : Nat} {ρ : Nat → Nat} {J : Nat → Int64} {M : Mem} {x : Int32} (h : x < 0 ∨ nI n ≤ x) : CtO l yX2_house cX2_house 3 none 8 3 18 n ρ J M [.ref (ρ 0), .int x] (rX IX M) := by
  refine CtO.of hl (by decide +kernel) (Nat.le_of_ble_eq_true rfl) (fun Ξ hnL C => ?_)
  show E Ξ n ρ J M 0 0 0 [(0, .ref (ρ 0)), (1, .int x)] []
  refine e_aload_n (j := 0) C dX2_house_0 rfl rfl ?_
  refine e_iload_n (j := 1) C dX2_house_1 rfl rfl ?_
  exact e_cVx (i := 0) (nA := 1) (Cn := RX2) C (c_X2_minerAt_x hl h) rfl (cnt_fix (by decide)) (fun _ => rfl) rfl rfl mw_150 mw_147 mw_148 mw_149 mw_12 (by decide +kernel) (by decide) rfl rfl (Nat.le_of_ble_eq_true rfl) dX2_house_2 (Nat.le_of_ble_eq_true rfl) (Nat.le_of_ble_eq_true rfl) rfl
def o_house (M : Mem) (k : Nat) : Out := if M (mO k) 0 = 0 then rX IS M else if M (mO k) 1 = 0 then (if M (mO k) 7 ≤ 0 then rV (up M (mO k) 1 1) else rX IS M) else rX IS M
set_option maxRecDepth 100000 in
set_option maxHeartbeats 4000000 in
theorem c_X2_house {l : Launch} (hl : l.stackTraces = false) {n : Nat} {ρ : Nat → Nat} {J : Nat → Int64} {M : Mem} {k : Nat} (hk : k < n) (hn : n ≤ 10) : CtO l yX2_house cX2_house 3 none 8 3 18 n ρ J M [.ref (ρ 0), .int (nI k)] (o_house M k) := by
  refine CtO.of hl (by decide +kernel) (Nat.le_of_ble_eq_true rfl) (fun Ξ hnL C => ?_)
  show E Ξ n ρ J M 0 0 0 [(0, .ref (ρ 0)), (1, .int (nI k))] []
  by_cases h2 : M (mO k) 0 = 0
  · refine e_aload_n (j := 0) C dX2_house_0 rfl rfl ?_
    refine e_iload_n (j := 1) C dX2_house_1 rfl rfl ?_
    refine e_cV (i := 0) (nA := 1) (Cn := RX2) C (c_X2_minerAt hl hk hn) rfl (cnt_fix (by decide)) (fun _ => rfl) rfl rfl mw_150 mw_147 mw_148 mw_149 mw_12 (by decide +kernel) (by decide) rfl rfl (Nat.le_of_ble_eq_true rfl) dX2_house_2 (Nat.le_of_ble_eq_true rfl) (Nat.le_of_ble_eq_true rfl) ?_
    refine e_astore_n (ls2 := [(2, .ref (ρ (mO k))), (0, .ref (ρ 0)), (1, .int (nI k))]) C hnL dX2_house_5 rfl (by decide) rfl ?_
    refine e_aload_n (j := 0) C dX2_house_6 rfl rfl ?_
    exact e_cSx (nA := 1) C (c_X2_requireAlive_x hl hk h2) rfl mw_180 mw_178 mw_179 mw_12 (by decide +kernel) (by decide) rfl rfl (Nat.le_of_ble_eq_true rfl) dX2_house_7 (Nat.le_of_ble_eq_true rfl) (Nat.le_of_ble_eq_true rfl) (by subst_vars; unfold o_house; (repeat (first | rw [if_pos (by assumption)] | rw [if_neg (by assumption)])); (try rfl))
  · refine e_aload_n (j := 0) C dX2_house_0 rfl rfl ?_
    refine e_iload_n (j := 1) C dX2_house_1 rfl rfl ?_
    refine e_cV (i := 0) (nA := 1) (Cn := RX2) C (c_X2_minerAt hl hk hn) rfl (cnt_fix (by decide)) (fun _ => rfl) rfl rfl mw_150 mw_147 mw_148 mw_149 mw_12 (by decide +kernel) (by decide) rfl rfl (Nat.le_of_ble_eq_true rfl) dX2_house_2 (Nat.le_of_ble_eq_true rfl) (Nat.le_of_ble_eq_true rfl) ?_
    refine e_astore_n (ls2 := [(2, .ref (ρ (mO k))), (0, .ref (ρ 0)), (1, .int (nI k))]) C hnL dX2_house_5 rfl (by decide) rfl ?_
    refine e_aload_n (j := 0) C dX2_house_6 rfl rfl ?_
    refine e_cS (nA := 1) C (c_X2_requireAlive hl hk h2) rfl mw_180 mw_178 mw_179 mw_12 (by decide +kernel) (by decide) rfl rfl (Nat.le_of_ble_eq_true rfl) dX2_house_7 (Nat.le_of_ble_eq_true rfl) (Nat.le_of_ble_eq_true rfl) ?_
    refine e_aload_n (j := 0) C dX2_house_10 rfl rfl ?_
    refine e_get0 (k := 1) (kk0 := k) (ref := "ScripHollow$Miner") C hk (by decide) rfl rfl mw_207 dX2_house_11 ?_
    refine e_if_ne (tgt := 24) C dX2_house_14 (by decide) (fun c_14 => ?_) (fun c_14 => ?_)
    · exact e_throw (text := "the miner has a house, or arrears") C th_IS mw_61 mw_62 (by decide) rfl rfl dX2_house_24 dX2_house_27 dX2_house_28 dX2_house_30 dX2_house_33 (by decide) (Nat.le_of_ble_eq_true rfl) (Nat.le_of_ble_eq_true rfl) (Nat.le_of_ble_eq_true rfl) (Nat.le_of_ble_eq_true rfl) (Nat.le_of_ble_eq_true rfl) (xO.mk (by subst_vars; unfold o_house; (repeat (first | rw [if_pos (by assumption)] | rw [if_neg (by assumption)])); (try rfl)))
    · refine e_aload_n (j := 0) C dX2_house_17 rfl rfl ?_
      refine e_get0 (k := 7) (kk0 := k) (ref := "ScripHollow$Miner") C hk (by decide) rfl rfl mw_202 dX2_house_18 ?_
      refine e_if_le (tgt := 34) C dX2_house_21 (by decide) (fun c_21 => ?_) (fun c_21 => ?_)
      · refine e_aload_n (j := 0) C dX2_house_34 rfl rfl ?_
        refine e_iconst (v := 1) C dX2_house_35 (by decide) ?_
        refine e_put0 (k := 1) (kk0 := k) (ref := "ScripHollow$Miner") (ty := .boolean) C hk (by decide) rfl rfl (by decide +kernel) rfl rfl rfl mw_207 dX2_house_36 ?_
        exact e_vret C rfl (Nat.le_of_ble_eq_true rfl) (Nat.le_of_ble_eq_true rfl) dX2_house_39 (pO.mk (by subst_vars; unfold o_house; (repeat (first | rw [if_pos (by assumption)] | rw [if_neg (by assumption)])); (try rfl)))
      · exact e_throw (text := "the miner has a house, or arrears") C th_IS mw_61 mw_62 (by decide) rfl rfl dX2_house_24 dX2_house_27 dX2_house_28 dX2_house_30 dX2_house_33 (by decide) (Nat.le_of_ble_eq_true rfl) (Nat.le_of_ble_eq_true rfl) (Nat.le_of_ble_eq_true rfl) (Nat.le_of_ble_eq_true rfl) (Nat.le_of_ble_eq_true rfl) (xO.mk (by subst_vars; unfold o_house; (repeat (first | rw [if_pos (by assumption)] | rw [if_neg (by assumption)])); (try rfl)))
def o_price (M : Mem) (g : Nat) (y z : Int32) : Out := if y < 1 ∨ 100 < y then rX IA M else if z = 0 then rI (M 4 g) (up M 4 g y) else rI (M 5 g) (up M 5 g y)
set_option maxRecDepth 100000 in
set_option maxHeartbeats 4000000 in
theorem c_X2_price_x {l : Launch} (hl : l.stackTraces = false) {n : Nat} {ρ : Nat → Nat} {J : Nat → Int64} {M : Mem} {x y z : Int32} (h : x < 0 ∨ 4 ≤ x) : CtO l yX2_price cX2_price 6 (some .int) 8 2 12 n ρ J M [.ref (ρ 0), .int x, .int y, .int z] (rX IX M) := by
  refine CtO.of hl (by decide +kernel) (Nat.le_of_ble_eq_true rfl) (fun Ξ hnL C => ?_)
  show E Ξ n ρ J M 0 0 0 [(0, .ref (ρ 0)), (1, .int x), (2, .int y), (3, .int z)] []
  refine e_iload_n (j := 1) C dX2_price_0 rfl rfl ?_
  exact e_cSx (nA := 1) C (c_X2_requireGoods_x hl h) rfl mw_267 mw_265 mw_266 mw_12 (by decide +kernel) (by decide) rfl rfl (Nat.le_of_ble_eq_true rfl) dX2_price_1 (Nat.le_of_ble_eq_true rfl) (Nat.le_of_ble_eq_true rfl) rfl
set_option maxRecDepth 100000 in
set_option maxHeartbeats 4000000 in
theorem c_X2_price {l : Launch} (hl : l.stackTraces = false) {n : Nat} {ρ : Nat → Nat} {J : Nat → Int64} {M : Mem} {g : Nat} (hg : g < 4) {y z : Int32} : CtO l yX2_price cX2_price 6 (some .int) 8 2 12 n ρ J M [.ref (ρ 0), .int (nI g), .int y, .int z] (o_price M g y z) := by
  refine CtO.of hl (by decide +kernel) (Nat.le_of_ble_eq_true rfl) (fun Ξ hnL C => ?_)
  show E Ξ n ρ J M 0 0 0 [(0, .ref (ρ 0)), (1, .int (nI g)), (2, .int y), (3, .int z)] []
  by_cases h : y < 1 ∨ 100 < y
  · refine e_iload_n (j := 1) C dX2_price_0 rfl rfl ?_
    refine e_cS (nA := 1) C (c_X2_requireGoods hl hg) rfl mw_267 mw_265 mw_266 mw_12 (by decide +kernel) (by decide) rfl rfl (Nat.le_of_ble_eq_true rfl) dX2_price_1 (Nat.le_of_ble_eq_true rfl) (Nat.le_of_ble_eq_true rfl) ?_
    refine e_iload_n (j := 2) C dX2_price_4 rfl rfl ?_
    refine e_iconst (v := 1) C dX2_price_5 (by decide) ?_
    refine e_bipush (v := 100) C dX2_price_6 (by decide) ?_
    exact e_cSx (nA := 3) C (c_X2_requireRange_x hl h) rfl mw_175 mw_173 mw_174 mw_12 (by decide +kernel) (by decide) rfl rfl (Nat.le_of_ble_eq_true rfl) dX2_price_8 (Nat.le_of_ble_eq_true rfl) (Nat.le_of_ble_eq_true rfl) (by subst_vars; unfold o_price; (repeat (first | rw [if_pos (by assumption)] | rw [if_neg (by assumption)])); (try rfl))
  · refine e_iload_n (j := 1) C dX2_price_0 rfl rfl ?_
    refine e_cS (nA := 1) C (c_X2_requireGoods hl hg) rfl mw_267 mw_265 mw_266 mw_12 (by decide +kernel) (by decide) rfl rfl (Nat.le_of_ble_eq_true rfl) dX2_price_1 (Nat.le_of_ble_eq_true rfl) (Nat.le_of_ble_eq_true rfl) ?_
    refine e_iload_n (j := 2) C dX2_price_4 rfl rfl ?_
    refine e_iconst (v := 1) C dX2_price_5 (by decide) ?_
    refine e_bipush (v := 100) C dX2_price_6 (by decide) ?_
    refine e_cS (nA := 3) C (c_X2_requireRange hl (rng_ok h).1 (rng_ok h).2) rfl mw_175 mw_173 mw_174 mw_12 (by decide +kernel) (by decide) rfl rfl (Nat.le_of_ble_eq_true rfl) dX2_price_8 (Nat.le_of_ble_eq_true rfl) (Nat.le_of_ble_eq_true rfl) ?_
    refine e_iload_n (j := 3) C dX2_price_11 rfl rfl ?_
    refine e_if_eq (tgt := 22) C dX2_price_12 (by decide) (fun c_12 => ?_) (fun c_12 => ?_)
    · refine e_aload_n (j := 0) C dX2_price_22 rfl rfl ?_
      refine e_get2 (k := 7) (ref := "ScripHollow") C (by decide) rfl rfl mw_32 dX2_price_23 ?_
      refine e_astore (ls2 := [(4, .ref (ρ 4)), (0, .ref (ρ 0)), (1, .int (nI g)), (2, .int y), (3, .int z)]) C hnL dX2_price_26 (by decide) rfl ?_
      refine e_aload (j := 0) C dX2_price_28 rfl ?_
      refine e_iload_n (j := 2) C dX2_price_30 rfl rfl ?_
      refine e_ialdN g C (cnt_fix (by decide)) (fun _ => rfl) rfl (by omega) (by decide) dX2_price_31 ?_
      refine e_topi (fun x5_32 ex5_32 => ?_)
      refine e_istore (ls2 := [(5, .int x5_32), (4, .ref (ρ 4)), (0, .ref (ρ 0)), (1, .int (nI g)), (2, .int y), (3, .int z)]) C hnL dX2_price_32 (by decide) rfl ?_
      refine e_aload (j := 1) C dX2_price_34 rfl ?_
      refine e_iload_n (j := 3) C dX2_price_36 rfl rfl ?_
      refine e_iload_n (j := 4) C dX2_price_37 rfl rfl ?_
      refine e_iastN g C (cnt_fix (by decide)) (fun _ _ => rfl) rfl (by omega) (by decide) dX2_price_38 ?_
      refine e_iload (j := 0) C dX2_price_39 rfl ?_
      exact e_iret C rfl (Nat.le_of_ble_eq_true rfl) (Nat.le_of_ble_eq_true rfl) dX2_price_41 (pO.mk (by subst_vars; unfold o_price; (repeat (first | rw [if_pos (by assumption)] | rw [if_neg (by assumption)])); (try rfl)))
    · refine e_aload_n (j := 0) C dX2_price_15 rfl rfl ?_
      refine e_get2 (k := 8) (ref := "ScripHollow") C (by decide) rfl rfl mw_33 dX2_price_16 ?_
      refine e_goto (tgt := 26) C dX2_price_19 (by decide) ?_
      refine e_astore (ls2 := [(4, .ref (ρ 5)), (0, .ref (ρ 0)), (1, .int (nI g)), (2, .int y), (3, .int z)]) C hnL dX2_price_26 (by decide) rfl ?_
      refine e_aload (j := 0) C dX2_price_28 rfl ?_
      refine e_iload_n (j := 2) C dX2_price_30 rfl rfl ?_
      refine e_ialdN g C (cnt_fix (by decide)) (fun _ => rfl) rfl (by omega) (by decide) dX2_price_31 ?_
      refine e_topi (fun x5_32 ex5_32 => ?_)
      refine e_istore (ls2 := [(5, .int x5_32), (4, .ref (ρ 5)), (0, .ref (ρ 0)), (1, .int (nI g)), (2, .int y), (3, .int z)]) C hnL dX2_price_32 (by decide) rfl ?_
      refine e_aload (j := 1) C dX2_price_34 rfl ?_
      refine e_iload_n (j := 3) C dX2_price_36 rfl rfl ?_
      refine e_iload_n (j := 4) C dX2_price_37 rfl rfl ?_
      refine e_iastN g C (cnt_fix (by decide)) (fun _ _ => rfl) rfl (by omega) (by decide) dX2_price_38 ?_
      refine e_iload (j := 0) C dX2_price_39 rfl ?_
      exact e_iret C rfl (Nat.le_of_ble_eq_true rfl) (Nat.le_of_ble_eq_true rfl) dX2_price_41 (pO.mk (by subst_vars; unfold o_price; (repeat (first | rw [if_pos (by assumption)] | rw [if_neg (by assumption)])); (try rfl)))
def sPrice (M : Mem) (k g : Nat) : Int32 := M 4 g + M 4 g * M (mO k) 6 / 200
set_option maxRecDepth 100000 in
set_option maxHeartbeats 4000000 in
theorem c_X2_storePrice {l : Launch} (hl : l.stackTraces = false) {n : Nat} {ρ : Nat → Nat} {J : Nat → Int64} {M : Mem} {k g : Nat} (hk : k < n) (hg : g < 4) : CtO l yX2_storePrice cX2_storePrice 3 (some .int) 0 0 0 n ρ J M [.ref (ρ 0), .ref (ρ (mO k)), .int (nI g)] (rI (sPrice M k g) M) := by
  refine CtO.of hl (by decide +kernel) (Nat.le_of_ble_eq_true rfl) (fun Ξ hnL C => ?_)
  show E Ξ n ρ J M 0 0 0 [(0, .ref (ρ 0)), (1, .ref (ρ (mO k))), (2, .int (nI g))] []
  refine e_aload_n (j := 0) C dX2_storePrice_0 rfl rfl ?_
  refine e_get2 (k := 7) (ref := "ScripHollow") C (by decide) rfl rfl mw_32 dX2_storePrice_1 ?_
  refine e_iload_n (j := 2) C dX2_storePrice_4 rfl rfl ?_
  refine e_ialdN g C (cnt_fix (by decide)) (fun _ => rfl) rfl (by omega) (by decide) dX2_storePrice_5 ?_
  refine e_aload_n (j := 0) C dX2_storePrice_6 rfl rfl ?_
  refine e_get2 (k := 7) (ref := "ScripHollow") C (by decide) rfl rfl mw_32 dX2_storePrice_7 ?_
  refine e_iload_n (j := 2) C dX2_storePrice_10 rfl rfl ?_
  refine e_ialdN g C (cnt_fix (by decide)) (fun _ => rfl) rfl (by omega) (by decide) dX2_storePrice_11 ?_
  refine e_aload_n (j := 1) C dX2_storePrice_12 rfl rfl ?_
  refine e_get0 (k := 6) (kk0 := k) (ref := "ScripHollow$Miner") C hk (by decide) rfl rfl mw_203 dX2_storePrice_13 ?_
  refine e_imul C dX2_storePrice_16 ?_
  refine e_sipush (v := 200) C dX2_storePrice_17 (by decide) ?_
  refine e_idiv C dX2_storePrice_20 (by decide) ?_
  refine e_iadd C dX2_storePrice_21 ?_
  exact e_iret C rfl (Nat.le_of_ble_eq_true rfl) (Nat.le_of_ble_eq_true rfl) dX2_storePrice_22 (pO.mk rfl)
set_option maxRecDepth 100000 in
set_option maxHeartbeats 4000000 in
theorem c_X2_raised_x {l : Launch} (hl : l.stackTraces = false) {n : Nat} {ρ : Nat → Nat} {J : Nat → Int64} {M : Mem} {x : Int32} (h : x < 0 ∨ nI n ≤ x) {y : Int32} : CtO l yX2_raised cX2_raised 4 (some .int) 8 2 12 n ρ J M [.ref (ρ 0), .int x, .int y] (rX IX M) := by
  refine CtO.of hl (by decide +kernel) (Nat.le_of_ble_eq_true rfl) (fun Ξ hnL C => ?_)
  show E Ξ n ρ J M 0 0 0 [(0, .ref (ρ 0)), (1, .int x), (2, .int y)] []
  refine e_aload_n (j := 0) C dX2_raised_0 rfl rfl ?_
  refine e_iload_n (j := 1) C dX2_raised_1 rfl rfl ?_
  exact e_cVx (i := 0) (nA := 1) (Cn := RX2) C (c_X2_minerAt_x hl h) rfl (cnt_fix (by decide)) (fun _ => rfl) rfl rfl mw_150 mw_147 mw_148 mw_149 mw_12 (by decide +kernel) (by decide) rfl rfl (Nat.le_of_ble_eq_true rfl) dX2_raised_2 (Nat.le_of_ble_eq_true rfl) (Nat.le_of_ble_eq_true rfl) rfl
set_option maxRecDepth 100000 in
set_option maxHeartbeats 4000000 in
theorem c_X2_raised_g {l : Launch} (hl : l.stackTraces = false) {n : Nat} {ρ : Nat → Nat} {J : Nat → Int64} {M : Mem} {k : Nat} (hk : k < n) (hn : n ≤ 10) {y : Int32} (h : y < 0 ∨ 4 ≤ y) : CtO l yX2_raised cX2_raised 4 (some .int) 8 2 12 n ρ J M [.ref (ρ 0), .int (nI k), .int y] (rX IX M) := by
  refine CtO.of hl (by decide +kernel) (Nat.le_of_ble_eq_true rfl) (fun Ξ hnL C => ?_)
  show E Ξ n ρ J M 0 0 0 [(0, .ref (ρ 0)), (1, .int (nI k)), (2, .int y)] []
  refine e_aload_n (j := 0) C dX2_raised_0 rfl rfl ?_
  refine e_iload_n (j := 1) C dX2_raised_1 rfl rfl ?_
  refine e_cV (i := 0) (nA := 1) (Cn := RX2) C (c_X2_minerAt hl hk hn) rfl (cnt_fix (by decide)) (fun _ => rfl) rfl rfl mw_150 mw_147 mw_148 mw_149 mw_12 (by decide +kernel) (by decide) rfl rfl (Nat.le_of_ble_eq_true rfl) dX2_raised_2 (Nat.le_of_ble_eq_true rfl) (Nat.le_of_ble_eq_true rfl) ?_
  refine e_astore_n (ls2 := [(3, .ref (ρ (mO k))), (0, .ref (ρ 0)), (1, .int (nI k)), (2, .int y)]) C hnL dX2_raised_5 rfl (by decide) rfl ?_
  refine e_iload_n (j := 3) C dX2_raised_6 rfl rfl ?_
  exact e_cSx (nA := 1) C (c_X2_requireGoods_x hl h) rfl mw_267 mw_265 mw_266 mw_12 (by decide +kernel) (by decide) rfl rfl (Nat.le_of_ble_eq_true rfl) dX2_raised_7 (Nat.le_of_ble_eq_true rfl) (Nat.le_of_ble_eq_true rfl) rfl
set_option maxRecDepth 100000 in
set_option maxHeartbeats 4000000 in
theorem c_X2_raised {l : Launch} (hl : l.stackTraces = false) {n : Nat} {ρ : Nat → Nat} {J : Nat → Int64} {M : Mem} {k : Nat} (hk : k < n) (hn : n ≤ 10) {g : Nat} (hg : g < 4) : CtO l yX2_raised cX2_raised 4 (some .int) 8 2 12 n ρ J M [.ref (ρ 0), .int (nI k), .int (nI g)] (rI (sPrice M k g) M) := by
  refine CtO.of hl (by decide +kernel) (Nat.le_of_ble_eq_true rfl) (fun Ξ hnL C => ?_)
  show E Ξ n ρ J M 0 0 0 [(0, .ref (ρ 0)), (1, .int (nI k)), (2, .int (nI g))] []
  refine e_aload_n (j := 0) C dX2_raised_0 rfl rfl ?_
  refine e_iload_n (j := 1) C dX2_raised_1 rfl rfl ?_
  refine e_cV (i := 0) (nA := 1) (Cn := RX2) C (c_X2_minerAt hl hk hn) rfl (cnt_fix (by decide)) (fun _ => rfl) rfl rfl mw_150 mw_147 mw_148 mw_149 mw_12 (by decide +kernel) (by decide) rfl rfl (Nat.le_of_ble_eq_true rfl) dX2_raised_2 (Nat.le_of_ble_eq_true rfl) (Nat.le_of_ble_eq_true rfl) ?_
  refine e_astore_n (ls2 := [(3, .ref (ρ (mO k))), (0, .ref (ρ 0)), (1, .int (nI k)), (2, .int (nI g))]) C hnL dX2_raised_5 rfl (by decide) rfl ?_
  refine e_iload_n (j := 3) C dX2_raised_6 rfl rfl ?_
  refine e_cS (nA := 1) C (c_X2_requireGoods hl hg) rfl mw_267 mw_265 mw_266 mw_12 (by decide +kernel) (by decide) rfl rfl (Nat.le_of_ble_eq_true rfl) dX2_raised_7 (Nat.le_of_ble_eq_true rfl) (Nat.le_of_ble_eq_true rfl) ?_
  refine e_aload_n (j := 1) C dX2_raised_10 rfl rfl ?_
  refine e_aload_n (j := 0) C dX2_raised_11 rfl rfl ?_
  refine e_iload_n (j := 3) C dX2_raised_12 rfl rfl ?_
  refine e_cV (i := 0) (nA := 2) (Cn := RX2) C (c_X2_storePrice hl hk hg) rfl (cnt_fix (by decide)) (fun _ => rfl) rfl rfl mw_284 mw_281 mw_282 mw_283 mw_12 (by decide +kernel) (by decide) rfl rfl (Nat.le_of_ble_eq_true rfl) dX2_raised_13 (Nat.le_of_ble_eq_true rfl) (Nat.le_of_ble_eq_true rfl) ?_
  exact e_iret C rfl (Nat.le_of_ble_eq_true rfl) (Nat.le_of_ble_eq_true rfl) dX2_raised_16 (pO.mk rfl)
def onCr (M : Mem) (k : Nat) (c : Int32) : Int32 := c - (M (mO k) 5 + sm (M (mS k)) 40)
def o_ref (M : Mem) (k : Nat) (c : Int32) : Int32 := if M 0 15 = 0 then (if M 0 14 = 0 then (if M (mO k) 0 = 0 then 2 else if onCr M k c ≤ 0 then 0 else if M (mO k) 6 + onCr M k c ≤ M 0 9 then 0 else 3) else 1) else 1
set_option maxRecDepth 100000 in
set_option maxHeartbeats 4000000 in
theorem c_X2_refusal {l : Launch} (hl : l.stackTraces = false) {n : Nat} {ρ : Nat → Nat} {J : Nat → Int64} {M : Mem} {k : Nat} (hk : k < n) {c : Int32} : CtO l yX2_refusal cX2_refusal 4 (some .int) 2 0 0 n ρ J M [.ref (ρ 0), .ref (ρ (mO k)), .int c] (rI (o_ref M k c) M) := by
  refine CtO.of hl (by decide +kernel) (Nat.le_of_ble_eq_true rfl) (fun Ξ hnL C => ?_)
  show E Ξ n ρ J M 0 0 0 [(0, .ref (ρ 0)), (1, .ref (ρ (mO k))), (2, .int c)] []
  refine e_aload_n (j := 0) C dX2_refusal_0 rfl rfl ?_
  refine e_get2 (k := 15) (ref := "ScripHollow") C (by decide) rfl rfl mw_144 dX2_refusal_1 ?_
  refine e_if_ne (tgt := 14) C dX2_refusal_4 (by decide) (fun c_4 => ?_) (fun c_4 => ?_)
  · refine e_iconst (v := 1) C dX2_refusal_14 (by decide) ?_
    exact e_iret C rfl (Nat.le_of_ble_eq_true rfl) (Nat.le_of_ble_eq_true rfl) dX2_refusal_15 (pO.mk (by subst_vars; unfold o_ref onCr; (repeat (first | rw [if_pos (by assumption)] | rw [if_neg (by assumption)])); (try rfl)))
  · refine e_aload_n (j := 0) C dX2_refusal_7 rfl rfl ?_
    refine e_get2 (k := 14) (ref := "ScripHollow") C (by decide) rfl rfl mw_143 dX2_refusal_8 ?_
    refine e_if_eq (tgt := 16) C dX2_refusal_11 (by decide) (fun c_11 => ?_) (fun c_11 => ?_)
    · refine e_aload_n (j := 1) C dX2_refusal_16 rfl rfl ?_
      refine e_get0 (k := 0) (kk0 := k) (ref := "ScripHollow$Miner") C hk (by decide) rfl rfl mw_181 dX2_refusal_17 ?_
      refine e_if_ne (tgt := 25) C dX2_refusal_20 (by decide) (fun c_20 => ?_) (fun c_20 => ?_)
      · refine e_iload_n (j := 2) C dX2_refusal_25 rfl rfl ?_
        refine e_aload_n (j := 1) C dX2_refusal_26 rfl rfl ?_
        refine e_cV (i := (mO k)) (nA := 0) (Cn := RX0) C (c_X0_means hl hk) rfl (cnt_O hk) (fun cA => cell_O cA n ρ J k _) rfl rfl mw_292 mw_289 mw_290 mw_291 mw_65 (by decide +kernel) (by decide) rfl rfl (Nat.le_of_ble_eq_true rfl) dX2_refusal_27 (Nat.le_of_ble_eq_true rfl) (Nat.le_of_ble_eq_true rfl) ?_
        refine e_isub C dX2_refusal_30 ?_
        refine e_topi (fun x3_31 ex3_31 => ?_)
        refine e_istore_n (ls2 := [(3, .int x3_31), (0, .ref (ρ 0)), (1, .ref (ρ (mO k))), (2, .int c)]) C hnL dX2_refusal_31 rfl (by decide) rfl ?_
        refine e_iload_n (j := 0) C dX2_refusal_32 rfl rfl ?_
        refine e_if_le (tgt := 53) C dX2_refusal_33 (by decide) (fun c_33 => ?_) (fun c_33 => ?_)
        · refine e_iconst (v := 0) C dX2_refusal_53 (by decide) ?_
          exact e_iret C rfl (Nat.le_of_ble_eq_true rfl) (Nat.le_of_ble_eq_true rfl) dX2_refusal_54 (pO.mk (by subst_vars; unfold o_ref onCr; (repeat (first | rw [if_pos (by assumption)] | rw [if_neg (by assumption)])); (try rfl)))
        · refine e_aload_n (j := 2) C dX2_refusal_36 rfl rfl ?_
          refine e_get0 (k := 6) (kk0 := k) (ref := "ScripHollow$Miner") C hk (by decide) rfl rfl mw_203 dX2_refusal_37 ?_
          refine e_iload_n (j := 0) C dX2_refusal_40 rfl rfl ?_
          refine e_iadd C dX2_refusal_41 ?_
          refine e_aload_n (j := 1) C dX2_refusal_42 rfl rfl ?_
          refine e_get2 (k := 9) (ref := "ScripHollow") C (by decide) rfl rfl mw_34 dX2_refusal_43 ?_
          refine e_icmp_le (tgt := 53) C dX2_refusal_46 (by decide) (fun c_46 => ?_) (fun c_46 => ?_)
          · refine e_iconst (v := 0) C dX2_refusal_53 (by decide) ?_
            exact e_iret C rfl (Nat.le_of_ble_eq_true rfl) (Nat.le_of_ble_eq_true rfl) dX2_refusal_54 (pO.mk (by subst_vars; unfold o_ref onCr; (repeat (first | rw [if_pos (by assumption)] | rw [if_neg (by assumption)])); (try rfl)))
          · refine e_iconst (v := 3) C dX2_refusal_49 (by decide) ?_
            refine e_goto (tgt := 54) C dX2_refusal_50 (by decide) ?_
            exact e_iret C rfl (Nat.le_of_ble_eq_true rfl) (Nat.le_of_ble_eq_true rfl) dX2_refusal_54 (pO.mk (by subst_vars; unfold o_ref onCr; (repeat (first | rw [if_pos (by assumption)] | rw [if_neg (by assumption)])); (try rfl)))
      · refine e_iconst (v := 2) C dX2_refusal_23 (by decide) ?_
        exact e_iret C rfl (Nat.le_of_ble_eq_true rfl) (Nat.le_of_ble_eq_true rfl) dX2_refusal_24 (pO.mk (by subst_vars; unfold o_ref onCr; (repeat (first | rw [if_pos (by assumption)] | rw [if_neg (by assumption)])); (try rfl)))
    · refine e_iconst (v := 1) C dX2_refusal_14 (by decide) ?_
      exact e_iret C rfl (Nat.le_of_ble_eq_true rfl) (Nat.le_of_ble_eq_true rfl) dX2_refusal_15 (pO.mk (by subst_vars; unfold o_ref onCr; (repeat (first | rw [if_pos (by assumption)] | rw [if_neg (by assumption)])); (try rfl)))
set_option maxRecDepth 100000 in
set_option maxHeartbeats 4000000 in
theorem c_X2_whyNot_x {l : Launch} (hl : l.stackTraces = false) {n : Nat} {ρ : Nat → Nat} {J : Nat → Int64} {M : Mem} {x : Int32} (h : x < 0 ∨ nI n ≤ x) {y w : Int32} : CtO l yX2_whyNot cX2_whyNot 5 (some .int) 8 3 18 n ρ J M [.ref (ρ 0), .int x, .int y, .int w] (rX IX M) := by
  refine CtO.of hl (by decide +kernel) (Nat.le_of_ble_eq_true rfl) (fun Ξ hnL C => ?_)
  show E Ξ n ρ J M 0 0 0 [(0, .ref (ρ 0)), (1, .int x), (2, .int y), (3, .int w)] []
  refine e_aload_n (j := 0) C dX2_whyNot_0 rfl rfl ?_
  refine e_iload_n (j := 1) C dX2_whyNot_1 rfl rfl ?_
  exact e_cVx (i := 0) (nA := 1) (Cn := RX2) C (c_X2_minerAt_x hl h) rfl (cnt_fix (by decide)) (fun _ => rfl) rfl rfl mw_150 mw_147 mw_148 mw_149 mw_12 (by decide +kernel) (by decide) rfl rfl (Nat.le_of_ble_eq_true rfl) dX2_whyNot_2 (Nat.le_of_ble_eq_true rfl) (Nat.le_of_ble_eq_true rfl) rfl
set_option maxRecDepth 100000 in
set_option maxHeartbeats 4000000 in
theorem c_X2_whyNot_g {l : Launch} (hl : l.stackTraces = false) {n : Nat} {ρ : Nat → Nat} {J : Nat → Int64} {M : Mem} {k : Nat} (hk : k < n) (hn : n ≤ 10) {y w : Int32} (h : y < 0 ∨ 4 ≤ y) : CtO l yX2_whyNot cX2_whyNot 5 (some .int) 8 3 18 n ρ J M [.ref (ρ 0), .int (nI k), .int y, .int w] (rX IX M) := by
  refine CtO.of hl (by decide +kernel) (Nat.le_of_ble_eq_true rfl) (fun Ξ hnL C => ?_)
  show E Ξ n ρ J M 0 0 0 [(0, .ref (ρ 0)), (1, .int (nI k)), (2, .int y), (3, .int w)] []
  refine e_aload_n (j := 0) C dX2_whyNot_0 rfl rfl ?_
  refine e_iload_n (j := 1) C dX2_whyNot_1 rfl rfl ?_
  refine e_cV (i := 0) (nA := 1) (Cn := RX2) C (c_X2_minerAt hl hk hn) rfl (cnt_fix (by decide)) (fun _ => rfl) rfl rfl mw_150 mw_147 mw_148 mw_149 mw_12 (by decide +kernel) (by decide) rfl rfl (Nat.le_of_ble_eq_true rfl) dX2_whyNot_2 (Nat.le_of_ble_eq_true rfl) (Nat.le_of_ble_eq_true rfl) ?_
  refine e_astore (ls2 := [(4, .ref (ρ (mO k))), (0, .ref (ρ 0)), (1, .int (nI k)), (2, .int y), (3, .int w)]) C hnL dX2_whyNot_5 (by decide) rfl ?_
  refine e_iload_n (j := 3) C dX2_whyNot_7 rfl rfl ?_
  exact e_cSx (nA := 1) C (c_X2_requireGoods_x hl h) rfl mw_267 mw_265 mw_266 mw_12 (by decide +kernel) (by decide) rfl rfl (Nat.le_of_ble_eq_true rfl) dX2_whyNot_8 (Nat.le_of_ble_eq_true rfl) (Nat.le_of_ble_eq_true rfl) rfl
def o_why (M : Mem) (k g : Nat) (w : Int32) : Out := if w < 1 ∨ 50 < w then rX IA M else rI (o_ref M k (sPrice M k g * w)) M
set_option maxRecDepth 100000 in
set_option maxHeartbeats 4000000 in
theorem c_X2_whyNot {l : Launch} (hl : l.stackTraces = false) {n : Nat} {ρ : Nat → Nat} {J : Nat → Int64} {M : Mem} {k : Nat} (hk : k < n) (hn : n ≤ 10) {g : Nat} (hg : g < 4) {w : Int32} : CtO l yX2_whyNot cX2_whyNot 5 (some .int) 8 3 18 n ρ J M [.ref (ρ 0), .int (nI k), .int (nI g), .int w] (o_why M k g w) := by
  refine CtO.of hl (by decide +kernel) (Nat.le_of_ble_eq_true rfl) (fun Ξ hnL C => ?_)
  show E Ξ n ρ J M 0 0 0 [(0, .ref (ρ 0)), (1, .int (nI k)), (2, .int (nI g)), (3, .int w)] []
  by_cases h : w < 1 ∨ 50 < w
  · refine e_aload_n (j := 0) C dX2_whyNot_0 rfl rfl ?_
    refine e_iload_n (j := 1) C dX2_whyNot_1 rfl rfl ?_
    refine e_cV (i := 0) (nA := 1) (Cn := RX2) C (c_X2_minerAt hl hk hn) rfl (cnt_fix (by decide)) (fun _ => rfl) rfl rfl mw_150 mw_147 mw_148 mw_149 mw_12 (by decide +kernel) (by decide) rfl rfl (Nat.le_of_ble_eq_true rfl) dX2_whyNot_2 (Nat.le_of_ble_eq_true rfl) (Nat.le_of_ble_eq_true rfl) ?_
    refine e_astore (ls2 := [(4, .ref (ρ (mO k))), (0, .ref (ρ 0)), (1, .int (nI k)), (2, .int (nI g)), (3, .int w)]) C hnL dX2_whyNot_5 (by decide) rfl ?_
    refine e_iload_n (j := 3) C dX2_whyNot_7 rfl rfl ?_
    refine e_cS (nA := 1) C (c_X2_requireGoods hl hg) rfl mw_267 mw_265 mw_266 mw_12 (by decide +kernel) (by decide) rfl rfl (Nat.le_of_ble_eq_true rfl) dX2_whyNot_8 (Nat.le_of_ble_eq_true rfl) (Nat.le_of_ble_eq_true rfl) ?_
    refine e_iload_n (j := 4) C dX2_whyNot_11 rfl rfl ?_
    refine e_iconst (v := 1) C dX2_whyNot_12 (by decide) ?_
    refine e_bipush (v := 50) C dX2_whyNot_13 (by decide) ?_
    exact e_cSx (nA := 3) C (c_X2_requireRange_x hl h) rfl mw_175 mw_173 mw_174 mw_12 (by decide +kernel) (by decide) rfl rfl (Nat.le_of_ble_eq_true rfl) dX2_whyNot_15 (Nat.le_of_ble_eq_true rfl) (Nat.le_of_ble_eq_true rfl) (by subst_vars; unfold o_why; (repeat (first | rw [if_pos (by assumption)] | rw [if_neg (by assumption)])); (try rfl))
  · refine e_aload_n (j := 0) C dX2_whyNot_0 rfl rfl ?_
    refine e_iload_n (j := 1) C dX2_whyNot_1 rfl rfl ?_
    refine e_cV (i := 0) (nA := 1) (Cn := RX2) C (c_X2_minerAt hl hk hn) rfl (cnt_fix (by decide)) (fun _ => rfl) rfl rfl mw_150 mw_147 mw_148 mw_149 mw_12 (by decide +kernel) (by decide) rfl rfl (Nat.le_of_ble_eq_true rfl) dX2_whyNot_2 (Nat.le_of_ble_eq_true rfl) (Nat.le_of_ble_eq_true rfl) ?_
    refine e_astore (ls2 := [(4, .ref (ρ (mO k))), (0, .ref (ρ 0)), (1, .int (nI k)), (2, .int (nI g)), (3, .int w)]) C hnL dX2_whyNot_5 (by decide) rfl ?_
    refine e_iload_n (j := 3) C dX2_whyNot_7 rfl rfl ?_
    refine e_cS (nA := 1) C (c_X2_requireGoods hl hg) rfl mw_267 mw_265 mw_266 mw_12 (by decide +kernel) (by decide) rfl rfl (Nat.le_of_ble_eq_true rfl) dX2_whyNot_8 (Nat.le_of_ble_eq_true rfl) (Nat.le_of_ble_eq_true rfl) ?_
    refine e_iload_n (j := 4) C dX2_whyNot_11 rfl rfl ?_
    refine e_iconst (v := 1) C dX2_whyNot_12 (by decide) ?_
    refine e_bipush (v := 50) C dX2_whyNot_13 (by decide) ?_
    refine e_cS (nA := 3) C (c_X2_requireRange hl (rng_ok h).1 (rng_ok h).2) rfl mw_175 mw_173 mw_174 mw_12 (by decide +kernel) (by decide) rfl rfl (Nat.le_of_ble_eq_true rfl) dX2_whyNot_15 (Nat.le_of_ble_eq_true rfl) (Nat.le_of_ble_eq_true rfl) ?_
    refine e_aload_n (j := 1) C dX2_whyNot_18 rfl rfl ?_
    refine e_aload (j := 0) C dX2_whyNot_19 rfl ?_
    refine e_aload_n (j := 1) C dX2_whyNot_21 rfl rfl ?_
    refine e_aload (j := 0) C dX2_whyNot_22 rfl ?_
    refine e_iload_n (j := 3) C dX2_whyNot_24 rfl rfl ?_
    refine e_cV (i := 0) (nA := 2) (Cn := RX2) C (c_X2_storePrice hl hk hg) rfl (cnt_fix (by decide)) (fun _ => rfl) rfl rfl mw_284 mw_281 mw_282 mw_283 mw_12 (by decide +kernel) (by decide) rfl rfl (Nat.le_of_ble_eq_true rfl) dX2_whyNot_25 (Nat.le_of_ble_eq_true rfl) (Nat.le_of_ble_eq_true rfl) ?_
    refine e_iload_n (j := 4) C dX2_whyNot_28 rfl rfl ?_
    refine e_imul C dX2_whyNot_29 ?_
    refine e_cV (i := 0) (nA := 2) (Cn := RX2) C (c_X2_refusal hl hk) rfl (cnt_fix (by decide)) (fun _ => rfl) rfl rfl mw_288 mw_285 mw_286 mw_287 mw_12 (by decide +kernel) (by decide) rfl rfl (Nat.le_of_ble_eq_true rfl) dX2_whyNot_30 (Nat.le_of_ble_eq_true rfl) (Nat.le_of_ble_eq_true rfl) ?_
    exact e_iret C rfl (Nat.le_of_ble_eq_true rfl) (Nat.le_of_ble_eq_true rfl) dX2_whyNot_33 (pO.mk (by subst_vars; unfold o_why; (repeat (first | rw [if_pos (by assumption)] | rw [if_neg (by assumption)])); (try rfl)))
set_option maxRecDepth 100000 in
set_option maxHeartbeats 4000000 in
theorem c_X2_buy_x {l : Launch} (hl : l.stackTraces = false) {n : Nat} {ρ : Nat → Nat} {J : Nat → Int64} {M : Mem} {x : Int32} (h : x < 0 ∨ nI n ≤ x) {y w : Int32} : CtO l yX2_buy cX2_buy 8 (some .int) 8 4 24 n ρ J M [.ref (ρ 0), .int x, .int y, .int w] (rX IX M) := by
  refine CtO.of hl (by decide +kernel) (Nat.le_of_ble_eq_true rfl) (fun Ξ hnL C => ?_)
  show E Ξ n ρ J M 0 0 0 [(0, .ref (ρ 0)), (1, .int x), (2, .int y), (3, .int w)] []
  refine e_aload_n (j := 0) C dX2_buy_0 rfl rfl ?_
  refine e_iload_n (j := 1) C dX2_buy_1 rfl rfl ?_
  exact e_cVx (i := 0) (nA := 1) (Cn := RX2) C (c_X2_minerAt_x hl h) rfl (cnt_fix (by decide)) (fun _ => rfl) rfl rfl mw_150 mw_147 mw_148 mw_149 mw_12 (by decide +kernel) (by decide) rfl rfl (Nat.le_of_ble_eq_true rfl) dX2_buy_2 (Nat.le_of_ble_eq_true rfl) (Nat.le_of_ble_eq_true rfl) rfl
set_option maxRecDepth 100000 in
set_option maxHeartbeats 4000000 in
theorem c_X2_buy_g {l : Launch} (hl : l.stackTraces = false) {n : Nat} {ρ : Nat → Nat} {J : Nat → Int64} {M : Mem} {k : Nat} (hk : k < n) (hn : n ≤ 10) {y w : Int32} (h : y < 0 ∨ 4 ≤ y) : CtO l yX2_buy cX2_buy 8 (some .int) 8 4 24 n ρ J M [.ref (ρ 0), .int (nI k), .int y, .int w] (rX IX M) := by
  refine CtO.of hl (by decide +kernel) (Nat.le_of_ble_eq_true rfl) (fun Ξ hnL C => ?_)
  show E Ξ n ρ J M 0 0 0 [(0, .ref (ρ 0)), (1, .int (nI k)), (2, .int y), (3, .int w)] []
  refine e_aload_n (j := 0) C dX2_buy_0 rfl rfl ?_
  refine e_iload_n (j := 1) C dX2_buy_1 rfl rfl ?_
  refine e_cV (i := 0) (nA := 1) (Cn := RX2) C (c_X2_minerAt hl hk hn) rfl (cnt_fix (by decide)) (fun _ => rfl) rfl rfl mw_150 mw_147 mw_148 mw_149 mw_12 (by decide +kernel) (by decide) rfl rfl (Nat.le_of_ble_eq_true rfl) dX2_buy_2 (Nat.le_of_ble_eq_true rfl) (Nat.le_of_ble_eq_true rfl) ?_
  refine e_astore (ls2 := [(4, .ref (ρ (mO k))), (0, .ref (ρ 0)), (1, .int (nI k)), (2, .int y), (3, .int w)]) C hnL dX2_buy_5 (by decide) rfl ?_
  refine e_iload_n (j := 3) C dX2_buy_7 rfl rfl ?_
  exact e_cSx (nA := 1) C (c_X2_requireGoods_x hl h) rfl mw_267 mw_265 mw_266 mw_12 (by decide +kernel) (by decide) rfl rfl (Nat.le_of_ble_eq_true rfl) dX2_buy_8 (Nat.le_of_ble_eq_true rfl) (Nat.le_of_ble_eq_true rfl) rfl
def by1 (M : Mem) (k : Nat) (c : Int32) : Mem := (llow M k c 40).1
def byI (M : Mem) (k : Nat) (c : Int32) : Int32 := (llow M k c 40).2
def byC (M : Mem) (k : Nat) (c : Int32) : Int32 := mn (c - byI M k c) (by1 M k c (mO k) 5)
def by2 (M : Mem) (k : Nat) (c : Int32) : Mem := up (by1 M k c) 7 1 (by1 M k c 7 1 + byI M k c)
def by3 (M : Mem) (k : Nat) (c : Int32) : Mem := up (by2 M k c) (mO k) 5 (by2 M k c (mO k) 5 - byC M k c)
def by4 (M : Mem) (k : Nat) (c : Int32) : Mem := up (by3 M k c) (mO k) 6 (by3 M k c (mO k) 6 + (c - byI M k c - byC M k c))
def by5 (M : Mem) (k g : Nat) (c w : Int32) : Mem := up (by4 M k c) (mG k) g (by4 M k c (mG k) g + w)
def o_buy (M : Mem) (k g : Nat) (w : Int32) : Out := if w < 1 ∨ 50 < w then rX IA M else if o_ref M k (sPrice M k g * w) = 0 then rI (by5 M k g (sPrice M k g * w) w (mO k) 6) (by5 M k g (sPrice M k g * w) w) else rX IS M
set_option maxRecDepth 100000 in
set_option maxHeartbeats 4000000 in
theorem c_X2_buy {l : Launch} (hl : l.stackTraces = false) {n : Nat} {ρ : Nat → Nat} {J : Nat → Int64} {M : Mem} {k : Nat} (hk : k < n) (hn : n ≤ 10) {g : Nat} (hg : g < 4) {w : Int32} : CtO l yX2_buy cX2_buy 8 (some .int) 8 4 24 n ρ J M [.ref (ρ 0), .int (nI k), .int (nI g), .int w] (o_buy M k g w) := by
  refine CtO.of hl (by decide +kernel) (Nat.le_of_ble_eq_true rfl) (fun Ξ hnL C => ?_)
  show E Ξ n ρ J M 0 0 0 [(0, .ref (ρ 0)), (1, .int (nI k)), (2, .int (nI g)), (3, .int w)] []
  by_cases h : w < 1 ∨ 50 < w
  · refine e_aload_n (j := 0) C dX2_buy_0 rfl rfl ?_
    refine e_iload_n (j := 1) C dX2_buy_1 rfl rfl ?_
    refine e_cV (i := 0) (nA := 1) (Cn := RX2) C (c_X2_minerAt hl hk hn) rfl (cnt_fix (by decide)) (fun _ => rfl) rfl rfl mw_150 mw_147 mw_148 mw_149 mw_12 (by decide +kernel) (by decide) rfl rfl (Nat.le_of_ble_eq_true rfl) dX2_buy_2 (Nat.le_of_ble_eq_true rfl) (Nat.le_of_ble_eq_true rfl) ?_
    refine e_astore (ls2 := [(4, .ref (ρ (mO k))), (0, .ref (ρ 0)), (1, .int (nI k)), (2, .int (nI g)), (3, .int w)]) C hnL dX2_buy_5 (by decide) rfl ?_
    refine e_iload_n (j := 3) C dX2_buy_7 rfl rfl ?_
    refine e_cS (nA := 1) C (c_X2_requireGoods hl hg) rfl mw_267 mw_265 mw_266 mw_12 (by decide +kernel) (by decide) rfl rfl (Nat.le_of_ble_eq_true rfl) dX2_buy_8 (Nat.le_of_ble_eq_true rfl) (Nat.le_of_ble_eq_true rfl) ?_
    refine e_iload_n (j := 4) C dX2_buy_11 rfl rfl ?_
    refine e_iconst (v := 1) C dX2_buy_12 (by decide) ?_
    refine e_bipush (v := 50) C dX2_buy_13 (by decide) ?_
    exact e_cSx (nA := 3) C (c_X2_requireRange_x hl h) rfl mw_175 mw_173 mw_174 mw_12 (by decide +kernel) (by decide) rfl rfl (Nat.le_of_ble_eq_true rfl) dX2_buy_15 (Nat.le_of_ble_eq_true rfl) (Nat.le_of_ble_eq_true rfl) (by subst_vars; unfold o_buy; (repeat (first | rw [if_pos (by assumption)] | rw [if_neg (by assumption)])); (try rfl))
  · refine e_aload_n (j := 0) C dX2_buy_0 rfl rfl ?_
    refine e_iload_n (j := 1) C dX2_buy_1 rfl rfl ?_
    refine e_cV (i := 0) (nA := 1) (Cn := RX2) C (c_X2_minerAt hl hk hn) rfl (cnt_fix (by decide)) (fun _ => rfl) rfl rfl mw_150 mw_147 mw_148 mw_149 mw_12 (by decide +kernel) (by decide) rfl rfl (Nat.le_of_ble_eq_true rfl) dX2_buy_2 (Nat.le_of_ble_eq_true rfl) (Nat.le_of_ble_eq_true rfl) ?_
    refine e_astore (ls2 := [(4, .ref (ρ (mO k))), (0, .ref (ρ 0)), (1, .int (nI k)), (2, .int (nI g)), (3, .int w)]) C hnL dX2_buy_5 (by decide) rfl ?_
    refine e_iload_n (j := 3) C dX2_buy_7 rfl rfl ?_
    refine e_cS (nA := 1) C (c_X2_requireGoods hl hg) rfl mw_267 mw_265 mw_266 mw_12 (by decide +kernel) (by decide) rfl rfl (Nat.le_of_ble_eq_true rfl) dX2_buy_8 (Nat.le_of_ble_eq_true rfl) (Nat.le_of_ble_eq_true rfl) ?_
    refine e_iload_n (j := 4) C dX2_buy_11 rfl rfl ?_
    refine e_iconst (v := 1) C dX2_buy_12 (by decide) ?_
    refine e_bipush (v := 50) C dX2_buy_13 (by decide) ?_
    refine e_cS (nA := 3) C (c_X2_requireRange hl (rng_ok h).1 (rng_ok h).2) rfl mw_175 mw_173 mw_174 mw_12 (by decide +kernel) (by decide) rfl rfl (Nat.le_of_ble_eq_true rfl) dX2_buy_15 (Nat.le_of_ble_eq_true rfl) (Nat.le_of_ble_eq_true rfl) ?_
    refine e_aload_n (j := 1) C dX2_buy_18 rfl rfl ?_
    refine e_aload (j := 0) C dX2_buy_19 rfl ?_
    refine e_iload_n (j := 3) C dX2_buy_21 rfl rfl ?_
    refine e_cV (i := 0) (nA := 2) (Cn := RX2) C (c_X2_storePrice hl hk hg) rfl (cnt_fix (by decide)) (fun _ => rfl) rfl rfl mw_284 mw_281 mw_282 mw_283 mw_12 (by decide +kernel) (by decide) rfl rfl (Nat.le_of_ble_eq_true rfl) dX2_buy_22 (Nat.le_of_ble_eq_true rfl) (Nat.le_of_ble_eq_true rfl) ?_
    refine e_iload_n (j := 4) C dX2_buy_25 rfl rfl ?_
    refine e_imul C dX2_buy_26 ?_
    refine e_topi (fun x5_27 ex5_27 => ?_)
    refine e_istore (ls2 := [(5, .int x5_27), (4, .ref (ρ (mO k))), (0, .ref (ρ 0)), (1, .int (nI k)), (2, .int (nI g)), (3, .int w)]) C hnL dX2_buy_27 (by decide) rfl ?_
    refine e_aload_n (j := 2) C dX2_buy_29 rfl rfl ?_
    refine e_aload (j := 1) C dX2_buy_30 rfl ?_
    refine e_iload (j := 0) C dX2_buy_32 rfl ?_
    refine e_cV (i := 0) (nA := 2) (Cn := RX2) C (c_X2_refusal hl hk) rfl (cnt_fix (by decide)) (fun _ => rfl) rfl rfl mw_288 mw_285 mw_286 mw_287 mw_12 (by decide +kernel) (by decide) rfl rfl (Nat.le_of_ble_eq_true rfl) dX2_buy_34 (Nat.le_of_ble_eq_true rfl) (Nat.le_of_ble_eq_true rfl) ?_
    refine e_if_eq (tgt := 50) C dX2_buy_37 (by decide) (fun c_37 => ?_) (fun c_37 => ?_)
    · refine e_aload (j := 1) C dX2_buy_50 rfl ?_
      refine e_iload (j := 0) C dX2_buy_52 rfl ?_
      refine e_cV (i := (mO k)) (nA := 1) (Cn := RX0) C (c_X0_loseLowestScrip hl hk) rfl (cnt_O hk) (fun cA => cell_O cA n ρ J k _) rfl rfl mw_309 mw_306 mw_307 mw_308 mw_65 (by decide +kernel) (by decide) rfl rfl (Nat.le_of_ble_eq_true rfl) dX2_buy_54 (Nat.le_of_ble_eq_true rfl) (Nat.le_of_ble_eq_true rfl) ?_
      refine e_topi (fun x6_57 ex6_57 => ?_)
      refine e_istore (ls2 := [(6, .int x6_57), (5, .int x5_27), (4, .ref (ρ (mO k))), (0, .ref (ρ 0)), (1, .int (nI k)), (2, .int (nI g)), (3, .int w)]) C hnL dX2_buy_57 (by decide) rfl ?_
      refine e_iload (j := 1) C dX2_buy_59 rfl ?_
      refine e_iload (j := 0) C dX2_buy_61 rfl ?_
      refine e_isub C dX2_buy_63 ?_
      refine e_aload (j := 2) C dX2_buy_64 rfl ?_
      refine e_get0 (k := 5) (kk0 := k) (ref := "ScripHollow$Miner") C hk (by decide) rfl rfl mw_240 dX2_buy_66 ?_
      refine e_min C hnL mw_305 mw_125 mw_99 mw_126 (Nat.le_of_ble_eq_true rfl) (Nat.le_of_ble_eq_true rfl) (Nat.le_of_ble_eq_true rfl) (Nat.le_of_ble_eq_true rfl) dX2_buy_69 ?_
      refine e_topi (fun x7_72 ex7_72 => ?_)
      refine e_istore (ls2 := [(7, .int x7_72), (6, .int x6_57), (5, .int x5_27), (4, .ref (ρ (mO k))), (0, .ref (ρ 0)), (1, .int (nI k)), (2, .int (nI g)), (3, .int w)]) C hnL dX2_buy_72 (by decide) rfl ?_
      refine e_aload_n (j := 4) C dX2_buy_74 rfl rfl ?_
      refine e_get2 (k := 17) (ref := "ScripHollow") C (by decide) rfl rfl mw_38 dX2_buy_75 ?_
      refine e_iconst (v := 1) C dX2_buy_78 (by decide) ?_
      refine e_dup2 C dX2_buy_79 rfl rfl ?_
      refine e_ialdN 1 C (cnt_fix (by decide)) (fun _ => rfl) rfl (by decide) (by decide) dX2_buy_80 ?_
      refine e_iload (j := 1) C dX2_buy_81 rfl ?_
      refine e_iadd C dX2_buy_83 ?_
      refine e_iastN 1 C (cnt_fix (by decide)) (fun _ _ => rfl) rfl (by decide) (by decide) dX2_buy_84 ?_
      refine e_aload (j := 3) C dX2_buy_85 rfl ?_
      refine e_dup C dX2_buy_87 rfl ?_
      refine e_get0 (k := 5) (kk0 := k) (ref := "ScripHollow$Miner") C hk (by decide) rfl rfl mw_240 dX2_buy_88 ?_
      refine e_iload (j := 0) C dX2_buy_91 rfl ?_
      refine e_isub C dX2_buy_93 ?_
      refine e_put0 (k := 5) (kk0 := k) (ref := "ScripHollow$Miner") (ty := .int) C hk (by decide) rfl rfl (by decide +kernel) rfl rfl rfl mw_240 dX2_buy_94 ?_
      refine e_aload (j := 3) C dX2_buy_97 rfl ?_
      refine e_dup C dX2_buy_99 rfl ?_
      refine e_get0 (k := 6) (kk0 := k) (ref := "ScripHollow$Miner") C hk (by decide) rfl rfl mw_203 dX2_buy_100 ?_
      refine e_iload (j := 2) C dX2_buy_103 rfl ?_
      refine e_iload (j := 1) C dX2_buy_105 rfl ?_
      refine e_isub C dX2_buy_107 ?_
      refine e_iload (j := 0) C dX2_buy_108 rfl ?_
      refine e_isub C dX2_buy_110 ?_
      refine e_iadd C dX2_buy_111 ?_
      refine e_put0 (k := 6) (kk0 := k) (ref := "ScripHollow$Miner") (ty := .int) C hk (by decide) rfl rfl (by decide +kernel) rfl rfl rfl mw_203 dX2_buy_112 ?_
      refine e_aload (j := 3) C dX2_buy_115 rfl ?_
      refine e_get0 (k := 10) (kk0 := k) (ref := "ScripHollow$Miner") C hk (by decide) rfl rfl mw_264 dX2_buy_117 ?_
      refine e_iload_n (j := 6) C dX2_buy_120 rfl rfl ?_
      refine e_dup2 C dX2_buy_121 rfl rfl ?_
      refine e_ialdN g C (cnt_G hk) (fun cA => cell_G cA n ρ J k _) rfl (by omega) (by decide) dX2_buy_122 ?_
      refine e_iload_n (j := 7) C dX2_buy_123 rfl rfl ?_
      refine e_iadd C dX2_buy_124 ?_
      refine e_iastN g C (cnt_G hk) (fun cA f => cell_G cA n ρ J k f) rfl (by omega) (by decide) dX2_buy_125 ?_
      refine e_aload (j := 3) C dX2_buy_126 rfl ?_
      refine e_get0 (k := 6) (kk0 := k) (ref := "ScripHollow$Miner") C hk (by decide) rfl rfl mw_203 dX2_buy_128 ?_
      exact e_iret C rfl (Nat.le_of_ble_eq_true rfl) (Nat.le_of_ble_eq_true rfl) dX2_buy_131 (pO.mk (by subst_vars; unfold o_buy; (repeat (first | rw [if_pos (by assumption)] | rw [if_neg (by assumption)])); (try rfl)))
    · exact e_throw (text := "the store refuses") C th_IS mw_61 mw_62 (by decide) rfl rfl dX2_buy_40 dX2_buy_43 dX2_buy_44 dX2_buy_46 dX2_buy_49 (by decide) (Nat.le_of_ble_eq_true rfl) (Nat.le_of_ble_eq_true rfl) (Nat.le_of_ble_eq_true rfl) (Nat.le_of_ble_eq_true rfl) (Nat.le_of_ble_eq_true rfl) (xO.mk (by subst_vars; unfold o_buy; (repeat (first | rw [if_pos (by assumption)] | rw [if_neg (by assumption)])); (try rfl)))
set_option maxRecDepth 100000 in
set_option maxHeartbeats 4000000 in
theorem c_X2_over_x {l : Launch} (hl : l.stackTraces = false) {n : Nat} {ρ : Nat → Nat} {J : Nat → Int64} {M : Mem} {x : Int32} (h : x < 0 ∨ nI n ≤ x) {y w : Int32} : CtO l yX2_over cX2_over 6 (some .int) 8 4 24 n ρ J M [.ref (ρ 0), .int x, .int y, .int w] (rX IX M) := by
  refine CtO.of hl (by decide +kernel) (Nat.le_of_ble_eq_true rfl) (fun Ξ hnL C => ?_)
  show E Ξ n ρ J M 0 0 0 [(0, .ref (ρ 0)), (1, .int x), (2, .int y), (3, .int w)] []
  refine e_aload_n (j := 0) C dX2_over_0 rfl rfl ?_
  refine e_iload_n (j := 1) C dX2_over_1 rfl rfl ?_
  exact e_cVx (i := 0) (nA := 1) (Cn := RX2) C (c_X2_minerAt_x hl h) rfl (cnt_fix (by decide)) (fun _ => rfl) rfl rfl mw_150 mw_147 mw_148 mw_149 mw_12 (by decide +kernel) (by decide) rfl rfl (Nat.le_of_ble_eq_true rfl) dX2_over_2 (Nat.le_of_ble_eq_true rfl) (Nat.le_of_ble_eq_true rfl) rfl
set_option maxRecDepth 100000 in
set_option maxHeartbeats 4000000 in
theorem c_X2_over_g {l : Launch} (hl : l.stackTraces = false) {n : Nat} {ρ : Nat → Nat} {J : Nat → Int64} {M : Mem} {k : Nat} (hk : k < n) (hn : n ≤ 10) {y w : Int32} (h : y < 0 ∨ 4 ≤ y) : CtO l yX2_over cX2_over 6 (some .int) 8 4 24 n ρ J M [.ref (ρ 0), .int (nI k), .int y, .int w] (rX IX M) := by
  refine CtO.of hl (by decide +kernel) (Nat.le_of_ble_eq_true rfl) (fun Ξ hnL C => ?_)
  show E Ξ n ρ J M 0 0 0 [(0, .ref (ρ 0)), (1, .int (nI k)), (2, .int y), (3, .int w)] []
  refine e_aload_n (j := 0) C dX2_over_0 rfl rfl ?_
  refine e_iload_n (j := 1) C dX2_over_1 rfl rfl ?_
  refine e_cV (i := 0) (nA := 1) (Cn := RX2) C (c_X2_minerAt hl hk hn) rfl (cnt_fix (by decide)) (fun _ => rfl) rfl rfl mw_150 mw_147 mw_148 mw_149 mw_12 (by decide +kernel) (by decide) rfl rfl (Nat.le_of_ble_eq_true rfl) dX2_over_2 (Nat.le_of_ble_eq_true rfl) (Nat.le_of_ble_eq_true rfl) ?_
  refine e_astore (ls2 := [(4, .ref (ρ (mO k))), (0, .ref (ρ 0)), (1, .int (nI k)), (2, .int y), (3, .int w)]) C hnL dX2_over_5 (by decide) rfl ?_
  refine e_iload_n (j := 3) C dX2_over_7 rfl rfl ?_
  exact e_cSx (nA := 1) C (c_X2_requireGoods_x hl h) rfl mw_267 mw_265 mw_266 mw_12 (by decide +kernel) (by decide) rfl rfl (Nat.le_of_ble_eq_true rfl) dX2_over_8 (Nat.le_of_ble_eq_true rfl) (Nat.le_of_ble_eq_true rfl) rfl
def ov1 (M : Mem) (k : Nat) (c : Int32) : Mem := up M (mO k) 5 (M (mO k) 5 - c)
def ov2 (M : Mem) (k g : Nat) (c w : Int32) : Mem := up (ov1 M k c) (mG k) g (ov1 M k c (mG k) g + w)
def o_over (M : Mem) (k g : Nat) (w : Int32) : Out := if w < 1 ∨ 50 < w then rX IA M else if M (mO k) 0 = 0 then rX IS M else if M 5 g * w ≤ M (mO k) 5 then rI (ov2 M k g (M 5 g * w) w (mO k) 5) (ov2 M k g (M 5 g * w) w) else rX IS M
set_option maxRecDepth 100000 in
set_option maxHeartbeats 4000000 in
theorem c_X2_over {l : Launch} (hl : l.stackTraces = false) {n : Nat} {ρ : Nat → Nat} {J : Nat → Int64} {M : Mem} {k : Nat} (hk : k < n) (hn : n ≤ 10) {g : Nat} (hg : g < 4) {w : Int32} : CtO l yX2_over cX2_over 6 (some .int) 8 5 30 n ρ J M [.ref (ρ 0), .int (nI k), .int (nI g), .int w] (o_over M k g w) := by
  refine CtO.of hl (by decide +kernel) (Nat.le_of_ble_eq_true rfl) (fun Ξ hnL C => ?_)
  show E Ξ n ρ J M 0 0 0 [(0, .ref (ρ 0)), (1, .int (nI k)), (2, .int (nI g)), (3, .int w)] []
  by_cases h : w < 1 ∨ 50 < w
  · refine e_aload_n (j := 0) C dX2_over_0 rfl rfl ?_
    refine e_iload_n (j := 1) C dX2_over_1 rfl rfl ?_
    refine e_cV (i := 0) (nA := 1) (Cn := RX2) C (c_X2_minerAt hl hk hn) rfl (cnt_fix (by decide)) (fun _ => rfl) rfl rfl mw_150 mw_147 mw_148 mw_149 mw_12 (by decide +kernel) (by decide) rfl rfl (Nat.le_of_ble_eq_true rfl) dX2_over_2 (Nat.le_of_ble_eq_true rfl) (Nat.le_of_ble_eq_true rfl) ?_
    refine e_astore (ls2 := [(4, .ref (ρ (mO k))), (0, .ref (ρ 0)), (1, .int (nI k)), (2, .int (nI g)), (3, .int w)]) C hnL dX2_over_5 (by decide) rfl ?_
    refine e_iload_n (j := 3) C dX2_over_7 rfl rfl ?_
    refine e_cS (nA := 1) C (c_X2_requireGoods hl hg) rfl mw_267 mw_265 mw_266 mw_12 (by decide +kernel) (by decide) rfl rfl (Nat.le_of_ble_eq_true rfl) dX2_over_8 (Nat.le_of_ble_eq_true rfl) (Nat.le_of_ble_eq_true rfl) ?_
    refine e_iload_n (j := 4) C dX2_over_11 rfl rfl ?_
    refine e_iconst (v := 1) C dX2_over_12 (by decide) ?_
    refine e_bipush (v := 50) C dX2_over_13 (by decide) ?_
    exact e_cSx (nA := 3) C (c_X2_requireRange_x hl h) rfl mw_175 mw_173 mw_174 mw_12 (by decide +kernel) (by decide) rfl rfl (Nat.le_of_ble_eq_true rfl) dX2_over_15 (Nat.le_of_ble_eq_true rfl) (Nat.le_of_ble_eq_true rfl) (by subst_vars; unfold o_over; (repeat (first | rw [if_pos (by assumption)] | rw [if_neg (by assumption)])); (try rfl))
  · by_cases h2 : M (mO k) 0 = 0
    · refine e_aload_n (j := 0) C dX2_over_0 rfl rfl ?_
      refine e_iload_n (j := 1) C dX2_over_1 rfl rfl ?_
      refine e_cV (i := 0) (nA := 1) (Cn := RX2) C (c_X2_minerAt hl hk hn) rfl (cnt_fix (by decide)) (fun _ => rfl) rfl rfl mw_150 mw_147 mw_148 mw_149 mw_12 (by decide +kernel) (by decide) rfl rfl (Nat.le_of_ble_eq_true rfl) dX2_over_2 (Nat.le_of_ble_eq_true rfl) (Nat.le_of_ble_eq_true rfl) ?_
      refine e_astore (ls2 := [(4, .ref (ρ (mO k))), (0, .ref (ρ 0)), (1, .int (nI k)), (2, .int (nI g)), (3, .int w)]) C hnL dX2_over_5 (by decide) rfl ?_
      refine e_iload_n (j := 3) C dX2_over_7 rfl rfl ?_
      refine e_cS (nA := 1) C (c_X2_requireGoods hl hg) rfl mw_267 mw_265 mw_266 mw_12 (by decide +kernel) (by decide) rfl rfl (Nat.le_of_ble_eq_true rfl) dX2_over_8 (Nat.le_of_ble_eq_true rfl) (Nat.le_of_ble_eq_true rfl) ?_
      refine e_iload_n (j := 4) C dX2_over_11 rfl rfl ?_
      refine e_iconst (v := 1) C dX2_over_12 (by decide) ?_
      refine e_bipush (v := 50) C dX2_over_13 (by decide) ?_
      refine e_cS (nA := 3) C (c_X2_requireRange hl (rng_ok h).1 (rng_ok h).2) rfl mw_175 mw_173 mw_174 mw_12 (by decide +kernel) (by decide) rfl rfl (Nat.le_of_ble_eq_true rfl) dX2_over_15 (Nat.le_of_ble_eq_true rfl) (Nat.le_of_ble_eq_true rfl) ?_
      refine e_aload (j := 0) C dX2_over_18 rfl ?_
      exact e_cSx (nA := 1) C (c_X2_requireAlive_x hl hk h2) rfl mw_180 mw_178 mw_179 mw_12 (by decide +kernel) (by decide) rfl rfl (Nat.le_of_ble_eq_true rfl) dX2_over_20 (Nat.le_of_ble_eq_true rfl) (Nat.le_of_ble_eq_true rfl) (by subst_vars; unfold o_over; (repeat (first | rw [if_pos (by assumption)] | rw [if_neg (by assumption)])); (try rfl))
    · refine e_aload_n (j := 0) C dX2_over_0 rfl rfl ?_
      refine e_iload_n (j := 1) C dX2_over_1 rfl rfl ?_
      refine e_cV (i := 0) (nA := 1) (Cn := RX2) C (c_X2_minerAt hl hk hn) rfl (cnt_fix (by decide)) (fun _ => rfl) rfl rfl mw_150 mw_147 mw_148 mw_149 mw_12 (by decide +kernel) (by decide) rfl rfl (Nat.le_of_ble_eq_true rfl) dX2_over_2 (Nat.le_of_ble_eq_true rfl) (Nat.le_of_ble_eq_true rfl) ?_
      refine e_astore (ls2 := [(4, .ref (ρ (mO k))), (0, .ref (ρ 0)), (1, .int (nI k)), (2, .int (nI g)), (3, .int w)]) C hnL dX2_over_5 (by decide) rfl ?_
      refine e_iload_n (j := 3) C dX2_over_7 rfl rfl ?_
      refine e_cS (nA := 1) C (c_X2_requireGoods hl hg) rfl mw_267 mw_265 mw_266 mw_12 (by decide +kernel) (by decide) rfl rfl (Nat.le_of_ble_eq_true rfl) dX2_over_8 (Nat.le_of_ble_eq_true rfl) (Nat.le_of_ble_eq_true rfl) ?_
      refine e_iload_n (j := 4) C dX2_over_11 rfl rfl ?_
      refine e_iconst (v := 1) C dX2_over_12 (by decide) ?_
      refine e_bipush (v := 50) C dX2_over_13 (by decide) ?_
      refine e_cS (nA := 3) C (c_X2_requireRange hl (rng_ok h).1 (rng_ok h).2) rfl mw_175 mw_173 mw_174 mw_12 (by decide +kernel) (by decide) rfl rfl (Nat.le_of_ble_eq_true rfl) dX2_over_15 (Nat.le_of_ble_eq_true rfl) (Nat.le_of_ble_eq_true rfl) ?_
      refine e_aload (j := 0) C dX2_over_18 rfl ?_
      refine e_cS (nA := 1) C (c_X2_requireAlive hl hk h2) rfl mw_180 mw_178 mw_179 mw_12 (by decide +kernel) (by decide) rfl rfl (Nat.le_of_ble_eq_true rfl) dX2_over_20 (Nat.le_of_ble_eq_true rfl) (Nat.le_of_ble_eq_true rfl) ?_
      refine e_aload_n (j := 1) C dX2_over_23 rfl rfl ?_
      refine e_get2 (k := 8) (ref := "ScripHollow") C (by decide) rfl rfl mw_33 dX2_over_24 ?_
      refine e_iload_n (j := 3) C dX2_over_27 rfl rfl ?_
      refine e_ialdN g C (cnt_fix (by decide)) (fun _ => rfl) rfl (by omega) (by decide) dX2_over_28 ?_
      refine e_iload_n (j := 4) C dX2_over_29 rfl rfl ?_
      refine e_imul C dX2_over_30 ?_
      refine e_topi (fun x5_31 ex5_31 => ?_)
      refine e_istore (ls2 := [(5, .int x5_31), (4, .ref (ρ (mO k))), (0, .ref (ρ 0)), (1, .int (nI k)), (2, .int (nI g)), (3, .int w)]) C hnL dX2_over_31 (by decide) rfl ?_
      refine e_aload (j := 1) C dX2_over_33 rfl ?_
      refine e_get0 (k := 5) (kk0 := k) (ref := "ScripHollow$Miner") C hk (by decide) rfl rfl mw_240 dX2_over_35 ?_
      refine e_iload (j := 0) C dX2_over_38 rfl ?_
      refine e_icmp_ge (tgt := 53) C dX2_over_40 (by decide) (fun c_40 => ?_) (fun c_40 => ?_)
      · refine e_aload (j := 1) C dX2_over_53 rfl ?_
        refine e_dup C dX2_over_55 rfl ?_
        refine e_get0 (k := 5) (kk0 := k) (ref := "ScripHollow$Miner") C hk (by decide) rfl rfl mw_240 dX2_over_56 ?_
        refine e_iload (j := 0) C dX2_over_59 rfl ?_
        refine e_isub C dX2_over_61 ?_
        refine e_put0 (k := 5) (kk0 := k) (ref := "ScripHollow$Miner") (ty := .int) C hk (by decide) rfl rfl (by decide +kernel) rfl rfl rfl mw_240 dX2_over_62 ?_
        refine e_aload (j := 1) C dX2_over_65 rfl ?_
        refine e_get0 (k := 10) (kk0 := k) (ref := "ScripHollow$Miner") C hk (by decide) rfl rfl mw_264 dX2_over_67 ?_
        refine e_iload_n (j := 4) C dX2_over_70 rfl rfl ?_
        refine e_dup2 C dX2_over_71 rfl rfl ?_
        refine e_ialdN g C (cnt_G hk) (fun cA => cell_G cA n ρ J k _) rfl (by omega) (by decide) dX2_over_72 ?_
        refine e_iload_n (j := 5) C dX2_over_73 rfl rfl ?_
        refine e_iadd C dX2_over_74 ?_
        refine e_iastN g C (cnt_G hk) (fun cA f => cell_G cA n ρ J k f) rfl (by omega) (by decide) dX2_over_75 ?_
        refine e_aload (j := 1) C dX2_over_76 rfl ?_
        refine e_get0 (k := 5) (kk0 := k) (ref := "ScripHollow$Miner") C hk (by decide) rfl rfl mw_240 dX2_over_78 ?_
        exact e_iret C rfl (Nat.le_of_ble_eq_true rfl) (Nat.le_of_ble_eq_true rfl) dX2_over_81 (pO.mk (by subst_vars; unfold o_over; (repeat (first | rw [if_pos (by assumption)] | rw [if_neg (by assumption)])); (try rfl)))
      · exact e_throw (text := "the miner has less coin") C th_IS mw_61 mw_62 (by decide) rfl rfl dX2_over_43 dX2_over_46 dX2_over_47 dX2_over_49 dX2_over_52 (by decide) (Nat.le_of_ble_eq_true rfl) (Nat.le_of_ble_eq_true rfl) (Nat.le_of_ble_eq_true rfl) (Nat.le_of_ble_eq_true rfl) (Nat.le_of_ble_eq_true rfl) (xO.mk (by subst_vars; unfold o_over; (repeat (first | rw [if_pos (by assumption)] | rw [if_neg (by assumption)])); (try rfl)))
set_option maxRecDepth 100000 in
set_option maxHeartbeats 4000000 in
theorem c_X2_change_x {l : Launch} (hl : l.stackTraces = false) {n : Nat} {ρ : Nat → Nat} {J : Nat → Int64} {M : Mem} {x : Int32} (h : x < 0 ∨ nI n ≤ x) {w : Int32} : CtO l yX2_change cX2_change 5 (some .int) 8 4 24 n ρ J M [.ref (ρ 0), .int x, .int w] (rX IX M) := by
  refine CtO.of hl (by decide +kernel) (Nat.le_of_ble_eq_true rfl) (fun Ξ hnL C => ?_)
  show E Ξ n ρ J M 0 0 0 [(0, .ref (ρ 0)), (1, .int x), (2, .int w)] []
  refine e_aload_n (j := 0) C dX2_change_0 rfl rfl ?_
  refine e_iload_n (j := 1) C dX2_change_1 rfl rfl ?_
  exact e_cVx (i := 0) (nA := 1) (Cn := RX2) C (c_X2_minerAt_x hl h) rfl (cnt_fix (by decide)) (fun _ => rfl) rfl rfl mw_150 mw_147 mw_148 mw_149 mw_12 (by decide +kernel) (by decide) rfl rfl (Nat.le_of_ble_eq_true rfl) dX2_change_2 (Nat.le_of_ble_eq_true rfl) (Nat.le_of_ble_eq_true rfl) rfl
def chI (M : Mem) (w : Int32) : Int32 := w * (100 - M 0 10) / 100
def ch1 (M : Mem) (k : Nat) (w : Int32) : Mem := up (llow M k w 40).1 7 2 (M 7 2 + (llow M k w 40).2)
def ch2 (M : Mem) (k : Nat) (w : Int32) : Mem := up (ch1 M k w) (mO k) 5 (ch1 M k w (mO k) 5 + chI (ch1 M k w) w)
def o_change (M : Mem) (k : Nat) (w : Int32) : Out := if w < 1 ∨ 100000 < w then rX IA M else if M (mO k) 0 = 0 then rX IS M else if w ≤ sm (M (mS k)) 40 then rI (chI (ch1 M k w) w) (ch2 M k w) else rX IS M
set_option maxRecDepth 100000 in
set_option maxHeartbeats 4000000 in
theorem c_X2_change {l : Launch} (hl : l.stackTraces = false) {n : Nat} {ρ : Nat → Nat} {J : Nat → Int64} {M : Mem} {k : Nat} (hk : k < n) (hn : n ≤ 10) {w : Int32} : CtO l yX2_change cX2_change 5 (some .int) 8 4 24 n ρ J M [.ref (ρ 0), .int (nI k), .int w] (o_change M k w) := by
  refine CtO.of hl (by decide +kernel) (Nat.le_of_ble_eq_true rfl) (fun Ξ hnL C => ?_)
  show E Ξ n ρ J M 0 0 0 [(0, .ref (ρ 0)), (1, .int (nI k)), (2, .int w)] []
  by_cases h : w < 1 ∨ 100000 < w
  · refine e_aload_n (j := 0) C dX2_change_0 rfl rfl ?_
    refine e_iload_n (j := 1) C dX2_change_1 rfl rfl ?_
    refine e_cV (i := 0) (nA := 1) (Cn := RX2) C (c_X2_minerAt hl hk hn) rfl (cnt_fix (by decide)) (fun _ => rfl) rfl rfl mw_150 mw_147 mw_148 mw_149 mw_12 (by decide +kernel) (by decide) rfl rfl (Nat.le_of_ble_eq_true rfl) dX2_change_2 (Nat.le_of_ble_eq_true rfl) (Nat.le_of_ble_eq_true rfl) ?_
    refine e_astore_n (ls2 := [(3, .ref (ρ (mO k))), (0, .ref (ρ 0)), (1, .int (nI k)), (2, .int w)]) C hnL dX2_change_5 rfl (by decide) rfl ?_
    refine e_iload_n (j := 3) C dX2_change_6 rfl rfl ?_
    refine e_iconst (v := 1) C dX2_change_7 (by decide) ?_
    refine e_ldc (v := 100000) C dX2_change_8 mw_319 ?_
    exact e_cSx (nA := 3) C (c_X2_requireRange_x hl h) rfl mw_175 mw_173 mw_174 mw_12 (by decide +kernel) (by decide) rfl rfl (Nat.le_of_ble_eq_true rfl) dX2_change_10 (Nat.le_of_ble_eq_true rfl) (Nat.le_of_ble_eq_true rfl) (by subst_vars; unfold o_change; (repeat (first | rw [if_pos (by assumption)] | rw [if_neg (by assumption)])); (try rfl))
  · by_cases h2 : M (mO k) 0 = 0
    · refine e_aload_n (j := 0) C dX2_change_0 rfl rfl ?_
      refine e_iload_n (j := 1) C dX2_change_1 rfl rfl ?_
      refine e_cV (i := 0) (nA := 1) (Cn := RX2) C (c_X2_minerAt hl hk hn) rfl (cnt_fix (by decide)) (fun _ => rfl) rfl rfl mw_150 mw_147 mw_148 mw_149 mw_12 (by decide +kernel) (by decide) rfl rfl (Nat.le_of_ble_eq_true rfl) dX2_change_2 (Nat.le_of_ble_eq_true rfl) (Nat.le_of_ble_eq_true rfl) ?_
      refine e_astore_n (ls2 := [(3, .ref (ρ (mO k))), (0, .ref (ρ 0)), (1, .int (nI k)), (2, .int w)]) C hnL dX2_change_5 rfl (by decide) rfl ?_
      refine e_iload_n (j := 3) C dX2_change_6 rfl rfl ?_
      refine e_iconst (v := 1) C dX2_change_7 (by decide) ?_
      refine e_ldc (v := 100000) C dX2_change_8 mw_319 ?_
      refine e_cS (nA := 3) C (c_X2_requireRange hl (rng_ok h).1 (rng_ok h).2) rfl mw_175 mw_173 mw_174 mw_12 (by decide +kernel) (by decide) rfl rfl (Nat.le_of_ble_eq_true rfl) dX2_change_10 (Nat.le_of_ble_eq_true rfl) (Nat.le_of_ble_eq_true rfl) ?_
      refine e_aload_n (j := 0) C dX2_change_13 rfl rfl ?_
      exact e_cSx (nA := 1) C (c_X2_requireAlive_x hl hk h2) rfl mw_180 mw_178 mw_179 mw_12 (by decide +kernel) (by decide) rfl rfl (Nat.le_of_ble_eq_true rfl) dX2_change_14 (Nat.le_of_ble_eq_true rfl) (Nat.le_of_ble_eq_true rfl) (by subst_vars; unfold o_change; (repeat (first | rw [if_pos (by assumption)] | rw [if_neg (by assumption)])); (try rfl))
    · refine e_aload_n (j := 0) C dX2_change_0 rfl rfl ?_
      refine e_iload_n (j := 1) C dX2_change_1 rfl rfl ?_
      refine e_cV (i := 0) (nA := 1) (Cn := RX2) C (c_X2_minerAt hl hk hn) rfl (cnt_fix (by decide)) (fun _ => rfl) rfl rfl mw_150 mw_147 mw_148 mw_149 mw_12 (by decide +kernel) (by decide) rfl rfl (Nat.le_of_ble_eq_true rfl) dX2_change_2 (Nat.le_of_ble_eq_true rfl) (Nat.le_of_ble_eq_true rfl) ?_
      refine e_astore_n (ls2 := [(3, .ref (ρ (mO k))), (0, .ref (ρ 0)), (1, .int (nI k)), (2, .int w)]) C hnL dX2_change_5 rfl (by decide) rfl ?_
      refine e_iload_n (j := 3) C dX2_change_6 rfl rfl ?_
      refine e_iconst (v := 1) C dX2_change_7 (by decide) ?_
      refine e_ldc (v := 100000) C dX2_change_8 mw_319 ?_
      refine e_cS (nA := 3) C (c_X2_requireRange hl (rng_ok h).1 (rng_ok h).2) rfl mw_175 mw_173 mw_174 mw_12 (by decide +kernel) (by decide) rfl rfl (Nat.le_of_ble_eq_true rfl) dX2_change_10 (Nat.le_of_ble_eq_true rfl) (Nat.le_of_ble_eq_true rfl) ?_
      refine e_aload_n (j := 0) C dX2_change_13 rfl rfl ?_
      refine e_cS (nA := 1) C (c_X2_requireAlive hl hk h2) rfl mw_180 mw_178 mw_179 mw_12 (by decide +kernel) (by decide) rfl rfl (Nat.le_of_ble_eq_true rfl) dX2_change_14 (Nat.le_of_ble_eq_true rfl) (Nat.le_of_ble_eq_true rfl) ?_
      refine e_aload_n (j := 0) C dX2_change_17 rfl rfl ?_
      refine e_cV (i := (mO k)) (nA := 0) (Cn := RX0) C (c_X0_allScrip hl hk) rfl (cnt_O hk) (fun cA => cell_O cA n ρ J k _) rfl rfl mw_297 mw_320 mw_295 mw_296 mw_65 (by decide +kernel) (by decide) rfl rfl (Nat.le_of_ble_eq_true rfl) dX2_change_18 (Nat.le_of_ble_eq_true rfl) (Nat.le_of_ble_eq_true rfl) ?_
      refine e_iload_n (j := 3) C dX2_change_21 rfl rfl ?_
      refine e_icmp_ge (tgt := 35) C dX2_change_22 (by decide) (fun c_22 => ?_) (fun c_22 => ?_)
      · refine e_aload_n (j := 1) C dX2_change_35 rfl rfl ?_
        refine e_get2 (k := 17) (ref := "ScripHollow") C (by decide) rfl rfl mw_38 dX2_change_36 ?_
        refine e_iconst (v := 2) C dX2_change_39 (by decide) ?_
        refine e_dup2 C dX2_change_40 rfl rfl ?_
        refine e_ialdN 2 C (cnt_fix (by decide)) (fun _ => rfl) rfl (by decide) (by decide) dX2_change_41 ?_
        refine e_aload_n (j := 0) C dX2_change_42 rfl rfl ?_
        refine e_iload_n (j := 3) C dX2_change_43 rfl rfl ?_
        refine e_cV (i := (mO k)) (nA := 1) (Cn := RX0) C (c_X0_loseLowestScrip hl hk) rfl (cnt_O hk) (fun cA => cell_O cA n ρ J k _) rfl rfl mw_309 mw_306 mw_307 mw_308 mw_65 (by decide +kernel) (by decide) rfl rfl (Nat.le_of_ble_eq_true rfl) dX2_change_44 (Nat.le_of_ble_eq_true rfl) (Nat.le_of_ble_eq_true rfl) ?_
        refine e_iadd C dX2_change_47 ?_
        refine e_iastN 2 C (cnt_fix (by decide)) (fun _ _ => rfl) rfl (by decide) (by decide) dX2_change_48 ?_
        refine e_iload_n (j := 3) C dX2_change_49 rfl rfl ?_
        refine e_bipush (v := 100) C dX2_change_50 (by decide) ?_
        refine e_aload_n (j := 1) C dX2_change_52 rfl rfl ?_
        refine e_get2 (k := 10) (ref := "ScripHollow") C (by decide) rfl rfl mw_35 dX2_change_53 ?_
        refine e_isub C dX2_change_56 ?_
        refine e_imul C dX2_change_57 ?_
        refine e_bipush (v := 100) C dX2_change_58 (by decide) ?_
        refine e_idiv C dX2_change_60 (by decide) ?_
        refine e_topi (fun x4_61 ex4_61 => ?_)
        refine e_istore (ls2 := [(4, .int x4_61), (3, .ref (ρ (mO k))), (0, .ref (ρ 0)), (1, .int (nI k)), (2, .int w)]) C hnL dX2_change_61 (by decide) rfl ?_
        refine e_aload_n (j := 1) C dX2_change_63 rfl rfl ?_
        refine e_dup C dX2_change_64 rfl ?_
        refine e_get0 (k := 5) (kk0 := k) (ref := "ScripHollow$Miner") C hk (by decide) rfl rfl mw_240 dX2_change_65 ?_
        refine e_iload (j := 0) C dX2_change_68 rfl ?_
        refine e_iadd C dX2_change_70 ?_
        refine e_put0 (k := 5) (kk0 := k) (ref := "ScripHollow$Miner") (ty := .int) C hk (by decide) rfl rfl (by decide +kernel) rfl rfl rfl mw_240 dX2_change_71 ?_
        refine e_iload (j := 0) C dX2_change_74 rfl ?_
        exact e_iret C rfl (Nat.le_of_ble_eq_true rfl) (Nat.le_of_ble_eq_true rfl) dX2_change_76 (pO.mk (by subst_vars; unfold o_change; (repeat (first | rw [if_pos (by assumption)] | rw [if_neg (by assumption)])); (try rfl)))
      · exact e_throw (text := "the miner has less scrip") C th_IS mw_61 mw_62 (by decide) rfl rfl dX2_change_25 dX2_change_28 dX2_change_29 dX2_change_31 dX2_change_34 (by decide) (Nat.le_of_ble_eq_true rfl) (Nat.le_of_ble_eq_true rfl) (Nat.le_of_ble_eq_true rfl) (Nat.le_of_ble_eq_true rfl) (Nat.le_of_ble_eq_true rfl) (xO.mk (by subst_vars; unfold o_change; (repeat (first | rw [if_pos (by assumption)] | rw [if_neg (by assumption)])); (try rfl)))
set_option maxRecDepth 100000 in
set_option maxHeartbeats 4000000 in
theorem c_X2_law_x {l : Launch} (hl : l.stackTraces = false) {n : Nat} {ρ : Nat → Nat} {J : Nat → Int64} {M : Mem} {x z : Int32} (h : x < 0 ∨ 3 ≤ x) : CtO l yX2_law cX2_law 4 (some .boolean) 7 1 6 n ρ J M [.ref (ρ 0), .int x, .int z] (rX IX M) := by
  refine CtO.of hl (by decide +kernel) (Nat.le_of_ble_eq_true rfl) (fun Ξ hnL C => ?_)
  show E Ξ n ρ J M 0 0 0 [(0, .ref (ρ 0)), (1, .int x), (2, .int z)] []
  refine e_iload_n (j := 1) C dX2_law_0 rfl rfl ?_
  refine e_aload_n (j := 0) C dX2_law_1 rfl rfl ?_
  refine e_get2 (k := 11) (ref := "ScripHollow") C (by decide) rfl rfl mw_37 dX2_law_2 ?_
  refine e_zlen (v := 3) C (cnt_fix (by decide)) (fun _ => rfl) (by decide) dX2_law_5 ?_
  exact e_cSx (nA := 2) C (c_X2_requireIndex_x hl h) rfl mw_154 mw_152 mw_153 mw_12 (by decide +kernel) (by decide) rfl rfl (Nat.le_of_ble_eq_true rfl) dX2_law_6 (Nat.le_of_ble_eq_true rfl) (Nat.le_of_ble_eq_true rfl) rfl
set_option maxRecDepth 100000 in
set_option maxHeartbeats 4000000 in
theorem c_X2_law {l : Launch} (hl : l.stackTraces = false) {n : Nat} {ρ : Nat → Nat} {J : Nat → Int64} {M : Mem} {j : Nat} (hj : j < 3) {z : Int32} (hz : isB z) (hb : isB (M 6 j)) : CtO l yX2_law cX2_law 4 (some .boolean) 7 1 6 n ρ J M [.ref (ρ 0), .int (nI j), .int z] (rI (M 6 j) (up M 6 j z)) := by
  refine CtO.of hl (by decide +kernel) (Nat.le_of_ble_eq_true rfl) (fun Ξ hnL C => ?_)
  show E Ξ n ρ J M 0 0 0 [(0, .ref (ρ 0)), (1, .int (nI j)), (2, .int z)] []
  refine e_iload_n (j := 1) C dX2_law_0 rfl rfl ?_
  refine e_aload_n (j := 0) C dX2_law_1 rfl rfl ?_
  refine e_get2 (k := 11) (ref := "ScripHollow") C (by decide) rfl rfl mw_37 dX2_law_2 ?_
  refine e_zlen (v := 3) C (cnt_fix (by decide)) (fun _ => rfl) (by decide) dX2_law_5 ?_
  refine e_cS (nA := 2) C (c_X2_requireIndex hl (nI_pos (by omega)) (nI_lt (b := 3) hj (by omega))) rfl mw_154 mw_152 mw_153 mw_12 (by decide +kernel) (by decide) rfl rfl (Nat.le_of_ble_eq_true rfl) dX2_law_6 (Nat.le_of_ble_eq_true rfl) (Nat.le_of_ble_eq_true rfl) ?_
  refine e_aload_n (j := 0) C dX2_law_9 rfl rfl ?_
  refine e_get2 (k := 11) (ref := "ScripHollow") C (by decide) rfl rfl mw_37 dX2_law_10 ?_
  refine e_iload_n (j := 1) C dX2_law_13 rfl rfl ?_
  refine e_zaldN j C (cnt_fix (by decide)) (fun _ => rfl) rfl (by omega) (by decide) dX2_law_14 ?_
  refine e_topi (fun x3_15 ex3_15 => ?_)
  refine e_istore_n (ls2 := [(3, .int x3_15), (0, .ref (ρ 0)), (1, .int (nI j)), (2, .int z)]) C hnL dX2_law_15 rfl (by decide) rfl ?_
  refine e_aload_n (j := 1) C dX2_law_16 rfl rfl ?_
  refine e_get2 (k := 11) (ref := "ScripHollow") C (by decide) rfl rfl mw_37 dX2_law_17 ?_
  refine e_iload_n (j := 2) C dX2_law_20 rfl rfl ?_
  refine e_iload_n (j := 3) C dX2_law_21 rfl rfl ?_
  refine e_zastN j C (cnt_fix (by decide)) (fun _ _ => rfl) rfl (by omega) (by decide) (by first | decide | exact isB.nr (by assumption)) dX2_law_22 ?_
  refine e_iload_n (j := 0) C dX2_law_23 rfl rfl ?_
  exact e_zret C rfl (isB.nar (by subst_vars; assumption)) (Nat.le_of_ble_eq_true rfl) (Nat.le_of_ble_eq_true rfl) dX2_law_24 (pO.mk (by subst_vars; rfl))
set_option maxRecDepth 100000 in
set_option maxHeartbeats 4000000 in
theorem c_X2_vote_x {l : Launch} (hl : l.stackTraces = false) {n : Nat} {ρ : Nat → Nat} {J : Nat → Int64} {M : Mem} {x : Int32} (h : x < 0 ∨ nI n ≤ x) {z : Int32} : CtO l yX2_vote cX2_vote 5 (some .boolean) 8 1 6 n ρ J M [.ref (ρ 0), .int x, .int z] (rX IX M) := by
  refine CtO.of hl (by decide +kernel) (Nat.le_of_ble_eq_true rfl) (fun Ξ hnL C => ?_)
  show E Ξ n ρ J M 0 0 0 [(0, .ref (ρ 0)), (1, .int x), (2, .int z)] []
  refine e_aload_n (j := 0) C dX2_vote_0 rfl rfl ?_
  refine e_iload_n (j := 1) C dX2_vote_1 rfl rfl ?_
  exact e_cVx (i := 0) (nA := 1) (Cn := RX2) C (c_X2_minerAt_x hl h) rfl (cnt_fix (by decide)) (fun _ => rfl) rfl rfl mw_150 mw_147 mw_148 mw_149 mw_12 (by decide +kernel) (by decide) rfl rfl (Nat.le_of_ble_eq_true rfl) dX2_vote_2 (Nat.le_of_ble_eq_true rfl) (Nat.le_of_ble_eq_true rfl) rfl
set_option maxRecDepth 100000 in
set_option maxHeartbeats 4000000 in
theorem c_X2_vote {l : Launch} (hl : l.stackTraces = false) {n : Nat} {ρ : Nat → Nat} {J : Nat → Int64} {M : Mem} {k : Nat} (hk : k < n) (hn : n ≤ 10) {z : Int32} (hz : isB z) (hb : isB (M (mO k) 2)) : CtO l yX2_vote cX2_vote 5 (some .boolean) 8 1 6 n ρ J M [.ref (ρ 0), .int (nI k), .int z] (rI (M (mO k) 2) (up M (mO k) 2 z)) := by
  refine CtO.of hl (by decide +kernel) (Nat.le_of_ble_eq_true rfl) (fun Ξ hnL C => ?_)
  show E Ξ n ρ J M 0 0 0 [(0, .ref (ρ 0)), (1, .int (nI k)), (2, .int z)] []
  refine e_aload_n (j := 0) C dX2_vote_0 rfl rfl ?_
  refine e_iload_n (j := 1) C dX2_vote_1 rfl rfl ?_
  refine e_cV (i := 0) (nA := 1) (Cn := RX2) C (c_X2_minerAt hl hk hn) rfl (cnt_fix (by decide)) (fun _ => rfl) rfl rfl mw_150 mw_147 mw_148 mw_149 mw_12 (by decide +kernel) (by decide) rfl rfl (Nat.le_of_ble_eq_true rfl) dX2_vote_2 (Nat.le_of_ble_eq_true rfl) (Nat.le_of_ble_eq_true rfl) ?_
  refine e_astore_n (ls2 := [(3, .ref (ρ (mO k))), (0, .ref (ρ 0)), (1, .int (nI k)), (2, .int z)]) C hnL dX2_vote_5 rfl (by decide) rfl ?_
  refine e_aload_n (j := 0) C dX2_vote_6 rfl rfl ?_
  refine e_get0 (k := 2) (kk0 := k) (ref := "ScripHollow$Miner") C hk (by decide) rfl rfl mw_373 dX2_vote_7 ?_
  refine e_topi (fun x4_10 ex4_10 => ?_)
  refine e_istore (ls2 := [(4, .int x4_10), (3, .ref (ρ (mO k))), (0, .ref (ρ 0)), (1, .int (nI k)), (2, .int z)]) C hnL dX2_vote_10 (by decide) rfl ?_
  refine e_aload_n (j := 1) C dX2_vote_12 rfl rfl ?_
  refine e_iload_n (j := 4) C dX2_vote_13 rfl rfl ?_
  refine e_put0 (k := 2) (kk0 := k) (ref := "ScripHollow$Miner") (ty := .boolean) C hk (by decide) rfl rfl (by decide +kernel) (isB.nar (by assumption)) (isB.fit (by assumption)) rfl mw_373 dX2_vote_14 ?_
  refine e_iload (j := 0) C dX2_vote_17 rfl ?_
  exact e_zret C rfl (isB.nar (by subst_vars; assumption)) (Nat.le_of_ble_eq_true rfl) (Nat.le_of_ble_eq_true rfl) dX2_vote_19 (pO.mk (by subst_vars; rfl))
set_option maxRecDepth 100000 in
set_option maxHeartbeats 4000000 in
theorem c_X2_has_x {l : Launch} (hl : l.stackTraces = false) {n : Nat} {ρ : Nat → Nat} {J : Nat → Int64} {M : Mem} {x : Int32} (h : x < 0 ∨ nI n ≤ x) {y : Int32} : CtO l yX2_has cX2_has 4 (some .int) 8 2 12 n ρ J M [.ref (ρ 0), .int x, .int y] (rX IX M) := by
  refine CtO.of hl (by decide +kernel) (Nat.le_of_ble_eq_true rfl) (fun Ξ hnL C => ?_)
  show E Ξ n ρ J M 0 0 0 [(0, .ref (ρ 0)), (1, .int x), (2, .int y)] []
  refine e_aload_n (j := 0) C dX2_has_0 rfl rfl ?_
  refine e_iload_n (j := 1) C dX2_has_1 rfl rfl ?_
  exact e_cVx (i := 0) (nA := 1) (Cn := RX2) C (c_X2_minerAt_x hl h) rfl (cnt_fix (by decide)) (fun _ => rfl) rfl rfl mw_150 mw_147 mw_148 mw_149 mw_12 (by decide +kernel) (by decide) rfl rfl (Nat.le_of_ble_eq_true rfl) dX2_has_2 (Nat.le_of_ble_eq_true rfl) (Nat.le_of_ble_eq_true rfl) rfl
set_option maxRecDepth 100000 in
set_option maxHeartbeats 4000000 in
theorem c_X2_has_g {l : Launch} (hl : l.stackTraces = false) {n : Nat} {ρ : Nat → Nat} {J : Nat → Int64} {M : Mem} {k : Nat} (hk : k < n) (hn : n ≤ 10) {y : Int32} (h : y < 0 ∨ 4 ≤ y) : CtO l yX2_has cX2_has 4 (some .int) 8 2 12 n ρ J M [.ref (ρ 0), .int (nI k), .int y] (rX IX M) := by
  refine CtO.of hl (by decide +kernel) (Nat.le_of_ble_eq_true rfl) (fun Ξ hnL C => ?_)
  show E Ξ n ρ J M 0 0 0 [(0, .ref (ρ 0)), (1, .int (nI k)), (2, .int y)] []
  refine e_aload_n (j := 0) C dX2_has_0 rfl rfl ?_
  refine e_iload_n (j := 1) C dX2_has_1 rfl rfl ?_
  refine e_cV (i := 0) (nA := 1) (Cn := RX2) C (c_X2_minerAt hl hk hn) rfl (cnt_fix (by decide)) (fun _ => rfl) rfl rfl mw_150 mw_147 mw_148 mw_149 mw_12 (by decide +kernel) (by decide) rfl rfl (Nat.le_of_ble_eq_true rfl) dX2_has_2 (Nat.le_of_ble_eq_true rfl) (Nat.le_of_ble_eq_true rfl) ?_
  refine e_astore_n (ls2 := [(3, .ref (ρ (mO k))), (0, .ref (ρ 0)), (1, .int (nI k)), (2, .int y)]) C hnL dX2_has_5 rfl (by decide) rfl ?_
  refine e_iload_n (j := 3) C dX2_has_6 rfl rfl ?_
  exact e_cSx (nA := 1) C (c_X2_requireGoods_x hl h) rfl mw_267 mw_265 mw_266 mw_12 (by decide +kernel) (by decide) rfl rfl (Nat.le_of_ble_eq_true rfl) dX2_has_7 (Nat.le_of_ble_eq_true rfl) (Nat.le_of_ble_eq_true rfl) rfl
set_option maxRecDepth 100000 in
set_option maxHeartbeats 4000000 in
theorem c_X2_has {l : Launch} (hl : l.stackTraces = false) {n : Nat} {ρ : Nat → Nat} {J : Nat → Int64} {M : Mem} {k : Nat} (hk : k < n) (hn : n ≤ 10) {g : Nat} (hg : g < 4) : CtO l yX2_has cX2_has 4 (some .int) 8 2 12 n ρ J M [.ref (ρ 0), .int (nI k), .int (nI g)] (rI (M (mG k) g) M) := by
  refine CtO.of hl (by decide +kernel) (Nat.le_of_ble_eq_true rfl) (fun Ξ hnL C => ?_)
  show E Ξ n ρ J M 0 0 0 [(0, .ref (ρ 0)), (1, .int (nI k)), (2, .int (nI g))] []
  refine e_aload_n (j := 0) C dX2_has_0 rfl rfl ?_
  refine e_iload_n (j := 1) C dX2_has_1 rfl rfl ?_
  refine e_cV (i := 0) (nA := 1) (Cn := RX2) C (c_X2_minerAt hl hk hn) rfl (cnt_fix (by decide)) (fun _ => rfl) rfl rfl mw_150 mw_147 mw_148 mw_149 mw_12 (by decide +kernel) (by decide) rfl rfl (Nat.le_of_ble_eq_true rfl) dX2_has_2 (Nat.le_of_ble_eq_true rfl) (Nat.le_of_ble_eq_true rfl) ?_
  refine e_astore_n (ls2 := [(3, .ref (ρ (mO k))), (0, .ref (ρ 0)), (1, .int (nI k)), (2, .int (nI g))]) C hnL dX2_has_5 rfl (by decide) rfl ?_
  refine e_iload_n (j := 3) C dX2_has_6 rfl rfl ?_
  refine e_cS (nA := 1) C (c_X2_requireGoods hl hg) rfl mw_267 mw_265 mw_266 mw_12 (by decide +kernel) (by decide) rfl rfl (Nat.le_of_ble_eq_true rfl) dX2_has_7 (Nat.le_of_ble_eq_true rfl) (Nat.le_of_ble_eq_true rfl) ?_
  refine e_aload_n (j := 0) C dX2_has_10 rfl rfl ?_
  refine e_get0 (k := 10) (kk0 := k) (ref := "ScripHollow$Miner") C hk (by decide) rfl rfl mw_264 dX2_has_11 ?_
  refine e_iload_n (j := 3) C dX2_has_14 rfl rfl ?_
  refine e_ialdN g C (cnt_G hk) (fun cA => cell_G cA n ρ J k _) rfl (by omega) (by decide) dX2_has_15 ?_
  exact e_iret C rfl (Nat.le_of_ble_eq_true rfl) (Nat.le_of_ble_eq_true rfl) dX2_has_16 (pO.mk rfl)
set_option maxRecDepth 100000 in
set_option maxHeartbeats 4000000 in
theorem c_X2_scrip_x {l : Launch} (hl : l.stackTraces = false) {n : Nat} {ρ : Nat → Nat} {J : Nat → Int64} {M : Mem} {x : Int32} (h : x < 0 ∨ nI n ≤ x) {y : Int32} : CtO l yX2_scrip cX2_scrip 4 (some .int) 8 2 12 n ρ J M [.ref (ρ 0), .int x, .int y] (rX IX M) := by
  refine CtO.of hl (by decide +kernel) (Nat.le_of_ble_eq_true rfl) (fun Ξ hnL C => ?_)
  show E Ξ n ρ J M 0 0 0 [(0, .ref (ρ 0)), (1, .int x), (2, .int y)] []
  refine e_aload_n (j := 0) C dX2_scrip_0 rfl rfl ?_
  refine e_iload_n (j := 1) C dX2_scrip_1 rfl rfl ?_
  exact e_cVx (i := 0) (nA := 1) (Cn := RX2) C (c_X2_minerAt_x hl h) rfl (cnt_fix (by decide)) (fun _ => rfl) rfl rfl mw_150 mw_147 mw_148 mw_149 mw_12 (by decide +kernel) (by decide) rfl rfl (Nat.le_of_ble_eq_true rfl) dX2_scrip_2 (Nat.le_of_ble_eq_true rfl) (Nat.le_of_ble_eq_true rfl) rfl
set_option maxRecDepth 100000 in
set_option maxHeartbeats 4000000 in
theorem c_X2_scrip_g {l : Launch} (hl : l.stackTraces = false) {n : Nat} {ρ : Nat → Nat} {J : Nat → Int64} {M : Mem} {k : Nat} (hk : k < n) (hn : n ≤ 10) {y : Int32} (h : y < 0 ∨ 39 < y) : CtO l yX2_scrip cX2_scrip 4 (some .int) 8 2 12 n ρ J M [.ref (ρ 0), .int (nI k), .int y] (rX IA M) := by
  refine CtO.of hl (by decide +kernel) (Nat.le_of_ble_eq_true rfl) (fun Ξ hnL C => ?_)
  show E Ξ n ρ J M 0 0 0 [(0, .ref (ρ 0)), (1, .int (nI k)), (2, .int y)] []
  refine e_aload_n (j := 0) C dX2_scrip_0 rfl rfl ?_
  refine e_iload_n (j := 1) C dX2_scrip_1 rfl rfl ?_
  refine e_cV (i := 0) (nA := 1) (Cn := RX2) C (c_X2_minerAt hl hk hn) rfl (cnt_fix (by decide)) (fun _ => rfl) rfl rfl mw_150 mw_147 mw_148 mw_149 mw_12 (by decide +kernel) (by decide) rfl rfl (Nat.le_of_ble_eq_true rfl) dX2_scrip_2 (Nat.le_of_ble_eq_true rfl) (Nat.le_of_ble_eq_true rfl) ?_
  refine e_astore_n (ls2 := [(3, .ref (ρ (mO k))), (0, .ref (ρ 0)), (1, .int (nI k)), (2, .int y)]) C hnL dX2_scrip_5 rfl (by decide) rfl ?_
  refine e_iload_n (j := 3) C dX2_scrip_6 rfl rfl ?_
  refine e_iconst (v := 0) C dX2_scrip_7 (by decide) ?_
  refine e_bipush (v := 39) C dX2_scrip_8 (by decide) ?_
  exact e_cSx (nA := 3) C (c_X2_requireRange_x hl h) rfl mw_175 mw_173 mw_174 mw_12 (by decide +kernel) (by decide) rfl rfl (Nat.le_of_ble_eq_true rfl) dX2_scrip_10 (Nat.le_of_ble_eq_true rfl) (Nat.le_of_ble_eq_true rfl) rfl
set_option maxRecDepth 100000 in
set_option maxHeartbeats 4000000 in
theorem c_X2_scrip {l : Launch} (hl : l.stackTraces = false) {n : Nat} {ρ : Nat → Nat} {J : Nat → Int64} {M : Mem} {k : Nat} (hk : k < n) (hn : n ≤ 10) {j : Nat} (hj : j < 40) : CtO l yX2_scrip cX2_scrip 4 (some .int) 8 2 12 n ρ J M [.ref (ρ 0), .int (nI k), .int (nI j)] (rI (M (mS k) j) M) := by
  refine CtO.of hl (by decide +kernel) (Nat.le_of_ble_eq_true rfl) (fun Ξ hnL C => ?_)
  show E Ξ n ρ J M 0 0 0 [(0, .ref (ρ 0)), (1, .int (nI k)), (2, .int (nI j))] []
  refine e_aload_n (j := 0) C dX2_scrip_0 rfl rfl ?_
  refine e_iload_n (j := 1) C dX2_scrip_1 rfl rfl ?_
  refine e_cV (i := 0) (nA := 1) (Cn := RX2) C (c_X2_minerAt hl hk hn) rfl (cnt_fix (by decide)) (fun _ => rfl) rfl rfl mw_150 mw_147 mw_148 mw_149 mw_12 (by decide +kernel) (by decide) rfl rfl (Nat.le_of_ble_eq_true rfl) dX2_scrip_2 (Nat.le_of_ble_eq_true rfl) (Nat.le_of_ble_eq_true rfl) ?_
  refine e_astore_n (ls2 := [(3, .ref (ρ (mO k))), (0, .ref (ρ 0)), (1, .int (nI k)), (2, .int (nI j))]) C hnL dX2_scrip_5 rfl (by decide) rfl ?_
  refine e_iload_n (j := 3) C dX2_scrip_6 rfl rfl ?_
  refine e_iconst (v := 0) C dX2_scrip_7 (by decide) ?_
  refine e_bipush (v := 39) C dX2_scrip_8 (by decide) ?_
  refine e_cS (nA := 3) C (c_X2_requireRange hl (nI_pos (by omega)) (nI_le (b := 39) (by omega) (by omega))) rfl mw_175 mw_173 mw_174 mw_12 (by decide +kernel) (by decide) rfl rfl (Nat.le_of_ble_eq_true rfl) dX2_scrip_10 (Nat.le_of_ble_eq_true rfl) (Nat.le_of_ble_eq_true rfl) ?_
  refine e_aload_n (j := 0) C dX2_scrip_13 rfl rfl ?_
  refine e_get0 (k := 11) (kk0 := k) (ref := "ScripHollow$Miner") C hk (by decide) rfl rfl mw_250 dX2_scrip_14 ?_
  refine e_iload_n (j := 3) C dX2_scrip_17 rfl rfl ?_
  refine e_ialdN j C (cnt_S hk) (fun cA => cell_S cA n ρ J k _) rfl (by omega) (by decide) dX2_scrip_18 ?_
  exact e_iret C rfl (Nat.le_of_ble_eq_true rfl) (Nat.le_of_ble_eq_true rfl) dX2_scrip_19 (pO.mk rfl)
set_option maxRecDepth 100000 in
set_option maxHeartbeats 4000000 in
theorem c_X2_scripAnew_x {l : Launch} (hl : l.stackTraces = false) {n : Nat} {ρ : Nat → Nat} {J : Nat → Int64} {M : Mem} {x : Int32} (h : x < 0 ∨ nI n ≤ x) : CtO l yX2_scripAnew cX2_scripAnew 3 (some .int) 8 1 6 n ρ J M [.ref (ρ 0), .int x] (rX IX M) := by
  refine CtO.of hl (by decide +kernel) (Nat.le_of_ble_eq_true rfl) (fun Ξ hnL C => ?_)
  show E Ξ n ρ J M 0 0 0 [(0, .ref (ρ 0)), (1, .int x)] []
  refine e_aload_n (j := 0) C dX2_scripAnew_0 rfl rfl ?_
  refine e_iload_n (j := 1) C dX2_scripAnew_1 rfl rfl ?_
  exact e_cVx (i := 0) (nA := 1) (Cn := RX2) C (c_X2_minerAt_x hl h) rfl (cnt_fix (by decide)) (fun _ => rfl) rfl rfl mw_150 mw_147 mw_148 mw_149 mw_12 (by decide +kernel) (by decide) rfl rfl (Nat.le_of_ble_eq_true rfl) dX2_scripAnew_2 (Nat.le_of_ble_eq_true rfl) (Nat.le_of_ble_eq_true rfl) rfl
set_option maxRecDepth 100000 in
set_option maxHeartbeats 4000000 in
theorem c_X2_scripAnew {l : Launch} (hl : l.stackTraces = false) {n : Nat} {ρ : Nat → Nat} {J : Nat → Int64} {M : Mem} {k : Nat} (hk : k < n) (hn : n ≤ 10) : CtO l yX2_scripAnew cX2_scripAnew 3 (some .int) 8 1 6 n ρ J M [.ref (ρ 0), .int (nI k)] (rI (M (mO k) 12 - M (mO k) 13) M) := by
  refine CtO.of hl (by decide +kernel) (Nat.le_of_ble_eq_true rfl) (fun Ξ hnL C => ?_)
  show E Ξ n ρ J M 0 0 0 [(0, .ref (ρ 0)), (1, .int (nI k))] []
  refine e_aload_n (j := 0) C dX2_scripAnew_0 rfl rfl ?_
  refine e_iload_n (j := 1) C dX2_scripAnew_1 rfl rfl ?_
  refine e_cV (i := 0) (nA := 1) (Cn := RX2) C (c_X2_minerAt hl hk hn) rfl (cnt_fix (by decide)) (fun _ => rfl) rfl rfl mw_150 mw_147 mw_148 mw_149 mw_12 (by decide +kernel) (by decide) rfl rfl (Nat.le_of_ble_eq_true rfl) dX2_scripAnew_2 (Nat.le_of_ble_eq_true rfl) (Nat.le_of_ble_eq_true rfl) ?_
  refine e_astore_n (ls2 := [(2, .ref (ρ (mO k))), (0, .ref (ρ 0)), (1, .int (nI k))]) C hnL dX2_scripAnew_5 rfl (by decide) rfl ?_
  refine e_aload_n (j := 0) C dX2_scripAnew_6 rfl rfl ?_
  refine e_get0 (k := 12) (kk0 := k) (ref := "ScripHollow$Miner") C hk (by decide) rfl rfl mw_455 dX2_scripAnew_7 ?_
  refine e_aload_n (j := 0) C dX2_scripAnew_10 rfl rfl ?_
  refine e_get0 (k := 13) (kk0 := k) (ref := "ScripHollow$Miner") C hk (by decide) rfl rfl mw_456 dX2_scripAnew_11 ?_
  refine e_isub C dX2_scripAnew_14 ?_
  exact e_iret C rfl (Nat.le_of_ble_eq_true rfl) (Nat.le_of_ble_eq_true rfl) dX2_scripAnew_15 (pO.mk rfl)
set_option maxRecDepth 100000 in
set_option maxHeartbeats 4000000 in
theorem c_X2_books_x {l : Launch} (hl : l.stackTraces = false) {n : Nat} {ρ : Nat → Nat} {J : Nat → Int64} {M : Mem} {x : Int32} (h : x < 0 ∨ 6 ≤ x) : CtO l yX2_books cX2_books 2 (some .int) 7 1 6 n ρ J M [.ref (ρ 0), .int x] (rX IX M) := by
  refine CtO.of hl (by decide +kernel) (Nat.le_of_ble_eq_true rfl) (fun Ξ hnL C => ?_)
  show E Ξ n ρ J M 0 0 0 [(0, .ref (ρ 0)), (1, .int x)] []
  refine e_iload_n (j := 1) C dX2_books_0 rfl rfl ?_
  refine e_aload_n (j := 0) C dX2_books_1 rfl rfl ?_
  refine e_get2 (k := 17) (ref := "ScripHollow") C (by decide) rfl rfl mw_38 dX2_books_2 ?_
  refine e_ilen (v := 6) C (cnt_fix (by decide)) (fun _ => rfl) (by decide) dX2_books_5 ?_
  exact e_cSx (nA := 2) C (c_X2_requireIndex_x hl h) rfl mw_154 mw_152 mw_153 mw_12 (by decide +kernel) (by decide) rfl rfl (Nat.le_of_ble_eq_true rfl) dX2_books_6 (Nat.le_of_ble_eq_true rfl) (Nat.le_of_ble_eq_true rfl) rfl
set_option maxRecDepth 100000 in
set_option maxHeartbeats 4000000 in
theorem c_X2_books {l : Launch} (hl : l.stackTraces = false) {n : Nat} {ρ : Nat → Nat} {J : Nat → Int64} {M : Mem} {j : Nat} (hj : j < 6) : CtO l yX2_books cX2_books 2 (some .int) 7 1 6 n ρ J M [.ref (ρ 0), .int (nI j)] (rI (M 7 j) M) := by
  refine CtO.of hl (by decide +kernel) (Nat.le_of_ble_eq_true rfl) (fun Ξ hnL C => ?_)
  show E Ξ n ρ J M 0 0 0 [(0, .ref (ρ 0)), (1, .int (nI j))] []
  refine e_iload_n (j := 1) C dX2_books_0 rfl rfl ?_
  refine e_aload_n (j := 0) C dX2_books_1 rfl rfl ?_
  refine e_get2 (k := 17) (ref := "ScripHollow") C (by decide) rfl rfl mw_38 dX2_books_2 ?_
  refine e_ilen (v := 6) C (cnt_fix (by decide)) (fun _ => rfl) (by decide) dX2_books_5 ?_
  refine e_cS (nA := 2) C (c_X2_requireIndex hl (nI_pos (by omega)) (nI_lt (b := 6) hj (by omega))) rfl mw_154 mw_152 mw_153 mw_12 (by decide +kernel) (by decide) rfl rfl (Nat.le_of_ble_eq_true rfl) dX2_books_6 (Nat.le_of_ble_eq_true rfl) (Nat.le_of_ble_eq_true rfl) ?_
  refine e_aload_n (j := 0) C dX2_books_9 rfl rfl ?_
  refine e_get2 (k := 17) (ref := "ScripHollow") C (by decide) rfl rfl mw_38 dX2_books_10 ?_
  refine e_iload_n (j := 1) C dX2_books_13 rfl rfl ?_
  refine e_ialdN j C (cnt_fix (by decide)) (fun _ => rfl) rfl (by omega) (by decide) dX2_books_14 ?_
  exact e_iret C rfl (Nat.le_of_ble_eq_true rfl) (Nat.le_of_ble_eq_true rfl) dX2_books_15 (pO.mk rfl)
