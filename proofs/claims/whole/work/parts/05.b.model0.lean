/-! The reference: its guards and smaller methods. -/
def gv (f s t : Int32) : Int32 := if f = 0 then 1 else if s = 0 then 2 else if t = 0 then 3 else 0
def gr (f s t : Int32) : Int32 := if gv f s t = 0 then 1 else 0
/-- the reference's outcome: the code, the value -/
abbrev mo (M : Mem) (c v : Int32) : Out := rI v (up M 9 29 c)
theorem pm {x : Int32} {n : Nat} (hn : n ≤ 10) (h : nI n ≤ x) : nI n - 1 < x := by
  have h1 := Int32.le_iff_toInt_le.mp h
  have h2 : (nI n - nI 1).toInt = (n : Int) - 1 := pk_sub_toInt (by omega) (by omega)
  have h3 : (nI n).toInt = (n : Int) := nI_toInt (by omega)
  apply Int32.lt_iff_toInt_lt.mpr
  show (nI n - nI 1).toInt < x.toInt
  omega
theorem pn {k n : Nat} (hk : k < n) (hn : n ≤ 10) : nI k ≤ nI n - 1 := by
  have h2 : (nI n - nI 1).toInt = (n : Int) - 1 := pk_sub_toInt (by omega) (by omega)
  have h3 : (nI k).toInt = (k : Int) := nI_toInt (by omega)
  apply Int32.le_iff_toInt_le.mpr
  show (nI k).toInt ≤ (nI n - nI 1).toInt
  omega
set_option maxRecDepth 100000 in
set_option maxHeartbeats 4000000 in
theorem c_X3_in1 {l : Launch} (hl : l.stackTraces = false) {n : Nat} {ρ : Nat → Nat} {J : Nat → Int64} {M : Mem} {v a b : Int32} (h0 : ¬ v < a) (h1 : v ≤ b) : CtO l yX3_in cX3_in 3 (some .boolean) 0 0 0 n ρ J M [.int v, .int a, .int b] (rI 1 M) := by
  refine CtO.of hl (by decide +kernel) (Nat.le_of_ble_eq_true rfl) (fun Ξ hnL C => ?_)
  show E Ξ n ρ J M 0 0 0 [(0, .int v), (1, .int a), (2, .int b)] []
  refine e_iload_n (j := 0) C dX3_in_0 rfl rfl ?_
  refine e_iload_n (j := 1) C dX3_in_1 rfl rfl ?_
  refine e_icmp_lt (tgt := 14) C dX3_in_2 (by decide) (fun c_2 => absurd c_2 h0) (fun c_2 => ?_)
  refine e_iload_n (j := 0) C dX3_in_5 rfl rfl ?_
  refine e_iload_n (j := 2) C dX3_in_6 rfl rfl ?_
  refine e_icmp_gt (tgt := 14) C dX3_in_7 (by decide) (fun c_7 => absurd c_7 (Int32.not_lt.mpr h1)) (fun c_7 => ?_)
  refine e_iconst (v := 1) C dX3_in_10 (by decide) ?_
  refine e_goto (tgt := 15) C dX3_in_11 (by decide) ?_
  exact e_zret C rfl rfl (Nat.le_of_ble_eq_true rfl) (Nat.le_of_ble_eq_true rfl) dX3_in_15 (pO.mk rfl)
set_option maxRecDepth 100000 in
set_option maxHeartbeats 4000000 in
theorem c_X3_in0 {l : Launch} (hl : l.stackTraces = false) {n : Nat} {ρ : Nat → Nat} {J : Nat → Int64} {M : Mem} {v a b : Int32} (h : v < a ∨ b < v) : CtO l yX3_in cX3_in 3 (some .boolean) 0 0 0 n ρ J M [.int v, .int a, .int b] (rI 0 M) := by
  refine CtO.of hl (by decide +kernel) (Nat.le_of_ble_eq_true rfl) (fun Ξ hnL C => ?_)
  show E Ξ n ρ J M 0 0 0 [(0, .int v), (1, .int a), (2, .int b)] []
  by_cases h0 : v < a
  · refine e_iload_n (j := 0) C dX3_in_0 rfl rfl ?_
    refine e_iload_n (j := 1) C dX3_in_1 rfl rfl ?_
    refine e_icmp_lt (tgt := 14) C dX3_in_2 (by decide) (fun c_2 => ?_) (fun c_2 => absurd h0 c_2)
    refine e_iconst (v := 0) C dX3_in_14 (by decide) ?_
    exact e_zret C rfl rfl (Nat.le_of_ble_eq_true rfl) (Nat.le_of_ble_eq_true rfl) dX3_in_15 (pO.mk rfl)
  · refine e_iload_n (j := 0) C dX3_in_0 rfl rfl ?_
    refine e_iload_n (j := 1) C dX3_in_1 rfl rfl ?_
    refine e_icmp_lt (tgt := 14) C dX3_in_2 (by decide) (fun c_2 => absurd c_2 h0) (fun c_2 => ?_)
    refine e_iload_n (j := 0) C dX3_in_5 rfl rfl ?_
    refine e_iload_n (j := 2) C dX3_in_6 rfl rfl ?_
    refine e_icmp_gt (tgt := 14) C dX3_in_7 (by decide) (fun c_7 => ?_) (fun c_7 => absurd (h.resolve_left h0) c_7)
    refine e_iconst (v := 0) C dX3_in_14 (by decide) ?_
    exact e_zret C rfl rfl (Nat.le_of_ble_eq_true rfl) (Nat.le_of_ble_eq_true rfl) dX3_in_15 (pO.mk rfl)
set_option maxRecDepth 100000 in
set_option maxHeartbeats 4000000 in
theorem c_X3_goes {l : Launch} (hl : l.stackTraces = false) {n : Nat} {ρ : Nat → Nat} {J : Nat → Int64} {M : Mem} {f s t : Int32} : CtO l yX3_goes cX3_goes 4 (some .boolean) 0 0 0 n ρ J M [.ref (ρ 9), .int f, .int s, .int t] (rI (gr f s t) (up M 9 29 (gv f s t))) := by
  refine CtO.of hl (by decide +kernel) (Nat.le_of_ble_eq_true rfl) (fun Ξ hnL C => ?_)
  show E Ξ n ρ J M 0 0 0 [(0, .ref (ρ 9)), (1, .int f), (2, .int s), (3, .int t)] []
  by_cases hf : f = 0
  · refine e_aload_n (j := 0) C dX3_goes_0 rfl rfl ?_
    refine e_iload_n (j := 1) C dX3_goes_1 rfl rfl ?_
    refine e_if_ne (tgt := 9) C dX3_goes_2 (by decide) (fun c_2 => absurd hf c_2) (fun c_2 => ?_)
    refine e_iconst (v := 1) C dX3_goes_5 (by decide) ?_
    refine e_goto (tgt := 26) C dX3_goes_6 (by decide) ?_
    refine e_put3 (k := 29) (ref := "ScripHollowModel") (ty := .int) C (by decide) rfl rfl (by decide +kernel) rfl rfl rfl mw_163 dX3_goes_26 ?_
    refine e_aload_n (j := 0) C dX3_goes_29 rfl rfl ?_
    refine e_get3 (k := 29) (ref := "ScripHollowModel") C (by decide) rfl rfl mw_163 dX3_goes_30 ?_
    refine e_if_ne (tgt := 40) C dX3_goes_33 (by decide) (fun c_33 => ?_) (fun c_33 => absurd c_33 (by rw [up_eq]; unfold upd; rw [if_pos rfl]; decide))
    refine e_iconst (v := 0) C dX3_goes_40 (by decide) ?_
    exact e_zret C rfl rfl (Nat.le_of_ble_eq_true rfl) (Nat.le_of_ble_eq_true rfl) dX3_goes_41 (pO.mk (by unfold gr gv; rw [if_pos hf]; rfl))
  · by_cases hs : s = 0
    · refine e_aload_n (j := 0) C dX3_goes_0 rfl rfl ?_
      refine e_iload_n (j := 1) C dX3_goes_1 rfl rfl ?_
      refine e_if_ne (tgt := 9) C dX3_goes_2 (by decide) (fun c_2 => ?_) (fun c_2 => absurd c_2 hf)
      refine e_iload_n (j := 2) C dX3_goes_9 rfl rfl ?_
      refine e_if_ne (tgt := 17) C dX3_goes_10 (by decide) (fun c_10 => absurd hs c_10) (fun c_10 => ?_)
      refine e_iconst (v := 2) C dX3_goes_13 (by decide) ?_
      refine e_goto (tgt := 26) C dX3_goes_14 (by decide) ?_
      refine e_put3 (k := 29) (ref := "ScripHollowModel") (ty := .int) C (by decide) rfl rfl (by decide +kernel) rfl rfl rfl mw_163 dX3_goes_26 ?_
      refine e_aload_n (j := 0) C dX3_goes_29 rfl rfl ?_
      refine e_get3 (k := 29) (ref := "ScripHollowModel") C (by decide) rfl rfl mw_163 dX3_goes_30 ?_
      refine e_if_ne (tgt := 40) C dX3_goes_33 (by decide) (fun c_33 => ?_) (fun c_33 => absurd c_33 (by rw [up_eq]; unfold upd; rw [if_pos rfl]; decide))
      refine e_iconst (v := 0) C dX3_goes_40 (by decide) ?_
      exact e_zret C rfl rfl (Nat.le_of_ble_eq_true rfl) (Nat.le_of_ble_eq_true rfl) dX3_goes_41 (pO.mk (by unfold gr gv; rw [if_neg hf, if_pos hs]; rfl))
    · by_cases ht : t = 0
      · refine e_aload_n (j := 0) C dX3_goes_0 rfl rfl ?_
        refine e_iload_n (j := 1) C dX3_goes_1 rfl rfl ?_
        refine e_if_ne (tgt := 9) C dX3_goes_2 (by decide) (fun c_2 => ?_) (fun c_2 => absurd c_2 hf)
        refine e_iload_n (j := 2) C dX3_goes_9 rfl rfl ?_
        refine e_if_ne (tgt := 17) C dX3_goes_10 (by decide) (fun c_10 => ?_) (fun c_10 => absurd c_10 hs)
        refine e_iload_n (j := 3) C dX3_goes_17 rfl rfl ?_
        refine e_if_eq (tgt := 25) C dX3_goes_18 (by decide) (fun c_18 => ?_) (fun c_18 => absurd ht c_18)
        refine e_iconst (v := 3) C dX3_goes_25 (by decide) ?_
        refine e_put3 (k := 29) (ref := "ScripHollowModel") (ty := .int) C (by decide) rfl rfl (by decide +kernel) rfl rfl rfl mw_163 dX3_goes_26 ?_
        refine e_aload_n (j := 0) C dX3_goes_29 rfl rfl ?_
        refine e_get3 (k := 29) (ref := "ScripHollowModel") C (by decide) rfl rfl mw_163 dX3_goes_30 ?_
        refine e_if_ne (tgt := 40) C dX3_goes_33 (by decide) (fun c_33 => ?_) (fun c_33 => absurd c_33 (by rw [up_eq]; unfold upd; rw [if_pos rfl]; decide))
        refine e_iconst (v := 0) C dX3_goes_40 (by decide) ?_
        exact e_zret C rfl rfl (Nat.le_of_ble_eq_true rfl) (Nat.le_of_ble_eq_true rfl) dX3_goes_41 (pO.mk (by unfold gr gv; rw [if_neg hf, if_neg hs, if_pos ht]; rfl))
      · refine e_aload_n (j := 0) C dX3_goes_0 rfl rfl ?_
        refine e_iload_n (j := 1) C dX3_goes_1 rfl rfl ?_
        refine e_if_ne (tgt := 9) C dX3_goes_2 (by decide) (fun c_2 => ?_) (fun c_2 => absurd c_2 hf)
        refine e_iload_n (j := 2) C dX3_goes_9 rfl rfl ?_
        refine e_if_ne (tgt := 17) C dX3_goes_10 (by decide) (fun c_10 => ?_) (fun c_10 => absurd c_10 hs)
        refine e_iload_n (j := 3) C dX3_goes_17 rfl rfl ?_
        refine e_if_eq (tgt := 25) C dX3_goes_18 (by decide) (fun c_18 => absurd c_18 ht) (fun c_18 => ?_)
        refine e_iconst (v := 0) C dX3_goes_21 (by decide) ?_
        refine e_goto (tgt := 26) C dX3_goes_22 (by decide) ?_
        refine e_put3 (k := 29) (ref := "ScripHollowModel") (ty := .int) C (by decide) rfl rfl (by decide +kernel) rfl rfl rfl mw_163 dX3_goes_26 ?_
        refine e_aload_n (j := 0) C dX3_goes_29 rfl rfl ?_
        refine e_get3 (k := 29) (ref := "ScripHollowModel") C (by decide) rfl rfl mw_163 dX3_goes_30 ?_
        refine e_if_ne (tgt := 40) C dX3_goes_33 (by decide) (fun c_33 => absurd (by rw [up_eq]; unfold upd; rw [if_pos rfl]) c_33) (fun c_33 => ?_)
        refine e_iconst (v := 1) C dX3_goes_36 (by decide) ?_
        refine e_goto (tgt := 41) C dX3_goes_37 (by decide) ?_
        exact e_zret C rfl rfl (Nat.le_of_ble_eq_true rfl) (Nat.le_of_ble_eq_true rfl) dX3_goes_41 (pO.mk (by unfold gr gv; rw [if_neg hf, if_neg hs, if_neg ht]; rfl))
set_option maxRecDepth 100000 in
set_option maxHeartbeats 4000000 in
theorem c_X3_isMiner {l : Launch} (hl : l.stackTraces = false) {n : Nat} {ρ : Nat → Nat} {J : Nat → Int64} {M : Mem} {k : Nat} (hk : k < n) (hn : n ≤ 10) (hm : M 9 0 = nI n) : CtO l yX3_isMiner cX3_isMiner 2 (some .boolean) 1 0 0 n ρ J M [.ref (ρ 9), .int (nI k)] (rI 1 M) := by
  refine CtO.of hl (by decide +kernel) (Nat.le_of_ble_eq_true rfl) (fun Ξ hnL C => ?_)
  show E Ξ n ρ J M 0 0 0 [(0, .ref (ρ 9)), (1, .int (nI k))] []
  refine e_iload_n (j := 1) C dX3_isMiner_0 rfl rfl ?_
  refine e_iconst (v := 0) C dX3_isMiner_1 (by decide) ?_
  refine e_aload_n (j := 0) C dX3_isMiner_2 rfl rfl ?_
  refine e_get3 (k := 0) (ref := "ScripHollowModel") C (by decide) rfl rfl mw_158 dX3_isMiner_3 ?_
  refine e_iconst (v := 1) C dX3_isMiner_6 (by decide) ?_
  refine e_isub C dX3_isMiner_7 ?_
  refine e_cS (nA := 3) C (c_X3_in1 hl (nI_pos (by omega)) (by rw [hm]; exact pn hk hn)) rfl mw_216 mw_214 mw_215 mw_5 (by decide +kernel) (by decide) rfl rfl (Nat.le_of_ble_eq_true rfl) dX3_isMiner_8 (Nat.le_of_ble_eq_true rfl) (Nat.le_of_ble_eq_true rfl) ?_
  exact e_zret C rfl rfl (Nat.le_of_ble_eq_true rfl) (Nat.le_of_ble_eq_true rfl) dX3_isMiner_11 (pO.mk rfl)
set_option maxRecDepth 100000 in
set_option maxHeartbeats 4000000 in
theorem c_X3_isMiner_x {l : Launch} (hl : l.stackTraces = false) {n : Nat} {ρ : Nat → Nat} {J : Nat → Int64} {M : Mem} {x : Int32} (h : x < 0 ∨ nI n ≤ x) (hn : n ≤ 10) (hm : M 9 0 = nI n) : CtO l yX3_isMiner cX3_isMiner 2 (some .boolean) 1 0 0 n ρ J M [.ref (ρ 9), .int x] (rI 0 M) := by
  refine CtO.of hl (by decide +kernel) (Nat.le_of_ble_eq_true rfl) (fun Ξ hnL C => ?_)
  show E Ξ n ρ J M 0 0 0 [(0, .ref (ρ 9)), (1, .int x)] []
  refine e_iload_n (j := 1) C dX3_isMiner_0 rfl rfl ?_
  refine e_iconst (v := 0) C dX3_isMiner_1 (by decide) ?_
  refine e_aload_n (j := 0) C dX3_isMiner_2 rfl rfl ?_
  refine e_get3 (k := 0) (ref := "ScripHollowModel") C (by decide) rfl rfl mw_158 dX3_isMiner_3 ?_
  refine e_iconst (v := 1) C dX3_isMiner_6 (by decide) ?_
  refine e_isub C dX3_isMiner_7 ?_
  refine e_cS (nA := 3) C (c_X3_in0 hl (by rw [hm]; exact h.elim Or.inl (fun z => Or.inr (pm hn z)))) rfl mw_216 mw_214 mw_215 mw_5 (by decide +kernel) (by decide) rfl rfl (Nat.le_of_ble_eq_true rfl) dX3_isMiner_8 (Nat.le_of_ble_eq_true rfl) (Nat.le_of_ble_eq_true rfl) ?_
  exact e_zret C rfl rfl (Nat.le_of_ble_eq_true rfl) (Nat.le_of_ble_eq_true rfl) dX3_isMiner_11 (pO.mk rfl)
set_option maxRecDepth 100000 in
set_option maxHeartbeats 4000000 in
theorem c_X3_isGoods {l : Launch} (hl : l.stackTraces = false) {n : Nat} {ρ : Nat → Nat} {J : Nat → Int64} {M : Mem} {g : Nat} (hg : g < 4) : CtO l yX3_isGoods cX3_isGoods 1 (some .boolean) 1 0 0 n ρ J M [.int (nI g)] (rI 1 M) := by
  refine CtO.of hl (by decide +kernel) (Nat.le_of_ble_eq_true rfl) (fun Ξ hnL C => ?_)
  show E Ξ n ρ J M 0 0 0 [(0, .int (nI g))] []
  refine e_iload_n (j := 0) C dX3_isGoods_0 rfl rfl ?_
  refine e_iconst (v := 0) C dX3_isGoods_1 (by decide) ?_
  refine e_iconst (v := 3) C dX3_isGoods_2 (by decide) ?_
  refine e_cS (nA := 3) C (c_X3_in1 hl (nI_pos (by omega)) (nI_le (b := 3) (by omega) (by omega))) rfl mw_216 mw_214 mw_215 mw_5 (by decide +kernel) (by decide) rfl rfl (Nat.le_of_ble_eq_true rfl) dX3_isGoods_3 (Nat.le_of_ble_eq_true rfl) (Nat.le_of_ble_eq_true rfl) ?_
  exact e_zret C rfl rfl (Nat.le_of_ble_eq_true rfl) (Nat.le_of_ble_eq_true rfl) dX3_isGoods_6 (pO.mk rfl)
theorem g3 {x : Int32} {n : Nat} (hn : n < 1000) (h : nI (n + 1) ≤ x) : nI n < x := by
  have h1 := Int32.le_iff_toInt_le.mp h
  have h2 : (nI (n + 1)).toInt = (n : Int) + 1 := nI_toInt (by omega)
  have h3 : (nI n).toInt = (n : Int) := nI_toInt (by omega)
  apply Int32.lt_iff_toInt_lt.mpr
  omega
set_option maxRecDepth 100000 in
set_option maxHeartbeats 4000000 in
theorem c_X3_isGoods_x {l : Launch} (hl : l.stackTraces = false) {n : Nat} {ρ : Nat → Nat} {J : Nat → Int64} {M : Mem} {x : Int32} (h : x < 0 ∨ 4 ≤ x) : CtO l yX3_isGoods cX3_isGoods 1 (some .boolean) 1 0 0 n ρ J M [.int x] (rI 0 M) := by
  refine CtO.of hl (by decide +kernel) (Nat.le_of_ble_eq_true rfl) (fun Ξ hnL C => ?_)
  show E Ξ n ρ J M 0 0 0 [(0, .int x)] []
  refine e_iload_n (j := 0) C dX3_isGoods_0 rfl rfl ?_
  refine e_iconst (v := 0) C dX3_isGoods_1 (by decide) ?_
  refine e_iconst (v := 3) C dX3_isGoods_2 (by decide) ?_
  refine e_cS (nA := 3) C (c_X3_in0 hl (h.elim Or.inl (fun z => Or.inr (g3 (n := 3) (by omega) z)))) rfl mw_216 mw_214 mw_215 mw_5 (by decide +kernel) (by decide) rfl rfl (Nat.le_of_ble_eq_true rfl) dX3_isGoods_3 (Nat.le_of_ble_eq_true rfl) (Nat.le_of_ble_eq_true rfl) ?_
  exact e_zret C rfl rfl (Nat.le_of_ble_eq_true rfl) (Nat.le_of_ble_eq_true rfl) dX3_isGoods_6 (pO.mk rfl)
set_option maxRecDepth 100000 in
set_option maxHeartbeats 4000000 in
theorem c_X3_isAlive {l : Launch} (hl : l.stackTraces = false) {n : Nat} {ρ : Nat → Nat} {J : Nat → Int64} {M : Mem} {k : Nat} (hk : k < n) (hn : n ≤ 10) (hm : M 9 0 = nI n) (h : ¬ M 10 k = 0) : CtO l yX3_isAlive cX3_isAlive 2 (some .boolean) 2 0 0 n ρ J M [.ref (ρ 9), .int (nI k)] (rI 1 M) := by
  refine CtO.of hl (by decide +kernel) (Nat.le_of_ble_eq_true rfl) (fun Ξ hnL C => ?_)
  show E Ξ n ρ J M 0 0 0 [(0, .ref (ρ 9)), (1, .int (nI k))] []
  refine e_aload_n (j := 0) C dX3_isAlive_0 rfl rfl ?_
  refine e_iload_n (j := 1) C dX3_isAlive_1 rfl rfl ?_
  refine e_cV (i := 9) (nA := 1) (Cn := RX3) C (c_X3_isMiner hl hk hn hm) rfl (cnt_fix (by decide)) (fun _ => rfl) rfl rfl mw_213 mw_210 mw_211 mw_212 mw_5 (by decide +kernel) (by decide) rfl rfl (Nat.le_of_ble_eq_true rfl) dX3_isAlive_2 (Nat.le_of_ble_eq_true rfl) (Nat.le_of_ble_eq_true rfl) ?_
  refine e_if_eq (tgt := 21) C dX3_isAlive_5 (by decide) (fun c_5 => absurd c_5 (by decide)) (fun c_5 => ?_)
  refine e_aload_n (j := 0) C dX3_isAlive_8 rfl rfl ?_
  refine e_get3 (k := 1) (ref := "ScripHollowModel") C (by decide) rfl rfl mw_54 dX3_isAlive_9 ?_
  refine e_iload_n (j := 1) C dX3_isAlive_12 rfl rfl ?_
  refine e_zaldN k C (cnt_fix (by decide)) (fun _ => rfl) rfl (by omega) (by decide) dX3_isAlive_13 ?_
  refine e_if_eq (tgt := 21) C dX3_isAlive_14 (by decide) (fun c_14 => absurd c_14 h) (fun c_14 => ?_)
  refine e_iconst (v := 1) C dX3_isAlive_17 (by decide) ?_
  refine e_goto (tgt := 22) C dX3_isAlive_18 (by decide) ?_
  exact e_zret C rfl rfl (Nat.le_of_ble_eq_true rfl) (Nat.le_of_ble_eq_true rfl) dX3_isAlive_22 (pO.mk rfl)
set_option maxRecDepth 100000 in
set_option maxHeartbeats 4000000 in
theorem c_X3_isAlive_d {l : Launch} (hl : l.stackTraces = false) {n : Nat} {ρ : Nat → Nat} {J : Nat → Int64} {M : Mem} {k : Nat} (hk : k < n) (hn : n ≤ 10) (hm : M 9 0 = nI n) (h : M 10 k = 0) : CtO l yX3_isAlive cX3_isAlive 2 (some .boolean) 2 0 0 n ρ J M [.ref (ρ 9), .int (nI k)] (rI 0 M) := by
  refine CtO.of hl (by decide +kernel) (Nat.le_of_ble_eq_true rfl) (fun Ξ hnL C => ?_)
  show E Ξ n ρ J M 0 0 0 [(0, .ref (ρ 9)), (1, .int (nI k))] []
  refine e_aload_n (j := 0) C dX3_isAlive_0 rfl rfl ?_
  refine e_iload_n (j := 1) C dX3_isAlive_1 rfl rfl ?_
  refine e_cV (i := 9) (nA := 1) (Cn := RX3) C (c_X3_isMiner hl hk hn hm) rfl (cnt_fix (by decide)) (fun _ => rfl) rfl rfl mw_213 mw_210 mw_211 mw_212 mw_5 (by decide +kernel) (by decide) rfl rfl (Nat.le_of_ble_eq_true rfl) dX3_isAlive_2 (Nat.le_of_ble_eq_true rfl) (Nat.le_of_ble_eq_true rfl) ?_
  refine e_if_eq (tgt := 21) C dX3_isAlive_5 (by decide) (fun c_5 => absurd c_5 (by decide)) (fun c_5 => ?_)
  refine e_aload_n (j := 0) C dX3_isAlive_8 rfl rfl ?_
  refine e_get3 (k := 1) (ref := "ScripHollowModel") C (by decide) rfl rfl mw_54 dX3_isAlive_9 ?_
  refine e_iload_n (j := 1) C dX3_isAlive_12 rfl rfl ?_
  refine e_zaldN k C (cnt_fix (by decide)) (fun _ => rfl) rfl (by omega) (by decide) dX3_isAlive_13 ?_
  refine e_if_eq (tgt := 21) C dX3_isAlive_14 (by decide) (fun c_14 => ?_) (fun c_14 => absurd h c_14)
  refine e_iconst (v := 0) C dX3_isAlive_21 (by decide) ?_
  exact e_zret C rfl rfl (Nat.le_of_ble_eq_true rfl) (Nat.le_of_ble_eq_true rfl) dX3_isAlive_22 (pO.mk rfl)
set_option maxRecDepth 100000 in
set_option maxHeartbeats 4000000 in
theorem c_X3_isAlive_x {l : Launch} (hl : l.stackTraces = false) {n : Nat} {ρ : Nat → Nat} {J : Nat → Int64} {M : Mem} {x : Int32} (h : x < 0 ∨ nI n ≤ x) (hn : n ≤ 10) (hm : M 9 0 = nI n) : CtO l yX3_isAlive cX3_isAlive 2 (some .boolean) 2 0 0 n ρ J M [.ref (ρ 9), .int x] (rI 0 M) := by
  refine CtO.of hl (by decide +kernel) (Nat.le_of_ble_eq_true rfl) (fun Ξ hnL C => ?_)
  show E Ξ n ρ J M 0 0 0 [(0, .ref (ρ 9)), (1, .int x)] []
  refine e_aload_n (j := 0) C dX3_isAlive_0 rfl rfl ?_
  refine e_iload_n (j := 1) C dX3_isAlive_1 rfl rfl ?_
  refine e_cV (i := 9) (nA := 1) (Cn := RX3) C (c_X3_isMiner_x hl h hn hm) rfl (cnt_fix (by decide)) (fun _ => rfl) rfl rfl mw_213 mw_210 mw_211 mw_212 mw_5 (by decide +kernel) (by decide) rfl rfl (Nat.le_of_ble_eq_true rfl) dX3_isAlive_2 (Nat.le_of_ble_eq_true rfl) (Nat.le_of_ble_eq_true rfl) ?_
  refine e_if_eq (tgt := 21) C dX3_isAlive_5 (by decide) (fun c_5 => ?_) (fun c_5 => absurd (by decide) c_5)
  refine e_iconst (v := 0) C dX3_isAlive_21 (by decide) ?_
  exact e_zret C rfl rfl (Nat.le_of_ble_eq_true rfl) (Nat.le_of_ble_eq_true rfl) dX3_isAlive_22 (pO.mk rfl)
set_option maxRecDepth 100000 in
set_option maxHeartbeats 4000000 in
theorem c_X3_thrown {l : Launch} (hl : l.stackTraces = false) {n : Nat} {ρ : Nat → Nat} {J : Nat → Int64} {M : Mem}  : CtO l yX3_thrown cX3_thrown 1 (some .int) 0 0 0 n ρ J M [.ref (ρ 9)] (rI (M 9 29) M) := by
  refine CtO.of hl (by decide +kernel) (Nat.le_of_ble_eq_true rfl) (fun Ξ hnL C => ?_)
  show E Ξ n ρ J M 0 0 0 [(0, .ref (ρ 9))] []
  refine e_aload_n (j := 0) C dX3_thrown_0 rfl rfl ?_
  refine e_get3 (k := 29) (ref := "ScripHollowModel") C (by decide) rfl rfl mw_163 dX3_thrown_1 ?_
  exact e_iret C rfl (Nat.le_of_ble_eq_true rfl) (Nat.le_of_ble_eq_true rfl) dX3_thrown_4 (pO.mk rfl)
