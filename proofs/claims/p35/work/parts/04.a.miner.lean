/-! The miner's own methods, and the slip's. -/
def sm (f : Nat → Int32) : Nat → Int32
  | 0 => 0
  | n + 1 => sm f n + f n
section Subs
variable {Ξ : CT} {n : Nat} {ρ : Nat → Nat} {J : Nat → Int64} {M : Mem} {a b pc : Nat} {ls ls2 : List (Nat × Value)} {st : List Value}
theorem e_sub (ks : List Nat) (h : lv_pick ls ks = ls2) (kk : E Ξ n ρ J M a b pc ls2 st) : E Ξ n ρ J M a b pc ls st := fun H locs lsA hP hD hS hl => kk H locs lsA hP hD hS (lv_sub hl ks h)
end Subs
set_option maxRecDepth 100000 in
set_option maxHeartbeats 4000000 in
/-- all scrip -/
theorem c_X0_allScrip {l : Launch} (hl : l.stackTraces = false) {n : Nat} {ρ : Nat → Nat} {J : Nat → Int64} {M : Mem} {k : Nat} (hk : k < n) : CtO l yX0_allScrip cX0_allScrip 3 (some .int) 0 0 0 n ρ J M [.ref (ρ (mO k))] (.inr (some (.int (sm (M (mS k)) 40))), M) := by
  refine CtO.of hl (by decide +kernel) (Nat.le_of_ble_eq_true rfl) (fun Ξ hnL C => ?_)
  show E Ξ n ρ J M 0 0 0 [(0, .ref (ρ (mO k)))] []
  have loop : ∀ (fuel j : Nat), j ≤ 40 → 41 ≤ j + fuel → E Ξ n ρ J M 0 0 4 [(2, .int (nI j)), (1, .int (sm (M (mS k)) j)), (0, .ref (ρ (mO k)))] [] := by
    intro fuel
    induction fuel with
    | zero => intro j h1 h2; omega
    | succ fuel ih =>
      intro j h1 h2
      rcases Nat.lt_or_ge j 40 with hj | hj
      · refine e_iload_n (j := 0) C dX0_allScrip_4 rfl rfl ?_
        refine e_aload_n (j := 2) C dX0_allScrip_5 rfl rfl ?_
        refine e_get0 (k := 11) (kk0 := k) (ref := "ScripHollow$Miner") C hk (by decide) rfl rfl mw_78 dX0_allScrip_6 ?_
        refine e_ilen (v := 40) C (cnt_S hk) (fun cA => cell_S cA n ρ J k _) (by decide) dX0_allScrip_9 ?_
        refine e_icmp_ge (tgt := 28) C dX0_allScrip_10 (by decide) (fun c_10 => absurd c_10 (nI_ge (a := j) (b := 40) hj (by omega))) (fun c_10 => ?_)
        refine e_iload_n (j := 1) C dX0_allScrip_13 rfl rfl ?_
        refine e_aload_n (j := 2) C dX0_allScrip_14 rfl rfl ?_
        refine e_get0 (k := 11) (kk0 := k) (ref := "ScripHollow$Miner") C hk (by decide) rfl rfl mw_78 dX0_allScrip_15 ?_
        refine e_iload_n (j := 0) C dX0_allScrip_18 rfl rfl ?_
        refine e_iald C (cnt_S hk) (fun cA => cell_S cA n ρ J k _) (vp_in_nI (by omega) (by omega)) dX0_allScrip_19 ?_
        refine e_iadd C dX0_allScrip_20 ?_
        refine e_topi (fun x1_21 ex1_21 => ?_)
        refine e_istore_n (ls2 := [(1, .int x1_21), (2, .int (nI j)), (0, .ref (ρ (mO k)))]) C hnL dX0_allScrip_21 rfl (by decide) rfl ?_
        obtain ⟨x2_22, ex2_22⟩ : ∃ z : Int32, z = (nI j) + 1 := ⟨_, rfl⟩
        refine e_iinc (j := 1) (v := x2_22) (ls2 := [(2, .int x2_22), (1, .int x1_21), (0, .ref (ρ (mO k)))]) C hnL dX0_allScrip_22 rfl (by rw [ex2_22]; rfl) (by decide) rfl ?_
        refine e_goto (tgt := 4) C dX0_allScrip_25 (by decide) ?_
        rw [nI_clamp (by omega)] at ex1_21
        rw [nI_1] at ex2_22
        subst ex1_21 ex2_22
        exact e_sub [0, 1, 2] rfl (ih (j + 1) (by omega) (by omega))
      · have hj2 : j = 40 := by omega
        refine e_iload_n (j := 0) C dX0_allScrip_4 rfl rfl ?_
        refine e_aload_n (j := 2) C dX0_allScrip_5 rfl rfl ?_
        refine e_get0 (k := 11) (kk0 := k) (ref := "ScripHollow$Miner") C hk (by decide) rfl rfl mw_78 dX0_allScrip_6 ?_
        refine e_ilen (v := 40) C (cnt_S hk) (fun cA => cell_S cA n ρ J k _) (by decide) dX0_allScrip_9 ?_
        refine e_icmp_ge (tgt := 28) C dX0_allScrip_10 (by decide) (fun c_10 => ?_) (fun c_10 => absurd (nI_le (a := 40) (b := j) hj (by omega)) c_10)
        refine e_iload_n (j := 1) C dX0_allScrip_28 rfl rfl ?_
        exact e_iret C rfl (Nat.le_of_ble_eq_true rfl) (Nat.le_of_ble_eq_true rfl) dX0_allScrip_29 (pO.mk (by rw [hj2]))
  refine e_iconst (v := 0) C dX0_allScrip_0 (by decide) ?_
  refine e_istore_n (ls2 := [(1, .int 0), (0, .ref (ρ (mO k)))]) C hnL dX0_allScrip_1 rfl (by decide) rfl ?_
  refine e_iconst (v := 0) C dX0_allScrip_2 (by decide) ?_
  refine e_istore_n (ls2 := [(2, .int 0), (1, .int 0), (0, .ref (ρ (mO k)))]) C hnL dX0_allScrip_3 rfl (by decide) rfl ?_
  exact e_sub [0, 1, 2] rfl (loop 41 0 (by omega) (by omega))
set_option maxRecDepth 100000 in
set_option maxHeartbeats 4000000 in
theorem c_X0_means {l : Launch} (hl : l.stackTraces = false) {n : Nat} {ρ : Nat → Nat} {J : Nat → Int64} {M : Mem} {k : Nat} (hk : k < n) : CtO l yX0_means cX0_means 1 (some .int) 1 0 0 n ρ J M [.ref (ρ (mO k))] (.inr (some (.int (M (mO k) 5 + sm (M (mS k)) 40))), M) := by
  refine CtO.of hl (by decide +kernel) (Nat.le_of_ble_eq_true rfl) (fun Ξ hnL C => ?_)
  show E Ξ n ρ J M 0 0 0 [(0, .ref (ρ (mO k)))] []
  refine e_aload_n (j := 0) C dX0_means_0 rfl rfl ?_
  refine e_get0 (k := 5) (kk0 := k) (ref := "ScripHollow$Miner") C hk (by decide) rfl rfl mw_293 dX0_means_1 ?_
  refine e_aload_n (j := 0) C dX0_means_4 rfl rfl ?_
  refine e_cV (i := (mO k)) (nA := 0) (Cn := RX0) C (c_X0_allScrip hl hk) rfl (cnt_O hk) (fun cA => cell_O cA n ρ J k _) rfl rfl mw_297 mw_294 mw_295 mw_296 mw_65 (by decide +kernel) (by decide) rfl rfl (Nat.le_of_ble_eq_true rfl) dX0_means_5 (Nat.le_of_ble_eq_true rfl) (Nat.le_of_ble_eq_true rfl) ?_
  refine e_iadd C dX0_means_8 ?_
  exact e_iret C rfl (Nat.le_of_ble_eq_true rfl) (Nat.le_of_ble_eq_true rfl) dX0_means_9 (pO.mk rfl)
set_option maxRecDepth 100000 in
set_option maxHeartbeats 4000000 in
theorem c_X0_gainScrip {l : Launch} (hl : l.stackTraces = false) {n : Nat} {ρ : Nat → Nat} {J : Nat → Int64} {M : Mem} {k : Nat} (hk : k < n) {i : Nat} (hi : i < 40) {v : Int32} : CtO l yX0_gainScrip cX0_gainScrip 3 none 0 0 0 n ρ J M [.ref (ρ (mO k)), .int (nI i), .int v] (.inr none, up (up M (mS k) i (M (mS k) i + v)) (mO k) 12 (M (mO k) 12 + v)) := by
  refine CtO.of hl (by decide +kernel) (Nat.le_of_ble_eq_true rfl) (fun Ξ hnL C => ?_)
  show E Ξ n ρ J M 0 0 0 [(0, .ref (ρ (mO k))), (1, .int (nI i)), (2, .int v)] []
  have hin : vp_in (nI i) 40 := vp_in_nI (by omega) (by omega)
  have hcl : (nI i).toNatClampNeg = i := nI_clamp (by omega)
  refine e_aload_n (j := 0) C dX0_gainScrip_0 rfl rfl ?_
  refine e_get0 (k := 11) (kk0 := k) (ref := "ScripHollow$Miner") C hk (by decide) rfl rfl mw_78 dX0_gainScrip_1 ?_
  refine e_iload_n (j := 1) C dX0_gainScrip_4 rfl rfl ?_
  refine e_dup2 C dX0_gainScrip_5 rfl rfl ?_
  refine e_iald C (cnt_S hk) (fun cA => cell_S cA n ρ J k _) hin dX0_gainScrip_6 ?_
  refine e_iload_n (j := 2) C dX0_gainScrip_7 rfl rfl ?_
  refine e_iadd C dX0_gainScrip_8 ?_
  refine e_iast C (cnt_S hk) (fun cA f => cell_S cA n ρ J k f) hin dX0_gainScrip_9 ?_
  refine e_aload_n (j := 0) C dX0_gainScrip_10 rfl rfl ?_
  refine e_dup C dX0_gainScrip_11 rfl ?_
  refine e_get0 (k := 12) (kk0 := k) (ref := "ScripHollow$Miner") C hk (by decide) rfl rfl mw_245 dX0_gainScrip_12 ?_
  refine e_iload_n (j := 2) C dX0_gainScrip_15 rfl rfl ?_
  refine e_iadd C dX0_gainScrip_16 ?_
  refine e_put0 (k := 12) (kk0 := k) (ref := "ScripHollow$Miner") (ty := .int) C hk (by decide) rfl rfl (by decide +kernel) rfl rfl rfl mw_245 dX0_gainScrip_17 ?_
  exact e_vret C rfl (Nat.le_of_ble_eq_true rfl) (Nat.le_of_ble_eq_true rfl) dX0_gainScrip_20 (pO.mk (by rw [hcl]; simp only [up, up1]; rw [if_neg (show ¬ mO k = mS k by unfold mO mS; omega)]))
def mn (x y : Int32) : Int32 := if y < x then y else x
def gain (M : Mem) (k i : Nat) (v : Int32) : Mem := up (up M (mS k) i (M (mS k) i + v)) (mO k) 12 (M (mO k) 12 + v)
def lose (M : Mem) (k i : Nat) (w : Int32) : Mem := up (up M (mS k) i (M (mS k) i - mn (M (mS k) i) w)) (mO k) 13 (M (mO k) 13 + mn (M (mS k) i) w)
def llow (M : Mem) (k : Nat) (w : Int32) : Nat → Mem × Int32
  | 0 => (M, 0)
  | i + 1 => (lose (llow M k w i).1 k i (w - (llow M k w i).2), (llow M k w i).2 + mn ((llow M k w i).1 (mS k) i) (w - (llow M k w i).2))
def inhS (M : Mem) (k q : Nat) : Nat → Mem
  | 0 => M
  | i + 1 => gain (inhS M k q i) k i (inhS M k q i (mS q) i)
def inhG (M : Mem) (k q : Nat) : Nat → Mem
  | 0 => M
  | i + 1 => up (inhG M k q i) (mG k) i (inhG M k q i (mG k) i + inhG M k q i (mG q) i)
def zG (M : Mem) (k : Nat) : Nat → Mem
  | 0 => M
  | i + 1 => up (zG M k i) (mG k) i 0
theorem up_ne {M : Mem} {i j k : Nat} {v : Int32} (h : j ≠ i) : up M i k v j = M j := by
  unfold up up1
  rw [if_neg h]
theorem up_eq {M : Mem} {i k : Nat} {v : Int32} : up M i k v i = upd (M i) k v := by
  unfold up up1
  rw [if_pos rfl]
theorem ne_OS {k q : Nat} : mO k ≠ mS q := by unfold mO mS; omega
theorem ne_OG {k q : Nat} : mO k ≠ mG q := by unfold mO mG; omega
theorem ne_SG {k q : Nat} : mS k ≠ mG q := by unfold mG mS; omega
set_option maxRecDepth 100000 in
set_option maxHeartbeats 4000000 in
theorem c_X0_loseScrip {l : Launch} (hl : l.stackTraces = false) {n : Nat} {ρ : Nat → Nat} {J : Nat → Int64} {M : Mem} {k : Nat} (hk : k < n) {i : Nat} (hi : i < 40) {v : Int32} : CtO l yX0_loseScrip cX0_loseScrip 4 (some .int) 1 0 0 n ρ J M [.ref (ρ (mO k)), .int (nI i), .int v] (.inr (some (.int (mn (M (mS k) i) v))), lose M k i v) := by
  refine CtO.of hl (by decide +kernel) (Nat.le_of_ble_eq_true rfl) (fun Ξ hnL C => ?_)
  show E Ξ n ρ J M 0 0 0 [(0, .ref (ρ (mO k))), (1, .int (nI i)), (2, .int v)] []
  have hin : vp_in (nI i) 40 := vp_in_nI (by omega) (by omega)
  have hcl : (nI i).toNatClampNeg = i := nI_clamp (by omega)
  refine e_aload_n (j := 0) C dX0_loseScrip_0 rfl rfl ?_
  refine e_get0 (k := 11) (kk0 := k) (ref := "ScripHollow$Miner") C hk (by decide) rfl rfl mw_78 dX0_loseScrip_1 ?_
  refine e_iload_n (j := 1) C dX0_loseScrip_4 rfl rfl ?_
  refine e_iald C (cnt_S hk) (fun cA => cell_S cA n ρ J k _) hin dX0_loseScrip_5 ?_
  refine e_iload_n (j := 2) C dX0_loseScrip_6 rfl rfl ?_
  refine e_min C hnL mw_255 mw_125 mw_99 mw_126 (Nat.le_of_ble_eq_true rfl) (Nat.le_of_ble_eq_true rfl) (Nat.le_of_ble_eq_true rfl) (Nat.le_of_ble_eq_true rfl) dX0_loseScrip_7 ?_
  refine e_topi (fun x3_10 ex3_10 => ?_)
  refine e_istore_n (ls2 := [(3, .int x3_10), (0, .ref (ρ (mO k))), (1, .int (nI i)), (2, .int v)]) C hnL dX0_loseScrip_10 rfl (by decide) rfl ?_
  rw [hcl] at ex3_10
  have ex3_10 : x3_10 = mn (M (mS k) i) v := ex3_10
  subst ex3_10
  refine e_aload_n (j := 1) C dX0_loseScrip_11 rfl rfl ?_
  refine e_get0 (k := 11) (kk0 := k) (ref := "ScripHollow$Miner") C hk (by decide) rfl rfl mw_78 dX0_loseScrip_12 ?_
  refine e_iload_n (j := 2) C dX0_loseScrip_15 rfl rfl ?_
  refine e_dup2 C dX0_loseScrip_16 rfl rfl ?_
  refine e_iald C (cnt_S hk) (fun cA => cell_S cA n ρ J k _) hin dX0_loseScrip_17 ?_
  refine e_iload_n (j := 0) C dX0_loseScrip_18 rfl rfl ?_
  refine e_isub C dX0_loseScrip_19 ?_
  refine e_iast C (cnt_S hk) (fun cA f => cell_S cA n ρ J k f) hin dX0_loseScrip_20 ?_
  refine e_aload_n (j := 1) C dX0_loseScrip_21 rfl rfl ?_
  refine e_dup C dX0_loseScrip_22 rfl ?_
  refine e_get0 (k := 13) (kk0 := k) (ref := "ScripHollow$Miner") C hk (by decide) rfl rfl mw_256 dX0_loseScrip_23 ?_
  refine e_iload_n (j := 0) C dX0_loseScrip_26 rfl rfl ?_
  refine e_iadd C dX0_loseScrip_27 ?_
  refine e_put0 (k := 13) (kk0 := k) (ref := "ScripHollow$Miner") (ty := .int) C hk (by decide) rfl rfl (by decide +kernel) rfl rfl rfl mw_256 dX0_loseScrip_28 ?_
  refine e_iload_n (j := 0) C dX0_loseScrip_31 rfl rfl ?_
  exact e_iret C rfl (Nat.le_of_ble_eq_true rfl) (Nat.le_of_ble_eq_true rfl) dX0_loseScrip_32 (pO.mk (by rw [hcl]; unfold lose; rw [up_ne ne_OS]))
set_option maxRecDepth 100000 in
set_option maxHeartbeats 4000000 in
theorem c_X0_loseLowestScrip {l : Launch} (hl : l.stackTraces = false) {n : Nat} {ρ : Nat → Nat} {J : Nat → Int64} {M : Mem} {k : Nat} (hk : k < n) {v : Int32} : CtO l yX0_loseLowestScrip cX0_loseLowestScrip 4 (some .int) 2 0 0 n ρ J M [.ref (ρ (mO k)), .int v] (.inr (some (.int (llow M k v 40).2)), (llow M k v 40).1) := by
  refine CtO.of hl (by decide +kernel) (Nat.le_of_ble_eq_true rfl) (fun Ξ hnL C => ?_)
  show E Ξ n ρ J M 0 0 0 [(0, .ref (ρ (mO k))), (1, .int v)] []
  have loop : ∀ (fuel j : Nat), j ≤ 40 → 41 ≤ j + fuel → E Ξ n ρ J (llow M k v j).1 0 0 4 [(3, .int (nI j)), (2, .int (llow M k v j).2), (0, .ref (ρ (mO k))), (1, .int v)] [] := by
    intro fuel
    induction fuel with
    | zero => intro j h1 h2; omega
    | succ fuel ih =>
      intro j h1 h2
      rcases Nat.lt_or_ge j 40 with hj | hj
      · refine e_iload_n (j := 0) C dX0_loseLowestScrip_4 rfl rfl ?_
        refine e_aload_n (j := 2) C dX0_loseLowestScrip_5 rfl rfl ?_
        refine e_get0 (k := 11) (kk0 := k) (ref := "ScripHollow$Miner") C hk (by decide) rfl rfl mw_78 dX0_loseLowestScrip_6 ?_
        refine e_ilen (v := 40) C (cnt_S hk) (fun cA => cell_S cA n ρ J k _) (by decide) dX0_loseLowestScrip_9 ?_
        refine e_icmp_ge (tgt := 30) C dX0_loseLowestScrip_10 (by decide) (fun c_10 => absurd c_10 (nI_ge (a := j) (b := 40) hj (by omega))) (fun c_10 => ?_)
        refine e_iload_n (j := 1) C dX0_loseLowestScrip_13 rfl rfl ?_
        refine e_aload_n (j := 2) C dX0_loseLowestScrip_14 rfl rfl ?_
        refine e_iload_n (j := 0) C dX0_loseLowestScrip_15 rfl rfl ?_
        refine e_iload_n (j := 3) C dX0_loseLowestScrip_16 rfl rfl ?_
        refine e_iload_n (j := 1) C dX0_loseLowestScrip_17 rfl rfl ?_
        refine e_isub C dX0_loseLowestScrip_18 ?_
        refine e_cV (i := (mO k)) (nA := 2) (Cn := RX0) C (c_X0_loseScrip hl hk (i := j) hj) rfl (cnt_O hk) (fun cA => cell_O cA n ρ J k _) rfl rfl mw_254 mw_310 mw_252 mw_253 mw_65 (by decide +kernel) (by decide) rfl rfl (Nat.le_of_ble_eq_true rfl) dX0_loseLowestScrip_19 (Nat.le_of_ble_eq_true rfl) (Nat.le_of_ble_eq_true rfl) ?_
        refine e_iadd C dX0_loseLowestScrip_22 ?_
        refine e_topi (fun x2_23 ex2_23 => ?_)
        refine e_istore_n (ls2 := [(2, .int x2_23), (3, .int (nI j)), (0, .ref (ρ (mO k))), (1, .int v)]) C hnL dX0_loseLowestScrip_23 rfl (by decide) rfl ?_
        obtain ⟨x3_24, ex3_24⟩ : ∃ z : Int32, z = (nI j) + 1 := ⟨_, rfl⟩
        refine e_iinc (j := 1) (v := x3_24) (ls2 := [(3, .int x3_24), (2, .int x2_23), (0, .ref (ρ (mO k))), (1, .int v)]) C hnL dX0_loseLowestScrip_24 rfl (by rw [ex3_24]; rfl) (by decide) rfl ?_
        refine e_goto (tgt := 4) C dX0_loseLowestScrip_27 (by decide) ?_
        rw [nI_1] at ex3_24
        subst ex2_23 ex3_24
        exact e_sub [0, 1, 2, 3] rfl (ih (j + 1) (by omega) (by omega))
      · have hj2 : j = 40 := by omega
        refine e_iload_n (j := 0) C dX0_loseLowestScrip_4 rfl rfl ?_
        refine e_aload_n (j := 2) C dX0_loseLowestScrip_5 rfl rfl ?_
        refine e_get0 (k := 11) (kk0 := k) (ref := "ScripHollow$Miner") C hk (by decide) rfl rfl mw_78 dX0_loseLowestScrip_6 ?_
        refine e_ilen (v := 40) C (cnt_S hk) (fun cA => cell_S cA n ρ J k _) (by decide) dX0_loseLowestScrip_9 ?_
        refine e_icmp_ge (tgt := 30) C dX0_loseLowestScrip_10 (by decide) (fun c_10 => ?_) (fun c_10 => absurd (nI_le (a := 40) (b := j) hj (by omega)) c_10)
        refine e_iload_n (j := 1) C dX0_loseLowestScrip_30 rfl rfl ?_
        exact e_iret C rfl (Nat.le_of_ble_eq_true rfl) (Nat.le_of_ble_eq_true rfl) dX0_loseLowestScrip_31 (pO.mk (by rw [hj2]))
  refine e_iconst (v := 0) C dX0_loseLowestScrip_0 (by decide) ?_
  refine e_istore_n (ls2 := [(2, .int 0), (0, .ref (ρ (mO k))), (1, .int v)]) C hnL dX0_loseLowestScrip_1 rfl (by decide) rfl ?_
  refine e_iconst (v := 0) C dX0_loseLowestScrip_2 (by decide) ?_
  refine e_istore_n (ls2 := [(3, .int 0), (2, .int 0), (0, .ref (ρ (mO k))), (1, .int v)]) C hnL dX0_loseLowestScrip_3 rfl (by decide) rfl ?_
  exact e_sub [0, 1, 2, 3] rfl (loop 41 0 (by omega) (by omega))
def inh0 (M : Mem) (k q : Nat) : Mem := up M (mO k) 5 (M (mO k) 5 + M (mO q) 5)
def inh1 (M : Mem) (k q : Nat) : Mem := inhG (inhS (inh0 M k q) k q 40) k q 4
def inh2 (M : Mem) (k q : Nat) : Mem := up (up (inh1 M k q) (mO k) 6 (inh1 M k q (mO k) 6 + inh1 M k q (mO q) 6)) (mO k) 7 (up (inh1 M k q) (mO k) 6 (inh1 M k q (mO k) 6 + inh1 M k q (mO q) 6) (mO k) 7 + up (inh1 M k q) (mO k) 6 (inh1 M k q (mO k) 6 + inh1 M k q (mO q) 6) (mO q) 7)
set_option maxRecDepth 100000 in
set_option maxHeartbeats 4000000 in
theorem c_X0_inherit {l : Launch} (hl : l.stackTraces = false) {n : Nat} {ρ : Nat → Nat} {J : Nat → Int64} {M : Mem} {k q : Nat} (hk : k < n) (hq : q < n) {v : Int32} : CtO l yX0_inherit cX0_inherit 4 none 1 0 0 n ρ J M [.ref (ρ (mO k)), .ref (ρ (mO q)), .int v] (.inr none, if v = 0 then inh1 M k q else inh2 M k q) := by
  refine CtO.of hl (by decide +kernel) (Nat.le_of_ble_eq_true rfl) (fun Ξ hnL C => ?_)
  show E Ξ n ρ J M 0 0 0 [(0, .ref (ρ (mO k))), (1, .ref (ρ (mO q))), (2, .int v)] []
  have loop2 : ∀ (fuel j : Nat), j ≤ 4 → 5 ≤ j + fuel → E Ξ n ρ J (inhG (inhS (inh0 M k q) k q 40) k q j) 0 0 43 [(3, .int (nI j)), (0, .ref (ρ (mO k))), (1, .ref (ρ (mO q))), (2, .int v)] [] := by
    intro fuel
    induction fuel with
    | zero => intro j h1 h2; omega
    | succ fuel ih =>
      intro j h1 h2
      have hcl : (nI j).toNatClampNeg = j := nI_clamp (by omega)
      rcases Nat.lt_or_ge j 4 with hj | hj
      · refine e_iload_n (j := 0) C dX0_inherit_43 rfl rfl ?_
        refine e_aload_n (j := 1) C dX0_inherit_44 rfl rfl ?_
        refine e_get0 (k := 10) (kk0 := k) (ref := "ScripHollow$Miner") C hk (by decide) rfl rfl mw_77 dX0_inherit_45 ?_
        refine e_ilen (v := 4) C (cnt_G hk) (fun cA => cell_G cA n ρ J k _) (by decide) dX0_inherit_48 ?_
        refine e_icmp_ge (tgt := 73) C dX0_inherit_49 (by decide) (fun c_49 => absurd c_49 (nI_ge (a := j) (b := 4) hj (by omega))) (fun c_49 => ?_)
        refine e_aload_n (j := 1) C dX0_inherit_52 rfl rfl ?_
        refine e_get0 (k := 10) (kk0 := k) (ref := "ScripHollow$Miner") C hk (by decide) rfl rfl mw_77 dX0_inherit_53 ?_
        refine e_iload_n (j := 0) C dX0_inherit_56 rfl rfl ?_
        refine e_dup2 C dX0_inherit_57 rfl rfl ?_
        refine e_iald C (cnt_G hk) (fun cA => cell_G cA n ρ J k _) (vp_in_nI (by omega) (by omega)) dX0_inherit_58 ?_
        refine e_aload_n (j := 2) C dX0_inherit_59 rfl rfl ?_
        refine e_get0 (k := 10) (kk0 := q) (ref := "ScripHollow$Miner") C hq (by decide) rfl rfl mw_77 dX0_inherit_60 ?_
        refine e_iload_n (j := 0) C dX0_inherit_63 rfl rfl ?_
        refine e_iald C (cnt_G hq) (fun cA => cell_G cA n ρ J q _) (vp_in_nI (by omega) (by omega)) dX0_inherit_64 ?_
        refine e_iadd C dX0_inherit_65 ?_
        refine e_iast C (cnt_G hk) (fun cA f => cell_G cA n ρ J k f) (vp_in_nI (by omega) (by omega)) dX0_inherit_66 ?_
        obtain ⟨x3_67, ex3_67⟩ : ∃ z : Int32, z = (nI j) + 1 := ⟨_, rfl⟩
        refine e_iinc (j := 0) (v := x3_67) (ls2 := [(3, .int x3_67), (0, .ref (ρ (mO k))), (1, .ref (ρ (mO q))), (2, .int v)]) C hnL dX0_inherit_67 rfl (by rw [ex3_67]; rfl) (by decide) rfl ?_
        refine e_goto (tgt := 43) C dX0_inherit_70 (by decide) ?_
        rw [nI_1] at ex3_67
        subst ex3_67
        rw [hcl]
        exact e_sub [0, 1, 2, 3] rfl (ih (j + 1) (by omega) (by omega))
      · have hj2 : j = 4 := by omega
        have hM : inhG (inhS (inh0 M k q) k q 40) k q j = inh1 M k q := by rw [hj2]; rfl
        rw [hM]
        refine e_iload_n (j := 0) C dX0_inherit_43 rfl rfl ?_
        refine e_aload_n (j := 1) C dX0_inherit_44 rfl rfl ?_
        refine e_get0 (k := 10) (kk0 := k) (ref := "ScripHollow$Miner") C hk (by decide) rfl rfl mw_77 dX0_inherit_45 ?_
        refine e_ilen (v := 4) C (cnt_G hk) (fun cA => cell_G cA n ρ J k _) (by decide) dX0_inherit_48 ?_
        refine e_icmp_ge (tgt := 73) C dX0_inherit_49 (by decide) (fun c_49 => ?_) (fun c_49 => absurd (nI_le (a := 4) (b := j) hj (by omega)) c_49)
        refine e_iload_n (j := 3) C dX0_inherit_73 rfl rfl ?_
        refine e_if_eq (tgt := 103) C dX0_inherit_74 (by decide) (fun c_74 => ?_) (fun c_74 => ?_)
        · exact e_vret C rfl (Nat.le_of_ble_eq_true rfl) (Nat.le_of_ble_eq_true rfl) dX0_inherit_103 (pO.mk (by first | rw [if_pos c_74] | (rw [if_neg c_74]; rfl)))
        · refine e_aload_n (j := 1) C dX0_inherit_77 rfl rfl ?_
          refine e_dup C dX0_inherit_78 rfl ?_
          refine e_get0 (k := 6) (kk0 := k) (ref := "ScripHollow$Miner") C hk (by decide) rfl rfl mw_427 dX0_inherit_79 ?_
          refine e_aload_n (j := 2) C dX0_inherit_82 rfl rfl ?_
          refine e_get0 (k := 6) (kk0 := q) (ref := "ScripHollow$Miner") C hq (by decide) rfl rfl mw_427 dX0_inherit_83 ?_
          refine e_iadd C dX0_inherit_86 ?_
          refine e_put0 (k := 6) (kk0 := k) (ref := "ScripHollow$Miner") (ty := .int) C hk (by decide) rfl rfl (by decide +kernel) rfl rfl rfl mw_427 dX0_inherit_87 ?_
          refine e_aload_n (j := 1) C dX0_inherit_90 rfl rfl ?_
          refine e_dup C dX0_inherit_91 rfl ?_
          refine e_get0 (k := 7) (kk0 := k) (ref := "ScripHollow$Miner") C hk (by decide) rfl rfl mw_428 dX0_inherit_92 ?_
          refine e_aload_n (j := 2) C dX0_inherit_95 rfl rfl ?_
          refine e_get0 (k := 7) (kk0 := q) (ref := "ScripHollow$Miner") C hq (by decide) rfl rfl mw_428 dX0_inherit_96 ?_
          refine e_iadd C dX0_inherit_99 ?_
          refine e_put0 (k := 7) (kk0 := k) (ref := "ScripHollow$Miner") (ty := .int) C hk (by decide) rfl rfl (by decide +kernel) rfl rfl rfl mw_428 dX0_inherit_100 ?_
          exact e_vret C rfl (Nat.le_of_ble_eq_true rfl) (Nat.le_of_ble_eq_true rfl) dX0_inherit_103 (pO.mk (by first | rw [if_pos c_74] | (rw [if_neg c_74]; rfl)))
  have loop : ∀ (fuel j : Nat), j ≤ 40 → 41 ≤ j + fuel → E Ξ n ρ J (inhS (inh0 M k q) k q j) 0 0 15 [(3, .int (nI j)), (0, .ref (ρ (mO k))), (1, .ref (ρ (mO q))), (2, .int v)] [] := by
    intro fuel
    induction fuel with
    | zero => intro j h1 h2; omega
    | succ fuel ih =>
      intro j h1 h2
      have hcl : (nI j).toNatClampNeg = j := nI_clamp (by omega)
      rcases Nat.lt_or_ge j 40 with hj | hj
      · refine e_iload_n (j := 0) C dX0_inherit_15 rfl rfl ?_
        refine e_aload_n (j := 1) C dX0_inherit_16 rfl rfl ?_
        refine e_get0 (k := 11) (kk0 := k) (ref := "ScripHollow$Miner") C hk (by decide) rfl rfl mw_78 dX0_inherit_17 ?_
        refine e_ilen (v := 40) C (cnt_S hk) (fun cA => cell_S cA n ρ J k _) (by decide) dX0_inherit_20 ?_
        refine e_icmp_ge (tgt := 41) C dX0_inherit_21 (by decide) (fun c_21 => absurd c_21 (nI_ge (a := j) (b := 40) hj (by omega))) (fun c_21 => ?_)
        refine e_aload_n (j := 1) C dX0_inherit_24 rfl rfl ?_
        refine e_iload_n (j := 0) C dX0_inherit_25 rfl rfl ?_
        refine e_aload_n (j := 2) C dX0_inherit_26 rfl rfl ?_
        refine e_get0 (k := 11) (kk0 := q) (ref := "ScripHollow$Miner") C hq (by decide) rfl rfl mw_78 dX0_inherit_27 ?_
        refine e_iload_n (j := 0) C dX0_inherit_30 rfl rfl ?_
        refine e_iald C (cnt_S hq) (fun cA => cell_S cA n ρ J q _) (vp_in_nI (by omega) (by omega)) dX0_inherit_31 ?_
        refine e_cV (i := (mO k)) (nA := 2) (Cn := RX0) C (c_X0_gainScrip hl hk (i := j) hj) rfl (cnt_O hk) (fun cA => cell_O cA n ρ J k _) rfl rfl mw_244 mw_429 mw_242 mw_243 mw_65 (by decide +kernel) (by decide) rfl rfl (Nat.le_of_ble_eq_true rfl) dX0_inherit_32 (Nat.le_of_ble_eq_true rfl) (Nat.le_of_ble_eq_true rfl) ?_
        obtain ⟨x3_35, ex3_35⟩ : ∃ z : Int32, z = (nI j) + 1 := ⟨_, rfl⟩
        refine e_iinc (j := 0) (v := x3_35) (ls2 := [(3, .int x3_35), (0, .ref (ρ (mO k))), (1, .ref (ρ (mO q))), (2, .int v)]) C hnL dX0_inherit_35 rfl (by rw [ex3_35]; rfl) (by decide) rfl ?_
        refine e_goto (tgt := 15) C dX0_inherit_38 (by decide) ?_
        rw [nI_1] at ex3_35
        subst ex3_35
        rw [hcl]
        exact e_sub [0, 1, 2, 3] rfl (ih (j + 1) (by omega) (by omega))
      · have hj2 : j = 40 := by omega
        rw [hj2]
        refine e_iload_n (j := 0) C dX0_inherit_15 rfl rfl ?_
        refine e_aload_n (j := 1) C dX0_inherit_16 rfl rfl ?_
        refine e_get0 (k := 11) (kk0 := k) (ref := "ScripHollow$Miner") C hk (by decide) rfl rfl mw_78 dX0_inherit_17 ?_
        refine e_ilen (v := 40) C (cnt_S hk) (fun cA => cell_S cA n ρ J k _) (by decide) dX0_inherit_20 ?_
        refine e_icmp_ge (tgt := 41) C dX0_inherit_21 (by decide) (fun c_21 => ?_) (fun c_21 => absurd (nI_le (a := 40) (b := 40) (by omega) (by omega)) c_21)
        refine e_iconst (v := 0) C dX0_inherit_41 (by decide) ?_
        refine e_istore_n (ls2 := [(3, .int 0), (0, .ref (ρ (mO k))), (1, .ref (ρ (mO q))), (2, .int v)]) C hnL dX0_inherit_42 rfl (by decide) rfl ?_
        exact e_sub [0, 1, 2, 3] rfl (loop2 5 0 (by omega) (by omega))
  refine e_aload_n (j := 0) C dX0_inherit_0 rfl rfl ?_
  refine e_dup C dX0_inherit_1 rfl ?_
  refine e_get0 (k := 5) (kk0 := k) (ref := "ScripHollow$Miner") C hk (by decide) rfl rfl mw_293 dX0_inherit_2 ?_
  refine e_aload_n (j := 1) C dX0_inherit_5 rfl rfl ?_
  refine e_get0 (k := 5) (kk0 := q) (ref := "ScripHollow$Miner") C hq (by decide) rfl rfl mw_293 dX0_inherit_6 ?_
  refine e_iadd C dX0_inherit_9 ?_
  refine e_put0 (k := 5) (kk0 := k) (ref := "ScripHollow$Miner") (ty := .int) C hk (by decide) rfl rfl (by decide +kernel) rfl rfl rfl mw_293 dX0_inherit_10 ?_
  refine e_iconst (v := 0) C dX0_inherit_13 (by decide) ?_
  refine e_istore_n (ls2 := [(3, .int 0), (0, .ref (ρ (mO k))), (1, .ref (ρ (mO q))), (2, .int v)]) C hnL dX0_inherit_14 rfl (by decide) rfl ?_
  exact e_sub [0, 1, 2, 3] rfl (loop 41 0 (by omega) (by omega))
def lv0 (M : Mem) (k : Nat) : Mem := up (up (up (up (up M (mO k) 1 0) (mO k) 4 0) (mO k) 5 0) (mO k) 6 0) (mO k) 7 0
def lv1 (M : Mem) (k : Nat) : Mem := (llow (lv0 M k) k (sm (M (mS k)) 40) 40).1
def lv2 (M : Mem) (k : Nat) : Mem := zG (lv1 M k) k 4
set_option maxRecDepth 100000 in
set_option maxHeartbeats 4000000 in
theorem c_X0_leaveAll {l : Launch} (hl : l.stackTraces = false) {n : Nat} {ρ : Nat → Nat} {J : Nat → Int64} {M : Mem} {k : Nat} (hk : k < n) : CtO l yX0_leaveAll cX0_leaveAll 2 none 3 0 0 n ρ J M [.ref (ρ (mO k))] (.inr none, lv2 M k) := by
  refine CtO.of hl (by decide +kernel) (Nat.le_of_ble_eq_true rfl) (fun Ξ hnL C => ?_)
  show E Ξ n ρ J M 0 0 0 [(0, .ref (ρ (mO k)))] []
  have loop : ∀ (fuel j : Nat), j ≤ 4 → 5 ≤ j + fuel → E Ξ n ρ J (zG (lv1 M k) k j) 0 0 36 [(1, .int (nI j)), (0, .ref (ρ (mO k)))] [] := by
    intro fuel
    induction fuel with
    | zero => intro j h1 h2; omega
    | succ fuel ih =>
      intro j h1 h2
      have hcl : (nI j).toNatClampNeg = j := nI_clamp (by omega)
      rcases Nat.lt_or_ge j 4 with hj | hj
      · refine e_iload_n (j := 0) C dX0_leaveAll_36 rfl rfl ?_
        refine e_aload_n (j := 1) C dX0_leaveAll_37 rfl rfl ?_
        refine e_get0 (k := 10) (kk0 := k) (ref := "ScripHollow$Miner") C hk (by decide) rfl rfl mw_77 dX0_leaveAll_38 ?_
        refine e_ilen (v := 4) C (cnt_G hk) (fun cA => cell_G cA n ρ J k _) (by decide) dX0_leaveAll_41 ?_
        refine e_icmp_ge (tgt := 58) C dX0_leaveAll_42 (by decide) (fun c_42 => absurd c_42 (nI_ge (a := j) (b := 4) hj (by omega))) (fun c_42 => ?_)
        refine e_aload_n (j := 1) C dX0_leaveAll_45 rfl rfl ?_
        refine e_get0 (k := 10) (kk0 := k) (ref := "ScripHollow$Miner") C hk (by decide) rfl rfl mw_77 dX0_leaveAll_46 ?_
        refine e_iload_n (j := 0) C dX0_leaveAll_49 rfl rfl ?_
        refine e_iconst (v := 0) C dX0_leaveAll_50 (by decide) ?_
        refine e_iast C (cnt_G hk) (fun cA f => cell_G cA n ρ J k f) (vp_in_nI (by omega) (by omega)) dX0_leaveAll_51 ?_
        obtain ⟨x1_52, ex1_52⟩ : ∃ z : Int32, z = (nI j) + 1 := ⟨_, rfl⟩
        refine e_iinc (j := 0) (v := x1_52) (ls2 := [(1, .int x1_52), (0, .ref (ρ (mO k)))]) C hnL dX0_leaveAll_52 rfl (by rw [ex1_52]; rfl) (by decide) rfl ?_
        refine e_goto (tgt := 36) C dX0_leaveAll_55 (by decide) ?_
        rw [nI_1] at ex1_52
        subst ex1_52
        rw [hcl]
        exact e_sub [0, 1] rfl (ih (j + 1) (by omega) (by omega))
      · have hj2 : j = 4 := by omega
        refine e_iload_n (j := 0) C dX0_leaveAll_36 rfl rfl ?_
        refine e_aload_n (j := 1) C dX0_leaveAll_37 rfl rfl ?_
        refine e_get0 (k := 10) (kk0 := k) (ref := "ScripHollow$Miner") C hk (by decide) rfl rfl mw_77 dX0_leaveAll_38 ?_
        refine e_ilen (v := 4) C (cnt_G hk) (fun cA => cell_G cA n ρ J k _) (by decide) dX0_leaveAll_41 ?_
        refine e_icmp_ge (tgt := 58) C dX0_leaveAll_42 (by decide) (fun c_42 => ?_) (fun c_42 => absurd (nI_le (a := 4) (b := j) hj (by omega)) c_42)
        exact e_vret C rfl (Nat.le_of_ble_eq_true rfl) (Nat.le_of_ble_eq_true rfl) dX0_leaveAll_58 (pO.mk (by rw [hj2]; rfl))
  refine e_aload_n (j := 0) C dX0_leaveAll_0 rfl rfl ?_
  refine e_iconst (v := 0) C dX0_leaveAll_1 (by decide) ?_
  refine e_put0 (k := 1) (kk0 := k) (ref := "ScripHollow$Miner") (ty := .boolean) C hk (by decide) rfl rfl (by decide +kernel) rfl rfl rfl mw_75 dX0_leaveAll_2 ?_
  refine e_aload_n (j := 0) C dX0_leaveAll_5 rfl rfl ?_
  refine e_iconst (v := 0) C dX0_leaveAll_6 (by decide) ?_
  refine e_put0 (k := 4) (kk0 := k) (ref := "ScripHollow$Miner") (ty := .int) C hk (by decide) rfl rfl (by decide +kernel) rfl rfl rfl mw_434 dX0_leaveAll_7 ?_
  refine e_aload_n (j := 0) C dX0_leaveAll_10 rfl rfl ?_
  refine e_iconst (v := 0) C dX0_leaveAll_11 (by decide) ?_
  refine e_put0 (k := 5) (kk0 := k) (ref := "ScripHollow$Miner") (ty := .int) C hk (by decide) rfl rfl (by decide +kernel) rfl rfl rfl mw_293 dX0_leaveAll_12 ?_
  refine e_aload_n (j := 0) C dX0_leaveAll_15 rfl rfl ?_
  refine e_iconst (v := 0) C dX0_leaveAll_16 (by decide) ?_
  refine e_put0 (k := 6) (kk0 := k) (ref := "ScripHollow$Miner") (ty := .int) C hk (by decide) rfl rfl (by decide +kernel) rfl rfl rfl mw_427 dX0_leaveAll_17 ?_
  refine e_aload_n (j := 0) C dX0_leaveAll_20 rfl rfl ?_
  refine e_iconst (v := 0) C dX0_leaveAll_21 (by decide) ?_
  refine e_put0 (k := 7) (kk0 := k) (ref := "ScripHollow$Miner") (ty := .int) C hk (by decide) rfl rfl (by decide +kernel) rfl rfl rfl mw_428 dX0_leaveAll_22 ?_
  refine e_aload_n (j := 0) C dX0_leaveAll_25 rfl rfl ?_
  refine e_aload_n (j := 0) C dX0_leaveAll_26 rfl rfl ?_
  refine e_cV (i := (mO k)) (nA := 0) (Cn := RX0) C (c_X0_allScrip hl hk) rfl (cnt_O hk) (fun cA => cell_O cA n ρ J k _) rfl rfl mw_297 mw_294 mw_295 mw_296 mw_65 (by decide +kernel) (by decide) rfl rfl (Nat.le_of_ble_eq_true rfl) dX0_leaveAll_27 (Nat.le_of_ble_eq_true rfl) (Nat.le_of_ble_eq_true rfl) ?_
  refine e_cV (i := (mO k)) (nA := 1) (Cn := RX0) C (c_X0_loseLowestScrip hl hk) rfl (cnt_O hk) (fun cA => cell_O cA n ρ J k _) rfl rfl mw_309 mw_435 mw_307 mw_308 mw_65 (by decide +kernel) (by decide) rfl rfl (Nat.le_of_ble_eq_true rfl) dX0_leaveAll_30 (Nat.le_of_ble_eq_true rfl) (Nat.le_of_ble_eq_true rfl) ?_
  refine e_pop C dX0_leaveAll_33 rfl ?_
  refine e_iconst (v := 0) C dX0_leaveAll_34 (by decide) ?_
  refine e_istore_n (ls2 := [(1, .int 0), (0, .ref (ρ (mO k)))]) C hnL dX0_leaveAll_35 rfl (by decide) rfl ?_
  refine e_mem (M' := zG (lv1 M k) k 0) ?_ (e_sub [0, 1] rfl (loop 5 0 (by omega) (by omega)))
  show (llow (lv0 M k) k (sm (lv0 M k (mS k)) 40) 40).1 = lv1 M k
  rw [show lv0 M k (mS k) = M (mS k) by unfold lv0; rw [up_ne ne_OS.symm, up_ne ne_OS.symm, up_ne ne_OS.symm, up_ne ne_OS.symm, up_ne ne_OS.symm]]
  rfl
set_option maxRecDepth 100000 in
set_option maxHeartbeats 4000000 in
theorem c_X1_open {l : Launch} (hl : l.stackTraces = false) {n : Nat} {ρ : Nat → Nat} {J : Nat → Int64} {M : Mem} {v : Int32} : CtO l yX1_open cX1_open 2 none 0 0 0 n ρ J M [.ref (ρ 3), .int v] (.inr none, up (up (up (up M 3 0 v) 3 1 0) 3 2 0) 3 3 0) := by
  refine CtO.of hl (by decide +kernel) (Nat.le_of_ble_eq_true rfl) (fun Ξ hnL C => ?_)
  show E Ξ n ρ J M 0 0 0 [(0, .ref (ρ 3)), (1, .int v)] []
  refine e_aload_n (j := 0) C dX1_open_0 rfl rfl ?_
  refine e_iload_n (j := 1) C dX1_open_1 rfl rfl ?_
  refine e_put1 (k := 0) (ref := "ScripHollow$Slip") (ty := .int) C (by decide) rfl rfl (by decide +kernel) rfl rfl rfl mw_216 dX1_open_2 ?_
  refine e_aload_n (j := 0) C dX1_open_5 rfl rfl ?_
  refine e_iconst (v := 0) C dX1_open_6 (by decide) ?_
  refine e_put1 (k := 1) (ref := "ScripHollow$Slip") (ty := .int) C (by decide) rfl rfl (by decide +kernel) rfl rfl rfl mw_217 dX1_open_7 ?_
  refine e_aload_n (j := 0) C dX1_open_10 rfl rfl ?_
  refine e_iconst (v := 0) C dX1_open_11 (by decide) ?_
  refine e_put1 (k := 2) (ref := "ScripHollow$Slip") (ty := .int) C (by decide) rfl rfl (by decide +kernel) rfl rfl rfl mw_218 dX1_open_12 ?_
  refine e_aload_n (j := 0) C dX1_open_15 rfl rfl ?_
  refine e_iconst (v := 0) C dX1_open_16 (by decide) ?_
  refine e_put1 (k := 3) (ref := "ScripHollow$Slip") (ty := .int) C (by decide) rfl rfl (by decide +kernel) rfl rfl rfl mw_219 dX1_open_17 ?_
  exact e_vret C rfl (Nat.le_of_ble_eq_true rfl) (Nat.le_of_ble_eq_true rfl) dX1_open_20 (pO.mk rfl)
def tk0 (M : Mem) (v : Int32) : Mem := up M 3 0 (M 3 0 - mn v (M 3 0))
def tk1 (M : Mem) (c v : Int32) : Mem := if c = 1 then up (tk0 M v) 3 1 (mn v (M 3 0)) else tk0 M v
def tk2 (M : Mem) (c v : Int32) : Mem := if c = 5 then up (tk1 M c v) 3 2 (mn v (M 3 0)) else tk1 M c v
def tk3 (M : Mem) (c v : Int32) : Mem := if c < 3 then tk2 M c v else up (tk2 M c v) 3 3 (tk2 M c v 3 3 + mn v (M 3 0))
set_option maxRecDepth 100000 in
set_option maxHeartbeats 4000000 in
theorem c_X1_take {l : Launch} (hl : l.stackTraces = false) {n : Nat} {ρ : Nat → Nat} {J : Nat → Int64} {M : Mem} {c v : Int32} : CtO l yX1_take cX1_take 4 none 1 0 0 n ρ J M [.ref (ρ 3), .int c, .int v] (.inr none, tk3 M c v) := by
  refine CtO.of hl (by decide +kernel) (Nat.le_of_ble_eq_true rfl) (fun Ξ hnL C => ?_)
  show E Ξ n ρ J M 0 0 0 [(0, .ref (ρ 3)), (1, .int c), (2, .int v)] []
  refine e_iload_n (j := 2) C dX1_take_0 rfl rfl ?_
  refine e_aload_n (j := 0) C dX1_take_1 rfl rfl ?_
  refine e_get1 (k := 0) (ref := "ScripHollow$Slip") C (by decide) rfl rfl mw_216 dX1_take_2 ?_
  refine e_min C hnL mw_229 mw_125 mw_99 mw_126 (Nat.le_of_ble_eq_true rfl) (Nat.le_of_ble_eq_true rfl) (Nat.le_of_ble_eq_true rfl) (Nat.le_of_ble_eq_true rfl) dX1_take_5 ?_
  refine e_topi (fun x3_8 ex3_8 => ?_)
  refine e_istore_n (ls2 := [(3, .int x3_8), (0, .ref (ρ 3)), (1, .int c), (2, .int v)]) C hnL dX1_take_8 rfl (by decide) rfl ?_
  have ex3_8 : x3_8 = mn v (M 3 0) := ex3_8
  subst ex3_8
  refine e_aload_n (j := 1) C dX1_take_9 rfl rfl ?_
  refine e_dup C dX1_take_10 rfl ?_
  refine e_get1 (k := 0) (ref := "ScripHollow$Slip") C (by decide) rfl rfl mw_216 dX1_take_11 ?_
  refine e_iload_n (j := 0) C dX1_take_14 rfl rfl ?_
  refine e_isub C dX1_take_15 ?_
  refine e_put1 (k := 0) (ref := "ScripHollow$Slip") (ty := .int) C (by decide) rfl rfl (by decide +kernel) rfl rfl rfl mw_216 dX1_take_16 ?_
  refine e_iload_n (j := 2) C dX1_take_19 rfl rfl ?_
  refine e_iconst (v := 1) C dX1_take_20 (by decide) ?_
  refine e_icmp_ne (tgt := 29) C dX1_take_21 (by decide) (fun c_21 => ?_) (fun c_21 => ?_)
  · refine e_iload_n (j := 2) C dX1_take_29 rfl rfl ?_
    refine e_iconst (v := 5) C dX1_take_30 (by decide) ?_
    refine e_icmp_ne (tgt := 39) C dX1_take_31 (by decide) (fun c_31 => ?_) (fun c_31 => ?_)
    · refine e_iload_n (j := 2) C dX1_take_39 rfl rfl ?_
      refine e_iconst (v := 3) C dX1_take_40 (by decide) ?_
      refine e_icmp_lt (tgt := 54) C dX1_take_41 (by decide) (fun c_41 => ?_) (fun c_41 => ?_)
      · exact e_vret C rfl (Nat.le_of_ble_eq_true rfl) (Nat.le_of_ble_eq_true rfl) dX1_take_54 (pO.mk (by unfold tk3 tk2 tk1; repeat (first | rw [if_pos (by assumption)] | rw [if_neg (by assumption)]); try rfl))
      · refine e_aload_n (j := 1) C dX1_take_44 rfl rfl ?_
        refine e_dup C dX1_take_45 rfl ?_
        refine e_get1 (k := 3) (ref := "ScripHollow$Slip") C (by decide) rfl rfl mw_219 dX1_take_46 ?_
        refine e_iload_n (j := 0) C dX1_take_49 rfl rfl ?_
        refine e_iadd C dX1_take_50 ?_
        refine e_put1 (k := 3) (ref := "ScripHollow$Slip") (ty := .int) C (by decide) rfl rfl (by decide +kernel) rfl rfl rfl mw_219 dX1_take_51 ?_
        exact e_vret C rfl (Nat.le_of_ble_eq_true rfl) (Nat.le_of_ble_eq_true rfl) dX1_take_54 (pO.mk (by unfold tk3 tk2 tk1; repeat (first | rw [if_pos (by assumption)] | rw [if_neg (by assumption)]); try rfl))
    · refine e_aload_n (j := 1) C dX1_take_34 rfl rfl ?_
      refine e_iload_n (j := 0) C dX1_take_35 rfl rfl ?_
      refine e_put1 (k := 2) (ref := "ScripHollow$Slip") (ty := .int) C (by decide) rfl rfl (by decide +kernel) rfl rfl rfl mw_218 dX1_take_36 ?_
      refine e_iload_n (j := 2) C dX1_take_39 rfl rfl ?_
      refine e_iconst (v := 3) C dX1_take_40 (by decide) ?_
      refine e_icmp_lt (tgt := 54) C dX1_take_41 (by decide) (fun c_41 => ?_) (fun c_41 => ?_)
      · exact e_vret C rfl (Nat.le_of_ble_eq_true rfl) (Nat.le_of_ble_eq_true rfl) dX1_take_54 (pO.mk (by unfold tk3 tk2 tk1; repeat (first | rw [if_pos (by assumption)] | rw [if_neg (by assumption)]); try rfl))
      · refine e_aload_n (j := 1) C dX1_take_44 rfl rfl ?_
        refine e_dup C dX1_take_45 rfl ?_
        refine e_get1 (k := 3) (ref := "ScripHollow$Slip") C (by decide) rfl rfl mw_219 dX1_take_46 ?_
        refine e_iload_n (j := 0) C dX1_take_49 rfl rfl ?_
        refine e_iadd C dX1_take_50 ?_
        refine e_put1 (k := 3) (ref := "ScripHollow$Slip") (ty := .int) C (by decide) rfl rfl (by decide +kernel) rfl rfl rfl mw_219 dX1_take_51 ?_
        exact e_vret C rfl (Nat.le_of_ble_eq_true rfl) (Nat.le_of_ble_eq_true rfl) dX1_take_54 (pO.mk (by unfold tk3 tk2 tk1; repeat (first | rw [if_pos (by assumption)] | rw [if_neg (by assumption)]); try rfl))
  · refine e_aload_n (j := 1) C dX1_take_24 rfl rfl ?_
    refine e_iload_n (j := 0) C dX1_take_25 rfl rfl ?_
    refine e_put1 (k := 1) (ref := "ScripHollow$Slip") (ty := .int) C (by decide) rfl rfl (by decide +kernel) rfl rfl rfl mw_217 dX1_take_26 ?_
    refine e_iload_n (j := 2) C dX1_take_29 rfl rfl ?_
    refine e_iconst (v := 5) C dX1_take_30 (by decide) ?_
    refine e_icmp_ne (tgt := 39) C dX1_take_31 (by decide) (fun c_31 => ?_) (fun c_31 => ?_)
    · refine e_iload_n (j := 2) C dX1_take_39 rfl rfl ?_
      refine e_iconst (v := 3) C dX1_take_40 (by decide) ?_
      refine e_icmp_lt (tgt := 54) C dX1_take_41 (by decide) (fun c_41 => ?_) (fun c_41 => ?_)
      · exact e_vret C rfl (Nat.le_of_ble_eq_true rfl) (Nat.le_of_ble_eq_true rfl) dX1_take_54 (pO.mk (by unfold tk3 tk2 tk1; repeat (first | rw [if_pos (by assumption)] | rw [if_neg (by assumption)]); try rfl))
      · refine e_aload_n (j := 1) C dX1_take_44 rfl rfl ?_
        refine e_dup C dX1_take_45 rfl ?_
        refine e_get1 (k := 3) (ref := "ScripHollow$Slip") C (by decide) rfl rfl mw_219 dX1_take_46 ?_
        refine e_iload_n (j := 0) C dX1_take_49 rfl rfl ?_
        refine e_iadd C dX1_take_50 ?_
        refine e_put1 (k := 3) (ref := "ScripHollow$Slip") (ty := .int) C (by decide) rfl rfl (by decide +kernel) rfl rfl rfl mw_219 dX1_take_51 ?_
        exact e_vret C rfl (Nat.le_of_ble_eq_true rfl) (Nat.le_of_ble_eq_true rfl) dX1_take_54 (pO.mk (by unfold tk3 tk2 tk1; repeat (first | rw [if_pos (by assumption)] | rw [if_neg (by assumption)]); try rfl))
    · refine e_aload_n (j := 1) C dX1_take_34 rfl rfl ?_
      refine e_iload_n (j := 0) C dX1_take_35 rfl rfl ?_
      refine e_put1 (k := 2) (ref := "ScripHollow$Slip") (ty := .int) C (by decide) rfl rfl (by decide +kernel) rfl rfl rfl mw_218 dX1_take_36 ?_
      refine e_iload_n (j := 2) C dX1_take_39 rfl rfl ?_
      refine e_iconst (v := 3) C dX1_take_40 (by decide) ?_
      refine e_icmp_lt (tgt := 54) C dX1_take_41 (by decide) (fun c_41 => ?_) (fun c_41 => ?_)
      · exact e_vret C rfl (Nat.le_of_ble_eq_true rfl) (Nat.le_of_ble_eq_true rfl) dX1_take_54 (pO.mk (by unfold tk3 tk2 tk1; repeat (first | rw [if_pos (by assumption)] | rw [if_neg (by assumption)]); try rfl))
      · refine e_aload_n (j := 1) C dX1_take_44 rfl rfl ?_
        refine e_dup C dX1_take_45 rfl ?_
        refine e_get1 (k := 3) (ref := "ScripHollow$Slip") C (by decide) rfl rfl mw_219 dX1_take_46 ?_
        refine e_iload_n (j := 0) C dX1_take_49 rfl rfl ?_
        refine e_iadd C dX1_take_50 ?_
        refine e_put1 (k := 3) (ref := "ScripHollow$Slip") (ty := .int) C (by decide) rfl rfl (by decide +kernel) rfl rfl rfl mw_219 dX1_take_51 ?_
        exact e_vret C rfl (Nat.le_of_ble_eq_true rfl) (Nat.le_of_ble_eq_true rfl) dX1_take_54 (pO.mk (by unfold tk3 tk2 tk1; repeat (first | rw [if_pos (by assumption)] | rw [if_neg (by assumption)]); try rfl))
