/-! The list of the miners, and the class's own guards. -/
section Nulls
variable {l : Launch} {R : Room} {cc : ByteArray} {own : String} {ret : Option FieldType} {mc ms : Nat} {tb : List ExceptionTableEntry} {post : Option Value → St → Prop} {exc : String → St → Prop} {Ξ : CT}
variable {n : Nat} {ρ : Nat → Nat} {J : Nat → Int64} {M : Mem} {a b pc : Nat} {ls : List (Nat × Value)} {st : List Value}
theorem e_null (C : Cx l R cc own ret mc ms tb post exc Ξ) (d : decode cc pc = .ok (.aconst_null, 1)) (kk : E Ξ n ρ J M a b (pc + 1) ls (.null :: st)) : E Ξ n ρ J M a b pc ls st := by
  obtain ⟨p, e, s, m, args, below, meth, c, D, cA, A, nL, rfl, hx, hb, hml, hown, hts, hK, hG, hr, hlk, htb, hA, hst⟩ := C
  intro H locs lsA hP hD hS hl
  exact lv_null hx hb d (kk H locs lsA hP hD hS hl)
end Nulls
abbrev IX : String := "java/lang/IndexOutOfBoundsException"
abbrev IA : String := "java/lang/IllegalArgumentException"
abbrev IS : String := "java/lang/IllegalStateException"
set_option maxRecDepth 100000 in
set_option maxHeartbeats 4000000 in
theorem c_JL_size {l : Launch} (hl : l.stackTraces = false) {n : Nat} {ρ : Nat → Nat} {J : Nat → Int64} {M : Mem}  : CtO l yJx4a65c_size_8abf5 cJx4a65c_size_8abf5 1 (some .int) 0 0 0 n ρ J M [.ref (ρ 1)] (.inr (some (.int (nI n))), M) := by
  refine CtO.of hl (by decide +kernel) (Nat.le_of_ble_eq_true rfl) (fun Ξ hnL C => ?_)
  show E Ξ n ρ J M 0 0 0 [(0, .ref (ρ 1))] []
  refine e_aload_n (j := 0) C dJx4a65c_size_8abf5_0 rfl rfl ?_
  refine e_getL (k := 2) (ref := "java/util/ArrayList") C (by decide) rfl rfl mw_70 dJx4a65c_size_8abf5_1 ?_
  exact e_iret C rfl (Nat.le_of_ble_eq_true rfl) (Nat.le_of_ble_eq_true rfl) dJx4a65c_size_8abf5_4 (pO.mk rfl)
set_option maxRecDepth 100000 in
set_option maxHeartbeats 4000000 in
theorem c_J3_check {l : Launch} (hl : l.stackTraces = false) {n : Nat} {ρ : Nat → Nat} {J : Nat → Int64} {M : Mem} {x y : Int32} (h0 : ¬ x < 0) (h1 : x < y) : CtO l yJ3_checkIndex_8e157 cJ3_checkIndex_8e157 3 (some .int) 0 0 0 n ρ J M [.int x, .int y, .null] (.inr (some (.int x)), M) := by
  refine CtO.of hl (by decide +kernel) (Nat.le_of_ble_eq_true rfl) (fun Ξ hnL C => ?_)
  show E Ξ n ρ J M 0 0 0 [(0, .int x), (1, .int y), (2, .null)] []
  refine e_iload_n (j := 0) C dJ3_checkIndex_8e157_0 rfl rfl ?_
  refine e_if_lt (tgt := 9) C dJ3_checkIndex_8e157_1 (by decide) (fun c_1 => absurd c_1 h0) (fun c_1 => ?_)
  refine e_iload_n (j := 0) C dJ3_checkIndex_8e157_4 rfl rfl ?_
  refine e_iload_n (j := 1) C dJ3_checkIndex_8e157_5 rfl rfl ?_
  refine e_icmp_lt (tgt := 16) C dJ3_checkIndex_8e157_6 (by decide) (fun c_6 => ?_) (fun c_6 => absurd h1 c_6)
  refine e_iload_n (j := 0) C dJ3_checkIndex_8e157_16 rfl rfl ?_
  exact e_iret C rfl (Nat.le_of_ble_eq_true rfl) (Nat.le_of_ble_eq_true rfl) dJ3_checkIndex_8e157_17 (pO.mk rfl)
set_option maxRecDepth 100000 in
set_option maxHeartbeats 4000000 in
theorem c_J15_check {l : Launch} (hl : l.stackTraces = false) {n : Nat} {ρ : Nat → Nat} {J : Nat → Int64} {M : Mem} {x y : Int32} (h0 : ¬ x < 0) (h1 : x < y) : CtO l yJ15_checkIndex_7cf53 cJ15_checkIndex_7cf53 2 (some .int) 1 0 0 n ρ J M [.int x, .int y] (.inr (some (.int x)), M) := by
  refine CtO.of hl (by decide +kernel) (Nat.le_of_ble_eq_true rfl) (fun Ξ hnL C => ?_)
  show E Ξ n ρ J M 0 0 0 [(0, .int x), (1, .int y)] []
  refine e_iload_n (j := 0) C dJ15_checkIndex_7cf53_0 rfl rfl ?_
  refine e_iload_n (j := 1) C dJ15_checkIndex_7cf53_1 rfl rfl ?_
  refine e_null C dJ15_checkIndex_7cf53_2 ?_
  refine e_cS (nA := 3) C (c_J3_check hl h0 h1) rfl mw_168 mw_165 mw_166 mw_167 (by decide +kernel) (by decide) rfl rfl (Nat.le_of_ble_eq_true rfl) dJ15_checkIndex_7cf53_3 (Nat.le_of_ble_eq_true rfl) (Nat.le_of_ble_eq_true rfl) ?_
  exact e_iret C rfl (Nat.le_of_ble_eq_true rfl) (Nat.le_of_ble_eq_true rfl) dJ15_checkIndex_7cf53_6 (pO.mk rfl)
set_option maxRecDepth 100000 in
set_option maxHeartbeats 4000000 in
theorem c_JL_ed {l : Launch} (hl : l.stackTraces = false) {n : Nat} {ρ : Nat → Nat} {J : Nat → Int64} {M : Mem} {k : Nat} (hk : k < n) (hn : n ≤ 10) : CtO l yJx4a65c_elementData_915e3 cJx4a65c_elementData_915e3 2 (some (.object "java/lang/Object")) 0 0 0 n ρ J M [.ref (ρ 1), .int (nI k)] (.inr (some (.ref (ρ (mO k)))), M) := by
  refine CtO.of hl (by decide +kernel) (Nat.le_of_ble_eq_true rfl) (fun Ξ hnL C => ?_)
  show E Ξ n ρ J M 0 0 0 [(0, .ref (ρ 1)), (1, .int (nI k))] []
  refine e_aload_n (j := 0) C dJx4a65c_elementData_915e3_0 rfl rfl ?_
  refine e_getL (k := 1) (ref := "java/util/ArrayList") C (by decide) rfl rfl mw_43 dJx4a65c_elementData_915e3_1 ?_
  refine e_iload_n (j := 1) C dJx4a65c_elementData_915e3_4 rfl rfl ?_
  refine e_aald (k := k) C hk (by omega) rfl dJx4a65c_elementData_915e3_5 ?_
  exact e_aret C rfl (Nat.le_of_ble_eq_true rfl) (Nat.le_of_ble_eq_true rfl) dJx4a65c_elementData_915e3_6 (pO.mk rfl)
set_option maxRecDepth 100000 in
set_option maxHeartbeats 4000000 in
theorem c_JL_get {l : Launch} (hl : l.stackTraces = false) {n : Nat} {ρ : Nat → Nat} {J : Nat → Int64} {M : Mem} {k : Nat} (hk : k < n) (hn : n ≤ 10) : CtO l yJx4a65c_get_915e3 cJx4a65c_get_915e3 2 (some (.object "java/lang/Object")) 2 0 0 n ρ J M [.ref (ρ 1), .int (nI k)] (.inr (some (.ref (ρ (mO k)))), M) := by
  refine CtO.of hl (by decide +kernel) (Nat.le_of_ble_eq_true rfl) (fun Ξ hnL C => ?_)
  show E Ξ n ρ J M 0 0 0 [(0, .ref (ρ 1)), (1, .int (nI k))] []
  refine e_iload_n (j := 1) C dJx4a65c_get_915e3_0 rfl rfl ?_
  refine e_aload_n (j := 0) C dJx4a65c_get_915e3_1 rfl rfl ?_
  refine e_getL (k := 2) (ref := "java/util/ArrayList") C (by decide) rfl rfl mw_70 dJx4a65c_get_915e3_2 ?_
  refine e_cS (nA := 2) C (c_J15_check hl (nI_pos (by omega)) (nI_lt hk (by omega))) rfl mw_164 mw_161 mw_162 mw_163 (by decide +kernel) (by decide) rfl rfl (Nat.le_of_ble_eq_true rfl) dJx4a65c_get_915e3_5 (Nat.le_of_ble_eq_true rfl) (Nat.le_of_ble_eq_true rfl) ?_
  refine e_pop C dJx4a65c_get_915e3_8 rfl ?_
  refine e_aload_n (j := 0) C dJx4a65c_get_915e3_9 rfl rfl ?_
  refine e_iload_n (j := 1) C dJx4a65c_get_915e3_10 rfl rfl ?_
  refine e_cV (i := 1) (nA := 1) (Cn := RJx4a65c) C (c_JL_ed hl hk hn) rfl (cnt_fix (by decide)) (fun _ => rfl) rfl rfl mw_172 mw_169 mw_170 mw_171 mw_23 (by decide +kernel) (by decide) rfl rfl (Nat.le_of_ble_eq_true rfl) dJx4a65c_get_915e3_11 (Nat.le_of_ble_eq_true rfl) (Nat.le_of_ble_eq_true rfl) ?_
  exact e_aret C rfl (Nat.le_of_ble_eq_true rfl) (Nat.le_of_ble_eq_true rfl) dJx4a65c_get_915e3_14 (pO.mk rfl)
set_option maxRecDepth 100000 in
set_option maxHeartbeats 4000000 in
theorem c_X2_requireIndex {l : Launch} (hl : l.stackTraces = false) {n : Nat} {ρ : Nat → Nat} {J : Nat → Int64} {M : Mem} {x y : Int32} (h0 : ¬ x < 0) (h1 : x < y) : CtO l yX2_requireIndex cX2_requireIndex 2 none 6 1 6 n ρ J M [.int x, .int y] (.inr none, M) := by
  refine CtO.of hl (by decide +kernel) (Nat.le_of_ble_eq_true rfl) (fun Ξ hnL C => ?_)
  show E Ξ n ρ J M 0 0 0 [(0, .int x), (1, .int y)] []
  refine e_iload_n (j := 0) C dX2_requireIndex_0 rfl rfl ?_
  refine e_if_lt (tgt := 9) C dX2_requireIndex_1 (by decide) (fun c_1 => absurd c_1 h0) (fun c_1 => ?_)
  refine e_iload_n (j := 0) C dX2_requireIndex_4 rfl rfl ?_
  refine e_iload_n (j := 1) C dX2_requireIndex_5 rfl rfl ?_
  refine e_icmp_lt (tgt := 19) C dX2_requireIndex_6 (by decide) (fun c_6 => ?_) (fun c_6 => absurd h1 c_6)
  exact e_vret C rfl (Nat.le_of_ble_eq_true rfl) (Nat.le_of_ble_eq_true rfl) dX2_requireIndex_19 (pO.mk rfl)
set_option maxRecDepth 100000 in
set_option maxHeartbeats 4000000 in
theorem c_X2_requireIndex_x {l : Launch} (hl : l.stackTraces = false) {n : Nat} {ρ : Nat → Nat} {J : Nat → Int64} {M : Mem} {x y : Int32} (h : x < 0 ∨ y ≤ x) : CtO l yX2_requireIndex cX2_requireIndex 2 none 6 1 6 n ρ J M [.int x, .int y] (.inl IX, M) := by
  refine CtO.of hl (by decide +kernel) (Nat.le_of_ble_eq_true rfl) (fun Ξ hnL C => ?_)
  show E Ξ n ρ J M 0 0 0 [(0, .int x), (1, .int y)] []
  rcases h with h | h
  · refine e_iload_n (j := 0) C dX2_requireIndex_0 rfl rfl ?_
    refine e_if_lt (tgt := 9) C dX2_requireIndex_1 (by decide) (fun c_1 => ?_) (fun c_1 => absurd h c_1)
    exact e_throw (text := "there is none of this number") C th_IX mw_155 mw_156 (by decide) rfl rfl dX2_requireIndex_9 dX2_requireIndex_12 dX2_requireIndex_13 dX2_requireIndex_15 dX2_requireIndex_18 (by decide) (Nat.le_of_ble_eq_true rfl) (Nat.le_of_ble_eq_true rfl) (Nat.le_of_ble_eq_true rfl) (Nat.le_of_ble_eq_true rfl) (Nat.le_of_ble_eq_true rfl) (xO.mk rfl)
  · by_cases h0 : x < 0
    · refine e_iload_n (j := 0) C dX2_requireIndex_0 rfl rfl ?_
      refine e_if_lt (tgt := 9) C dX2_requireIndex_1 (by decide) (fun c_1 => ?_) (fun c_1 => absurd h0 c_1)
      exact e_throw (text := "there is none of this number") C th_IX mw_155 mw_156 (by decide) rfl rfl dX2_requireIndex_9 dX2_requireIndex_12 dX2_requireIndex_13 dX2_requireIndex_15 dX2_requireIndex_18 (by decide) (Nat.le_of_ble_eq_true rfl) (Nat.le_of_ble_eq_true rfl) (Nat.le_of_ble_eq_true rfl) (Nat.le_of_ble_eq_true rfl) (Nat.le_of_ble_eq_true rfl) (xO.mk rfl)
    · refine e_iload_n (j := 0) C dX2_requireIndex_0 rfl rfl ?_
      refine e_if_lt (tgt := 9) C dX2_requireIndex_1 (by decide) (fun c_1 => absurd c_1 h0) (fun c_1 => ?_)
      refine e_iload_n (j := 0) C dX2_requireIndex_4 rfl rfl ?_
      refine e_iload_n (j := 1) C dX2_requireIndex_5 rfl rfl ?_
      refine e_icmp_lt (tgt := 19) C dX2_requireIndex_6 (by decide) (fun c_6 => absurd c_6 (Int32.not_lt.mpr h)) (fun c_6 => ?_)
      exact e_throw (text := "there is none of this number") C th_IX mw_155 mw_156 (by decide) rfl rfl dX2_requireIndex_9 dX2_requireIndex_12 dX2_requireIndex_13 dX2_requireIndex_15 dX2_requireIndex_18 (by decide) (Nat.le_of_ble_eq_true rfl) (Nat.le_of_ble_eq_true rfl) (Nat.le_of_ble_eq_true rfl) (Nat.le_of_ble_eq_true rfl) (Nat.le_of_ble_eq_true rfl) (xO.mk rfl)
set_option maxRecDepth 100000 in
set_option maxHeartbeats 4000000 in
theorem c_X2_requireRange {l : Launch} (hl : l.stackTraces = false) {n : Nat} {ρ : Nat → Nat} {J : Nat → Int64} {M : Mem} {v lo hi : Int32} (h0 : ¬ v < lo) (h1 : v ≤ hi) : CtO l yX2_requireRange cX2_requireRange 3 none 6 1 6 n ρ J M [.int v, .int lo, .int hi] (.inr none, M) := by
  refine CtO.of hl (by decide +kernel) (Nat.le_of_ble_eq_true rfl) (fun Ξ hnL C => ?_)
  show E Ξ n ρ J M 0 0 0 [(0, .int v), (1, .int lo), (2, .int hi)] []
  refine e_iload_n (j := 0) C dX2_requireRange_0 rfl rfl ?_
  refine e_iload_n (j := 1) C dX2_requireRange_1 rfl rfl ?_
  refine e_icmp_lt (tgt := 10) C dX2_requireRange_2 (by decide) (fun c_2 => absurd c_2 h0) (fun c_2 => ?_)
  refine e_iload_n (j := 0) C dX2_requireRange_5 rfl rfl ?_
  refine e_iload_n (j := 2) C dX2_requireRange_6 rfl rfl ?_
  refine e_icmp_le (tgt := 20) C dX2_requireRange_7 (by decide) (fun c_7 => ?_) (fun c_7 => absurd h1 c_7)
  exact e_vret C rfl (Nat.le_of_ble_eq_true rfl) (Nat.le_of_ble_eq_true rfl) dX2_requireRange_20 (pO.mk rfl)
set_option maxRecDepth 100000 in
set_option maxHeartbeats 4000000 in
theorem c_X2_requireRange_x {l : Launch} (hl : l.stackTraces = false) {n : Nat} {ρ : Nat → Nat} {J : Nat → Int64} {M : Mem} {v lo hi : Int32} (h : v < lo ∨ hi < v) : CtO l yX2_requireRange cX2_requireRange 3 none 6 1 6 n ρ J M [.int v, .int lo, .int hi] (.inl IA, M) := by
  refine CtO.of hl (by decide +kernel) (Nat.le_of_ble_eq_true rfl) (fun Ξ hnL C => ?_)
  show E Ξ n ρ J M 0 0 0 [(0, .int v), (1, .int lo), (2, .int hi)] []
  rcases h with h | h
  · refine e_iload_n (j := 0) C dX2_requireRange_0 rfl rfl ?_
    refine e_iload_n (j := 1) C dX2_requireRange_1 rfl rfl ?_
    refine e_icmp_lt (tgt := 10) C dX2_requireRange_2 (by decide) (fun c_2 => ?_) (fun c_2 => absurd h c_2)
    exact e_throw (text := "out of its range") C th_IA mw_176 mw_177 (by decide) rfl rfl dX2_requireRange_10 dX2_requireRange_13 dX2_requireRange_14 dX2_requireRange_16 dX2_requireRange_19 (by decide) (Nat.le_of_ble_eq_true rfl) (Nat.le_of_ble_eq_true rfl) (Nat.le_of_ble_eq_true rfl) (Nat.le_of_ble_eq_true rfl) (Nat.le_of_ble_eq_true rfl) (xO.mk rfl)
  · by_cases h0 : v < lo
    · refine e_iload_n (j := 0) C dX2_requireRange_0 rfl rfl ?_
      refine e_iload_n (j := 1) C dX2_requireRange_1 rfl rfl ?_
      refine e_icmp_lt (tgt := 10) C dX2_requireRange_2 (by decide) (fun c_2 => ?_) (fun c_2 => absurd h0 c_2)
      exact e_throw (text := "out of its range") C th_IA mw_176 mw_177 (by decide) rfl rfl dX2_requireRange_10 dX2_requireRange_13 dX2_requireRange_14 dX2_requireRange_16 dX2_requireRange_19 (by decide) (Nat.le_of_ble_eq_true rfl) (Nat.le_of_ble_eq_true rfl) (Nat.le_of_ble_eq_true rfl) (Nat.le_of_ble_eq_true rfl) (Nat.le_of_ble_eq_true rfl) (xO.mk rfl)
    · refine e_iload_n (j := 0) C dX2_requireRange_0 rfl rfl ?_
      refine e_iload_n (j := 1) C dX2_requireRange_1 rfl rfl ?_
      refine e_icmp_lt (tgt := 10) C dX2_requireRange_2 (by decide) (fun c_2 => absurd c_2 h0) (fun c_2 => ?_)
      refine e_iload_n (j := 0) C dX2_requireRange_5 rfl rfl ?_
      refine e_iload_n (j := 2) C dX2_requireRange_6 rfl rfl ?_
      refine e_icmp_le (tgt := 20) C dX2_requireRange_7 (by decide) (fun c_7 => absurd c_7 (Int32.not_le.mpr h)) (fun c_7 => ?_)
      exact e_throw (text := "out of its range") C th_IA mw_176 mw_177 (by decide) rfl rfl dX2_requireRange_10 dX2_requireRange_13 dX2_requireRange_14 dX2_requireRange_16 dX2_requireRange_19 (by decide) (Nat.le_of_ble_eq_true rfl) (Nat.le_of_ble_eq_true rfl) (Nat.le_of_ble_eq_true rfl) (Nat.le_of_ble_eq_true rfl) (Nat.le_of_ble_eq_true rfl) (xO.mk rfl)
set_option maxRecDepth 100000 in
set_option maxHeartbeats 4000000 in
theorem c_X2_requireAlive {l : Launch} (hl : l.stackTraces = false) {n : Nat} {ρ : Nat → Nat} {J : Nat → Int64} {M : Mem} {k : Nat} (hk : k < n) (h : ¬ M (mO k) 0 = 0) : CtO l yX2_requireAlive cX2_requireAlive 1 none 6 1 6 n ρ J M [.ref (ρ (mO k))] (.inr none, M) := by
  refine CtO.of hl (by decide +kernel) (Nat.le_of_ble_eq_true rfl) (fun Ξ hnL C => ?_)
  show E Ξ n ρ J M 0 0 0 [(0, .ref (ρ (mO k)))] []
  refine e_aload_n (j := 0) C dX2_requireAlive_0 rfl rfl ?_
  refine e_get0 (k := 0) (kk0 := k) (ref := "ScripHollow$Miner") C hk (by decide) rfl rfl mw_181 dX2_requireAlive_1 ?_
  refine e_if_ne (tgt := 17) C dX2_requireAlive_4 (by decide) (fun c_4 => ?_) (fun c_4 => absurd c_4 h)
  exact e_vret C rfl (Nat.le_of_ble_eq_true rfl) (Nat.le_of_ble_eq_true rfl) dX2_requireAlive_17 (pO.mk rfl)
set_option maxRecDepth 100000 in
set_option maxHeartbeats 4000000 in
theorem c_X2_requireAlive_x {l : Launch} (hl : l.stackTraces = false) {n : Nat} {ρ : Nat → Nat} {J : Nat → Int64} {M : Mem} {k : Nat} (hk : k < n) (h : M (mO k) 0 = 0) : CtO l yX2_requireAlive cX2_requireAlive 1 none 6 1 6 n ρ J M [.ref (ρ (mO k))] (.inl IS, M) := by
  refine CtO.of hl (by decide +kernel) (Nat.le_of_ble_eq_true rfl) (fun Ξ hnL C => ?_)
  show E Ξ n ρ J M 0 0 0 [(0, .ref (ρ (mO k)))] []
  refine e_aload_n (j := 0) C dX2_requireAlive_0 rfl rfl ?_
  refine e_get0 (k := 0) (kk0 := k) (ref := "ScripHollow$Miner") C hk (by decide) rfl rfl mw_181 dX2_requireAlive_1 ?_
  refine e_if_ne (tgt := 17) C dX2_requireAlive_4 (by decide) (fun c_4 => absurd h c_4) (fun c_4 => ?_)
  exact e_throw (text := "the miner is not alive") C th_IS mw_61 mw_62 (by decide) rfl rfl dX2_requireAlive_7 dX2_requireAlive_10 dX2_requireAlive_11 dX2_requireAlive_13 dX2_requireAlive_16 (by decide) (Nat.le_of_ble_eq_true rfl) (Nat.le_of_ble_eq_true rfl) (Nat.le_of_ble_eq_true rfl) (Nat.le_of_ble_eq_true rfl) (Nat.le_of_ble_eq_true rfl) (xO.mk rfl)
set_option maxRecDepth 100000 in
set_option maxHeartbeats 4000000 in
theorem c_X2_minerAt {l : Launch} (hl : l.stackTraces = false) {n : Nat} {ρ : Nat → Nat} {J : Nat → Int64} {M : Mem} {k : Nat} (hk : k < n) (hn : n ≤ 10) : CtO l yX2_minerAt cX2_minerAt 2 (some (.object "ScripHollow$Miner")) 7 1 6 n ρ J M [.ref (ρ 0), .int (nI k)] (.inr (some (.ref (ρ (mO k)))), M) := by
  refine CtO.of hl (by decide +kernel) (Nat.le_of_ble_eq_true rfl) (fun Ξ hnL C => ?_)
  show E Ξ n ρ J M 0 0 0 [(0, .ref (ρ 0)), (1, .int (nI k))] []
  refine e_iload_n (j := 1) C dX2_minerAt_0 rfl rfl ?_
  refine e_aload_n (j := 0) C dX2_minerAt_1 rfl rfl ?_
  refine e_get2 (k := 0) (ref := "ScripHollow") C (by decide) rfl rfl mw_24 dX2_minerAt_2 ?_
  refine e_cV (i := 1) (nA := 0) (Cn := RJx4a65c) C (c_JL_size hl) rfl (cnt_fix (by decide)) (fun _ => rfl) rfl rfl mw_69 mw_66 mw_67 mw_68 mw_23 (by decide +kernel) (by decide) rfl rfl (Nat.le_of_ble_eq_true rfl) dX2_minerAt_5 (Nat.le_of_ble_eq_true rfl) (Nat.le_of_ble_eq_true rfl) ?_
  refine e_cS (nA := 2) C (c_X2_requireIndex hl (nI_pos (by omega)) (nI_lt hk (by omega))) rfl mw_154 mw_152 mw_153 mw_12 (by decide +kernel) (by decide) rfl rfl (Nat.le_of_ble_eq_true rfl) dX2_minerAt_8 (Nat.le_of_ble_eq_true rfl) (Nat.le_of_ble_eq_true rfl) ?_
  refine e_aload_n (j := 0) C dX2_minerAt_11 rfl rfl ?_
  refine e_get2 (k := 0) (ref := "ScripHollow") C (by decide) rfl rfl mw_24 dX2_minerAt_12 ?_
  refine e_iload_n (j := 1) C dX2_minerAt_15 rfl rfl ?_
  refine e_cV (i := 1) (nA := 1) (Cn := RJx4a65c) C (c_JL_get hl hk hn) rfl (cnt_fix (by decide)) (fun _ => rfl) rfl rfl mw_160 mw_157 mw_158 mw_159 mw_23 (by decide +kernel) (by decide) rfl rfl (Nat.le_of_ble_eq_true rfl) dX2_minerAt_16 (Nat.le_of_ble_eq_true rfl) (Nat.le_of_ble_eq_true rfl) ?_
  refine e_castM C hk mw_63 dX2_minerAt_19 ?_
  exact e_aret C rfl (Nat.le_of_ble_eq_true rfl) (Nat.le_of_ble_eq_true rfl) dX2_minerAt_22 (pO.mk rfl)
set_option maxRecDepth 100000 in
set_option maxHeartbeats 4000000 in
theorem c_X2_minerAt_x {l : Launch} (hl : l.stackTraces = false) {n : Nat} {ρ : Nat → Nat} {J : Nat → Int64} {M : Mem} {x : Int32} (h : x < 0 ∨ nI n ≤ x) : CtO l yX2_minerAt cX2_minerAt 2 (some (.object "ScripHollow$Miner")) 7 1 6 n ρ J M [.ref (ρ 0), .int x] (.inl IX, M) := by
  refine CtO.of hl (by decide +kernel) (Nat.le_of_ble_eq_true rfl) (fun Ξ hnL C => ?_)
  show E Ξ n ρ J M 0 0 0 [(0, .ref (ρ 0)), (1, .int x)] []
  refine e_iload_n (j := 1) C dX2_minerAt_0 rfl rfl ?_
  refine e_aload_n (j := 0) C dX2_minerAt_1 rfl rfl ?_
  refine e_get2 (k := 0) (ref := "ScripHollow") C (by decide) rfl rfl mw_24 dX2_minerAt_2 ?_
  refine e_cV (i := 1) (nA := 0) (Cn := RJx4a65c) C (c_JL_size hl) rfl (cnt_fix (by decide)) (fun _ => rfl) rfl rfl mw_69 mw_66 mw_67 mw_68 mw_23 (by decide +kernel) (by decide) rfl rfl (Nat.le_of_ble_eq_true rfl) dX2_minerAt_5 (Nat.le_of_ble_eq_true rfl) (Nat.le_of_ble_eq_true rfl) ?_
  exact e_cSx (nA := 2) C (c_X2_requireIndex_x hl h) rfl mw_154 mw_152 mw_153 mw_12 (by decide +kernel) (by decide) rfl rfl (Nat.le_of_ble_eq_true rfl) dX2_minerAt_8 (Nat.le_of_ble_eq_true rfl) (Nat.le_of_ble_eq_true rfl) rfl
set_option maxRecDepth 100000 in
set_option maxHeartbeats 4000000 in
theorem c_X2_requireGoods {l : Launch} (hl : l.stackTraces = false) {n : Nat} {ρ : Nat → Nat} {J : Nat → Int64} {M : Mem} {g : Nat} (hg : g < 4) : CtO l yX2_requireGoods cX2_requireGoods 1 none 7 1 6 n ρ J M [.int (nI g)] (.inr none, M) := by
  refine CtO.of hl (by decide +kernel) (Nat.le_of_ble_eq_true rfl) (fun Ξ hnL C => ?_)
  show E Ξ n ρ J M 0 0 0 [(0, .int (nI g))] []
  refine e_iload_n (j := 0) C dX2_requireGoods_0 rfl rfl ?_
  refine e_iconst (v := 4) C dX2_requireGoods_1 (by decide) ?_
  refine e_cS (nA := 2) C (c_X2_requireIndex hl (nI_pos (by omega)) (nI_lt (b := 4) hg (by omega))) rfl mw_154 mw_152 mw_153 mw_12 (by decide +kernel) (by decide) rfl rfl (Nat.le_of_ble_eq_true rfl) dX2_requireGoods_2 (Nat.le_of_ble_eq_true rfl) (Nat.le_of_ble_eq_true rfl) ?_
  exact e_vret C rfl (Nat.le_of_ble_eq_true rfl) (Nat.le_of_ble_eq_true rfl) dX2_requireGoods_5 (pO.mk rfl)
set_option maxRecDepth 100000 in
set_option maxHeartbeats 4000000 in
theorem c_X2_requireGoods_x {l : Launch} (hl : l.stackTraces = false) {n : Nat} {ρ : Nat → Nat} {J : Nat → Int64} {M : Mem} {x : Int32} (h : x < 0 ∨ 4 ≤ x) : CtO l yX2_requireGoods cX2_requireGoods 1 none 7 1 6 n ρ J M [.int x] (.inl IX, M) := by
  refine CtO.of hl (by decide +kernel) (Nat.le_of_ble_eq_true rfl) (fun Ξ hnL C => ?_)
  show E Ξ n ρ J M 0 0 0 [(0, .int x)] []
  refine e_iload_n (j := 0) C dX2_requireGoods_0 rfl rfl ?_
  refine e_iconst (v := 4) C dX2_requireGoods_1 (by decide) ?_
  exact e_cSx (nA := 2) C (c_X2_requireIndex_x hl h) rfl mw_154 mw_152 mw_153 mw_12 (by decide +kernel) (by decide) rfl rfl (Nat.le_of_ble_eq_true rfl) dX2_requireGoods_2 (Nat.le_of_ble_eq_true rfl) (Nat.le_of_ble_eq_true rfl) rfl
