/-! The class's greater methods. -/
section Tsw
variable {l : Launch} {R : Room} {cc : ByteArray} {own : String} {ret : Option FieldType} {mc ms : Nat} {tb : List ExceptionTableEntry} {post : Option Value → St → Prop} {exc : String → St → Prop} {Ξ : CT}
variable {n : Nat} {ρ : Nat → Nat} {J : Nat → Int64} {M : Mem} {a b pc : Nat} {ls : List (Nat × Value)} {st : List Value} {dflt lo hi : Int} {offs : Array Int} {len : Nat} {x : Int32} {off : Int} {tgt : Nat}
theorem e_tswI (C : Cx l R cc own ret mc ms tb post exc Ξ) (d : decode cc pc = .ok (.tableswitch dflt lo hi offs, len)) (h1 : ¬ x.toInt < lo) (h2 : ¬ hi < x.toInt) (ho : offs[(x.toInt - lo).toNat]? = some off) (ht : (pc : Int) + off = (tgt : Int)) (kk : E Ξ n ρ J M a b tgt ls st) : E Ξ n ρ J M a b pc ls (.int x :: st) := by
  obtain ⟨p, e, s, m, args, below, meth, c, D, cA, A, nL, rfl, hx, hb, hml, hown, hts, hK, hG, hr, hlk, htb, hA, hst⟩ := C
  intro H locs lsA hP hD hS hl
  exact lv_tableIn hx hb d h1 h2 ho ht (kk H locs lsA hP hD hS hl)
theorem e_tswO (C : Cx l R cc own ret mc ms tb post exc Ξ) (d : decode cc pc = .ok (.tableswitch dflt lo hi offs, len)) (h : x.toInt < lo ∨ hi < x.toInt) (ht : (pc : Int) + dflt = (tgt : Int)) (kk : E Ξ n ρ J M a b tgt ls st) : E Ξ n ρ J M a b pc ls (.int x :: st) := by
  obtain ⟨p, e, s, m, args, below, meth, c, D, cA, A, nL, rfl, hx, hb, hml, hown, hts, hK, hG, hr, hlk, htb, hA, hst⟩ := C
  intro H locs lsA hP hD hS hl
  exact lv_tableOut hx hb d h ht (kk H locs lsA hP hD hS hl)
end Tsw
theorem sw15 {x : Int32} (h1 : ¬ x = 1) (h2 : ¬ x = 2) (h3 : ¬ x = 3) (h4 : ¬ x = 4) (h5 : ¬ x = 5) : x.toInt < 1 ∨ 5 < x.toInt := by
  have k : ∀ y : Int32, ¬ x = y → x.toInt ≠ y.toInt := fun y h e => h (Int32.toInt_inj.mp e)
  have k1 := k 1 h1
  have k2 := k 2 h2
  have k3 := k 3 h3
  have k4 := k 4 h4
  have k5 := k 5 h5
  have e1 : (1 : Int32).toInt = 1 := by decide
  have e2 : (2 : Int32).toInt = 2 := by decide
  have e3 : (3 : Int32).toInt = 3 := by decide
  have e4 : (4 : Int32).toInt = 4 := by decide
  have e5 : (5 : Int32).toInt = 5 := by decide
  omega
set_option maxRecDepth 100000 in
set_option maxHeartbeats 4000000 in
theorem c_X2_about_x {l : Launch} (hl : l.stackTraces = false) {n : Nat} {ρ : Nat → Nat} {J : Nat → Int64} {M : Mem} {x : Int32} (h : x < 0 ∨ nI n ≤ x) {y : Int32} : CtO l yX2_about cX2_about 4 (some .int) 8 2 12 n ρ J M [.ref (ρ 0), .int x, .int y] (rX IX M) := by
  refine CtO.of hl (by decide +kernel) (Nat.le_of_ble_eq_true rfl) (fun Ξ hnL C => ?_)
  show E Ξ n ρ J M 0 0 0 [(0, .ref (ρ 0)), (1, .int x), (2, .int y)] []
  refine e_aload_n (j := 0) C dX2_about_0 rfl rfl ?_
  refine e_iload_n (j := 1) C dX2_about_1 rfl rfl ?_
  exact e_cVx (i := 0) (nA := 1) (Cn := RX2) C (c_X2_minerAt_x hl h) rfl (cnt_fix (by decide)) (fun _ => rfl) rfl rfl mw_150 mw_147 mw_148 mw_149 mw_12 (by decide +kernel) (by decide) rfl rfl (Nat.le_of_ble_eq_true rfl) dX2_about_2 (Nat.le_of_ble_eq_true rfl) (Nat.le_of_ble_eq_true rfl) rfl
set_option maxRecDepth 100000 in
set_option maxHeartbeats 4000000 in
theorem c_X2_about_y {l : Launch} (hl : l.stackTraces = false) {n : Nat} {ρ : Nat → Nat} {J : Nat → Int64} {M : Mem} {k : Nat} (hk : k < n) (hn : n ≤ 10) {y : Int32} (h : y.toInt < 0 ∨ 9 < y.toInt) : CtO l yX2_about cX2_about 4 (some .int) 8 2 12 n ρ J M [.ref (ρ 0), .int (nI k), .int y] (rX IA M) := by
  refine CtO.of hl (by decide +kernel) (Nat.le_of_ble_eq_true rfl) (fun Ξ hnL C => ?_)
  show E Ξ n ρ J M 0 0 0 [(0, .ref (ρ 0)), (1, .int (nI k)), (2, .int y)] []
  refine e_aload_n (j := 0) C dX2_about_0 rfl rfl ?_
  refine e_iload_n (j := 1) C dX2_about_1 rfl rfl ?_
  refine e_cV (i := 0) (nA := 1) (Cn := RX2) C (c_X2_minerAt hl hk hn) rfl (cnt_fix (by decide)) (fun _ => rfl) rfl rfl mw_150 mw_147 mw_148 mw_149 mw_12 (by decide +kernel) (by decide) rfl rfl (Nat.le_of_ble_eq_true rfl) dX2_about_2 (Nat.le_of_ble_eq_true rfl) (Nat.le_of_ble_eq_true rfl) ?_
  refine e_astore_n (ls2 := [(3, .ref (ρ (mO k))), (0, .ref (ρ 0)), (1, .int (nI k)), (2, .int y)]) C hnL dX2_about_5 rfl (by decide) rfl ?_
  refine e_iload_n (j := 3) C dX2_about_6 rfl rfl ?_
  refine e_tswO (tgt := 126) C dX2_about_7 h (by decide) ?_
  exact e_throw (text := "nothing is told by this number") C th_IA mw_176 mw_177 (by decide) rfl rfl dX2_about_126 dX2_about_129 dX2_about_130 dX2_about_132 dX2_about_135 (by decide) (Nat.le_of_ble_eq_true rfl) (Nat.le_of_ble_eq_true rfl) (Nat.le_of_ble_eq_true rfl) (Nat.le_of_ble_eq_true rfl) (Nat.le_of_ble_eq_true rfl) (xO.mk rfl)
def o_ab (M : Mem) (k : Nat) : Nat → Int32
  | 0 => if M (mO k) 0 = 0 then 0 else 1
  | 1 => M (mO k) 4
  | 2 => M (mO k) 5
  | 3 => sm (M (mS k)) 40
  | 4 => M (mO k) 6
  | 5 => M (mO k) 7
  | 6 => if M (mO k) 1 = 0 then 0 else 1
  | 7 => M (mO k) 8
  | 8 => M (mO k) 9
  | _ => M (mO k) 3
set_option maxRecDepth 100000 in
set_option maxHeartbeats 4000000 in
theorem c_X2_about_0 {l : Launch} (hl : l.stackTraces = false) {n : Nat} {ρ : Nat → Nat} {J : Nat → Int64} {M : Mem} {k : Nat} (hk : k < n) (hn : n ≤ 10) : CtO l yX2_about cX2_about 4 (some .int) 8 2 12 n ρ J M [.ref (ρ 0), .int (nI k), .int 0] (rI (o_ab M k 0) M) := by
  refine CtO.of hl (by decide +kernel) (Nat.le_of_ble_eq_true rfl) (fun Ξ hnL C => ?_)
  show E Ξ n ρ J M 0 0 0 [(0, .ref (ρ 0)), (1, .int (nI k)), (2, .int 0)] []
  refine e_aload_n (j := 0) C dX2_about_0 rfl rfl ?_
  refine e_iload_n (j := 1) C dX2_about_1 rfl rfl ?_
  refine e_cV (i := 0) (nA := 1) (Cn := RX2) C (c_X2_minerAt hl hk hn) rfl (cnt_fix (by decide)) (fun _ => rfl) rfl rfl mw_150 mw_147 mw_148 mw_149 mw_12 (by decide +kernel) (by decide) rfl rfl (Nat.le_of_ble_eq_true rfl) dX2_about_2 (Nat.le_of_ble_eq_true rfl) (Nat.le_of_ble_eq_true rfl) ?_
  refine e_astore_n (ls2 := [(3, .ref (ρ (mO k))), (0, .ref (ρ 0)), (1, .int (nI k)), (2, .int 0)]) C hnL dX2_about_5 rfl (by decide) rfl ?_
  refine e_iload_n (j := 3) C dX2_about_6 rfl rfl ?_
  refine e_tswI (tgt := 60) (off := 53) C dX2_about_7 (by decide) (by decide) (by decide) (by decide) ?_
  refine e_aload_n (j := 0) C dX2_about_60 rfl rfl ?_
  refine e_get0 (k := 0) (kk0 := k) (ref := "ScripHollow$Miner") C hk (by decide) rfl rfl mw_181 dX2_about_61 ?_
  refine e_if_eq (tgt := 71) C dX2_about_64 (by decide) (fun c_64 => ?_) (fun c_64 => ?_)
  · refine e_iconst (v := 0) C dX2_about_71 (by decide) ?_
    exact e_iret C rfl (Nat.le_of_ble_eq_true rfl) (Nat.le_of_ble_eq_true rfl) dX2_about_72 (pO.mk (by show rI (if M (mO k) 0 = 0 then 0 else 1) M = _; (repeat (first | rw [if_pos c_64]))))
  · refine e_iconst (v := 1) C dX2_about_67 (by decide) ?_
    refine e_goto (tgt := 72) C dX2_about_68 (by decide) ?_
    exact e_iret C rfl (Nat.le_of_ble_eq_true rfl) (Nat.le_of_ble_eq_true rfl) dX2_about_72 (pO.mk (by show rI (if M (mO k) 0 = 0 then 0 else 1) M = _; (repeat (first | rw [if_neg c_64]))))
set_option maxRecDepth 100000 in
set_option maxHeartbeats 4000000 in
theorem c_X2_about_1 {l : Launch} (hl : l.stackTraces = false) {n : Nat} {ρ : Nat → Nat} {J : Nat → Int64} {M : Mem} {k : Nat} (hk : k < n) (hn : n ≤ 10) : CtO l yX2_about cX2_about 4 (some .int) 8 2 12 n ρ J M [.ref (ρ 0), .int (nI k), .int 1] (rI (o_ab M k 1) M) := by
  refine CtO.of hl (by decide +kernel) (Nat.le_of_ble_eq_true rfl) (fun Ξ hnL C => ?_)
  show E Ξ n ρ J M 0 0 0 [(0, .ref (ρ 0)), (1, .int (nI k)), (2, .int 1)] []
  refine e_aload_n (j := 0) C dX2_about_0 rfl rfl ?_
  refine e_iload_n (j := 1) C dX2_about_1 rfl rfl ?_
  refine e_cV (i := 0) (nA := 1) (Cn := RX2) C (c_X2_minerAt hl hk hn) rfl (cnt_fix (by decide)) (fun _ => rfl) rfl rfl mw_150 mw_147 mw_148 mw_149 mw_12 (by decide +kernel) (by decide) rfl rfl (Nat.le_of_ble_eq_true rfl) dX2_about_2 (Nat.le_of_ble_eq_true rfl) (Nat.le_of_ble_eq_true rfl) ?_
  refine e_astore_n (ls2 := [(3, .ref (ρ (mO k))), (0, .ref (ρ 0)), (1, .int (nI k)), (2, .int 1)]) C hnL dX2_about_5 rfl (by decide) rfl ?_
  refine e_iload_n (j := 3) C dX2_about_6 rfl rfl ?_
  refine e_tswI (tgt := 73) (off := 66) C dX2_about_7 (by decide) (by decide) (by decide) (by decide) ?_
  refine e_aload_n (j := 0) C dX2_about_73 rfl rfl ?_
  refine e_get0 (k := 4) (kk0 := k) (ref := "ScripHollow$Miner") C hk (by decide) rfl rfl mw_145 dX2_about_74 ?_
  exact e_iret C rfl (Nat.le_of_ble_eq_true rfl) (Nat.le_of_ble_eq_true rfl) dX2_about_77 (pO.mk rfl)
set_option maxRecDepth 100000 in
set_option maxHeartbeats 4000000 in
theorem c_X2_about_2 {l : Launch} (hl : l.stackTraces = false) {n : Nat} {ρ : Nat → Nat} {J : Nat → Int64} {M : Mem} {k : Nat} (hk : k < n) (hn : n ≤ 10) : CtO l yX2_about cX2_about 4 (some .int) 8 2 12 n ρ J M [.ref (ρ 0), .int (nI k), .int 2] (rI (o_ab M k 2) M) := by
  refine CtO.of hl (by decide +kernel) (Nat.le_of_ble_eq_true rfl) (fun Ξ hnL C => ?_)
  show E Ξ n ρ J M 0 0 0 [(0, .ref (ρ 0)), (1, .int (nI k)), (2, .int 2)] []
  refine e_aload_n (j := 0) C dX2_about_0 rfl rfl ?_
  refine e_iload_n (j := 1) C dX2_about_1 rfl rfl ?_
  refine e_cV (i := 0) (nA := 1) (Cn := RX2) C (c_X2_minerAt hl hk hn) rfl (cnt_fix (by decide)) (fun _ => rfl) rfl rfl mw_150 mw_147 mw_148 mw_149 mw_12 (by decide +kernel) (by decide) rfl rfl (Nat.le_of_ble_eq_true rfl) dX2_about_2 (Nat.le_of_ble_eq_true rfl) (Nat.le_of_ble_eq_true rfl) ?_
  refine e_astore_n (ls2 := [(3, .ref (ρ (mO k))), (0, .ref (ρ 0)), (1, .int (nI k)), (2, .int 2)]) C hnL dX2_about_5 rfl (by decide) rfl ?_
  refine e_iload_n (j := 3) C dX2_about_6 rfl rfl ?_
  refine e_tswI (tgt := 78) (off := 71) C dX2_about_7 (by decide) (by decide) (by decide) (by decide) ?_
  refine e_aload_n (j := 0) C dX2_about_78 rfl rfl ?_
  refine e_get0 (k := 5) (kk0 := k) (ref := "ScripHollow$Miner") C hk (by decide) rfl rfl mw_240 dX2_about_79 ?_
  exact e_iret C rfl (Nat.le_of_ble_eq_true rfl) (Nat.le_of_ble_eq_true rfl) dX2_about_82 (pO.mk rfl)
set_option maxRecDepth 100000 in
set_option maxHeartbeats 4000000 in
theorem c_X2_about_3 {l : Launch} (hl : l.stackTraces = false) {n : Nat} {ρ : Nat → Nat} {J : Nat → Int64} {M : Mem} {k : Nat} (hk : k < n) (hn : n ≤ 10) : CtO l yX2_about cX2_about 4 (some .int) 8 2 12 n ρ J M [.ref (ρ 0), .int (nI k), .int 3] (rI (o_ab M k 3) M) := by
  refine CtO.of hl (by decide +kernel) (Nat.le_of_ble_eq_true rfl) (fun Ξ hnL C => ?_)
  show E Ξ n ρ J M 0 0 0 [(0, .ref (ρ 0)), (1, .int (nI k)), (2, .int 3)] []
  refine e_aload_n (j := 0) C dX2_about_0 rfl rfl ?_
  refine e_iload_n (j := 1) C dX2_about_1 rfl rfl ?_
  refine e_cV (i := 0) (nA := 1) (Cn := RX2) C (c_X2_minerAt hl hk hn) rfl (cnt_fix (by decide)) (fun _ => rfl) rfl rfl mw_150 mw_147 mw_148 mw_149 mw_12 (by decide +kernel) (by decide) rfl rfl (Nat.le_of_ble_eq_true rfl) dX2_about_2 (Nat.le_of_ble_eq_true rfl) (Nat.le_of_ble_eq_true rfl) ?_
  refine e_astore_n (ls2 := [(3, .ref (ρ (mO k))), (0, .ref (ρ 0)), (1, .int (nI k)), (2, .int 3)]) C hnL dX2_about_5 rfl (by decide) rfl ?_
  refine e_iload_n (j := 3) C dX2_about_6 rfl rfl ?_
  refine e_tswI (tgt := 83) (off := 76) C dX2_about_7 (by decide) (by decide) (by decide) (by decide) ?_
  refine e_aload_n (j := 0) C dX2_about_83 rfl rfl ?_
  refine e_cV (i := (mO k)) (nA := 0) (Cn := RX0) C (c_X0_allScrip hl hk) rfl (cnt_O hk) (fun cA => cell_O cA n ρ J k _) rfl rfl mw_297 mw_320 mw_295 mw_296 mw_65 (by decide +kernel) (by decide) rfl rfl (Nat.le_of_ble_eq_true rfl) dX2_about_84 (Nat.le_of_ble_eq_true rfl) (Nat.le_of_ble_eq_true rfl) ?_
  exact e_iret C rfl (Nat.le_of_ble_eq_true rfl) (Nat.le_of_ble_eq_true rfl) dX2_about_87 (pO.mk rfl)
set_option maxRecDepth 100000 in
set_option maxHeartbeats 4000000 in
theorem c_X2_about_4 {l : Launch} (hl : l.stackTraces = false) {n : Nat} {ρ : Nat → Nat} {J : Nat → Int64} {M : Mem} {k : Nat} (hk : k < n) (hn : n ≤ 10) : CtO l yX2_about cX2_about 4 (some .int) 8 2 12 n ρ J M [.ref (ρ 0), .int (nI k), .int 4] (rI (o_ab M k 4) M) := by
  refine CtO.of hl (by decide +kernel) (Nat.le_of_ble_eq_true rfl) (fun Ξ hnL C => ?_)
  show E Ξ n ρ J M 0 0 0 [(0, .ref (ρ 0)), (1, .int (nI k)), (2, .int 4)] []
  refine e_aload_n (j := 0) C dX2_about_0 rfl rfl ?_
  refine e_iload_n (j := 1) C dX2_about_1 rfl rfl ?_
  refine e_cV (i := 0) (nA := 1) (Cn := RX2) C (c_X2_minerAt hl hk hn) rfl (cnt_fix (by decide)) (fun _ => rfl) rfl rfl mw_150 mw_147 mw_148 mw_149 mw_12 (by decide +kernel) (by decide) rfl rfl (Nat.le_of_ble_eq_true rfl) dX2_about_2 (Nat.le_of_ble_eq_true rfl) (Nat.le_of_ble_eq_true rfl) ?_
  refine e_astore_n (ls2 := [(3, .ref (ρ (mO k))), (0, .ref (ρ 0)), (1, .int (nI k)), (2, .int 4)]) C hnL dX2_about_5 rfl (by decide) rfl ?_
  refine e_iload_n (j := 3) C dX2_about_6 rfl rfl ?_
  refine e_tswI (tgt := 88) (off := 81) C dX2_about_7 (by decide) (by decide) (by decide) (by decide) ?_
  refine e_aload_n (j := 0) C dX2_about_88 rfl rfl ?_
  refine e_get0 (k := 6) (kk0 := k) (ref := "ScripHollow$Miner") C hk (by decide) rfl rfl mw_203 dX2_about_89 ?_
  exact e_iret C rfl (Nat.le_of_ble_eq_true rfl) (Nat.le_of_ble_eq_true rfl) dX2_about_92 (pO.mk rfl)
set_option maxRecDepth 100000 in
set_option maxHeartbeats 4000000 in
theorem c_X2_about_5 {l : Launch} (hl : l.stackTraces = false) {n : Nat} {ρ : Nat → Nat} {J : Nat → Int64} {M : Mem} {k : Nat} (hk : k < n) (hn : n ≤ 10) : CtO l yX2_about cX2_about 4 (some .int) 8 2 12 n ρ J M [.ref (ρ 0), .int (nI k), .int 5] (rI (o_ab M k 5) M) := by
  refine CtO.of hl (by decide +kernel) (Nat.le_of_ble_eq_true rfl) (fun Ξ hnL C => ?_)
  show E Ξ n ρ J M 0 0 0 [(0, .ref (ρ 0)), (1, .int (nI k)), (2, .int 5)] []
  refine e_aload_n (j := 0) C dX2_about_0 rfl rfl ?_
  refine e_iload_n (j := 1) C dX2_about_1 rfl rfl ?_
  refine e_cV (i := 0) (nA := 1) (Cn := RX2) C (c_X2_minerAt hl hk hn) rfl (cnt_fix (by decide)) (fun _ => rfl) rfl rfl mw_150 mw_147 mw_148 mw_149 mw_12 (by decide +kernel) (by decide) rfl rfl (Nat.le_of_ble_eq_true rfl) dX2_about_2 (Nat.le_of_ble_eq_true rfl) (Nat.le_of_ble_eq_true rfl) ?_
  refine e_astore_n (ls2 := [(3, .ref (ρ (mO k))), (0, .ref (ρ 0)), (1, .int (nI k)), (2, .int 5)]) C hnL dX2_about_5 rfl (by decide) rfl ?_
  refine e_iload_n (j := 3) C dX2_about_6 rfl rfl ?_
  refine e_tswI (tgt := 93) (off := 86) C dX2_about_7 (by decide) (by decide) (by decide) (by decide) ?_
  refine e_aload_n (j := 0) C dX2_about_93 rfl rfl ?_
  refine e_get0 (k := 7) (kk0 := k) (ref := "ScripHollow$Miner") C hk (by decide) rfl rfl mw_202 dX2_about_94 ?_
  exact e_iret C rfl (Nat.le_of_ble_eq_true rfl) (Nat.le_of_ble_eq_true rfl) dX2_about_97 (pO.mk rfl)
set_option maxRecDepth 100000 in
set_option maxHeartbeats 4000000 in
theorem c_X2_about_6 {l : Launch} (hl : l.stackTraces = false) {n : Nat} {ρ : Nat → Nat} {J : Nat → Int64} {M : Mem} {k : Nat} (hk : k < n) (hn : n ≤ 10) : CtO l yX2_about cX2_about 4 (some .int) 8 2 12 n ρ J M [.ref (ρ 0), .int (nI k), .int 6] (rI (o_ab M k 6) M) := by
  refine CtO.of hl (by decide +kernel) (Nat.le_of_ble_eq_true rfl) (fun Ξ hnL C => ?_)
  show E Ξ n ρ J M 0 0 0 [(0, .ref (ρ 0)), (1, .int (nI k)), (2, .int 6)] []
  refine e_aload_n (j := 0) C dX2_about_0 rfl rfl ?_
  refine e_iload_n (j := 1) C dX2_about_1 rfl rfl ?_
  refine e_cV (i := 0) (nA := 1) (Cn := RX2) C (c_X2_minerAt hl hk hn) rfl (cnt_fix (by decide)) (fun _ => rfl) rfl rfl mw_150 mw_147 mw_148 mw_149 mw_12 (by decide +kernel) (by decide) rfl rfl (Nat.le_of_ble_eq_true rfl) dX2_about_2 (Nat.le_of_ble_eq_true rfl) (Nat.le_of_ble_eq_true rfl) ?_
  refine e_astore_n (ls2 := [(3, .ref (ρ (mO k))), (0, .ref (ρ 0)), (1, .int (nI k)), (2, .int 6)]) C hnL dX2_about_5 rfl (by decide) rfl ?_
  refine e_iload_n (j := 3) C dX2_about_6 rfl rfl ?_
  refine e_tswI (tgt := 98) (off := 91) C dX2_about_7 (by decide) (by decide) (by decide) (by decide) ?_
  refine e_aload_n (j := 0) C dX2_about_98 rfl rfl ?_
  refine e_get0 (k := 1) (kk0 := k) (ref := "ScripHollow$Miner") C hk (by decide) rfl rfl mw_207 dX2_about_99 ?_
  refine e_if_eq (tgt := 109) C dX2_about_102 (by decide) (fun c_102 => ?_) (fun c_102 => ?_)
  · refine e_iconst (v := 0) C dX2_about_109 (by decide) ?_
    exact e_iret C rfl (Nat.le_of_ble_eq_true rfl) (Nat.le_of_ble_eq_true rfl) dX2_about_110 (pO.mk (by show rI (if M (mO k) 1 = 0 then 0 else 1) M = _; (repeat (first | rw [if_pos c_102]))))
  · refine e_iconst (v := 1) C dX2_about_105 (by decide) ?_
    refine e_goto (tgt := 110) C dX2_about_106 (by decide) ?_
    exact e_iret C rfl (Nat.le_of_ble_eq_true rfl) (Nat.le_of_ble_eq_true rfl) dX2_about_110 (pO.mk (by show rI (if M (mO k) 1 = 0 then 0 else 1) M = _; (repeat (first | rw [if_neg c_102]))))
set_option maxRecDepth 100000 in
set_option maxHeartbeats 4000000 in
theorem c_X2_about_7 {l : Launch} (hl : l.stackTraces = false) {n : Nat} {ρ : Nat → Nat} {J : Nat → Int64} {M : Mem} {k : Nat} (hk : k < n) (hn : n ≤ 10) : CtO l yX2_about cX2_about 4 (some .int) 8 2 12 n ρ J M [.ref (ρ 0), .int (nI k), .int 7] (rI (o_ab M k 7) M) := by
  refine CtO.of hl (by decide +kernel) (Nat.le_of_ble_eq_true rfl) (fun Ξ hnL C => ?_)
  show E Ξ n ρ J M 0 0 0 [(0, .ref (ρ 0)), (1, .int (nI k)), (2, .int 7)] []
  refine e_aload_n (j := 0) C dX2_about_0 rfl rfl ?_
  refine e_iload_n (j := 1) C dX2_about_1 rfl rfl ?_
  refine e_cV (i := 0) (nA := 1) (Cn := RX2) C (c_X2_minerAt hl hk hn) rfl (cnt_fix (by decide)) (fun _ => rfl) rfl rfl mw_150 mw_147 mw_148 mw_149 mw_12 (by decide +kernel) (by decide) rfl rfl (Nat.le_of_ble_eq_true rfl) dX2_about_2 (Nat.le_of_ble_eq_true rfl) (Nat.le_of_ble_eq_true rfl) ?_
  refine e_astore_n (ls2 := [(3, .ref (ρ (mO k))), (0, .ref (ρ 0)), (1, .int (nI k)), (2, .int 7)]) C hnL dX2_about_5 rfl (by decide) rfl ?_
  refine e_iload_n (j := 3) C dX2_about_6 rfl rfl ?_
  refine e_tswI (tgt := 111) (off := 104) C dX2_about_7 (by decide) (by decide) (by decide) (by decide) ?_
  refine e_aload_n (j := 0) C dX2_about_111 rfl rfl ?_
  refine e_get0 (k := 8) (kk0 := k) (ref := "ScripHollow$Miner") C hk (by decide) rfl rfl mw_235 dX2_about_112 ?_
  exact e_iret C rfl (Nat.le_of_ble_eq_true rfl) (Nat.le_of_ble_eq_true rfl) dX2_about_115 (pO.mk rfl)
set_option maxRecDepth 100000 in
set_option maxHeartbeats 4000000 in
theorem c_X2_about_8 {l : Launch} (hl : l.stackTraces = false) {n : Nat} {ρ : Nat → Nat} {J : Nat → Int64} {M : Mem} {k : Nat} (hk : k < n) (hn : n ≤ 10) : CtO l yX2_about cX2_about 4 (some .int) 8 2 12 n ρ J M [.ref (ρ 0), .int (nI k), .int 8] (rI (o_ab M k 8) M) := by
  refine CtO.of hl (by decide +kernel) (Nat.le_of_ble_eq_true rfl) (fun Ξ hnL C => ?_)
  show E Ξ n ρ J M 0 0 0 [(0, .ref (ρ 0)), (1, .int (nI k)), (2, .int 8)] []
  refine e_aload_n (j := 0) C dX2_about_0 rfl rfl ?_
  refine e_iload_n (j := 1) C dX2_about_1 rfl rfl ?_
  refine e_cV (i := 0) (nA := 1) (Cn := RX2) C (c_X2_minerAt hl hk hn) rfl (cnt_fix (by decide)) (fun _ => rfl) rfl rfl mw_150 mw_147 mw_148 mw_149 mw_12 (by decide +kernel) (by decide) rfl rfl (Nat.le_of_ble_eq_true rfl) dX2_about_2 (Nat.le_of_ble_eq_true rfl) (Nat.le_of_ble_eq_true rfl) ?_
  refine e_astore_n (ls2 := [(3, .ref (ρ (mO k))), (0, .ref (ρ 0)), (1, .int (nI k)), (2, .int 8)]) C hnL dX2_about_5 rfl (by decide) rfl ?_
  refine e_iload_n (j := 3) C dX2_about_6 rfl rfl ?_
  refine e_tswI (tgt := 116) (off := 109) C dX2_about_7 (by decide) (by decide) (by decide) (by decide) ?_
  refine e_aload_n (j := 0) C dX2_about_116 rfl rfl ?_
  refine e_get0 (k := 9) (kk0 := k) (ref := "ScripHollow$Miner") C hk (by decide) rfl rfl mw_196 dX2_about_117 ?_
  exact e_iret C rfl (Nat.le_of_ble_eq_true rfl) (Nat.le_of_ble_eq_true rfl) dX2_about_120 (pO.mk rfl)
set_option maxRecDepth 100000 in
set_option maxHeartbeats 4000000 in
theorem c_X2_about_9 {l : Launch} (hl : l.stackTraces = false) {n : Nat} {ρ : Nat → Nat} {J : Nat → Int64} {M : Mem} {k : Nat} (hk : k < n) (hn : n ≤ 10) : CtO l yX2_about cX2_about 4 (some .int) 8 2 12 n ρ J M [.ref (ρ 0), .int (nI k), .int 9] (rI (o_ab M k 9) M) := by
  refine CtO.of hl (by decide +kernel) (Nat.le_of_ble_eq_true rfl) (fun Ξ hnL C => ?_)
  show E Ξ n ρ J M 0 0 0 [(0, .ref (ρ 0)), (1, .int (nI k)), (2, .int 9)] []
  refine e_aload_n (j := 0) C dX2_about_0 rfl rfl ?_
  refine e_iload_n (j := 1) C dX2_about_1 rfl rfl ?_
  refine e_cV (i := 0) (nA := 1) (Cn := RX2) C (c_X2_minerAt hl hk hn) rfl (cnt_fix (by decide)) (fun _ => rfl) rfl rfl mw_150 mw_147 mw_148 mw_149 mw_12 (by decide +kernel) (by decide) rfl rfl (Nat.le_of_ble_eq_true rfl) dX2_about_2 (Nat.le_of_ble_eq_true rfl) (Nat.le_of_ble_eq_true rfl) ?_
  refine e_astore_n (ls2 := [(3, .ref (ρ (mO k))), (0, .ref (ρ 0)), (1, .int (nI k)), (2, .int 9)]) C hnL dX2_about_5 rfl (by decide) rfl ?_
  refine e_iload_n (j := 3) C dX2_about_6 rfl rfl ?_
  refine e_tswI (tgt := 121) (off := 114) C dX2_about_7 (by decide) (by decide) (by decide) (by decide) ?_
  refine e_aload_n (j := 0) C dX2_about_121 rfl rfl ?_
  refine e_get0 (k := 3) (kk0 := k) (ref := "ScripHollow$Miner") C hk (by decide) rfl rfl mw_378 dX2_about_122 ?_
  exact e_iret C rfl (Nat.le_of_ble_eq_true rfl) (Nat.le_of_ble_eq_true rfl) dX2_about_125 (pO.mk rfl)
set_option maxRecDepth 100000 in
set_option maxHeartbeats 4000000 in
theorem c_X2_kin_x {l : Launch} (hl : l.stackTraces = false) {n : Nat} {ρ : Nat → Nat} {J : Nat → Int64} {M : Mem} {x : Int32} (h : x < 0 ∨ nI n ≤ x) {y : Int32} : CtO l yX2_kin cX2_kin 5 (some .int) 8 3 18 n ρ J M [.ref (ρ 0), .int x, .int y] (rX IX M) := by
  refine CtO.of hl (by decide +kernel) (Nat.le_of_ble_eq_true rfl) (fun Ξ hnL C => ?_)
  show E Ξ n ρ J M 0 0 0 [(0, .ref (ρ 0)), (1, .int x), (2, .int y)] []
  refine e_aload_n (j := 0) C dX2_kin_0 rfl rfl ?_
  refine e_iload_n (j := 1) C dX2_kin_1 rfl rfl ?_
  exact e_cVx (i := 0) (nA := 1) (Cn := RX2) C (c_X2_minerAt_x hl h) rfl (cnt_fix (by decide)) (fun _ => rfl) rfl rfl mw_150 mw_147 mw_148 mw_149 mw_12 (by decide +kernel) (by decide) rfl rfl (Nat.le_of_ble_eq_true rfl) dX2_kin_2 (Nat.le_of_ble_eq_true rfl) (Nat.le_of_ble_eq_true rfl) rfl
theorem nbad {j n : Nat} (hj : j < n) (hn : n ≤ 10) : ¬ (nI j < 0 ∨ nI n ≤ nI j) := fun h => h.elim (fun w => nI_pos (by omega) w) (fun w => nI_ge hj (by omega) w)
def o_kin (n : Nat) (M : Mem) (k : Nat) (y : Int32) : Out := if y = -1 then (if nI k = y then rX IA M else rI (M (mO k) 3) (up M (mO k) 3 y)) else if y < 0 ∨ nI n ≤ y then rX IX M else if nI k = y then rX IA M else rI (M (mO k) 3) (up M (mO k) 3 y)
set_option maxRecDepth 100000 in
set_option maxHeartbeats 4000000 in
theorem c_X2_kin {l : Launch} (hl : l.stackTraces = false) {n : Nat} {ρ : Nat → Nat} {J : Nat → Int64} {M : Mem} {k : Nat} (hk : k < n) (hn : n ≤ 10) {y : Int32} : CtO l yX2_kin cX2_kin 5 (some .int) 8 3 18 n ρ J M [.ref (ρ 0), .int (nI k), .int y] (o_kin n M k y) := by
  refine CtO.of hl (by decide +kernel) (Nat.le_of_ble_eq_true rfl) (fun Ξ hnL C => ?_)
  show E Ξ n ρ J M 0 0 0 [(0, .ref (ρ 0)), (1, .int (nI k)), (2, .int y)] []
  by_cases hy : y = -1
  · refine e_aload_n (j := 0) C dX2_kin_0 rfl rfl ?_
    refine e_iload_n (j := 1) C dX2_kin_1 rfl rfl ?_
    refine e_cV (i := 0) (nA := 1) (Cn := RX2) C (c_X2_minerAt hl hk hn) rfl (cnt_fix (by decide)) (fun _ => rfl) rfl rfl mw_150 mw_147 mw_148 mw_149 mw_12 (by decide +kernel) (by decide) rfl rfl (Nat.le_of_ble_eq_true rfl) dX2_kin_2 (Nat.le_of_ble_eq_true rfl) (Nat.le_of_ble_eq_true rfl) ?_
    refine e_astore_n (ls2 := [(3, .ref (ρ (mO k))), (0, .ref (ρ 0)), (1, .int (nI k)), (2, .int y)]) C hnL dX2_kin_5 rfl (by decide) rfl ?_
    refine e_iload_n (j := 3) C dX2_kin_6 rfl rfl ?_
    refine e_iconst (v := (-1)) C dX2_kin_7 (by decide) ?_
    refine e_icmp_eq (tgt := 17) C dX2_kin_8 (by decide) (fun c_8 => ?_) (fun c_8 => absurd hy c_8)
    refine e_iload_n (j := 2) C dX2_kin_17 rfl rfl ?_
    refine e_iload_n (j := 3) C dX2_kin_18 rfl rfl ?_
    refine e_icmp_ne (tgt := 32) C dX2_kin_19 (by decide) (fun c_19 => ?_) (fun c_19 => ?_)
    · refine e_aload_n (j := 0) C dX2_kin_32 rfl rfl ?_
      refine e_get0 (k := 3) (kk0 := k) (ref := "ScripHollow$Miner") C hk (by decide) rfl rfl mw_378 dX2_kin_33 ?_
      refine e_topi (fun x4_36 ex4_36 => ?_)
      refine e_istore (ls2 := [(4, .int x4_36), (3, .ref (ρ (mO k))), (0, .ref (ρ 0)), (1, .int (nI k)), (2, .int y)]) C hnL dX2_kin_36 (by decide) rfl ?_
      refine e_aload_n (j := 1) C dX2_kin_38 rfl rfl ?_
      refine e_iload_n (j := 4) C dX2_kin_39 rfl rfl ?_
      refine e_put0 (k := 3) (kk0 := k) (ref := "ScripHollow$Miner") (ty := .int) C hk (by decide) rfl rfl (by decide +kernel) rfl rfl rfl mw_378 dX2_kin_40 ?_
      refine e_iload (j := 0) C dX2_kin_43 rfl ?_
      exact e_iret C rfl (Nat.le_of_ble_eq_true rfl) (Nat.le_of_ble_eq_true rfl) dX2_kin_45 (pO.mk (by subst ex4_36; unfold o_kin; rw [if_pos hy, if_neg (by assumption)]))
    · exact e_throw (text := "nobody is their own kin") C th_IA mw_176 mw_177 (by decide) rfl rfl dX2_kin_22 dX2_kin_25 dX2_kin_26 dX2_kin_28 dX2_kin_31 (by decide) (Nat.le_of_ble_eq_true rfl) (Nat.le_of_ble_eq_true rfl) (Nat.le_of_ble_eq_true rfl) (Nat.le_of_ble_eq_true rfl) (Nat.le_of_ble_eq_true rfl) (xO.mk (by unfold o_kin; rw [if_pos hy, if_pos (by assumption)]))
  · rcases idx3 y (n := n) (by omega) with h | ⟨j, hj, ej⟩
    · refine e_aload_n (j := 0) C dX2_kin_0 rfl rfl ?_
      refine e_iload_n (j := 1) C dX2_kin_1 rfl rfl ?_
      refine e_cV (i := 0) (nA := 1) (Cn := RX2) C (c_X2_minerAt hl hk hn) rfl (cnt_fix (by decide)) (fun _ => rfl) rfl rfl mw_150 mw_147 mw_148 mw_149 mw_12 (by decide +kernel) (by decide) rfl rfl (Nat.le_of_ble_eq_true rfl) dX2_kin_2 (Nat.le_of_ble_eq_true rfl) (Nat.le_of_ble_eq_true rfl) ?_
      refine e_astore_n (ls2 := [(3, .ref (ρ (mO k))), (0, .ref (ρ 0)), (1, .int (nI k)), (2, .int y)]) C hnL dX2_kin_5 rfl (by decide) rfl ?_
      refine e_iload_n (j := 3) C dX2_kin_6 rfl rfl ?_
      refine e_iconst (v := (-1)) C dX2_kin_7 (by decide) ?_
      refine e_icmp_eq (tgt := 17) C dX2_kin_8 (by decide) (fun c_8 => absurd c_8 hy) (fun c_8 => ?_)
      refine e_aload_n (j := 1) C dX2_kin_11 rfl rfl ?_
      refine e_iload_n (j := 3) C dX2_kin_12 rfl rfl ?_
      exact e_cVx (i := 0) (nA := 1) (Cn := RX2) C (c_X2_minerAt_x hl h) rfl (cnt_fix (by decide)) (fun _ => rfl) rfl rfl mw_150 mw_147 mw_148 mw_149 mw_12 (by decide +kernel) (by decide) rfl rfl (Nat.le_of_ble_eq_true rfl) dX2_kin_13 (Nat.le_of_ble_eq_true rfl) (Nat.le_of_ble_eq_true rfl) (by unfold o_kin; rw [if_neg hy, if_pos h])
    · subst ej
      have hnb : ¬ (nI j < 0 ∨ nI n ≤ nI j) := nbad hj hn
      refine e_aload_n (j := 0) C dX2_kin_0 rfl rfl ?_
      refine e_iload_n (j := 1) C dX2_kin_1 rfl rfl ?_
      refine e_cV (i := 0) (nA := 1) (Cn := RX2) C (c_X2_minerAt hl hk hn) rfl (cnt_fix (by decide)) (fun _ => rfl) rfl rfl mw_150 mw_147 mw_148 mw_149 mw_12 (by decide +kernel) (by decide) rfl rfl (Nat.le_of_ble_eq_true rfl) dX2_kin_2 (Nat.le_of_ble_eq_true rfl) (Nat.le_of_ble_eq_true rfl) ?_
      refine e_astore_n (ls2 := [(3, .ref (ρ (mO k))), (0, .ref (ρ 0)), (1, .int (nI k)), (2, .int (nI j))]) C hnL dX2_kin_5 rfl (by decide) rfl ?_
      refine e_iload_n (j := 3) C dX2_kin_6 rfl rfl ?_
      refine e_iconst (v := (-1)) C dX2_kin_7 (by decide) ?_
      refine e_icmp_eq (tgt := 17) C dX2_kin_8 (by decide) (fun c_8 => absurd c_8 hy) (fun c_8 => ?_)
      refine e_aload_n (j := 1) C dX2_kin_11 rfl rfl ?_
      refine e_iload_n (j := 3) C dX2_kin_12 rfl rfl ?_
      refine e_cV (i := 0) (nA := 1) (Cn := RX2) C (c_X2_minerAt hl hj hn) rfl (cnt_fix (by decide)) (fun _ => rfl) rfl rfl mw_150 mw_147 mw_148 mw_149 mw_12 (by decide +kernel) (by decide) rfl rfl (Nat.le_of_ble_eq_true rfl) dX2_kin_13 (Nat.le_of_ble_eq_true rfl) (Nat.le_of_ble_eq_true rfl) ?_
      refine e_pop C dX2_kin_16 rfl ?_
      refine e_iload_n (j := 2) C dX2_kin_17 rfl rfl ?_
      refine e_iload_n (j := 3) C dX2_kin_18 rfl rfl ?_
      refine e_icmp_ne (tgt := 32) C dX2_kin_19 (by decide) (fun c_19 => ?_) (fun c_19 => ?_)
      · refine e_aload_n (j := 0) C dX2_kin_32 rfl rfl ?_
        refine e_get0 (k := 3) (kk0 := k) (ref := "ScripHollow$Miner") C hk (by decide) rfl rfl mw_378 dX2_kin_33 ?_
        refine e_topi (fun x4_36 ex4_36 => ?_)
        refine e_istore (ls2 := [(4, .int x4_36), (3, .ref (ρ (mO k))), (0, .ref (ρ 0)), (1, .int (nI k)), (2, .int (nI j))]) C hnL dX2_kin_36 (by decide) rfl ?_
        refine e_aload_n (j := 1) C dX2_kin_38 rfl rfl ?_
        refine e_iload_n (j := 4) C dX2_kin_39 rfl rfl ?_
        refine e_put0 (k := 3) (kk0 := k) (ref := "ScripHollow$Miner") (ty := .int) C hk (by decide) rfl rfl (by decide +kernel) rfl rfl rfl mw_378 dX2_kin_40 ?_
        refine e_iload (j := 0) C dX2_kin_43 rfl ?_
        exact e_iret C rfl (Nat.le_of_ble_eq_true rfl) (Nat.le_of_ble_eq_true rfl) dX2_kin_45 (pO.mk (by (try subst ex4_36); unfold o_kin; rw [if_neg hy, if_neg hnb]; (repeat (first | rw [if_neg hy] | rw [if_neg c_8] | rw [if_neg c_19]))))
      · exact e_throw (text := "nobody is their own kin") C th_IA mw_176 mw_177 (by decide) rfl rfl dX2_kin_22 dX2_kin_25 dX2_kin_26 dX2_kin_28 dX2_kin_31 (by decide) (Nat.le_of_ble_eq_true rfl) (Nat.le_of_ble_eq_true rfl) (Nat.le_of_ble_eq_true rfl) (Nat.le_of_ble_eq_true rfl) (Nat.le_of_ble_eq_true rfl) (xO.mk (by (try subst ex4_36); unfold o_kin; rw [if_neg hy, if_neg hnb]; (repeat (first | rw [if_neg hy] | rw [if_neg c_8] | rw [if_pos c_19]))))
def edi (r : Int32) (met : Int32) : Nat → Int32
  | 0 => if r = 0 then 1 else 0
  | f + 1 => if r ≤ 0 then (if r = 0 then 1 else 0) else if r - r / 10 * 10 < 1 then 0 else if 5 < r - r / 10 * 10 then 0 else if met >>> ((r - r / 10 * 10) &&& 31) &&& 1 = 1 then 0 else edi (r / 10) (met ||| 1 <<< ((r - r / 10 * 10) &&& 31)) f
def o_edition (M : Mem) (x : Int32) : Out := if edi x 0 5 = 0 then rX IA M else rI (M 0 3) (up M 0 3 x)
set_option maxRecDepth 100000 in
set_option maxHeartbeats 4000000 in
theorem c_X2_isEdition {l : Launch} (hl : l.stackTraces = false) {n : Nat} {ρ : Nat → Nat} {J : Nat → Int64} {M : Mem} {x : Int32} : CtO l yX2_isEdition cX2_isEdition 5 (some .boolean) 0 0 0 n ρ J M [.int x] (rI (edi x 0 5) M) := by
  refine CtO.of hl (by decide +kernel) (Nat.le_of_ble_eq_true rfl) (fun Ξ hnL C => ?_)
  show E Ξ n ρ J M 0 0 0 [(0, .int x)] []
  obtain ⟨R0, hR0⟩ : ∃ z, z = edi x 0 5 := ⟨_, rfl⟩
  rw [← hR0] at C
  have loop : ∀ (f j : Nat) (r met : Int32), j + f = 5 → R0 = edi r met f → E Ξ n ρ J M 0 0 6 [(3, .int (nI j)), (2, .int met), (1, .int r), (0, .int x)] [] := by
    intro f
    induction f with
    | zero =>
      intro j r met hj hE
      have hj5 : j = 5 := by omega
      subst hj5
      unfold edi at hE
      refine e_iload_n (j := 0) C dX2_isEdition_6 rfl rfl ?_
      refine e_iconst (v := 5) C dX2_isEdition_7 (by decide) ?_
      refine e_icmp_ge (tgt := 63) C dX2_isEdition_8 (by decide) (fun c_8 => ?_) (fun c_8 => absurd (show (5 : Int32) ≤ nI 5 by decide) c_8)
      refine e_iload_n (j := 2) C dX2_isEdition_63 rfl rfl ?_
      refine e_if_ne (tgt := 71) C dX2_isEdition_64 (by decide) (fun c_64 => ?_) (fun c_64 => ?_)
      · refine e_iconst (v := 0) C dX2_isEdition_71 (by decide) ?_
        exact e_zret C rfl rfl (Nat.le_of_ble_eq_true rfl) (Nat.le_of_ble_eq_true rfl) dX2_isEdition_72 (pO.mk (by rw [hE]; (repeat (first | rw [if_pos c_8] | rw [if_neg c_64]))))
      · refine e_iconst (v := 1) C dX2_isEdition_67 (by decide) ?_
        refine e_goto (tgt := 72) C dX2_isEdition_68 (by decide) ?_
        exact e_zret C rfl rfl (Nat.le_of_ble_eq_true rfl) (Nat.le_of_ble_eq_true rfl) dX2_isEdition_72 (pO.mk (by rw [hE]; (repeat (first | rw [if_pos c_8] | rw [if_pos c_64]))))
    | succ f ih =>
      intro j r met hj hE
      unfold edi at hE
      refine e_iload_n (j := 0) C dX2_isEdition_6 rfl rfl ?_
      refine e_iconst (v := 5) C dX2_isEdition_7 (by decide) ?_
      refine e_icmp_ge (tgt := 63) C dX2_isEdition_8 (by decide) (fun c_8 => absurd c_8 (nI_ge (a := j) (b := 5) (by omega) (by omega))) (fun c_8 => ?_)
      refine e_iload_n (j := 2) C dX2_isEdition_11 rfl rfl ?_
      refine e_if_le (tgt := 63) C dX2_isEdition_12 (by decide) (fun c_12 => ?_) (fun c_12 => ?_)
      · refine e_iload_n (j := 2) C dX2_isEdition_63 rfl rfl ?_
        refine e_if_ne (tgt := 71) C dX2_isEdition_64 (by decide) (fun c_64 => ?_) (fun c_64 => ?_)
        · refine e_iconst (v := 0) C dX2_isEdition_71 (by decide) ?_
          exact e_zret C rfl rfl (Nat.le_of_ble_eq_true rfl) (Nat.le_of_ble_eq_true rfl) dX2_isEdition_72 (pO.mk (by rw [hE]; (try subst ex4_19); (repeat (first | rw [if_neg c_8] | rw [if_pos c_12] | rw [if_neg c_64]))))
        · refine e_iconst (v := 1) C dX2_isEdition_67 (by decide) ?_
          refine e_goto (tgt := 72) C dX2_isEdition_68 (by decide) ?_
          exact e_zret C rfl rfl (Nat.le_of_ble_eq_true rfl) (Nat.le_of_ble_eq_true rfl) dX2_isEdition_72 (pO.mk (by rw [hE]; (try subst ex4_19); (repeat (first | rw [if_neg c_8] | rw [if_pos c_12] | rw [if_pos c_64]))))
      · refine e_iload_n (j := 2) C dX2_isEdition_15 rfl rfl ?_
        refine e_bipush (v := 10) C dX2_isEdition_16 (by decide) ?_
        refine e_irem C dX2_isEdition_18 (by decide) ?_
        refine e_topi (fun x4_19 ex4_19 => ?_)
        refine e_istore (ls2 := [(4, .int x4_19), (3, .int (nI j)), (2, .int met), (1, .int r), (0, .int x)]) C hnL dX2_isEdition_19 (by decide) rfl ?_
        refine e_iload (j := 0) C dX2_isEdition_21 rfl ?_
        refine e_iconst (v := 1) C dX2_isEdition_23 (by decide) ?_
        refine e_icmp_lt (tgt := 43) C dX2_isEdition_24 (by decide) (fun c_24 => ?_) (fun c_24 => ?_)
        · refine e_iconst (v := 0) C dX2_isEdition_43 (by decide) ?_
          exact e_zret C rfl rfl (Nat.le_of_ble_eq_true rfl) (Nat.le_of_ble_eq_true rfl) dX2_isEdition_44 (pO.mk (by rw [hE]; (try subst ex4_19); (repeat (first | rw [if_neg c_8] | rw [if_neg c_12] | rw [if_pos c_24]))))
        · refine e_iload (j := 0) C dX2_isEdition_27 rfl ?_
          refine e_iconst (v := 5) C dX2_isEdition_29 (by decide) ?_
          refine e_icmp_gt (tgt := 43) C dX2_isEdition_30 (by decide) (fun c_30 => ?_) (fun c_30 => ?_)
          · refine e_iconst (v := 0) C dX2_isEdition_43 (by decide) ?_
            exact e_zret C rfl rfl (Nat.le_of_ble_eq_true rfl) (Nat.le_of_ble_eq_true rfl) dX2_isEdition_44 (pO.mk (by rw [hE]; (try subst ex4_19); (repeat (first | rw [if_neg c_8] | rw [if_neg c_12] | rw [if_neg c_24] | rw [if_pos c_30]))))
          · refine e_iload_n (j := 2) C dX2_isEdition_33 rfl rfl ?_
            refine e_iload (j := 0) C dX2_isEdition_34 rfl ?_
            refine e_ishr C dX2_isEdition_36 ?_
            refine e_iconst (v := 1) C dX2_isEdition_37 (by decide) ?_
            refine e_iand C dX2_isEdition_38 ?_
            refine e_iconst (v := 1) C dX2_isEdition_39 (by decide) ?_
            refine e_icmp_ne (tgt := 45) C dX2_isEdition_40 (by decide) (fun c_40 => ?_) (fun c_40 => ?_)
            · refine e_iload_n (j := 2) C dX2_isEdition_45 rfl rfl ?_
              refine e_iconst (v := 1) C dX2_isEdition_46 (by decide) ?_
              refine e_iload (j := 0) C dX2_isEdition_47 rfl ?_
              refine e_ishl C dX2_isEdition_49 ?_
              refine e_ior C dX2_isEdition_50 ?_
              refine e_topi (fun x2_51 ex2_51 => ?_)
              refine e_istore_n (ls2 := [(2, .int x2_51), (4, .int x4_19), (3, .int (nI j)), (1, .int r), (0, .int x)]) C hnL dX2_isEdition_51 rfl (by decide) rfl ?_
              refine e_iload_n (j := 3) C dX2_isEdition_52 rfl rfl ?_
              refine e_bipush (v := 10) C dX2_isEdition_53 (by decide) ?_
              refine e_idiv C dX2_isEdition_55 (by decide) ?_
              refine e_topi (fun x1_56 ex1_56 => ?_)
              refine e_istore_n (ls2 := [(1, .int x1_56), (2, .int x2_51), (4, .int x4_19), (3, .int (nI j)), (0, .int x)]) C hnL dX2_isEdition_56 rfl (by decide) rfl ?_
              obtain ⟨x3_57, ex3_57⟩ : ∃ z : Int32, z = (nI j) + 1 := ⟨_, rfl⟩
              refine e_iinc (j := 3) (v := x3_57) (ls2 := [(3, .int x3_57), (1, .int x1_56), (2, .int x2_51), (4, .int x4_19), (0, .int x)]) C hnL dX2_isEdition_57 rfl (by rw [ex3_57]; rfl) (by decide) rfl ?_
              refine e_goto (tgt := 6) C dX2_isEdition_60 (by decide) ?_
              subst ex3_57 ex1_56 ex2_51 ex4_19
              rw [nI_1]
              exact e_sub [0, 2, 1, 4] rfl (ih (j + 1) _ _ (by omega) (by rw [hE]; (repeat (first | rw [if_neg c_8] | rw [if_neg c_12] | rw [if_neg c_24] | rw [if_neg c_30] | rw [if_neg c_40]))))
            · refine e_iconst (v := 0) C dX2_isEdition_43 (by decide) ?_
              exact e_zret C rfl rfl (Nat.le_of_ble_eq_true rfl) (Nat.le_of_ble_eq_true rfl) dX2_isEdition_44 (pO.mk (by rw [hE]; (try subst ex4_19); (repeat (first | rw [if_neg c_8] | rw [if_neg c_12] | rw [if_neg c_24] | rw [if_neg c_30] | rw [if_pos c_40]))))
  refine e_iload_n (j := 0) C dX2_isEdition_0 rfl rfl ?_
  refine e_istore_n (ls2 := [(1, .int x), (0, .int x)]) C hnL dX2_isEdition_1 rfl (by decide) rfl ?_
  refine e_iconst (v := 0) C dX2_isEdition_2 (by decide) ?_
  refine e_istore_n (ls2 := [(2, .int 0), (1, .int x), (0, .int x)]) C hnL dX2_isEdition_3 rfl (by decide) rfl ?_
  refine e_iconst (v := 0) C dX2_isEdition_4 (by decide) ?_
  refine e_istore_n (ls2 := [(3, .int 0), (2, .int 0), (1, .int x), (0, .int x)]) C hnL dX2_isEdition_5 rfl (by decide) rfl ?_
  exact e_sub [0, 1, 2, 3] rfl (loop 5 0 x 0 rfl hR0)
set_option maxRecDepth 100000 in
set_option maxHeartbeats 4000000 in
theorem c_X2_edition {l : Launch} (hl : l.stackTraces = false) {n : Nat} {ρ : Nat → Nat} {J : Nat → Int64} {M : Mem} {x : Int32} : CtO l yX2_edition cX2_edition 3 (some .int) 6 1 6 n ρ J M [.ref (ρ 0), .int x] (o_edition M x) := by
  refine CtO.of hl (by decide +kernel) (Nat.le_of_ble_eq_true rfl) (fun Ξ hnL C => ?_)
  show E Ξ n ρ J M 0 0 0 [(0, .ref (ρ 0)), (1, .int x)] []
  refine e_iload_n (j := 1) C dX2_edition_0 rfl rfl ?_
  refine e_cS (nA := 1) C (c_X2_isEdition hl) rfl mw_347 mw_345 mw_346 mw_12 (by decide +kernel) (by decide) rfl rfl (Nat.le_of_ble_eq_true rfl) dX2_edition_1 (Nat.le_of_ble_eq_true rfl) (Nat.le_of_ble_eq_true rfl) ?_
  refine e_if_ne (tgt := 17) C dX2_edition_4 (by decide) (fun c_4 => ?_) (fun c_4 => ?_)
  · refine e_aload_n (j := 0) C dX2_edition_17 rfl rfl ?_
    refine e_get2 (k := 3) (ref := "ScripHollow") C (by decide) rfl rfl mw_26 dX2_edition_18 ?_
    refine e_topi (fun x2_21 ex2_21 => ?_)
    refine e_istore_n (ls2 := [(2, .int x2_21), (0, .ref (ρ 0)), (1, .int x)]) C hnL dX2_edition_21 rfl (by decide) rfl ?_
    refine e_aload_n (j := 1) C dX2_edition_22 rfl rfl ?_
    refine e_iload_n (j := 2) C dX2_edition_23 rfl rfl ?_
    refine e_put2 (k := 3) (ref := "ScripHollow") (ty := .int) C (by decide) rfl rfl (by decide +kernel) rfl rfl rfl mw_26 dX2_edition_24 ?_
    refine e_iload_n (j := 0) C dX2_edition_27 rfl rfl ?_
    exact e_iret C rfl (Nat.le_of_ble_eq_true rfl) (Nat.le_of_ble_eq_true rfl) dX2_edition_28 (pO.mk (by first | contradiction | (subst_vars; unfold o_edition; (repeat (first | rw [if_neg c_4])); (try rfl))))
  · exact e_throw (text := "not a row of unlike kinds") C th_IA mw_176 mw_177 (by decide) rfl rfl dX2_edition_7 dX2_edition_10 dX2_edition_11 dX2_edition_13 dX2_edition_16 (by decide) (Nat.le_of_ble_eq_true rfl) (Nat.le_of_ble_eq_true rfl) (Nat.le_of_ble_eq_true rfl) (Nat.le_of_ble_eq_true rfl) (Nat.le_of_ble_eq_true rfl) (xO.mk (by first | contradiction | (subst_vars; unfold o_edition; (repeat (first | rw [if_pos c_4])); (try rfl))))
def lead (M : Mem) : Nat → Int32
  | 0 => 0
  | j + 1 => if M (mO j) 0 = 0 then lead M j else if M (mO j) 2 = 0 then lead M j + (-1) else lead M j + 1
theorem lead_s (M : Mem) (j : Nat) : lead M (j + 1) = if M (mO j) 0 = 0 then lead M j else if M (mO j) 2 = 0 then lead M j + (-1) else lead M j + 1 := rfl
def o_can (M : Mem) (n : Nat) : Int32 := if lead M n ≤ 0 then 0 else 1
set_option maxRecDepth 100000 in
set_option maxHeartbeats 4000000 in
theorem c_X2_canStrike {l : Launch} (hl : l.stackTraces = false) {n : Nat} {ρ : Nat → Nat} {J : Nat → Int64} {M : Mem} (hn : n ≤ 10) : CtO l yX2_canStrike cX2_canStrike 4 (some .boolean) 3 0 0 n ρ J M [.ref (ρ 0)] (rI (o_can M n) M) := by
  refine CtO.of hl (by decide +kernel) (Nat.le_of_ble_eq_true rfl) (fun Ξ hnL C => ?_)
  show E Ξ n ρ J M 0 0 0 [(0, .ref (ρ 0))] []
  have loop : ∀ (f j : Nat), j + f = n → E Ξ n ρ J M 0 0 4 [(2, .int (nI j)), (1, .int (lead M j)), (0, .ref (ρ 0))] [] := by
    intro f
    induction f with
    | zero =>
      intro j hj
      have hjn : j = n := by omega
      subst hjn
      refine e_iload_n (j := 0) C dX2_canStrike_4 rfl rfl ?_
      refine e_aload_n (j := 2) C dX2_canStrike_5 rfl rfl ?_
      refine e_get2 (k := 0) (ref := "ScripHollow") C (by decide) rfl rfl mw_24 dX2_canStrike_6 ?_
      refine e_cV (i := 1) (nA := 0) (Cn := RJx4a65c) C (c_JL_size hl) rfl (cnt_fix (by decide)) (fun _ => rfl) rfl rfl mw_69 mw_66 mw_67 mw_68 mw_23 (by decide +kernel) (by decide) rfl rfl (Nat.le_of_ble_eq_true rfl) dX2_canStrike_9 (Nat.le_of_ble_eq_true rfl) (Nat.le_of_ble_eq_true rfl) ?_
      refine e_icmp_ge (tgt := 55) C dX2_canStrike_12 (by decide) (fun c_12 => ?_) (fun c_12 => absurd (nI_le (Nat.le_refl j) (by omega)) c_12)
      refine e_iload_n (j := 1) C dX2_canStrike_55 rfl rfl ?_
      refine e_if_le (tgt := 63) C dX2_canStrike_56 (by decide) (fun c_56 => ?_) (fun c_56 => ?_)
      · refine e_iconst (v := 0) C dX2_canStrike_63 (by decide) ?_
        exact e_zret C rfl rfl (Nat.le_of_ble_eq_true rfl) (Nat.le_of_ble_eq_true rfl) dX2_canStrike_64 (pO.mk (by unfold o_can; (repeat (first | rw [if_pos (by assumption)] | rw [if_neg (by assumption)]))))
      · refine e_iconst (v := 1) C dX2_canStrike_59 (by decide) ?_
        refine e_goto (tgt := 64) C dX2_canStrike_60 (by decide) ?_
        exact e_zret C rfl rfl (Nat.le_of_ble_eq_true rfl) (Nat.le_of_ble_eq_true rfl) dX2_canStrike_64 (pO.mk (by unfold o_can; (repeat (first | rw [if_pos (by assumption)] | rw [if_neg (by assumption)]))))
    | succ f ih =>
      intro j hjf
      have hj : j < n := by omega
      refine e_iload_n (j := 0) C dX2_canStrike_4 rfl rfl ?_
      refine e_aload_n (j := 2) C dX2_canStrike_5 rfl rfl ?_
      refine e_get2 (k := 0) (ref := "ScripHollow") C (by decide) rfl rfl mw_24 dX2_canStrike_6 ?_
      refine e_cV (i := 1) (nA := 0) (Cn := RJx4a65c) C (c_JL_size hl) rfl (cnt_fix (by decide)) (fun _ => rfl) rfl rfl mw_69 mw_66 mw_67 mw_68 mw_23 (by decide +kernel) (by decide) rfl rfl (Nat.le_of_ble_eq_true rfl) dX2_canStrike_9 (Nat.le_of_ble_eq_true rfl) (Nat.le_of_ble_eq_true rfl) ?_
      refine e_icmp_ge (tgt := 55) C dX2_canStrike_12 (by decide) (fun c_12 => absurd c_12 (nI_ge hj (by omega))) (fun c_12 => ?_)
      refine e_aload_n (j := 2) C dX2_canStrike_15 rfl rfl ?_
      refine e_get2 (k := 0) (ref := "ScripHollow") C (by decide) rfl rfl mw_24 dX2_canStrike_16 ?_
      refine e_iload_n (j := 0) C dX2_canStrike_19 rfl rfl ?_
      refine e_cV (i := 1) (nA := 1) (Cn := RJx4a65c) C (c_JL_get hl hj hn) rfl (cnt_fix (by decide)) (fun _ => rfl) rfl rfl mw_160 mw_157 mw_158 mw_159 mw_23 (by decide +kernel) (by decide) rfl rfl (Nat.le_of_ble_eq_true rfl) dX2_canStrike_20 (Nat.le_of_ble_eq_true rfl) (Nat.le_of_ble_eq_true rfl) ?_
      refine e_castM C hj mw_63 dX2_canStrike_23 ?_
      refine e_astore_n (ls2 := [(3, .ref (ρ (mO j))), (2, .int (nI j)), (1, .int (lead M j)), (0, .ref (ρ 0))]) C hnL dX2_canStrike_26 rfl (by decide) rfl ?_
      refine e_aload_n (j := 0) C dX2_canStrike_27 rfl rfl ?_
      refine e_get0 (k := 0) (kk0 := j) (ref := "ScripHollow$Miner") C hj (by decide) rfl rfl mw_181 dX2_canStrike_28 ?_
      refine e_if_eq (tgt := 49) C dX2_canStrike_31 (by decide) (fun c_31 => ?_) (fun c_31 => ?_)
      · obtain ⟨x2_49, ex2_49⟩ : ∃ z : Int32, z = (nI j) + 1 := ⟨_, rfl⟩
        refine e_iinc (j := 1) (v := x2_49) (ls2 := [(2, .int x2_49), (3, .ref (ρ (mO j))), (1, .int (lead M j)), (0, .ref (ρ 0))]) C hnL dX2_canStrike_49 rfl (by rw [ex2_49]; rfl) (by decide) rfl ?_
        refine e_goto (tgt := 4) C dX2_canStrike_52 (by decide) ?_
        subst ex2_49
        rw [nI_1]
        have ih2 := ih (j + 1) (by omega)
        rw [lead_s] at ih2
        (repeat (first | rw [if_pos (by assumption)] at ih2 | rw [if_neg (by assumption)] at ih2))
        exact e_sub [0, 2, 3] rfl ih2
      · refine e_iload_n (j := 2) C dX2_canStrike_34 rfl rfl ?_
        refine e_aload_n (j := 0) C dX2_canStrike_35 rfl rfl ?_
        refine e_get0 (k := 2) (kk0 := j) (ref := "ScripHollow$Miner") C hj (by decide) rfl rfl mw_373 dX2_canStrike_36 ?_
        refine e_if_eq (tgt := 46) C dX2_canStrike_39 (by decide) (fun c_39 => ?_) (fun c_39 => ?_)
        · refine e_iconst (v := (-1)) C dX2_canStrike_46 (by decide) ?_
          refine e_iadd C dX2_canStrike_47 ?_
          refine e_topi (fun x1_48 ex1_48 => ?_)
          refine e_istore_n (ls2 := [(1, .int x1_48), (3, .ref (ρ (mO j))), (2, .int (nI j)), (0, .ref (ρ 0))]) C hnL dX2_canStrike_48 rfl (by decide) rfl ?_
          obtain ⟨x2_49, ex2_49⟩ : ∃ z : Int32, z = (nI j) + 1 := ⟨_, rfl⟩
          refine e_iinc (j := 2) (v := x2_49) (ls2 := [(2, .int x2_49), (1, .int x1_48), (3, .ref (ρ (mO j))), (0, .ref (ρ 0))]) C hnL dX2_canStrike_49 rfl (by rw [ex2_49]; rfl) (by decide) rfl ?_
          refine e_goto (tgt := 4) C dX2_canStrike_52 (by decide) ?_
          subst ex2_49 ex1_48
          rw [nI_1]
          have ih2 := ih (j + 1) (by omega)
          rw [lead_s] at ih2
          (repeat (first | rw [if_pos (by assumption)] at ih2 | rw [if_neg (by assumption)] at ih2))
          exact e_sub [0, 1, 3] rfl ih2
        · refine e_iconst (v := 1) C dX2_canStrike_42 (by decide) ?_
          refine e_goto (tgt := 47) C dX2_canStrike_43 (by decide) ?_
          refine e_iadd C dX2_canStrike_47 ?_
          refine e_topi (fun x1_48 ex1_48 => ?_)
          refine e_istore_n (ls2 := [(1, .int x1_48), (3, .ref (ρ (mO j))), (2, .int (nI j)), (0, .ref (ρ 0))]) C hnL dX2_canStrike_48 rfl (by decide) rfl ?_
          obtain ⟨x2_49, ex2_49⟩ : ∃ z : Int32, z = (nI j) + 1 := ⟨_, rfl⟩
          refine e_iinc (j := 2) (v := x2_49) (ls2 := [(2, .int x2_49), (1, .int x1_48), (3, .ref (ρ (mO j))), (0, .ref (ρ 0))]) C hnL dX2_canStrike_49 rfl (by rw [ex2_49]; rfl) (by decide) rfl ?_
          refine e_goto (tgt := 4) C dX2_canStrike_52 (by decide) ?_
          subst ex2_49 ex1_48
          rw [nI_1]
          have ih2 := ih (j + 1) (by omega)
          rw [lead_s] at ih2
          (repeat (first | rw [if_pos (by assumption)] at ih2 | rw [if_neg (by assumption)] at ih2))
          exact e_sub [0, 1, 3] rfl ih2
  refine e_iconst (v := 0) C dX2_canStrike_0 (by decide) ?_
  refine e_istore_n (ls2 := [(1, .int 0), (0, .ref (ρ 0))]) C hnL dX2_canStrike_1 rfl (by decide) rfl ?_
  refine e_iconst (v := 0) C dX2_canStrike_2 (by decide) ?_
  refine e_istore_n (ls2 := [(2, .int 0), (1, .int 0), (0, .ref (ρ 0))]) C hnL dX2_canStrike_3 rfl (by decide) rfl ?_
  exact e_sub [0, 1, 2] rfl (loop n 0 (by omega))
def strM (M : Mem) : Mem := up M 0 14 (if M 0 14 = 0 then 1 else 0)
def o_strike (M : Mem) (n : Nat) : Out := if M 0 15 = 0 then (if M 0 14 = 0 then (if o_can M n = 0 then rX IS M else rI (strM M 0 14) (strM M)) else rI (strM M 0 14) (strM M)) else rX IS M
set_option maxRecDepth 100000 in
set_option maxHeartbeats 4000000 in
theorem c_X2_strike {l : Launch} (hl : l.stackTraces = false) {n : Nat} {ρ : Nat → Nat} {J : Nat → Int64} {M : Mem} (hn : n ≤ 10) : CtO l yX2_strike cX2_strike 1 (some .boolean) 6 1 6 n ρ J M [.ref (ρ 0)] (o_strike M n) := by
  refine CtO.of hl (by decide +kernel) (Nat.le_of_ble_eq_true rfl) (fun Ξ hnL C => ?_)
  show E Ξ n ρ J M 0 0 0 [(0, .ref (ρ 0))] []
  refine e_aload_n (j := 0) C dX2_strike_0 rfl rfl ?_
  refine e_get2 (k := 15) (ref := "ScripHollow") C (by decide) rfl rfl mw_144 dX2_strike_1 ?_
  refine e_if_ne (tgt := 21) C dX2_strike_4 (by decide) (fun c_4 => ?_) (fun c_4 => ?_)
  · exact e_throw (text := "no strike can begin") C th_IS mw_61 mw_62 (by decide) rfl rfl dX2_strike_21 dX2_strike_24 dX2_strike_25 dX2_strike_27 dX2_strike_30 (by decide) (Nat.le_of_ble_eq_true rfl) (Nat.le_of_ble_eq_true rfl) (Nat.le_of_ble_eq_true rfl) (Nat.le_of_ble_eq_true rfl) (Nat.le_of_ble_eq_true rfl) (xO.mk (by first | contradiction | (unfold o_strike; (repeat (first | rw [if_pos (by assumption)] | rw [if_neg (by assumption)])))))
  · refine e_aload_n (j := 0) C dX2_strike_7 rfl rfl ?_
    refine e_get2 (k := 14) (ref := "ScripHollow") C (by decide) rfl rfl mw_143 dX2_strike_8 ?_
    refine e_if_ne (tgt := 31) C dX2_strike_11 (by decide) (fun c_11 => ?_) (fun c_11 => ?_)
    · refine e_aload_n (j := 0) C dX2_strike_31 rfl rfl ?_
      refine e_aload_n (j := 0) C dX2_strike_32 rfl rfl ?_
      refine e_get2 (k := 14) (ref := "ScripHollow") C (by decide) rfl rfl mw_143 dX2_strike_33 ?_
      refine e_if_ne (tgt := 43) C dX2_strike_36 (by decide) (fun c_36 => ?_) (fun c_36 => ?_)
      · refine e_iconst (v := 0) C dX2_strike_43 (by decide) ?_
        refine e_put2 (k := 14) (ref := "ScripHollow") (ty := .boolean) C (by decide) rfl rfl (by decide +kernel) rfl rfl rfl mw_143 dX2_strike_44 ?_
        refine e_aload_n (j := 0) C dX2_strike_47 rfl rfl ?_
        refine e_get2 (k := 14) (ref := "ScripHollow") C (by decide) rfl rfl mw_143 dX2_strike_48 ?_
        exact e_zret C rfl (isB.nar (by rw [up_eq]; unfold upd; rw [if_pos rfl]; first | exact Or.inl rfl | exact Or.inr rfl)) (Nat.le_of_ble_eq_true rfl) (Nat.le_of_ble_eq_true rfl) dX2_strike_51 (pO.mk (by first | contradiction | (unfold o_strike strM; (repeat (first | rw [if_pos (by assumption)] | rw [if_neg (by assumption)])))))
      · refine e_iconst (v := 1) C dX2_strike_39 (by decide) ?_
        refine e_goto (tgt := 44) C dX2_strike_40 (by decide) ?_
        refine e_put2 (k := 14) (ref := "ScripHollow") (ty := .boolean) C (by decide) rfl rfl (by decide +kernel) rfl rfl rfl mw_143 dX2_strike_44 ?_
        refine e_aload_n (j := 0) C dX2_strike_47 rfl rfl ?_
        refine e_get2 (k := 14) (ref := "ScripHollow") C (by decide) rfl rfl mw_143 dX2_strike_48 ?_
        exact e_zret C rfl (isB.nar (by rw [up_eq]; unfold upd; rw [if_pos rfl]; first | exact Or.inl rfl | exact Or.inr rfl)) (Nat.le_of_ble_eq_true rfl) (Nat.le_of_ble_eq_true rfl) dX2_strike_51 (pO.mk (by first | contradiction | (unfold o_strike strM; (repeat (first | rw [if_pos (by assumption)] | rw [if_neg (by assumption)])))))
    · refine e_aload_n (j := 0) C dX2_strike_14 rfl rfl ?_
      refine e_cV (i := 0) (nA := 0) (Cn := RX2) C (c_X2_canStrike hl hn) rfl (cnt_fix (by decide)) (fun _ => rfl) rfl rfl mw_389 mw_386 mw_387 mw_388 mw_12 (by decide +kernel) (by decide) rfl rfl (Nat.le_of_ble_eq_true rfl) dX2_strike_15 (Nat.le_of_ble_eq_true rfl) (Nat.le_of_ble_eq_true rfl) ?_
      refine e_if_ne (tgt := 31) C dX2_strike_18 (by decide) (fun c_18 => ?_) (fun c_18 => ?_)
      · refine e_aload_n (j := 0) C dX2_strike_31 rfl rfl ?_
        refine e_aload_n (j := 0) C dX2_strike_32 rfl rfl ?_
        refine e_get2 (k := 14) (ref := "ScripHollow") C (by decide) rfl rfl mw_143 dX2_strike_33 ?_
        refine e_if_ne (tgt := 43) C dX2_strike_36 (by decide) (fun c_36 => ?_) (fun c_36 => ?_)
        · refine e_iconst (v := 0) C dX2_strike_43 (by decide) ?_
          refine e_put2 (k := 14) (ref := "ScripHollow") (ty := .boolean) C (by decide) rfl rfl (by decide +kernel) rfl rfl rfl mw_143 dX2_strike_44 ?_
          refine e_aload_n (j := 0) C dX2_strike_47 rfl rfl ?_
          refine e_get2 (k := 14) (ref := "ScripHollow") C (by decide) rfl rfl mw_143 dX2_strike_48 ?_
          exact e_zret C rfl (isB.nar (by rw [up_eq]; unfold upd; rw [if_pos rfl]; first | exact Or.inl rfl | exact Or.inr rfl)) (Nat.le_of_ble_eq_true rfl) (Nat.le_of_ble_eq_true rfl) dX2_strike_51 (pO.mk (by first | contradiction | (unfold o_strike strM; (repeat (first | rw [if_pos (by assumption)] | rw [if_neg (by assumption)])))))
        · refine e_iconst (v := 1) C dX2_strike_39 (by decide) ?_
          refine e_goto (tgt := 44) C dX2_strike_40 (by decide) ?_
          refine e_put2 (k := 14) (ref := "ScripHollow") (ty := .boolean) C (by decide) rfl rfl (by decide +kernel) rfl rfl rfl mw_143 dX2_strike_44 ?_
          refine e_aload_n (j := 0) C dX2_strike_47 rfl rfl ?_
          refine e_get2 (k := 14) (ref := "ScripHollow") C (by decide) rfl rfl mw_143 dX2_strike_48 ?_
          exact e_zret C rfl (isB.nar (by rw [up_eq]; unfold upd; rw [if_pos rfl]; first | exact Or.inl rfl | exact Or.inr rfl)) (Nat.le_of_ble_eq_true rfl) (Nat.le_of_ble_eq_true rfl) dX2_strike_51 (pO.mk (by first | contradiction | (unfold o_strike strM; (repeat (first | rw [if_pos (by assumption)] | rw [if_neg (by assumption)])))))
      · exact e_throw (text := "no strike can begin") C th_IS mw_61 mw_62 (by decide) rfl rfl dX2_strike_21 dX2_strike_24 dX2_strike_25 dX2_strike_27 dX2_strike_30 (by decide) (Nat.le_of_ble_eq_true rfl) (Nat.le_of_ble_eq_true rfl) (Nat.le_of_ble_eq_true rfl) (Nat.le_of_ble_eq_true rfl) (Nat.le_of_ble_eq_true rfl) (xO.mk (by first | contradiction | (unfold o_strike; (repeat (first | rw [if_pos (by assumption)] | rw [if_neg (by assumption)])))))
set_option maxRecDepth 100000 in
set_option maxHeartbeats 4000000 in
theorem c_X2_baskets_x {l : Launch} (hl : l.stackTraces = false) {n : Nat} {ρ : Nat → Nat} {J : Nat → Int64} {M : Mem} {x : Int32} (h : x < 0 ∨ nI n ≤ x) : CtO l yX2_baskets cX2_baskets 5 (some .int) 8 1 6 n ρ J M [.ref (ρ 0), .int x] (rX IX M) := by
  refine CtO.of hl (by decide +kernel) (Nat.le_of_ble_eq_true rfl) (fun Ξ hnL C => ?_)
  show E Ξ n ρ J M 0 0 0 [(0, .ref (ρ 0)), (1, .int x)] []
  refine e_aload_n (j := 0) C dX2_baskets_0 rfl rfl ?_
  refine e_iload_n (j := 1) C dX2_baskets_1 rfl rfl ?_
  exact e_cVx (i := 0) (nA := 1) (Cn := RX2) C (c_X2_minerAt_x hl h) rfl (cnt_fix (by decide)) (fun _ => rfl) rfl rfl mw_150 mw_147 mw_148 mw_149 mw_12 (by decide +kernel) (by decide) rfl rfl (Nat.le_of_ble_eq_true rfl) dX2_baskets_2 (Nat.le_of_ble_eq_true rfl) (Nat.le_of_ble_eq_true rfl) rfl
def bask (M : Mem) (k : Nat) : Nat → Int32
  | 0 => 0
  | g + 1 => bask M k g + sPrice M k g
def o_bask (M : Mem) (k : Nat) : Int32 := if bask M k 4 ≤ 0 then 0 else M (mO k) 9 / bask M k 4
set_option maxRecDepth 100000 in
set_option maxHeartbeats 4000000 in
theorem c_X2_baskets {l : Launch} (hl : l.stackTraces = false) {n : Nat} {ρ : Nat → Nat} {J : Nat → Int64} {M : Mem} {k : Nat} (hk : k < n) (hn : n ≤ 10) : CtO l yX2_baskets cX2_baskets 5 (some .int) 8 1 6 n ρ J M [.ref (ρ 0), .int (nI k)] (rI (o_bask M k) M) := by
  refine CtO.of hl (by decide +kernel) (Nat.le_of_ble_eq_true rfl) (fun Ξ hnL C => ?_)
  show E Ξ n ρ J M 0 0 0 [(0, .ref (ρ 0)), (1, .int (nI k))] []
  have loop : ∀ (f g : Nat), g + f = 4 → E Ξ n ρ J M 1 6 11 [(4, .int (nI g)), (3, .int (bask M k g)), (2, .ref (ρ (mO k))), (0, .ref (ρ 0)), (1, .int (nI k))] [] := by
    intro f
    induction f with
    | zero =>
      intro g hg4
      have hg5 : g = 4 := by omega
      subst hg5
      refine e_iload (j := 0) C dX2_baskets_11 rfl ?_
      refine e_iconst (v := 4) C dX2_baskets_13 (by decide) ?_
      refine e_icmp_ge (tgt := 33) C dX2_baskets_14 (by decide) (fun c_14 => ?_) (fun c_14 => absurd (show (4 : Int32) ≤ nI 4 by decide) c_14)
      refine e_iload_n (j := 1) C dX2_baskets_33 rfl rfl ?_
      refine e_if_le (tgt := 46) C dX2_baskets_34 (by decide) (fun c_34 => ?_) (fun c_34 => ?_)
      · refine e_iconst (v := 0) C dX2_baskets_46 (by decide) ?_
        exact e_iret C rfl (Nat.le_of_ble_eq_true rfl) (Nat.le_of_ble_eq_true rfl) dX2_baskets_47 (pO.mk (by unfold o_bask; (repeat (first | rw [if_pos (by assumption)] | rw [if_neg (by assumption)]))))
      · refine e_aload_n (j := 2) C dX2_baskets_37 rfl rfl ?_
        refine e_get0 (k := 9) (kk0 := k) (ref := "ScripHollow$Miner") C hk (by decide) rfl rfl mw_196 dX2_baskets_38 ?_
        refine e_iload_n (j := 1) C dX2_baskets_41 rfl rfl ?_
        refine e_idiv C dX2_baskets_42 (fun q => c_34 (by rw [q]; decide)) ?_
        refine e_goto (tgt := 47) C dX2_baskets_43 (by decide) ?_
        exact e_iret C rfl (Nat.le_of_ble_eq_true rfl) (Nat.le_of_ble_eq_true rfl) dX2_baskets_47 (pO.mk (by unfold o_bask; (repeat (first | rw [if_pos (by assumption)] | rw [if_neg (by assumption)]))))
    | succ f ih =>
      intro g hgf
      have hg : g < 4 := by omega
      refine e_iload (j := 0) C dX2_baskets_11 rfl ?_
      refine e_iconst (v := 4) C dX2_baskets_13 (by decide) ?_
      refine e_icmp_ge (tgt := 33) C dX2_baskets_14 (by decide) (fun c_14 => absurd c_14 (nI_ge (a := g) (b := 4) hg (by omega))) (fun c_14 => ?_)
      refine e_iload_n (j := 1) C dX2_baskets_17 rfl rfl ?_
      refine e_aload_n (j := 3) C dX2_baskets_18 rfl rfl ?_
      refine e_aload_n (j := 2) C dX2_baskets_19 rfl rfl ?_
      refine e_iload (j := 0) C dX2_baskets_20 rfl ?_
      refine e_cV (i := 0) (nA := 2) (Cn := RX2) C (c_X2_storePrice hl hk hg) rfl (cnt_fix (by decide)) (fun _ => rfl) rfl rfl mw_284 mw_281 mw_282 mw_283 mw_12 (by decide +kernel) (by decide) rfl rfl (Nat.le_of_ble_eq_true rfl) dX2_baskets_22 (Nat.le_of_ble_eq_true rfl) (Nat.le_of_ble_eq_true rfl) ?_
      refine e_iadd C dX2_baskets_25 ?_
      refine e_topi (fun x3_26 ex3_26 => ?_)
      refine e_istore_n (ls2 := [(3, .int x3_26), (4, .int (nI g)), (2, .ref (ρ (mO k))), (0, .ref (ρ 0)), (1, .int (nI k))]) C hnL dX2_baskets_26 rfl (by decide) rfl ?_
      obtain ⟨x4_27, ex4_27⟩ : ∃ z : Int32, z = (nI g) + 1 := ⟨_, rfl⟩
      refine e_iinc (j := 1) (v := x4_27) (ls2 := [(4, .int x4_27), (3, .int x3_26), (2, .ref (ρ (mO k))), (0, .ref (ρ 0)), (1, .int (nI k))]) C hnL dX2_baskets_27 rfl (by rw [ex4_27]; rfl) (by decide) rfl ?_
      refine e_goto (tgt := 11) C dX2_baskets_30 (by decide) ?_
      subst ex4_27 ex3_26
      rw [nI_1]
      exact e_sub [0, 1, 2, 3, 4] rfl (ih (g + 1) (by omega))
  refine e_aload_n (j := 0) C dX2_baskets_0 rfl rfl ?_
  refine e_iload_n (j := 1) C dX2_baskets_1 rfl rfl ?_
  refine e_cV (i := 0) (nA := 1) (Cn := RX2) C (c_X2_minerAt hl hk hn) rfl (cnt_fix (by decide)) (fun _ => rfl) rfl rfl mw_150 mw_147 mw_148 mw_149 mw_12 (by decide +kernel) (by decide) rfl rfl (Nat.le_of_ble_eq_true rfl) dX2_baskets_2 (Nat.le_of_ble_eq_true rfl) (Nat.le_of_ble_eq_true rfl) ?_
  refine e_astore_n (ls2 := [(2, .ref (ρ (mO k))), (0, .ref (ρ 0)), (1, .int (nI k))]) C hnL dX2_baskets_5 rfl (by decide) rfl ?_
  refine e_iconst (v := 0) C dX2_baskets_6 (by decide) ?_
  refine e_istore_n (ls2 := [(3, .int 0), (2, .ref (ρ (mO k))), (0, .ref (ρ 0)), (1, .int (nI k))]) C hnL dX2_baskets_7 rfl (by decide) rfl ?_
  refine e_iconst (v := 0) C dX2_baskets_8 (by decide) ?_
  refine e_istore (ls2 := [(4, .int 0), (3, .int 0), (2, .ref (ρ (mO k))), (0, .ref (ρ 0)), (1, .int (nI k))]) C hnL dX2_baskets_9 (by decide) rfl ?_
  exact e_sub [0, 1, 2, 3, 4] rfl (loop 4 0 rfl)
