/-! The law's miner(); rows of its own loop. -/
set_option maxRecDepth 100000 in
theorem w_miner {l : Launch} (hl : l.stackTraces = false) {e n : Nat} {ρ : Nat → Nat} {J : Nat → Int64} {M : Mem} (hn : n < 10) (hρ : n = 0 → ρ 27 = e) : CG (EXe e) l yL_miner (Cond.codeWith yL_miner cL_miner 3 (some .int) [(0, 8, 11, 13)] :: GW) 10 13 78 (wsd n ρ J M) [.ref (ρ 0), .ref (ρ 8)] (fun v w2 => v = some (.int 0) ∧ ∃ ρ' : Nat → Nat, (∀ i, i < 27 → ρ' i = ρ i) ∧ w2 = wsd (n + 1) ρ' (vp_updL J 0 (nI n).toInt64) (newM M n)) (fun _ _ => False) := by
  refine CG.ofH EXe.gp hl (by decide +kernel) (Nat.le_of_ble_eq_true rfl) (fun Ξ hnL C => ?_)
  show G Ξ (wsd n ρ J M) 0 0 0 [(0, .ref (ρ 0)), (1, .ref (ρ 8))] []
  have B := C.b
  refine g_aload_n (j := 1) B dL_miner_0 rfl rfl ?_
  refine g_iconst (v := 0) B dL_miner_1 (by decide) ?_
  refine g_aload_n (j := 0) B dL_miner_2 rfl rfl ?_
  refine g_callV (i := 0) (ci := 3) (nA := 0) (Cn := RX2) (As := []) B (c_X2_miner hl hn hρ) (fun _ _ _ h => h) EXe.carr (fun cA => ws_at (cnt_fix (by decide))) rfl rfl mw_83 mw_80 mw_81 mw_82 mw_2 (by decide +kernel) (by decide) rfl rfl (Nat.le_of_ble_eq_true rfl) dL_miner_3 ⟨(Nat.le_of_ble_eq_true rfl), (Nat.le_of_ble_eq_true rfl)⟩ (fun Ex u hx => ?_) (fun v u hvu => ?_)
  · exact hx.elim
  · obtain ⟨rfl, ρ', hr, rfl⟩ := hvu
    refine g_i2l B dL_miner_6 ?_
    rw [← hr 8 (by omega)]
    refine g_last (N := 1) 8 B (fun cA => ws_at (cnt_fix (by decide))) (vp_in_nI (n := 0) (by decide) (by decide)) dL_miner_7 ?_
    rw [wsJ]
    refine g_goto (tgt := 14) B dL_miner_8 (by decide) ?_
    refine g_iconst (v := 0) B dL_miner_14 (by decide) ?_
    exact g_iret C rfl (Nat.le_of_ble_eq_true rfl) (Nat.le_of_ble_eq_true rfl) dL_miner_15 ⟨rfl, ρ', hr, rfl⟩
set_option maxRecDepth 100000 in
theorem w_miner_x {l : Launch} (hl : l.stackTraces = false) {e n : Nat} {ρ : Nat → Nat} {J : Nat → Int64} {M : Mem}  : CG (EXe e) l yL_miner (Cond.codeWith yL_miner cL_miner 3 (some .int) [(0, 8, 11, 13)] :: GW) 10 13 78 (wsd 10 ρ J M) [.ref (ρ 0), .ref (ρ 8)] (fun v w2 => v = some (.int 1) ∧ w2 = wsd 10 ρ J M) (fun _ _ => False) := by
  refine CG.ofH EXe.gp hl (by decide +kernel) (Nat.le_of_ble_eq_true rfl) (fun Ξ hnL C => ?_)
  show G Ξ (wsd 10 ρ J M) 0 0 0 [(0, .ref (ρ 0)), (1, .ref (ρ 8))] []
  have B := C.b
  refine g_aload_n (j := 1) B dL_miner_0 rfl rfl ?_
  refine g_iconst (v := 0) B dL_miner_1 (by decide) ?_
  refine g_aload_n (j := 0) B dL_miner_2 rfl rfl ?_
  refine g_callV (i := 0) (ci := 3) (nA := 0) (Cn := RX2) (As := []) B (c_X2_miner_x hl) (fun _ _ _ h => h) EXe.carr (fun cA => ws_at (cnt_fix (by decide))) rfl rfl mw_83 mw_80 mw_81 mw_82 mw_2 (by decide +kernel) (by decide) rfl rfl (Nat.le_of_ble_eq_true rfl) dL_miner_3 ⟨(Nat.le_of_ble_eq_true rfl), (Nat.le_of_ble_eq_true rfl)⟩ (fun Ex u hx => ?_) (fun v u hvu => ?_)
  · obtain ⟨rfl, rfl⟩ := hx
    refine ⟨[], ⟨0, 8, 11, 13⟩, [], "java/lang/IllegalStateException", rfl, (fun z hz => absurd hz List.not_mem_nil), rfl, by decide, mw_79, by decide, fun q9 => ?_⟩
    refine g_astore_n (ls2 := [(2, .ref q9), (0, .ref (ρ 0)), (1, .ref (ρ 8))]) B hnL dL_miner_11 rfl (by decide) rfl ?_
    refine g_iconst (v := 1) B dL_miner_12 (by decide) ?_
    exact g_iret C rfl (Nat.le_of_ble_eq_true rfl) (Nat.le_of_ble_eq_true rfl) dL_miner_13 ⟨rfl, rfl⟩
  · exact hvu.elim
def EXl (e bs L : Nat) (xs : Nat → Int32) : EXT := fun A s H => EXe e A s H ∧ va_X bs L xs s s.heap ∧ bs < s.heap.size ∧ ¬ A bs
theorem EXl.e {e bs L : Nat} {xs : Nat → Int32} : ∀ (A : Nat → Prop) (s : State) (H : Heap), EXl e bs L xs A s H → EXe e A s H := fun _ _ _ h => h.1
theorem EXl.gp {e bs L : Nat} {xs : Nat → Int32} : ∀ (A : Nat → Prop) (s : State) (H : Heap), EXl e bs L xs A s H → GP A s H := fun _ _ _ h => h.1.1
theorem gw_goodS {own : String} {index : Nat} {y : MethodName} {w : Cond} (h : w ∈ GW) (h1 : Cond.methodLink own index y ∈ GW) (h2 : Cond.static y ∈ GW) (h3 : Cond.initialized y.cls ∈ GW) : GoodIn GW (va_wsS own index y (w :: GW)) := by
  have hm : ∀ v ∈ va_wsS own index y (w :: GW), v ∈ GW := by
    intro v hv
    unfold va_wsS at hv
    simp only [List.mem_append, List.mem_cons, List.not_mem_nil, or_false] at hv
    rcases hv with (rfl | rfl | rfl) | rfl | hv <;> assumption
  exact fun v hv => ⟨hm v hv, good_of_word (List.all_eq_true.mp gw_all v (hm v hv))⟩
section GL
variable {l : Launch} {R : Room} {cc : ByteArray} {own mn : String} {tb : List ExceptionTableEntry} {Ξ : CT}
variable {w : Wd} {a b pc e bs L : Nat} {xs : Nat → Int32} {ls ls2 : List (Nat × Value)} {st : List Value}
theorem g_sub (ks : List Nat) (h : lv_pick ls ks = ls2) (kk : G Ξ w a b pc ls2 st) : G Ξ w a b pc ls st := fun H locs lsA hP hD hS hl => kk H locs lsA hP hD hS (lv_sub hl ks h)
theorem g_sld {x : Int32} (j : Nat) (C : CB (EXl e bs L xs) l R cc own mn tb Ξ) (hx9 : x = nI j) (hj : j < L) (hL : L < 2 ^ 31) (d : decode cc pc = .ok (.iaload, 1)) (kk : G Ξ w a b (pc + 1) ls (.int (xs j) :: st)) : G Ξ w a b pc ls (.int x :: .ref bs :: st) := by
  obtain ⟨p, e9, s, m, args, below, meth, c, D, cA, A, nL, Z, rfl, hx, hb, hml, hown, hmn, hts, hK, hG, hE, htb, hA, hst⟩ := C
  intro H locs lsA hP hD hS hl
  subst hx9
  refine va_sld hx hb hE.2.1 hE.2.2.1 hE.2.2.2 hS (vp_in_nI hj hL) d ?_
  rw [nI_clamp (by omega)]
  exact kk H locs lsA hP hD hS hl
theorem g_slen (C : CB (EXl e bs L xs) l R cc own mn tb Ξ) (d : decode cc pc = .ok (.arraylength, 1)) (kk : G Ξ w a b (pc + 1) ls (.int (nI L) :: st)) : G Ξ w a b pc ls (.ref bs :: st) := by
  obtain ⟨p, e9, s, m, args, below, meth, c, D, cA, A, nL, Z, rfl, hx, hb, hml, hown, hmn, hts, hK, hG, hE, htb, hA, hst⟩ := C
  intro H locs lsA hP hD hS hl
  exact va_slen hx hb hE.2.1 hE.2.2.1 hE.2.2.2 hS d (kk H locs lsA hP hD hS hl)
theorem g_tswI {EX : EXT} {dflt lo hi : Int} {offs : Array Int} {len : Nat} {x : Int32} {off : Int} {tgt : Nat} (C : CB EX l R cc own mn tb Ξ) (d : decode cc pc = .ok (.tableswitch dflt lo hi offs, len)) (h1 : ¬ x.toInt < lo) (h2 : ¬ hi < x.toInt) (ho : offs[(x.toInt - lo).toNat]? = some off) (ht : (pc : Int) + off = (tgt : Int)) (kk : G Ξ w a b tgt ls st) : G Ξ w a b pc ls (.int x :: st) := by
  obtain ⟨p, e9, s, m, args, below, meth, c, D, cA, A, nL, Z, rfl, hx, hb, hml, hown, hmn, hts, hK, hG, hE, htb, hA, hst⟩ := C
  intro H locs lsA hP hD hS hl
  exact lv_tableIn hx hb d h1 h2 ho ht (kk H locs lsA hP hD hS hl)
end GL
theorem lcmp_self (x : Int64) : lg_cmp x x = 0 := lc0.mpr rfl
/-- a pair of methods, of the class and of the reference, that answer alike; S goes on -/
def PrI (l : Launch) (S : Nat → Nat → Mem → Prop) (yc : MethodName) (cyc : ByteArray) (mLc : Nat) (rc : Option FieldType) (ym : MethodName) (cym : ByteArray) (mLm : Nat) (rm : Option FieldType) (ts : List String) (c n : Nat) (M : Mem) (As : List Value) : Prop :=
  ∃ (h mc ms h2 : Nat) (o : Out) (x2 : Int32) (M2 : Mem), (∀ ρ J, CtO l yc cyc mLc rc h mc ms n ρ J M (.ref (ρ 0) :: As) o) ∧ h ≤ 9 ∧ mc ≤ 13 ∧ ms ≤ 78 ∧ oki ts o ∧ (∀ ρ J, CtO l ym cym mLm rm h2 0 0 n ρ J o.2 (.ref (ρ 9) :: As) (rI x2 M2)) ∧ h2 ≤ 9 ∧ M2 9 29 = cdo ts o ∧ (∀ (x : Int32) (N : Mem), o = rI x N → x = x2) ∧ S (c + 1) n M2
def PrV (l : Launch) (S : Nat → Nat → Mem → Prop) (yc : MethodName) (cyc : ByteArray) (mLc : Nat) (rc : Option FieldType) (ym : MethodName) (cym : ByteArray) (mLm : Nat) (rm : Option FieldType) (ts : List String) (c n : Nat) (M : Mem) (As : List Value) : Prop :=
  ∃ (h mc ms h2 : Nat) (o : Out) (M2 : Mem), (∀ ρ J, CtO l yc cyc mLc rc h mc ms n ρ J M (.ref (ρ 0) :: As) o) ∧ h ≤ 9 ∧ mc ≤ 13 ∧ ms ≤ 78 ∧ okv ts o ∧ (∀ ρ J, CtO l ym cym mLm rm h2 0 0 n ρ J o.2 (.ref (ρ 9) :: As) (.inr none, M2)) ∧ h2 ≤ 9 ∧ M2 9 29 = cdo ts o ∧ S (c + 1) n M2
/-- .. that throw nothing -/
def PrD (l : Launch) (S : Nat → Nat → Mem → Prop) (yc : MethodName) (cyc : ByteArray) (mLc : Nat) (rc : Option FieldType) (ym : MethodName) (cym : ByteArray) (mLm : Nat) (rm : Option FieldType) (c n : Nat) (M : Mem) (As : List Value) : Prop :=
  ∃ (x2 : Int32) (M1 M2 : Mem), (∀ ρ J, CtO l yc cyc mLc rc 0 0 0 n ρ J M (.ref (ρ 0) :: As) (rI x2 M1)) ∧ (∀ ρ J, CtO l ym cym mLm rm 0 0 0 n ρ J M1 (.ref (ρ 9) :: As) (rI x2 M2)) ∧ S (c + 1) n M2
/-- miner() -/
def PrM (l : Launch) (S : Nat → Nat → Mem → Prop) (c n : Nat) (M : Mem) : Prop :=
  (n < 10 → ∃ M2 : Mem, (∀ ρ J, CtO l yX3_miner cX3_miner 1 (some .int) 3 0 0 (n + 1) ρ J (newM M n) [.ref (ρ 9)] (rI (nI n) M2)) ∧ M2 9 29 = 0 ∧ S (c + 1) (n + 1) M2) ∧
  (n = 10 → ∃ (x2 : Int32) (M2 : Mem), (∀ ρ J, CtO l yX3_miner cX3_miner 1 (some .int) 3 0 0 10 ρ J M [.ref (ρ 9)] (rI x2 M2)) ∧ M2 9 29 = 1 ∧ S (c + 1) 10 M2)
