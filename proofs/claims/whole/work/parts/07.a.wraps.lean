/-! The law's static methods: a class's method called, its exceptions caught. -/
/-- the code of an outcome: 0, or the place of its exception -/
def cdo (ts : List String) (o : Out) : Int32 := match o.1 with
  | .inr _ => 0
  | .inl Ex => nI (ts.idxOf Ex + 1)
def Jn (J : Nat → Int64) (o : Out) : Nat → Int64 := match o.1 with
  | .inr (some (.int x)) => vp_updL J 0 x.toInt64
  | _ => J
def Jb (J : Nat → Int64) (o : Out) : Nat → Int64 := match o.1 with
  | .inr (some (.int x)) => vp_updL J 0 (if x = 0 then 0 else 1)
  | _ => J
/-- an outcome: an int, or one of these exceptions -/
def oki (ts : List String) (o : Out) : Prop := (∃ (x : Int32) (N : Mem), o = (.inr (some (.int x)), N)) ∨ ∃ (Ex : String) (N : Mem), Ex ∈ ts ∧ o = (.inl Ex, N)
def okv (ts : List String) (o : Out) : Prop := (∃ N : Mem, o = (.inr none, N)) ∨ ∃ (Ex : String) (N : Mem), Ex ∈ ts ∧ o = (.inl Ex, N)
theorem nc1 {e : Nat} : ∀ (A : Nat → Prop) (s : State) (H : Heap), EXe e A s H → va_Nc IA IX s := fun _ _ _ h => h.2.1
theorem nc2 {e : Nat} : ∀ (A : Nat → Prop) (s : State) (H : Heap), EXe e A s H → va_Nc IS IX s := fun _ _ _ h => h.2.2.1
theorem nc3 {e : Nat} : ∀ (A : Nat → Prop) (s : State) (H : Heap), EXe e A s H → va_Nc IS IA s := fun _ _ _ h => h.2.2.2.1
theorem wsJ {n : Nat} {ρ : Nat → Nat} {J J' : Nat → Int64} {M : Mem} : (fun cA => (wsd n ρ J M cA).set 8 (ρ 8, .inl (cA 2, 1, .inr (.inl J')))) = wsd n ρ J' M := funext fun _ => ws_setJ
set_option maxRecDepth 100000 in
set_option maxHeartbeats 4000000 in
theorem w_kin {l : Launch} (hl : l.stackTraces = false) {e n : Nat} {ρ : Nat → Nat} {J : Nat → Int64} {M : Mem} {x : Int32} {y : Int32} {h mc ms : Nat} {o : Out} (hc : CtO l yX2_kin cX2_kin 5 (some .int) h mc ms n ρ J M [.ref (ρ 0), .int x, .int y] o) (hh : h ≤ 9) (hmc : mc ≤ 13) (hms : ms ≤ 78) (ho : oki [IX, IA] o) :
    CG (EXe e) l yL_kin (Cond.codeWith yL_kin cL_kin 5 (some .int) [(0, 10, 13, 19), (0, 10, 17, 21)] :: GW) 10 13 78 (wsd n ρ J M) [.ref (ρ 0), .int x, .int y, .ref (ρ 8)] (fun v w2 => v = some (.int (cdo [IX, IA] o)) ∧ w2 = wsd n ρ (Jn J o) o.2) (fun _ _ => False) := by
  refine CG.ofH EXe.gp hl (by decide +kernel) (Nat.le_of_ble_eq_true rfl) (fun Ξ hnL C => ?_)
  show G Ξ (wsd n ρ J M) 0 0 0 [(0, .ref (ρ 0)), (1, .int x), (2, .int y), (3, .ref (ρ 8))] []
  have B := C.b
  refine g_aload_n (j := 3) B dL_kin_0 rfl rfl ?_
  refine g_iconst (v := 0) B dL_kin_1 (by decide) ?_
  refine g_aload_n (j := 0) B dL_kin_2 rfl rfl ?_
  refine g_iload_n (j := 1) B dL_kin_3 rfl rfl ?_
  refine g_iload_n (j := 2) B dL_kin_4 rfl rfl ?_
  refine g_callV (i := 0) (ci := 3) (nA := 2) (Cn := RX2) (As := [.int x, .int y]) B (CtO.g hc) EXe.gp carrGP (fun cA => ws_at (cnt_fix (by decide))) rfl rfl mw_176 mw_173 mw_174 mw_175 mw_2 (by decide +kernel) ⟨by show h + 1 ≤ 10; omega, by show 8 + (5 + 11) + (30 * h + 60) ≤ 30 * 10 + 60; omega⟩ rfl rfl (Nat.le_of_ble_eq_true rfl) dL_kin_5 ⟨by show 0 + mc ≤ 13; omega, by show 0 + ms ≤ 78; omega⟩ (fun Ex u hx => ?_) (fun v u hvu => ?_)
  · obtain ⟨hx1, rfl⟩ := hx
    rcases ho with ⟨x0, N, rfl⟩ | ⟨Ey, N, hE, rfl⟩
    · cases hx1
    · cases hx1
      simp only [List.mem_cons, List.not_mem_nil, or_false] at hE
      rcases hE with rfl | rfl
      · refine ⟨[], ⟨0, 10, 13, 19⟩, [⟨0, 10, 17, 21⟩], "java/lang/IndexOutOfBoundsException", rfl, (fun z hz => absurd hz List.not_mem_nil), rfl, by decide, mw_171, by decide, fun q9 => ?_⟩
        refine g_astore (ls2 := [(4, .ref q9), (0, .ref (ρ 0)), (1, .int x), (2, .int y), (3, .ref (ρ 8))]) B hnL dL_kin_13 (by decide) rfl ?_
        refine g_iconst (v := 1) B dL_kin_15 (by decide) ?_
        exact g_iret C rfl (by show 0 + mc ≤ 13; omega) (by show 0 + ms ≤ 78; omega) dL_kin_16 ⟨rfl, rfl⟩
      · refine ⟨[⟨0, 10, 13, 19⟩], ⟨0, 10, 17, 21⟩, [], "java/lang/IllegalArgumentException", rfl, (fun z hz => by have hz2 := List.mem_singleton.mp hz; subst hz2; exact Or.inr ⟨by decide, "java/lang/IndexOutOfBoundsException", mw_171, nc1⟩), rfl, by decide, mw_172, by decide, fun q9 => ?_⟩
        refine g_astore (ls2 := [(4, .ref q9), (0, .ref (ρ 0)), (1, .int x), (2, .int y), (3, .ref (ρ 8))]) B hnL dL_kin_17 (by decide) rfl ?_
        refine g_iconst (v := 2) B dL_kin_19 (by decide) ?_
        exact g_iret C rfl (by show 0 + mc ≤ 13; omega) (by show 0 + ms ≤ 78; omega) dL_kin_20 ⟨rfl, rfl⟩
  · obtain ⟨hv, rfl⟩ := hvu
    rcases ho with ⟨x0, N, rfl⟩ | ⟨Ey, N, hE, rfl⟩
    · cases hv
      refine g_i2l B dL_kin_8 ?_
      refine g_last (N := 1) 8 B (fun cA => ws_at (cnt_fix (by decide))) (vp_in_nI (n := 0) (by decide) (by decide)) dL_kin_9 ?_
      rw [wsJ]
      refine g_goto (tgt := 21) B dL_kin_10 (by decide) ?_
      refine g_iconst (v := 0) B dL_kin_21 (by decide) ?_
      exact g_iret C rfl (by show 0 + mc ≤ 13; omega) (by show 0 + ms ≤ 78; omega) dL_kin_22 ⟨rfl, rfl⟩
    · cases hv
set_option maxRecDepth 100000 in
set_option maxHeartbeats 4000000 in
theorem w_dock {l : Launch} (hl : l.stackTraces = false) {e n : Nat} {ρ : Nat → Nat} {J : Nat → Int64} {M : Mem} {x : Int32} {h mc ms : Nat} {o : Out} (hc : CtO l yX2_dock cX2_dock 3 (some .int) h mc ms n ρ J M [.ref (ρ 0), .int x] o) (hh : h ≤ 9) (hmc : mc ≤ 13) (hms : ms ≤ 78) (ho : oki [IA] o) :
    CG (EXe e) l yL_dock (Cond.codeWith yL_dock cL_dock 4 (some .int) [(0, 9, 12, 21)] :: GW) 10 13 78 (wsd n ρ J M) [.ref (ρ 0), .int x, .ref (ρ 8)] (fun v w2 => v = some (.int (cdo [IA] o)) ∧ w2 = wsd n ρ (Jn J o) o.2) (fun _ _ => False) := by
  refine CG.ofH EXe.gp hl (by decide +kernel) (Nat.le_of_ble_eq_true rfl) (fun Ξ hnL C => ?_)
  show G Ξ (wsd n ρ J M) 0 0 0 [(0, .ref (ρ 0)), (1, .int x), (2, .ref (ρ 8))] []
  have B := C.b
  refine g_aload_n (j := 2) B dL_dock_0 rfl rfl ?_
  refine g_iconst (v := 0) B dL_dock_1 (by decide) ?_
  refine g_aload_n (j := 0) B dL_dock_2 rfl rfl ?_
  refine g_iload_n (j := 1) B dL_dock_3 rfl rfl ?_
  refine g_callV (i := 0) (ci := 3) (nA := 1) (Cn := RX2) (As := [.int x]) B (CtO.g hc) EXe.gp carrGP (fun cA => ws_at (cnt_fix (by decide))) rfl rfl mw_223 mw_220 mw_221 mw_222 mw_2 (by decide +kernel) ⟨by show h + 1 ≤ 10; omega, by show 8 + (3 + 11) + (30 * h + 60) ≤ 30 * 10 + 60; omega⟩ rfl rfl (Nat.le_of_ble_eq_true rfl) dL_dock_4 ⟨by show 0 + mc ≤ 13; omega, by show 0 + ms ≤ 78; omega⟩ (fun Ex u hx => ?_) (fun v u hvu => ?_)
  · obtain ⟨hx1, rfl⟩ := hx
    rcases ho with ⟨x0, N, rfl⟩ | ⟨Ey, N, hE, rfl⟩
    · cases hx1
    · cases hx1
      simp only [List.mem_cons, List.not_mem_nil, or_false] at hE
      subst hE
      refine ⟨[], ⟨0, 9, 12, 21⟩, [], "java/lang/IllegalArgumentException", rfl, (fun z hz => absurd hz List.not_mem_nil), rfl, by decide, mw_172, by decide, fun q9 => ?_⟩
      refine g_astore_n (ls2 := [(3, .ref q9), (0, .ref (ρ 0)), (1, .int x), (2, .ref (ρ 8))]) B hnL dL_dock_12 rfl (by decide) rfl ?_
      refine g_iconst (v := 1) B dL_dock_13 (by decide) ?_
      exact g_iret C rfl (by show 0 + mc ≤ 13; omega) (by show 0 + ms ≤ 78; omega) dL_dock_14 ⟨rfl, rfl⟩
  · obtain ⟨hv, rfl⟩ := hvu
    rcases ho with ⟨x0, N, rfl⟩ | ⟨Ey, N, hE, rfl⟩
    · cases hv
      refine g_i2l B dL_dock_7 ?_
      refine g_last (N := 1) 8 B (fun cA => ws_at (cnt_fix (by decide))) (vp_in_nI (n := 0) (by decide) (by decide)) dL_dock_8 ?_
      rw [wsJ]
      refine g_goto (tgt := 15) B dL_dock_9 (by decide) ?_
      refine g_iconst (v := 0) B dL_dock_15 (by decide) ?_
      exact g_iret C rfl (by show 0 + mc ≤ 13; omega) (by show 0 + ms ≤ 78; omega) dL_dock_16 ⟨rfl, rfl⟩
    · cases hv
set_option maxRecDepth 100000 in
set_option maxHeartbeats 4000000 in
theorem w_hew {l : Launch} (hl : l.stackTraces = false) {e n : Nat} {ρ : Nat → Nat} {J : Nat → Int64} {M : Mem} {x : Int32} {y : Int32} {h mc ms : Nat} {o : Out} (hc : CtO l yX2_hew cX2_hew 4 (some .int) h mc ms n ρ J M [.ref (ρ 0), .int x, .int y] o) (hh : h ≤ 9) (hmc : mc ≤ 13) (hms : ms ≤ 78) (ho : oki [IX, IA, IS] o) :
    CG (EXe e) l yL_hew (Cond.codeWith yL_hew cL_hew 5 (some .int) [(0, 10, 13, 19), (0, 10, 17, 21), (0, 10, 21, 13)] :: GW) 10 13 78 (wsd n ρ J M) [.ref (ρ 0), .int x, .int y, .ref (ρ 8)] (fun v w2 => v = some (.int (cdo [IX, IA, IS] o)) ∧ w2 = wsd n ρ (Jn J o) o.2) (fun _ _ => False) := by
  refine CG.ofH EXe.gp hl (by decide +kernel) (Nat.le_of_ble_eq_true rfl) (fun Ξ hnL C => ?_)
  show G Ξ (wsd n ρ J M) 0 0 0 [(0, .ref (ρ 0)), (1, .int x), (2, .int y), (3, .ref (ρ 8))] []
  have B := C.b
  refine g_aload_n (j := 3) B dL_hew_0 rfl rfl ?_
  refine g_iconst (v := 0) B dL_hew_1 (by decide) ?_
  refine g_aload_n (j := 0) B dL_hew_2 rfl rfl ?_
  refine g_iload_n (j := 1) B dL_hew_3 rfl rfl ?_
  refine g_iload_n (j := 2) B dL_hew_4 rfl rfl ?_
  refine g_callV (i := 0) (ci := 3) (nA := 2) (Cn := RX2) (As := [.int x, .int y]) B (CtO.g hc) EXe.gp carrGP (fun cA => ws_at (cnt_fix (by decide))) rfl rfl mw_247 mw_244 mw_245 mw_246 mw_2 (by decide +kernel) ⟨by show h + 1 ≤ 10; omega, by show 8 + (4 + 11) + (30 * h + 60) ≤ 30 * 10 + 60; omega⟩ rfl rfl (Nat.le_of_ble_eq_true rfl) dL_hew_5 ⟨by show 0 + mc ≤ 13; omega, by show 0 + ms ≤ 78; omega⟩ (fun Ex u hx => ?_) (fun v u hvu => ?_)
  · obtain ⟨hx1, rfl⟩ := hx
    rcases ho with ⟨x0, N, rfl⟩ | ⟨Ey, N, hE, rfl⟩
    · cases hx1
    · cases hx1
      simp only [List.mem_cons, List.not_mem_nil, or_false] at hE
      rcases hE with rfl | rfl | rfl
      · refine ⟨[], ⟨0, 10, 13, 19⟩, [⟨0, 10, 17, 21⟩, ⟨0, 10, 21, 13⟩], "java/lang/IndexOutOfBoundsException", rfl, (fun z hz => absurd hz List.not_mem_nil), rfl, by decide, mw_171, by decide, fun q9 => ?_⟩
        refine g_astore (ls2 := [(4, .ref q9), (0, .ref (ρ 0)), (1, .int x), (2, .int y), (3, .ref (ρ 8))]) B hnL dL_hew_13 (by decide) rfl ?_
        refine g_iconst (v := 1) B dL_hew_15 (by decide) ?_
        exact g_iret C rfl (by show 0 + mc ≤ 13; omega) (by show 0 + ms ≤ 78; omega) dL_hew_16 ⟨rfl, rfl⟩
      · refine ⟨[⟨0, 10, 13, 19⟩], ⟨0, 10, 17, 21⟩, [⟨0, 10, 21, 13⟩], "java/lang/IllegalArgumentException", rfl, (fun z hz => by have hz2 := List.mem_singleton.mp hz; subst hz2; exact Or.inr ⟨by decide, "java/lang/IndexOutOfBoundsException", mw_171, nc1⟩), rfl, by decide, mw_172, by decide, fun q9 => ?_⟩
        refine g_astore (ls2 := [(4, .ref q9), (0, .ref (ρ 0)), (1, .int x), (2, .int y), (3, .ref (ρ 8))]) B hnL dL_hew_17 (by decide) rfl ?_
        refine g_iconst (v := 2) B dL_hew_19 (by decide) ?_
        exact g_iret C rfl (by show 0 + mc ≤ 13; omega) (by show 0 + ms ≤ 78; omega) dL_hew_20 ⟨rfl, rfl⟩
      · refine ⟨[⟨0, 10, 13, 19⟩, ⟨0, 10, 17, 21⟩], ⟨0, 10, 21, 13⟩, [], "java/lang/IllegalStateException", rfl, (fun z hz => by simp only [List.mem_cons, List.not_mem_nil, or_false] at hz; rcases hz with rfl | rfl <;> first | exact Or.inr ⟨by decide, "java/lang/IndexOutOfBoundsException", mw_171, nc2⟩ | exact Or.inr ⟨by decide, "java/lang/IllegalArgumentException", mw_172, nc3⟩), rfl, by decide, mw_79, by decide, fun q9 => ?_⟩
        refine g_astore (ls2 := [(4, .ref q9), (0, .ref (ρ 0)), (1, .int x), (2, .int y), (3, .ref (ρ 8))]) B hnL dL_hew_21 (by decide) rfl ?_
        refine g_iconst (v := 3) B dL_hew_23 (by decide) ?_
        exact g_iret C rfl (by show 0 + mc ≤ 13; omega) (by show 0 + ms ≤ 78; omega) dL_hew_24 ⟨rfl, rfl⟩
  · obtain ⟨hv, rfl⟩ := hvu
    rcases ho with ⟨x0, N, rfl⟩ | ⟨Ey, N, hE, rfl⟩
    · cases hv
      refine g_i2l B dL_hew_8 ?_
      refine g_last (N := 1) 8 B (fun cA => ws_at (cnt_fix (by decide))) (vp_in_nI (n := 0) (by decide) (by decide)) dL_hew_9 ?_
      rw [wsJ]
      refine g_goto (tgt := 25) B dL_hew_10 (by decide) ?_
      refine g_iconst (v := 0) B dL_hew_25 (by decide) ?_
      exact g_iret C rfl (by show 0 + mc ≤ 13; omega) (by show 0 + ms ≤ 78; omega) dL_hew_26 ⟨rfl, rfl⟩
    · cases hv
set_option maxRecDepth 100000 in
set_option maxHeartbeats 4000000 in
theorem w_edition {l : Launch} (hl : l.stackTraces = false) {e n : Nat} {ρ : Nat → Nat} {J : Nat → Int64} {M : Mem} {x : Int32} {h mc ms : Nat} {o : Out} (hc : CtO l yX2_edition cX2_edition 3 (some .int) h mc ms n ρ J M [.ref (ρ 0), .int x] o) (hh : h ≤ 9) (hmc : mc ≤ 13) (hms : ms ≤ 78) (ho : oki [IA] o) :
    CG (EXe e) l yL_edition (Cond.codeWith yL_edition cL_edition 4 (some .int) [(0, 9, 12, 21)] :: GW) 10 13 78 (wsd n ρ J M) [.ref (ρ 0), .int x, .ref (ρ 8)] (fun v w2 => v = some (.int (cdo [IA] o)) ∧ w2 = wsd n ρ (Jn J o) o.2) (fun _ _ => False) := by
  refine CG.ofH EXe.gp hl (by decide +kernel) (Nat.le_of_ble_eq_true rfl) (fun Ξ hnL C => ?_)
  show G Ξ (wsd n ρ J M) 0 0 0 [(0, .ref (ρ 0)), (1, .int x), (2, .ref (ρ 8))] []
  have B := C.b
  refine g_aload_n (j := 2) B dL_edition_0 rfl rfl ?_
  refine g_iconst (v := 0) B dL_edition_1 (by decide) ?_
  refine g_aload_n (j := 0) B dL_edition_2 rfl rfl ?_
  refine g_iload_n (j := 1) B dL_edition_3 rfl rfl ?_
  refine g_callV (i := 0) (ci := 3) (nA := 1) (Cn := RX2) (As := [.int x]) B (CtO.g hc) EXe.gp carrGP (fun cA => ws_at (cnt_fix (by decide))) rfl rfl mw_271 mw_268 mw_269 mw_270 mw_2 (by decide +kernel) ⟨by show h + 1 ≤ 10; omega, by show 8 + (3 + 11) + (30 * h + 60) ≤ 30 * 10 + 60; omega⟩ rfl rfl (Nat.le_of_ble_eq_true rfl) dL_edition_4 ⟨by show 0 + mc ≤ 13; omega, by show 0 + ms ≤ 78; omega⟩ (fun Ex u hx => ?_) (fun v u hvu => ?_)
  · obtain ⟨hx1, rfl⟩ := hx
    rcases ho with ⟨x0, N, rfl⟩ | ⟨Ey, N, hE, rfl⟩
    · cases hx1
    · cases hx1
      simp only [List.mem_cons, List.not_mem_nil, or_false] at hE
      subst hE
      refine ⟨[], ⟨0, 9, 12, 21⟩, [], "java/lang/IllegalArgumentException", rfl, (fun z hz => absurd hz List.not_mem_nil), rfl, by decide, mw_172, by decide, fun q9 => ?_⟩
      refine g_astore_n (ls2 := [(3, .ref q9), (0, .ref (ρ 0)), (1, .int x), (2, .ref (ρ 8))]) B hnL dL_edition_12 rfl (by decide) rfl ?_
      refine g_iconst (v := 1) B dL_edition_13 (by decide) ?_
      exact g_iret C rfl (by show 0 + mc ≤ 13; omega) (by show 0 + ms ≤ 78; omega) dL_edition_14 ⟨rfl, rfl⟩
  · obtain ⟨hv, rfl⟩ := hvu
    rcases ho with ⟨x0, N, rfl⟩ | ⟨Ey, N, hE, rfl⟩
    · cases hv
      refine g_i2l B dL_edition_7 ?_
      refine g_last (N := 1) 8 B (fun cA => ws_at (cnt_fix (by decide))) (vp_in_nI (n := 0) (by decide) (by decide)) dL_edition_8 ?_
      rw [wsJ]
      refine g_goto (tgt := 15) B dL_edition_9 (by decide) ?_
      refine g_iconst (v := 0) B dL_edition_15 (by decide) ?_
      exact g_iret C rfl (by show 0 + mc ≤ 13; omega) (by show 0 + ms ≤ 78; omega) dL_edition_16 ⟨rfl, rfl⟩
    · cases hv
set_option maxRecDepth 100000 in
set_option maxHeartbeats 4000000 in
theorem w_tell {l : Launch} (hl : l.stackTraces = false) {e n : Nat} {ρ : Nat → Nat} {J : Nat → Int64} {M : Mem} {x : Int32} {y : Int32} {h mc ms : Nat} {o : Out} (hc : CtO l yX2_tell cX2_tell 4 (some .int) h mc ms n ρ J M [.ref (ρ 0), .int x, .int y] o) (hh : h ≤ 9) (hmc : mc ≤ 13) (hms : ms ≤ 78) (ho : oki [IA] o) :
    CG (EXe e) l yL_tell (Cond.codeWith yL_tell cL_tell 5 (some .int) [(0, 10, 13, 21)] :: GW) 10 13 78 (wsd n ρ J M) [.ref (ρ 0), .int x, .int y, .ref (ρ 8)] (fun v w2 => v = some (.int (cdo [IA] o)) ∧ w2 = wsd n ρ (Jn J o) o.2) (fun _ _ => False) := by
  refine CG.ofH EXe.gp hl (by decide +kernel) (Nat.le_of_ble_eq_true rfl) (fun Ξ hnL C => ?_)
  show G Ξ (wsd n ρ J M) 0 0 0 [(0, .ref (ρ 0)), (1, .int x), (2, .int y), (3, .ref (ρ 8))] []
  have B := C.b
  refine g_aload_n (j := 3) B dL_tell_0 rfl rfl ?_
  refine g_iconst (v := 0) B dL_tell_1 (by decide) ?_
  refine g_aload_n (j := 0) B dL_tell_2 rfl rfl ?_
  refine g_iload_n (j := 1) B dL_tell_3 rfl rfl ?_
  refine g_iload_n (j := 2) B dL_tell_4 rfl rfl ?_
  refine g_callV (i := 0) (ci := 3) (nA := 2) (Cn := RX2) (As := [.int x, .int y]) B (CtO.g hc) EXe.gp carrGP (fun cA => ws_at (cnt_fix (by decide))) rfl rfl mw_288 mw_285 mw_286 mw_287 mw_2 (by decide +kernel) ⟨by show h + 1 ≤ 10; omega, by show 8 + (4 + 11) + (30 * h + 60) ≤ 30 * 10 + 60; omega⟩ rfl rfl (Nat.le_of_ble_eq_true rfl) dL_tell_5 ⟨by show 0 + mc ≤ 13; omega, by show 0 + ms ≤ 78; omega⟩ (fun Ex u hx => ?_) (fun v u hvu => ?_)
  · obtain ⟨hx1, rfl⟩ := hx
    rcases ho with ⟨x0, N, rfl⟩ | ⟨Ey, N, hE, rfl⟩
    · cases hx1
    · cases hx1
      simp only [List.mem_cons, List.not_mem_nil, or_false] at hE
      subst hE
      refine ⟨[], ⟨0, 10, 13, 21⟩, [], "java/lang/IllegalArgumentException", rfl, (fun z hz => absurd hz List.not_mem_nil), rfl, by decide, mw_172, by decide, fun q9 => ?_⟩
      refine g_astore (ls2 := [(4, .ref q9), (0, .ref (ρ 0)), (1, .int x), (2, .int y), (3, .ref (ρ 8))]) B hnL dL_tell_13 (by decide) rfl ?_
      refine g_iconst (v := 1) B dL_tell_15 (by decide) ?_
      exact g_iret C rfl (by show 0 + mc ≤ 13; omega) (by show 0 + ms ≤ 78; omega) dL_tell_16 ⟨rfl, rfl⟩
  · obtain ⟨hv, rfl⟩ := hvu
    rcases ho with ⟨x0, N, rfl⟩ | ⟨Ey, N, hE, rfl⟩
    · cases hv
      refine g_i2l B dL_tell_8 ?_
      refine g_last (N := 1) 8 B (fun cA => ws_at (cnt_fix (by decide))) (vp_in_nI (n := 0) (by decide) (by decide)) dL_tell_9 ?_
      rw [wsJ]
      refine g_goto (tgt := 17) B dL_tell_10 (by decide) ?_
      refine g_iconst (v := 0) B dL_tell_17 (by decide) ?_
      exact g_iret C rfl (by show 0 + mc ≤ 13; omega) (by show 0 + ms ≤ 78; omega) dL_tell_18 ⟨rfl, rfl⟩
    · cases hv
set_option maxRecDepth 100000 in
set_option maxHeartbeats 4000000 in
theorem w_payday {l : Launch} (hl : l.stackTraces = false) {e n : Nat} {ρ : Nat → Nat} {J : Nat → Int64} {M : Mem} {h mc ms : Nat} {o : Out} (hc : CtO l yX2_payday cX2_payday 4 (some .int) h mc ms n ρ J M [.ref (ρ 0)] o) (hh : h ≤ 9) (hmc : mc ≤ 13) (hms : ms ≤ 78) (ho : oki [IS] o) :
    CG (EXe e) l yL_payday (Cond.codeWith yL_payday cL_payday 3 (some .int) [(0, 8, 11, 13)] :: GW) 10 13 78 (wsd n ρ J M) [.ref (ρ 0), .ref (ρ 8)] (fun v w2 => v = some (.int (cdo [IS] o)) ∧ w2 = wsd n ρ (Jn J o) o.2) (fun _ _ => False) := by
  refine CG.ofH EXe.gp hl (by decide +kernel) (Nat.le_of_ble_eq_true rfl) (fun Ξ hnL C => ?_)
  show G Ξ (wsd n ρ J M) 0 0 0 [(0, .ref (ρ 0)), (1, .ref (ρ 8))] []
  have B := C.b
  refine g_aload_n (j := 1) B dL_payday_0 rfl rfl ?_
  refine g_iconst (v := 0) B dL_payday_1 (by decide) ?_
  refine g_aload_n (j := 0) B dL_payday_2 rfl rfl ?_
  refine g_callV (i := 0) (ci := 3) (nA := 0) (Cn := RX2) (As := []) B (CtO.g hc) EXe.gp carrGP (fun cA => ws_at (cnt_fix (by decide))) rfl rfl mw_299 mw_296 mw_297 mw_298 mw_2 (by decide +kernel) ⟨by show h + 1 ≤ 10; omega, by show 8 + (4 + 11) + (30 * h + 60) ≤ 30 * 10 + 60; omega⟩ rfl rfl (Nat.le_of_ble_eq_true rfl) dL_payday_3 ⟨by show 0 + mc ≤ 13; omega, by show 0 + ms ≤ 78; omega⟩ (fun Ex u hx => ?_) (fun v u hvu => ?_)
  · obtain ⟨hx1, rfl⟩ := hx
    rcases ho with ⟨x0, N, rfl⟩ | ⟨Ey, N, hE, rfl⟩
    · cases hx1
    · cases hx1
      simp only [List.mem_cons, List.not_mem_nil, or_false] at hE
      subst hE
      refine ⟨[], ⟨0, 8, 11, 13⟩, [], "java/lang/IllegalStateException", rfl, (fun z hz => absurd hz List.not_mem_nil), rfl, by decide, mw_79, by decide, fun q9 => ?_⟩
      refine g_astore_n (ls2 := [(2, .ref q9), (0, .ref (ρ 0)), (1, .ref (ρ 8))]) B hnL dL_payday_11 rfl (by decide) rfl ?_
      refine g_iconst (v := 1) B dL_payday_12 (by decide) ?_
      exact g_iret C rfl (by show 0 + mc ≤ 13; omega) (by show 0 + ms ≤ 78; omega) dL_payday_13 ⟨rfl, rfl⟩
  · obtain ⟨hv, rfl⟩ := hvu
    rcases ho with ⟨x0, N, rfl⟩ | ⟨Ey, N, hE, rfl⟩
    · cases hv
      refine g_i2l B dL_payday_6 ?_
      refine g_last (N := 1) 8 B (fun cA => ws_at (cnt_fix (by decide))) (vp_in_nI (n := 0) (by decide) (by decide)) dL_payday_7 ?_
      rw [wsJ]
      refine g_goto (tgt := 14) B dL_payday_8 (by decide) ?_
      refine g_iconst (v := 0) B dL_payday_14 (by decide) ?_
      exact g_iret C rfl (by show 0 + mc ≤ 13; omega) (by show 0 + ms ≤ 78; omega) dL_payday_15 ⟨rfl, rfl⟩
    · cases hv
set_option maxRecDepth 100000 in
set_option maxHeartbeats 4000000 in
theorem w_house {l : Launch} (hl : l.stackTraces = false) {e n : Nat} {ρ : Nat → Nat} {J : Nat → Int64} {M : Mem} {x : Int32} {h mc ms : Nat} {o : Out} (hc : CtO l yX2_house cX2_house 3 none h mc ms n ρ J M [.ref (ρ 0), .int x] o) (hh : h ≤ 9) (hmc : mc ≤ 13) (hms : ms ≤ 78) (ho : okv [IX, IS] o) :
    CG (EXe e) l yL_house (Cond.codeWith yL_house cL_house 3 (some .int) [(0, 5, 8, 19), (0, 5, 11, 13)] :: GW) 10 13 78 (wsd n ρ J M) [.ref (ρ 0), .int x] (fun v w2 => v = some (.int (cdo [IX, IS] o)) ∧ w2 = wsd n ρ J o.2) (fun _ _ => False) := by
  refine CG.ofH EXe.gp hl (by decide +kernel) (Nat.le_of_ble_eq_true rfl) (fun Ξ hnL C => ?_)
  show G Ξ (wsd n ρ J M) 0 0 0 [(0, .ref (ρ 0)), (1, .int x)] []
  have B := C.b
  refine g_aload_n (j := 0) B dL_house_0 rfl rfl ?_
  refine g_iload_n (j := 1) B dL_house_1 rfl rfl ?_
  refine g_callV (i := 0) (ci := 3) (nA := 1) (Cn := RX2) (As := [.int x]) B (CtO.g hc) EXe.gp carrGP (fun cA => ws_at (cnt_fix (by decide))) rfl rfl mw_388 mw_385 mw_386 mw_387 mw_2 (by decide +kernel) ⟨by show h + 1 ≤ 10; omega, by show 8 + (3 + 11) + (30 * h + 60) ≤ 30 * 10 + 60; omega⟩ rfl rfl (Nat.le_of_ble_eq_true rfl) dL_house_2 ⟨by show 0 + mc ≤ 13; omega, by show 0 + ms ≤ 78; omega⟩ (fun Ex u hx => ?_) (fun v u hvu => ?_)
  · obtain ⟨hx1, rfl⟩ := hx
    rcases ho with ⟨N, rfl⟩ | ⟨Ey, N, hE, rfl⟩
    · cases hx1
    · cases hx1
      simp only [List.mem_cons, List.not_mem_nil, or_false] at hE
      rcases hE with rfl | rfl
      · refine ⟨[], ⟨0, 5, 8, 19⟩, [⟨0, 5, 11, 13⟩], "java/lang/IndexOutOfBoundsException", rfl, (fun z hz => absurd hz List.not_mem_nil), rfl, by decide, mw_171, by decide, fun q9 => ?_⟩
        refine g_astore_n (ls2 := [(2, .ref q9), (0, .ref (ρ 0)), (1, .int x)]) B hnL dL_house_8 rfl (by decide) rfl ?_
        refine g_iconst (v := 1) B dL_house_9 (by decide) ?_
        exact g_iret C rfl (by show 0 + mc ≤ 13; omega) (by show 0 + ms ≤ 78; omega) dL_house_10 ⟨rfl, rfl⟩
      · refine ⟨[⟨0, 5, 8, 19⟩], ⟨0, 5, 11, 13⟩, [], "java/lang/IllegalStateException", rfl, (fun z hz => by have hz2 := List.mem_singleton.mp hz; subst hz2; exact Or.inr ⟨by decide, "java/lang/IndexOutOfBoundsException", mw_171, nc2⟩), rfl, by decide, mw_79, by decide, fun q9 => ?_⟩
        refine g_astore_n (ls2 := [(2, .ref q9), (0, .ref (ρ 0)), (1, .int x)]) B hnL dL_house_11 rfl (by decide) rfl ?_
        refine g_iconst (v := 2) B dL_house_12 (by decide) ?_
        exact g_iret C rfl (by show 0 + mc ≤ 13; omega) (by show 0 + ms ≤ 78; omega) dL_house_13 ⟨rfl, rfl⟩
  · obtain ⟨hv, rfl⟩ := hvu
    rcases ho with ⟨N, rfl⟩ | ⟨Ey, N, hE, rfl⟩
    · cases hv
      refine g_goto (tgt := 14) B dL_house_5 (by decide) ?_
      refine g_iconst (v := 0) B dL_house_14 (by decide) ?_
      exact g_iret C rfl (by show 0 + mc ≤ 13; omega) (by show 0 + ms ≤ 78; omega) dL_house_15 ⟨rfl, rfl⟩
    · cases hv
set_option maxRecDepth 100000 in
set_option maxHeartbeats 4000000 in
theorem w_price {l : Launch} (hl : l.stackTraces = false) {e n : Nat} {ρ : Nat → Nat} {J : Nat → Int64} {M : Mem} {x : Int32} {y : Int32} {z : Int32} {h mc ms : Nat} {o : Out} (hc : CtO l yX2_price cX2_price 6 (some .int) h mc ms n ρ J M [.ref (ρ 0), .int x, .int y, .int z] o) (hh : h ≤ 9) (hmc : mc ≤ 13) (hms : ms ≤ 78) (ho : oki [IX, IA] o) :
    CG (EXe e) l yL_price (Cond.codeWith yL_price cL_price 6 (some .int) [(0, 12, 15, 19), (0, 12, 19, 21)] :: GW) 10 13 78 (wsd n ρ J M) [.ref (ρ 0), .int x, .int y, .int z, .ref (ρ 8)] (fun v w2 => v = some (.int (cdo [IX, IA] o)) ∧ w2 = wsd n ρ (Jn J o) o.2) (fun _ _ => False) := by
  refine CG.ofH EXe.gp hl (by decide +kernel) (Nat.le_of_ble_eq_true rfl) (fun Ξ hnL C => ?_)
  show G Ξ (wsd n ρ J M) 0 0 0 [(0, .ref (ρ 0)), (1, .int x), (2, .int y), (3, .int z), (4, .ref (ρ 8))] []
  have B := C.b
  refine g_aload (j := 4) B dL_price_0 rfl ?_
  refine g_iconst (v := 0) B dL_price_2 (by decide) ?_
  refine g_aload_n (j := 0) B dL_price_3 rfl rfl ?_
  refine g_iload_n (j := 1) B dL_price_4 rfl rfl ?_
  refine g_iload_n (j := 2) B dL_price_5 rfl rfl ?_
  refine g_iload_n (j := 3) B dL_price_6 rfl rfl ?_
  refine g_callV (i := 0) (ci := 3) (nA := 3) (Cn := RX2) (As := [.int x, .int y, .int z]) B (CtO.g hc) EXe.gp carrGP (fun cA => ws_at (cnt_fix (by decide))) rfl rfl mw_399 mw_396 mw_397 mw_398 mw_2 (by decide +kernel) ⟨by show h + 1 ≤ 10; omega, by show 8 + (6 + 11) + (30 * h + 60) ≤ 30 * 10 + 60; omega⟩ rfl rfl (Nat.le_of_ble_eq_true rfl) dL_price_7 ⟨by show 0 + mc ≤ 13; omega, by show 0 + ms ≤ 78; omega⟩ (fun Ex u hx => ?_) (fun v u hvu => ?_)
  · obtain ⟨hx1, rfl⟩ := hx
    rcases ho with ⟨x0, N, rfl⟩ | ⟨Ey, N, hE, rfl⟩
    · cases hx1
    · cases hx1
      simp only [List.mem_cons, List.not_mem_nil, or_false] at hE
      rcases hE with rfl | rfl
      · refine ⟨[], ⟨0, 12, 15, 19⟩, [⟨0, 12, 19, 21⟩], "java/lang/IndexOutOfBoundsException", rfl, (fun z hz => absurd hz List.not_mem_nil), rfl, by decide, mw_171, by decide, fun q9 => ?_⟩
        refine g_astore (ls2 := [(5, .ref q9), (0, .ref (ρ 0)), (1, .int x), (2, .int y), (3, .int z), (4, .ref (ρ 8))]) B hnL dL_price_15 (by decide) rfl ?_
        refine g_iconst (v := 1) B dL_price_17 (by decide) ?_
        exact g_iret C rfl (by show 0 + mc ≤ 13; omega) (by show 0 + ms ≤ 78; omega) dL_price_18 ⟨rfl, rfl⟩
      · refine ⟨[⟨0, 12, 15, 19⟩], ⟨0, 12, 19, 21⟩, [], "java/lang/IllegalArgumentException", rfl, (fun z hz => by have hz2 := List.mem_singleton.mp hz; subst hz2; exact Or.inr ⟨by decide, "java/lang/IndexOutOfBoundsException", mw_171, nc1⟩), rfl, by decide, mw_172, by decide, fun q9 => ?_⟩
        refine g_astore (ls2 := [(5, .ref q9), (0, .ref (ρ 0)), (1, .int x), (2, .int y), (3, .int z), (4, .ref (ρ 8))]) B hnL dL_price_19 (by decide) rfl ?_
        refine g_iconst (v := 2) B dL_price_21 (by decide) ?_
        exact g_iret C rfl (by show 0 + mc ≤ 13; omega) (by show 0 + ms ≤ 78; omega) dL_price_22 ⟨rfl, rfl⟩
  · obtain ⟨hv, rfl⟩ := hvu
    rcases ho with ⟨x0, N, rfl⟩ | ⟨Ey, N, hE, rfl⟩
    · cases hv
      refine g_i2l B dL_price_10 ?_
      refine g_last (N := 1) 8 B (fun cA => ws_at (cnt_fix (by decide))) (vp_in_nI (n := 0) (by decide) (by decide)) dL_price_11 ?_
      rw [wsJ]
      refine g_goto (tgt := 23) B dL_price_12 (by decide) ?_
      refine g_iconst (v := 0) B dL_price_23 (by decide) ?_
      exact g_iret C rfl (by show 0 + mc ≤ 13; omega) (by show 0 + ms ≤ 78; omega) dL_price_24 ⟨rfl, rfl⟩
    · cases hv
set_option maxRecDepth 100000 in
set_option maxHeartbeats 4000000 in
theorem w_raised {l : Launch} (hl : l.stackTraces = false) {e n : Nat} {ρ : Nat → Nat} {J : Nat → Int64} {M : Mem} {x : Int32} {y : Int32} {h mc ms : Nat} {o : Out} (hc : CtO l yX2_raised cX2_raised 4 (some .int) h mc ms n ρ J M [.ref (ρ 0), .int x, .int y] o) (hh : h ≤ 9) (hmc : mc ≤ 13) (hms : ms ≤ 78) (ho : oki [IX] o) :
    CG (EXe e) l yL_raised (Cond.codeWith yL_raised cL_raised 5 (some .int) [(0, 10, 13, 19)] :: GW) 10 13 78 (wsd n ρ J M) [.ref (ρ 0), .int x, .int y, .ref (ρ 8)] (fun v w2 => v = some (.int (cdo [IX] o)) ∧ w2 = wsd n ρ (Jn J o) o.2) (fun _ _ => False) := by
  refine CG.ofH EXe.gp hl (by decide +kernel) (Nat.le_of_ble_eq_true rfl) (fun Ξ hnL C => ?_)
  show G Ξ (wsd n ρ J M) 0 0 0 [(0, .ref (ρ 0)), (1, .int x), (2, .int y), (3, .ref (ρ 8))] []
  have B := C.b
  refine g_aload_n (j := 3) B dL_raised_0 rfl rfl ?_
  refine g_iconst (v := 0) B dL_raised_1 (by decide) ?_
  refine g_aload_n (j := 0) B dL_raised_2 rfl rfl ?_
  refine g_iload_n (j := 1) B dL_raised_3 rfl rfl ?_
  refine g_iload_n (j := 2) B dL_raised_4 rfl rfl ?_
  refine g_callV (i := 0) (ci := 3) (nA := 2) (Cn := RX2) (As := [.int x, .int y]) B (CtO.g hc) EXe.gp carrGP (fun cA => ws_at (cnt_fix (by decide))) rfl rfl mw_416 mw_413 mw_414 mw_415 mw_2 (by decide +kernel) ⟨by show h + 1 ≤ 10; omega, by show 8 + (4 + 11) + (30 * h + 60) ≤ 30 * 10 + 60; omega⟩ rfl rfl (Nat.le_of_ble_eq_true rfl) dL_raised_5 ⟨by show 0 + mc ≤ 13; omega, by show 0 + ms ≤ 78; omega⟩ (fun Ex u hx => ?_) (fun v u hvu => ?_)
  · obtain ⟨hx1, rfl⟩ := hx
    rcases ho with ⟨x0, N, rfl⟩ | ⟨Ey, N, hE, rfl⟩
    · cases hx1
    · cases hx1
      simp only [List.mem_cons, List.not_mem_nil, or_false] at hE
      subst hE
      refine ⟨[], ⟨0, 10, 13, 19⟩, [], "java/lang/IndexOutOfBoundsException", rfl, (fun z hz => absurd hz List.not_mem_nil), rfl, by decide, mw_171, by decide, fun q9 => ?_⟩
      refine g_astore (ls2 := [(4, .ref q9), (0, .ref (ρ 0)), (1, .int x), (2, .int y), (3, .ref (ρ 8))]) B hnL dL_raised_13 (by decide) rfl ?_
      refine g_iconst (v := 1) B dL_raised_15 (by decide) ?_
      exact g_iret C rfl (by show 0 + mc ≤ 13; omega) (by show 0 + ms ≤ 78; omega) dL_raised_16 ⟨rfl, rfl⟩
  · obtain ⟨hv, rfl⟩ := hvu
    rcases ho with ⟨x0, N, rfl⟩ | ⟨Ey, N, hE, rfl⟩
    · cases hv
      refine g_i2l B dL_raised_8 ?_
      refine g_last (N := 1) 8 B (fun cA => ws_at (cnt_fix (by decide))) (vp_in_nI (n := 0) (by decide) (by decide)) dL_raised_9 ?_
      rw [wsJ]
      refine g_goto (tgt := 17) B dL_raised_10 (by decide) ?_
      refine g_iconst (v := 0) B dL_raised_17 (by decide) ?_
      exact g_iret C rfl (by show 0 + mc ≤ 13; omega) (by show 0 + ms ≤ 78; omega) dL_raised_18 ⟨rfl, rfl⟩
    · cases hv
set_option maxRecDepth 100000 in
set_option maxHeartbeats 4000000 in
theorem w_limit {l : Launch} (hl : l.stackTraces = false) {e n : Nat} {ρ : Nat → Nat} {J : Nat → Int64} {M : Mem} {x : Int32} {h mc ms : Nat} {o : Out} (hc : CtO l yX2_limit cX2_limit 3 (some .int) h mc ms n ρ J M [.ref (ρ 0), .int x] o) (hh : h ≤ 9) (hmc : mc ≤ 13) (hms : ms ≤ 78) (ho : oki [IA] o) :
    CG (EXe e) l yL_limit (Cond.codeWith yL_limit cL_limit 4 (some .int) [(0, 9, 12, 21)] :: GW) 10 13 78 (wsd n ρ J M) [.ref (ρ 0), .int x, .ref (ρ 8)] (fun v w2 => v = some (.int (cdo [IA] o)) ∧ w2 = wsd n ρ (Jn J o) o.2) (fun _ _ => False) := by
  refine CG.ofH EXe.gp hl (by decide +kernel) (Nat.le_of_ble_eq_true rfl) (fun Ξ hnL C => ?_)
  show G Ξ (wsd n ρ J M) 0 0 0 [(0, .ref (ρ 0)), (1, .int x), (2, .ref (ρ 8))] []
  have B := C.b
  refine g_aload_n (j := 2) B dL_limit_0 rfl rfl ?_
  refine g_iconst (v := 0) B dL_limit_1 (by decide) ?_
  refine g_aload_n (j := 0) B dL_limit_2 rfl rfl ?_
  refine g_iload_n (j := 1) B dL_limit_3 rfl rfl ?_
  refine g_callV (i := 0) (ci := 3) (nA := 1) (Cn := RX2) (As := [.int x]) B (CtO.g hc) EXe.gp carrGP (fun cA => ws_at (cnt_fix (by decide))) rfl rfl mw_436 mw_433 mw_434 mw_435 mw_2 (by decide +kernel) ⟨by show h + 1 ≤ 10; omega, by show 8 + (3 + 11) + (30 * h + 60) ≤ 30 * 10 + 60; omega⟩ rfl rfl (Nat.le_of_ble_eq_true rfl) dL_limit_4 ⟨by show 0 + mc ≤ 13; omega, by show 0 + ms ≤ 78; omega⟩ (fun Ex u hx => ?_) (fun v u hvu => ?_)
  · obtain ⟨hx1, rfl⟩ := hx
    rcases ho with ⟨x0, N, rfl⟩ | ⟨Ey, N, hE, rfl⟩
    · cases hx1
    · cases hx1
      simp only [List.mem_cons, List.not_mem_nil, or_false] at hE
      subst hE
      refine ⟨[], ⟨0, 9, 12, 21⟩, [], "java/lang/IllegalArgumentException", rfl, (fun z hz => absurd hz List.not_mem_nil), rfl, by decide, mw_172, by decide, fun q9 => ?_⟩
      refine g_astore_n (ls2 := [(3, .ref q9), (0, .ref (ρ 0)), (1, .int x), (2, .ref (ρ 8))]) B hnL dL_limit_12 rfl (by decide) rfl ?_
      refine g_iconst (v := 1) B dL_limit_13 (by decide) ?_
      exact g_iret C rfl (by show 0 + mc ≤ 13; omega) (by show 0 + ms ≤ 78; omega) dL_limit_14 ⟨rfl, rfl⟩
  · obtain ⟨hv, rfl⟩ := hvu
    rcases ho with ⟨x0, N, rfl⟩ | ⟨Ey, N, hE, rfl⟩
    · cases hv
      refine g_i2l B dL_limit_7 ?_
      refine g_last (N := 1) 8 B (fun cA => ws_at (cnt_fix (by decide))) (vp_in_nI (n := 0) (by decide) (by decide)) dL_limit_8 ?_
      rw [wsJ]
      refine g_goto (tgt := 15) B dL_limit_9 (by decide) ?_
      refine g_iconst (v := 0) B dL_limit_15 (by decide) ?_
      exact g_iret C rfl (by show 0 + mc ≤ 13; omega) (by show 0 + ms ≤ 78; omega) dL_limit_16 ⟨rfl, rfl⟩
    · cases hv
set_option maxRecDepth 100000 in
set_option maxHeartbeats 4000000 in
theorem w_whyNot {l : Launch} (hl : l.stackTraces = false) {e n : Nat} {ρ : Nat → Nat} {J : Nat → Int64} {M : Mem} {x : Int32} {y : Int32} {z : Int32} {h mc ms : Nat} {o : Out} (hc : CtO l yX2_whyNot cX2_whyNot 5 (some .int) h mc ms n ρ J M [.ref (ρ 0), .int x, .int y, .int z] o) (hh : h ≤ 9) (hmc : mc ≤ 13) (hms : ms ≤ 78) (ho : oki [IX, IA] o) :
    CG (EXe e) l yL_whyNot (Cond.codeWith yL_whyNot cL_whyNot 6 (some .int) [(0, 12, 15, 19), (0, 12, 19, 21)] :: GW) 10 13 78 (wsd n ρ J M) [.ref (ρ 0), .int x, .int y, .int z, .ref (ρ 8)] (fun v w2 => v = some (.int (cdo [IX, IA] o)) ∧ w2 = wsd n ρ (Jn J o) o.2) (fun _ _ => False) := by
  refine CG.ofH EXe.gp hl (by decide +kernel) (Nat.le_of_ble_eq_true rfl) (fun Ξ hnL C => ?_)
  show G Ξ (wsd n ρ J M) 0 0 0 [(0, .ref (ρ 0)), (1, .int x), (2, .int y), (3, .int z), (4, .ref (ρ 8))] []
  have B := C.b
  refine g_aload (j := 4) B dL_whyNot_0 rfl ?_
  refine g_iconst (v := 0) B dL_whyNot_2 (by decide) ?_
  refine g_aload_n (j := 0) B dL_whyNot_3 rfl rfl ?_
  refine g_iload_n (j := 1) B dL_whyNot_4 rfl rfl ?_
  refine g_iload_n (j := 2) B dL_whyNot_5 rfl rfl ?_
  refine g_iload_n (j := 3) B dL_whyNot_6 rfl rfl ?_
  refine g_callV (i := 0) (ci := 3) (nA := 3) (Cn := RX2) (As := [.int x, .int y, .int z]) B (CtO.g hc) EXe.gp carrGP (fun cA => ws_at (cnt_fix (by decide))) rfl rfl mw_447 mw_444 mw_445 mw_446 mw_2 (by decide +kernel) ⟨by show h + 1 ≤ 10; omega, by show 8 + (5 + 11) + (30 * h + 60) ≤ 30 * 10 + 60; omega⟩ rfl rfl (Nat.le_of_ble_eq_true rfl) dL_whyNot_7 ⟨by show 0 + mc ≤ 13; omega, by show 0 + ms ≤ 78; omega⟩ (fun Ex u hx => ?_) (fun v u hvu => ?_)
  · obtain ⟨hx1, rfl⟩ := hx
    rcases ho with ⟨x0, N, rfl⟩ | ⟨Ey, N, hE, rfl⟩
    · cases hx1
    · cases hx1
      simp only [List.mem_cons, List.not_mem_nil, or_false] at hE
      rcases hE with rfl | rfl
      · refine ⟨[], ⟨0, 12, 15, 19⟩, [⟨0, 12, 19, 21⟩], "java/lang/IndexOutOfBoundsException", rfl, (fun z hz => absurd hz List.not_mem_nil), rfl, by decide, mw_171, by decide, fun q9 => ?_⟩
        refine g_astore (ls2 := [(5, .ref q9), (0, .ref (ρ 0)), (1, .int x), (2, .int y), (3, .int z), (4, .ref (ρ 8))]) B hnL dL_whyNot_15 (by decide) rfl ?_
        refine g_iconst (v := 1) B dL_whyNot_17 (by decide) ?_
        exact g_iret C rfl (by show 0 + mc ≤ 13; omega) (by show 0 + ms ≤ 78; omega) dL_whyNot_18 ⟨rfl, rfl⟩
      · refine ⟨[⟨0, 12, 15, 19⟩], ⟨0, 12, 19, 21⟩, [], "java/lang/IllegalArgumentException", rfl, (fun z hz => by have hz2 := List.mem_singleton.mp hz; subst hz2; exact Or.inr ⟨by decide, "java/lang/IndexOutOfBoundsException", mw_171, nc1⟩), rfl, by decide, mw_172, by decide, fun q9 => ?_⟩
        refine g_astore (ls2 := [(5, .ref q9), (0, .ref (ρ 0)), (1, .int x), (2, .int y), (3, .int z), (4, .ref (ρ 8))]) B hnL dL_whyNot_19 (by decide) rfl ?_
        refine g_iconst (v := 2) B dL_whyNot_21 (by decide) ?_
        exact g_iret C rfl (by show 0 + mc ≤ 13; omega) (by show 0 + ms ≤ 78; omega) dL_whyNot_22 ⟨rfl, rfl⟩
  · obtain ⟨hv, rfl⟩ := hvu
    rcases ho with ⟨x0, N, rfl⟩ | ⟨Ey, N, hE, rfl⟩
    · cases hv
      refine g_i2l B dL_whyNot_10 ?_
      refine g_last (N := 1) 8 B (fun cA => ws_at (cnt_fix (by decide))) (vp_in_nI (n := 0) (by decide) (by decide)) dL_whyNot_11 ?_
      rw [wsJ]
      refine g_goto (tgt := 23) B dL_whyNot_12 (by decide) ?_
      refine g_iconst (v := 0) B dL_whyNot_23 (by decide) ?_
      exact g_iret C rfl (by show 0 + mc ≤ 13; omega) (by show 0 + ms ≤ 78; omega) dL_whyNot_24 ⟨rfl, rfl⟩
    · cases hv
set_option maxRecDepth 100000 in
set_option maxHeartbeats 4000000 in
theorem w_buy {l : Launch} (hl : l.stackTraces = false) {e n : Nat} {ρ : Nat → Nat} {J : Nat → Int64} {M : Mem} {x : Int32} {y : Int32} {z : Int32} {h mc ms : Nat} {o : Out} (hc : CtO l yX2_buy cX2_buy 8 (some .int) h mc ms n ρ J M [.ref (ρ 0), .int x, .int y, .int z] o) (hh : h ≤ 9) (hmc : mc ≤ 13) (hms : ms ≤ 78) (ho : oki [IX, IA, IS] o) :
    CG (EXe e) l yL_buy (Cond.codeWith yL_buy cL_buy 6 (some .int) [(0, 12, 15, 19), (0, 12, 19, 21), (0, 12, 23, 13)] :: GW) 10 13 78 (wsd n ρ J M) [.ref (ρ 0), .int x, .int y, .int z, .ref (ρ 8)] (fun v w2 => v = some (.int (cdo [IX, IA, IS] o)) ∧ w2 = wsd n ρ (Jn J o) o.2) (fun _ _ => False) := by
  refine CG.ofH EXe.gp hl (by decide +kernel) (Nat.le_of_ble_eq_true rfl) (fun Ξ hnL C => ?_)
  show G Ξ (wsd n ρ J M) 0 0 0 [(0, .ref (ρ 0)), (1, .int x), (2, .int y), (3, .int z), (4, .ref (ρ 8))] []
  have B := C.b
  refine g_aload (j := 4) B dL_buy_0 rfl ?_
  refine g_iconst (v := 0) B dL_buy_2 (by decide) ?_
  refine g_aload_n (j := 0) B dL_buy_3 rfl rfl ?_
  refine g_iload_n (j := 1) B dL_buy_4 rfl rfl ?_
  refine g_iload_n (j := 2) B dL_buy_5 rfl rfl ?_
  refine g_iload_n (j := 3) B dL_buy_6 rfl rfl ?_
  refine g_callV (i := 0) (ci := 3) (nA := 3) (Cn := RX2) (As := [.int x, .int y, .int z]) B (CtO.g hc) EXe.gp carrGP (fun cA => ws_at (cnt_fix (by decide))) rfl rfl mw_483 mw_480 mw_481 mw_482 mw_2 (by decide +kernel) ⟨by show h + 1 ≤ 10; omega, by show 8 + (8 + 11) + (30 * h + 60) ≤ 30 * 10 + 60; omega⟩ rfl rfl (Nat.le_of_ble_eq_true rfl) dL_buy_7 ⟨by show 0 + mc ≤ 13; omega, by show 0 + ms ≤ 78; omega⟩ (fun Ex u hx => ?_) (fun v u hvu => ?_)
  · obtain ⟨hx1, rfl⟩ := hx
    rcases ho with ⟨x0, N, rfl⟩ | ⟨Ey, N, hE, rfl⟩
    · cases hx1
    · cases hx1
      simp only [List.mem_cons, List.not_mem_nil, or_false] at hE
      rcases hE with rfl | rfl | rfl
      · refine ⟨[], ⟨0, 12, 15, 19⟩, [⟨0, 12, 19, 21⟩, ⟨0, 12, 23, 13⟩], "java/lang/IndexOutOfBoundsException", rfl, (fun z hz => absurd hz List.not_mem_nil), rfl, by decide, mw_171, by decide, fun q9 => ?_⟩
        refine g_astore (ls2 := [(5, .ref q9), (0, .ref (ρ 0)), (1, .int x), (2, .int y), (3, .int z), (4, .ref (ρ 8))]) B hnL dL_buy_15 (by decide) rfl ?_
        refine g_iconst (v := 1) B dL_buy_17 (by decide) ?_
        exact g_iret C rfl (by show 0 + mc ≤ 13; omega) (by show 0 + ms ≤ 78; omega) dL_buy_18 ⟨rfl, rfl⟩
      · refine ⟨[⟨0, 12, 15, 19⟩], ⟨0, 12, 19, 21⟩, [⟨0, 12, 23, 13⟩], "java/lang/IllegalArgumentException", rfl, (fun z hz => by have hz2 := List.mem_singleton.mp hz; subst hz2; exact Or.inr ⟨by decide, "java/lang/IndexOutOfBoundsException", mw_171, nc1⟩), rfl, by decide, mw_172, by decide, fun q9 => ?_⟩
        refine g_astore (ls2 := [(5, .ref q9), (0, .ref (ρ 0)), (1, .int x), (2, .int y), (3, .int z), (4, .ref (ρ 8))]) B hnL dL_buy_19 (by decide) rfl ?_
        refine g_iconst (v := 2) B dL_buy_21 (by decide) ?_
        exact g_iret C rfl (by show 0 + mc ≤ 13; omega) (by show 0 + ms ≤ 78; omega) dL_buy_22 ⟨rfl, rfl⟩
      · refine ⟨[⟨0, 12, 15, 19⟩, ⟨0, 12, 19, 21⟩], ⟨0, 12, 23, 13⟩, [], "java/lang/IllegalStateException", rfl, (fun z hz => by simp only [List.mem_cons, List.not_mem_nil, or_false] at hz; rcases hz with rfl | rfl <;> first | exact Or.inr ⟨by decide, "java/lang/IndexOutOfBoundsException", mw_171, nc2⟩ | exact Or.inr ⟨by decide, "java/lang/IllegalArgumentException", mw_172, nc3⟩), rfl, by decide, mw_79, by decide, fun q9 => ?_⟩
        refine g_astore (ls2 := [(5, .ref q9), (0, .ref (ρ 0)), (1, .int x), (2, .int y), (3, .int z), (4, .ref (ρ 8))]) B hnL dL_buy_23 (by decide) rfl ?_
        refine g_iconst (v := 3) B dL_buy_25 (by decide) ?_
        exact g_iret C rfl (by show 0 + mc ≤ 13; omega) (by show 0 + ms ≤ 78; omega) dL_buy_26 ⟨rfl, rfl⟩
  · obtain ⟨hv, rfl⟩ := hvu
    rcases ho with ⟨x0, N, rfl⟩ | ⟨Ey, N, hE, rfl⟩
    · cases hv
      refine g_i2l B dL_buy_10 ?_
      refine g_last (N := 1) 8 B (fun cA => ws_at (cnt_fix (by decide))) (vp_in_nI (n := 0) (by decide) (by decide)) dL_buy_11 ?_
      rw [wsJ]
      refine g_goto (tgt := 27) B dL_buy_12 (by decide) ?_
      refine g_iconst (v := 0) B dL_buy_27 (by decide) ?_
      exact g_iret C rfl (by show 0 + mc ≤ 13; omega) (by show 0 + ms ≤ 78; omega) dL_buy_28 ⟨rfl, rfl⟩
    · cases hv
set_option maxRecDepth 100000 in
set_option maxHeartbeats 4000000 in
theorem w_over {l : Launch} (hl : l.stackTraces = false) {e n : Nat} {ρ : Nat → Nat} {J : Nat → Int64} {M : Mem} {x : Int32} {y : Int32} {z : Int32} {h mc ms : Nat} {o : Out} (hc : CtO l yX2_over cX2_over 6 (some .int) h mc ms n ρ J M [.ref (ρ 0), .int x, .int y, .int z] o) (hh : h ≤ 9) (hmc : mc ≤ 13) (hms : ms ≤ 78) (ho : oki [IX, IA, IS] o) :
    CG (EXe e) l yL_over (Cond.codeWith yL_over cL_over 6 (some .int) [(0, 12, 15, 19), (0, 12, 19, 21), (0, 12, 23, 13)] :: GW) 10 13 78 (wsd n ρ J M) [.ref (ρ 0), .int x, .int y, .int z, .ref (ρ 8)] (fun v w2 => v = some (.int (cdo [IX, IA, IS] o)) ∧ w2 = wsd n ρ (Jn J o) o.2) (fun _ _ => False) := by
  refine CG.ofH EXe.gp hl (by decide +kernel) (Nat.le_of_ble_eq_true rfl) (fun Ξ hnL C => ?_)
  show G Ξ (wsd n ρ J M) 0 0 0 [(0, .ref (ρ 0)), (1, .int x), (2, .int y), (3, .int z), (4, .ref (ρ 8))] []
  have B := C.b
  refine g_aload (j := 4) B dL_over_0 rfl ?_
  refine g_iconst (v := 0) B dL_over_2 (by decide) ?_
  refine g_aload_n (j := 0) B dL_over_3 rfl rfl ?_
  refine g_iload_n (j := 1) B dL_over_4 rfl rfl ?_
  refine g_iload_n (j := 2) B dL_over_5 rfl rfl ?_
  refine g_iload_n (j := 3) B dL_over_6 rfl rfl ?_
  refine g_callV (i := 0) (ci := 3) (nA := 3) (Cn := RX2) (As := [.int x, .int y, .int z]) B (CtO.g hc) EXe.gp carrGP (fun cA => ws_at (cnt_fix (by decide))) rfl rfl mw_505 mw_502 mw_503 mw_504 mw_2 (by decide +kernel) ⟨by show h + 1 ≤ 10; omega, by show 8 + (6 + 11) + (30 * h + 60) ≤ 30 * 10 + 60; omega⟩ rfl rfl (Nat.le_of_ble_eq_true rfl) dL_over_7 ⟨by show 0 + mc ≤ 13; omega, by show 0 + ms ≤ 78; omega⟩ (fun Ex u hx => ?_) (fun v u hvu => ?_)
  · obtain ⟨hx1, rfl⟩ := hx
    rcases ho with ⟨x0, N, rfl⟩ | ⟨Ey, N, hE, rfl⟩
    · cases hx1
    · cases hx1
      simp only [List.mem_cons, List.not_mem_nil, or_false] at hE
      rcases hE with rfl | rfl | rfl
      · refine ⟨[], ⟨0, 12, 15, 19⟩, [⟨0, 12, 19, 21⟩, ⟨0, 12, 23, 13⟩], "java/lang/IndexOutOfBoundsException", rfl, (fun z hz => absurd hz List.not_mem_nil), rfl, by decide, mw_171, by decide, fun q9 => ?_⟩
        refine g_astore (ls2 := [(5, .ref q9), (0, .ref (ρ 0)), (1, .int x), (2, .int y), (3, .int z), (4, .ref (ρ 8))]) B hnL dL_over_15 (by decide) rfl ?_
        refine g_iconst (v := 1) B dL_over_17 (by decide) ?_
        exact g_iret C rfl (by show 0 + mc ≤ 13; omega) (by show 0 + ms ≤ 78; omega) dL_over_18 ⟨rfl, rfl⟩
      · refine ⟨[⟨0, 12, 15, 19⟩], ⟨0, 12, 19, 21⟩, [⟨0, 12, 23, 13⟩], "java/lang/IllegalArgumentException", rfl, (fun z hz => by have hz2 := List.mem_singleton.mp hz; subst hz2; exact Or.inr ⟨by decide, "java/lang/IndexOutOfBoundsException", mw_171, nc1⟩), rfl, by decide, mw_172, by decide, fun q9 => ?_⟩
        refine g_astore (ls2 := [(5, .ref q9), (0, .ref (ρ 0)), (1, .int x), (2, .int y), (3, .int z), (4, .ref (ρ 8))]) B hnL dL_over_19 (by decide) rfl ?_
        refine g_iconst (v := 2) B dL_over_21 (by decide) ?_
        exact g_iret C rfl (by show 0 + mc ≤ 13; omega) (by show 0 + ms ≤ 78; omega) dL_over_22 ⟨rfl, rfl⟩
      · refine ⟨[⟨0, 12, 15, 19⟩, ⟨0, 12, 19, 21⟩], ⟨0, 12, 23, 13⟩, [], "java/lang/IllegalStateException", rfl, (fun z hz => by simp only [List.mem_cons, List.not_mem_nil, or_false] at hz; rcases hz with rfl | rfl <;> first | exact Or.inr ⟨by decide, "java/lang/IndexOutOfBoundsException", mw_171, nc2⟩ | exact Or.inr ⟨by decide, "java/lang/IllegalArgumentException", mw_172, nc3⟩), rfl, by decide, mw_79, by decide, fun q9 => ?_⟩
        refine g_astore (ls2 := [(5, .ref q9), (0, .ref (ρ 0)), (1, .int x), (2, .int y), (3, .int z), (4, .ref (ρ 8))]) B hnL dL_over_23 (by decide) rfl ?_
        refine g_iconst (v := 3) B dL_over_25 (by decide) ?_
        exact g_iret C rfl (by show 0 + mc ≤ 13; omega) (by show 0 + ms ≤ 78; omega) dL_over_26 ⟨rfl, rfl⟩
  · obtain ⟨hv, rfl⟩ := hvu
    rcases ho with ⟨x0, N, rfl⟩ | ⟨Ey, N, hE, rfl⟩
    · cases hv
      refine g_i2l B dL_over_10 ?_
      refine g_last (N := 1) 8 B (fun cA => ws_at (cnt_fix (by decide))) (vp_in_nI (n := 0) (by decide) (by decide)) dL_over_11 ?_
      rw [wsJ]
      refine g_goto (tgt := 27) B dL_over_12 (by decide) ?_
      refine g_iconst (v := 0) B dL_over_27 (by decide) ?_
      exact g_iret C rfl (by show 0 + mc ≤ 13; omega) (by show 0 + ms ≤ 78; omega) dL_over_28 ⟨rfl, rfl⟩
    · cases hv
set_option maxRecDepth 100000 in
set_option maxHeartbeats 4000000 in
theorem w_discount {l : Launch} (hl : l.stackTraces = false) {e n : Nat} {ρ : Nat → Nat} {J : Nat → Int64} {M : Mem} {x : Int32} {h mc ms : Nat} {o : Out} (hc : CtO l yX2_discount cX2_discount 3 (some .int) h mc ms n ρ J M [.ref (ρ 0), .int x] o) (hh : h ≤ 9) (hmc : mc ≤ 13) (hms : ms ≤ 78) (ho : oki [IA] o) :
    CG (EXe e) l yL_discount (Cond.codeWith yL_discount cL_discount 4 (some .int) [(0, 9, 12, 21)] :: GW) 10 13 78 (wsd n ρ J M) [.ref (ρ 0), .int x, .ref (ρ 8)] (fun v w2 => v = some (.int (cdo [IA] o)) ∧ w2 = wsd n ρ (Jn J o) o.2) (fun _ _ => False) := by
  refine CG.ofH EXe.gp hl (by decide +kernel) (Nat.le_of_ble_eq_true rfl) (fun Ξ hnL C => ?_)
  show G Ξ (wsd n ρ J M) 0 0 0 [(0, .ref (ρ 0)), (1, .int x), (2, .ref (ρ 8))] []
  have B := C.b
  refine g_aload_n (j := 2) B dL_discount_0 rfl rfl ?_
  refine g_iconst (v := 0) B dL_discount_1 (by decide) ?_
  refine g_aload_n (j := 0) B dL_discount_2 rfl rfl ?_
  refine g_iload_n (j := 1) B dL_discount_3 rfl rfl ?_
  refine g_callV (i := 0) (ci := 3) (nA := 1) (Cn := RX2) (As := [.int x]) B (CtO.g hc) EXe.gp carrGP (fun cA => ws_at (cnt_fix (by decide))) rfl rfl mw_516 mw_513 mw_514 mw_515 mw_2 (by decide +kernel) ⟨by show h + 1 ≤ 10; omega, by show 8 + (3 + 11) + (30 * h + 60) ≤ 30 * 10 + 60; omega⟩ rfl rfl (Nat.le_of_ble_eq_true rfl) dL_discount_4 ⟨by show 0 + mc ≤ 13; omega, by show 0 + ms ≤ 78; omega⟩ (fun Ex u hx => ?_) (fun v u hvu => ?_)
  · obtain ⟨hx1, rfl⟩ := hx
    rcases ho with ⟨x0, N, rfl⟩ | ⟨Ey, N, hE, rfl⟩
    · cases hx1
    · cases hx1
      simp only [List.mem_cons, List.not_mem_nil, or_false] at hE
      subst hE
      refine ⟨[], ⟨0, 9, 12, 21⟩, [], "java/lang/IllegalArgumentException", rfl, (fun z hz => absurd hz List.not_mem_nil), rfl, by decide, mw_172, by decide, fun q9 => ?_⟩
      refine g_astore_n (ls2 := [(3, .ref q9), (0, .ref (ρ 0)), (1, .int x), (2, .ref (ρ 8))]) B hnL dL_discount_12 rfl (by decide) rfl ?_
      refine g_iconst (v := 1) B dL_discount_13 (by decide) ?_
      exact g_iret C rfl (by show 0 + mc ≤ 13; omega) (by show 0 + ms ≤ 78; omega) dL_discount_14 ⟨rfl, rfl⟩
  · obtain ⟨hv, rfl⟩ := hvu
    rcases ho with ⟨x0, N, rfl⟩ | ⟨Ey, N, hE, rfl⟩
    · cases hv
      refine g_i2l B dL_discount_7 ?_
      refine g_last (N := 1) 8 B (fun cA => ws_at (cnt_fix (by decide))) (vp_in_nI (n := 0) (by decide) (by decide)) dL_discount_8 ?_
      rw [wsJ]
      refine g_goto (tgt := 15) B dL_discount_9 (by decide) ?_
      refine g_iconst (v := 0) B dL_discount_15 (by decide) ?_
      exact g_iret C rfl (by show 0 + mc ≤ 13; omega) (by show 0 + ms ≤ 78; omega) dL_discount_16 ⟨rfl, rfl⟩
    · cases hv
set_option maxRecDepth 100000 in
set_option maxHeartbeats 4000000 in
theorem w_change {l : Launch} (hl : l.stackTraces = false) {e n : Nat} {ρ : Nat → Nat} {J : Nat → Int64} {M : Mem} {x : Int32} {y : Int32} {h mc ms : Nat} {o : Out} (hc : CtO l yX2_change cX2_change 5 (some .int) h mc ms n ρ J M [.ref (ρ 0), .int x, .int y] o) (hh : h ≤ 9) (hmc : mc ≤ 13) (hms : ms ≤ 78) (ho : oki [IX, IA, IS] o) :
    CG (EXe e) l yL_change (Cond.codeWith yL_change cL_change 5 (some .int) [(0, 10, 13, 19), (0, 10, 17, 21), (0, 10, 21, 13)] :: GW) 10 13 78 (wsd n ρ J M) [.ref (ρ 0), .int x, .int y, .ref (ρ 8)] (fun v w2 => v = some (.int (cdo [IX, IA, IS] o)) ∧ w2 = wsd n ρ (Jn J o) o.2) (fun _ _ => False) := by
  refine CG.ofH EXe.gp hl (by decide +kernel) (Nat.le_of_ble_eq_true rfl) (fun Ξ hnL C => ?_)
  show G Ξ (wsd n ρ J M) 0 0 0 [(0, .ref (ρ 0)), (1, .int x), (2, .int y), (3, .ref (ρ 8))] []
  have B := C.b
  refine g_aload_n (j := 3) B dL_change_0 rfl rfl ?_
  refine g_iconst (v := 0) B dL_change_1 (by decide) ?_
  refine g_aload_n (j := 0) B dL_change_2 rfl rfl ?_
  refine g_iload_n (j := 1) B dL_change_3 rfl rfl ?_
  refine g_iload_n (j := 2) B dL_change_4 rfl rfl ?_
  refine g_callV (i := 0) (ci := 3) (nA := 2) (Cn := RX2) (As := [.int x, .int y]) B (CtO.g hc) EXe.gp carrGP (fun cA => ws_at (cnt_fix (by decide))) rfl rfl mw_527 mw_524 mw_525 mw_526 mw_2 (by decide +kernel) ⟨by show h + 1 ≤ 10; omega, by show 8 + (5 + 11) + (30 * h + 60) ≤ 30 * 10 + 60; omega⟩ rfl rfl (Nat.le_of_ble_eq_true rfl) dL_change_5 ⟨by show 0 + mc ≤ 13; omega, by show 0 + ms ≤ 78; omega⟩ (fun Ex u hx => ?_) (fun v u hvu => ?_)
  · obtain ⟨hx1, rfl⟩ := hx
    rcases ho with ⟨x0, N, rfl⟩ | ⟨Ey, N, hE, rfl⟩
    · cases hx1
    · cases hx1
      simp only [List.mem_cons, List.not_mem_nil, or_false] at hE
      rcases hE with rfl | rfl | rfl
      · refine ⟨[], ⟨0, 10, 13, 19⟩, [⟨0, 10, 17, 21⟩, ⟨0, 10, 21, 13⟩], "java/lang/IndexOutOfBoundsException", rfl, (fun z hz => absurd hz List.not_mem_nil), rfl, by decide, mw_171, by decide, fun q9 => ?_⟩
        refine g_astore (ls2 := [(4, .ref q9), (0, .ref (ρ 0)), (1, .int x), (2, .int y), (3, .ref (ρ 8))]) B hnL dL_change_13 (by decide) rfl ?_
        refine g_iconst (v := 1) B dL_change_15 (by decide) ?_
        exact g_iret C rfl (by show 0 + mc ≤ 13; omega) (by show 0 + ms ≤ 78; omega) dL_change_16 ⟨rfl, rfl⟩
      · refine ⟨[⟨0, 10, 13, 19⟩], ⟨0, 10, 17, 21⟩, [⟨0, 10, 21, 13⟩], "java/lang/IllegalArgumentException", rfl, (fun z hz => by have hz2 := List.mem_singleton.mp hz; subst hz2; exact Or.inr ⟨by decide, "java/lang/IndexOutOfBoundsException", mw_171, nc1⟩), rfl, by decide, mw_172, by decide, fun q9 => ?_⟩
        refine g_astore (ls2 := [(4, .ref q9), (0, .ref (ρ 0)), (1, .int x), (2, .int y), (3, .ref (ρ 8))]) B hnL dL_change_17 (by decide) rfl ?_
        refine g_iconst (v := 2) B dL_change_19 (by decide) ?_
        exact g_iret C rfl (by show 0 + mc ≤ 13; omega) (by show 0 + ms ≤ 78; omega) dL_change_20 ⟨rfl, rfl⟩
      · refine ⟨[⟨0, 10, 13, 19⟩, ⟨0, 10, 17, 21⟩], ⟨0, 10, 21, 13⟩, [], "java/lang/IllegalStateException", rfl, (fun z hz => by simp only [List.mem_cons, List.not_mem_nil, or_false] at hz; rcases hz with rfl | rfl <;> first | exact Or.inr ⟨by decide, "java/lang/IndexOutOfBoundsException", mw_171, nc2⟩ | exact Or.inr ⟨by decide, "java/lang/IllegalArgumentException", mw_172, nc3⟩), rfl, by decide, mw_79, by decide, fun q9 => ?_⟩
        refine g_astore (ls2 := [(4, .ref q9), (0, .ref (ρ 0)), (1, .int x), (2, .int y), (3, .ref (ρ 8))]) B hnL dL_change_21 (by decide) rfl ?_
        refine g_iconst (v := 3) B dL_change_23 (by decide) ?_
        exact g_iret C rfl (by show 0 + mc ≤ 13; omega) (by show 0 + ms ≤ 78; omega) dL_change_24 ⟨rfl, rfl⟩
  · obtain ⟨hv, rfl⟩ := hvu
    rcases ho with ⟨x0, N, rfl⟩ | ⟨Ey, N, hE, rfl⟩
    · cases hv
      refine g_i2l B dL_change_8 ?_
      refine g_last (N := 1) 8 B (fun cA => ws_at (cnt_fix (by decide))) (vp_in_nI (n := 0) (by decide) (by decide)) dL_change_9 ?_
      rw [wsJ]
      refine g_goto (tgt := 25) B dL_change_10 (by decide) ?_
      refine g_iconst (v := 0) B dL_change_25 (by decide) ?_
      exact g_iret C rfl (by show 0 + mc ≤ 13; omega) (by show 0 + ms ≤ 78; omega) dL_change_26 ⟨rfl, rfl⟩
    · cases hv
set_option maxRecDepth 100000 in
set_option maxHeartbeats 4000000 in
theorem w_law {l : Launch} (hl : l.stackTraces = false) {e n : Nat} {ρ : Nat → Nat} {J : Nat → Int64} {M : Mem} {x : Int32} {y : Int32} {h mc ms : Nat} {o : Out} (hc : CtO l yX2_law cX2_law 4 (some .boolean) h mc ms n ρ J M [.ref (ρ 0), .int x, .int y] o) (hh : h ≤ 9) (hmc : mc ≤ 13) (hms : ms ≤ 78) (ho : oki [IX] o) :
    CG (EXe e) l yL_law (Cond.codeWith yL_law cL_law 5 (some .int) [(0, 17, 20, 19)] :: GW) 10 13 78 (wsd n ρ J M) [.ref (ρ 0), .int x, .int y, .ref (ρ 8)] (fun v w2 => v = some (.int (cdo [IX] o)) ∧ w2 = wsd n ρ (Jb J o) o.2) (fun _ _ => False) := by
  refine CG.ofH EXe.gp hl (by decide +kernel) (Nat.le_of_ble_eq_true rfl) (fun Ξ hnL C => ?_)
  show G Ξ (wsd n ρ J M) 0 0 0 [(0, .ref (ρ 0)), (1, .int x), (2, .int y), (3, .ref (ρ 8))] []
  have B := C.b
  refine g_aload_n (j := 3) B dL_law_0 rfl rfl ?_
  refine g_iconst (v := 0) B dL_law_1 (by decide) ?_
  refine g_aload_n (j := 0) B dL_law_2 rfl rfl ?_
  refine g_iload_n (j := 1) B dL_law_3 rfl rfl ?_
  refine g_iload_n (j := 2) B dL_law_4 rfl rfl ?_
  refine g_callV (i := 0) (ci := 3) (nA := 2) (Cn := RX2) (As := [.int x, .int y]) B (CtO.g hc) EXe.gp carrGP (fun cA => ws_at (cnt_fix (by decide))) rfl rfl mw_541 mw_538 mw_539 mw_540 mw_2 (by decide +kernel) ⟨by show h + 1 ≤ 10; omega, by show 8 + (4 + 11) + (30 * h + 60) ≤ 30 * 10 + 60; omega⟩ rfl rfl (Nat.le_of_ble_eq_true rfl) dL_law_5 ⟨by show 0 + mc ≤ 13; omega, by show 0 + ms ≤ 78; omega⟩ (fun Ex u hx => ?_) (fun v u hvu => ?_)
  · obtain ⟨hx1, rfl⟩ := hx
    rcases ho with ⟨x0, N, rfl⟩ | ⟨Ey, N, hE, rfl⟩
    · cases hx1
    · cases hx1
      simp only [List.mem_cons, List.not_mem_nil, or_false] at hE
      subst hE
      refine ⟨[], ⟨0, 17, 20, 19⟩, [], "java/lang/IndexOutOfBoundsException", rfl, (fun z hz => absurd hz List.not_mem_nil), rfl, by decide, mw_171, by decide, fun q9 => ?_⟩
      refine g_astore (ls2 := [(4, .ref q9), (0, .ref (ρ 0)), (1, .int x), (2, .int y), (3, .ref (ρ 8))]) B hnL dL_law_20 (by decide) rfl ?_
      refine g_iconst (v := 1) B dL_law_22 (by decide) ?_
      exact g_iret C rfl (by show 0 + mc ≤ 13; omega) (by show 0 + ms ≤ 78; omega) dL_law_23 ⟨rfl, rfl⟩
  · obtain ⟨hv, rfl⟩ := hvu
    rcases ho with ⟨x0, N, rfl⟩ | ⟨Ey, N, hE, rfl⟩
    · cases hv
      refine g_if_eq (tgt := 15) B dL_law_8 (by decide) (fun hz => ?_) (fun hz => ?_)
      · refine g_lconst (v := 0) B dL_law_15 (by decide) ?_
        refine g_last (N := 1) 8 B (fun cA => ws_at (cnt_fix (by decide))) (vp_in_nI (n := 0) (by decide) (by decide)) dL_law_16 ?_
        rw [wsJ]
        refine g_goto (tgt := 24) B dL_law_17 (by decide) ?_
        refine g_iconst (v := 0) B dL_law_24 (by decide) ?_
        exact g_iret C rfl (by show 0 + mc ≤ 13; omega) (by show 0 + ms ≤ 78; omega) dL_law_25 ⟨rfl, by unfold Jb; dsimp only; rw [if_pos hz]; rfl⟩
      · refine g_lconst (v := 1) B dL_law_11 (by decide) ?_
        refine g_goto (tgt := 16) B dL_law_12 (by decide) ?_
        refine g_last (N := 1) 8 B (fun cA => ws_at (cnt_fix (by decide))) (vp_in_nI (n := 0) (by decide) (by decide)) dL_law_16 ?_
        rw [wsJ]
        refine g_goto (tgt := 24) B dL_law_17 (by decide) ?_
        refine g_iconst (v := 0) B dL_law_24 (by decide) ?_
        exact g_iret C rfl (by show 0 + mc ≤ 13; omega) (by show 0 + ms ≤ 78; omega) dL_law_25 ⟨rfl, by unfold Jb; dsimp only; rw [if_neg hz]; rfl⟩
    · cases hv
set_option maxRecDepth 100000 in
set_option maxHeartbeats 4000000 in
theorem w_die {l : Launch} (hl : l.stackTraces = false) {e n : Nat} {ρ : Nat → Nat} {J : Nat → Int64} {M : Mem} {x : Int32} {h mc ms : Nat} {o : Out} (hc : CtO l yX2_die cX2_die 4 (some .int) h mc ms n ρ J M [.ref (ρ 0), .int x] o) (hh : h ≤ 9) (hmc : mc ≤ 13) (hms : ms ≤ 78) (ho : oki [IX, IS] o) :
    CG (EXe e) l yL_die (Cond.codeWith yL_die cL_die 4 (some .int) [(0, 9, 12, 19), (0, 9, 15, 13)] :: GW) 10 13 78 (wsd n ρ J M) [.ref (ρ 0), .int x, .ref (ρ 8)] (fun v w2 => v = some (.int (cdo [IX, IS] o)) ∧ w2 = wsd n ρ (Jn J o) o.2) (fun _ _ => False) := by
  refine CG.ofH EXe.gp hl (by decide +kernel) (Nat.le_of_ble_eq_true rfl) (fun Ξ hnL C => ?_)
  show G Ξ (wsd n ρ J M) 0 0 0 [(0, .ref (ρ 0)), (1, .int x), (2, .ref (ρ 8))] []
  have B := C.b
  refine g_aload_n (j := 2) B dL_die_0 rfl rfl ?_
  refine g_iconst (v := 0) B dL_die_1 (by decide) ?_
  refine g_aload_n (j := 0) B dL_die_2 rfl rfl ?_
  refine g_iload_n (j := 1) B dL_die_3 rfl rfl ?_
  refine g_callV (i := 0) (ci := 3) (nA := 1) (Cn := RX2) (As := [.int x]) B (CtO.g hc) EXe.gp carrGP (fun cA => ws_at (cnt_fix (by decide))) rfl rfl mw_568 mw_565 mw_566 mw_567 mw_2 (by decide +kernel) ⟨by show h + 1 ≤ 10; omega, by show 8 + (4 + 11) + (30 * h + 60) ≤ 30 * 10 + 60; omega⟩ rfl rfl (Nat.le_of_ble_eq_true rfl) dL_die_4 ⟨by show 0 + mc ≤ 13; omega, by show 0 + ms ≤ 78; omega⟩ (fun Ex u hx => ?_) (fun v u hvu => ?_)
  · obtain ⟨hx1, rfl⟩ := hx
    rcases ho with ⟨x0, N, rfl⟩ | ⟨Ey, N, hE, rfl⟩
    · cases hx1
    · cases hx1
      simp only [List.mem_cons, List.not_mem_nil, or_false] at hE
      rcases hE with rfl | rfl
      · refine ⟨[], ⟨0, 9, 12, 19⟩, [⟨0, 9, 15, 13⟩], "java/lang/IndexOutOfBoundsException", rfl, (fun z hz => absurd hz List.not_mem_nil), rfl, by decide, mw_171, by decide, fun q9 => ?_⟩
        refine g_astore_n (ls2 := [(3, .ref q9), (0, .ref (ρ 0)), (1, .int x), (2, .ref (ρ 8))]) B hnL dL_die_12 rfl (by decide) rfl ?_
        refine g_iconst (v := 1) B dL_die_13 (by decide) ?_
        exact g_iret C rfl (by show 0 + mc ≤ 13; omega) (by show 0 + ms ≤ 78; omega) dL_die_14 ⟨rfl, rfl⟩
      · refine ⟨[⟨0, 9, 12, 19⟩], ⟨0, 9, 15, 13⟩, [], "java/lang/IllegalStateException", rfl, (fun z hz => by have hz2 := List.mem_singleton.mp hz; subst hz2; exact Or.inr ⟨by decide, "java/lang/IndexOutOfBoundsException", mw_171, nc2⟩), rfl, by decide, mw_79, by decide, fun q9 => ?_⟩
        refine g_astore_n (ls2 := [(3, .ref q9), (0, .ref (ρ 0)), (1, .int x), (2, .ref (ρ 8))]) B hnL dL_die_15 rfl (by decide) rfl ?_
        refine g_iconst (v := 2) B dL_die_16 (by decide) ?_
        exact g_iret C rfl (by show 0 + mc ≤ 13; omega) (by show 0 + ms ≤ 78; omega) dL_die_17 ⟨rfl, rfl⟩
  · obtain ⟨hv, rfl⟩ := hvu
    rcases ho with ⟨x0, N, rfl⟩ | ⟨Ey, N, hE, rfl⟩
    · cases hv
      refine g_i2l B dL_die_7 ?_
      refine g_last (N := 1) 8 B (fun cA => ws_at (cnt_fix (by decide))) (vp_in_nI (n := 0) (by decide) (by decide)) dL_die_8 ?_
      rw [wsJ]
      refine g_goto (tgt := 18) B dL_die_9 (by decide) ?_
      refine g_iconst (v := 0) B dL_die_18 (by decide) ?_
      exact g_iret C rfl (by show 0 + mc ≤ 13; omega) (by show 0 + ms ≤ 78; omega) dL_die_19 ⟨rfl, rfl⟩
    · cases hv
set_option maxRecDepth 100000 in
set_option maxHeartbeats 4000000 in
theorem w_vote {l : Launch} (hl : l.stackTraces = false) {e n : Nat} {ρ : Nat → Nat} {J : Nat → Int64} {M : Mem} {x : Int32} {y : Int32} {h mc ms : Nat} {o : Out} (hc : CtO l yX2_vote cX2_vote 5 (some .boolean) h mc ms n ρ J M [.ref (ρ 0), .int x, .int y] o) (hh : h ≤ 9) (hmc : mc ≤ 13) (hms : ms ≤ 78) (ho : oki [IX] o) :
    CG (EXe e) l yL_vote (Cond.codeWith yL_vote cL_vote 5 (some .int) [(0, 17, 20, 19)] :: GW) 10 13 78 (wsd n ρ J M) [.ref (ρ 0), .int x, .int y, .ref (ρ 8)] (fun v w2 => v = some (.int (cdo [IX] o)) ∧ w2 = wsd n ρ (Jb J o) o.2) (fun _ _ => False) := by
  refine CG.ofH EXe.gp hl (by decide +kernel) (Nat.le_of_ble_eq_true rfl) (fun Ξ hnL C => ?_)
  show G Ξ (wsd n ρ J M) 0 0 0 [(0, .ref (ρ 0)), (1, .int x), (2, .int y), (3, .ref (ρ 8))] []
  have B := C.b
  refine g_aload_n (j := 3) B dL_vote_0 rfl rfl ?_
  refine g_iconst (v := 0) B dL_vote_1 (by decide) ?_
  refine g_aload_n (j := 0) B dL_vote_2 rfl rfl ?_
  refine g_iload_n (j := 1) B dL_vote_3 rfl rfl ?_
  refine g_iload_n (j := 2) B dL_vote_4 rfl rfl ?_
  refine g_callV (i := 0) (ci := 3) (nA := 2) (Cn := RX2) (As := [.int x, .int y]) B (CtO.g hc) EXe.gp carrGP (fun cA => ws_at (cnt_fix (by decide))) rfl rfl mw_604 mw_601 mw_602 mw_603 mw_2 (by decide +kernel) ⟨by show h + 1 ≤ 10; omega, by show 8 + (5 + 11) + (30 * h + 60) ≤ 30 * 10 + 60; omega⟩ rfl rfl (Nat.le_of_ble_eq_true rfl) dL_vote_5 ⟨by show 0 + mc ≤ 13; omega, by show 0 + ms ≤ 78; omega⟩ (fun Ex u hx => ?_) (fun v u hvu => ?_)
  · obtain ⟨hx1, rfl⟩ := hx
    rcases ho with ⟨x0, N, rfl⟩ | ⟨Ey, N, hE, rfl⟩
    · cases hx1
    · cases hx1
      simp only [List.mem_cons, List.not_mem_nil, or_false] at hE
      subst hE
      refine ⟨[], ⟨0, 17, 20, 19⟩, [], "java/lang/IndexOutOfBoundsException", rfl, (fun z hz => absurd hz List.not_mem_nil), rfl, by decide, mw_171, by decide, fun q9 => ?_⟩
      refine g_astore (ls2 := [(4, .ref q9), (0, .ref (ρ 0)), (1, .int x), (2, .int y), (3, .ref (ρ 8))]) B hnL dL_vote_20 (by decide) rfl ?_
      refine g_iconst (v := 1) B dL_vote_22 (by decide) ?_
      exact g_iret C rfl (by show 0 + mc ≤ 13; omega) (by show 0 + ms ≤ 78; omega) dL_vote_23 ⟨rfl, rfl⟩
  · obtain ⟨hv, rfl⟩ := hvu
    rcases ho with ⟨x0, N, rfl⟩ | ⟨Ey, N, hE, rfl⟩
    · cases hv
      refine g_if_eq (tgt := 15) B dL_vote_8 (by decide) (fun hz => ?_) (fun hz => ?_)
      · refine g_lconst (v := 0) B dL_vote_15 (by decide) ?_
        refine g_last (N := 1) 8 B (fun cA => ws_at (cnt_fix (by decide))) (vp_in_nI (n := 0) (by decide) (by decide)) dL_vote_16 ?_
        rw [wsJ]
        refine g_goto (tgt := 24) B dL_vote_17 (by decide) ?_
        refine g_iconst (v := 0) B dL_vote_24 (by decide) ?_
        exact g_iret C rfl (by show 0 + mc ≤ 13; omega) (by show 0 + ms ≤ 78; omega) dL_vote_25 ⟨rfl, by unfold Jb; dsimp only; rw [if_pos hz]; rfl⟩
      · refine g_lconst (v := 1) B dL_vote_11 (by decide) ?_
        refine g_goto (tgt := 16) B dL_vote_12 (by decide) ?_
        refine g_last (N := 1) 8 B (fun cA => ws_at (cnt_fix (by decide))) (vp_in_nI (n := 0) (by decide) (by decide)) dL_vote_16 ?_
        rw [wsJ]
        refine g_goto (tgt := 24) B dL_vote_17 (by decide) ?_
        refine g_iconst (v := 0) B dL_vote_24 (by decide) ?_
        exact g_iret C rfl (by show 0 + mc ≤ 13; omega) (by show 0 + ms ≤ 78; omega) dL_vote_25 ⟨rfl, by unfold Jb; dsimp only; rw [if_neg hz]; rfl⟩
    · cases hv
set_option maxRecDepth 100000 in
set_option maxHeartbeats 4000000 in
theorem w_strike {l : Launch} (hl : l.stackTraces = false) {e n : Nat} {ρ : Nat → Nat} {J : Nat → Int64} {M : Mem} {h mc ms : Nat} {o : Out} (hc : CtO l yX2_strike cX2_strike 1 (some .boolean) h mc ms n ρ J M [.ref (ρ 0)] o) (hh : h ≤ 9) (hmc : mc ≤ 13) (hms : ms ≤ 78) (ho : oki [IS] o) :
    CG (EXe e) l yL_strike (Cond.codeWith yL_strike cL_strike 3 (some .int) [(0, 15, 18, 13)] :: GW) 10 13 78 (wsd n ρ J M) [.ref (ρ 0), .ref (ρ 8)] (fun v w2 => v = some (.int (cdo [IS] o)) ∧ w2 = wsd n ρ (Jb J o) o.2) (fun _ _ => False) := by
  refine CG.ofH EXe.gp hl (by decide +kernel) (Nat.le_of_ble_eq_true rfl) (fun Ξ hnL C => ?_)
  show G Ξ (wsd n ρ J M) 0 0 0 [(0, .ref (ρ 0)), (1, .ref (ρ 8))] []
  have B := C.b
  refine g_aload_n (j := 1) B dL_strike_0 rfl rfl ?_
  refine g_iconst (v := 0) B dL_strike_1 (by decide) ?_
  refine g_aload_n (j := 0) B dL_strike_2 rfl rfl ?_
  refine g_callV (i := 0) (ci := 3) (nA := 0) (Cn := RX2) (As := []) B (CtO.g hc) EXe.gp carrGP (fun cA => ws_at (cnt_fix (by decide))) rfl rfl mw_616 mw_613 mw_614 mw_615 mw_2 (by decide +kernel) ⟨by show h + 1 ≤ 10; omega, by show 8 + (1 + 11) + (30 * h + 60) ≤ 30 * 10 + 60; omega⟩ rfl rfl (Nat.le_of_ble_eq_true rfl) dL_strike_3 ⟨by show 0 + mc ≤ 13; omega, by show 0 + ms ≤ 78; omega⟩ (fun Ex u hx => ?_) (fun v u hvu => ?_)
  · obtain ⟨hx1, rfl⟩ := hx
    rcases ho with ⟨x0, N, rfl⟩ | ⟨Ey, N, hE, rfl⟩
    · cases hx1
    · cases hx1
      simp only [List.mem_cons, List.not_mem_nil, or_false] at hE
      subst hE
      refine ⟨[], ⟨0, 15, 18, 13⟩, [], "java/lang/IllegalStateException", rfl, (fun z hz => absurd hz List.not_mem_nil), rfl, by decide, mw_79, by decide, fun q9 => ?_⟩
      refine g_astore_n (ls2 := [(2, .ref q9), (0, .ref (ρ 0)), (1, .ref (ρ 8))]) B hnL dL_strike_18 rfl (by decide) rfl ?_
      refine g_iconst (v := 1) B dL_strike_19 (by decide) ?_
      exact g_iret C rfl (by show 0 + mc ≤ 13; omega) (by show 0 + ms ≤ 78; omega) dL_strike_20 ⟨rfl, rfl⟩
  · obtain ⟨hv, rfl⟩ := hvu
    rcases ho with ⟨x0, N, rfl⟩ | ⟨Ey, N, hE, rfl⟩
    · cases hv
      refine g_if_eq (tgt := 13) B dL_strike_6 (by decide) (fun hz => ?_) (fun hz => ?_)
      · refine g_lconst (v := 0) B dL_strike_13 (by decide) ?_
        refine g_last (N := 1) 8 B (fun cA => ws_at (cnt_fix (by decide))) (vp_in_nI (n := 0) (by decide) (by decide)) dL_strike_14 ?_
        rw [wsJ]
        refine g_goto (tgt := 21) B dL_strike_15 (by decide) ?_
        refine g_iconst (v := 0) B dL_strike_21 (by decide) ?_
        exact g_iret C rfl (by show 0 + mc ≤ 13; omega) (by show 0 + ms ≤ 78; omega) dL_strike_22 ⟨rfl, by unfold Jb; dsimp only; rw [if_pos hz]; rfl⟩
      · refine g_lconst (v := 1) B dL_strike_9 (by decide) ?_
        refine g_goto (tgt := 14) B dL_strike_10 (by decide) ?_
        refine g_last (N := 1) 8 B (fun cA => ws_at (cnt_fix (by decide))) (vp_in_nI (n := 0) (by decide) (by decide)) dL_strike_14 ?_
        rw [wsJ]
        refine g_goto (tgt := 21) B dL_strike_15 (by decide) ?_
        refine g_iconst (v := 0) B dL_strike_21 (by decide) ?_
        exact g_iret C rfl (by show 0 + mc ≤ 13; omega) (by show 0 + ms ≤ 78; omega) dL_strike_22 ⟨rfl, by unfold Jb; dsimp only; rw [if_neg hz]; rfl⟩
    · cases hv
set_option maxRecDepth 100000 in
set_option maxHeartbeats 4000000 in
theorem w_give {l : Launch} (hl : l.stackTraces = false) {e n : Nat} {ρ : Nat → Nat} {J : Nat → Int64} {M : Mem} {x : Int32} {h mc ms : Nat} {o : Out} (hc : CtO l yX2_give cX2_give 2 (some .int) h mc ms n ρ J M [.ref (ρ 0), .int x] o) (hh : h ≤ 9) (hmc : mc ≤ 13) (hms : ms ≤ 78) (ho : oki [IA] o) :
    CG (EXe e) l yL_give (Cond.codeWith yL_give cL_give 4 (some .int) [(0, 9, 12, 21)] :: GW) 10 13 78 (wsd n ρ J M) [.ref (ρ 0), .int x, .ref (ρ 8)] (fun v w2 => v = some (.int (cdo [IA] o)) ∧ w2 = wsd n ρ (Jn J o) o.2) (fun _ _ => False) := by
  refine CG.ofH EXe.gp hl (by decide +kernel) (Nat.le_of_ble_eq_true rfl) (fun Ξ hnL C => ?_)
  show G Ξ (wsd n ρ J M) 0 0 0 [(0, .ref (ρ 0)), (1, .int x), (2, .ref (ρ 8))] []
  have B := C.b
  refine g_aload_n (j := 2) B dL_give_0 rfl rfl ?_
  refine g_iconst (v := 0) B dL_give_1 (by decide) ?_
  refine g_aload_n (j := 0) B dL_give_2 rfl rfl ?_
  refine g_iload_n (j := 1) B dL_give_3 rfl rfl ?_
  refine g_callV (i := 0) (ci := 3) (nA := 1) (Cn := RX2) (As := [.int x]) B (CtO.g hc) EXe.gp carrGP (fun cA => ws_at (cnt_fix (by decide))) rfl rfl mw_631 mw_628 mw_629 mw_630 mw_2 (by decide +kernel) ⟨by show h + 1 ≤ 10; omega, by show 8 + (2 + 11) + (30 * h + 60) ≤ 30 * 10 + 60; omega⟩ rfl rfl (Nat.le_of_ble_eq_true rfl) dL_give_4 ⟨by show 0 + mc ≤ 13; omega, by show 0 + ms ≤ 78; omega⟩ (fun Ex u hx => ?_) (fun v u hvu => ?_)
  · obtain ⟨hx1, rfl⟩ := hx
    rcases ho with ⟨x0, N, rfl⟩ | ⟨Ey, N, hE, rfl⟩
    · cases hx1
    · cases hx1
      simp only [List.mem_cons, List.not_mem_nil, or_false] at hE
      subst hE
      refine ⟨[], ⟨0, 9, 12, 21⟩, [], "java/lang/IllegalArgumentException", rfl, (fun z hz => absurd hz List.not_mem_nil), rfl, by decide, mw_172, by decide, fun q9 => ?_⟩
      refine g_astore_n (ls2 := [(3, .ref q9), (0, .ref (ρ 0)), (1, .int x), (2, .ref (ρ 8))]) B hnL dL_give_12 rfl (by decide) rfl ?_
      refine g_iconst (v := 1) B dL_give_13 (by decide) ?_
      exact g_iret C rfl (by show 0 + mc ≤ 13; omega) (by show 0 + ms ≤ 78; omega) dL_give_14 ⟨rfl, rfl⟩
  · obtain ⟨hv, rfl⟩ := hvu
    rcases ho with ⟨x0, N, rfl⟩ | ⟨Ey, N, hE, rfl⟩
    · cases hv
      refine g_i2l B dL_give_7 ?_
      refine g_last (N := 1) 8 B (fun cA => ws_at (cnt_fix (by decide))) (vp_in_nI (n := 0) (by decide) (by decide)) dL_give_8 ?_
      rw [wsJ]
      refine g_goto (tgt := 15) B dL_give_9 (by decide) ?_
      refine g_iconst (v := 0) B dL_give_15 (by decide) ?_
      exact g_iret C rfl (by show 0 + mc ≤ 13; omega) (by show 0 + ms ≤ 78; omega) dL_give_16 ⟨rfl, rfl⟩
    · cases hv
set_option maxRecDepth 100000 in
set_option maxHeartbeats 4000000 in
theorem w_soup {l : Launch} (hl : l.stackTraces = false) {e n : Nat} {ρ : Nat → Nat} {J : Nat → Int64} {M : Mem} {h mc ms : Nat} {o : Out} (hc : CtO l yX2_soup cX2_soup 4 (some .int) h mc ms n ρ J M [.ref (ρ 0)] o) (hh : h ≤ 9) (hmc : mc ≤ 13) (hms : ms ≤ 78) (ho : oki [IS] o) :
    CG (EXe e) l yL_soup (Cond.codeWith yL_soup cL_soup 3 (some .int) [(0, 8, 11, 13)] :: GW) 10 13 78 (wsd n ρ J M) [.ref (ρ 0), .ref (ρ 8)] (fun v w2 => v = some (.int (cdo [IS] o)) ∧ w2 = wsd n ρ (Jn J o) o.2) (fun _ _ => False) := by
  refine CG.ofH EXe.gp hl (by decide +kernel) (Nat.le_of_ble_eq_true rfl) (fun Ξ hnL C => ?_)
  show G Ξ (wsd n ρ J M) 0 0 0 [(0, .ref (ρ 0)), (1, .ref (ρ 8))] []
  have B := C.b
  refine g_aload_n (j := 1) B dL_soup_0 rfl rfl ?_
  refine g_iconst (v := 0) B dL_soup_1 (by decide) ?_
  refine g_aload_n (j := 0) B dL_soup_2 rfl rfl ?_
  refine g_callV (i := 0) (ci := 3) (nA := 0) (Cn := RX2) (As := []) B (CtO.g hc) EXe.gp carrGP (fun cA => ws_at (cnt_fix (by decide))) rfl rfl mw_644 mw_641 mw_642 mw_643 mw_2 (by decide +kernel) ⟨by show h + 1 ≤ 10; omega, by show 8 + (4 + 11) + (30 * h + 60) ≤ 30 * 10 + 60; omega⟩ rfl rfl (Nat.le_of_ble_eq_true rfl) dL_soup_3 ⟨by show 0 + mc ≤ 13; omega, by show 0 + ms ≤ 78; omega⟩ (fun Ex u hx => ?_) (fun v u hvu => ?_)
  · obtain ⟨hx1, rfl⟩ := hx
    rcases ho with ⟨x0, N, rfl⟩ | ⟨Ey, N, hE, rfl⟩
    · cases hx1
    · cases hx1
      simp only [List.mem_cons, List.not_mem_nil, or_false] at hE
      subst hE
      refine ⟨[], ⟨0, 8, 11, 13⟩, [], "java/lang/IllegalStateException", rfl, (fun z hz => absurd hz List.not_mem_nil), rfl, by decide, mw_79, by decide, fun q9 => ?_⟩
      refine g_astore_n (ls2 := [(2, .ref q9), (0, .ref (ρ 0)), (1, .ref (ρ 8))]) B hnL dL_soup_11 rfl (by decide) rfl ?_
      refine g_iconst (v := 1) B dL_soup_12 (by decide) ?_
      exact g_iret C rfl (by show 0 + mc ≤ 13; omega) (by show 0 + ms ≤ 78; omega) dL_soup_13 ⟨rfl, rfl⟩
  · obtain ⟨hv, rfl⟩ := hvu
    rcases ho with ⟨x0, N, rfl⟩ | ⟨Ey, N, hE, rfl⟩
    · cases hv
      refine g_i2l B dL_soup_6 ?_
      refine g_last (N := 1) 8 B (fun cA => ws_at (cnt_fix (by decide))) (vp_in_nI (n := 0) (by decide) (by decide)) dL_soup_7 ?_
      rw [wsJ]
      refine g_goto (tgt := 14) B dL_soup_8 (by decide) ?_
      refine g_iconst (v := 0) B dL_soup_14 (by decide) ?_
      exact g_iret C rfl (by show 0 + mc ≤ 13; omega) (by show 0 + ms ≤ 78; omega) dL_soup_15 ⟨rfl, rfl⟩
    · cases hv
set_option maxRecDepth 100000 in
set_option maxHeartbeats 4000000 in
theorem w_close {l : Launch} (hl : l.stackTraces = false) {e n : Nat} {ρ : Nat → Nat} {J : Nat → Int64} {M : Mem} {x : Int32} {h mc ms : Nat} {o : Out} (hc : CtO l yX2_close cX2_close 4 (some .int) h mc ms n ρ J M [.ref (ρ 0), .int x] o) (hh : h ≤ 9) (hmc : mc ≤ 13) (hms : ms ≤ 78) (ho : oki [IA, IS] o) :
    CG (EXe e) l yL_close (Cond.codeWith yL_close cL_close 4 (some .int) [(0, 9, 12, 21), (0, 9, 15, 13)] :: GW) 10 13 78 (wsd n ρ J M) [.ref (ρ 0), .int x, .ref (ρ 8)] (fun v w2 => v = some (.int (cdo [IA, IS] o)) ∧ w2 = wsd n ρ (Jn J o) o.2) (fun _ _ => False) := by
  refine CG.ofH EXe.gp hl (by decide +kernel) (Nat.le_of_ble_eq_true rfl) (fun Ξ hnL C => ?_)
  show G Ξ (wsd n ρ J M) 0 0 0 [(0, .ref (ρ 0)), (1, .int x), (2, .ref (ρ 8))] []
  have B := C.b
  refine g_aload_n (j := 2) B dL_close_0 rfl rfl ?_
  refine g_iconst (v := 0) B dL_close_1 (by decide) ?_
  refine g_aload_n (j := 0) B dL_close_2 rfl rfl ?_
  refine g_iload_n (j := 1) B dL_close_3 rfl rfl ?_
  refine g_callV (i := 0) (ci := 3) (nA := 1) (Cn := RX2) (As := [.int x]) B (CtO.g hc) EXe.gp carrGP (fun cA => ws_at (cnt_fix (by decide))) rfl rfl mw_659 mw_656 mw_657 mw_658 mw_2 (by decide +kernel) ⟨by show h + 1 ≤ 10; omega, by show 8 + (4 + 11) + (30 * h + 60) ≤ 30 * 10 + 60; omega⟩ rfl rfl (Nat.le_of_ble_eq_true rfl) dL_close_4 ⟨by show 0 + mc ≤ 13; omega, by show 0 + ms ≤ 78; omega⟩ (fun Ex u hx => ?_) (fun v u hvu => ?_)
  · obtain ⟨hx1, rfl⟩ := hx
    rcases ho with ⟨x0, N, rfl⟩ | ⟨Ey, N, hE, rfl⟩
    · cases hx1
    · cases hx1
      simp only [List.mem_cons, List.not_mem_nil, or_false] at hE
      rcases hE with rfl | rfl
      · refine ⟨[], ⟨0, 9, 12, 21⟩, [⟨0, 9, 15, 13⟩], "java/lang/IllegalArgumentException", rfl, (fun z hz => absurd hz List.not_mem_nil), rfl, by decide, mw_172, by decide, fun q9 => ?_⟩
        refine g_astore_n (ls2 := [(3, .ref q9), (0, .ref (ρ 0)), (1, .int x), (2, .ref (ρ 8))]) B hnL dL_close_12 rfl (by decide) rfl ?_
        refine g_iconst (v := 1) B dL_close_13 (by decide) ?_
        exact g_iret C rfl (by show 0 + mc ≤ 13; omega) (by show 0 + ms ≤ 78; omega) dL_close_14 ⟨rfl, rfl⟩
      · refine ⟨[⟨0, 9, 12, 21⟩], ⟨0, 9, 15, 13⟩, [], "java/lang/IllegalStateException", rfl, (fun z hz => by have hz2 := List.mem_singleton.mp hz; subst hz2; exact Or.inr ⟨by decide, "java/lang/IllegalArgumentException", mw_172, nc3⟩), rfl, by decide, mw_79, by decide, fun q9 => ?_⟩
        refine g_astore_n (ls2 := [(3, .ref q9), (0, .ref (ρ 0)), (1, .int x), (2, .ref (ρ 8))]) B hnL dL_close_15 rfl (by decide) rfl ?_
        refine g_iconst (v := 2) B dL_close_16 (by decide) ?_
        exact g_iret C rfl (by show 0 + mc ≤ 13; omega) (by show 0 + ms ≤ 78; omega) dL_close_17 ⟨rfl, rfl⟩
  · obtain ⟨hv, rfl⟩ := hvu
    rcases ho with ⟨x0, N, rfl⟩ | ⟨Ey, N, hE, rfl⟩
    · cases hv
      refine g_i2l B dL_close_7 ?_
      refine g_last (N := 1) 8 B (fun cA => ws_at (cnt_fix (by decide))) (vp_in_nI (n := 0) (by decide) (by decide)) dL_close_8 ?_
      rw [wsJ]
      refine g_goto (tgt := 18) B dL_close_9 (by decide) ?_
      refine g_iconst (v := 0) B dL_close_18 (by decide) ?_
      exact g_iret C rfl (by show 0 + mc ≤ 13; omega) (by show 0 + ms ≤ 78; omega) dL_close_19 ⟨rfl, rfl⟩
    · cases hv
set_option maxRecDepth 100000 in
set_option maxHeartbeats 4000000 in
theorem w_about {l : Launch} (hl : l.stackTraces = false) {e n : Nat} {ρ : Nat → Nat} {J : Nat → Int64} {M : Mem} {x : Int32} {y : Int32} {h mc ms : Nat} {o : Out} (hc : CtO l yX2_about cX2_about 4 (some .int) h mc ms n ρ J M [.ref (ρ 0), .int x, .int y] o) (hh : h ≤ 9) (hmc : mc ≤ 13) (hms : ms ≤ 78) (ho : oki [IX, IA] o) :
    CG (EXe e) l yL_about (Cond.codeWith yL_about cL_about 5 (some .int) [(0, 10, 13, 19), (0, 10, 17, 21)] :: GW) 10 13 78 (wsd n ρ J M) [.ref (ρ 0), .int x, .int y, .ref (ρ 8)] (fun v w2 => v = some (.int (cdo [IX, IA] o)) ∧ w2 = wsd n ρ (Jn J o) o.2) (fun _ _ => False) := by
  refine CG.ofH EXe.gp hl (by decide +kernel) (Nat.le_of_ble_eq_true rfl) (fun Ξ hnL C => ?_)
  show G Ξ (wsd n ρ J M) 0 0 0 [(0, .ref (ρ 0)), (1, .int x), (2, .int y), (3, .ref (ρ 8))] []
  have B := C.b
  refine g_aload_n (j := 3) B dL_about_0 rfl rfl ?_
  refine g_iconst (v := 0) B dL_about_1 (by decide) ?_
  refine g_aload_n (j := 0) B dL_about_2 rfl rfl ?_
  refine g_iload_n (j := 1) B dL_about_3 rfl rfl ?_
  refine g_iload_n (j := 2) B dL_about_4 rfl rfl ?_
  refine g_callV (i := 0) (ci := 3) (nA := 2) (Cn := RX2) (As := [.int x, .int y]) B (CtO.g hc) EXe.gp carrGP (fun cA => ws_at (cnt_fix (by decide))) rfl rfl mw_678 mw_675 mw_676 mw_677 mw_2 (by decide +kernel) ⟨by show h + 1 ≤ 10; omega, by show 8 + (4 + 11) + (30 * h + 60) ≤ 30 * 10 + 60; omega⟩ rfl rfl (Nat.le_of_ble_eq_true rfl) dL_about_5 ⟨by show 0 + mc ≤ 13; omega, by show 0 + ms ≤ 78; omega⟩ (fun Ex u hx => ?_) (fun v u hvu => ?_)
  · obtain ⟨hx1, rfl⟩ := hx
    rcases ho with ⟨x0, N, rfl⟩ | ⟨Ey, N, hE, rfl⟩
    · cases hx1
    · cases hx1
      simp only [List.mem_cons, List.not_mem_nil, or_false] at hE
      rcases hE with rfl | rfl
      · refine ⟨[], ⟨0, 10, 13, 19⟩, [⟨0, 10, 17, 21⟩], "java/lang/IndexOutOfBoundsException", rfl, (fun z hz => absurd hz List.not_mem_nil), rfl, by decide, mw_171, by decide, fun q9 => ?_⟩
        refine g_astore (ls2 := [(4, .ref q9), (0, .ref (ρ 0)), (1, .int x), (2, .int y), (3, .ref (ρ 8))]) B hnL dL_about_13 (by decide) rfl ?_
        refine g_iconst (v := 1) B dL_about_15 (by decide) ?_
        exact g_iret C rfl (by show 0 + mc ≤ 13; omega) (by show 0 + ms ≤ 78; omega) dL_about_16 ⟨rfl, rfl⟩
      · refine ⟨[⟨0, 10, 13, 19⟩], ⟨0, 10, 17, 21⟩, [], "java/lang/IllegalArgumentException", rfl, (fun z hz => by have hz2 := List.mem_singleton.mp hz; subst hz2; exact Or.inr ⟨by decide, "java/lang/IndexOutOfBoundsException", mw_171, nc1⟩), rfl, by decide, mw_172, by decide, fun q9 => ?_⟩
        refine g_astore (ls2 := [(4, .ref q9), (0, .ref (ρ 0)), (1, .int x), (2, .int y), (3, .ref (ρ 8))]) B hnL dL_about_17 (by decide) rfl ?_
        refine g_iconst (v := 2) B dL_about_19 (by decide) ?_
        exact g_iret C rfl (by show 0 + mc ≤ 13; omega) (by show 0 + ms ≤ 78; omega) dL_about_20 ⟨rfl, rfl⟩
  · obtain ⟨hv, rfl⟩ := hvu
    rcases ho with ⟨x0, N, rfl⟩ | ⟨Ey, N, hE, rfl⟩
    · cases hv
      refine g_i2l B dL_about_8 ?_
      refine g_last (N := 1) 8 B (fun cA => ws_at (cnt_fix (by decide))) (vp_in_nI (n := 0) (by decide) (by decide)) dL_about_9 ?_
      rw [wsJ]
      refine g_goto (tgt := 21) B dL_about_10 (by decide) ?_
      refine g_iconst (v := 0) B dL_about_21 (by decide) ?_
      exact g_iret C rfl (by show 0 + mc ≤ 13; omega) (by show 0 + ms ≤ 78; omega) dL_about_22 ⟨rfl, rfl⟩
    · cases hv
set_option maxRecDepth 100000 in
set_option maxHeartbeats 4000000 in
theorem w_has {l : Launch} (hl : l.stackTraces = false) {e n : Nat} {ρ : Nat → Nat} {J : Nat → Int64} {M : Mem} {x : Int32} {y : Int32} {h mc ms : Nat} {o : Out} (hc : CtO l yX2_has cX2_has 4 (some .int) h mc ms n ρ J M [.ref (ρ 0), .int x, .int y] o) (hh : h ≤ 9) (hmc : mc ≤ 13) (hms : ms ≤ 78) (ho : oki [IX] o) :
    CG (EXe e) l yL_has (Cond.codeWith yL_has cL_has 5 (some .int) [(0, 10, 13, 19)] :: GW) 10 13 78 (wsd n ρ J M) [.ref (ρ 0), .int x, .int y, .ref (ρ 8)] (fun v w2 => v = some (.int (cdo [IX] o)) ∧ w2 = wsd n ρ (Jn J o) o.2) (fun _ _ => False) := by
  refine CG.ofH EXe.gp hl (by decide +kernel) (Nat.le_of_ble_eq_true rfl) (fun Ξ hnL C => ?_)
  show G Ξ (wsd n ρ J M) 0 0 0 [(0, .ref (ρ 0)), (1, .int x), (2, .int y), (3, .ref (ρ 8))] []
  have B := C.b
  refine g_aload_n (j := 3) B dL_has_0 rfl rfl ?_
  refine g_iconst (v := 0) B dL_has_1 (by decide) ?_
  refine g_aload_n (j := 0) B dL_has_2 rfl rfl ?_
  refine g_iload_n (j := 1) B dL_has_3 rfl rfl ?_
  refine g_iload_n (j := 2) B dL_has_4 rfl rfl ?_
  refine g_callV (i := 0) (ci := 3) (nA := 2) (Cn := RX2) (As := [.int x, .int y]) B (CtO.g hc) EXe.gp carrGP (fun cA => ws_at (cnt_fix (by decide))) rfl rfl mw_689 mw_686 mw_687 mw_688 mw_2 (by decide +kernel) ⟨by show h + 1 ≤ 10; omega, by show 8 + (4 + 11) + (30 * h + 60) ≤ 30 * 10 + 60; omega⟩ rfl rfl (Nat.le_of_ble_eq_true rfl) dL_has_5 ⟨by show 0 + mc ≤ 13; omega, by show 0 + ms ≤ 78; omega⟩ (fun Ex u hx => ?_) (fun v u hvu => ?_)
  · obtain ⟨hx1, rfl⟩ := hx
    rcases ho with ⟨x0, N, rfl⟩ | ⟨Ey, N, hE, rfl⟩
    · cases hx1
    · cases hx1
      simp only [List.mem_cons, List.not_mem_nil, or_false] at hE
      subst hE
      refine ⟨[], ⟨0, 10, 13, 19⟩, [], "java/lang/IndexOutOfBoundsException", rfl, (fun z hz => absurd hz List.not_mem_nil), rfl, by decide, mw_171, by decide, fun q9 => ?_⟩
      refine g_astore (ls2 := [(4, .ref q9), (0, .ref (ρ 0)), (1, .int x), (2, .int y), (3, .ref (ρ 8))]) B hnL dL_has_13 (by decide) rfl ?_
      refine g_iconst (v := 1) B dL_has_15 (by decide) ?_
      exact g_iret C rfl (by show 0 + mc ≤ 13; omega) (by show 0 + ms ≤ 78; omega) dL_has_16 ⟨rfl, rfl⟩
  · obtain ⟨hv, rfl⟩ := hvu
    rcases ho with ⟨x0, N, rfl⟩ | ⟨Ey, N, hE, rfl⟩
    · cases hv
      refine g_i2l B dL_has_8 ?_
      refine g_last (N := 1) 8 B (fun cA => ws_at (cnt_fix (by decide))) (vp_in_nI (n := 0) (by decide) (by decide)) dL_has_9 ?_
      rw [wsJ]
      refine g_goto (tgt := 17) B dL_has_10 (by decide) ?_
      refine g_iconst (v := 0) B dL_has_17 (by decide) ?_
      exact g_iret C rfl (by show 0 + mc ≤ 13; omega) (by show 0 + ms ≤ 78; omega) dL_has_18 ⟨rfl, rfl⟩
    · cases hv
set_option maxRecDepth 100000 in
set_option maxHeartbeats 4000000 in
theorem w_scrip {l : Launch} (hl : l.stackTraces = false) {e n : Nat} {ρ : Nat → Nat} {J : Nat → Int64} {M : Mem} {x : Int32} {y : Int32} {h mc ms : Nat} {o : Out} (hc : CtO l yX2_scrip cX2_scrip 4 (some .int) h mc ms n ρ J M [.ref (ρ 0), .int x, .int y] o) (hh : h ≤ 9) (hmc : mc ≤ 13) (hms : ms ≤ 78) (ho : oki [IX, IA] o) :
    CG (EXe e) l yL_scrip (Cond.codeWith yL_scrip cL_scrip 5 (some .int) [(0, 10, 13, 19), (0, 10, 17, 21)] :: GW) 10 13 78 (wsd n ρ J M) [.ref (ρ 0), .int x, .int y, .ref (ρ 8)] (fun v w2 => v = some (.int (cdo [IX, IA] o)) ∧ w2 = wsd n ρ (Jn J o) o.2) (fun _ _ => False) := by
  refine CG.ofH EXe.gp hl (by decide +kernel) (Nat.le_of_ble_eq_true rfl) (fun Ξ hnL C => ?_)
  show G Ξ (wsd n ρ J M) 0 0 0 [(0, .ref (ρ 0)), (1, .int x), (2, .int y), (3, .ref (ρ 8))] []
  have B := C.b
  refine g_aload_n (j := 3) B dL_scrip_0 rfl rfl ?_
  refine g_iconst (v := 0) B dL_scrip_1 (by decide) ?_
  refine g_aload_n (j := 0) B dL_scrip_2 rfl rfl ?_
  refine g_iload_n (j := 1) B dL_scrip_3 rfl rfl ?_
  refine g_iload_n (j := 2) B dL_scrip_4 rfl rfl ?_
  refine g_callV (i := 0) (ci := 3) (nA := 2) (Cn := RX2) (As := [.int x, .int y]) B (CtO.g hc) EXe.gp carrGP (fun cA => ws_at (cnt_fix (by decide))) rfl rfl mw_700 mw_697 mw_698 mw_699 mw_2 (by decide +kernel) ⟨by show h + 1 ≤ 10; omega, by show 8 + (4 + 11) + (30 * h + 60) ≤ 30 * 10 + 60; omega⟩ rfl rfl (Nat.le_of_ble_eq_true rfl) dL_scrip_5 ⟨by show 0 + mc ≤ 13; omega, by show 0 + ms ≤ 78; omega⟩ (fun Ex u hx => ?_) (fun v u hvu => ?_)
  · obtain ⟨hx1, rfl⟩ := hx
    rcases ho with ⟨x0, N, rfl⟩ | ⟨Ey, N, hE, rfl⟩
    · cases hx1
    · cases hx1
      simp only [List.mem_cons, List.not_mem_nil, or_false] at hE
      rcases hE with rfl | rfl
      · refine ⟨[], ⟨0, 10, 13, 19⟩, [⟨0, 10, 17, 21⟩], "java/lang/IndexOutOfBoundsException", rfl, (fun z hz => absurd hz List.not_mem_nil), rfl, by decide, mw_171, by decide, fun q9 => ?_⟩
        refine g_astore (ls2 := [(4, .ref q9), (0, .ref (ρ 0)), (1, .int x), (2, .int y), (3, .ref (ρ 8))]) B hnL dL_scrip_13 (by decide) rfl ?_
        refine g_iconst (v := 1) B dL_scrip_15 (by decide) ?_
        exact g_iret C rfl (by show 0 + mc ≤ 13; omega) (by show 0 + ms ≤ 78; omega) dL_scrip_16 ⟨rfl, rfl⟩
      · refine ⟨[⟨0, 10, 13, 19⟩], ⟨0, 10, 17, 21⟩, [], "java/lang/IllegalArgumentException", rfl, (fun z hz => by have hz2 := List.mem_singleton.mp hz; subst hz2; exact Or.inr ⟨by decide, "java/lang/IndexOutOfBoundsException", mw_171, nc1⟩), rfl, by decide, mw_172, by decide, fun q9 => ?_⟩
        refine g_astore (ls2 := [(4, .ref q9), (0, .ref (ρ 0)), (1, .int x), (2, .int y), (3, .ref (ρ 8))]) B hnL dL_scrip_17 (by decide) rfl ?_
        refine g_iconst (v := 2) B dL_scrip_19 (by decide) ?_
        exact g_iret C rfl (by show 0 + mc ≤ 13; omega) (by show 0 + ms ≤ 78; omega) dL_scrip_20 ⟨rfl, rfl⟩
  · obtain ⟨hv, rfl⟩ := hvu
    rcases ho with ⟨x0, N, rfl⟩ | ⟨Ey, N, hE, rfl⟩
    · cases hv
      refine g_i2l B dL_scrip_8 ?_
      refine g_last (N := 1) 8 B (fun cA => ws_at (cnt_fix (by decide))) (vp_in_nI (n := 0) (by decide) (by decide)) dL_scrip_9 ?_
      rw [wsJ]
      refine g_goto (tgt := 21) B dL_scrip_10 (by decide) ?_
      refine g_iconst (v := 0) B dL_scrip_21 (by decide) ?_
      exact g_iret C rfl (by show 0 + mc ≤ 13; omega) (by show 0 + ms ≤ 78; omega) dL_scrip_22 ⟨rfl, rfl⟩
    · cases hv
set_option maxRecDepth 100000 in
set_option maxHeartbeats 4000000 in
theorem w_scripAnew {l : Launch} (hl : l.stackTraces = false) {e n : Nat} {ρ : Nat → Nat} {J : Nat → Int64} {M : Mem} {x : Int32} {h mc ms : Nat} {o : Out} (hc : CtO l yX2_scripAnew cX2_scripAnew 3 (some .int) h mc ms n ρ J M [.ref (ρ 0), .int x] o) (hh : h ≤ 9) (hmc : mc ≤ 13) (hms : ms ≤ 78) (ho : oki [IX] o) :
    CG (EXe e) l yL_scripAnew (Cond.codeWith yL_scripAnew cL_scripAnew 4 (some .int) [(0, 9, 12, 19)] :: GW) 10 13 78 (wsd n ρ J M) [.ref (ρ 0), .int x, .ref (ρ 8)] (fun v w2 => v = some (.int (cdo [IX] o)) ∧ w2 = wsd n ρ (Jn J o) o.2) (fun _ _ => False) := by
  refine CG.ofH EXe.gp hl (by decide +kernel) (Nat.le_of_ble_eq_true rfl) (fun Ξ hnL C => ?_)
  show G Ξ (wsd n ρ J M) 0 0 0 [(0, .ref (ρ 0)), (1, .int x), (2, .ref (ρ 8))] []
  have B := C.b
  refine g_aload_n (j := 2) B dL_scripAnew_0 rfl rfl ?_
  refine g_iconst (v := 0) B dL_scripAnew_1 (by decide) ?_
  refine g_aload_n (j := 0) B dL_scripAnew_2 rfl rfl ?_
  refine g_iload_n (j := 1) B dL_scripAnew_3 rfl rfl ?_
  refine g_callV (i := 0) (ci := 3) (nA := 1) (Cn := RX2) (As := [.int x]) B (CtO.g hc) EXe.gp carrGP (fun cA => ws_at (cnt_fix (by decide))) rfl rfl mw_711 mw_708 mw_709 mw_710 mw_2 (by decide +kernel) ⟨by show h + 1 ≤ 10; omega, by show 8 + (3 + 11) + (30 * h + 60) ≤ 30 * 10 + 60; omega⟩ rfl rfl (Nat.le_of_ble_eq_true rfl) dL_scripAnew_4 ⟨by show 0 + mc ≤ 13; omega, by show 0 + ms ≤ 78; omega⟩ (fun Ex u hx => ?_) (fun v u hvu => ?_)
  · obtain ⟨hx1, rfl⟩ := hx
    rcases ho with ⟨x0, N, rfl⟩ | ⟨Ey, N, hE, rfl⟩
    · cases hx1
    · cases hx1
      simp only [List.mem_cons, List.not_mem_nil, or_false] at hE
      subst hE
      refine ⟨[], ⟨0, 9, 12, 19⟩, [], "java/lang/IndexOutOfBoundsException", rfl, (fun z hz => absurd hz List.not_mem_nil), rfl, by decide, mw_171, by decide, fun q9 => ?_⟩
      refine g_astore_n (ls2 := [(3, .ref q9), (0, .ref (ρ 0)), (1, .int x), (2, .ref (ρ 8))]) B hnL dL_scripAnew_12 rfl (by decide) rfl ?_
      refine g_iconst (v := 1) B dL_scripAnew_13 (by decide) ?_
      exact g_iret C rfl (by show 0 + mc ≤ 13; omega) (by show 0 + ms ≤ 78; omega) dL_scripAnew_14 ⟨rfl, rfl⟩
  · obtain ⟨hv, rfl⟩ := hvu
    rcases ho with ⟨x0, N, rfl⟩ | ⟨Ey, N, hE, rfl⟩
    · cases hv
      refine g_i2l B dL_scripAnew_7 ?_
      refine g_last (N := 1) 8 B (fun cA => ws_at (cnt_fix (by decide))) (vp_in_nI (n := 0) (by decide) (by decide)) dL_scripAnew_8 ?_
      rw [wsJ]
      refine g_goto (tgt := 15) B dL_scripAnew_9 (by decide) ?_
      refine g_iconst (v := 0) B dL_scripAnew_15 (by decide) ?_
      exact g_iret C rfl (by show 0 + mc ≤ 13; omega) (by show 0 + ms ≤ 78; omega) dL_scripAnew_16 ⟨rfl, rfl⟩
    · cases hv
set_option maxRecDepth 100000 in
set_option maxHeartbeats 4000000 in
theorem w_baskets {l : Launch} (hl : l.stackTraces = false) {e n : Nat} {ρ : Nat → Nat} {J : Nat → Int64} {M : Mem} {x : Int32} {h mc ms : Nat} {o : Out} (hc : CtO l yX2_baskets cX2_baskets 5 (some .int) h mc ms n ρ J M [.ref (ρ 0), .int x] o) (hh : h ≤ 9) (hmc : mc ≤ 13) (hms : ms ≤ 78) (ho : oki [IX] o) :
    CG (EXe e) l yL_baskets (Cond.codeWith yL_baskets cL_baskets 4 (some .int) [(0, 9, 12, 19)] :: GW) 10 13 78 (wsd n ρ J M) [.ref (ρ 0), .int x, .ref (ρ 8)] (fun v w2 => v = some (.int (cdo [IX] o)) ∧ w2 = wsd n ρ (Jn J o) o.2) (fun _ _ => False) := by
  refine CG.ofH EXe.gp hl (by decide +kernel) (Nat.le_of_ble_eq_true rfl) (fun Ξ hnL C => ?_)
  show G Ξ (wsd n ρ J M) 0 0 0 [(0, .ref (ρ 0)), (1, .int x), (2, .ref (ρ 8))] []
  have B := C.b
  refine g_aload_n (j := 2) B dL_baskets_0 rfl rfl ?_
  refine g_iconst (v := 0) B dL_baskets_1 (by decide) ?_
  refine g_aload_n (j := 0) B dL_baskets_2 rfl rfl ?_
  refine g_iload_n (j := 1) B dL_baskets_3 rfl rfl ?_
  refine g_callV (i := 0) (ci := 3) (nA := 1) (Cn := RX2) (As := [.int x]) B (CtO.g hc) EXe.gp carrGP (fun cA => ws_at (cnt_fix (by decide))) rfl rfl mw_724 mw_721 mw_722 mw_723 mw_2 (by decide +kernel) ⟨by show h + 1 ≤ 10; omega, by show 8 + (5 + 11) + (30 * h + 60) ≤ 30 * 10 + 60; omega⟩ rfl rfl (Nat.le_of_ble_eq_true rfl) dL_baskets_4 ⟨by show 0 + mc ≤ 13; omega, by show 0 + ms ≤ 78; omega⟩ (fun Ex u hx => ?_) (fun v u hvu => ?_)
  · obtain ⟨hx1, rfl⟩ := hx
    rcases ho with ⟨x0, N, rfl⟩ | ⟨Ey, N, hE, rfl⟩
    · cases hx1
    · cases hx1
      simp only [List.mem_cons, List.not_mem_nil, or_false] at hE
      subst hE
      refine ⟨[], ⟨0, 9, 12, 19⟩, [], "java/lang/IndexOutOfBoundsException", rfl, (fun z hz => absurd hz List.not_mem_nil), rfl, by decide, mw_171, by decide, fun q9 => ?_⟩
      refine g_astore_n (ls2 := [(3, .ref q9), (0, .ref (ρ 0)), (1, .int x), (2, .ref (ρ 8))]) B hnL dL_baskets_12 rfl (by decide) rfl ?_
      refine g_iconst (v := 1) B dL_baskets_13 (by decide) ?_
      exact g_iret C rfl (by show 0 + mc ≤ 13; omega) (by show 0 + ms ≤ 78; omega) dL_baskets_14 ⟨rfl, rfl⟩
  · obtain ⟨hv, rfl⟩ := hvu
    rcases ho with ⟨x0, N, rfl⟩ | ⟨Ey, N, hE, rfl⟩
    · cases hv
      refine g_i2l B dL_baskets_7 ?_
      refine g_last (N := 1) 8 B (fun cA => ws_at (cnt_fix (by decide))) (vp_in_nI (n := 0) (by decide) (by decide)) dL_baskets_8 ?_
      rw [wsJ]
      refine g_goto (tgt := 15) B dL_baskets_9 (by decide) ?_
      refine g_iconst (v := 0) B dL_baskets_15 (by decide) ?_
      exact g_iret C rfl (by show 0 + mc ≤ 13; omega) (by show 0 + ms ≤ 78; omega) dL_baskets_16 ⟨rfl, rfl⟩
    · cases hv
set_option maxRecDepth 100000 in
set_option maxHeartbeats 4000000 in
theorem w_books {l : Launch} (hl : l.stackTraces = false) {e n : Nat} {ρ : Nat → Nat} {J : Nat → Int64} {M : Mem} {x : Int32} {h mc ms : Nat} {o : Out} (hc : CtO l yX2_books cX2_books 2 (some .int) h mc ms n ρ J M [.ref (ρ 0), .int x] o) (hh : h ≤ 9) (hmc : mc ≤ 13) (hms : ms ≤ 78) (ho : oki [IX] o) :
    CG (EXe e) l yL_books (Cond.codeWith yL_books cL_books 4 (some .int) [(0, 9, 12, 19)] :: GW) 10 13 78 (wsd n ρ J M) [.ref (ρ 0), .int x, .ref (ρ 8)] (fun v w2 => v = some (.int (cdo [IX] o)) ∧ w2 = wsd n ρ (Jn J o) o.2) (fun _ _ => False) := by
  refine CG.ofH EXe.gp hl (by decide +kernel) (Nat.le_of_ble_eq_true rfl) (fun Ξ hnL C => ?_)
  show G Ξ (wsd n ρ J M) 0 0 0 [(0, .ref (ρ 0)), (1, .int x), (2, .ref (ρ 8))] []
  have B := C.b
  refine g_aload_n (j := 2) B dL_books_0 rfl rfl ?_
  refine g_iconst (v := 0) B dL_books_1 (by decide) ?_
  refine g_aload_n (j := 0) B dL_books_2 rfl rfl ?_
  refine g_iload_n (j := 1) B dL_books_3 rfl rfl ?_
  refine g_callV (i := 0) (ci := 3) (nA := 1) (Cn := RX2) (As := [.int x]) B (CtO.g hc) EXe.gp carrGP (fun cA => ws_at (cnt_fix (by decide))) rfl rfl mw_735 mw_732 mw_733 mw_734 mw_2 (by decide +kernel) ⟨by show h + 1 ≤ 10; omega, by show 8 + (2 + 11) + (30 * h + 60) ≤ 30 * 10 + 60; omega⟩ rfl rfl (Nat.le_of_ble_eq_true rfl) dL_books_4 ⟨by show 0 + mc ≤ 13; omega, by show 0 + ms ≤ 78; omega⟩ (fun Ex u hx => ?_) (fun v u hvu => ?_)
  · obtain ⟨hx1, rfl⟩ := hx
    rcases ho with ⟨x0, N, rfl⟩ | ⟨Ey, N, hE, rfl⟩
    · cases hx1
    · cases hx1
      simp only [List.mem_cons, List.not_mem_nil, or_false] at hE
      subst hE
      refine ⟨[], ⟨0, 9, 12, 19⟩, [], "java/lang/IndexOutOfBoundsException", rfl, (fun z hz => absurd hz List.not_mem_nil), rfl, by decide, mw_171, by decide, fun q9 => ?_⟩
      refine g_astore_n (ls2 := [(3, .ref q9), (0, .ref (ρ 0)), (1, .int x), (2, .ref (ρ 8))]) B hnL dL_books_12 rfl (by decide) rfl ?_
      refine g_iconst (v := 1) B dL_books_13 (by decide) ?_
      exact g_iret C rfl (by show 0 + mc ≤ 13; omega) (by show 0 + ms ≤ 78; omega) dL_books_14 ⟨rfl, rfl⟩
  · obtain ⟨hv, rfl⟩ := hvu
    rcases ho with ⟨x0, N, rfl⟩ | ⟨Ey, N, hE, rfl⟩
    · cases hv
      refine g_i2l B dL_books_7 ?_
      refine g_last (N := 1) 8 B (fun cA => ws_at (cnt_fix (by decide))) (vp_in_nI (n := 0) (by decide) (by decide)) dL_books_8 ?_
      rw [wsJ]
      refine g_goto (tgt := 15) B dL_books_9 (by decide) ?_
      refine g_iconst (v := 0) B dL_books_15 (by decide) ?_
      exact g_iret C rfl (by show 0 + mc ≤ 13; omega) (by show 0 + ms ≤ 78; omega) dL_books_16 ⟨rfl, rfl⟩
    · cases hv
