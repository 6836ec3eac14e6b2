/-! The law's start. -/
def M0p : Mem := fun i => match i with
  | 0 => h0X2
  | 2 => (upd (upd (upd (upd (upd (fun _ => 0) 0 10) 1 20) 2 0) 3 0) 4 0)
  | 4 => (upd (upd (upd (upd (fun _ => 0) 0 10) 1 10) 2 10) 3 10)
  | 5 => (upd (upd (upd (upd (fun _ => 0) 0 10) 1 10) 2 10) 3 10)
  | _ => fun _ => 0
def Mn : Nat → Mem
  | 0 => M0p
  | n + 1 => newM (up (up (Mn n) 9 (12 * n) 1) 9 (12 * n + 5) 1) n
def cS (M : Mem) : Nat → Mem
  | 0 => M
  | j + 1 => up (cS M j) 12 (5 + j) 10
def MS : Mem := up (up (up (up (up (up (cS (Mn 5) 8) 12 0 10) 12 1 20) 12 13 10) 12 15 12345) 12 17 200) 12 18 20
set_option maxRecDepth 100000 in
theorem ws_start {cA : Nat → ClassId} {e p0 p1 p2 p3 p4 p5 p6 p7 q1 q2 q3 q4 : Nat} : ([(p0, .inr (3, [.ref p1, .int 10, .int 0, .int 12345, .ref p2, .ref p3, .int 0, .ref p4, .ref p5, .int 200, .int 20, .ref p6, .int 0, .int 0, .int 0, .int 0, .int 0, .ref p7])), (p1, .inr (0, [.int 0, .ref e, .int 0])), (p2, .inl (cA 0, 5, .inl (upd (upd (upd (upd (upd (fun _ => 0) 0 10) 1 20) 2 0) 3 0) 4 0))), (p3, .inr (2, [.int 0, .int 0, .int 0, .int 0])), (p4, .inl (cA 0, 4, .inl (upd (upd (upd (upd (fun _ => 0) 0 10) 1 10) 2 10) 3 10))), (p5, .inl (cA 0, 4, .inl (upd (upd (upd (upd (fun _ => 0) 0 10) 1 10) 2 10) 3 10))), (p6, .inl (cA 1, 3, .inl (fun _ => 0))), (p7, .inl (cA 0, 6, .inl (fun _ => 0))), (q1, .inl (cA 0, 60, .inl (fun _ => 0))), (q2, .inl (cA 0, 60, .inl (fun _ => 0))), (q3, .inl (cA 0, 20, .inl (fun _ => 0))), (q4, .inl (cA 0, 31, .inl (fun _ => 0)))] : va_W) = ws cA 0 (rho0 e [p0, p1, p2, p3, p4, p5, p6, p7, 0, q1, q2, q3, q4]) (fun _ => 0) M0p := rfl
section St
theorem MS_r : MS 0 = M00 0 ∧ MS 2 = M00 2 ∧ MS 4 = M00 4 ∧ MS 5 = M00 5 ∧ MS 6 = M00 6 := ⟨rfl, rfl, rfl, rfl, rfl⟩
theorem MS_O : ∀ j, j < 5 → MS (mO j) = fz0 ∧ MS (mG j) = (fun _ => 0) ∧ MS (mS j) = (fun _ => 0)
  | 0, _ => ⟨rfl, rfl, rfl⟩
  | 1, _ => ⟨rfl, rfl, rfl⟩
  | 2, _ => ⟨rfl, rfl, rfl⟩
  | 3, _ => ⟨rfl, rfl, rfl⟩
  | 4, _ => ⟨rfl, rfl, rfl⟩
theorem MS_iv : Iv 0 5 MS := by
  have zz : si (fun _ => (0 : Int32)) 40 = 0 := by decide
  have e0 : msR fz0 (fun _ => 0) = 0 := by unfold msR; rw [zz]; rfl
  obtain ⟨r0, r2, r4, r5, r6⟩ := MS_r
  refine ⟨by decide, by decide, ?_, ⟨fun j hj => ?_, ?_⟩⟩
  · have g := SS0.2.g
    simp only [GI, r0, r2, r4, r5, r6]
    exact g
  · obtain ⟨h1, -, h3⟩ := MS_O j hj
    rw [h1, h3]
    exact ⟨Or.inr rfl, Or.inr rfl, Or.inl rfl, Or.inl rfl, by decide, by decide, by decide, by decide, fun i _ => (show 0 ≤ (0 : Int32).toInt by decide), by decide⟩
  · have h : ∀ j, j < 5 → msR (MS (mO j)) (MS (mS j)) = 0 := fun j hj => by rw [(MS_O j hj).1, (MS_O j hj).2.2]; exact e0
    show 0 + _ + _ + _ + _ + _ ≤ _
    rw [h 0 (by decide), h 1 (by decide), h 2 (by decide), h 3 (by decide), h 4 (by decide)]
    decide
theorem MS_srp : SRP MS MS := by
  have d1 : ∀ q ∈ TC, MS 12 q.2 = MS 0 q.1 := by decide +kernel
  have d2 : ∀ k, k < 5 → MS 12 k = MS 2 k := by decide +kernel
  have d3 : ∀ k, k < 4 → MS 12 (5 + k) = MS 4 k := by decide +kernel
  have d4 : ∀ k, k < 4 → MS 12 (9 + k) = MS 5 k := by decide +kernel
  have d5 : ∀ k, k < 6 → MS 12 (25 + k) = MS 7 k := by decide +kernel
  have d6 : ∀ j, j < 5 → ∀ q ∈ TA, MS 9 (12 * j + q.2) = MS (28 + 3 * j) q.1 := by decide +kernel
  have d7 : ∀ j, j < 5 → ∀ k, k < 4 → MS 11 (4 * j + k) = MS (29 + 3 * j) k := by decide +kernel
  have d8 : ∀ j, j < 5 → ∀ k, k < 12 → MS 10 (12 * j + k) = MS (30 + 3 * j) k := by decide +kernel
  refine ⟨fun i k i' k' p => ?_, by decide +kernel, by decide +kernel, fun j i hj _ _ => by rw [(MS_O j hj).2.2]⟩
  unfold Pq at p
  rcases p with ⟨rfl, rfl, p⟩ | ⟨rfl, rfl, rfl, p⟩ | ⟨rfl, rfl, rfl, p⟩ | ⟨rfl, rfl, rfl, p⟩ | ⟨rfl, rfl, rfl, p⟩ | ⟨j, o, hj, rfl, rfl, p, rfl⟩ | ⟨j, hj, rfl, rfl, rfl, p⟩ | ⟨j, hj, rfl, rfl, rfl, p⟩
  · exact d1 _ p
  · exact d2 _ p
  · exact d3 _ p
  · exact d4 _ p
  · exact d5 _ p
  · exact d6 j hj _ p
  · exact d7 j hj _ p
  · exact d8 j hj _ p
theorem MS_lc : LC MS := by
  have d : ∀ j, j < 5 → MS 9 (12 * j + 10) - MS 9 (12 * j + 11) = hasF MS j := by decide +kernel
  exact d
theorem MS_sr : SR 0 MS := ⟨MS_srp, MS_lc, ⟨0, by decide, rfl⟩, ⟨12345, by decide, rfl⟩, MS_iv⟩
end St
set_option maxRecDepth 100000 in
theorem c_loop {l : Launch} (hl : l.stackTraces = false) {mn : String} {e bs L : Nat} {xs : Nat → Int32} {tb : List ExceptionTableEntry} {Ξ : CT} (hnL : Ξ.2.2.2.2.2.2 = 10) (B : CB (EXl e bs L xs) l (rmm 12 5000 30000) cL_holds RL mn tb Ξ) {ρ : Nat → Nat} {J : Nat → Int64} {a b : Nat} (go : G Ξ (wsd 5 ρ J MS) a b 155 [(7, .int (nI 0)), (6, .int 1), (5, .ref (ρ 12)), (4, .ref (ρ 11)), (3, .ref (ρ 10)), (2, .ref (ρ 9)), (1, .ref (ρ 0)), (0, .ref bs)] []) : ∀ (f j : Nat), j + f = 8 → G Ξ (wsd 5 ρ J (cS (Mn 5) j)) a b 90 [(7, .int (nI (5 + j))), (6, .int 1), (5, .ref (ρ 12)), (4, .ref (ρ 11)), (3, .ref (ρ 10)), (2, .ref (ρ 9)), (1, .ref (ρ 0)), (0, .ref bs)] [] := by
  intro f
  induction f with
  | zero =>
    intro j hj
    have hj2 : j = 8 := by omega
    subst hj2
    refine g_iload (j := 0) B dL_holds_90 rfl ?_
    refine g_bipush (v := 13) B dL_holds_92 (by decide) ?_
    refine g_icmp_ge (tgt := 110) B dL_holds_94 (by decide) (fun _ => ?_) (fun h => absurd (by decide) h)
    refine g_aload (j := 2) B dL_holds_110 rfl ?_
    refine g_iconst (v := 0) B dL_holds_112 (by decide) ?_
    refine g_bipush (v := 10) B dL_holds_113 (by decide) ?_
    refine g_iastW 0 B (cnt_fix (by decide)) (fun _ _ => rfl) rfl (by decide) (by decide) dL_holds_115 ?_
    refine g_aload (j := 2) B dL_holds_116 rfl ?_
    refine g_iconst (v := 1) B dL_holds_118 (by decide) ?_
    refine g_bipush (v := 20) B dL_holds_119 (by decide) ?_
    refine g_iastW 1 B (cnt_fix (by decide)) (fun _ _ => rfl) rfl (by decide) (by decide) dL_holds_121 ?_
    refine g_aload (j := 2) B dL_holds_122 rfl ?_
    refine g_bipush (v := 13) B dL_holds_124 (by decide) ?_
    refine g_bipush (v := 10) B dL_holds_126 (by decide) ?_
    refine g_iastW 13 B (cnt_fix (by decide)) (fun _ _ => rfl) rfl (by decide) (by decide) dL_holds_128 ?_
    refine g_aload (j := 2) B dL_holds_129 rfl ?_
    refine g_bipush (v := 15) B dL_holds_131 (by decide) ?_
    refine g_sipush (v := 12345) B dL_holds_133 (by decide) ?_
    refine g_iastW 15 B (cnt_fix (by decide)) (fun _ _ => rfl) rfl (by decide) (by decide) dL_holds_136 ?_
    refine g_aload (j := 2) B dL_holds_137 rfl ?_
    refine g_bipush (v := 17) B dL_holds_139 (by decide) ?_
    refine g_sipush (v := 200) B dL_holds_141 (by decide) ?_
    refine g_iastW 17 B (cnt_fix (by decide)) (fun _ _ => rfl) rfl (by decide) (by decide) dL_holds_144 ?_
    refine g_aload (j := 2) B dL_holds_145 rfl ?_
    refine g_bipush (v := 18) B dL_holds_147 (by decide) ?_
    refine g_bipush (v := 20) B dL_holds_149 (by decide) ?_
    refine g_iastW 18 B (cnt_fix (by decide)) (fun _ _ => rfl) rfl (by decide) (by decide) dL_holds_151 ?_
    refine g_iconst (v := 0) B dL_holds_152 (by decide) ?_
    refine g_istore (ls2 := [(7, .int 0), (6, .int 1), (5, .ref (ρ 12)), (4, .ref (ρ 11)), (3, .ref (ρ 10)), (2, .ref (ρ 9)), (1, .ref (ρ 0)), (0, .ref bs)]) B hnL dL_holds_153 (by decide) rfl ?_
    exact go
  | succ f ih =>
    intro j hj
    refine g_iload (j := 0) B dL_holds_90 rfl ?_
    refine g_bipush (v := 13) B dL_holds_92 (by decide) ?_
    refine g_icmp_ge (tgt := 110) B dL_holds_94 (by decide) (fun h => absurd ((nI_leI (a := 13) (b := 5 + j) (by omega) (by omega)).mp h) (by omega)) (fun _ => ?_)
    refine g_aload (j := 2) B dL_holds_97 rfl ?_
    refine g_iload (j := 0) B dL_holds_99 rfl ?_
    refine g_bipush (v := 10) B dL_holds_101 (by decide) ?_
    refine g_iastW (5 + j) B (cnt_fix (by decide)) (fun _ _ => rfl) rfl (by omega) (by decide) dL_holds_103 ?_
    refine g_iinc (j := 0) (v := (nI (5 + j + 1))) (ls2 := [(7, .int (nI (5 + j + 1))), (6, .int 1), (5, .ref (ρ 12)), (4, .ref (ρ 11)), (3, .ref (ρ 10)), (2, .ref (ρ 9)), (1, .ref (ρ 0)), (0, .ref bs)]) B hnL dL_holds_104 rfl (nI_add (5 + j) 1) (by decide) rfl ?_
    refine g_goto (tgt := 90) B dL_holds_107 (by decide) ?_
    exact ih (j + 1) (by omega)
set_option maxRecDepth 100000 in
theorem m_loop {l : Launch} (hl : l.stackTraces = false) {mn : String} {e bs L : Nat} {xs : Nat → Int32} {tb : List ExceptionTableEntry} {Ξ : CT} (hnL : Ξ.2.2.2.2.2.2 = 10) (B : CB (EXl e bs L xs) l (rmm 12 5000 30000) cL_holds RL mn tb Ξ) {J : Nat → Int64} (go : ∀ (ρ : Nat → Nat) (a b : Nat), a ≤ 60 → b ≤ 600 → G Ξ (wsd 5 ρ J (Mn 5)) a b 87 [(7, .int (nI (5))), (6, .int 1), (5, .ref (ρ 12)), (4, .ref (ρ 11)), (3, .ref (ρ 10)), (2, .ref (ρ 9)), (1, .ref (ρ 0)), (0, .ref bs)] []) : ∀ (f n : Nat) (ρ : Nat → Nat) (a b : Nat), n + f = 5 → (n = 0 → ρ 27 = e) → a ≤ 20 + 4 * n → b ≤ 220 + 68 * n → G Ξ (wsd n ρ J (Mn n)) a b 36 [(7, .int (nI (n))), (6, .int 1), (5, .ref (ρ 12)), (4, .ref (ρ 11)), (3, .ref (ρ 10)), (2, .ref (ρ 9)), (1, .ref (ρ 0)), (0, .ref bs)] [] := by
  intro f
  induction f with
  | zero =>
    intro n ρ a b hn hρ ha hb
    have hn2 : n = 5 := by omega
    subst hn2
    refine g_iload (j := 0) B dL_holds_36 rfl ?_
    refine g_iconst (v := 5) B dL_holds_38 (by decide) ?_
    refine g_icmp_ge (tgt := 87) B dL_holds_39 (by decide) (fun _ => ?_) (fun h => absurd (by decide) h)
    exact go ρ a b (by omega) (by omega)
  | succ f ih =>
    intro n ρ a b hn hρ ha hb
    refine g_iload (j := 0) B dL_holds_36 rfl ?_
    refine g_iconst (v := 5) B dL_holds_38 (by decide) ?_
    refine g_icmp_ge (tgt := 87) B dL_holds_39 (by decide) (fun h => absurd ((nI_leI (a := 5) (b := n) (by omega) (by omega)).mp h) (by omega)) (fun _ => ?_)
    refine g_iload (j := 1) B dL_holds_42 rfl ?_
    refine g_if_eq (tgt := 87) B dL_holds_44 (by decide) (fun h => absurd h (by decide)) (fun _ => ?_)
    refine g_aload_n (j := 5) B dL_holds_47 rfl rfl ?_
    refine g_bipush (v := 12) B dL_holds_48 (by decide) ?_
    refine g_iload (j := 0) B dL_holds_50 rfl ?_
    refine g_imulN 12 n (12 * n) B rfl rfl rfl dL_holds_52 ?_
    refine g_iconst (v := 1) B dL_holds_53 (by decide) ?_
    refine g_iastW (12 * n) B (cnt_fix (by decide)) (fun _ _ => rfl) rfl (by omega) (by decide) dL_holds_54 ?_
    refine g_aload_n (j := 5) B dL_holds_55 rfl rfl ?_
    refine g_bipush (v := 12) B dL_holds_56 (by decide) ?_
    refine g_iload (j := 0) B dL_holds_58 rfl ?_
    refine g_imulN 12 n (12 * n) B rfl rfl rfl dL_holds_60 ?_
    refine g_iconst (v := 5) B dL_holds_61 (by decide) ?_
    refine g_iaddN (12 * n) 5 ((12 * n) + 5) B rfl rfl rfl dL_holds_62 ?_
    refine g_iconst (v := 1) B dL_holds_63 (by decide) ?_
    refine g_iastW (12 * n + 5) B (cnt_fix (by decide)) (fun _ _ => rfl) rfl (by omega) (by decide) dL_holds_64 ?_
    refine g_aload_n (j := 6) B dL_holds_65 rfl rfl ?_
    refine g_callV (i := 0) (ci := 3) (nA := 0) (Cn := RX2) (As := []) B (c_X2_miner hl (by omega) hρ) EXl.e EXe.carr (fun cA => ws_at (i := 0) (cnt_fix (by decide))) rfl rfl mw_60 mw_57 mw_58 mw_59 mw_12 (by decide +kernel) ⟨(Nat.le_of_ble_eq_true rfl), (Nat.le_of_ble_eq_true rfl)⟩ rfl rfl (Nat.le_of_ble_eq_true rfl) dL_holds_66 ⟨show a + 4 ≤ 5000 by omega, show b + 68 ≤ 30000 by omega⟩ (fun _ _ h => h.elim) (fun v u hvu => ?_)
    obtain ⟨rfl, ρ', hr, rfl⟩ := hvu
    rw [← hr 0 (by decide), ← hr 9 (by decide), ← hr 10 (by decide), ← hr 11 (by decide), ← hr 12 (by decide)]
    refine g_iload (j := 0) B dL_holds_69 rfl ?_
    refine g_icmp_ne (tgt := 78) B dL_holds_71 (by decide) (fun h => absurd rfl h) (fun _ => ?_)
    refine g_iconst (v := 1) B dL_holds_74 (by decide) ?_
    refine g_goto (tgt := 79) B dL_holds_75 (by decide) ?_
    refine g_istore (ls2 := [(6, .int 1), (7, .int (nI (n))), (5, .ref (ρ' 12)), (4, .ref (ρ' 11)), (3, .ref (ρ' 10)), (2, .ref (ρ' 9)), (1, .ref (ρ' 0)), (0, .ref bs)]) B hnL dL_holds_79 (by decide) rfl ?_
    refine g_iinc (j := 1) (v := (nI (n + 1))) (ls2 := [(7, .int (nI (n + 1))), (6, .int 1), (5, .ref (ρ' 12)), (4, .ref (ρ' 11)), (3, .ref (ρ' 10)), (2, .ref (ρ' 9)), (1, .ref (ρ' 0)), (0, .ref bs)]) B hnL dL_holds_81 rfl (nI_add (n) 1) (by decide) rfl ?_
    refine g_goto (tgt := 36) B dL_holds_84 (by decide) ?_
    exact g_sub [0, 1, 2, 3, 4, 5, 6, 7] rfl (ih (n + 1) ρ' _ _ (by omega) (fun h => by omega) (by omega) (by omega))
set_option maxRecDepth 100000 in
theorem c_holds {l : Launch} (hl : l.stackTraces = false) {e bs L : Nat} {xs : Nat → Int32} (hL : L < 2 ^ 31) : CG (EXl e bs L xs) l yL_holds (Cond.code yL_holds cL_holds 10 (some .boolean) :: GW) 12 5000 30000 (fun _ => []) [.ref bs] (fun v _ => v = some (.int 1)) (fun _ _ => False) := by
  refine CG.of EXl.gp hl (by decide +kernel) (Nat.le_of_ble_eq_true rfl) (fun Ξ hnL C => ?_)
  show G Ξ (fun _ => []) 0 0 0 [(0, .ref bs)] []
  have B := C.b
  have hret : ∀ (w : Wd) (a b : Nat) (ls : List (Nat × Value)), a ≤ 5000 → b ≤ 30000 → G Ξ w a b 474 ls [.int 1] := fun w a b ls ha hb => g_zret C rfl rfl ha hb dL_holds_474 rfl
  refine g_new (ci := 3) (fs := [.null, .int 0, .int 0, .int 0, .null, .null, .int 0, .null, .null, .int 0, .int 0, .null, .int 0, .int 0, .int 0, .int 0, .int 0, .null]) (C0 := RX2) (T := TX2) (N := 18) B inlX2 tyX2_ok mw_10 mw_11 mw_12 rfl (by decide +kernel) (Nat.le_of_ble_eq_true rfl) (Nat.le_of_ble_eq_true rfl) dL_holds_0 (fun p0 => ?_)
  refine g_w (w' := fun cA => [(p0, .inr (3, [.null, .int 0, .int 0, .int 0, .null, .null, .int 0, .null, .null, .int 0, .int 0, .null, .int 0, .int 0, .int 0, .int 0, .int 0, .null]))]) rfl ?_
  refine g_dup B dL_holds_3 rfl ?_
  refine g_callI (nA := 0) (As := []) B (c_X2_init hl (e := e)) EXl.e EXe.carr mw_17 mw_15 mw_16 rfl mw_12 (by decide +kernel) ⟨(Nat.le_of_ble_eq_true rfl), (Nat.le_of_ble_eq_true rfl)⟩ rfl rfl (Nat.le_of_ble_eq_true rfl) dL_holds_4 ⟨(Nat.le_of_ble_eq_true rfl), (Nat.le_of_ble_eq_true rfl)⟩ (fun _ _ h => h.elim) (fun v u hvu => ?_)
  obtain ⟨rfl, p1, p2, p3, p4, p5, p6, p7, rfl⟩ := hvu
  refine g_astore_n (ls2 := [(1, .ref p0), (0, .ref bs)]) B hnL dL_holds_7 rfl (by decide) rfl ?_
  refine g_bipush (v := 60) B dL_holds_8 (by decide) ?_
  refine g_newi (N := 60) B mw_13 (by decide) rfl (Nat.le_of_ble_eq_true rfl) (Nat.le_of_ble_eq_true rfl) (Nat.le_of_ble_eq_true rfl) dL_holds_10 (fun q1 => ?_)
  refine g_w (w' := fun cA => [(p0, .inr (3, [.ref p1, .int 10, .int 0, .int 12345, .ref p2, .ref p3, .int 0, .ref p4, .ref p5, .int 200, .int 20, .ref p6, .int 0, .int 0, .int 0, .int 0, .int 0, .ref p7])), (p1, .inr (0, [.int 0, .ref e, .int 0])), (p2, .inl (cA 0, 5, .inl (upd (upd (upd (upd (upd (fun _ => 0) 0 10) 1 20) 2 0) 3 0) 4 0))), (p3, .inr (2, [.int 0, .int 0, .int 0, .int 0])), (p4, .inl (cA 0, 4, .inl (upd (upd (upd (upd (fun _ => 0) 0 10) 1 10) 2 10) 3 10))), (p5, .inl (cA 0, 4, .inl (upd (upd (upd (upd (fun _ => 0) 0 10) 1 10) 2 10) 3 10))), (p6, .inl (cA 1, 3, .inl (fun _ => 0))), (p7, .inl (cA 0, 6, .inl (fun _ => 0))), (q1, .inl (cA 0, 60, .inl (fun _ => 0)))]) rfl ?_
  refine g_astore_n (ls2 := [(2, .ref q1), (1, .ref p0), (0, .ref bs)]) B hnL dL_holds_12 rfl (by decide) rfl ?_
  refine g_bipush (v := 60) B dL_holds_13 (by decide) ?_
  refine g_newi (N := 60) B mw_13 (by decide) rfl (Nat.le_of_ble_eq_true rfl) (Nat.le_of_ble_eq_true rfl) (Nat.le_of_ble_eq_true rfl) dL_holds_15 (fun q2 => ?_)
  refine g_w (w' := fun cA => [(p0, .inr (3, [.ref p1, .int 10, .int 0, .int 12345, .ref p2, .ref p3, .int 0, .ref p4, .ref p5, .int 200, .int 20, .ref p6, .int 0, .int 0, .int 0, .int 0, .int 0, .ref p7])), (p1, .inr (0, [.int 0, .ref e, .int 0])), (p2, .inl (cA 0, 5, .inl (upd (upd (upd (upd (upd (fun _ => 0) 0 10) 1 20) 2 0) 3 0) 4 0))), (p3, .inr (2, [.int 0, .int 0, .int 0, .int 0])), (p4, .inl (cA 0, 4, .inl (upd (upd (upd (upd (fun _ => 0) 0 10) 1 10) 2 10) 3 10))), (p5, .inl (cA 0, 4, .inl (upd (upd (upd (upd (fun _ => 0) 0 10) 1 10) 2 10) 3 10))), (p6, .inl (cA 1, 3, .inl (fun _ => 0))), (p7, .inl (cA 0, 6, .inl (fun _ => 0))), (q1, .inl (cA 0, 60, .inl (fun _ => 0))), (q2, .inl (cA 0, 60, .inl (fun _ => 0)))]) rfl ?_
  refine g_astore_n (ls2 := [(3, .ref q2), (2, .ref q1), (1, .ref p0), (0, .ref bs)]) B hnL dL_holds_17 rfl (by decide) rfl ?_
  refine g_bipush (v := 20) B dL_holds_18 (by decide) ?_
  refine g_newi (N := 20) B mw_13 (by decide) rfl (Nat.le_of_ble_eq_true rfl) (Nat.le_of_ble_eq_true rfl) (Nat.le_of_ble_eq_true rfl) dL_holds_20 (fun q3 => ?_)
  refine g_w (w' := fun cA => [(p0, .inr (3, [.ref p1, .int 10, .int 0, .int 12345, .ref p2, .ref p3, .int 0, .ref p4, .ref p5, .int 200, .int 20, .ref p6, .int 0, .int 0, .int 0, .int 0, .int 0, .ref p7])), (p1, .inr (0, [.int 0, .ref e, .int 0])), (p2, .inl (cA 0, 5, .inl (upd (upd (upd (upd (upd (fun _ => 0) 0 10) 1 20) 2 0) 3 0) 4 0))), (p3, .inr (2, [.int 0, .int 0, .int 0, .int 0])), (p4, .inl (cA 0, 4, .inl (upd (upd (upd (upd (fun _ => 0) 0 10) 1 10) 2 10) 3 10))), (p5, .inl (cA 0, 4, .inl (upd (upd (upd (upd (fun _ => 0) 0 10) 1 10) 2 10) 3 10))), (p6, .inl (cA 1, 3, .inl (fun _ => 0))), (p7, .inl (cA 0, 6, .inl (fun _ => 0))), (q1, .inl (cA 0, 60, .inl (fun _ => 0))), (q2, .inl (cA 0, 60, .inl (fun _ => 0))), (q3, .inl (cA 0, 20, .inl (fun _ => 0)))]) rfl ?_
  refine g_astore (ls2 := [(4, .ref q3), (3, .ref q2), (2, .ref q1), (1, .ref p0), (0, .ref bs)]) B hnL dL_holds_22 (by decide) rfl ?_
  refine g_bipush (v := 31) B dL_holds_24 (by decide) ?_
  refine g_newi (N := 31) B mw_13 (by decide) rfl (Nat.le_of_ble_eq_true rfl) (Nat.le_of_ble_eq_true rfl) (Nat.le_of_ble_eq_true rfl) dL_holds_26 (fun q4 => ?_)
  refine g_w (w' := fun cA => [(p0, .inr (3, [.ref p1, .int 10, .int 0, .int 12345, .ref p2, .ref p3, .int 0, .ref p4, .ref p5, .int 200, .int 20, .ref p6, .int 0, .int 0, .int 0, .int 0, .int 0, .ref p7])), (p1, .inr (0, [.int 0, .ref e, .int 0])), (p2, .inl (cA 0, 5, .inl (upd (upd (upd (upd (upd (fun _ => 0) 0 10) 1 20) 2 0) 3 0) 4 0))), (p3, .inr (2, [.int 0, .int 0, .int 0, .int 0])), (p4, .inl (cA 0, 4, .inl (upd (upd (upd (upd (fun _ => 0) 0 10) 1 10) 2 10) 3 10))), (p5, .inl (cA 0, 4, .inl (upd (upd (upd (upd (fun _ => 0) 0 10) 1 10) 2 10) 3 10))), (p6, .inl (cA 1, 3, .inl (fun _ => 0))), (p7, .inl (cA 0, 6, .inl (fun _ => 0))), (q1, .inl (cA 0, 60, .inl (fun _ => 0))), (q2, .inl (cA 0, 60, .inl (fun _ => 0))), (q3, .inl (cA 0, 20, .inl (fun _ => 0))), (q4, .inl (cA 0, 31, .inl (fun _ => 0)))]) rfl ?_
  refine g_astore (ls2 := [(5, .ref q4), (4, .ref q3), (3, .ref q2), (2, .ref q1), (1, .ref p0), (0, .ref bs)]) B hnL dL_holds_28 (by decide) rfl ?_
  refine g_iconst (v := 1) B dL_holds_30 (by decide) ?_
  refine g_istore (ls2 := [(6, .int 1), (5, .ref q4), (4, .ref q3), (3, .ref q2), (2, .ref q1), (1, .ref p0), (0, .ref bs)]) B hnL dL_holds_31 (by decide) rfl ?_
  refine g_iconst (v := 0) B dL_holds_33 (by decide) ?_
  refine g_istore (ls2 := [(7, .int 0), (6, .int 1), (5, .ref q4), (4, .ref q3), (3, .ref q2), (2, .ref q1), (1, .ref p0), (0, .ref bs)]) B hnL dL_holds_34 (by decide) rfl ?_
  refine g_w (w' := wsd 0 (rho0 e [p0, p1, p2, p3, p4, p5, p6, p7, 0, q1, q2, q3, q4]) (fun _ => 0) M0p) (funext fun cA => ws_start (e := e)) ?_
  refine g_sub [0, 1, 2, 3, 4, 5, 6, 7] rfl ?_
  refine m_loop hl hnL B (J := fun _ => 0) (fun ρ a b ha hb => ?_) 5 0 (rho0 e [p0, p1, p2, p3, p4, p5, p6, p7, 0, q1, q2, q3, q4]) _ _ rfl (fun _ => rfl) (Nat.le_of_ble_eq_true rfl) (Nat.le_of_ble_eq_true rfl)
  refine g_iconst (v := 5) B dL_holds_87 (by decide) ?_
  refine g_istore (ls2 := [(7, .int 5), (6, .int 1), (5, .ref (ρ 12)), (4, .ref (ρ 11)), (3, .ref (ρ 10)), (2, .ref (ρ 9)), (1, .ref (ρ 0)), (0, .ref bs)]) B hnL dL_holds_88 (by decide) rfl ?_
  refine c_loop hl hnL B ?_ 8 0 rfl
  exact holds_loop hl hL hnL B hret 80 0 MS a b rfl MS_sr (by omega) (by omega)
set_option maxRecDepth 100000 in
theorem c_isHeld {l : Launch} (hl : l.stackTraces = false) {e bs L : Nat} {xs : Nat → Int32} (hL : L < 2 ^ 31) : CG (EXl e bs L xs) l yL_isHeld (Cond.codeWith yL_isHeld cL_isHeld 2 (some .boolean) [(0, 4, 5, 190), (0, 4, 8, 192), (0, 4, 11, 194)] :: GW) 13 5000 30000 (fun _ => []) [.ref bs] (fun v _ => v = some (.int 1)) (fun _ _ => False) := by
  refine CG.ofH EXl.gp hl (by decide +kernel) (Nat.le_of_ble_eq_true rfl) (fun Ξ hnL C => ?_)
  show G Ξ (fun _ => []) 0 0 0 [(0, .ref bs)] []
  have B := C.b
  refine g_aload_n (j := 0) B dL_isHeld_0 rfl rfl ?_
  refine g_callS (nA := 1) (As := [.ref bs]) B (c_holds hl (e := e) (xs := xs) hL) (fun _ _ _ h => h) EXl.carr mw_9 mw_7 mw_8 mw_2 (by decide +kernel) ⟨(Nat.le_of_ble_eq_true rfl), (Nat.le_of_ble_eq_true rfl)⟩ rfl rfl (Nat.le_of_ble_eq_true rfl) dL_isHeld_1 ⟨(Nat.le_of_ble_eq_true rfl), (Nat.le_of_ble_eq_true rfl)⟩ (fun _ _ h => h.elim) (fun v u hvu => ?_)
  subst hvu
  exact g_zret C rfl rfl (Nat.le_of_ble_eq_true rfl) (Nat.le_of_ble_eq_true rfl) dL_isHeld_4 rfl
