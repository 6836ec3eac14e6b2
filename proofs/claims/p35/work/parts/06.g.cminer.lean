/-! The class's miner(): a new miner in the world. -/
section GT
variable {EX : EXT} {l : Launch} {R : Room} {cc : ByteArray} {mn : String} {ret : Option FieldType} {mc ms : Nat} {post : Option Value → Wd → Prop} {exc : String → Wd → Prop} {Ξ : CT}
variable {w : Wd} {a b pc : Nat} {ls : List (Nat × Value)} {st : List Value}
theorem g_throw {cls text : String} {ik is ic : Nat} (C : CQ EX l R cc RX2 mn ret mc ms [] post exc Ξ) (th : Thr ic cls) (hk : Cond.classLink RX2 ik cls ∈ GW) (hi : Cond.initialized cls ∈ GW) (hstr : (is, text) ∈ strs) (hkg : vx_ot (Cond.classLink RX2 ik cls) = true) (hig : vx_ot (Cond.initialized cls) = true)
    (d0 : decode cc pc = .ok (.new ik, 3)) (d3 : decode cc (pc + 3) = .ok (.dup, 1)) (d4 : decode cc (pc + 4) = .ok (.ldc is, 2)) (d6 : decode cc (pc + 6) = .ok (.invokespecial ic, 3)) (d9 : decode cc (pc + 9) = .ok (.athrow, 1))
    (hf : 5 < R.frames) (hlo : (st.map fun v => v.category).sum + 82 ≤ R.locals) (hrc : a + 1 ≤ R.cells) (hrs : b + 6 ≤ R.slots) (hca : a + 1 ≤ mc) (hcb : b + 6 ≤ ms) (hp : exc cls w) : G Ξ w a b pc ls st := by
  obtain ⟨p, e, s, m, args, below, meth, c, D, cA, A, nL, rfl, hx, hb, hml, hown, hmn, hts, hK, hEG, hE, hr, hlk, htb, hA, hst⟩ := C
  have hG := hEG _ _ _ hE
  intro H locs lsA hP hD hS hl
  obtain ⟨sa, hsa⟩ := hG.2.1 _ hstr
  obtain ⟨t1, t2, t3, t4⟩ := th
  refine vx_throwS (names := ["java/lang/RuntimeException", "java/lang/Exception"]) hx hb hst hown t4 (fun q hq => ?_) (hts _ hk) (hts _ hi) hsa
    (vx_hat (B := NGw) (fun w hw => hts _ (t1 w hw)) t2 (fun w hw => ?_)) (fun w hw => ?_) hG.2.2.1 hG.2.2.2 hS (hl.1.trans hml.symm) d0 d3 d4 d6 d9 (fun x hxx => by rw [htb] at hxx; cases hxx) hf hlo hrc hrs hlk (fun t hal hsz hkp => ?_) hS.2.2 hca hcb
  · simp only [List.mem_cons, List.not_mem_nil, or_false] at hq
    rcases hq with rfl | rfl <;> decide +kernel
  · have h0 := hG.1 w hw
    simp only [NGw, List.mem_cons, List.not_mem_nil, or_false] at hw
    rcases hw with rfl | rfl | rfl | rfl | rfl | rfl <;> exact va_Nw.use rfl h0
  · rcases List.mem_cons.mp hw with rfl | hw
    · exact hkg
    · rcases List.mem_cons.mp hw with rfl | hw
      · exact hig
      · exact t3 w hw
  · exact ⟨⟨w, hp, va_P.kept hP (fun k q hk => hkp q.1 ((hP k q hk).lt)), hD⟩, Nat.le_trans hS.1 hsz, fun q h1 h2 => (hkp q (Nat.lt_of_lt_of_le h1 hS.1)).trans (hS.2.1 q h1 h2)⟩
end GT
def fz0 : Nat → Int32 := fun k => if k = 0 then 1 else if k = 1 then 1 else if k = 3 then -1 else 0
def newM (M : Mem) (n : Nat) : Mem := up1 (up1 (up1 (up M 1 0 (M 1 0 + 1)) (mO n) fz0) (mG n) (fun _ => 0)) (mS n) (fun _ => 0)
def rq (ρ : Nat → Nat) (n q g s : Nat) : Nat → Nat := fun i => if i = mO n then q else if i = mG n then g else if i = mS n then s else ρ i
theorem rq_lt {ρ : Nat → Nat} {n q g s i : Nat} (h : i < 28 + 3 * n) : rq ρ n q g s i = ρ i := by
  unfold rq mO mG mS
  rw [if_neg (by omega), if_neg (by omega), if_neg (by omega)]
theorem rq_O {ρ : Nat → Nat} {n q g s : Nat} : rq ρ n q g s (mO n) = q := by unfold rq; rw [if_pos rfl]
theorem rq_G {ρ : Nat → Nat} {n q g s : Nat} : rq ρ n q g s (mG n) = g := by unfold rq mO mG; rw [if_neg (by omega), if_pos rfl]
theorem rq_S {ρ : Nat → Nat} {n q g s : Nat} : rq ρ n q g s (mS n) = s := by unfold rq mO mG mS; rw [if_neg (by omega), if_neg (by omega), if_pos rfl]
theorem newM_lt {M : Mem} {n i : Nat} (h : i < 28 + 3 * n) (h1 : i ≠ 1) : newM M n i = M i := by
  unfold newM up up1 mO mG mS
  rw [if_neg (by omega), if_neg (by omega), if_neg (by omega), if_neg h1]
theorem newM_1 {M : Mem} {n : Nat} : newM M n 1 = upd (M 1) 0 (M 1 0 + 1) := by
  unfold newM up up1 mO mG mS
  rw [if_neg (by omega), if_neg (by omega), if_neg (by omega), if_pos rfl]
theorem newM_O {M : Mem} {n : Nat} : newM M n (mO n) = fz0 := by
  unfold newM up1 mO mG mS
  rw [if_neg (by omega), if_neg (by omega), if_pos rfl]
theorem newM_G {M : Mem} {n : Nat} : newM M n (mG n) = fun _ => 0 := by
  unfold newM up1 mG mS
  rw [if_neg (by omega), if_pos rfl]
theorem newM_S {M : Mem} {n : Nat} : newM M n (mS n) = fun _ => 0 := by
  unfold newM up1
  rw [if_pos rfl]
theorem cell_same {cA : Nat → ClassId} {n : Nat} {ρ ρ' : Nat → Nat} {J : Nat → Int64} (h : ∀ i, i < 28 + 3 * n → ρ' i = ρ i) (i : Nat) (hi : i < 28 + 3 * n) (h1 : i ≠ 1) (h27 : i ≠ 27) (f : Nat → Int32) : cellOf cA (n + 1) ρ' J i f = cellOf cA n ρ J i f := by
  match i, hi, h1, h27 with
  | 0, _, _, _ =>
    show (Sum.inr (3, fs2 ρ' f) : va_E) = .inr (3, fs2 ρ f)
    unfold fs2
    rw [h 1 (by omega), h 2 (by omega), h 3 (by omega), h 4 (by omega), h 5 (by omega), h 6 (by omega), h 7 (by omega)]
  | 1, _, h1, _ => exact absurd rfl h1
  | 2, _, _, _ => rfl
  | 3, _, _, _ => rfl
  | 4, _, _, _ => rfl
  | 5, _, _, _ => rfl
  | 6, _, _, _ => rfl
  | 7, _, _, _ => rfl
  | 8, _, _, _ => rfl
  | 9, _, _, _ => rfl
  | 10, _, _, _ => rfl
  | 11, _, _, _ => rfl
  | 12, _, _, _ => rfl
  | 13, _, _, _ => rfl
  | 14, _, _, _ => rfl
  | 15, _, _, _ => rfl
  | 16, _, _, _ => rfl
  | 17, _, _, _ => rfl
  | 18, _, _, _ => rfl
  | 19, _, _, _ => rfl
  | 20, _, _, _ => rfl
  | 21, _, _, _ => rfl
  | 22, _, _, _ => rfl
  | 23, _, _, _ => rfl
  | 24, _, _, _ => rfl
  | 25, _, _, _ => rfl
  | 26, _, _, _ => rfl
  | 27, _, _, h27 => exact absurd rfl h27
  | k + 28, hi, _, _ =>
    show (if k % 3 = 0 then (Sum.inr (1, fs0 ρ' (k / 3) f) : va_E) else if k % 3 = 1 then .inl (cA 0, 4, .inl f) else .inl (cA 0, 40, .inl f)) = if k % 3 = 0 then (Sum.inr (1, fs0 ρ (k / 3) f) : va_E) else if k % 3 = 1 then .inl (cA 0, 4, .inl f) else .inl (cA 0, 40, .inl f)
    have e : fs0 ρ' (k / 3) f = fs0 ρ (k / 3) f := by
      unfold fs0
      rw [h (mG (k / 3)) (by unfold mG; omega), h (mS (k / 3)) (by unfold mS; omega)]
    rw [e]
theorem mrow {ρ ρ' : Nat → Nat} {n q : Nat} (h : ∀ i, i < 28 + 3 * n → i ≠ 27 → ρ' i = ρ i) (hq : ρ' (mO n) = q) : va_up (minersAt n ρ) n (some q) = minersAt (n + 1) ρ' := by
  funext j
  unfold va_up minersAt
  by_cases e : j = n
  · subst e
    rw [if_pos rfl, if_pos (Nat.lt_succ_self j), hq]
  · rw [if_neg e]
    by_cases h2 : j < n
    · rw [if_pos h2, if_pos (by omega), h (mO j) (by unfold mO; omega) (by unfold mO; omega)]
    · rw [if_neg h2, if_neg (by omega)]
theorem ws_more {cA : Nat → ClassId} {n : Nat} {ρ : Nat → Nat} {J : Nat → Int64} {M : Mem} {q g s : Nat} (hn : 0 < n) :
    ((ws cA n ρ J M ++ ([(q, .inr (1, [.int 1, .int 1, .int 0, .int (-1), .int 0, .int 0, .int 0, .int 0, .int 0, .int 0, .ref g, .ref s, .int 0, .int 0])), (g, .inl (cA 0, 4, .inl (fun _ => 0))), (s, .inl (cA 0, 40, .inl (fun _ => 0)))] : va_W)).set 12 (rowUp (ρ 27) (minersAt n ρ) n q cA)).set 1 (ρ 1, .inr (0, [.int (M 1 0 + 1), .ref (ρ 27), .int (nI (n + 1))])) = ws cA (n + 1) (rq ρ n q g s) J (newM M n) := by
  have hc : cnt n = 13 + 3 * n := by unfold cnt; rw [if_neg (by omega)]
  have hc2 : cnt (n + 1) = 16 + 3 * n := by unfold cnt; rw [if_neg (by omega)]; omega
  have hlen : (ws cA n ρ J M).length = 13 + 3 * n := by rw [ws_len, hc]
  apply List.ext_getElem?
  intro i
  by_cases e1 : i = 1
  · subst e1
    rw [List.getElem?_set_self (by rw [List.length_set, List.length_append, hlen]; show 1 < 13 + 3 * n + 3; omega), ws_pl (by rw [hc2]; omega), show idn 1 = 1 from rfl, newM_1, rq_lt (by omega)]
    show some (ρ 1, (Sum.inr (0, [.int (M 1 0 + 1), .ref (ρ 27), .int (nI (n + 1))]) : va_E)) = some (ρ 1, .inr (0, fsL (n + 1) (rq ρ n q g s) (upd (M 1) 0 (M 1 0 + 1))))
    unfold fsL
    rw [rq_lt (by omega)]
    rfl
  rw [List.getElem?_set_ne (fun z => e1 z.symm)]
  by_cases e2 : i = 12
  · subst e2
    rw [List.getElem?_set_self (by rw [List.length_append, hlen]; show 12 < 13 + 3 * n + 3; omega), ws_pl (by rw [hc2]; omega), show idn 12 = 27 from rfl, rq_lt (by omega)]
    show some (rowUp (ρ 27) (minersAt n ρ) n q cA) = some (ρ 27, .inl (cA 3, 10, .inr (.inr (.inr (.inr (minersAt (n + 1) (rq ρ n q g s)))))))
    unfold rowUp
    rw [mrow (fun i h _ => rq_lt h) rq_O]
  rw [List.getElem?_set_ne (fun z => e2 z.symm)]
  by_cases e3 : i < 13 + 3 * n
  · have d1 : idn i < 28 + 3 * n := by unfold idn; (repeat' split) <;> omega
    have d2 : idn i ≠ 1 := fun z => e1 (idn_inj (j := 1) z)
    have d3 : idn i ≠ 27 := fun z => e2 (idn_inj (j := 12) z)
    rw [List.getElem?_append_left (by rw [hlen]; exact e3), ws_pl (by rw [hc]; exact e3), ws_pl (by rw [hc2]; omega), newM_lt d1 d2, rq_lt d1, cell_same (fun i h => rq_lt h) (idn i) d1 d2 d3]
  · rw [List.getElem?_append_right (by rw [hlen]; omega), hlen]
    by_cases e4 : i = 13 + 3 * n
    · subst e4
      have e : idn (13 + 3 * n) = mO n := by unfold idn mO; (repeat' split) <;> omega
      rw [ws_pl (by rw [hc2]; omega), e, newM_O, rq_O, cell_O, show 13 + 3 * n - (13 + 3 * n) = 0 by omega]
      unfold fs0
      rw [rq_G, rq_S]
      rfl
    by_cases e5 : i = 14 + 3 * n
    · subst e5
      have e : idn (14 + 3 * n) = mG n := by unfold idn mG; (repeat' split) <;> omega
      rw [ws_pl (by rw [hc2]; omega), e, newM_G, rq_G, cell_G, show 14 + 3 * n - (13 + 3 * n) = 1 by omega]
      rfl
    by_cases e6 : i = 15 + 3 * n
    · subst e6
      have e : idn (15 + 3 * n) = mS n := by unfold idn mS; (repeat' split) <;> omega
      rw [ws_pl (by rw [hc2]; omega), e, newM_S, rq_S, cell_S, show 15 + 3 * n - (13 + 3 * n) = 2 by omega]
      rfl
    rw [List.getElem?_eq_none (by show 3 ≤ _; omega), List.getElem?_eq_none (by rw [ws_len, hc2]; omega)]
def rq0 (ρ : Nat → Nat) (q g s r : Nat) : Nat → Nat := fun i => if i = 27 then r else rq ρ 0 q g s i
theorem ws_first {cA : Nat → ClassId} {ρ : Nat → Nat} {J : Nat → Int64} {M : Mem} {q g s r : Nat} :
    ([0, 1, 2, 3, 4, 5, 6, 7, 8, 9, 10, 11, 15, 12, 13, 14] : List Nat).map (fun i => (((ws cA 0 ρ J M ++ ([(q, .inr (1, [.int 1, .int 1, .int 0, .int (-1), .int 0, .int 0, .int 0, .int 0, .int 0, .int 0, .ref g, .ref s, .int 0, .int 0])), (g, .inl (cA 0, 4, .inl (fun _ => 0))), (s, .inl (cA 0, 40, .inl (fun _ => 0)))] : va_W)).set 1 (ρ 1, .inr (0, [.int (M 1 0 + 1), .ref r, .int (nI 1)]))) ++ [rowUp r (fun _ => none) 0 q cA])[i]?) = (ws cA 1 (rq0 ρ q g s r) J (newM M 0)).map some := by
  have hrow : va_up (fun _ => none) 0 (some q) = minersAt 1 (rq0 ρ q g s r) := by
    have h := mrow (ρ := ρ) (ρ' := rq0 ρ q g s r) (n := 0) (q := q) (fun i h1 h2 => by unfold rq0; rw [if_neg h2, rq_lt h1]) (by unfold rq0 mO; rw [if_neg (by decide)]; exact rq_O)
    rw [← h]
    congr 1
  unfold rowUp
  rw [hrow]
  rfl
set_option maxRecDepth 100000 in
theorem c_X2_miner_x {l : Launch} (hl : l.stackTraces = false) {e : Nat} {ρ : Nat → Nat} {J : Nat → Int64} {M : Mem} : CG (EXe e) l yX2_miner (Cond.code yX2_miner cX2_miner 1 (some .int) :: GW) 6 1 6 (wsd 10 ρ J M) [.ref (ρ 0)] (fun _ _ => False) (fun Ex w2 => Ex = IS ∧ w2 = wsd 10 ρ J M) := by
  refine CG.of EXe.gp hl (by decide +kernel) (Nat.le_of_ble_eq_true rfl) (fun Ξ hnL C => ?_)
  show G Ξ (wsd 10 ρ J M) 0 0 0 [(0, .ref (ρ 0))] []
  have B := C.b
  refine g_aload_n (j := 0) B dX2_miner_0 rfl rfl ?_
  refine g_get (C0 := RX2) (T := TX2) (N := 18) (ci := 3) (ref := (TX2 0).1) (q := ρ 0) 0 0 B (fun cA => ws_at (i := 0) (cnt_fix (by decide))) rfl inlX2 (by decide) rfl rfl mw_24 dX2_miner_1 ?_
  refine g_callV (i := 1) (ci := 0) (nA := 0) (Cn := RJx4a65c) (As := []) B (CtO.g (c_JL_size hl)) EXe.gp carrGP (fun cA => ws_at (i := 1) (cnt_fix (by decide))) rfl rfl mw_69 mw_66 mw_67 mw_68 mw_23 (by decide +kernel) (by decide) rfl rfl (Nat.le_of_ble_eq_true rfl) dX2_miner_4 ⟨Nat.le_of_ble_eq_true rfl, Nat.le_of_ble_eq_true rfl⟩ (fun _ _ h => absurd h.1 (fun z => by cases z)) (fun v u hvu => ?_)
  obtain ⟨hv, rfl⟩ := hvu
  cases hv
  refine g_bipush (v := 10) B dX2_miner_7 (by decide) ?_
  refine g_icmp_lt (tgt := 22) B dX2_miner_9 (by decide) (fun c => absurd c (by decide)) (fun _ => ?_)
  exact g_throw (text := "there are 10 miners") C th_IS mw_61 mw_62 (by decide) rfl rfl dX2_miner_12 dX2_miner_15 dX2_miner_16 dX2_miner_18 dX2_miner_21 (Nat.le_of_ble_eq_true rfl) (Nat.le_of_ble_eq_true rfl) (Nat.le_of_ble_eq_true rfl) (Nat.le_of_ble_eq_true rfl) (Nat.le_of_ble_eq_true rfl) (Nat.le_of_ble_eq_true rfl) ⟨rfl, rfl⟩
set_option maxRecDepth 100000 in
theorem c_X2_miner {l : Launch} (hl : l.stackTraces = false) {e n : Nat} (hn : n < 10) {ρ : Nat → Nat} {J : Nat → Int64} {M : Mem} (hρ : n = 0 → ρ 27 = e) : CG (EXe e) l yX2_miner (Cond.code yX2_miner cX2_miner 1 (some .int) :: GW) 6 4 68 (wsd n ρ J M) [.ref (ρ 0)] (fun v w2 => v = some (.int (nI n)) ∧ ∃ ρ' : Nat → Nat, (∀ i, i < 27 → ρ' i = ρ i) ∧ w2 = wsd (n + 1) ρ' J (newM M n)) (fun _ _ => False) := by
  refine CG.of EXe.gp hl (by decide +kernel) (Nat.le_of_ble_eq_true rfl) (fun Ξ hnL C => ?_)
  show G Ξ (wsd n ρ J M) 0 0 0 [(0, .ref (ρ 0))] []
  have B := C.b
  refine g_aload_n (j := 0) B dX2_miner_0 rfl rfl ?_
  refine g_get (C0 := RX2) (T := TX2) (N := 18) (ci := 3) (ref := (TX2 0).1) (q := ρ 0) 0 0 B (fun cA => ws_at (i := 0) (cnt_fix (by decide))) rfl inlX2 (by decide) rfl rfl mw_24 dX2_miner_1 ?_
  refine g_callV (i := 1) (ci := 0) (nA := 0) (Cn := RJx4a65c) (As := []) B (CtO.g (c_JL_size hl)) EXe.gp carrGP (fun cA => ws_at (i := 1) (cnt_fix (by decide))) rfl rfl mw_69 mw_66 mw_67 mw_68 mw_23 (by decide +kernel) (by decide) rfl rfl (Nat.le_of_ble_eq_true rfl) dX2_miner_4 ⟨Nat.le_of_ble_eq_true rfl, Nat.le_of_ble_eq_true rfl⟩ (fun _ _ h => absurd h.1 (fun z => by cases z)) (fun v u hvu => ?_)
  obtain ⟨hv, rfl⟩ := hvu
  cases hv
  refine g_bipush (v := 10) B dX2_miner_7 (by decide) ?_
  refine g_icmp_lt (tgt := 22) B dX2_miner_9 (by decide) (fun _ => ?_) (fun c => absurd (nI_lt (b := 10) hn (by decide)) c)
  refine g_aload_n (j := 0) B dX2_miner_22 rfl rfl ?_
  refine g_get (C0 := RX2) (T := TX2) (N := 18) (ci := 3) (ref := (TX2 0).1) (q := ρ 0) 0 0 B (fun cA => ws_at (i := 0) (cnt_fix (by decide))) rfl inlX2 (by decide) rfl rfl mw_24 dX2_miner_23 ?_
  refine g_new (ci := 1) (fs := [.int 0, .int 0, .int 0, .int 0, .int 0, .int 0, .int 0, .int 0, .int 0, .int 0, .null, .null, .int 0, .int 0]) (C0 := RX0) (T := TX0) (N := 14) B inlX0 tyX0_ok mw_63 mw_64 mw_65 rfl (by decide +kernel) (Nat.le_of_ble_eq_true rfl) (Nat.le_of_ble_eq_true rfl) dX2_miner_26 (fun q => ?_)
  refine g_dup B dX2_miner_29 rfl ?_
  have hN : ∀ cA, (wsd n ρ J M cA).length = cnt n := fun cA => by show (ws cA n ρ J M).length = cnt n; exact ws_len
  refine g_callIN (nA := 0) (As := []) (host := RX2) B (c_X0_init hl hN) (fun _ _ _ h => h) EXe.carr mw_72 (fun A s H h => h.2.2.2.2.1) mw_71 rfl mw_65 (by decide +kernel) (by decide) rfl rfl (Nat.le_of_ble_eq_true rfl) dX2_miner_30 ⟨Nat.le_of_ble_eq_true rfl, Nat.le_of_ble_eq_true rfl⟩ (fun _ _ h => h.elim) (fun v u hvu => ?_)
  obtain ⟨rfl, g, s, rfl⟩ := hvu
  have h1 : ∀ cA, (wsd n ρ J M cA ++ ([(q, .inr (1, [.int 1, .int 1, .int 0, .int (-1), .int 0, .int 0, .int 0, .int 0, .int 0, .int 0, .ref g, .ref s, .int 0, .int 0])), (g, .inl (cA 0, 4, .inl (fun _ => 0))), (s, .inl (cA 0, 40, .inl (fun _ => 0)))] : va_W))[1]? = some (ρ 1, .inr (0, [.int (M 1 0), .ref (ρ 27), .int (nI n)])) := fun cA => by
    rw [List.getElem?_append_left (by rw [hN cA]; unfold cnt; split <;> omega)]; exact ws_at (i := 1) (cnt_fix (by decide))
  have hj : ∀ cA, (wsd n ρ J M cA ++ ([(q, .inr (1, [.int 1, .int 1, .int 0, .int (-1), .int 0, .int 0, .int 0, .int 0, .int 0, .int 0, .ref g, .ref s, .int 0, .int 0])), (g, .inl (cA 0, 4, .inl (fun _ => 0))), (s, .inl (cA 0, 40, .inl (fun _ => 0)))] : va_W))[cnt n]? = some (q, .inr (1, [.int 1, .int 1, .int 0, .int (-1), .int 0, .int 0, .int 0, .int 0, .int 0, .int 0, .ref g, .ref s, .int 0, .int 0])) := fun cA => px_at (hN cA)
  rcases Nat.eq_zero_or_pos n with h0 | h0
  · subst h0
    have he := hρ rfl
    subst he
    refine g_callV (i := 1) (ci := 0) (nA := 1) (Cn := RJx4a65c) (As := [.ref q]) B (c_JL_add0 (M0 := 15) hl h1 hj (by decide) (fun cA => by rw [List.length_append, hN cA]; rfl) (by decide)) (fun _ _ _ h => h) EXe.carr h1 rfl rfl mw_82 mw_79 mw_80 mw_81 mw_23 (by decide +kernel) (by decide) rfl rfl (Nat.le_of_ble_eq_true rfl) dX2_miner_33 ⟨Nat.le_of_ble_eq_true rfl, Nat.le_of_ble_eq_true rfl⟩ (fun _ _ h => h.elim) (fun v u hvu => ?_)
    obtain ⟨rfl, ea, rfl⟩ := hvu
    refine g_perm (w2 := wsd 1 (rq0 ρ q g s ea) J (newM M 0)) _ (by decide) (fun cA => ws_first) ?_
    refine g_pop B dX2_miner_36 rfl ?_
    refine g_aload_n (j := 0) B dX2_miner_37 rfl rfl ?_
    rw [show ρ 0 = (rq0 ρ q g s ea) 0 from rfl]
    refine g_get (C0 := RX2) (T := TX2) (N := 18) (ci := 3) (ref := (TX2 0).1) (q := (rq0 ρ q g s ea) 0) 0 0 B (fun cA => ws_at (i := 0) (cnt_fix (by decide))) rfl inlX2 (by decide) rfl rfl mw_24 dX2_miner_38 ?_
    refine g_callV (i := 1) (ci := 0) (nA := 0) (Cn := RJx4a65c) (As := []) B (CtO.g (c_JL_size hl)) EXe.gp carrGP (fun cA => ws_at (i := 1) (cnt_fix (by decide))) rfl rfl mw_69 mw_66 mw_67 mw_68 mw_23 (by decide +kernel) (by decide) rfl rfl (Nat.le_of_ble_eq_true rfl) dX2_miner_41 ⟨Nat.le_of_ble_eq_true rfl, Nat.le_of_ble_eq_true rfl⟩ (fun _ _ h => absurd h.1 (fun z => by cases z)) (fun v u hvu => ?_)
    obtain ⟨hv, rfl⟩ := hvu
    cases hv
    refine g_iconst (v := 1) B dX2_miner_44 (by decide) ?_
    refine g_isub B dX2_miner_45 ?_
    rw [nI_pred]
    exact g_iret C rfl (Nat.le_of_ble_eq_true rfl) (Nat.le_of_ble_eq_true rfl) dX2_miner_46 ⟨rfl, rq0 ρ q g s ea, fun i hi => by unfold rq0; rw [if_neg (by omega), rq_lt (by omega)], rfl⟩
  · have h27 : ∀ cA, (wsd n ρ J M cA ++ ([(q, .inr (1, [.int 1, .int 1, .int 0, .int (-1), .int 0, .int 0, .int 0, .int 0, .int 0, .int 0, .ref g, .ref s, .int 0, .int 0])), (g, .inl (cA 0, 4, .inl (fun _ => 0))), (s, .inl (cA 0, 40, .inl (fun _ => 0)))] : va_W))[12]? = some (ρ 27, .inl (cA 3, 10, .inr (.inr (.inr (.inr (minersAt n ρ)))))) := fun cA => by
      rw [List.getElem?_append_left (by rw [hN cA]; unfold cnt; split <;> omega)]; exact ws_at (cnt_ea h0)
    refine g_callV (i := 1) (ci := 0) (nA := 1) (Cn := RJx4a65c) (As := [.ref q]) B (c_JL_add hl hn h1 h27 hj (by unfold cnt; rw [if_neg (by omega)]; omega) (by unfold cnt; rw [if_neg (by omega)]; omega)) (fun _ _ _ h => h) EXe.carr h1 rfl rfl mw_82 mw_79 mw_80 mw_81 mw_23 (by decide +kernel) (by decide) rfl rfl (Nat.le_of_ble_eq_true rfl) dX2_miner_33 ⟨Nat.le_of_ble_eq_true rfl, Nat.le_of_ble_eq_true rfl⟩ (fun _ _ h => h.elim) (fun v u hvu => ?_)
    obtain ⟨rfl, rfl⟩ := hvu
    refine g_w (w' := wsd (n + 1) (rq ρ n q g s) J (newM M n)) (funext fun cA => ws_more h0) ?_
    refine g_pop B dX2_miner_36 rfl ?_
    refine g_aload_n (j := 0) B dX2_miner_37 rfl rfl ?_
    rw [show ρ 0 = (rq ρ n q g s) 0 from (rq_lt (by omega)).symm]
    refine g_get (C0 := RX2) (T := TX2) (N := 18) (ci := 3) (ref := (TX2 0).1) (q := (rq ρ n q g s) 0) 0 0 B (fun cA => ws_at (i := 0) (cnt_fix (by decide))) rfl inlX2 (by decide) rfl rfl mw_24 dX2_miner_38 ?_
    refine g_callV (i := 1) (ci := 0) (nA := 0) (Cn := RJx4a65c) (As := []) B (CtO.g (c_JL_size hl)) EXe.gp carrGP (fun cA => ws_at (i := 1) (cnt_fix (by decide))) rfl rfl mw_69 mw_66 mw_67 mw_68 mw_23 (by decide +kernel) (by decide) rfl rfl (Nat.le_of_ble_eq_true rfl) dX2_miner_41 ⟨Nat.le_of_ble_eq_true rfl, Nat.le_of_ble_eq_true rfl⟩ (fun _ _ h => absurd h.1 (fun z => by cases z)) (fun v u hvu => ?_)
    obtain ⟨hv, rfl⟩ := hvu
    cases hv
    refine g_iconst (v := 1) B dX2_miner_44 (by decide) ?_
    refine g_isub B dX2_miner_45 ?_
    rw [nI_pred]
    exact g_iret C rfl (Nat.le_of_ble_eq_true rfl) (Nat.le_of_ble_eq_true rfl) dX2_miner_46 ⟨rfl, rq ρ n q g s, fun i hi => rq_lt (by omega), rfl⟩
