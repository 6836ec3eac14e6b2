section MathI
theorem tot_bd {n : Nat} {A : Mem} (h : ∀ j, j < n → MI n (A (mO j)) (A (mS j))) {i : Nat} (hi : i < 40) (hT : TM A n < 2147483648) : ∀ m, m ≤ n → 0 ≤ (tot A i m).toInt ∧ (tot A i m).toInt ≤ TM A m := by
  have mono : ∀ m, m ≤ n → TM A m ≤ TM A n := by
    intro m
    have : ∀ d, m + d ≤ n → TM A m ≤ TM A (m + d) := by
      intro d
      induction d with
      | zero => intro _; exact Int.le_refl _
      | succ d ih =>
        intro hd
        have := ih (by omega)
        have := (h (m + d) (by omega)).msn
        show TM A m ≤ TM A (m + d) + msR (A (mO (m + d))) (A (mS (m + d)))
        omega
    intro hm
    have := this (n - m) (by omega)
    rw [show m + (n - m) = n by omega] at this
    exact this
  intro m
  induction m with
  | zero => intro _; exact ⟨Int.le_refl _, Int.le_refl _⟩
  | succ m ih =>
    intro hm
    obtain ⟨a1, a2⟩ := ih (by omega)
    have mi := h m (by omega)
    have bd := mi.bd
    have pi := mi.ps i hi
    have sle : (A (mS m) i).toInt ≤ si (A (mS m)) 40 := by
      have e1 := si_mono (f := A (mS m)) mi.ps (q := i + 1) (by omega)
      have e2 := si_nn (f := A (mS m)) (m := i) (fun q hq => mi.ps q (by omega))
      have : si (A (mS m)) (i + 1) = si (A (mS m)) i + (A (mS m) i).toInt := rfl
      omega
    have mo1 := mono (m + 1) hm
    have td : TM A (m + 1) = TM A m + msR (A (mO m)) (A (mS m)) := rfl
    have : (tot A i m + A (mS m) i).toInt = (tot A i m).toInt + (A (mS m) i).toInt := ia (by omega) (by omega)
    show 0 ≤ (tot A i m + A (mS m) i).toInt ∧ (tot A i m + A (mS m) i).toInt ≤ TM A m + msR (A (mO m)) (A (mS m))
    omega
theorem tot_step {n : Nat} {A : Mem} (h : ∀ j, j < n → MI n (A (mO j)) (A (mS j))) {i : Nat} (hi : i < 40) (hT : TM A n < 2147483648) {m : Nat} (hm : m < n) : (tot A i (m + 1)).toInt = (tot A i m).toInt + (A (mS m) i).toInt := by
  have a := tot_bd h hi hT m (by omega)
  have mi := h m hm
  have pi := mi.ps i hi
  have b := tot_bd h hi hT (m + 1) hm
  have xb := ib (A (mS m) i)
  have tb := ib (tot A i m)
  have e : (tot A i (m + 1)).toInt = ((tot A i m).toInt + (A (mS m) i).toInt).bmod (2 ^ 32) := Int32.toInt_add _ _
  rw [Int.bmod_def] at e
  split at e <;> omega
theorem totM_eq {n : Nat} {P Q : Mem} {z : Int32} {A B : Mem} (r : RR n P Q z A B) (h : ∀ j, j < n → MI n (A (mO j)) (A (mS j))) {i : Nat} (hi : i < 40) (hT : TM A n < 2147483648) : ∀ m, m ≤ n → totM B i m = (tot A i m).toInt64 := by
  intro m
  induction m with
  | zero => intro _; rfl
  | succ m ih =>
    intro hm
    have a := tot_bd h hi hT m (by omega)
    have st := tot_step h hi hT (m := m) (by omega)
    have b := ib (tot A i (m + 1))
    unfold totM
    rw [ih (by omega), r.sc (by omega) hi]
    apply Int64.toInt_inj.mp
    rw [Int64.toInt_add, toI64, toI64, toI64, st, Int.bmod_def]
    split <;> omega
theorem getM_0 (u : Int64) (m : Int32) : getM u 0 m = 0 := by
  unfold getM prtM
  split
  · split
    · rfl
    · have : (0 : Int32).toInt64 * m.toInt64 / u = 0 := by
        apply Int64.toInt_inj.mp
        rw [Int64.toInt_div, Int64.toInt_mul]
        have : ((0 : Int32).toInt64).toInt = 0 := rfl
        rw [this, Int.zero_mul]
        simp
      rw [this]; rfl
  · rfl
theorem getM_rd {u x m : Int32} (hu : 0 < u.toInt) : getM u.toInt64 x m = rdC x m u := by
  unfold getM rdC prtM
  have h0 : ¬ u.toInt64 = 0 := by
    intro q
    have : u.toInt64.toInt = (0 : Int64).toInt := by rw [q]
    rw [toI64] at this
    have : (0 : Int64).toInt = 0 := rfl
    omega
  have hlt : m.toInt64 < u.toInt64 ↔ m < u := by
    rw [Int64.lt_iff_toInt_lt, toI64, toI64, lti]
  by_cases h : m < u
  · rw [if_pos h, if_pos (hlt.mpr h), if_neg h0]
  · rw [if_neg h, if_neg (fun q => h (hlt.mp q))]
theorem rdC_bd {x m u : Int32} (hx : 0 ≤ x.toInt) (hxu : x.toInt ≤ u.toInt) (hm : 0 ≤ m.toInt) (hu : 0 < u.toInt) (hub : u.toInt ≤ 3584000) : 0 ≤ (rdC x m u).toInt ∧ (rdC x m u).toInt ≤ x.toInt ∧ (rdC x m u).toInt * u.toInt ≤ m.toInt * x.toInt ∧ (u.toInt ≤ m.toInt ∨ m.toInt < u.toInt) := by
  unfold rdC
  by_cases h : m < u
  · rw [if_pos h]
    rw [lti] at h
    have q0 : 0 ≤ x.toInt * m.toInt := Int.mul_nonneg hx hm
    have q1 : x.toInt * m.toInt ≤ x.toInt * u.toInt := Int.mul_le_mul_of_nonneg_left (by omega) hx
    have q2 : x.toInt * u.toInt ≤ 3584000 * 3584000 := Int.mul_le_mul (by omega) hub (by omega) (by omega)
    have e2 : (x.toInt64 * m.toInt64).toInt = x.toInt * m.toInt := by
      rw [Int64.toInt_mul, toI64, toI64, Int.bmod_def]; split <;> omega
    have d0 : 0 ≤ x.toInt * m.toInt / u.toInt := Int.ediv_nonneg q0 (by omega)
    have d1 : x.toInt * m.toInt / u.toInt ≤ x.toInt := by
      have := Int.ediv_le_ediv (c := u.toInt) hu q1
      rw [Int.mul_ediv_cancel _ (by omega)] at this
      exact this
    have d2 : x.toInt * m.toInt / u.toInt * u.toInt ≤ x.toInt * m.toInt := Int.ediv_mul_le _ (by omega)
    have xb := ib x
    have e3 : (x.toInt64 * m.toInt64 / u.toInt64).toInt = x.toInt * m.toInt / u.toInt := by
      rw [Int64.toInt_div, e2, toI64, Int.tdiv_eq_ediv_of_nonneg q0, Int.bmod_def]; split <;> omega
    have e4 : ((x.toInt64 * m.toInt64 / u.toInt64).toInt32).toInt = x.toInt * m.toInt / u.toInt := by
      rw [Int64.toInt_toInt32, e3]; exact bmI (by omega) (by omega)
    rw [e4]
    refine ⟨d0, d1, ?_, Or.inr h⟩
    rw [Int.mul_comm m.toInt]; exact d2
  · rw [if_neg h]
    rw [lti] at h
    refine ⟨hx, Int.le_refl _, ?_, Or.inl (by omega)⟩
    rw [Int.mul_comm]; exact Int.mul_le_mul_of_nonneg_right (by omega) hx
theorem re0 {n : Nat} {P Q : Mem} {z : Int32} {A B : Mem} (h : RR n P Q z A B) {i : Nat} (hi : i < 40) (u : Int64) (m : Int32) (h0 : ∀ j, j < n → A (mS j) i = 0) : ∀ j, j ≤ n → RR n P Q z A (reS B i u m j).1 ∧ (reS B i u m j).2 = m := by
  intro j
  induction j with
  | zero => intro _; exact ⟨h, rfl⟩
  | succ j ih =>
    intro hj
    obtain ⟨r, e⟩ := ih (by omega)
    unfold reS
    generalize hS : (reS B i u m j).1 = N at *
    have c0 : N 20 (40 * j + i) = 0 := by rw [r.sc (by omega) hi, h0 j (by omega)]
    refine ⟨?_, ?_⟩
    · unfold re3 re2 re1
      rw [c0, getM_0, Int32.add_zero, up_id, Int32.add_zero, up_id]
      have : up N 20 (40 * j + i) 0 = N := by rw [← c0, up_id]
      rw [this]; exact r
    · show (reS B i u m j).2 - getM u (N 20 (40 * j + i)) m = m
      rw [c0, getM_0, e, Int32.sub_zero]
theorem rd2_kp {A : Mem} {j i : Nat} {m u : Int32} : KP j A (rd2 A j i m u) := lose_kp.up (Or.inl (Or.inl rfl))
theorem red_R {n c : Nat} {T : Int} {P Q : Mem} {z : Int32} {A B : Mem} (h : RR n P Q z A B) (g : GI c A) (mm : MM n T A) (hT : T ≤ 3584000) {i : Nat} (hi : i < 40) {m : Int32} (hm : 0 ≤ m.toInt) : ∃ A' d, redM A i m n = (A', d) ∧ RR n P Q z A' (reS B i (totM B i n) m n).1 ∧ (reS B i (totM B i n) m n).2 = m - d ∧ EX1 n A A' T c ∧ 0 ≤ (m - d).toInt := by
  have tm := mm.tm
  have hb : TM A n < 2147483648 := by omega
  have tb := tot_bd mm.mi hi hb
  have tn := tb n (Nat.le_refl _)
  have tM := totM_eq h mm.mi hi hb n (Nat.le_refl _)
  have mono : ∀ d q, q + d ≤ n → (tot A i q).toInt ≤ (tot A i (q + d)).toInt := by
    intro d q
    induction d with
    | zero => intro _; exact Int.le_refl _
    | succ d ih =>
      intro hd
      have := ih (by omega)
      have e := tot_step mm.mi hi hb (m := q + d) (by omega)
      have := (mm.mi (q + d) (by omega)).ps i hi
      rw [show q + (d + 1) = q + d + 1 by omega, e]; omega
  have cellle : ∀ j, j < n → (tot A i j).toInt + (A (mS j) i).toInt ≤ (tot A i n).toInt := by
    intro j hj
    have e := tot_step mm.mi hi hb hj
    have := mono (n - (j + 1)) (j + 1) (by omega)
    rw [show j + 1 + (n - (j + 1)) = n by omega] at this
    omega
  have z0 : (0 : Int32).toInt = 0 := rfl
  rw [tM]
  unfold redM
  by_cases h0 : tot A i n ≤ 0
  · rw [if_pos h0]
    rw [lei, z0] at h0
    obtain ⟨r, e⟩ := re0 h hi (tot A i n).toInt64 m (fun j hj => by
      have := cellle j hj
      have a := tb j (by omega)
      have b := (mm.mi j hj).ps i hi
      rw [eqi, z0]; omega) n (Nat.le_refl _)
    exact ⟨A, 0, rfl, r, by rw [e, Int32.sub_zero], ⟨g, mm, fun _ _ => rfl⟩, by rw [Int32.sub_zero]; exact hm⟩
  · rw [if_neg h0]
    rw [lei, z0] at h0
    have hu : 0 < (tot A i n).toInt := by omega
    have hub : (tot A i n).toInt ≤ 3584000 := by omega
    generalize hU : tot A i n = u at *
    have key : ∀ j, j ≤ n → RR n P Q z (up (rd A i m u j).1 7 5 (A 7 5 + tot A i j)) (reS B i u.toInt64 m j).1 ∧ (reS B i u.toInt64 m j).2 = m - (rd A i m u j).2 ∧ EX1 n A (rd A i m u j).1 T c ∧ (rd A i m u j).1 7 = A 7 ∧ (∀ q, j ≤ q → (rd A i m u j).1 (mS q) = A (mS q)) ∧ 0 ≤ (rd A i m u j).2.toInt ∧ (rd A i m u j).2.toInt ≤ (tot A i j).toInt ∧ (rd A i m u j).2.toInt * u.toInt ≤ m.toInt * (tot A i j).toInt := by
      intro j
      induction j with
      | zero =>
        intro _
        refine ⟨?_, by show m = m - 0; rw [Int32.sub_zero], ⟨g, mm, fun _ _ => rfl⟩, rfl, fun _ _ => rfl, Int.le_refl _, Int.le_refl _, ?_⟩
        · show RR n P Q z (up A 7 5 (A 7 5 + 0)) B
          rw [Int32.add_zero, up_id]; exact h
        · show (0 : Int32).toInt * u.toInt ≤ m.toInt * (0 : Int32).toInt
          rw [z0]; simp
      | succ j ih =>
        intro hj
        obtain ⟨i1, i2, i3, i4, i5, i6, i7, i8⟩ := ih (by omega)
        unfold rd reS
        simp only
        generalize hN : (rd A i m u j).1 = N at *
        generalize hd : (rd A i m u j).2 = d at *
        generalize hX : (reS B i u.toInt64 m j).1 = X at *
        have cx : N (mS j) i = A (mS j) i := by rw [i5 j (Nat.le_refl _)]
        have cX : X 20 (40 * j + i) = A (mS j) i := by rw [i1.sc (by omega) hi, up_row (by unfold mS; omega), cx]
        have mj := i3.m.mi j (by omega)
        have pi := mj.ps i hi
        rw [cx] at pi
        have cl := cellle j (by omega)
        have rb := rdC_bd (x := A (mS j) i) (m := m) (u := u) pi (by omega) hm hu hub
        have st := tot_step mm.mi hi hb (m := j) (by omega)
        have gr := getM_rd (x := A (mS j) i) (m := m) hu
        generalize hx : A (mS j) i = x at *
        generalize hr : rdC x m u = r at *
        have o5 : rd1 N j i (mO j) 5 = N (mO j) 5 := by unfold rd1; rw [lose_O]; rfl
        have l7 : rd1 N j i 7 = N 7 := by unfold rd1; rw [lose_oth (by unfold mS; omega) (by unfold mO; omega)]
        have rd2e : rd2 N j i m u = up (rd1 N j i) (mO j) 5 (N (mO j) 5 + r) := by unfold rd2; rw [o5, cx, mn_xx, hr]
        obtain ⟨l1, l2⟩ := lose_MI mj hi
        rw [cx] at l1 l2
        have kp : KP j N (rd2 N j i m u) := rd2_kp
        have ob := mj.bd
        have obb := TM_ge i3.m.mi (Nat.le_refl n) (j := j) (by omega)
        have tmN := i3.m.tm
        have p5 := mj.p5
        have c5 : (N (mO j) 5 + r).toInt = (N (mO j) 5).toInt + r.toInt := ia (by omega) (by omega)
        have eO : rd2 N j i m u (mO j) = upd (lose N j i x (mO j)) 5 (N (mO j) 5 + r) := by rw [rd2e, up_own]; unfold rd1; rw [cx]
        have eS : rd2 N j i m u (mS j) = lose N j i x (mS j) := by rw [rd2e, up_row (by unfold mO mS; omega)]; unfold rd1; rw [cx]
        have lo5 : lose N j i x (mO j) 5 = N (mO j) 5 := by rw [lose_O]; rfl
        have db := ib d
        have dd : (d + r).toInt = d.toInt + r.toInt := ia (by omega) (by omega)
        rw [mn_xx, cX, cx, hr, gr]
        refine ⟨?_, ?_, ⟨kp.gi i3.g, kp.mm i3.m (by omega) ?_ ?_, fun s hs => (kp.z s hs).trans (i3.z s hs)⟩, ?_, ?_, ?_, ?_, ?_⟩
        · unfold re3 re2 re1
          rw [cX, gr]
          have a1 := i1.pw (i := mO j) (k := 5) (i' := 14) (k' := j) (paO (by omega) (by decide)) (v := N (mO j) 5 + r) (v' := X 14 j + r) (by rw [i1.cn (by omega), up_row (by unfold mO; omega)])
          have a2 := a1.pw (i := 7) (k := 5) (i' := 26) (k' := 5) (pa7 (by decide)) (v := A 7 5 + tot A i j + x) (v' := up X 14 j (X 14 j + r) 26 5 + x) (by rw [a1.bo (by decide), up_row (by unfold mO; omega), up_same])
          have a3 := a2.pw (i := mS j) (k := i) (i' := 20) (k' := 40 * j + i) (paS (by omega) hi) (v := 0) (v' := 0) rfl
          have a4 := a3.o13 (j := j) (v := N (mO j) 13 + x)
          refine cast ?_ a4
          congr 1
          rw [rd2e]
          unfold rd1 lose
          rw [cx, mn_xx]
          have e0 : x - x = 0 := by grind
          rw [e0]
          have et : tot A i (j + 1) = tot A i j + x := by show tot A i j + A (mS j) i = _; rw [hx]
          rw [et]
          have n1 : ¬ mO j = mS j := by unfold mO mS; omega
          have n2 : ¬ mO j = 7 := by unfold mO; omega
          have n3 : ¬ mS j = 7 := by unfold mS; omega
          generalize mO j = a at *
          generalize mS j = b at *
          funext p q
          simp only [up_r]
          grind
        · rw [i2]; grind
        · rw [eO, eS]
          exact l1.o 5 _ (h4 := fun _ _ => by rw [c5]; omega)
        · rw [eO, eS, ms5, c5, l2, lo5]; omega
        · rw [rd2e, up_row (by unfold mO; omega), l7, i4]
        · intro q hq
          rw [rd2e, up_row (by unfold mO mS; omega)]; unfold rd1
          rw [lose_oth (by unfold mS; omega) (by unfold mO mS; omega), i5 q (by omega)]
        · rw [dd]; omega
        · rw [dd, st]; omega
        · rw [dd, st, Int.add_mul, Int.mul_add]; omega
    obtain ⟨k1, k2, k3, k4, k5, k6, k7, k8⟩ := key n (Nat.le_refl _)
    rw [hU] at k1 k7 k8
    have kp : ∀ k, KP k (rd A i m u n).1 (up (rd A i m u n).1 7 5 (A 7 5 + u)) := fun k => KP.id.up (Or.inl (Or.inr (Or.inr (Or.inr (Or.inl rfl)))))
    refine ⟨_, _, rfl, ?_, k2, ?_, ?_⟩
    · unfold rdF; rw [hU, k4]; exact k1
    · unfold rdF; rw [hU, k4]
      exact ⟨(kp 0).gi k3.g, k3.m.rows (fun j hj => up_row (by omega)), fun s hs => ((kp 0).z s hs).trans (k3.z s hs)⟩
    · have : (rd A i m u n).2.toInt ≤ m.toInt := Int.le_of_mul_le_mul_right k8 hu
      have mb := ib m
      rw [is (by omega) (by omega)]; omega
theorem cl_R {n c : Nat} {T : Int} {P Q : Mem} {z : Int32} {A B : Mem} (h : RR n P Q z A B) (g : GI c A) (mm : MM n T A) (hT : T ≤ 3584000) {m : Int32} (hm : 0 ≤ m.toInt) : ∀ i, i ≤ 40 → RR n P Q z (clS n A m i).1 (cmS n B m i).1 ∧ (clS n A m i).2 = (cmS n B m i).2 ∧ EX1 n A (clS n A m i).1 T c ∧ 0 ≤ (clS n A m i).2.toInt := by
  intro i
  induction i with
  | zero => intro _; exact ⟨h, rfl, ⟨g, mm, fun _ _ => rfl⟩, hm⟩
  | succ i ih =>
    intro hi
    obtain ⟨i1, i2, i3, i4⟩ := ih (by omega)
    unfold clS cmS
    rw [← i2]
    obtain ⟨A', d, e1, e2, e3, e4, e5⟩ := red_R i1 i3.g i3.m hT (i := i) (by omega) i4
    rw [e1]
    exact ⟨e2, e3.symm, ⟨e4.g, e4.m, fun s hs => (e4.z s hs).trans (i3.z s hs)⟩, e5⟩
theorem s_close {n c : Nat} (hc : c < 512) {m : Int32} : Sim n c [IA, IS] (fun M => o_close M n m) (fun B => omclose B n m) := by
  intro P Q A B h I
  have h' := h.ml 0
  show Cl n c _ P Q (o_close A n m) (omclose B n m)
  unfold o_close omclose
  rw [h.cl]
  by_cases hx : m < 0 ∨ 100000 < m
  · rw [if_pos hx, if_pos hx]; exact Cl.thr hc h I (by decide) (by decide)
  rw [if_neg hx, if_neg hx]
  by_cases h1 : A 0 15 = 0
  case neg => rw [if_neg h1, if_neg h1]; exact Cl.thr hc h I (by decide) (by decide)
  rw [if_pos h1, if_pos h1]
  have r := rng hx
  have z0 : (0 : Int32).toInt = 0 := rfl
  obtain ⟨k1, k2, k3, k4⟩ := cl_R h' I.g I.m (by omega) (m := m) (by omega) 40 (Nat.le_refl _)
  have iv : Iv (c + 1) n (clS n A m 40).1 := ⟨I.n10, by omega, k3.g.nx, k3.m.le (by omega)⟩
  have a1 := k1.pw (i := 0) (k := 15) (i' := 9) (k' := 27) (pa0 (by decide)) (v := 1) (v' := 1) rfl
  have a2 := a1.pw (i := 0) (k := 14) (i' := 9) (k' := 26) (pa0 (by decide)) (v := 0) (v' := 0) rfl
  have v1 := iv.glob (i := 0) (k := 15) (v := 1) (by decide) (iv.g.u0 15 1 (h15 := fun _ => Or.inr rfl))
  have v2 := v1.glob (i := 0) (k := 14) (v := 0) (by decide) (v1.g.u0 14 0 (h14 := fun _ => Or.inl rfl))
  exact Cl.ok a2 v2 k2.symm
end MathI
section MathJ
abbrev bz (s : Int32) (j : Nat) : Prop := s >>> (nI j &&& 31) &&& 1 = 0
theorem sh_eq (s : Int32) {j : Nat} (hj : j < 10) : (s >>> (nI j &&& 31)).toBitVec = s.toBitVec.sshiftRight j := by
  match j, hj with
  | 0, _ => rfl
  | 1, _ => rfl
  | 2, _ => rfl
  | 3, _ => rfl
  | 4, _ => rfl
  | 5, _ => rfl
  | 6, _ => rfl
  | 7, _ => rfl
  | 8, _ => rfl
  | 9, _ => rfl
theorem sl_eq {q : Nat} (hq : q < 10) : ((1 : Int32) <<< (nI q &&& 31)).toBitVec = 1#32 <<< q := by
  match q, hq with
  | 0, _ => rfl
  | 1, _ => rfl
  | 2, _ => rfl
  | 3, _ => rfl
  | 4, _ => rfl
  | 5, _ => rfl
  | 6, _ => rfl
  | 7, _ => rfl
  | 8, _ => rfl
  | 9, _ => rfl
theorem and1 (x : BitVec 32) : x &&& 1#32 = 0#32 ↔ x.getLsbD 0 = false := by
  constructor
  · intro h
    have := congrArg (fun y => BitVec.getLsbD y 0) h
    simpa using this
  · intro h
    apply BitVec.eq_of_getLsbD_eq
    intro i hi
    by_cases e : i = 0
    · subst e; rw [BitVec.getLsbD_and, h]; simp
    · simp [e]
theorem bz_iff (s : Int32) {j : Nat} (hj : j < 10) : bz s j ↔ s.toBitVec.getLsbD j = false := by
  unfold bz
  rw [← Int32.toBitVec_inj, Int32.toBitVec_and, sh_eq s hj]
  show s.toBitVec.sshiftRight j &&& 1#32 = 0#32 ↔ _
  rw [and1, BitVec.getLsbD_sshiftRight]
  simp only [Nat.add_zero]
  rw [if_pos (by omega)]
  simp
theorem bz_set (s : Int32) {j q : Nat} (hj : j < 10) (hq : q < 10) : bz (s ||| 1 <<< (nI q &&& 31)) j ↔ bz s j ∧ ¬ j = q := by
  rw [bz_iff _ hj, bz_iff _ hj, Int32.toBitVec_or, sl_eq hq, BitVec.getLsbD_or, BitVec.getLsbD_shiftLeft]
  have : (1#32).getLsbD (j - q) = decide (j - q = 0) := by simp
  rw [this]
  by_cases e : j = q
  · subst e; simp; omega
  · by_cases e2 : j < q
    · simp [e, e2]
    · have e3 : ¬ j - q = 0 := by omega
      simp [e, e3]
def cntU (A : Mem) (s : Int32) : Nat → Nat
  | 0 => 0
  | j + 1 => cntU A s j + (if ¬ A (mO j) 0 = 0 ∧ bz s j then 1 else 0)
theorem cntU_le (A : Mem) (s : Int32) (m : Nat) : cntU A s m ≤ m := by
  induction m with
  | zero => exact Nat.le_refl _
  | succ m ih => unfold cntU; split <;> omega
theorem cntU_set {A : Mem} {s : Int32} {q : Nat} (hq : q < 10) (hA : ¬ A (mO q) 0 = 0) (hb : bz s q) : ∀ m, m ≤ 10 → cntU A (s ||| 1 <<< (nI q &&& 31)) m + (if q < m then 1 else 0) = cntU A s m := by
  intro m
  induction m with
  | zero => intro _; rfl
  | succ m ih =>
    intro hm
    have := ih (by omega)
    unfold cntU
    have bs := bz_set s (j := m) (q := q) (by omega) hq
    by_cases e : m = q
    · subst e
      rw [if_neg (fun w => (bs.mp w.2).2 rfl), if_pos (show ¬ A (mO m) 0 = 0 ∧ bz s m from ⟨hA, hb⟩), if_pos (show m < m + 1 by omega)]
      rw [if_neg (show ¬ m < m by omega)] at this; omega
    · by_cases e2 : ¬ A (mO m) 0 = 0 ∧ bz s m
      · rw [if_pos (show ¬ A (mO m) 0 = 0 ∧ bz (s ||| 1 <<< (nI q &&& 31)) m from ⟨e2.1, bs.mpr ⟨e2.2, e⟩⟩), if_pos e2]
        by_cases e3 : q < m
        · rw [if_pos e3] at this; rw [if_pos (show q < m + 1 by omega)]; omega
        · rw [if_neg e3] at this; rw [if_neg (show ¬ q < m + 1 by omega)]; omega
      · rw [if_neg (fun w => e2 ⟨w.1, (bs.mp w.2).1⟩), if_neg e2]
        by_cases e3 : q < m
        · rw [if_pos e3] at this; rw [if_pos (show q < m + 1 by omega)]; omega
        · rw [if_neg e3] at this; rw [if_neg (show ¬ q < m + 1 by omega)]; omega
theorem neg1 {q : Nat} (h : q < 10) : ¬ nI q = -1 := by
  intro e
  have := congrArg Int32.toInt e
  rw [nI_toInt (by omega)] at this
  have : (-1 : Int32).toInt = -1 := rfl
  omega
theorem pb_R {n : Nat} (hn : n ≤ 10) {P Q : Mem} {z : Int32} {A B : Mem} (h : RR n P Q z A B) (s : Int32) : ∀ j, j ≤ n → (pb A s j).1 = nx B s j ∧ (((pb A s j).1 = -1 ∧ cntU A s j = 0) ∨ ∃ q, q < j ∧ (pb A s j).1 = nI q ∧ (pb A s j).2 = mea A q ∧ ¬ A (mO q) 0 = 0 ∧ bz s q ∧ 0 < cntU A s j) := by
  intro j
  induction j with
  | zero => intro _; exact ⟨rfl, Or.inl ⟨rfl, rfl⟩⟩
  | succ j ih =>
    intro hj
    obtain ⟨i1, i2⟩ := ih (by omega)
    have me : ∀ q, q < n → meM B q = mea A q := fun q hq => by show B 14 q + smM B q 40 = _; rw [h.cn hq, smM_eq h hq 40 (Nat.le_refl _)]
    unfold pb nx cntU
    rw [h.al (by omega)]
    by_cases h1 : A (mO j) 0 = 0
    · rw [if_pos h1, if_pos h1, if_neg (fun w => w.1 h1)]
      refine ⟨i1, ?_⟩
      rcases i2 with i2 | ⟨q, i2⟩
      · exact Or.inl i2
      · exact Or.inr ⟨q, by omega, i2.2⟩
    rw [if_neg h1, if_neg h1]
    by_cases h2 : bz s j
    case neg =>
      have h2' : ¬ s >>> (nI j &&& 31) &&& 1 = 0 := h2
      rw [if_neg h2', if_neg h2', if_neg (fun w => h2 w.2)]
      refine ⟨i1, ?_⟩
      rcases i2 with i2 | ⟨q, i2⟩
      · exact Or.inl i2
      · exact Or.inr ⟨q, by omega, i2.2⟩
    have h2' : s >>> (nI j &&& 31) &&& 1 = 0 := h2
    rw [if_pos h2', if_pos h2', if_pos (show ¬ A (mO j) 0 = 0 ∧ bz s j from ⟨h1, h2⟩), ← i1]
    rcases i2 with ⟨i2, i3⟩ | ⟨q, q1, q2, q3, q4, q5, q6⟩
    · rw [if_pos i2, if_pos i2]
      exact ⟨rfl, Or.inr ⟨j, by omega, rfl, rfl, h1, h2, by omega⟩⟩
    · have nq : ¬ (pb A s j).1 = -1 := by rw [q2]; exact neg1 (by omega)
      rw [if_neg nq, if_neg nq]
      have c1 : (pb A s j).1.toNatClampNeg = q := by rw [q2]; exact nI_clamp (by omega)
      rw [c1, me q (by omega), me j (by omega), q3]
      by_cases h3 : mea A q ≤ mea A j
      · rw [if_pos h3, if_pos h3]
        exact ⟨rfl, Or.inr ⟨q, by omega, q2, q3, q4, q5, by omega⟩⟩
      · rw [if_neg h3, if_neg h3]
        exact ⟨rfl, Or.inr ⟨j, by omega, rfl, rfl, h1, h2, by omega⟩⟩
theorem cntU_up {A : Mem} {s v : Int32} {k : Nat} (m : Nat) : cntU (up A 0 k v) s m = cntU A s m := by
  induction m with
  | zero => rfl
  | succ m ih => unfold cntU; rw [ih, up_row (by unfold mO; omega)]
theorem soup_R {n c : Nat} {P Q : Mem} {z : Int32} : ∀ (f1 f2 : Nat) (A B : Mem) (s : Int32), RR n P Q z A B → Iv c n A → cntU A s n ≤ f1 → (A 0 16).toInt ≤ f2 → RR n P Q z (sp n A s f1).1 (ss n f2 B s).1 ∧ (sp n A s f1).2 = (ss n f2 B s).2 ∧ Iv c n (sp n A s f1).1 := by
  intro f1
  induction f1 with
  | zero =>
    intro f2 A B s h I h1 h2
    obtain ⟨p1, p2⟩ := pb_R I.n10 h s n (Nat.le_refl _)
    have pn : nx B s n = -1 := by
      rw [← p1]
      rcases p2 with p2 | ⟨q, p2⟩
      · exact p2.1
      · omega
    have e : ss n f2 B s = (B, s) := by
      match f2 with
      | 0 => rfl
      | f + 1 => unfold ss; rw [pn, if_pos rfl]; split <;> rfl
    rw [e]
    exact ⟨h, rfl, I⟩
  | succ f1 ih =>
    intro f2 A B s h I h1 h2
    have e2 : (2 : Int32).toInt = 2 := rfl
    obtain ⟨p1, p2⟩ := pb_R I.n10 h s n (Nat.le_refl _)
    match f2 with
    | 0 =>
      unfold sp
      rw [if_pos (by rw [lti, e2]; omega)]
      exact ⟨h, rfl, I⟩
    | f2 + 1 =>
      unfold sp ss
      rw [h.fu, ← p1]
      by_cases q1 : A 0 16 < 2
      · rw [if_pos q1, if_pos q1]; exact ⟨h, rfl, I⟩
      rw [if_neg q1, if_neg q1]
      by_cases q2 : (pb A s n).1 = -1
      · rw [if_pos q2, if_pos q2]; exact ⟨h, rfl, I⟩
      rw [if_neg q2, if_neg q2]
      rcases p2 with p2 | ⟨q, w1, w2, w3, w4, w5, w6⟩
      · exact absurd p2.1 q2
      have n10 := I.n10
      rw [w2]
      rw [lti, e2] at q1
      have fu := I.g.fu
      have c5 := I.c5
      have ef : (A 0 16 - 2).toInt = (A 0 16).toInt - 2 := is (by omega) (by omega)
      have cs := cntU_set (A := A) (s := s) (q := q) (by omega) w4 w5 n n10
      rw [if_pos w1] at cs
      exact ih f2 _ _ _ (h.pw (pa0 (by decide)) rfl) (I.glob (by decide) (I.g.u0 16 _ (h16 := fun _ => by rw [ef]; omega))) (by rw [cntU_up]; omega) (by rw [up_same, ef]; omega)
theorem s_soup {n c : Nat} (hc : c < 512) {φ : Nat} : ∀ (P Q A B : Mem), RR n P Q (B 9 29) A B → Iv c n A → (A 0 16).toInt ≤ φ → Cl n c [IS] P Q (o_soup A n) (omsoup B n φ) := by
  intro P Q A B h I hf
  have h' := h.ml 0
  unfold o_soup omsoup
  rw [h.st]
  by_cases h1 : A 0 14 = 0
  · rw [if_pos h1, if_pos h1]; exact Cl.thr hc h I (by decide) (by decide)
  rw [if_neg h1, if_neg h1]
  obtain ⟨k1, k2, k3⟩ := soup_R n φ A (ml B 0) 0 h' (I.next hc) (cntU_le _ _ _) hf
  exact Cl.ok k1 k3 k2.symm
end MathJ
