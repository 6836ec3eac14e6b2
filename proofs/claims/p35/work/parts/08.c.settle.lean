section MathF
theorem up_id (M : Mem) (i s : Nat) : up M i s (M i s) = M := by
  funext a q; rw [up_r]; split
  · split
    · subst_vars; rfl
    · subst_vars; rfl
  · rfl
def hvv (N : Mem) (k : Nat) : Int32 := if N (mO k) 1 = 0 then 0 else if N 2 1 = 0 then 1 else if 3 * N 2 1 < N (mO k) 7 then 0 else 1
def Y1 (N : Mem) (k : Nat) : Mem := up N (mO k) 1 (hvv N k)
def Y3 (N : Mem) (k : Nat) (l t : Int32) : Mem := breachM (breachM (Y1 N k) k 0 l) k 1 t
def Y4 (N : Mem) (k : Nat) (l t : Int32) : Mem := up (Y3 N k l t) (mO k) 9 l
def Y5 (N : Mem) (k p : Nat) (l t : Int32) : Mem := if N 0 12 = 0 ∨ N 6 0 = 0 then up (gain (Y4 N k l t) k p l) 7 0 (gain (Y4 N k l t) k p l 7 0 + l) else up (Y4 N k l t) (mO k) 5 (Y4 N k l t (mO k) 5 + l)
theorem hv_eq {N : Mem} {k : Nat} (b : isB (N (mO k) 1)) (h : 0 ≤ (N 2 1).toInt) : up N (mO k) 1 (hvv N k) = setF N k := by
  have e0 : (0 : Int32).toInt = 0 := rfl
  unfold hvv setF
  by_cases h1 : N 2 1 ≤ 0
  · have : N 2 1 = 0 := by rw [lei] at h1; rw [eqi]; omega
    rw [if_pos h1, if_pos this]
    rcases b with b | b
    · rw [if_pos b, ← b]; exact up_id _ _ _
    · rw [if_neg (by rw [b]; decide), ← b]; exact up_id _ _ _
  · have : ¬ N 2 1 = 0 := fun q => h1 (by rw [q]; decide)
    rw [if_neg h1, if_neg this]
    by_cases h2 : N (mO k) 7 ≤ 3 * N 2 1
    · have h3 : ¬ 3 * N 2 1 < N (mO k) 7 := by rw [lei] at h2; rw [lti]; omega
      rw [if_pos h2]
      simp only [if_neg h3]
      rcases b with b | b
      · simp only [if_pos b]; rw [← b]; exact up_id _ _ _
      · simp only [b]; rw [if_neg (by decide), ← b]; exact up_id _ _ _
    · have h3 : 3 * N 2 1 < N (mO k) 7 := by rw [lei] at h2; rw [lti]; omega
      rw [if_neg h2]
      simp only [if_pos h3]
      split <;> rfl
theorem br_up (N : Mem) (k j : Nat) (v : Int32) : breachM N k j v = up (up N 0 13 (N 0 13 + if N 0 12 = 0 ∧ ¬ N 6 j = 0 ∧ ¬ v ≤ 0 then 1 else 0)) (mO k) 8 (N (mO k) 8 + if N 0 12 = 0 ∧ ¬ N 6 j = 0 ∧ ¬ v ≤ 0 then v else 0) := by
  have e : up (up N 0 13 (N 0 13 + 0)) (mO k) 8 (N (mO k) 8 + 0) = N := by
    rw [Int32.add_zero, Int32.add_zero, up_id, up_id]
  unfold breachM
  by_cases h1 : N 0 12 = 0
  case neg => rw [if_neg h1, if_neg (fun q => h1 q.1), if_neg (fun q => h1 q.1), e]
  rw [if_pos h1]
  by_cases h2 : N 6 j = 0
  case pos => rw [if_pos h2, if_neg (fun q => q.2.1 h2), if_neg (fun q => q.2.1 h2), e]
  rw [if_neg h2]
  by_cases h3 : v ≤ 0
  case pos => rw [if_pos h3, if_neg (fun q => q.2.2 h3), if_neg (fun q => q.2.2 h3), e]
  rw [if_neg h3, if_pos ⟨h1, h2, h3⟩, if_pos ⟨h1, h2, h3⟩, up_row (show ¬ mO k = 0 by unfold mO; omega)]
theorem br_r (N : Mem) (k j : Nat) (v : Int32) (i s : Nat) (h : ¬ (i = 0 ∧ s = 13)) (h' : ¬ (i = mO k ∧ s = 8)) : breachM N k j v i s = N i s := by
  rw [br_up, up_r]
  by_cases e : i = mO k
  · subst e; rw [if_pos rfl, if_neg (fun q => h' ⟨rfl, q⟩), up_row (by unfold mO; omega)]
  · rw [if_neg e, up_r]
    by_cases e2 : i = 0
    · subst e2; rw [if_pos rfl, if_neg (fun q => h ⟨rfl, q⟩)]
    · rw [if_neg e2]
def hdU (N : Mem) (k p : Nat) (l : Int32) : Mem := if N 0 12 = 0 ∨ N 6 0 = 0 then up (gain (up N (mO k) 9 l) k p l) 7 0 (gain (up N (mO k) 9 l) k p l 7 0 + l) else up (up N (mO k) 9 l) (mO k) 5 (up N (mO k) 9 l (mO k) 5 + l)
theorem hd_eq (N : Mem) (k p : Nat) (l : Int32) : handM N k p l = breachM (hdU N k p l) k 0 l := by
  have o0 : hd1 N k l 0 = N 0 := by unfold hd1; rw [up_row (by unfold mO; omega)]
  have o6 : hd1 N k l 6 = N 6 := by unfold hd1; rw [up_row (by unfold mO; omega)]
  unfold handM hdU
  rw [o0, o6]
  by_cases h1 : N 0 12 = 0
  · rw [if_pos h1, if_pos (Or.inl h1)]; rfl
  · rw [if_neg h1]
    by_cases h2 : N 6 0 = 0
    · rw [if_pos h2, if_pos (Or.inr h2)]; rfl
    · rw [if_neg h2, if_neg (fun q => q.elim h1 h2)]
      unfold breachM
      rw [up_row (by unfold mO; omega), up_row (by unfold mO; omega), if_neg h1]; rfl
theorem hdU_r (N : Mem) (k p : Nat) (l : Int32) (i s : Nat) (h : ¬ (i = mO k ∧ (s = 9 ∨ s = 5 ∨ s = 12))) (h2 : ¬ i = mS k) (h3 : ¬ i = 7) : hdU N k p l i s = N i s := by
  unfold hdU gain
  split <;> simp only [up_r] <;> grind
theorem fin_eq (N : Mem) (k p : Nat) (l t : Int32) (b : isB (N (mO k) 1)) (h : 0 ≤ (N 2 1).toInt) : setF (handM (breachM N k 1 t) k p l) k = Y5 N k p l t := by
  rw [hd_eq]
  have rd : ∀ i s, i < 28 → ¬ i = 7 → ¬ (i = 0 ∧ s = 13) → breachM (hdU (breachM N k 1 t) k p l) k 0 l i s = N i s := by
    intro i s h1 h2 h3
    rw [br_r _ _ _ _ _ _ h3 (by unfold mO; omega), hdU_r _ _ _ _ _ _ (by unfold mO; omega) (by unfold mS; omega) h2, br_r _ _ _ _ _ _ h3 (by unfold mO; omega)]
  have ro : ∀ s, s = 1 ∨ s = 7 → breachM (hdU (breachM N k 1 t) k p l) k 0 l (mO k) s = N (mO k) s := by
    intro s hs
    rw [br_r _ _ _ _ _ _ (by unfold mO; omega) (by omega), hdU_r _ _ _ _ _ _ (by omega) (by unfold mO mS; omega) (by unfold mO; omega), br_r _ _ _ _ _ _ (by unfold mO; omega) (by omega)]
  have e : setF (breachM (hdU (breachM N k 1 t) k p l) k 0 l) k = up (breachM (hdU (breachM N k 1 t) k p l) k 0 l) (mO k) 1 (hvv N k) := by
    rw [← hv_eq]
    · congr 1
      unfold hvv
      rw [rd 2 1 (by decide) (by decide) (by decide), ro 1 (Or.inl rfl), ro 7 (Or.inr rfl)]
    · rw [ro 1 (Or.inl rfl)]; exact b
    · rw [rd 2 1 (by decide) (by decide) (by decide)]; exact h
  rw [e]
  unfold Y5 Y4 Y3 Y1 hdU
  generalize hvv N k = H
  have n1 : ¬ (0 = mO k) := by unfold mO; omega
  have n2 : ¬ (6 = mO k) := by unfold mO; omega
  have n3 : ¬ (7 = mO k) := by unfold mO; omega
  have n4 : ¬ (mS k = mO k) := by unfold mO mS; omega
  have n5 : ¬ (mO k = mS k) := by unfold mO mS; omega
  have n6 : ¬ (0 = mS k) := by unfold mS; omega
  have n7 : ¬ (6 = mS k) := by unfold mS; omega
  have n8 : ¬ (7 = mS k) := by unfold mS; omega
  have n9 : ¬ (mO k = 0) := by unfold mO; omega
  have na : ¬ (mS k = 0) := by unfold mS; omega
  have nb : ¬ (mO k = 7) := by unfold mO; omega
  have nc : ¬ (mS k = 7) := by unfold mS; omega
  rw [br_r N k 1 t 0 12 (by decide) (by omega), br_r N k 1 t 6 0 (by decide) (by omega)]
  by_cases hS : N 0 12 = 0 ∨ N 6 0 = 0
  · rw [if_pos hS, if_pos hS]
    unfold gain
    simp only [br_up, up_r, n1, n2, n3, n4, n5, n6, n7, n8, n9, na, nb, if_true, if_false]
    generalize mO k = a at *
    generalize mS k = b at *
    funext i s
    simp only [up_r]
    grind
  · rw [if_neg hS, if_neg hS]
    simp only [br_up, up_r, n1, n2, n9, if_true, if_false]
    generalize mO k = a at *
    funext i s
    simp only [up_r]
    grind
/-- row 3 doesn't count -/
theorem RR.ex {n : Nat} {P Q : Mem} {z : Int32} {A A' B : Mem} (h : RR n P Q z A B) (e : ∀ i, ¬ i = 3 → A' i = A i) : RR n P Q z A' B := by
  refine ⟨fun i k i' k' p => ?_, fun i hi k => ?_, h.fb, h.nn, h.fz, h.cd⟩
  · rw [e i (by unfold Par at p; omega)]; exact h.pr _ _ _ _ p
  · rw [e i (by unfold mdr at hi; omega)]; exact h.fa i hi k
theorem RR.br_ {n : Nat} {P Q : Mem} {z : Int32} {A B : Mem} (h : RR n P Q z A B) {k j : Nat} (hk : k < n) (hj : j < 3) (v : Int32) : RR n P Q z (breachM A k j v) (brkM B k (if B 25 j = 0 then 0 else v)) := by
  unfold breachM brkM
  rw [h.ob, h.la hj]
  by_cases h1 : A 0 12 = 0
  case neg => rw [if_neg h1, if_neg h1]; exact h
  rw [if_pos h1, if_pos h1]
  by_cases h2 : A 6 j = 0
  · rw [if_pos h2, if_pos h2, if_pos (by decide)]; exact h
  rw [if_neg h2, if_neg h2]
  by_cases h3 : v ≤ 0
  · rw [if_pos h3, if_pos h3]; exact h
  rw [if_neg h3, if_neg h3, h.br]
  have h4 : RR n P Q z (up A 0 13 (A 0 13 + 1)) (up B 9 25 (A 0 13 + 1)) := h.pw (pa0 (by decide)) rfl
  rw [h4.ow hk]
  exact h4.pw (paO hk (by decide)) rfl
def rent (A : Mem) (k : Nat) : Int32 := A (mO k) 7 + (if A (mO k) 1 = 0 then 0 else A 2 1)
def Zb (A : Mem) (k : Nat) (a b : Int32) : Mem := up (up (up A (mO k) 4 0) (mO k) 7 a) (mO k) 6 b
abbrev PS (n : Nat) (P Q : Mem) (z : Int32) (A : Mem) (k : Nat) (N : Mem) (S : Mem × Int32 × Int32) (seen : List Nat) : Prop := (∀ i, ¬ i = 3 → N i = up A (mO k) 4 0 i) ∧ (RR n P Q z (Zb A k (rent A k - N 3 1) (A (mO k) 6 - N 3 2)) S.1) ∧ (N 3 0 = S.2.1) ∧ (N 3 3 = S.2.2) ∧ (0 ≤ (N 3 0).toInt ∧ (N 3 0).toInt ≤ 5 * (A (mO k) 4).toInt) ∧ (0 ≤ (N 3 1).toInt ∧ (N 3 1).toInt ≤ (rent A k).toInt) ∧ (0 ≤ (N 3 2).toInt ∧ (N 3 2).toInt ≤ (A (mO k) 6).toInt) ∧ (1 ∉ seen → N 3 1 = 0) ∧ (5 ∉ seen → N 3 2 = 0)
theorem PS.n3 {n : Nat} {P Q : Mem} {z : Int32} {A : Mem} {k : Nat} {N : Mem} {S : Mem × Int32 × Int32} {seen : List Nat} (h : PS n P Q z A k N S seen) : ∀ i, ¬ i = 3 → N i = up A (mO k) 4 0 i := h.1
theorem PS.rr {n : Nat} {P Q : Mem} {z : Int32} {A : Mem} {k : Nat} {N : Mem} {S : Mem × Int32 × Int32} {seen : List Nat} (h : PS n P Q z A k N S seen) : RR n P Q z (Zb A k (rent A k - N 3 1) (A (mO k) 6 - N 3 2)) S.1 := h.2.1
theorem PS.lf {n : Nat} {P Q : Mem} {z : Int32} {A : Mem} {k : Nat} {N : Mem} {S : Mem × Int32 × Int32} {seen : List Nat} (h : PS n P Q z A k N S seen) : N 3 0 = S.2.1 := h.2.2.1
theorem PS.tk {n : Nat} {P Q : Mem} {z : Int32} {A : Mem} {k : Nat} {N : Mem} {S : Mem × Int32 × Int32} {seen : List Nat} (h : PS n P Q z A k N S seen) : N 3 3 = S.2.2 := h.2.2.2.1
theorem PS.b0 {n : Nat} {P Q : Mem} {z : Int32} {A : Mem} {k : Nat} {N : Mem} {S : Mem × Int32 × Int32} {seen : List Nat} (h : PS n P Q z A k N S seen) : 0 ≤ (N 3 0).toInt ∧ (N 3 0).toInt ≤ 5 * (A (mO k) 4).toInt := h.2.2.2.2.1
theorem PS.b1 {n : Nat} {P Q : Mem} {z : Int32} {A : Mem} {k : Nat} {N : Mem} {S : Mem × Int32 × Int32} {seen : List Nat} (h : PS n P Q z A k N S seen) : 0 ≤ (N 3 1).toInt ∧ (N 3 1).toInt ≤ (rent A k).toInt := h.2.2.2.2.2.1
theorem PS.b2 {n : Nat} {P Q : Mem} {z : Int32} {A : Mem} {k : Nat} {N : Mem} {S : Mem × Int32 × Int32} {seen : List Nat} (h : PS n P Q z A k N S seen) : 0 ≤ (N 3 2).toInt ∧ (N 3 2).toInt ≤ (A (mO k) 6).toInt := h.2.2.2.2.2.2.1
theorem PS.s1 {n : Nat} {P Q : Mem} {z : Int32} {A : Mem} {k : Nat} {N : Mem} {S : Mem × Int32 × Int32} {seen : List Nat} (h : PS n P Q z A k N S seen) : 1 ∉ seen → N 3 1 = 0 := h.2.2.2.2.2.2.2.1
theorem PS.s5 {n : Nat} {P Q : Mem} {z : Int32} {A : Mem} {k : Nat} {N : Mem} {S : Mem × Int32 × Int32} {seen : List Nat} (h : PS n P Q z A k N S seen) : 5 ∉ seen → N 3 2 = 0 := h.2.2.2.2.2.2.2.2
theorem Zb_id {A : Mem} {k : Nat} {a b a' b' : Int32} : up (up (Zb A k a b) (mO k) 7 a') (mO k) 6 b' = Zb A k a' b' := by
  funext i s; unfold Zb; simp only [up_r]; grind
theorem tk_up (N : Mem) (c v : Int32) : tk3 N c v = up (up (up (up N 3 0 (N 3 0 - mn v (N 3 0))) 3 1 (if c = 1 then mn v (N 3 0) else N 3 1)) 3 2 (if c = 5 then mn v (N 3 0) else N 3 2)) 3 3 (if c < 3 then N 3 3 else N 3 3 + mn v (N 3 0)) := by
  have e0 : ∀ s, ¬ s = 0 → tk0 N v 3 s = N 3 s := fun s hs => up_oth hs
  have e1 : tk1 N c v = up (tk0 N v) 3 1 (if c = 1 then mn v (N 3 0) else N 3 1) := by
    unfold tk1
    by_cases h : c = 1
    · rw [if_pos h, if_pos h]
    · rw [if_neg h, if_neg h, ← e0 1 (by decide), up_id]
  have e2 : tk2 N c v = up (tk1 N c v) 3 2 (if c = 5 then mn v (N 3 0) else N 3 2) := by
    unfold tk2
    by_cases h : c = 5
    · rw [if_pos h, if_pos h]
    · rw [if_neg h, if_neg h, ← e0 2 (by decide)]
      have : tk0 N v 3 2 = tk1 N c v 3 2 := by rw [e1, up_oth (by decide)]
      rw [this, up_id]
  have e3 : tk2 N c v 3 3 = N 3 3 := by rw [e2, up_oth (by decide), e1, up_oth (by decide), e0 3 (by decide)]
  have e4 : tk3 N c v = up (tk2 N c v) 3 3 (if c < 3 then N 3 3 else N 3 3 + mn v (N 3 0)) := by
    unfold tk3
    by_cases h : c < 3
    · rw [if_pos h, if_pos h, ← e3, up_id]
    · rw [if_neg h, if_neg h, e3]
  rw [e4, e2, e1]; rfl
theorem ps_step {n c : Nat} {P Q : Mem} {z : Int32} {A : Mem} (I : Iv c n A) {k : Nat} (hk : k < n) {N : Mem} {S : Mem × Int32 × Int32} {seen : List Nat} (p : PS n P Q z A k N S seen) {pl : Int32} {d : Nat} (hd : A 0 3 / pl - A 0 3 / pl / 10 * 10 = nI d) (h5 : d ≤ 5) (hs : d ∈ seen → d = 0) (hR : 0 ≤ (rent A k).toInt) : PS n P Q z A k (stepM N k pl) (psN k (rent A k) S d) (d :: seen) := by
  have e0 : (0 : Int32).toInt = 0 := rfl
  have m := I.m.mi k hk
  have r0 : N 0 = A 0 := by rw [p.n3 0 (by decide), up_row (by unfold mO; omega)]
  have r2 : N 2 = A 2 := by rw [p.n3 2 (by decide), up_row (by unfold mO; omega)]
  have r6 : N 6 = A 6 := by rw [p.n3 6 (by decide), up_row (by unfold mO; omega)]
  have rk : ∀ s, ¬ s = 4 → N (mO k) s = A (mO k) s := fun s hs => by rw [p.n3 _ (by unfold mO; omega), up_oth hs]
  have hk' : kind N pl = nI d := by unfold kind; rw [r0]; exact hd
  have z12 : Zb A k (rent A k - N 3 1) (A (mO k) 6 - N 3 2) 0 = A 0 := by unfold Zb; rw [up_row (by unfold mO; omega), up_row (by unfold mO; omega), up_row (by unfold mO; omega)]
  have z2 : Zb A k (rent A k - N 3 1) (A (mO k) 6 - N 3 2) 2 = A 2 := by unfold Zb; rw [up_row (by unfold mO; omega), up_row (by unfold mO; omega), up_row (by unfold mO; omega)]
  have z6 : Zb A k (rent A k - N 3 1) (A (mO k) 6 - N 3 2) 6 = A 6 := by unfold Zb; rw [up_row (by unfold mO; omega), up_row (by unfold mO; omega), up_row (by unfold mO; omega)]
  have za : Zb A k (rent A k - N 3 1) (A (mO k) 6 - N 3 2) (mO k) 7 = rent A k - N 3 1 := by unfold Zb; rw [up_oth (by decide), up_same]
  have zb : Zb A k (rent A k - N 3 1) (A (mO k) 6 - N 3 2) (mO k) 6 = A (mO k) 6 - N 3 2 := by unfold Zb; rw [up_same]
  have sp : spM S.1 = if A 0 12 = 0 then 0 else if A 6 1 = 0 then 0 else 1 := by unfold spM; rw [p.rr.ob, p.rr.la (by decide), z12, z6]
  have bb := I.msle hk
  have bd := m.bd
  have lfb := p.b0
  -- the sum due, or 0 where it is passed by
  have due : ∃ v : Int32, 0 ≤ v.toInt ∧ (d = 1 → v = rent A k) ∧ (d = 5 → v.toInt ≤ (A (mO k) 6).toInt) ∧ psD S.1 k (rent A k) d = v ∧ ((o_pass N (nI d) = 0 ∧ o_due N k (nI d) = v) ∨ (¬ o_pass N (nI d) = 0 ∧ v = 0 ∧ 3 ≤ d)) := by
    have te := I.g.te
    unfold o_pass o_due
    rw [r0, r6, r2]
    match d, h5 with
    | 0, _ => exact ⟨0, by decide, by intro q; exact absurd q (by decide), by intro q; exact absurd q (by decide), rfl, Or.inl ⟨by split <;> (try split) <;> (try rfl), rfl⟩⟩
    | 1, _ => exact ⟨rent A k, hR, fun _ => rfl, by intro q; exact absurd q (by decide), rfl, Or.inl ⟨by split <;> (try split) <;> (try rfl), by rw [if_pos (by decide), rk 7 (by decide), rk 1 (by decide)]; rfl⟩⟩
    | 2, _ => exact ⟨A 2 2, (te 2 (by decide)).1, by intro q; exact absurd q (by decide), by intro q; exact absurd q (by decide), by show S.1 23 2 = _; rw [p.rr.te (by decide), z2], Or.inl ⟨by split <;> (try split) <;> (try rfl), by rw [if_neg (by decide), if_pos (by decide)]⟩⟩
    | 3, _ =>
      by_cases q1 : A 0 12 = 0
      · exact ⟨A 2 3, (te 3 (by decide)).1, by intro q; exact absurd q (by decide), by intro q; exact absurd q (by decide), by show (if spM S.1 = 0 then S.1 23 3 else 0) = _; rw [sp, if_pos q1, if_pos rfl, p.rr.te (by decide), z2], Or.inl ⟨by rw [if_pos q1], by rw [if_neg (by decide), if_neg (by decide), if_pos (by decide)]⟩⟩
      · by_cases q2 : A 6 1 = 0
        · exact ⟨A 2 3, (te 3 (by decide)).1, by intro q; exact absurd q (by decide), by intro q; exact absurd q (by decide), by show (if spM S.1 = 0 then S.1 23 3 else 0) = _; rw [sp, if_neg q1, if_pos q2, if_pos rfl, p.rr.te (by decide), z2], Or.inl ⟨by rw [if_neg q1, if_pos q2], by rw [if_neg (by decide), if_neg (by decide), if_pos (by decide)]⟩⟩
        · exact ⟨0, by decide, by intro q; exact absurd q (by decide), by intro q; exact absurd q (by decide), by show (if spM S.1 = 0 then S.1 23 3 else 0) = _; rw [sp, if_neg q1, if_neg q2, if_neg (by decide)], Or.inr ⟨by rw [if_neg q1, if_neg q2, if_neg (by decide)]; decide, rfl, by decide⟩⟩
    | 4, _ =>
      by_cases q1 : A 0 12 = 0
      · exact ⟨A 2 4, (te 4 (by decide)).1, by intro q; exact absurd q (by decide), by intro q; exact absurd q (by decide), by show (if spM S.1 = 0 then S.1 23 4 else 0) = _; rw [sp, if_pos q1, if_pos rfl, p.rr.te (by decide), z2], Or.inl ⟨by rw [if_pos q1], by rw [if_neg (by decide), if_neg (by decide), if_neg (by decide), if_pos (by decide)]⟩⟩
      · by_cases q2 : A 6 1 = 0
        · exact ⟨A 2 4, (te 4 (by decide)).1, by intro q; exact absurd q (by decide), by intro q; exact absurd q (by decide), by show (if spM S.1 = 0 then S.1 23 4 else 0) = _; rw [sp, if_neg q1, if_pos q2, if_pos rfl, p.rr.te (by decide), z2], Or.inl ⟨by rw [if_neg q1, if_pos q2], by rw [if_neg (by decide), if_neg (by decide), if_neg (by decide), if_pos (by decide)]⟩⟩
        · exact ⟨0, by decide, by intro q; exact absurd q (by decide), by intro q; exact absurd q (by decide), by show (if spM S.1 = 0 then S.1 23 4 else 0) = _; rw [sp, if_neg q1, if_neg q2, if_neg (by decide)], Or.inr ⟨by rw [if_neg q1, if_neg q2, if_neg (by decide)]; decide, rfl, by decide⟩⟩
    | 5, _ =>
      have s5 : N 3 2 = 0 := p.s5 (fun q => absurd (hs q) (by decide))
      have zz : S.1 15 k = A (mO k) 6 := by rw [p.rr.de hk, zb, s5]; grind
      by_cases q1 : A 0 12 = 0
      · exact ⟨A (mO k) 6, m.p6, by intro q; exact absurd q (by decide), fun _ => Int.le_refl _, by show (if spM S.1 = 0 then S.1 15 k else 0) = _; rw [sp, if_pos q1, if_pos rfl, zz], Or.inl ⟨by rw [if_pos q1], by rw [if_neg (by decide), if_neg (by decide), if_neg (by decide), if_neg (by decide), if_pos (by decide), rk 6 (by decide)]⟩⟩
      · by_cases q2 : A 6 1 = 0
        · exact ⟨A (mO k) 6, m.p6, by intro q; exact absurd q (by decide), fun _ => Int.le_refl _, by show (if spM S.1 = 0 then S.1 15 k else 0) = _; rw [sp, if_neg q1, if_pos q2, if_pos rfl, zz], Or.inl ⟨by rw [if_neg q1, if_pos q2], by rw [if_neg (by decide), if_neg (by decide), if_neg (by decide), if_neg (by decide), if_pos (by decide), rk 6 (by decide)]⟩⟩
        · exact ⟨0, by decide, by intro q; exact absurd q (by decide), fun _ => m.p6, by show (if spM S.1 = 0 then S.1 15 k else 0) = _; rw [sp, if_neg q1, if_neg q2, if_neg (by decide)], Or.inr ⟨by rw [if_neg q1, if_neg q2, if_neg (by decide)]; decide, rfl, by decide⟩⟩
  obtain ⟨v, v0, v1, v5, hdue, hcl⟩ := due
  have pxI : (psX v (N 3 0)).toInt = min v.toInt (N 3 0).toInt := by
    unfold psX
    by_cases q : N 3 0 ≤ v
    · rw [if_pos q]; rw [lei] at q; omega
    · rw [if_neg q]; rw [lei] at q; omega
  have pxm : mn v (N 3 0) = psX v (N 3 0) := by rw [eqi, mnI, pxI]; split <;> omega
  -- the step's row 3
  have st : (stepM N k pl = N ∧ psX v (N 3 0) = 0 ∧ 3 ≤ d) ∨ stepM N k pl = tk3 N (nI d) v := by
    unfold stepM; rw [hk']
    rcases hcl with ⟨q1, q2⟩ | ⟨q1, q2, q3⟩
    · right; rw [if_pos q1, q2]
    · left; rw [if_neg q1]; refine ⟨rfl, ?_, q3⟩
      rw [eqi, pxI, q2, e0]; omega
  have f3 : ∀ i, ¬ i = 3 → stepM N k pl i = N i := by
    rcases st with ⟨q, -, -⟩ | q
    · intro i _; rw [q]
    · intro i hi; rw [q, tk_up, up_row hi, up_row hi, up_row hi, up_row hi]
  have dI : (nI d).toInt = d := nI_toInt (by omega)
  have c1 : nI d = 1 ↔ d = 1 := by rw [eqi, dI]; have : (1 : Int32).toInt = 1 := rfl; omega
  have c5 : nI d = 5 ↔ d = 5 := by rw [eqi, dI]; have : (5 : Int32).toInt = 5 := rfl; omega
  have c3 : nI d < 3 ↔ d < 3 := by rw [lti, dI]; have : (3 : Int32).toInt = 3 := rfl; omega
  have g0 : stepM N k pl 3 0 = N 3 0 - psX v (N 3 0) := by
    rcases st with ⟨q, q2, -⟩ | q
    · rw [q, q2]; grind
    · rw [q, ← pxm, tk_up]; simp only [up_r]; grind
  have g1 : stepM N k pl 3 1 = if d = 1 then psX v (N 3 0) else N 3 1 := by
    rcases st with ⟨q, q2, q3⟩ | q
    · rw [q, if_neg (by omega)]
    · rw [q, ← pxm, tk_up]; simp only [up_r]; grind
  have g2 : stepM N k pl 3 2 = if d = 5 then psX v (N 3 0) else N 3 2 := by
    rcases st with ⟨q, q2, q3⟩ | q
    · by_cases q5 : d = 5
      · rw [q, if_pos q5, q2]
        exact p.s5 (fun w => absurd (hs (q5 ▸ w)) (by omega))
      · rw [q, if_neg q5]
    · rw [q, ← pxm, tk_up]; simp only [up_r]; grind
  have g3 : stepM N k pl 3 3 = N 3 3 + (if 2 < d then psX v (N 3 0) else 0) := by
    rcases st with ⟨q, q2, q3⟩ | q
    · rw [q, q2, if_pos (by omega)]; grind
    · rw [q, ← pxm, tk_up]; simp only [up_r]; grind
  have x0 : 0 ≤ (psX v (N 3 0)).toInt ∧ (psX v (N 3 0)).toInt ≤ (N 3 0).toInt ∧ (psX v (N 3 0)).toInt ≤ v.toInt := by rw [pxI]; omega
  have lb := ib (N 3 0)
  have g0' : (stepM N k pl 3 0).toInt = (N 3 0).toInt - (psX v (N 3 0)).toInt := by rw [g0]; exact is (by omega) (by omega)
  have hX : psX (psD S.1 k (rent A k) d) S.2.1 = psX v (N 3 0) := by rw [hdue, p.lf]
  have hw1 : d = 1 → N 3 1 = 0 := fun q => p.s1 (fun w => absurd (hs (q ▸ w)) (by omega))
  have hw5 : d = 5 → N 3 2 = 0 := fun q => p.s5 (fun w => absurd (hs (q ▸ w)) (by omega))
  refine ⟨fun i hi => by rw [f3 i hi, p.n3 i hi], ?_, ?_, ?_, ?_, ?_, ?_, fun q => ?_, fun q => ?_⟩
  · show RR n P Q z _ (psM S.1 k d (rent A k) S.2.1)
    unfold psM
    rw [hX]
    have k1 : RR n P Q z (up (Zb A k (rent A k - N 3 1) (A (mO k) 6 - N 3 2)) (mO k) 7 (rent A k - stepM N k pl 3 1)) (psA S.1 k d (psX v (N 3 0))) := by
      refine p.rr.pw (paO hk (by decide)) ?_
      rw [p.rr.ar hk, za, g1]
      by_cases q : d = 1
      · rw [if_pos q, if_pos q, hw1 q]; grind
      · rw [if_neg q, if_neg q]; grind
    have k2 := k1.pw (i := mO k) (k := 6) (i' := 15) (k' := k) (paO hk (by decide)) (v := A (mO k) 6 - stepM N k pl 3 2) (v' := psA S.1 k d (psX v (N 3 0)) 15 k - (if d = 5 then psX v (N 3 0) else 0)) (by
      rw [k1.de hk, up_oth (by decide), zb, g2]
      by_cases q : d = 5
      · rw [if_pos q, if_pos q, hw5 q]; grind
      · rw [if_neg q, if_neg q]; grind)
    rw [Zb_id] at k2
    exact k2
  · rw [g0]; show _ = psL S.1 k d (rent A k) S.2.1; unfold psL; rw [hX, p.lf]
  · rw [g3]; show _ = psT S.1 k d (rent A k) S.2.1 S.2.2; unfold psT; rw [hX, p.tk]
  · rw [g0']; omega
  · rw [g1]; split
    · have := v1 (by assumption); rw [← this]; omega
    · exact p.b1
  · rw [g2]; split
    · have := v5 (by assumption); omega
    · exact p.b2
  · rw [g1, if_neg (fun w => q (by rw [w]; exact List.mem_cons_self))]
    exact p.s1 (fun w => q (List.mem_cons_of_mem _ w))
  · rw [g2, if_neg (fun w => q (by rw [w]; exact List.mem_cons_self))]
    exact p.s5 (fun w => q (List.mem_cons_of_mem _ w))
end MathF
section MathG
theorem rent_bd {n c : Nat} {A : Mem} (I : Iv c n A) {k : Nat} (hk : k < n) : (A (mO k) 7).toInt ≤ (rent A k).toInt ∧ (rent A k).toInt ≤ (A (mO k) 7).toInt + 100 ∧ 0 ≤ (rent A k).toInt := by
  have m := I.m.mi k hk
  have bd := m.bd
  have bb := I.msle hk
  have p7 := m.p7
  have te := I.g.te 1 (by decide)
  have e0 : (0 : Int32).toInt = 0 := rfl
  unfold rent
  split
  · rw [ia (by omega) (by omega)]; omega
  · rw [ia (by omega) (by omega)]; omega
theorem ps_init {n c : Nat} {P Q : Mem} {z : Int32} {A B : Mem} (h : RR n P Q z A B) (I : Iv c n A) {k : Nat} (hk : k < n) : PS n P Q z A k (set0 A k) (ps0 B k, psW B k, 0) [] ∧ ps0 B k 16 k = rent A k := by
  have m := I.m.mi k hk
  have bd := m.bd
  have bb := I.msle hk
  have p4 := m.p4
  have p6 := m.p6
  have te := I.g.te 0 (by decide)
  have t0 := I.g.t0
  have rb := rent_bd I hk
  have e0 : (0 : Int32).toInt = 0 := rfl
  have h1 : RR n P Q z (up A (mO k) 4 0) (up B 13 k 0) := h.pw (paO hk (by decide)) rfl
  have er : psR (up B 13 k 0) k = rent A k := by
    unfold psR rent
    rw [h1.ar hk, h1.ho hk, h1.te (by decide), up_oth (by decide), up_oth (by decide), up_row (by unfold mO; omega)]
  have h2 : RR n P Q z (up (up A (mO k) 4 0) (mO k) 7 (rent A k)) (ps0 B k) := h1.pw (paO hk (by decide)) er
  have e3 : ∀ s, set0 A k 3 s = sl0 A (A (mO k) 4 * A 2 0 / 10) 3 s := fun s => by unfold set0; rw [up_row (by unfold mO; omega)]
  have w0 : set0 A k 3 0 = A (mO k) 4 * A 2 0 / 10 := by rw [e3]; unfold sl0; rw [up_oth (by decide), up_oth (by decide), up_oth (by decide), up_same]
  have w1 : set0 A k 3 1 = 0 := by rw [e3]; unfold sl0; rw [up_oth (by decide), up_oth (by decide), up_same]
  have w2 : set0 A k 3 2 = 0 := by rw [e3]; unfold sl0; rw [up_oth (by decide), up_same]
  have w3 : set0 A k 3 3 = 0 := by rw [e3]; unfold sl0; rw [up_same]
  have m1 : 0 ≤ (A (mO k) 4).toInt * (A 2 0).toInt := Int.mul_nonneg p4 te.1
  have m2 : (A (mO k) 4).toInt * (A 2 0).toInt ≤ (A (mO k) 4).toInt * 50 := Int.mul_le_mul_of_nonneg_left t0 p4
  have ld := ldiv (d := 10) m1 (by omega) (by decide)
  have wI : (A (mO k) 4 * A 2 0 / 10).toInt = (A (mO k) 4).toInt * (A 2 0).toInt / 10 := by
    have q : (A (mO k) 4 * A 2 0).toInt = (A (mO k) 4).toInt * (A 2 0).toInt := im (by omega) (by omega)
    rw [idv (by omega) (by decide), q]; rfl
  refine ⟨⟨fun i hi => ?_, ?_, ?_, w3, ?_, ?_, ?_, fun _ => w1, fun _ => w2⟩, ?_⟩
  · unfold set0 sl0
    by_cases e : i = mO k
    · subst e; rw [up_own, up_own, up_row hi, up_row hi, up_row hi, up_row hi]
    · rw [up_row e, up_row e, up_row hi, up_row hi, up_row hi, up_row hi]
  · rw [w1, w2, Int32.sub_zero, Int32.sub_zero]
    have q : A (mO k) 6 = up (up A (mO k) 4 0) (mO k) 7 (rent A k) (mO k) 6 := by rw [up_oth (by decide), up_oth (by decide)]
    unfold Zb
    rw [q, up_id]; exact h2
  · rw [w0]; show _ = psW B k; unfold psW; rw [h.co hk, h.te (by decide)]; exact ld.symm
  · rw [w0, wI]; omega
  · rw [w1]; omega
  · rw [w2]; omega
  · show up (up B 13 k 0) 16 k (psR (up B 13 k 0) k) 16 k = _
    rw [up_same, er]
theorem ps_all {n c : Nat} {P Q : Mem} {z : Int32} {A B : Mem} (h : RR n P Q z A B) (I : Iv c n A) {k : Nat} (hk : k < n) : ∃ seen, PS n P Q z A k (set5 A k) (psF B k) seen := by
  obtain ⟨p0, e⟩ := ps_init h I hk
  have rb := rent_bd I hk
  obtain ⟨o, u⟩ := I.g.ed
  unfold edL at u
  simp only [List.pairwise_cons, List.mem_cons, List.not_mem_nil, or_false, forall_eq_or_imp, forall_eq] at u
  obtain ⟨⟨u1, u2, u3, u4⟩, ⟨u5, u6, u7⟩, ⟨u8, u9⟩, u10, -⟩ := u
  have o1 := o 10000 (by decide)
  have o2 := o 1000 (by decide)
  have o3 := o 100 (by decide)
  have o4 := o 10 (by decide)
  have o5 := o 1 (by decide)
  have p1 := ps_step I hk p0 o1.1 o1.2 (by intro q; cases q) rb.2.2
  have p2 := ps_step I hk p1 o2.1 o2.2 (by intro q; simp only [List.mem_cons, List.not_mem_nil, or_false] at q; omega) rb.2.2
  have p3 := ps_step I hk p2 o3.1 o3.2 (by intro q; simp only [List.mem_cons, List.not_mem_nil, or_false] at q; omega) rb.2.2
  have p4 := ps_step I hk p3 o4.1 o4.2 (by intro q; simp only [List.mem_cons, List.not_mem_nil, or_false] at q; omega) rb.2.2
  have p5 := ps_step I hk p4 o5.1 o5.2 (by intro q; simp only [List.mem_cons, List.not_mem_nil, or_false] at q; omega) rb.2.2
  refine ⟨[dgN (A 0 3) 1, dgN (A 0 3) 10, dgN (A 0 3) 100, dgN (A 0 3) 1000, dgN (A 0 3) 10000], ?_⟩
  unfold psF
  rw [h.ed, e]
  exact p5
theorem Y5_o {N : Mem} {k p : Nat} {l t : Int32} {s : Nat} (hs : ¬ (s = 1 ∨ s = 8 ∨ s = 9 ∨ s = 12 ∨ s = 5)) : Y5 N k p l t (mO k) s = N (mO k) s := by
  have f : ∀ M : Mem, up M (mO k) 1 (hvv N k) (mO k) s = M (mO k) s := fun M => up_oth (by omega)
  have g : Y4 N k l t (mO k) s = N (mO k) s := by
    unfold Y4 Y3 Y1
    rw [up_oth (by omega), br_r _ _ _ _ _ _ (by unfold mO; omega) (by omega), br_r _ _ _ _ _ _ (by unfold mO; omega) (by omega), up_oth (by omega)]
  unfold Y5 gain
  split
  · rw [up_row (by unfold mO; omega), up_oth (by omega), up_row (by unfold mO mS; omega), g]
  · rw [up_oth (by omega), g]
theorem Y4_o {N : Mem} {k : Nat} {l t : Int32} {s : Nat} (hs : ¬ (s = 1 ∨ s = 8 ∨ s = 9)) : Y4 N k l t (mO k) s = N (mO k) s := by
  unfold Y4 Y3 Y1
  rw [up_oth (by omega), br_r _ _ _ _ _ _ (by unfold mO; omega) (by omega), br_r _ _ _ _ _ _ (by unfold mO; omega) (by omega), up_oth (by omega)]
theorem Y4_1 {N : Mem} {k : Nat} {l t : Int32} : Y4 N k l t (mO k) 1 = hvv N k := by
  unfold Y4 Y3 Y1
  rw [up_oth (by decide), br_r _ _ _ _ _ _ (by unfold mO; omega) (by omega), br_r _ _ _ _ _ _ (by unfold mO; omega) (by omega), up_same]
theorem Y4_s {N : Mem} {k : Nat} {l t : Int32} {s : Nat} : Y4 N k l t (mS k) s = N (mS k) s := by
  unfold Y4 Y3 Y1
  rw [up_row (by unfold mO mS; omega), br_r _ _ _ _ _ _ (by unfold mS; omega) (by unfold mO mS; omega), br_r _ _ _ _ _ _ (by unfold mS; omega) (by unfold mO mS; omega), up_row (by unfold mO mS; omega)]
theorem KP.br_ {k j : Nat} {A A' : Mem} (h : KP k A A') (v : Int32) : KP k A (breachM A' k j v) := by
  rw [br_up]; exact (h.up (Or.inr ⟨rfl, rfl⟩)).up (Or.inl (Or.inl rfl))
theorem Y5_kp {A N : Mem} {k p : Nat} {l t : Int32} (h : KP k A N) : KP k A (Y5 N k p l t) := by
  have h4 : KP k A (Y4 N k l t) := (((h.up (Or.inl (Or.inl rfl))).br_ l).br_ t).up (Or.inl (Or.inl rfl))
  unfold Y5 gain
  split
  · exact ((h4.up (Or.inl (Or.inr (Or.inr (Or.inl rfl))))).up (Or.inl (Or.inl rfl))).up (Or.inl (Or.inr (Or.inr (Or.inr (Or.inl rfl)))))
  · exact h4.up (Or.inl (Or.inl rfl))
theorem y5_res {n : Nat} {A N7 : Mem} {k p : Nat} {l t : Int32} (m : MI n (A (mO k)) (A (mS k))) (hp : p < 40) (bb : msR (A (mO k)) (A (mS k)) ≤ 3584000) (zS : N7 (mS k) = A (mS k)) (zo : ∀ s, ¬ (s = 4 ∨ s = 6 ∨ s = 7) → N7 (mO k) s = A (mO k) s) (z4 : N7 (mO k) 4 = 0) (h6 : 0 ≤ (N7 (mO k) 6).toInt ∧ (N7 (mO k) 6).toInt ≤ (A (mO k) 6).toInt) (h7 : 0 ≤ (N7 (mO k) 7).toInt ∧ (N7 (mO k) 7).toInt ≤ (A (mO k) 7).toInt + 100) (b0 : 0 ≤ l.toInt ∧ l.toInt ≤ 5 * (A (mO k) 4).toInt) : MI n (Y5 N7 k p l t (mO k)) (Y5 N7 k p l t (mS k)) ∧ msR (Y5 N7 k p l t (mO k)) (Y5 N7 k p l t (mS k)) ≤ msR (A (mO k)) (A (mS k)) + 100 := by
  have hsi := si_nn m.ps
  have e0 : (0 : Int32).toInt = 0 := rfl
  have p4 := m.p4
  have p6 := m.p6
  have p7 := m.p7
  have p5' := m.p5
  have mdef : msR (A (mO k)) (A (mS k)) = 5 * (A (mO k) 4).toInt + (A (mO k) 5).toInt + (A (mO k) 6).toInt + (A (mO k) 7).toInt + si (A (mS k)) 40 := rfl
  generalize msR (A (mO k)) (A (mS k)) = W at *
  have hh : isB (hvv N7 k) := by unfold hvv; split; exact Or.inl rfl; split; exact Or.inr rfl; split; exact Or.inl rfl; exact Or.inr rfl
  have y1 : isB (Y5 N7 k p l t (mO k) 1) := by
    unfold Y5 gain
    split
    · rw [up_row (by unfold mO; omega), up_oth (by decide), up_row (by unfold mO mS; omega), Y4_1]; exact hh
    · rw [up_oth (by decide), Y4_1]; exact hh
  have fin : ∀ (o s : Nat → Int32) (x y : Int32), (∀ q, ¬ (q = 1 ∨ q = 8 ∨ q = 9 ∨ q = 12 ∨ q = 5) → o q = N7 (mO k) q) → isB (o 1) → o 5 = x → (∀ q, q < 40 → 0 ≤ (s q).toInt) → o 12 - o 13 = sm s 40 → 0 ≤ x.toInt → x.toInt + si s 40 = (A (mO k) 5).toInt + si (A (mS k)) 40 + l.toInt → MI n o s ∧ msR o s ≤ W + 100 := by
    intro o s x y f1 f2 f3 f4 f5 f6 f7
    refine ⟨⟨?_, f2, ?_, ?_, ?_, ?_, ?_, ?_, f4, f5⟩, ?_⟩
    · rw [f1 0 (by decide), zo 0 (by decide)]; exact m.b0
    · rw [f1 2 (by decide), zo 2 (by decide)]; exact m.b2
    · rw [f1 3 (by decide), zo 3 (by decide)]; exact m.k3
    · rw [f1 4 (by decide), z4]; decide
    · rw [f3]; exact f6
    · rw [f1 6 (by decide)]; exact h6.1
    · rw [f1 7 (by decide)]; exact h7.1
    · unfold msR
      rw [f1 4 (by decide), z4, f3, f1 6 (by decide), f1 7 (by decide)]; omega
  have y13 : Y5 N7 k p l t (mO k) 13 = A (mO k) 13 := by rw [Y5_o (by decide), zo 13 (by decide)]
  show MI n (Y5 N7 k p l t (mO k)) (Y5 N7 k p l t (mS k)) ∧ msR (Y5 N7 k p l t (mO k)) (Y5 N7 k p l t (mS k)) ≤ W + 100
  by_cases hS : N7 0 12 = 0 ∨ N7 6 0 = 0
  · have ye : Y5 N7 k p l t = up (gain (Y4 N7 k l t) k p l) 7 0 (gain (Y4 N7 k l t) k p l 7 0 + l) := by unfold Y5; rw [if_pos hS]
    have yS : Y5 N7 k p l t (mS k) = upd (A (mS k)) p (A (mS k) p + l) := by
      rw [ye, up_row (by unfold mS; omega)]; unfold gain
      rw [up_row (by unfold mO mS; omega), up_own, Y4_s, zS]
      congr 1
      funext s; rw [Y4_s, zS]
    have y5 : Y5 N7 k p l t (mO k) 5 = A (mO k) 5 := by
      rw [ye, up_row (by unfold mO; omega)]; unfold gain
      rw [up_oth (by decide), up_row (by unfold mO mS; omega), Y4_o (by decide), zo 5 (by decide)]
    have y12 : Y5 N7 k p l t (mO k) 12 = A (mO k) 12 + l := by
      rw [ye, up_row (by unfold mO; omega)]; unfold gain
      rw [up_same, Y4_o (by decide), zo 12 (by decide)]
    have pp := m.ps p hp
    have sle : (A (mS k) p).toInt ≤ si (A (mS k)) 40 := by
      have e1 := si_mono (f := A (mS k)) m.ps (q := p + 1) (by omega)
      have e2 := si_nn (f := A (mS k)) (m := p) (fun i hi => m.ps i (by omega))
      have : si (A (mS k)) (p + 1) = si (A (mS k)) p + (A (mS k) p).toInt := rfl
      omega
    have ip : (A (mS k) p + l).toInt = (A (mS k) p).toInt + l.toInt := ia (by omega) (by omega)
    refine fin _ _ _ 0 (fun q hq => Y5_o hq) y1 y5 (fun q hq => ?_) ?_ p5' ?_
    · rw [yS]; unfold upd; split
      · rw [ip]; omega
      · exact m.ps q hq
    · rw [y12, y13, yS, sm_upd hp, ← m.cw]; grind
    · rw [yS, si_upd hp, ip]; omega
  · have ye : Y5 N7 k p l t = up (Y4 N7 k l t) (mO k) 5 (Y4 N7 k l t (mO k) 5 + l) := by unfold Y5; rw [if_neg hS]
    have yS : Y5 N7 k p l t (mS k) = A (mS k) := by
      rw [ye, up_row (by unfold mO mS; omega)]; funext s; rw [Y4_s, zS]
    have y5 : Y5 N7 k p l t (mO k) 5 = A (mO k) 5 + l := by
      rw [ye, up_same, Y4_o (by decide), zo 5 (by decide)]
    have y12 : Y5 N7 k p l t (mO k) 12 = A (mO k) 12 := by
      rw [ye, up_oth (by decide), Y4_o (by decide), zo 12 (by decide)]
    have i5 : (A (mO k) 5 + l).toInt = (A (mO k) 5).toInt + l.toInt := ia (by omega) (by omega)
    refine fin _ _ _ 0 (fun q hq => Y5_o hq) y1 y5 (fun q hq => ?_) ?_ ?_ ?_
    · rw [yS]; exact m.ps q hq
    · rw [y12, y13, yS]; exact m.cw
    · rw [i5]; omega
    · rw [yS, i5]; omega
theorem settle {n c : Nat} {P Q : Mem} {z : Int32} {A B : Mem} (h : RR n P Q z A B) (I : Iv c n A) {k p : Nat} (hk : k < n) (hp : p < 40) :
    RR n P Q z (setM A k p) (pdH (pdP B k) k p) ∧ setM A k p (mO k) 9 = pdP B k 18 k ∧ KP k A (setM A k p) ∧ MI n (setM A k p (mO k)) (setM A k p (mS k)) ∧ msR (setM A k p (mO k)) (setM A k p (mS k)) ≤ msR (A (mO k)) (A (mS k)) + 100 := by
  obtain ⟨seen, p5⟩ := ps_all h I hk
  have m := I.m.mi k hk
  have bd := m.bd
  have bb := I.msle hk
  have rb := rent_bd I hk
  have e0 : (0 : Int32).toInt = 0 := rfl
  generalize hN : set5 A k = N at p5
  have eR : o_due A k 1 = rent A k := by unfold o_due; rw [if_pos rfl]; rfl
  have q7 : ∀ i, ¬ i = 3 → set7 (set6 N A k) k i = Zb A k (rent A k - N 3 1) (A (mO k) 6 - N 3 2) i := by
    intro i hi
    have x1 : set6 N A k 3 2 = N 3 2 := by unfold set6; rw [up_row (by unfold mO; omega)]
    have x2 : set6 N A k (mO k) 6 = A (mO k) 6 := by unfold set6; rw [up_oth (by decide), p5.n3 _ (by unfold mO; omega), up_oth (by decide)]
    unfold set7
    rw [x1, x2]
    unfold set6 Zb
    rw [eR]
    by_cases e : i = mO k
    · subst e; rw [up_own, up_own, up_own, up_own, p5.n3 _ hi]
    · rw [up_row e, up_row e, up_row e, up_row e, p5.n3 _ hi]
  have q73 : ∀ s, set7 (set6 N A k) k 3 s = N 3 s := fun s => by unfold set7 set6; rw [up_row (by unfold mO; omega), up_row (by unfold mO; omega)]
  have eM : setM A k p = setF (handM (breachM (set7 (set6 N A k) k) k 1 (psF B k).2.2) k p (psF B k).2.1) k := by
    unfold setM set9 set8
    rw [hN, br_r _ _ _ _ 3 0 (by decide) (by unfold mO; omega), q73, q73, p5.lf, p5.tk]
  generalize hN7 : set7 (set6 N A k) k = N7 at q7 eM
  have zr : ∀ i, ¬ i = mO k → Zb A k (rent A k - N 3 1) (A (mO k) 6 - N 3 2) i = A i := fun i hi => by unfold Zb; rw [up_row hi, up_row hi, up_row hi]
  have z2 : N7 2 = A 2 := by rw [q7 2 (by decide), zr _ (by unfold mO; omega)]
  have zS : N7 (mS k) = A (mS k) := by rw [q7 _ (by unfold mS; omega), zr _ (by unfold mO mS; omega)]
  have zO : N7 (mO k) = upd (upd (upd (A (mO k)) 4 0) 7 (rent A k - N 3 1)) 6 (A (mO k) 6 - N 3 2) := by rw [q7 _ (by unfold mO; omega)]; unfold Zb; rw [up_own, up_own, up_own]
  have zo : ∀ s, ¬ (s = 4 ∨ s = 6 ∨ s = 7) → N7 (mO k) s = A (mO k) s := fun s hs => by
    rw [zO]; unfold upd; rw [if_neg (by omega), if_neg (by omega), if_neg (by omega)]
  have z4 : N7 (mO k) 4 = 0 := by rw [zO]; rfl
  have z6 : N7 (mO k) 6 = A (mO k) 6 - N 3 2 := by rw [zO]; rfl
  have z7 : N7 (mO k) 7 = rent A k - N 3 1 := by rw [zO]; rfl
  have fe := fin_eq N7 k p (psF B k).2.1 (psF B k).2.2 (by rw [zo 1 (by decide)]; exact m.b1) (by rw [z2]; exact (I.g.te 1 (by decide)).1)
  rw [fe] at eM
  rw [eM]
  have r7 : RR n P Q z N7 (psF B k).1 := p5.rr.ex q7
  have lf := p5.lf
  generalize hl : (psF B k).2.1 = l at *
  generalize ht : (psF B k).2.2 = t at *
  have r1 : RR n P Q z (Y1 N7 k) (psH (psF B k).1 k) := r7.pw (paO hk (by decide)) (by unfold hvv; rw [r7.ho hk, r7.te (by decide), r7.ar hk])
  have r3 : RR n P Q z (Y3 N7 k l t) (psE B k) := by
    have a := (r1.br_ hk (j := 0) (by decide) l).br_ hk (j := 1) (by decide) t
    unfold psE ps2 ps1
    rw [hl, ht]
    exact a
  have r4 : RR n P Q z (Y4 N7 k l t) (pdP B k) := r3.pw (paO hk (by decide)) hl
  have w4 : pdP B k 18 k = l := by unfold pdP; rw [up_same]; exact hl
  have c12 : pdP B k 9 24 = N7 0 12 := by
    rw [r4.ob]; unfold Y4 Y3 Y1
    rw [up_row (by unfold mO; omega), br_r _ _ _ _ _ _ (by decide) (by unfold mO; omega), br_r _ _ _ _ _ _ (by decide) (by unfold mO; omega), up_row (by unfold mO; omega)]
  have c60 : pdP B k 25 0 = N7 6 0 := by
    rw [r4.la (by decide)]; unfold Y4 Y3 Y1
    rw [up_row (by unfold mO; omega), br_r _ _ _ _ _ _ (by decide) (by unfold mO; omega), br_r _ _ _ _ _ _ (by decide) (by unfold mO; omega), up_row (by unfold mO; omega)]
  have r5 : RR n P Q z (Y5 N7 k p l t) (pdH (pdP B k) k p) := by
    have sS : RR n P Q z (up (gain (Y4 N7 k l t) k p l) 7 0 (gain (Y4 N7 k l t) k p l 7 0 + l)) (pdB (pdP B k) k p) := by
      unfold pdB gain
      have a1 : RR n P Q z (up (Y4 N7 k l t) (mS k) p (Y4 N7 k l t (mS k) p + l)) (up (pdP B k) 20 (40 * k + p) (pdP B k 20 (40 * k + p) + pdP B k 18 k)) := r4.pw (paS hk hp) (by rw [r4.sc hk hp, w4])
      refine a1.o12.pw (pa7 (by decide)) ?_
      rw [a1.bo (by decide), up_row (show ¬ 18 = 20 by decide), w4]
      rw [up_row (M := up (Y4 N7 k l t) (mS k) p (Y4 N7 k l t (mS k) p + l)) (show ¬ 7 = mO k by unfold mO; omega)]
    unfold Y5 pdH
    rw [c12, c60]
    by_cases h1 : N7 0 12 = 0
    · rw [if_pos h1, if_pos (Or.inl h1)]; exact sS
    · rw [if_neg h1]
      by_cases h2 : N7 6 0 = 0
      · rw [if_pos h2, if_pos (Or.inr h2)]; exact sS
      · rw [if_neg h2, if_neg (fun q => q.elim h1 h2)]
        exact r4.pw (paO hk (by decide)) (by rw [r4.cn hk, w4])
  have kp7 : KP k A N7 := by
    refine ⟨fun i h1 h2 => ?_, fun s _ => ?_⟩
    · rw [q7 i (by unfold PK at h1; omega), zr i (by unfold PK at h1; unfold mO; omega)]
    · rw [q7 0 (by decide), zr 0 (by unfold mO; omega)]
  have b0 := p5.b0
  have b1 := p5.b1
  have b2 := p5.b2
  rw [lf] at b0
  have p6 := m.p6
  have p5' := m.p5
  have i6 : (A (mO k) 6 - N 3 2).toInt = (A (mO k) 6).toInt - (N 3 2).toInt := is (by omega) (by omega)
  have i7 : (rent A k - N 3 1).toInt = (rent A k).toInt - (N 3 1).toInt := is (by omega) (by omega)
  have p4 := m.p4
  have z6' : (N7 (mO k) 6).toInt = (A (mO k) 6).toInt - (N 3 2).toInt := by rw [z6]; exact i6
  have z7' : (N7 (mO k) 7).toInt = (rent A k).toInt - (N 3 1).toInt := by rw [z7]; exact i7
  have res := y5_res (t := t) m hp bb zS zo z4 (by omega) (by omega) b0
  refine ⟨r5, ?_, Y5_kp kp7, res.1, res.2⟩
  rw [← r5.wa hk]
  unfold pdH pdB pdC
  split
  · rw [up_row (by decide), up_row (by decide)]
  · split
    · rw [up_row (by decide), up_row (by decide)]
    · rw [up_row (by decide)]
end MathG
