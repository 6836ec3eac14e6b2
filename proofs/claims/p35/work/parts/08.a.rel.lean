section MathA
theorem up_r (M : Mem) (i k : Nat) (v : Int32) (a b : Nat) : up M i k v a b = if a = i then (if b = k then v else M i b) else M a b := by
  unfold up up1 upd
  by_cases h : a = i
  · simp [h]
  · simp [h]
theorem up_row {M : Mem} {i k : Nat} {v : Int32} {a : Nat} (h : ¬ a = i) : up M i k v a = M a := by
  funext b; rw [up_r, if_neg h]
theorem up_same (M : Mem) (i k : Nat) (v : Int32) : up M i k v i k = v := by rw [up_r, if_pos rfl, if_pos rfl]
theorem up_oth {M : Mem} {i k : Nat} {v : Int32} {b : Nat} (h : ¬ b = k) : up M i k v i b = M i b := by rw [up_r, if_pos rfl, if_neg h]
def T0 : List (Nat × Nat) := [(1, 18), (2, 19), (3, 20), (6, 21), (9, 22), (10, 23), (12, 24), (13, 25), (14, 26), (15, 27), (16, 28)]
def T1 : List (Nat × Nat) := [(0, 10), (1, 11), (2, 12), (3, 19), (4, 13), (5, 14), (6, 15), (7, 16), (8, 17), (9, 18)]
theorem T0_inj : ∀ a ∈ T0, ∀ b ∈ T0, (a.1 = b.1 ↔ a.2 = b.2) := by decide
theorem T1_inj : ∀ a ∈ T1, ∀ b ∈ T1, (a.1 = b.1 ↔ a.2 = b.2) := by decide
theorem T0_b : ∀ a ∈ T0, 18 ≤ a.2 ∧ a.2 < 29 := by decide
theorem T1_b : ∀ a ∈ T1, 10 ≤ a.2 ∧ a.2 ≤ 19 ∧ a.1 ≤ 9 := by decide
def Par (n i k i' k' : Nat) : Prop :=
  (i = 0 ∧ i' = 9 ∧ (k, k') ∈ T0) ∨ (i = 2 ∧ i' = 23 ∧ k' = k ∧ k < 5) ∨ (i = 4 ∧ i' = 24 ∧ k' = k ∧ k < 4) ∨ (i = 5 ∧ i' = 24 ∧ k' = k + 4 ∧ k < 4) ∨ (i = 6 ∧ i' = 25 ∧ k' = k ∧ k < 3) ∨ (i = 7 ∧ i' = 26 ∧ k' = k ∧ k < 6) ∨
  (∃ j, j < n ∧ i = 28 + 3 * j ∧ k' = j ∧ (k, i') ∈ T1) ∨ (∃ j, j < n ∧ i = 29 + 3 * j ∧ i' = 21 ∧ k' = 4 * j + k ∧ k < 4) ∨ (∃ j, j < n ∧ i = 30 + 3 * j ∧ i' = 20 ∧ k' = 40 * j + k ∧ k < 40)
theorem Par.inj {n i k i' k' a b a' b' : Nat} (h : Par n i k i' k') (g : Par n a b a' b') : (a = i ∧ b = k) ↔ (a' = i' ∧ b' = k') := by
  unfold Par at h g
  rcases h with h | h | h | h | h | h | ⟨j, h⟩ | ⟨j, h⟩ | ⟨j, h⟩ <;> rcases g with g | g | g | g | g | g | ⟨q, g⟩ | ⟨q, g⟩ | ⟨q, g⟩
  all_goals first
    | omega
    | (have := T0_inj _ h.2.2 _ g.2.2; simp only at this; omega)
    | (have := T1_inj _ h.2.2.2 _ g.2.2.2; simp only at this; omega)
    | (have := T0_b _ h.2.2; simp only at this; omega)
    | (have := T0_b _ g.2.2; simp only at this; omega)
    | (have := T1_b _ h.2.2.2; simp only at this; omega)
    | (have := T1_b _ g.2.2.2; simp only at this; omega)
    | (have := T0_b _ h.2.2; have := T1_b _ g.2.2.2; simp only at *; omega)
    | (have := T1_b _ h.2.2.2; have := T0_b _ g.2.2; simp only at *; omega)
def mdr (i : Nat) : Prop := 9 ≤ i ∧ i ≤ 26
theorem Par.rows {n i k i' k' : Nat} (h : Par n i k i' k') : ¬ mdr i ∧ mdr i' ∧ i' ≠ 22 ∧ ¬ (i' = 9 ∧ (k' = 29 ∨ k' = 0)) := by
  unfold Par at h; unfold mdr
  rcases h with h | h | h | h | h | h | ⟨j, h⟩ | ⟨j, h⟩ | ⟨j, h⟩
  all_goals first
    | omega
    | (have := T0_b _ h.2.2; simp only at this; omega)
    | (have := T1_b _ h.2.2.2; simp only at this; omega)
def Frz (n i k : Nat) : Prop := ∃ j, n ≤ j ∧ ((12 ≤ i ∧ i ≤ 18 ∧ k = j) ∨ (i = 21 ∧ ∃ g, g < 4 ∧ k = 4 * j + g) ∨ (i = 20 ∧ ∃ g, g < 40 ∧ k = 40 * j + g))
theorem Par.nfrz {n i k i' k' : Nat} (h : Par n i k i' k') : ¬ Frz n i' k' := by
  unfold Par at h; unfold Frz
  rintro ⟨j, hj, e⟩
  rcases h with h | h | h | h | h | h | ⟨q, h⟩ | ⟨q, h⟩ | ⟨q, h⟩ <;> rcases e with e | ⟨e, g, hg⟩ | ⟨e, g, hg⟩
  all_goals first
    | omega
    | (have := T1_b _ h.2.2.2; simp only at this; omega)
abbrev RR (n : Nat) (P Q : Mem) (z : Int32) (A B : Mem) : Prop := (∀ i k i' k', Par n i k i' k' → B i' k' = A i k) ∧ (∀ i, mdr i → ∀ k, A i k = P i k) ∧ (∀ i, ¬ mdr i → ∀ k, B i k = Q i k) ∧ (B 9 0 = nI n) ∧ (∀ i k, Frz n i k → B i k = 0) ∧ (B 9 29 = z)
theorem RR.pr {n : Nat} {P Q : Mem} {z : Int32} {A B : Mem} (h : RR n P Q z A B) : ∀ i k i' k', Par n i k i' k' → B i' k' = A i k := h.1
theorem RR.fa {n : Nat} {P Q : Mem} {z : Int32} {A B : Mem} (h : RR n P Q z A B) : ∀ i, mdr i → ∀ k, A i k = P i k := h.2.1
theorem RR.fb {n : Nat} {P Q : Mem} {z : Int32} {A B : Mem} (h : RR n P Q z A B) : ∀ i, ¬ mdr i → ∀ k, B i k = Q i k := h.2.2.1
theorem RR.nn {n : Nat} {P Q : Mem} {z : Int32} {A B : Mem} (h : RR n P Q z A B) : B 9 0 = nI n := h.2.2.2.1
theorem RR.fz {n : Nat} {P Q : Mem} {z : Int32} {A B : Mem} (h : RR n P Q z A B) : ∀ i k, Frz n i k → B i k = 0 := h.2.2.2.2.1
theorem RR.cd {n : Nat} {P Q : Mem} {z : Int32} {A B : Mem} (h : RR n P Q z A B) : B 9 29 = z := h.2.2.2.2.2
theorem RR.pw {n : Nat} {P Q : Mem} {z : Int32} {A B : Mem} (h : RR n P Q z A B) {i k i' k' : Nat} (p : Par n i k i' k') {v v' : Int32} (e : v' = v) : RR n P Q z (up A i k v) (up B i' k' v') := by
  subst e
  obtain ⟨r1, r2, r3, r4⟩ := p.rows
  refine ⟨fun a b a' b' q => ?_, fun a ha b => ?_, fun a ha b => ?_, ?_, fun a b q => ?_, ?_⟩
  · have := Par.inj p q
    rw [up_r, up_r]
    by_cases e1 : a' = i' ∧ b' = k'
    · rw [if_pos e1.1, if_pos e1.2, if_pos (this.mpr e1).1, if_pos (this.mpr e1).2]
    · have e2 : ¬ (a = i ∧ b = k) := fun q => e1 (this.mp q)
      have f1 : (if a' = i' then (if b' = k' then v' else B i' b') else B a' b') = B a' b' := by
        by_cases u : a' = i'
        · rw [if_pos u, if_neg (fun w => e1 ⟨u, w⟩), u]
        · rw [if_neg u]
      have f2 : (if a = i then (if b = k then v' else A i b) else A a b) = A a b := by
        by_cases u : a = i
        · rw [if_pos u, if_neg (fun w => e2 ⟨u, w⟩), u]
        · rw [if_neg u]
      rw [f1, f2]; exact h.pr _ _ _ _ q
  · rw [up_row (fun (e : a = i) => r1 (e ▸ ha))]; exact h.fa a ha b
  · rw [up_row (fun (e : a = i') => ha (e ▸ r2))]; exact h.fb a ha b
  · by_cases u : 9 = i'
    · subst u; rw [up_oth (fun w => r4 ⟨rfl, Or.inr w.symm⟩)]; exact h.nn
    · rw [up_row u]; exact h.nn
  · rw [up_r]
    by_cases u : a = i'
    · rw [if_pos u]
      by_cases w : b = k'
      · exact absurd q (by rw [u, w]; exact p.nfrz)
      · rw [if_neg w]; exact h.fz _ _ (u ▸ q)
    · rw [if_neg u]; exact h.fz _ _ q
  · by_cases u : 9 = i'
    · subst u; rw [up_oth (fun w => r4 ⟨rfl, Or.inl w.symm⟩)]; exact h.cd
    · rw [up_row u]; exact h.cd
theorem RR.cw {n : Nat} {P Q : Mem} {z : Int32} {A B : Mem} (h : RR n P Q z A B) {i k : Nat} (hm : ¬ mdr i) (p : ∀ a b, ¬ Par n i k a b) {v : Int32} : RR n P Q z (up A i k v) B := by
  refine ⟨fun a b a' b' q => ?_, fun a ha b => ?_, h.fb, h.nn, h.fz, h.cd⟩
  · rw [h.pr _ _ _ _ q, up_r]
    by_cases u : a = i
    · rw [if_pos u, if_neg (fun w => p _ _ (by rw [u, w] at q; exact q)), u]
    · rw [if_neg u]
  · rw [up_row (fun (e : a = i) => hm (e ▸ ha))]; exact h.fa a ha b
theorem RR.mw0 {n : Nat} {P Q : Mem} {z : Int32} {A B : Mem} (h : RR n P Q z A B) {i k : Nat} (hi : i = 22 ∨ (i = 9 ∧ k = 29)) {v z' : Int32} (hz : up B i k v 9 29 = z') : RR n P Q z' A (up B i k v) := by
  have hm : mdr i := by unfold mdr; omega
  refine ⟨fun a b a' b' q => ?_, h.fa, fun a ha b => ?_, ?_, fun a b q => ?_, hz⟩
  · have r := q.rows
    rw [← h.pr _ _ _ _ q, up_r]
    by_cases u : a' = i
    · rw [if_pos u, if_neg (by omega), u]
    · rw [if_neg u]
  · rw [up_row (fun (e : a = i) => ha (e ▸ hm))]; exact h.fb a ha b
  · by_cases u : 9 = i
    · subst u; rw [up_oth (by omega)]; exact h.nn
    · rw [up_row u]; exact h.nn
  · have : ¬ (a = i) := by unfold Frz at q; obtain ⟨j, hj, e⟩ := q; omega
    rw [up_row this]; exact h.fz _ _ q
theorem RR.m22 {n : Nat} {P Q : Mem} {z : Int32} {A B : Mem} (h : RR n P Q z A B) {k : Nat} {v : Int32} : RR n P Q z A (up B 22 k v) := h.mw0 (Or.inl rfl) (by rw [up_row (by omega)]; exact h.cd)
theorem RR.ml {n : Nat} {P Q : Mem} {z : Int32} {A B : Mem} (h : RR n P Q z A B) (c : Int32) : RR n P Q c A (ml B c) := h.mw0 (Or.inr ⟨rfl, rfl⟩) (up_same _ _ _ _)
/-- the pairs by their names -/
theorem pa0 {n k k' : Nat} (h : (k, k') ∈ T0) : Par n 0 k 9 k' := Or.inl ⟨rfl, rfl, h⟩
theorem pa2 {n k : Nat} (h : k < 5) : Par n 2 k 23 k := Or.inr (Or.inl ⟨rfl, rfl, rfl, h⟩)
theorem pa4 {n k : Nat} (h : k < 4) : Par n 4 k 24 k := Or.inr (Or.inr (Or.inl ⟨rfl, rfl, rfl, h⟩))
theorem pa5 {n k : Nat} (h : k < 4) : Par n 5 k 24 (k + 4) := Or.inr (Or.inr (Or.inr (Or.inl ⟨rfl, rfl, rfl, h⟩)))
theorem pa6 {n k : Nat} (h : k < 3) : Par n 6 k 25 k := Or.inr (Or.inr (Or.inr (Or.inr (Or.inl ⟨rfl, rfl, rfl, h⟩))))
theorem pa7 {n k : Nat} (h : k < 6) : Par n 7 k 26 k := Or.inr (Or.inr (Or.inr (Or.inr (Or.inr (Or.inl ⟨rfl, rfl, rfl, h⟩)))))
theorem paO {n j s i' : Nat} (hj : j < n) (h : (s, i') ∈ T1) : Par n (mO j) s i' j := Or.inr (Or.inr (Or.inr (Or.inr (Or.inr (Or.inr (Or.inl ⟨j, hj, rfl, rfl, h⟩))))))
theorem paG {n j g : Nat} (hj : j < n) (h : g < 4) : Par n (mG j) g 21 (4 * j + g) := Or.inr (Or.inr (Or.inr (Or.inr (Or.inr (Or.inr (Or.inr (Or.inl ⟨j, hj, rfl, rfl, rfl, h⟩)))))))
theorem paS {n j i : Nat} (hj : j < n) (h : i < 40) : Par n (mS j) i 20 (40 * j + i) := Or.inr (Or.inr (Or.inr (Or.inr (Or.inr (Or.inr (Or.inr (Or.inr ⟨j, hj, rfl, rfl, rfl, h⟩)))))))
theorem RR.g0 {n : Nat} {P Q : Mem} {z : Int32} {A B : Mem} (h : RR n P Q z A B) {k k' : Nat} (m : (k, k') ∈ T0) : B 9 k' = A 0 k := h.pr _ _ _ _ (pa0 m)
theorem RR.d {n : Nat} {P Q : Mem} {z : Int32} {A B : Mem} (h : RR n P Q z A B) : B 9 18 = A 0 1 := h.g0 (by decide)
theorem RR.ck {n : Nat} {P Q : Mem} {z : Int32} {A B : Mem} (h : RR n P Q z A B) : B 9 19 = A 0 2 := h.g0 (by decide)
theorem RR.ed {n : Nat} {P Q : Mem} {z : Int32} {A B : Mem} (h : RR n P Q z A B) : B 9 20 = A 0 3 := h.g0 (by decide)
theorem RR.pd {n : Nat} {P Q : Mem} {z : Int32} {A B : Mem} (h : RR n P Q z A B) : B 9 21 = A 0 6 := h.g0 (by decide)
theorem RR.li {n : Nat} {P Q : Mem} {z : Int32} {A B : Mem} (h : RR n P Q z A B) : B 9 22 = A 0 9 := h.g0 (by decide)
theorem RR.dc {n : Nat} {P Q : Mem} {z : Int32} {A B : Mem} (h : RR n P Q z A B) : B 9 23 = A 0 10 := h.g0 (by decide)
theorem RR.ob {n : Nat} {P Q : Mem} {z : Int32} {A B : Mem} (h : RR n P Q z A B) : B 9 24 = A 0 12 := h.g0 (by decide)
theorem RR.br {n : Nat} {P Q : Mem} {z : Int32} {A B : Mem} (h : RR n P Q z A B) : B 9 25 = A 0 13 := h.g0 (by decide)
theorem RR.st {n : Nat} {P Q : Mem} {z : Int32} {A B : Mem} (h : RR n P Q z A B) : B 9 26 = A 0 14 := h.g0 (by decide)
theorem RR.cl {n : Nat} {P Q : Mem} {z : Int32} {A B : Mem} (h : RR n P Q z A B) : B 9 27 = A 0 15 := h.g0 (by decide)
theorem RR.fu {n : Nat} {P Q : Mem} {z : Int32} {A B : Mem} (h : RR n P Q z A B) : B 9 28 = A 0 16 := h.g0 (by decide)
theorem RR.te {n : Nat} {P Q : Mem} {z : Int32} {A B : Mem} (h : RR n P Q z A B) {k : Nat} (hk : k < 5) : B 23 k = A 2 k := h.pr _ _ _ _ (pa2 hk)
theorem RR.p4 {n : Nat} {P Q : Mem} {z : Int32} {A B : Mem} (h : RR n P Q z A B) {k : Nat} (hk : k < 4) : B 24 k = A 4 k := h.pr _ _ _ _ (pa4 hk)
theorem RR.p5 {n : Nat} {P Q : Mem} {z : Int32} {A B : Mem} (h : RR n P Q z A B) {k : Nat} (hk : k < 4) : B 24 (k + 4) = A 5 k := h.pr _ _ _ _ (pa5 hk)
theorem RR.p5' {n : Nat} {P Q : Mem} {z : Int32} {A B : Mem} (h : RR n P Q z A B) {k : Nat} (hk : k < 4) : B 24 (4 + k) = A 5 k := by rw [Nat.add_comm]; exact h.p5 hk
theorem RR.la {n : Nat} {P Q : Mem} {z : Int32} {A B : Mem} (h : RR n P Q z A B) {k : Nat} (hk : k < 3) : B 25 k = A 6 k := h.pr _ _ _ _ (pa6 hk)
theorem RR.bo {n : Nat} {P Q : Mem} {z : Int32} {A B : Mem} (h : RR n P Q z A B) {k : Nat} (hk : k < 6) : B 26 k = A 7 k := h.pr _ _ _ _ (pa7 hk)
theorem RR.mi {n : Nat} {P Q : Mem} {z : Int32} {A B : Mem} (h : RR n P Q z A B) {j s i' : Nat} (hj : j < n) (m : (s, i') ∈ T1) : B i' j = A (mO j) s := h.pr _ _ _ _ (paO hj m)
theorem RR.al {n : Nat} {P Q : Mem} {z : Int32} {A B : Mem} (h : RR n P Q z A B) {j : Nat} (hj : j < n) : B 10 j = A (mO j) 0 := h.mi hj (by decide)
theorem RR.ho {n : Nat} {P Q : Mem} {z : Int32} {A B : Mem} (h : RR n P Q z A B) {j : Nat} (hj : j < n) : B 11 j = A (mO j) 1 := h.mi hj (by decide)
theorem RR.vo {n : Nat} {P Q : Mem} {z : Int32} {A B : Mem} (h : RR n P Q z A B) {j : Nat} (hj : j < n) : B 12 j = A (mO j) 2 := h.mi hj (by decide)
theorem RR.ki {n : Nat} {P Q : Mem} {z : Int32} {A B : Mem} (h : RR n P Q z A B) {j : Nat} (hj : j < n) : B 19 j = A (mO j) 3 := h.mi hj (by decide)
theorem RR.co {n : Nat} {P Q : Mem} {z : Int32} {A B : Mem} (h : RR n P Q z A B) {j : Nat} (hj : j < n) : B 13 j = A (mO j) 4 := h.mi hj (by decide)
theorem RR.cn {n : Nat} {P Q : Mem} {z : Int32} {A B : Mem} (h : RR n P Q z A B) {j : Nat} (hj : j < n) : B 14 j = A (mO j) 5 := h.mi hj (by decide)
theorem RR.de {n : Nat} {P Q : Mem} {z : Int32} {A B : Mem} (h : RR n P Q z A B) {j : Nat} (hj : j < n) : B 15 j = A (mO j) 6 := h.mi hj (by decide)
theorem RR.ar {n : Nat} {P Q : Mem} {z : Int32} {A B : Mem} (h : RR n P Q z A B) {j : Nat} (hj : j < n) : B 16 j = A (mO j) 7 := h.mi hj (by decide)
theorem RR.ow {n : Nat} {P Q : Mem} {z : Int32} {A B : Mem} (h : RR n P Q z A B) {j : Nat} (hj : j < n) : B 17 j = A (mO j) 8 := h.mi hj (by decide)
theorem RR.wa {n : Nat} {P Q : Mem} {z : Int32} {A B : Mem} (h : RR n P Q z A B) {j : Nat} (hj : j < n) : B 18 j = A (mO j) 9 := h.mi hj (by decide)
theorem RR.go {n : Nat} {P Q : Mem} {z : Int32} {A B : Mem} (h : RR n P Q z A B) {j g : Nat} (hj : j < n) (hg : g < 4) : B 21 (4 * j + g) = A (mG j) g := h.pr _ _ _ _ (paG hj hg)
theorem RR.sc {n : Nat} {P Q : Mem} {z : Int32} {A B : Mem} (h : RR n P Q z A B) {j i : Nat} (hj : j < n) (hi : i < 40) : B 20 (40 * j + i) = A (mS j) i := h.pr _ _ _ _ (paS hj hi)
theorem nO {n j k a b : Nat} (h : ∀ i', (k, i') ∉ T1) : ¬ Par n (mO j) k a b := by
  unfold Par mO
  rintro (g | g | g | g | g | g | ⟨q, g⟩ | ⟨q, g⟩ | ⟨q, g⟩)
  all_goals first
    | omega
    | exact h _ (by have := g.2.1; have e : j = q := by omega
                    exact g.2.2.2)
theorem RR.o12 {n : Nat} {P Q : Mem} {z : Int32} {A B : Mem} (h : RR n P Q z A B) {j : Nat} {v : Int32} : RR n P Q z (up A (mO j) 12 v) B := h.cw (by unfold mdr mO; omega) (fun _ _ => nO (by intro i'; unfold T1; simp))
theorem RR.o13 {n : Nat} {P Q : Mem} {z : Int32} {A B : Mem} (h : RR n P Q z A B) {j : Nat} {v : Int32} : RR n P Q z (up A (mO j) 13 v) B := h.cw (by unfold mdr mO; omega) (fun _ _ => nO (by intro i'; unfold T1; simp))
theorem RR.s3 {n : Nat} {P Q : Mem} {z : Int32} {A B : Mem} (h : RR n P Q z A B) {k : Nat} {v : Int32} : RR n P Q z (up A 3 k v) B := h.cw (by unfold mdr; omega) (by
  intro a b; unfold Par; omega)
end MathA
section MathB
theorem bmI {x : Int} (h1 : -2147483648 ≤ x) (h2 : x < 2147483648) : x.bmod (2 ^ 32) = x := by
  rw [Int.bmod_def]; split <;> omega
theorem ia {a b : Int32} (h1 : -2147483648 ≤ a.toInt + b.toInt) (h2 : a.toInt + b.toInt < 2147483648) : (a + b).toInt = a.toInt + b.toInt := by
  rw [Int32.toInt_add]; exact bmI h1 h2
theorem is {a b : Int32} (h1 : -2147483648 ≤ a.toInt - b.toInt) (h2 : a.toInt - b.toInt < 2147483648) : (a - b).toInt = a.toInt - b.toInt := by
  rw [Int32.toInt_sub]; exact bmI h1 h2
theorem im {a b : Int32} (h1 : -2147483648 ≤ a.toInt * b.toInt) (h2 : a.toInt * b.toInt < 2147483648) : (a * b).toInt = a.toInt * b.toInt := by
  rw [Int32.toInt_mul]; exact bmI h1 h2
theorem ib (a : Int32) : -2147483648 ≤ a.toInt ∧ a.toInt < 2147483648 := ⟨by have := Int32.le_toInt a; simpa using this, by have := Int32.toInt_lt a; simpa using this⟩
theorem idv {a b : Int32} (h1 : 0 ≤ a.toInt) (h2 : 0 < b.toInt) : (a / b).toInt = a.toInt / b.toInt := by
  rw [Int32.toInt_div, Int.tdiv_eq_ediv_of_nonneg h1]
  have := ib a
  have h3 : a.toInt / b.toInt ≤ a.toInt := Int.ediv_le_self _ h1
  have h4 : 0 ≤ a.toInt / b.toInt := Int.ediv_nonneg h1 (by omega)
  exact bmI (by omega) (by omega)
theorem lei {a b : Int32} : a ≤ b ↔ a.toInt ≤ b.toInt := Int32.le_iff_toInt_le
theorem lti {a b : Int32} : a < b ↔ a.toInt < b.toInt := Int32.lt_iff_toInt_lt
theorem eqi {a b : Int32} : a = b ↔ a.toInt = b.toInt := ⟨fun h => h ▸ rfl, fun h => Int32.toInt_inj.mp h⟩
def si (f : Nat → Int32) : Nat → Int
  | 0 => 0
  | i + 1 => si f i + (f i).toInt
def msR (o s : Nat → Int32) : Int := 5 * (o 4).toInt + (o 5).toInt + (o 6).toInt + (o 7).toInt + si s 40
def TM (A : Mem) : Nat → Int
  | 0 => 0
  | j + 1 => TM A j + msR (A (mO j)) (A (mS j))
abbrev MI (n : Nat) (o s : Nat → Int32) : Prop := (isB (o 0)) ∧ (isB (o 1)) ∧ (isB (o 2)) ∧ (kinOk n (o 3)) ∧ (0 ≤ (o 4).toInt) ∧ (0 ≤ (o 5).toInt) ∧ (0 ≤ (o 6).toInt) ∧ (0 ≤ (o 7).toInt) ∧ (∀ i, i < 40 → 0 ≤ (s i).toInt) ∧ (o 12 - o 13 = sm s 40)
theorem MI.b0 {n : Nat} {o s : Nat → Int32} (h : MI n o s) : isB (o 0) := h.1
theorem MI.b1 {n : Nat} {o s : Nat → Int32} (h : MI n o s) : isB (o 1) := h.2.1
theorem MI.b2 {n : Nat} {o s : Nat → Int32} (h : MI n o s) : isB (o 2) := h.2.2.1
theorem MI.k3 {n : Nat} {o s : Nat → Int32} (h : MI n o s) : kinOk n (o 3) := h.2.2.2.1
theorem MI.p4 {n : Nat} {o s : Nat → Int32} (h : MI n o s) : 0 ≤ (o 4).toInt := h.2.2.2.2.1
theorem MI.p5 {n : Nat} {o s : Nat → Int32} (h : MI n o s) : 0 ≤ (o 5).toInt := h.2.2.2.2.2.1
theorem MI.p6 {n : Nat} {o s : Nat → Int32} (h : MI n o s) : 0 ≤ (o 6).toInt := h.2.2.2.2.2.2.1
theorem MI.p7 {n : Nat} {o s : Nat → Int32} (h : MI n o s) : 0 ≤ (o 7).toInt := h.2.2.2.2.2.2.2.1
theorem MI.ps {n : Nat} {o s : Nat → Int32} (h : MI n o s) : ∀ i, i < 40 → 0 ≤ (s i).toInt := h.2.2.2.2.2.2.2.2.1
theorem MI.cw {n : Nat} {o s : Nat → Int32} (h : MI n o s) : o 12 - o 13 = sm s 40 := h.2.2.2.2.2.2.2.2.2
def edL (x : Int32) : List Nat := [dgN x 10000, dgN x 1000, dgN x 100, dgN x 10, dgN x 1]
def edG (x : Int32) : Prop := edOk x ∧ (edL x).Pairwise (fun a b => a = b → a = 0)
abbrev GI (c : Nat) (A : Mem) : Prop := (0 ≤ (A 0 1).toInt ∧ (A 0 1).toInt ≤ 50) ∧ (isB (A 0 2)) ∧ (edG (A 0 3)) ∧ (∃ p : Nat, p ≤ 40 ∧ A 0 6 = nI p) ∧ (0 ≤ (A 0 9).toInt ∧ (A 0 9).toInt ≤ 1000) ∧ (0 ≤ (A 0 10).toInt ∧ (A 0 10).toInt ≤ 90) ∧ (isB (A 0 12)) ∧ (isB (A 0 14)) ∧ (isB (A 0 15)) ∧ (0 ≤ (A 0 16).toInt ∧ (A 0 16).toInt ≤ 1000 * c) ∧ (∀ k, k < 5 → 0 ≤ (A 2 k).toInt ∧ (A 2 k).toInt ≤ 100) ∧ ((A 2 0).toInt ≤ 50) ∧ (∀ k, k < 4 → 1 ≤ (A 4 k).toInt ∧ (A 4 k).toInt ≤ 100) ∧ (∀ k, k < 4 → 1 ≤ (A 5 k).toInt ∧ (A 5 k).toInt ≤ 100) ∧ (∀ k, k < 3 → isB (A 6 k))
theorem GI.d {c : Nat} {A : Mem} (h : GI c A) : 0 ≤ (A 0 1).toInt ∧ (A 0 1).toInt ≤ 50 := h.1
theorem GI.ck {c : Nat} {A : Mem} (h : GI c A) : isB (A 0 2) := h.2.1
theorem GI.ed {c : Nat} {A : Mem} (h : GI c A) : edG (A 0 3) := h.2.2.1
theorem GI.pd {c : Nat} {A : Mem} (h : GI c A) : ∃ p : Nat, p ≤ 40 ∧ A 0 6 = nI p := h.2.2.2.1
theorem GI.li {c : Nat} {A : Mem} (h : GI c A) : 0 ≤ (A 0 9).toInt ∧ (A 0 9).toInt ≤ 1000 := h.2.2.2.2.1
theorem GI.dc {c : Nat} {A : Mem} (h : GI c A) : 0 ≤ (A 0 10).toInt ∧ (A 0 10).toInt ≤ 90 := h.2.2.2.2.2.1
theorem GI.ob {c : Nat} {A : Mem} (h : GI c A) : isB (A 0 12) := h.2.2.2.2.2.2.1
theorem GI.st {c : Nat} {A : Mem} (h : GI c A) : isB (A 0 14) := h.2.2.2.2.2.2.2.1
theorem GI.cl {c : Nat} {A : Mem} (h : GI c A) : isB (A 0 15) := h.2.2.2.2.2.2.2.2.1
theorem GI.fu {c : Nat} {A : Mem} (h : GI c A) : 0 ≤ (A 0 16).toInt ∧ (A 0 16).toInt ≤ 1000 * c := h.2.2.2.2.2.2.2.2.2.1
theorem GI.te {c : Nat} {A : Mem} (h : GI c A) : ∀ k, k < 5 → 0 ≤ (A 2 k).toInt ∧ (A 2 k).toInt ≤ 100 := h.2.2.2.2.2.2.2.2.2.2.1
theorem GI.t0 {c : Nat} {A : Mem} (h : GI c A) : (A 2 0).toInt ≤ 50 := h.2.2.2.2.2.2.2.2.2.2.2.1
theorem GI.q4 {c : Nat} {A : Mem} (h : GI c A) : ∀ k, k < 4 → 1 ≤ (A 4 k).toInt ∧ (A 4 k).toInt ≤ 100 := h.2.2.2.2.2.2.2.2.2.2.2.2.1
theorem GI.q5 {c : Nat} {A : Mem} (h : GI c A) : ∀ k, k < 4 → 1 ≤ (A 5 k).toInt ∧ (A 5 k).toInt ≤ 100 := h.2.2.2.2.2.2.2.2.2.2.2.2.2.1
theorem GI.la {c : Nat} {A : Mem} (h : GI c A) : ∀ k, k < 3 → isB (A 6 k) := h.2.2.2.2.2.2.2.2.2.2.2.2.2.2
abbrev MM (n : Nat) (T : Int) (A : Mem) : Prop := (∀ j, j < n → MI n (A (mO j)) (A (mS j))) ∧ (TM A n ≤ T)
theorem MM.mi {n : Nat} {T : Int} {A : Mem} (h : MM n T A) : ∀ j, j < n → MI n (A (mO j)) (A (mS j)) := h.1
theorem MM.tm {n : Nat} {T : Int} {A : Mem} (h : MM n T A) : TM A n ≤ T := h.2
abbrev Iv (c n : Nat) (A : Mem) : Prop := (n ≤ 10) ∧ (c ≤ 512) ∧ (GI c A) ∧ (MM n (7000 * c) A)
theorem Iv.n10 {c n : Nat} {A : Mem} (h : Iv c n A) : n ≤ 10 := h.1
theorem Iv.c5 {c n : Nat} {A : Mem} (h : Iv c n A) : c ≤ 512 := h.2.1
theorem Iv.g {c n : Nat} {A : Mem} (h : Iv c n A) : GI c A := h.2.2.1
theorem Iv.m {c n : Nat} {A : Mem} (h : Iv c n A) : MM n (7000 * c) A := h.2.2.2
theorem MI.msn {n : Nat} {o s : Nat → Int32} (h : MI n o s) : 0 ≤ msR o s := by
  have hs : ∀ i, i ≤ 40 → 0 ≤ si s i := by
    intro i
    induction i with
    | zero => intro _; exact Int.le_refl _
    | succ i ih => intro hi; have := ih (by omega); have := h.ps i (by omega); unfold si; omega
  have := hs 40 (by omega); have := h.p4; have := h.p5; have := h.p6; have := h.p7
  unfold msR; omega
theorem TM_ge {n m : Nat} {A : Mem} (h : ∀ j, j < n → MI n (A (mO j)) (A (mS j))) (hm : m ≤ n) : ∀ {j : Nat}, j < m → msR (A (mO j)) (A (mS j)) ≤ TM A m := by
  induction m with
  | zero => intro j hj; omega
  | succ m ih =>
    intro j hj
    have h0 : 0 ≤ TM A m := by
      by_cases e : m = 0
      · subst e; exact Int.le_refl _
      · have := ih (by omega) (j := 0) (by omega); have := (h 0 (by omega)).msn; omega
    have h1 := (h m (by omega)).msn
    unfold TM
    by_cases e : j = m
    · subst e; omega
    · have := ih (by omega) (j := j) (by omega); omega
theorem TM_congr {n : Nat} {A A' : Mem} (h : ∀ j, j < n → msR (A' (mO j)) (A' (mS j)) = msR (A (mO j)) (A (mS j))) : TM A' n = TM A n := by
  induction n with
  | zero => rfl
  | succ m ih => unfold TM; rw [ih (fun j hj => h j (by omega)), h m (by omega)]
theorem TM_one {n k : Nat} {A A' : Mem} (hk : k < n) (h : ∀ j, j < n → ¬ j = k → msR (A' (mO j)) (A' (mS j)) = msR (A (mO j)) (A (mS j))) : TM A' n = TM A n + (msR (A' (mO k)) (A' (mS k)) - msR (A (mO k)) (A (mS k))) := by
  induction n with
  | zero => omega
  | succ m ih =>
    unfold TM
    by_cases e : k = m
    · subst e; rw [TM_congr (fun j hj => h j (by omega) (by omega))]; omega
    · rw [ih (by omega) (fun j hj => h j (by omega)), h m (by omega) (fun q => e q.symm)]; omega
theorem si_congr {f g : Nat → Int32} {m : Nat} (h : ∀ i, i < m → f i = g i) : si f m = si g m := by
  induction m with
  | zero => rfl
  | succ m ih => unfold si; rw [ih (fun i hi => h i (by omega)), h m (by omega)]
theorem sm_congr {f g : Nat → Int32} {m : Nat} (h : ∀ i, i < m → f i = g i) : sm f m = sm g m := by
  induction m with
  | zero => rfl
  | succ m ih => unfold sm; rw [ih (fun i hi => h i (by omega)), h m (by omega)]
theorem si_nn {f : Nat → Int32} {m : Nat} (h : ∀ i, i < m → 0 ≤ (f i).toInt) : 0 ≤ si f m := by
  induction m with
  | zero => exact Int.le_refl _
  | succ m ih => have := ih (fun i hi => h i (by omega)); have := h m (by omega); unfold si; omega
theorem si_mono {f : Nat → Int32} {m q : Nat} (h : ∀ i, i < m → 0 ≤ (f i).toInt) (hq : q ≤ m) : si f q ≤ si f m := by
  induction m with
  | zero => have : q = 0 := by omega
            subst this; exact Int.le_refl _
  | succ m ih =>
    by_cases e : q = m + 1
    · subst e; exact Int.le_refl _
    · have := ih (fun i hi => h i (by omega)) (by omega); have := h m (by omega); show si f q ≤ si f m + (f m).toInt; omega
theorem sm_si {f : Nat → Int32} {m : Nat} (h : ∀ i, i < m → 0 ≤ (f i).toInt) (hb : si f m < 2147483648) : (sm f m).toInt = si f m := by
  induction m with
  | zero => rfl
  | succ m ih =>
    have h1 := si_nn (f := f) (m := m) (fun i hi => h i (by omega)); have h2 := h m (by omega)
    unfold si at hb
    have := ih (fun i hi => h i (by omega)) (by omega)
    unfold sm si
    rw [ia (by omega) (by omega), this]
theorem si_upd {f : Nat → Int32} {m k : Nat} (hk : k < m) (v : Int32) : si (upd f k v) m = si f m + (v.toInt - (f k).toInt) := by
  induction m with
  | zero => omega
  | succ m ih =>
    unfold si
    by_cases e : k = m
    · subst e
      rw [si_congr (g := f) (fun i hi => by unfold upd; rw [if_neg (by omega)])]
      unfold upd; rw [if_pos rfl]; omega
    · rw [ih (by omega)]; unfold upd; rw [if_neg (fun q => e q.symm)]; omega
theorem sm_upd {f : Nat → Int32} {m k : Nat} (hk : k < m) (v : Int32) : sm (upd f k v) m = sm f m + (v - f k) := by
  induction m with
  | zero => omega
  | succ m ih =>
    unfold sm
    by_cases e : k = m
    · subst e
      rw [sm_congr (g := f) (fun i hi => by unfold upd; rw [if_neg (by omega)])]
      unfold upd; rw [if_pos rfl]; grind
    · rw [ih (by omega)]; unfold upd; rw [if_neg (fun q => e q.symm)]; grind
theorem up_own (M : Mem) (i k : Nat) (v : Int32) : up M i k v i = upd (M i) k v := by unfold up up1; rw [if_pos rfl]
theorem Iv.msle {n c : Nat} {A : Mem} (I : Iv c n A) {j : Nat} (hj : j < n) : msR (A (mO j)) (A (mS j)) ≤ 3584000 := by
  have := TM_ge I.m.mi (Nat.le_refl n) hj; have := I.m.tm; have := I.c5; omega
theorem MI.bd {n : Nat} {o s : Nat → Int32} (h : MI n o s) : 0 ≤ si s 40 ∧ 5 * (o 4).toInt ≤ msR o s ∧ (o 5).toInt ≤ msR o s ∧ (o 6).toInt ≤ msR o s ∧ (o 7).toInt ≤ msR o s ∧ si s 40 ≤ msR o s ∧ (o 5).toInt + si s 40 ≤ msR o s ∧ (o 5).toInt + si s 40 + (o 6).toInt ≤ msR o s := by
  have := si_nn h.ps; have := h.p4; have := h.p5; have := h.p6; have := h.p7
  unfold msR; omega
/-- only one side's rows count -/
theorem Iv.congr {n c : Nat} {A A' : Mem} (I : Iv c n A) (h : ∀ i, ¬ mdr i → A' i = A i) : Iv c n A' := by
  have e : ∀ i, i < 9 → A' i = A i := fun i hi => h i (by unfold mdr; omega)
  have eO : ∀ j, A' (mO j) = A (mO j) := fun j => h _ (by unfold mdr mO; omega)
  have eS : ∀ j, A' (mS j) = A (mS j) := fun j => h _ (by unfold mdr mS; omega)
  have g := I.g
  refine ⟨I.n10, I.c5, ?_, ⟨fun j hj => by rw [eO, eS]; exact I.m.mi j hj, ?_⟩⟩
  · refine ⟨?_, ?_, ?_, ?_, ?_, ?_, ?_, ?_, ?_, ?_, ?_, ?_, ?_, ?_, ?_⟩
    all_goals simp only [e 0 (by omega), e 2 (by omega), e 4 (by omega), e 5 (by omega), e 6 (by omega)]
    · exact g.d
    · exact g.ck
    · exact g.ed
    · exact g.pd
    · exact g.li
    · exact g.dc
    · exact g.ob
    · exact g.st
    · exact g.cl
    · exact g.fu
    · exact g.te
    · exact g.t0
    · exact g.q4
    · exact g.q5
    · exact g.la
  · rw [TM_congr (fun j hj => by rw [eO, eS])]; exact I.m.tm
def Cl (n c : Nat) (ts : List String) (P Q : Mem) (o m : Out) : Prop := ∃ (x2 : Int32) (M2 : Mem), m = rI x2 M2 ∧ oki ts o ∧ M2 9 29 = cdo ts o ∧ (∀ (x : Int32) (N : Mem), o = rI x N → x = x2) ∧ RR n P Q (M2 9 29) o.2 M2 ∧ Iv (c + 1) n o.2
def Sim (n c : Nat) (ts : List String) (oc om : Mem → Out) : Prop := ∀ (P Q A B : Mem), RR n P Q (B 9 29) A B → Iv c n A → Cl n c ts P Q (oc A) (om B)
def SS (c n : Nat) (M : Mem) : Prop := RR n M M (M 9 29) M M ∧ Iv c n M
theorem Sim.step {n c : Nat} {ts : List String} {oc om : Mem → Out} (h : Sim n c ts oc om) {M : Mem} (s : SS c n M) : RR n M (oc M).2 ((oc M).2 9 29) M (oc M).2 ∧ ∃ (x2 : Int32) (M2 : Mem), om (oc M).2 = rI x2 M2 ∧ oki ts (oc M) ∧ M2 9 29 = cdo ts (oc M) ∧ (∀ (x : Int32) (N : Mem), oc M = rI x N → x = x2) ∧ SS (c + 1) n M2 := by
  obtain ⟨hr, hi⟩ := s
  obtain ⟨x0, M0, -, -, -, -, h0, -⟩ := h _ _ _ _ hr hi
  have e := h0.fa
  have r : RR n M (oc M).2 ((oc M).2 9 29) M (oc M).2 := by
    refine ⟨fun i k i' k' p => ?_, fun i _ k => rfl, fun i _ k => rfl, ?_, fun i k p => ?_, rfl⟩
    · rw [e _ p.rows.2.1]; exact hr.pr _ _ _ _ p
    · rw [e _ (by unfold mdr; omega)]; exact hr.nn
    · rw [e _ (by unfold Frz at p; obtain ⟨j, hj, q⟩ := p; unfold mdr; omega)]; exact hr.fz _ _ p
  obtain ⟨x2, M2, a1, a2, a3, a4, a5, a6⟩ := h _ _ _ _ r hi
  have f : ∀ i, ¬ mdr i → M2 i = (oc M).2 i := fun i hi => funext fun k => a5.fb i hi k
  exact ⟨r, x2, M2, a1, a2, a3, a4, ⟨fun i k i' k' p => by rw [a5.pr _ _ _ _ p, f _ p.rows.1], fun _ _ _ => rfl, fun _ _ _ => rfl, a5.nn, a5.fz, rfl⟩, a6.congr f⟩
theorem Iv.next {n c : Nat} {A : Mem} (I : Iv c n A) (hc : c < 512) : Iv (c + 1) n A := by
  have g := I.g
  have fu := g.fu
  refine ⟨I.n10, by omega, ⟨g.d, g.ck, g.ed, g.pd, g.li, g.dc, g.ob, g.st, g.cl, by omega, g.te, g.t0, g.q4, g.q5, g.la⟩, ⟨I.m.mi, ?_⟩⟩
  have := I.m.tm; omega
theorem Cl.thr {n c : Nat} {ts : List String} {P Q : Mem} {Ex : String} {code v z : Int32} {A B : Mem} (hc : c < 512) (h : RR n P Q z A B) (I : Iv c n A) (h1 : Ex ∈ ts) (h2 : code = nI (ts.idxOf Ex + 1)) : Cl n c ts P Q (rX Ex A) (mo B code v) :=
  ⟨v, up B 9 29 code, rfl, Or.inr ⟨Ex, A, h1, rfl⟩, by rw [up_same, h2]; rfl, (fun x N e => by cases e), (by rw [up_same]; exact h.ml code), I.next hc⟩
theorem Cl.ok {n c : Nat} {ts : List String} {P Q : Mem} {x x2 : Int32} {A B : Mem} (h : RR n P Q 0 A B) (I : Iv (c + 1) n A) (e : x2 = x) : Cl n c ts P Q (rI x A) (rI x2 B) :=
  ⟨x2, B, rfl, Or.inl ⟨x, A, rfl⟩, by rw [h.cd]; rfl, (fun y N q => by cases q; exact e.symm), (by rw [h.cd]; exact h), I⟩
end MathB
section MathC
theorem GI.u0 {c : Nat} {A : Mem} (g : GI c A) (k : Nat) (v : Int32)
    (h1 : k = 1 → 0 ≤ v.toInt ∧ v.toInt ≤ 50 := by intro h; exact absurd h (by decide))
    (h2 : k = 2 → isB v := by intro h; exact absurd h (by decide))
    (h3 : k = 3 → edG v := by intro h; exact absurd h (by decide))
    (h6 : k = 6 → ∃ p : Nat, p ≤ 40 ∧ v = nI p := by intro h; exact absurd h (by decide))
    (h9 : k = 9 → 0 ≤ v.toInt ∧ v.toInt ≤ 1000 := by intro h; exact absurd h (by decide))
    (h10 : k = 10 → 0 ≤ v.toInt ∧ v.toInt ≤ 90 := by intro h; exact absurd h (by decide))
    (h12 : k = 12 → isB v := by intro h; exact absurd h (by decide))
    (h14 : k = 14 → isB v := by intro h; exact absurd h (by decide))
    (h15 : k = 15 → isB v := by intro h; exact absurd h (by decide))
    (h16 : k = 16 → 0 ≤ v.toInt ∧ v.toInt ≤ 1000 * c := by intro h; exact absurd h (by decide)) : GI c (up A 0 k v) := by
  have e2 : up A 0 k v 2 = A 2 := up_row (by decide)
  have e4 : up A 0 k v 4 = A 4 := up_row (by decide)
  have e5 : up A 0 k v 5 = A 5 := up_row (by decide)
  have e6 : up A 0 k v 6 = A 6 := up_row (by decide)
  have f : ∀ j, up A 0 k v 0 j = if j = k then v else A 0 j := fun j => by rw [up_r, if_pos rfl]
  refine ⟨?_, ?_, ?_, ?_, ?_, ?_, ?_, ?_, ?_, ?_, ?_, ?_, ?_, ?_, ?_⟩
  all_goals try simp only [e2, e4, e5, e6, f]
  · split
    · exact h1 (by omega)
    · exact g.d
  · split
    · exact h2 (by omega)
    · exact g.ck
  · split
    · exact h3 (by omega)
    · exact g.ed
  · split
    · exact h6 (by omega)
    · exact g.pd
  · split
    · exact h9 (by omega)
    · exact g.li
  · split
    · exact h10 (by omega)
    · exact g.dc
  · split
    · exact h12 (by omega)
    · exact g.ob
  · split
    · exact h14 (by omega)
    · exact g.st
  · split
    · exact h15 (by omega)
    · exact g.cl
  · split
    · exact h16 (by omega)
    · exact g.fu
  · exact g.te
  · exact g.t0
  · exact g.q4
  · exact g.q5
  · exact g.la
/-- rows that GI does not know of -/
theorem GI.oth {c : Nat} {A A' : Mem} (g : GI c A) (h0 : ∀ k, ¬ k = 13 → A' 0 k = A 0 k) (h : ∀ i, i = 2 ∨ i = 4 ∨ i = 5 ∨ i = 6 → A' i = A i) : GI c A' := by
  refine ⟨?_, ?_, ?_, ?_, ?_, ?_, ?_, ?_, ?_, ?_, ?_, ?_, ?_, ?_, ?_⟩
  all_goals try simp only [h0 1 (by decide), h0 2 (by decide), h0 3 (by decide), h0 6 (by decide), h0 9 (by decide), h0 10 (by decide), h0 12 (by decide), h0 14 (by decide), h0 15 (by decide), h0 16 (by decide), h 2 (by decide), h 4 (by decide), h 5 (by decide), h 6 (by decide)]
  · exact g.d
  · exact g.ck
  · exact g.ed
  · exact g.pd
  · exact g.li
  · exact g.dc
  · exact g.ob
  · exact g.st
  · exact g.cl
  · exact g.fu
  · exact g.te
  · exact g.t0
  · exact g.q4
  · exact g.q5
  · exact g.la
theorem GI.ur {c : Nat} {A : Mem} (g : GI c A) (i k : Nat) (v : Int32) (hi : ¬ i = 0)
    (h2 : i = 2 → k < 5 → 0 ≤ v.toInt ∧ v.toInt ≤ 100 := by intro h; exact absurd h (by decide))
    (h20 : i = 2 → k = 0 → v.toInt ≤ 50 := by intro h; exact absurd h (by decide))
    (h4 : i = 4 → 1 ≤ v.toInt ∧ v.toInt ≤ 100 := by intro h; exact absurd h (by decide))
    (h5 : i = 5 → 1 ≤ v.toInt ∧ v.toInt ≤ 100 := by intro h; exact absurd h (by decide))
    (h6 : i = 6 → isB v := by intro h; exact absurd h (by decide)) : GI c (up A i k v) := by
  have e0 : up A i k v 0 = A 0 := up_row (fun q => hi q.symm)
  refine ⟨?_, ?_, ?_, ?_, ?_, ?_, ?_, ?_, ?_, ?_, ?_, ?_, ?_, ?_, ?_⟩
  all_goals try simp only [e0]
  · exact g.d
  · exact g.ck
  · exact g.ed
  · exact g.pd
  · exact g.li
  · exact g.dc
  · exact g.ob
  · exact g.st
  · exact g.cl
  · exact g.fu
  · intro j hj
    rw [up_r]; split
    · split
      · exact h2 (by omega) (by omega)
      · subst_vars; exact g.te j hj
    · exact g.te j hj
  · rw [up_r]; split
    · split
      · exact h20 (by omega) (by omega)
      · subst_vars; exact g.t0
    · exact g.t0
  · intro j hj
    rw [up_r]; split
    · split
      · exact h4 (by omega)
      · subst_vars; exact g.q4 j hj
    · exact g.q4 j hj
  · intro j hj
    rw [up_r]; split
    · split
      · exact h5 (by omega)
      · subst_vars; exact g.q5 j hj
    · exact g.q5 j hj
  · intro j hj
    rw [up_r]; split
    · split
      · exact h6 (by omega)
      · subst_vars; exact g.la j hj
    · exact g.la j hj
theorem MM.rows {n : Nat} {T : Int} {A A' : Mem} (h : MM n T A) (e : ∀ i, 28 ≤ i → A' i = A i) : MM n T A' := by
  have eO : ∀ j, A' (mO j) = A (mO j) := fun j => e _ (by unfold mO; omega)
  have eS : ∀ j, A' (mS j) = A (mS j) := fun j => e _ (by unfold mS; omega)
  refine ⟨fun j hj => by rw [eO, eS]; exact h.mi j hj, ?_⟩
  rw [TM_congr (fun j hj => by rw [eO, eS])]; exact h.tm
theorem MM.le {n : Nat} {T T' : Int} {A : Mem} (h : MM n T A) (e : T ≤ T') : MM n T' A := ⟨h.mi, Int.le_trans h.tm e⟩
theorem MM.one {n : Nat} {T T' : Int} {A A' : Mem} (h : MM n T A) {k : Nat} (hk : k < n) (hO : ∀ j, ¬ j = k → A' (mO j) = A (mO j)) (hS : ∀ j, ¬ j = k → A' (mS j) = A (mS j)) (hm : MI n (A' (mO k)) (A' (mS k))) (ht : T + (msR (A' (mO k)) (A' (mS k)) - msR (A (mO k)) (A (mS k))) ≤ T') : MM n T' A' := by
  refine ⟨fun j hj => ?_, ?_⟩
  · by_cases e : j = k
    · subst e; exact hm
    · rw [hO j e, hS j e]; exact h.mi j hj
  · rw [TM_one hk (A := A) (fun j hj e => by rw [hO j e, hS j e])]
    have := h.tm; omega
/-- one slot of a miner anew -/
theorem MI.o {n : Nat} {o s : Nat → Int32} (h : MI n o s) (k : Nat) (v : Int32)
    (h0 : k ≤ 2 → isB v := by intro h; exact absurd h (by decide))
    (h3 : k = 3 → kinOk n v := by intro h; exact absurd h (by decide))
    (h4 : 4 ≤ k → k ≤ 7 → 0 ≤ v.toInt := by intro h h'; exact absurd h (by decide))
    (h12 : ¬ k = 12 ∧ ¬ k = 13 := by decide) : MI n (upd o k v) s := by
  have f : ∀ j, upd o k v j = if j = k then v else o j := fun j => rfl
  refine ⟨?_, ?_, ?_, ?_, ?_, ?_, ?_, ?_, ?_, ?_⟩
  all_goals try simp only [f]
  · split
    · exact h0 (by omega)
    · exact h.b0
  · split
    · exact h0 (by omega)
    · exact h.b1
  · split
    · exact h0 (by omega)
    · exact h.b2
  · split
    · exact h3 (by omega)
    · exact h.k3
  · split
    · exact h4 (by omega) (by omega)
    · exact h.p4
  · split
    · exact h4 (by omega) (by omega)
    · exact h.p5
  · split
    · exact h4 (by omega) (by omega)
    · exact h.p6
  · split
    · exact h4 (by omega) (by omega)
    · exact h.p7
  · exact h.ps
  · rw [if_neg (by omega), if_neg (by omega)]; exact h.cw
theorem ms4 (o s : Nat → Int32) (v : Int32) : msR (upd o 4 v) s = msR o s + 5 * (v.toInt - (o 4).toInt) := by unfold msR upd; simp; omega
theorem ms5 (o s : Nat → Int32) (v : Int32) : msR (upd o 5 v) s = msR o s + (v.toInt - (o 5).toInt) := by unfold msR upd; simp; omega
theorem ms6 (o s : Nat → Int32) (v : Int32) : msR (upd o 6 v) s = msR o s + (v.toInt - (o 6).toInt) := by unfold msR upd; simp; omega
theorem ms7 (o s : Nat → Int32) (v : Int32) : msR (upd o 7 v) s = msR o s + (v.toInt - (o 7).toInt) := by unfold msR upd; simp; omega
theorem msX (o s : Nat → Int32) (k : Nat) (v : Int32) (h : ¬ (4 ≤ k ∧ k ≤ 7) := by decide) : msR (upd o k v) s = msR o s := by
  unfold msR upd; rw [if_neg (by omega), if_neg (by omega), if_neg (by omega), if_neg (by omega)]
theorem MM.o {n : Nat} {T T' : Int} {A : Mem} (h : MM n T A) {k : Nat} (hk : k < n) (s : Nat) (v : Int32) (hm : MI n (upd (A (mO k)) s v) (A (mS k))) (ht : T + (msR (upd (A (mO k)) s v) (A (mS k)) - msR (A (mO k)) (A (mS k))) ≤ T') : MM n T' (up A (mO k) s v) := by
  have e1 : up A (mO k) s v (mO k) = upd (A (mO k)) s v := up_own _ _ _ _
  have e2 : up A (mO k) s v (mS k) = A (mS k) := up_row (by unfold mO mS; omega)
  refine h.one hk (fun j e => up_row (by unfold mO; omega)) (fun j e => up_row (by unfold mO mS; omega)) ?_ ?_
  · rw [e1, e2]; exact hm
  · rw [e1, e2]; exact ht
theorem Iv.glob {n c : Nat} {A : Mem} (I : Iv c n A) {i k : Nat} {v : Int32} (hi : i < 28) (g : GI c (up A i k v)) : Iv c n (up A i k v) := ⟨I.n10, I.c5, g, I.m.rows (fun j hj => up_row (by omega))⟩
theorem Iv.mo {n c c' : Nat} {A : Mem} (I : Iv c n A) (hc : c' = c ∨ c' = c + 1) (h5 : c' ≤ 512) {k : Nat} {s : Nat} {v : Int32} (m : MM n (7000 * c') (up A (mO k) s v)) : Iv c' n (up A (mO k) s v) := by
  refine ⟨I.n10, h5, ?_, m⟩
  have g : GI c' A := by
    have g := I.g
    have fu := g.fu
    exact ⟨g.d, g.ck, g.ed, g.pd, g.li, g.dc, g.ob, g.st, g.cl, by rcases hc with rfl | rfl <;> omega, g.te, g.t0, g.q4, g.q5, g.la⟩
  exact g.oth (fun j hj => by rw [up_row (by unfold mO; omega)]) (fun i hi => up_row (by unfold mO; omega))
theorem rng {x lo hi : Int32} (h : ¬ (x < lo ∨ hi < x)) : lo.toInt ≤ x.toInt ∧ x.toInt ≤ hi.toInt := by rw [lti, lti] at h; omega
end MathC
