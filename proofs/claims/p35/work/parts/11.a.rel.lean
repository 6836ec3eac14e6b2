/-! Class's cells and law's cells. -/
section LawA
def TC : List (Nat × Nat) := [(1, 13), (2, 14), (3, 15), (6, 16), (9, 17), (10, 18), (12, 20), (13, 21), (14, 22), (15, 23), (16, 24)]
def TA : List (Nat × Nat) := [(0, 0), (1, 5), (2, 9), (4, 1), (5, 2), (6, 3), (7, 4), (8, 6), (9, 7)]
theorem TC_inj : ∀ a ∈ TC, ∀ b ∈ TC, (a.1 = b.1 ↔ a.2 = b.2) := by decide
theorem TA_inj : ∀ a ∈ TA, ∀ b ∈ TA, (a.1 = b.1 ↔ a.2 = b.2) := by decide
theorem TC_b : ∀ a ∈ TC, 13 ≤ a.2 ∧ a.2 < 25 ∧ a.2 ≠ 19 := by decide
theorem TA_b : ∀ a ∈ TA, a.2 < 10 ∧ a.2 ≠ 8 ∧ a.1 < 10 ∧ a.1 ≠ 3 := by decide
def Pq (i k i' k' : Nat) : Prop :=
  (i = 0 ∧ i' = 12 ∧ (k, k') ∈ TC) ∨ (i = 2 ∧ i' = 12 ∧ k' = k ∧ k < 5) ∨ (i = 4 ∧ i' = 12 ∧ k' = 5 + k ∧ k < 4) ∨ (i = 5 ∧ i' = 12 ∧ k' = 9 + k ∧ k < 4) ∨ (i = 7 ∧ i' = 12 ∧ k' = 25 + k ∧ k < 6) ∨
  (∃ j o, j < 5 ∧ i = 28 + 3 * j ∧ i' = 9 ∧ (k, o) ∈ TA ∧ k' = 12 * j + o) ∨ (∃ j, j < 5 ∧ i = 29 + 3 * j ∧ i' = 11 ∧ k' = 4 * j + k ∧ k < 4) ∨ (∃ j, j < 5 ∧ i = 30 + 3 * j ∧ i' = 10 ∧ k' = 12 * j + k ∧ k < 12)
theorem Pq.inj {i k i' k' a b a' b' : Nat} (h : Pq i k i' k') (g : Pq a b a' b') : (a = i ∧ b = k) ↔ (a' = i' ∧ b' = k') := by
  unfold Pq at h g
  rcases h with h | h | h | h | h | ⟨j, o, h⟩ | ⟨j, h⟩ | ⟨j, h⟩ <;> rcases g with g | g | g | g | g | ⟨q, u, g⟩ | ⟨q, g⟩ | ⟨q, g⟩
  all_goals first
    | omega
    | (have := TC_inj _ h.2.2 _ g.2.2; simp only at this; omega)
    | (have := TC_b _ h.2.2; simp only at this; omega)
    | (have := TC_b _ g.2.2; simp only at this; omega)
    | (have := TA_inj _ h.2.2.2.1 _ g.2.2.2.1; have h1 := TA_b _ h.2.2.2.1; have h2 := TA_b _ g.2.2.2.1; simp only at this h1 h2; omega)
theorem Pq.rows {i k i' k' : Nat} (h : Pq i k i' k') : ¬ mdr i ∧ mdr i' ∧ ¬ i = 6 ∧ ¬ (i' = 12 ∧ k' = 19) ∧ (∀ j, ¬ (i' = 9 ∧ k' = 12 * j + 8)) ∧ (∀ j, ¬ (i' = 9 ∧ k' = 12 * j + 10)) ∧ (∀ j, ¬ (i' = 9 ∧ k' = 12 * j + 11)) ∧ (∀ j, ¬ (i = mO j ∧ k = 3)) ∧ (∀ j a, 12 ≤ a → ¬ (i = mS j ∧ k = a)) := by
  unfold Pq at h; unfold mdr mO mS
  rcases h with h | h | h | h | h | ⟨j, o, h⟩ | ⟨j, h⟩ | ⟨j, h⟩
  all_goals try (have hb := TC_b _ h.2.2; simp only at hb)
  all_goals try (have hb := TA_b _ h.2.2.2.1; simp only at hb)
  all_goals refine ⟨by omega, by omega, by omega, by omega, fun _ => by omega, fun _ => by omega, fun _ => by omega, fun _ => by omega, fun _ _ _ => by omega⟩
abbrev SRP (A L : Mem) : Prop := (∀ i k i' k', Pq i k i' k' → L i' k' = A i k) ∧ (∀ j, j < 5 → L 9 (12 * j + 8) = A (mO j) 3 + 1) ∧ (∀ j, j < 3 → A 6 j = L 12 19 >>> (nI j &&& 31) &&& 1) ∧ (∀ j i, j < 5 → 12 ≤ i → i < 40 → A (mS j) i = 0)
theorem SRP.pr {A L : Mem} (h : SRP A L) : ∀ i k i' k', Pq i k i' k' → L i' k' = A i k := h.1
theorem SRP.ki {A L : Mem} (h : SRP A L) : ∀ j, j < 5 → L 9 (12 * j + 8) = A (mO j) 3 + 1 := h.2.1
theorem SRP.la {A L : Mem} (h : SRP A L) : ∀ j, j < 3 → A 6 j = L 12 19 >>> (nI j &&& 31) &&& 1 := h.2.2.1
theorem SRP.fz {A L : Mem} (h : SRP A L) : ∀ j i, j < 5 → 12 ≤ i → i < 40 → A (mS j) i = 0 := h.2.2.2
theorem SRP.ca {A A' L : Mem} (h : SRP A L) (e : ∀ i, ¬ mdr i → A' i = A i) : SRP A' L := by
  refine ⟨fun i k i' k' p => ?_, fun j hj => ?_, fun j hj => ?_, fun j i hj h1 h2 => ?_⟩
  · rw [e i p.rows.1]; exact h.pr _ _ _ _ p
  · rw [e (mO j) (by unfold mdr mO; omega)]; exact h.ki j hj
  · rw [e 6 (by unfold mdr; omega)]; exact h.la j hj
  · rw [e (mS j) (by unfold mdr mS; omega)]; exact h.fz j i hj h1 h2
theorem SRP.lb {A L L' : Mem} (h : SRP A L) (e : ∀ i, mdr i → L' i = L i) : SRP A L' := by
  refine ⟨fun i k i' k' p => ?_, fun j hj => ?_, fun j hj => ?_, h.fz⟩
  · rw [e i' p.rows.2.1]; exact h.pr _ _ _ _ p
  · rw [e 9 (by unfold mdr; omega)]; exact h.ki j hj
  · rw [e 12 (by unfold mdr; omega)]; exact h.la j hj
theorem SRP.pw {A L : Mem} (h : SRP A L) {i k i' k' : Nat} (p : Pq i k i' k') {v v' : Int32} (e : v' = v) : SRP (up A i k v) (up L i' k' v') := by
  subst e
  obtain ⟨r1, r2, r3, r4, r5, r6, r7, r8, r9⟩ := p.rows
  refine ⟨fun a b a' b' q => ?_, fun j hj => ?_, fun j hj => ?_, fun j a hj h1 h2 => ?_⟩
  · have := Pq.inj p q
    rw [up_r, up_r]
    by_cases e1 : a' = i' ∧ b' = k'
    · rw [if_pos e1.1, if_pos e1.2, if_pos (this.mpr e1).1, if_pos (this.mpr e1).2]
    · have e2 : ¬ (a = i ∧ b = k) := fun q => e1 (this.mp q)
      have f1 : (if a' = i' then (if b' = k' then v' else L i' b') else L a' b') = L a' b' := by
        by_cases u : a' = i'
        · rw [if_pos u, if_neg (fun w => e1 ⟨u, w⟩), u]
        · rw [if_neg u]
      have f2 : (if a = i then (if b = k then v' else A i b) else A a b) = A a b := by
        by_cases u : a = i
        · rw [if_pos u, if_neg (fun w => e2 ⟨u, w⟩), u]
        · rw [if_neg u]
      rw [f1, f2]; exact h.pr _ _ _ _ q
  · rw [up12 (fun q => r5 j ⟨q.1.symm, q.2.symm⟩), up12 (fun q => r8 j ⟨q.1.symm, q.2.symm⟩)]; exact h.ki j hj
  · rw [up_row (fun q => r3 q.symm), up12 (fun q => r4 ⟨q.1.symm, q.2.symm⟩)]; exact h.la j hj
  · rw [up12 (fun q => r9 j a h1 ⟨q.1.symm, q.2.symm⟩)]; exact h.fz j a hj h1 h2
/-- a write of the class alone, in no pair -/
theorem SRP.cw {A L : Mem} (h : SRP A L) {i k : Nat} {v : Int32} (hp : ∀ a b, ¬ Pq i k a b) (h6 : ¬ i = 6) (h3 : ∀ j, ¬ (i = mO j ∧ k = 3)) (hS : ∀ j, ¬ i = mS j) : SRP (up A i k v) L := by
  refine ⟨fun a b a' b' q => ?_, fun j hj => ?_, fun j hj => ?_, fun j a hj h1 h2 => ?_⟩
  · rw [up12 (fun w => hp a' b' (by rw [w.1, w.2] at q; exact q))]; exact h.pr _ _ _ _ q
  · rw [up12 (fun q => h3 j ⟨q.1.symm, q.2.symm⟩)]; exact h.ki j hj
  · rw [up_row (fun q => h6 q.symm)]; exact h.la j hj
  · rw [up_row (fun q => hS j q.symm)]; exact h.fz j a hj h1 h2
/-- a write of the law alone: what came, what went -/
theorem SRP.lw {A L : Mem} (h : SRP A L) {j o : Nat} {v : Int32} (ho : o = 10 ∨ o = 11) : SRP A (up L 9 (12 * j + o) v) := by
  refine ⟨fun a b a' b' q => ?_, fun q hq => ?_, fun q hq => ?_, h.fz⟩
  · obtain ⟨-, -, -, -, -, r6, r7, -, -⟩ := q.rows
    rw [up12 (fun w => by rcases ho with rfl | rfl; exact r6 j w; exact r7 j w)]; exact h.pr _ _ _ _ q
  · rw [up12 (fun w => by omega)]; exact h.ki q hq
  · rw [up_row (by decide)]; exact h.la q hq
/-- the pairs by their names -/
theorem pq0 {k k' : Nat} (h : (k, k') ∈ TC) : Pq 0 k 12 k' := Or.inl ⟨rfl, rfl, h⟩
theorem pq2 {k : Nat} (h : k < 5) : Pq 2 k 12 k := Or.inr (Or.inl ⟨rfl, rfl, rfl, h⟩)
theorem pq4 {k : Nat} (h : k < 4) : Pq 4 k 12 (5 + k) := Or.inr (Or.inr (Or.inl ⟨rfl, rfl, rfl, h⟩))
theorem pq5 {k : Nat} (h : k < 4) : Pq 5 k 12 (9 + k) := Or.inr (Or.inr (Or.inr (Or.inl ⟨rfl, rfl, rfl, h⟩)))
theorem pq7 {k : Nat} (h : k < 6) : Pq 7 k 12 (25 + k) := Or.inr (Or.inr (Or.inr (Or.inr (Or.inl ⟨rfl, rfl, rfl, h⟩))))
theorem pqO {j s o : Nat} (hj : j < 5) (h : (s, o) ∈ TA) : Pq (mO j) s 9 (12 * j + o) := Or.inr (Or.inr (Or.inr (Or.inr (Or.inr (Or.inl ⟨j, o, hj, rfl, rfl, h, rfl⟩)))))
theorem pqG {j g : Nat} (hj : j < 5) (h : g < 4) : Pq (mG j) g 11 (4 * j + g) := Or.inr (Or.inr (Or.inr (Or.inr (Or.inr (Or.inr (Or.inl ⟨j, hj, rfl, rfl, rfl, h⟩))))))
theorem pqS {j i : Nat} (hj : j < 5) (h : i < 12) : Pq (mS j) i 10 (12 * j + i) := Or.inr (Or.inr (Or.inr (Or.inr (Or.inr (Or.inr (Or.inr ⟨j, hj, rfl, rfl, rfl, h⟩))))))
theorem SRP.g0 {A L : Mem} (h : SRP A L) {k k' : Nat} (m : (k, k') ∈ TC) : L 12 k' = A 0 k := h.pr _ _ _ _ (pq0 m)
theorem SRP.te {A L : Mem} (h : SRP A L) {k : Nat} (m : k < 5) : L 12 k = A 2 k := h.pr _ _ _ _ (pq2 m)
theorem SRP.p4 {A L : Mem} (h : SRP A L) {k : Nat} (m : k < 4) : L 12 (5 + k) = A 4 k := h.pr _ _ _ _ (pq4 m)
theorem SRP.p5 {A L : Mem} (h : SRP A L) {k : Nat} (m : k < 4) : L 12 (9 + k) = A 5 k := h.pr _ _ _ _ (pq5 m)
theorem SRP.bo {A L : Mem} (h : SRP A L) {k : Nat} (m : k < 6) : L 12 (25 + k) = A 7 k := h.pr _ _ _ _ (pq7 m)
theorem SRP.mi {A L : Mem} (h : SRP A L) {j s o : Nat} (hj : j < 5) (m : (s, o) ∈ TA) : L 9 (12 * j + o) = A (mO j) s := h.pr _ _ _ _ (pqO hj m)
theorem SRP.al {A L : Mem} (h : SRP A L) {j : Nat} (hj : j < 5) : L 9 (12 * j) = A (mO j) 0 := h.mi (o := 0) hj (by decide)
theorem SRP.go {A L : Mem} (h : SRP A L) {j g : Nat} (hj : j < 5) (m : g < 4) : L 11 (4 * j + g) = A (mG j) g := h.pr _ _ _ _ (pqG hj m)
theorem SRP.sc {A L : Mem} (h : SRP A L) {j i : Nat} (hj : j < 5) (m : i < 12) : L 10 (12 * j + i) = A (mS j) i := h.pr _ _ _ _ (pqS hj m)
theorem sm_z {f : Nat → Int32} {a : Nat} (h : ∀ i, a ≤ i → i < 40 → f i = 0) : ∀ m, a ≤ m → m ≤ 40 → sm f m = sm f a := by
  intro m hm h4
  induction m with
  | zero => have : a = 0 := by omega
            subst this; rfl
  | succ m ih =>
    by_cases e : a = m + 1
    · subst e; rfl
    · have := ih (by omega) (by omega)
      show sm f m + f m = sm f a
      rw [this, h m (by omega) (by omega), Int32.add_zero]
theorem SRP.hs {A L : Mem} (h : SRP A L) {j : Nat} (hj : j < 5) : hasF L j = sm (A (mS j)) 40 := by
  rw [sm_z (a := 12) (fun i h1 h2 => h.fz j i hj h1 h2) 40 (by decide) (by decide)]
  unfold hasF
  exact sm_congr (fun i hi => h.sc hj hi)
/-- what came less what went is there -/
def LC (L : Mem) : Prop := ∀ j, j < 5 → L 9 (12 * j + 10) - L 9 (12 * j + 11) = hasF L j
theorem LC.cg {L L' : Mem} (h : LC L) (e9 : ∀ j, j < 5 → L' 9 (12 * j + 10) = L 9 (12 * j + 10) ∧ L' 9 (12 * j + 11) = L 9 (12 * j + 11)) (e : ∀ q, L' 10 q = L 10 q) : LC L' := by
  intro j hj
  rw [(e9 j hj).1, (e9 j hj).2, h j hj]
  unfold hasF
  exact sm_congr (fun i _ => (e _).symm)
theorem hasF_up {L : Mem} {j k i : Nat} (hi : i < 12) (v : Int32) : hasF (up L 10 (12 * k + i) v) j = if j = k then hasF L j + (v - L 10 (12 * k + i)) else hasF L j := by
  unfold hasF
  by_cases e : j = k
  · subst e
    rw [if_pos rfl, ← sm_upd hi v]
    refine sm_congr (fun q hq => ?_)
    unfold upd
    rw [up_r, if_pos rfl]
    by_cases e2 : q = i
    · subst e2; rw [if_pos rfl, if_pos rfl]
    · rw [if_neg (by omega), if_neg e2]
  · rw [if_neg e]
    refine sm_congr (fun q hq => ?_)
    rw [up12 (by omega)]
theorem hasF_row {L : Mem} {i k : Nat} {v : Int32} (h : ¬ i = 10) (j : Nat) : hasF (up L i k v) j = hasF L j := by
  unfold hasF
  rw [up_row (fun q => h q.symm)]
/-- scrip comes, and is told -/
theorem LC.come {L : Mem} (h : LC L) {k i : Nat} (hi : i < 12) (v : Int32) : LC (up (up L 10 (12 * k + i) (L 10 (12 * k + i) + v)) 9 (12 * k + 10) (up L 10 (12 * k + i) (L 10 (12 * k + i) + v) 9 (12 * k + 10) + v)) := by
  intro j hj
  rw [hasF_row (by decide), hasF_up hi, up_row (show ¬ 9 = 10 by decide)]
  have h0 := h j hj
  by_cases e : j = k
  · subst e
    rw [up_same, up12 (by omega), if_pos rfl, up_row (show ¬ 9 = 10 by decide)]
    grind
  · rw [up12 (b := 12 * j + 10) (by omega), up12 (b := 12 * j + 11) (by omega), if_neg e, up_row (show ¬ 9 = 10 by decide)]
    exact h0
/-- scrip goes, and is told -/
theorem LC.goes {L : Mem} (h : LC L) {k i : Nat} (hi : i < 12) {v w : Int32} (hw : w = L 10 (12 * k + i) - v) : LC (up (up L 10 (12 * k + i) v) 9 (12 * k + 11) (up L 10 (12 * k + i) v 9 (12 * k + 11) + w)) := by
  subst hw
  intro j hj
  rw [hasF_row (by decide), hasF_up hi, up_row (show ¬ 9 = 10 by decide)]
  have h0 := h j hj
  by_cases e : j = k
  · subst e
    rw [up_same, up12 (by omega), if_pos rfl, up_row (show ¬ 9 = 10 by decide)]
    grind
  · rw [up12 (b := 12 * j + 10) (by omega), up12 (b := 12 * j + 11) (by omega), if_neg e, up_row (show ¬ 9 = 10 by decide)]
    exact h0
theorem LC.up_ {L : Mem} (h : LC L) {i k : Nat} {v : Int32} (hi : ¬ i = 10) (hk : i = 9 → ∀ j, ¬ k = 12 * j + 10 ∧ ¬ k = 12 * j + 11) : LC (up L i k v) := by
  refine h.cg (fun j hj => ⟨?_, ?_⟩) (fun q => by rw [up_row (fun e => hi e.symm)])
  · exact up12 (fun q => (hk q.1.symm j).1 q.2.symm)
  · exact up12 (fun q => (hk q.1.symm j).2 q.2.symm)
/-- the six editions -/
def ED : List Nat := [12345, 54321, 0, 5, 2413, 31]
/-- the two agree -/
abbrev SR (c : Nat) (M : Mem) : Prop := (SRP M M) ∧ (LC M) ∧ (∃ p : Nat, p ≤ 12 ∧ M 0 6 = nI p) ∧ (∃ r : Nat, r ∈ ED ∧ M 0 3 = nI r) ∧ (Iv c 5 M)
theorem SR.s {c : Nat} {M : Mem} (h : SR c M) : SRP M M := h.1
theorem SR.lc {c : Nat} {M : Mem} (h : SR c M) : LC M := h.2.1
theorem SR.pd {c : Nat} {M : Mem} (h : SR c M) : ∃ p : Nat, p ≤ 12 ∧ M 0 6 = nI p := h.2.2.1
theorem SR.ed {c : Nat} {M : Mem} (h : SR c M) : ∃ r : Nat, r ∈ ED ∧ M 0 3 = nI r := h.2.2.2.1
theorem SR.iv {c : Nat} {M : Mem} (h : SR c M) : Iv c 5 M := h.2.2.2.2
/-- together again: the class's rows of A, the law's rows of L -/
theorem SR.mk_ {c : Nat} {K A L : Mem} (h : SRP A L) (hA : ∀ i, ¬ mdr i → K i = A i) (hL : ∀ i, mdr i → K i = L i) (lc : LC L) (pd : ∃ p : Nat, p ≤ 12 ∧ K 0 6 = nI p) (ed : ∃ r : Nat, r ∈ ED ∧ K 0 3 = nI r) (iv : Iv c 5 K) : SR c K :=
  ⟨(h.ca hA).lb hL, lc.cg (fun j _ => by rw [hL 9 (by unfold mdr; omega)]; exact ⟨rfl, rfl⟩) (fun q => by rw [hL 10 (by unfold mdr; omega)]), pd, ed, iv⟩
end LawA
section LawB
/-- the reference's memory that a class's memory has -/
def mir (A : Mem) : Mem := fun i k => match i with
  | 9 => (match k with | 0 => nI 5 | 18 => A 0 1 | 19 => A 0 2 | 20 => A 0 3 | 21 => A 0 6 | 22 => A 0 9 | 23 => A 0 10 | 24 => A 0 12 | 25 => A 0 13 | 26 => A 0 14 | 27 => A 0 15 | 28 => A 0 16 | _ => 0)
  | 10 => if k < 5 then A (mO k) 0 else 0
  | 11 => if k < 5 then A (mO k) 1 else 0
  | 12 => if k < 5 then A (mO k) 2 else 0
  | 13 => if k < 5 then A (mO k) 4 else 0
  | 14 => if k < 5 then A (mO k) 5 else 0
  | 15 => if k < 5 then A (mO k) 6 else 0
  | 16 => if k < 5 then A (mO k) 7 else 0
  | 17 => if k < 5 then A (mO k) 8 else 0
  | 18 => if k < 5 then A (mO k) 9 else 0
  | 19 => if k < 5 then A (mO k) 3 else 0
  | 20 => if k < 200 then A (mS (k / 40)) (k % 40) else 0
  | 21 => if k < 20 then A (mG (k / 4)) (k % 4) else 0
  | 23 => A 2 k
  | 24 => if k < 4 then A 4 k else A 5 (k - 4)
  | 25 => A 6 k
  | 26 => A 7 k
  | _ => 0
theorem mir_O {A : Mem} {j s i' : Nat} (hj : j < 5) (h : (s, i') ∈ T1) : mir A i' j = A (mO j) s := by
  unfold T1 at h
  simp only [List.mem_cons, Prod.mk.injEq, List.not_mem_nil, or_false] at h
  rcases h with ⟨rfl, rfl⟩ | ⟨rfl, rfl⟩ | ⟨rfl, rfl⟩ | ⟨rfl, rfl⟩ | ⟨rfl, rfl⟩ | ⟨rfl, rfl⟩ | ⟨rfl, rfl⟩ | ⟨rfl, rfl⟩ | ⟨rfl, rfl⟩ | ⟨rfl, rfl⟩ <;> exact if_pos hj
theorem mir_0 {A : Mem} {k k' : Nat} (h : (k, k') ∈ T0) : mir A 9 k' = A 0 k := by
  unfold T0 at h
  simp only [List.mem_cons, Prod.mk.injEq, List.not_mem_nil, or_false] at h
  rcases h with ⟨rfl, rfl⟩ | ⟨rfl, rfl⟩ | ⟨rfl, rfl⟩ | ⟨rfl, rfl⟩ | ⟨rfl, rfl⟩ | ⟨rfl, rfl⟩ | ⟨rfl, rfl⟩ | ⟨rfl, rfl⟩ | ⟨rfl, rfl⟩ | ⟨rfl, rfl⟩ | ⟨rfl, rfl⟩ <;> rfl
theorem mir_R (A : Mem) : RR 5 A (mir A) (mir A 9 29) A (mir A) := by
  refine ⟨fun i k i' k' p => ?_, fun _ _ _ => rfl, fun _ _ _ => rfl, rfl, fun i k q => ?_, rfl⟩
  · unfold Par at p
    rcases p with ⟨rfl, rfl, p⟩ | ⟨rfl, rfl, rfl, p⟩ | ⟨rfl, rfl, rfl, p⟩ | ⟨rfl, rfl, rfl, p⟩ | ⟨rfl, rfl, rfl, p⟩ | ⟨rfl, rfl, rfl, p⟩ | ⟨j, hj, rfl, rfl, p⟩ | ⟨j, hj, rfl, rfl, rfl, p⟩ | ⟨j, hj, rfl, rfl, rfl, p⟩
    · exact mir_0 p
    · rfl
    · exact if_pos p
    · show (if k + 4 < 4 then A 4 (k + 4) else A 5 (k + 4 - 4)) = A 5 k
      rw [if_neg (by omega), Nat.add_sub_cancel]
    · rfl
    · rfl
    · exact mir_O hj p
    · show (if 4 * j + k < 20 then A (mG ((4 * j + k) / 4)) ((4 * j + k) % 4) else 0) = A (29 + 3 * j) k
      rw [if_pos (by omega), show (4 * j + k) / 4 = j by omega, show (4 * j + k) % 4 = k by omega]
    · show (if 40 * j + k < 200 then A (mS ((40 * j + k) / 40)) ((40 * j + k) % 40) else 0) = A (30 + 3 * j) k
      rw [if_pos (by omega), show (40 * j + k) / 40 = j by omega, show (40 * j + k) % 40 = k by omega]
  · unfold Frz at q
    obtain ⟨j, hj, ⟨h1, h2, rfl⟩ | ⟨rfl, g, hg, rfl⟩ | ⟨rfl, g, hg, rfl⟩⟩ := q
    · have : i = 12 ∨ i = 13 ∨ i = 14 ∨ i = 15 ∨ i = 16 ∨ i = 17 ∨ i = 18 := by omega
      rcases this with rfl | rfl | rfl | rfl | rfl | rfl | rfl <;> exact if_neg (by omega)
    · exact if_neg (by omega)
    · exact if_neg (by omega)
/-- what a call leaves -/
theorem simI {c : Nat} {ts : List String} {o : Out} {om : Mem → Out} {M : Mem} (h : ∀ P Q B : Mem, RR 5 P Q (B 9 29) M B → Iv c 5 M → Cl 5 c ts P Q o (om B)) (I : Iv c 5 M) : Iv (c + 1) 5 o.2 ∧ ∀ i, mdr i → o.2 i = M i := by
  obtain ⟨x, M2, -, -, -, -, h5, h6⟩ := h _ _ _ (mir_R M) I
  exact ⟨h6, fun i hi => funext fun k => h5.fa i hi k⟩
theorem Iv.nx {c : Nat} {M : Mem} (I : Iv c 5 M) (hc : c < 512) : Iv (c + 1) 5 M := I.next hc
end LawB
