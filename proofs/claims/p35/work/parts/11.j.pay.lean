/-! A miner's payday, in the law and in the class. -/
section LawK
theorem SRP.c3 {A A' L : Mem} (h : SRP A L) (e : ∀ i, ¬ i = 3 → A' i = A i) : SRP A' L := by
  refine ⟨fun i k i' k' p => ?_, fun j hj => ?_, fun j hj => ?_, fun j i hj h1 h2 => ?_⟩
  · rw [e i (by unfold Pq at p; omega)]; exact h.pr _ _ _ _ p
  · rw [e (mO j) (by unfold mO; omega)]; exact h.ki j hj
  · rw [e 6 (by decide)]; exact h.la j hj
  · rw [e (mS j) (by unfold mS; omega)]; exact h.fz j i hj h1 h2
abbrev QL (A : Mem) (k : Nat) (N : Mem) (T : Mem × Int32 × Int32) : Prop := SRP (Zb A k (rent A k - N 3 1) (A (mO k) 6 - N 3 2)) T.1 ∧ N 3 0 = T.2.1 ∧ N 3 3 = T.2.2 ∧ LC T.1
theorem psX_min {v x : Int32} : psX v x = if v ≤ x then v else x := by
  unfold psX
  by_cases h : x ≤ v
  · rw [if_pos h]
    by_cases h2 : v ≤ x
    · rw [if_pos h2]; rw [lei] at h h2; rw [eqi]; omega
    · rw [if_neg h2]
  · rw [if_neg h, if_pos (by rw [lei]; rw [lei] at h; omega)]
theorem psX_0 {x : Int32} (h : 0 ≤ x.toInt) : psX 0 x = 0 := by
  rw [psX_min, if_pos (by rw [lei]; exact h)]
theorem ql_res {c : Nat} {P Q : Mem} {z : Int32} {A : Mem} (I : Iv c 5 A) {k : Nat} (hk : k < 5) {N : Mem} {S : Mem × Int32 × Int32} {seen : List Nat} (p : PS 5 P Q z A k N S seen) {pl : Int32} {d : Nat} (hd : A 0 3 / pl - A 0 3 / pl / 10 * 10 = nI d) (h5 : d ≤ 5) (hs : d ∈ seen → d = 0) {t : Int32} (ht : t = psX (psD S.1 k (rent A k) d) S.2.1) : stepM N k pl 3 0 = N 3 0 - t ∧ stepM N k pl 3 3 = N 3 3 + (if 2 < d then t else 0) ∧ rent A k - stepM N k pl 3 1 = rent A k - N 3 1 - (if d = 1 then t else 0) ∧ A (mO k) 6 - stepM N k pl 3 2 = A (mO k) 6 - N 3 2 - (if d = 5 then t else 0) := by
  have p' := ps_step I hk p hd h5 hs (rent_bd I hk).2.2
  have za : ∀ a b, Zb A k a b (mO k) 7 = a := fun a b => by unfold Zb; rw [up_oth (by decide), up_same]
  have zb : ∀ a b, Zb A k a b (mO k) 6 = b := fun a b => by unfold Zb; rw [up_same]
  refine ⟨?_, ?_, ?_, ?_⟩
  · rw [p'.lf, ht, p.lf]; rfl
  · rw [p'.tk, ht, p.tk]; rfl
  · have e := p'.rr.ar hk
    have e0 := p.rr.ar hk
    rw [za] at e e0
    rw [← e, ← e0, ht]
    show psM S.1 k d (rent A k) S.2.1 16 k = _
    unfold psM psB psA
    rw [up_row (by decide), up_same]
  · have e := p'.rr.de hk
    have e0 := p.rr.de hk
    rw [zb] at e e0
    rw [← e, ← e0, ht]
    show psM S.1 k d (rent A k) S.2.1 15 k = _
    unfold psM psB psA
    rw [up_same, up_row (by decide)]
theorem LC.tk {L : Mem} (h : LC L) {k d : Nat} {v : Int32} : LC (tkB L k d v) := by
  unfold tkB tkA
  exact (h.up_ (by decide) (fun _ j => by omega)).up_ (by decide) (fun _ j => by omega)
/-- a digit of the edition -/
theorem ql_step {c : Nat} {P Q : Mem} {z : Int32} {A : Mem} (I : Iv c 5 A) {k : Nat} (hk : k < 5) {N : Mem} {S : Mem × Int32 × Int32} {seen : List Nat} (p : PS 5 P Q z A k N S seen) {pl : Int32} {d : Nat} (hd : A 0 3 / pl - A 0 3 / pl / 10 * 10 = nI d) (h1 : 1 ≤ d) (h5 : d ≤ 5) (hs : d ∉ seen) {T : Mem × Int32 × Int32} (q : QL A k N T) : QL A k (stepM N k pl) (pyD T.1 k d T.2.1 T.2.2) := by
  obtain ⟨t, ht⟩ : ∃ t, t = psX (psD S.1 k (rent A k) d) S.2.1 := ⟨_, rfl⟩
  obtain ⟨a0, a3, a1, a2⟩ := ql_res I hk p hd h5 (fun w => absurd w hs) ht
  obtain ⟨q1, q2, q3, q4⟩ := q
  have zr : ∀ a b i, ¬ i = mO k → Zb A k a b i = A i := fun a b i hi => by unfold Zb; rw [up_row hi, up_row hi, up_row hi]
  have za : ∀ a b, Zb A k a b (mO k) 7 = a := fun a b => by unfold Zb; rw [up_oth (by decide), up_same]
  have zb : ∀ a b, Zb A k a b (mO k) 6 = b := fun a b => by unfold Zb; rw [up_same]
  have sp : spM S.1 = if A 0 12 = 0 then 0 else if A 6 1 = 0 then 0 else 1 := by
    unfold spM
    rw [p.rr.ob, p.rr.la (by decide), zr _ _ 0 (by unfold mO; omega), zr _ _ 6 (by unfold mO; omega)]
  have c20 : T.1 12 20 = A 0 12 := by rw [q1.g0 (k := 12) (by decide), zr _ _ 0 (by unfold mO; omega)]
  have l2 := (lw2 q1).1
  rw [zr _ _ 6 (by unfold mO; omega)] at l2
  have dI : (nI d).toInt = d := nI_toInt (by omega)
  have c1 : nI d = 1 ↔ d = 1 := by rw [eqi, dI]; have : (1 : Int32).toInt = 1 := rfl; omega
  have c5 : nI d = 5 ↔ d = 5 := by rw [eqi, dI]; have : (5 : Int32).toInt = 5 := rfl; omega
  have c3 : nI d < 3 ↔ d < 3 := by rw [lti, dI]; have : (3 : Int32).toInt = 3 := rfl; omega
  have c2 : nI d ≤ 2 ↔ ¬ 2 < d := by rw [lei, dI]; have : (2 : Int32).toInt = 2 := rfl; omega
  have w1 : d = 1 → N 3 1 = 0 := fun q => p.s1 (fun w => hs (q ▸ w))
  have b0 := p.b0
  rw [p.lf] at b0
  have x4 : T.1 9 (12 * k + 4) = rent A k - N 3 1 := by rw [q1.mi (s := 7) (o := 4) hk (by decide), za]
  have x3 : T.1 9 (12 * k + 3) = A (mO k) 6 - N 3 2 := by rw [q1.mi (s := 6) (o := 3) hk (by decide), zb]
  -- what's due, in the law
  have due : ¬ (3 ≤ d ∧ ¬ A 0 12 = 0 ∧ ¬ A 6 1 = 0) → psD S.1 k (rent A k) d = tkD T.1 k d := by
    intro hn
    have te : ∀ s, s < 5 → T.1 12 s = S.1 23 s := fun s hs => by rw [q1.te hs, p.rr.te hs]
    have sp0 : 3 ≤ d → spM S.1 = 0 := fun h3 => by
      rw [sp]
      by_cases u1 : A 0 12 = 0
      · rw [if_pos u1]
      · rw [if_neg u1]
        by_cases u2 : A 6 1 = 0
        · rw [if_pos u2]
        · exact absurd ⟨h3, u1, u2⟩ hn
    unfold tkD
    have hc : d = 1 ∨ d = 2 ∨ d = 3 ∨ d = 4 ∨ d = 5 := by omega
    rcases hc with e | e | e | e | e
    · rw [if_pos (c1.mpr e), x4, w1 e, e]; show rent A k = _; grind
    · rw [if_neg (fun w => by rw [c1] at w; omega), if_neg (fun w => by rw [c5] at w; omega), e, te 2 (by decide)]; rfl
    · rw [if_neg (fun w => by rw [c1] at w; omega), if_neg (fun w => by rw [c5] at w; omega), e, te 3 (by decide)]
      show (if spM S.1 = 0 then S.1 23 3 else 0) = _
      rw [sp0 (by omega), if_pos rfl]
    · rw [if_neg (fun w => by rw [c1] at w; omega), if_neg (fun w => by rw [c5] at w; omega), e, te 4 (by decide)]
      show (if spM S.1 = 0 then S.1 23 4 else 0) = _
      rw [sp0 (by omega), if_pos rfl]
    · rw [if_neg (fun w => by rw [c1] at w; omega), if_pos (c5.mpr e), x3, e]
      show (if spM S.1 = 0 then S.1 15 k else 0) = _
      rw [sp0 (by omega), if_pos rfl, p.rr.de hk, zb]
  -- taken
  have took : tkT T.1 k d T.2.1 = t → QL A k (stepM N k pl) (pyT T.1 k d T.2.1 T.2.2) := by
    intro e
    unfold pyT
    rw [e]
    refine ⟨?_, ?_, ?_, q4.tk⟩
    · show SRP _ (tkB T.1 k d t)
      unfold tkB tkA
      have k1 := q1.pw (pqO hk (s := 7) (o := 4) (by decide)) (v := rent A k - stepM N k pl 3 1) (v' := T.1 9 (12 * k + 4) - (if nI d = 1 then t else 0)) (by
        rw [x4, a1]
        by_cases u : d = 1
        · rw [if_pos u, if_pos (c1.mpr u)]
        · rw [if_neg u, if_neg (fun w => u (c1.mp w))])
      have k2 := k1.pw (pqO hk (s := 6) (o := 3) (by decide)) (v := A (mO k) 6 - stepM N k pl 3 2) (v' := up T.1 9 (12 * k + 4) (T.1 9 (12 * k + 4) - (if nI d = 1 then t else 0)) 9 (12 * k + 3) - (if nI d = 5 then t else 0)) (by
        rw [up12 (by omega), x3, a2]
        by_cases u : d = 5
        · rw [if_pos u, if_pos (c5.mpr u)]
        · rw [if_neg u, if_neg (fun w => u (c5.mp w))])
      rw [Zb_id] at k2
      exact k2
    · show _ = T.2.1 - t
      rw [a0, q2]
    · show _ = T.2.2 + (if nI d ≤ 2 then 0 else t)
      rw [a3, q3]
      by_cases u : 2 < d
      · rw [if_pos u, if_neg (fun w => (c2.mp w) u)]
      · rw [if_neg u, if_pos (c2.mpr u)]
  have same : ¬ (3 ≤ d ∧ ¬ A 0 12 = 0 ∧ ¬ A 6 1 = 0) → tkT T.1 k d T.2.1 = t := by
    intro hn
    rw [ht, psX_min, due hn]
    unfold tkT
    rw [← q2, p.lf]
  unfold pyD
  by_cases h3 : d < 3
  · rw [if_pos (c3.mpr h3)]; exact took (same (fun w => by omega))
  rw [if_neg (fun w => h3 (c3.mp w)), c20]
  by_cases h4 : A 0 12 = 0
  · rw [if_pos h4]; exact took (same (fun w => w.2.1 h4))
  rw [if_neg h4]
  by_cases h6 : A 6 1 = 0
  · rw [if_pos (l2.mpr h6)]; exact took (same (fun w => w.2.2 h6))
  rw [if_neg (fun w => h6 (l2.mp w))]
  have t0 : t = 0 := by
    have : psD S.1 k (rent A k) d = 0 := by
      have s1 : ¬ spM S.1 = 0 := by rw [sp, if_neg h4, if_neg h6]; decide
      have hc : d = 3 ∨ d = 4 ∨ d = 5 := by omega
      rcases hc with e | e | e
      · rw [e]; show (if spM S.1 = 0 then S.1 23 3 else 0) = _; rw [if_neg s1]
      · rw [e]; show (if spM S.1 = 0 then S.1 23 4 else 0) = _; rw [if_neg s1]
      · rw [e]; show (if spM S.1 = 0 then S.1 15 k else 0) = _; rw [if_neg s1]
    rw [ht, this]
    exact psX_0 b0.1
  rw [t0] at a0 a1 a2 a3
  have z1 : ∀ (p : Prop) [Decidable p], (if p then (0 : Int32) else 0) = 0 := fun p _ => by split <;> rfl
  rw [z1, Int32.sub_zero] at a1 a2
  rw [z1, Int32.add_zero] at a3
  rw [Int32.sub_zero] at a0
  exact ⟨by rw [a1, a2]; exact q1, by rw [a0]; exact q2, by rw [a3]; exact q3, q4⟩
/-- a leading zero -/
theorem ql_zero {c : Nat} {P Q : Mem} {z : Int32} {A : Mem} (I : Iv c 5 A) {k : Nat} (hk : k < 5) {N : Mem} {S : Mem × Int32 × Int32} {seen : List Nat} (p : PS 5 P Q z A k N S seen) {pl : Int32} (hd : A 0 3 / pl - A 0 3 / pl / 10 * 10 = nI 0) {T : Mem × Int32 × Int32} (q : QL A k N T) : QL A k (stepM N k pl) T := by
  have b0 := p.b0
  rw [p.lf] at b0
  obtain ⟨a0, a3, a1, a2⟩ := ql_res I hk p hd (by decide) (fun _ => rfl) (t := 0) (psX_0 b0.1).symm
  rw [if_neg (by decide), Int32.sub_zero] at a1 a2
  rw [if_neg (by decide), Int32.add_zero] at a3
  rw [Int32.sub_zero] at a0
  obtain ⟨q1, q2, q3, q4⟩ := q
  exact ⟨by rw [a1, a2]; exact q1, by rw [a0]; exact q2, by rw [a3]; exact q3, q4⟩
end LawK
