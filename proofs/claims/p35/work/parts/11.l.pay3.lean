/-! A miner's payday to its end. -/
section LawN
/-- what a broken law adds -/
def bE (A : Mem) (j : Nat) (v w : Int32) : Int32 := if A 0 12 = 0 ∧ ¬ A 6 j = 0 ∧ ¬ v ≤ 0 then w else 0
theorem pyZ_eq {A N : Mem} (h : SRP A N) (k : Nat) (x y : Int32) : pyZ N k x y = up (up N 12 21 (N 12 21 + (bE A 0 x 1 + bE A 1 y 1))) 9 (12 * k + 6) (N 9 (12 * k + 6) + (bE A 0 x x + bE A 1 y y)) := by
  have c20 : N 12 20 = A 0 12 := h.g0 (by decide)
  have l1 := lw1 h
  have l2 := (lw2 h).2
  unfold pyZ
  rw [c20]
  by_cases h0 : A 0 12 = 0
  · rw [if_pos h0]
    have eU : ∀ a : Int32, (if pyU N x = 0 then 0 else a) = bE A 0 x a := fun a => by
      unfold pyU bE
      by_cases u1 : A 6 0 = 0
      · rw [if_neg (fun w => (l1.mp w) u1), if_pos rfl, if_neg (fun w => w.2.1 u1)]
      · rw [if_pos (l1.mpr u1)]
        by_cases u2 : x ≤ 0
        · rw [if_pos u2, if_pos rfl, if_neg (fun w => w.2.2 u2)]
        · rw [if_neg u2, if_neg (by decide), if_pos ⟨h0, u1, u2⟩]
    have eV : ∀ a : Int32, (if pyV N y = 0 then 0 else a) = bE A 1 y a := fun a => by
      unfold pyV bE
      by_cases u1 : A 6 1 = 0
      · rw [if_neg (fun w => (l2.mp w) u1), if_pos rfl, if_neg (fun w => w.2.1 u1)]
      · rw [if_pos (l2.mpr u1)]
        by_cases u2 : y ≤ 0
        · rw [if_pos u2, if_pos rfl, if_neg (fun w => w.2.2 u2)]
        · rw [if_neg u2, if_neg (by decide), if_pos ⟨h0, u1, u2⟩]
    unfold pyY pyX
    rw [eU, eV, eU, eV, up_row (show ¬ 9 = 12 by decide)]
  · have z : ∀ j v w, bE A j v w = 0 := fun j v w => if_neg (fun q => h0 q.1)
    rw [if_neg h0, z, z, z, z, Int32.add_zero, Int32.add_zero, Int32.add_zero, up_id, up_id]
theorem set_R {c : Nat} {A L : Mem} (h : SRP A L) (lc : LC L) (I : Iv c 5 A) {k p : Nat} (hk : k < 5) (hp : p < 12) {r : Nat} (hr : A 0 3 = nI r) (hE : r ∈ ED) : SRP (setM A k p) (payL L k p r) ∧ (pyG L k r).2.1 = setM A k p (mO k) 9 ∧ LC (payL L k p r) := by
  obtain ⟨S, seen, p5, q1, q2, q3, q4⟩ := ql_ed h lc I hk hr hE
  have m := I.m.mi k hk
  have eR : o_due A k 1 = rent A k := by unfold o_due; rw [if_pos rfl]; rfl
  generalize hN : set5 A k = N at p5 q1 q2 q3
  have q7 : ∀ i, ¬ i = 3 → set7 (set6 N A k) k i = Zb A k (rent A k - N 3 1) (A (mO k) 6 - N 3 2) i := by
    intro i hi
    have x1 : set6 N A k 3 2 = N 3 2 := by unfold set6; rw [up_row (by unfold mO; omega)]
    have x2 : set6 N A k (mO k) 6 = A (mO k) 6 := by unfold set6; rw [up_oth (by decide), p5.n3 _ (by unfold mO; omega), up_oth (by decide)]
    unfold set7
    rw [x1, x2]
    unfold set6 Zb
    rw [eR]
    by_cases e : i = mO k
    · subst e; rw [up_own, up_own, up_own, up_own, p5.n3 _ hi]
    · rw [up_row e, up_row e, up_row e, up_row e, p5.n3 _ hi]
  have q73 : ∀ s, set7 (set6 N A k) k 3 s = N 3 s := fun s => by unfold set7 set6; rw [up_row (by unfold mO; omega), up_row (by unfold mO; omega)]
  unfold payL
  generalize hT : pyG L k r = T at *
  obtain ⟨T1, x, y⟩ := T
  dsimp only at q1 q2 q3 q4 ⊢
  have eM : setM A k p = setF (handM (breachM (set7 (set6 N A k) k) k 1 y) k p x) k := by
    unfold setM set9 set8
    rw [hN, br_r _ _ _ _ 3 0 (by decide) (by unfold mO; omega), q73, q73, q2, q3]
  generalize hN7 : set7 (set6 N A k) k = N7 at q7 eM
  have zr : ∀ i, ¬ i = mO k → Zb A k (rent A k - N 3 1) (A (mO k) 6 - N 3 2) i = A i := fun i hi => by unfold Zb; rw [up_row hi, up_row hi, up_row hi]
  have z2 : N7 2 = A 2 := by rw [q7 2 (by decide), zr _ (by unfold mO; omega)]
  have z0 : N7 0 = A 0 := by rw [q7 0 (by decide), zr _ (by unfold mO; omega)]
  have z1 : N7 (mO k) 1 = A (mO k) 1 := by rw [q7 _ (by unfold mO; omega)]; unfold Zb; rw [up_oth (by decide), up_oth (by decide), up_oth (by decide)]
  have te1 := I.g.te 1 (by decide)
  have bb1 : isB (N7 (mO k) 1) := by rw [z1]; exact m.b1
  have fe := fin_eq N7 k p x y bb1 (by rw [z2]; exact te1.1)
  rw [fe] at eM
  rw [eM]
  have r7 : SRP N7 T1 := q1.c3 q7
  -- the house
  have k1 : SRP (up N7 (mO k) 1 (hvv N7 k)) (pyH T1 k) := by
    refine r7.pw (pqO hk (s := 1) (o := 5) (by decide)) ?_
    rw [r7.te (show 1 < 5 by decide), r7.mi (s := 1) (o := 5) hk (by decide), r7.mi (s := 7) (o := 4) hk (by decide)]
    unfold hvv
    have t1 : 0 ≤ (N7 2 1).toInt := by rw [z2]; exact te1.1
    by_cases h1 : N7 2 1 ≤ 0
    · have : N7 2 1 = 0 := by rw [lei, i0] at h1; rw [eqi, i0]; omega
      rw [if_pos h1, if_pos this]
      rcases bb1 with b | b <;> rw [b] <;> rfl
    · have : ¬ N7 2 1 = 0 := fun q => h1 (by rw [q]; decide)
      rw [if_neg h1, if_neg this]
      by_cases h2 : N7 (mO k) 7 ≤ 3 * N7 2 1
      · rw [if_pos h2, if_neg (Int32.not_lt.mpr h2)]
        rcases bb1 with b | b <;> rw [b] <;> rfl
      · rw [if_neg h2, if_pos (Int32.not_le.mp h2)]
        rcases bb1 with b | b <;> rw [b] <;> rfl
  -- how it is handed out
  obtain ⟨qq, hq⟩ : ∃ q, q = pyQ (pyH T1 k) := ⟨_, rfl⟩
  have o1 : ∀ i, ¬ i = mO k → up N7 (mO k) 1 (hvv N7 k) i = N7 i := fun i hi => up_row hi
  have hq2 : (qq = 0) ↔ (N7 0 12 = 0 ∨ N7 6 0 = 0) := by
    have l1 := lw1 k1
    rw [o1 6 (by unfold mO; omega)] at l1
    have c20 : pyH T1 k 12 20 = N7 0 12 := by rw [k1.g0 (k := 12) (by decide), o1 0 (by unfold mO; omega)]
    rw [hq]
    unfold pyQ
    rw [c20]
    have ob : isB (N7 0 12) := by rw [z0]; exact I.g.ob
    rcases ob with b | b
    · rw [if_neg (by rw [b]; decide)]; exact ⟨fun _ => Or.inl b, fun _ => rfl⟩
    · rw [if_pos b]
      by_cases u : N7 6 0 = 0
      · rw [if_neg (fun w => (l1.mp w) u)]; exact ⟨fun _ => Or.inr u, fun _ => rfl⟩
      · rw [if_pos (l1.mpr u)]; exact ⟨fun w => absurd w (by decide), fun w => w.elim (fun w => absurd (b.symm.trans w) (by decide)) (fun w => absurd w u)⟩
  obtain ⟨u5, hu5⟩ : ∃ q, q = (if qq = 0 then 0 else x) := ⟨_, rfl⟩
  obtain ⟨us, hus⟩ : ∃ q, q = (if qq = 0 then x else 0) := ⟨_, rfl⟩
  have lcH : LC (pyH T1 k) := by unfold pyH; exact q4.up_ (by decide) (fun _ j => by omega)
  have eK : pyK (pyH T1 k) k p x = pyF (pyE (pyC (pyB (pyA (pyH T1 k) k x) k x qq) k p x qq) k x qq) x qq := by unfold pyK; rw [hq]
  rw [eK]
  generalize pyH T1 k = H at *
  generalize hK1 : up N7 (mO k) 1 (hvv N7 k) = K1 at *
  have n1 : ¬ mS k = mO k := by unfold mO mS; omega
  have n2 : ¬ 7 = mO k := by unfold mO; omega
  have n3 : ¬ 7 = mS k := by unfold mS; omega
  have n4 : ¬ 0 = mO k := by unfold mO; omega
  have n5 : ¬ 0 = mS k := by unfold mS; omega
  have n6 : ¬ mO k = 0 := by unfold mO; omega
  have n7 : ¬ mO k = 7 := by unfold mO; omega
  have n8 : ¬ mS k = 7 := by unfold mS; omega
  have n9 : ¬ mS k = 0 := by unfold mS; omega
  have na : ¬ mO k = mS k := by unfold mO mS; omega
  have nb : ¬ 6 = mO k := by unfold mO; omega
  have nc : ¬ 6 = mS k := by unfold mS; omega
  obtain ⟨K2, hK2⟩ : ∃ K, K = up K1 (mO k) 9 x := ⟨_, rfl⟩
  have k2 : SRP K2 (pyA H k x) := by rw [hK2]; exact k1.pw (pqO hk (s := 9) (o := 7) (by decide)) rfl
  obtain ⟨K3, hK3⟩ : ∃ K, K = up K2 (mO k) 5 (K2 (mO k) 5 + u5) := ⟨_, rfl⟩
  have k3 : SRP K3 (pyB (pyA H k x) k x qq) := by
    rw [hK3]
    exact k2.pw (pqO hk (s := 5) (o := 2) (by decide)) (by rw [← hu5, k2.mi (s := 5) (o := 2) hk (by decide)])
  obtain ⟨K4, hK4⟩ : ∃ K, K = up K3 (mS k) p (K3 (mS k) p + us) := ⟨_, rfl⟩
  have k4 : SRP K4 (pyC (pyB (pyA H k x) k x qq) k p x qq) := by
    rw [hK4]
    exact k3.pw (pqS hk hp) (by rw [← hus, k3.sc hk hp])
  have k4' : SRP K4 (pyE (pyC (pyB (pyA H k x) k x qq) k p x qq) k x qq) := k4.lw (Or.inl rfl)
  obtain ⟨K5, hK5⟩ : ∃ K, K = up K4 7 0 (K4 7 0 + us) := ⟨_, rfl⟩
  have k5 : SRP K5 (pyF (pyE (pyC (pyB (pyA H k x) k x qq) k p x qq) k x qq) x qq) := by
    rw [hK5]
    exact k4'.pw (pq7 (k := 0) (by decide)) (by rw [← hus, show 25 = 25 + 0 from rfl, k4'.bo (k := 0) (by decide)])
  have lcA : LC (pyB (pyA H k x) k x qq) := by
    unfold pyB pyA
    exact (lcH.up_ (by decide) (fun _ j => by omega)).up_ (by decide) (fun _ j => by omega)
  have lcF : LC (pyF (pyE (pyC (pyB (pyA H k x) k x qq) k p x qq) k x qq) x qq) := by
    unfold pyF
    exact (lcA.come hp _).up_ (by decide) (fun e => by omega)
  generalize pyF (pyE (pyC (pyB (pyA H k x) k x qq) k p x qq) k x qq) x qq = F at *
  rw [pyZ_eq k5]
  have r0 : ∀ s, K5 0 s = N7 0 s := fun s => by rw [hK5, up_row (by decide), hK4, up_row n5, hK3, up_row n4, hK2, up_row n4, ← hK1, up_row n4]
  have r6 : ∀ s, K5 6 s = N7 6 s := fun s => by rw [hK5, up_row (by decide), hK4, up_row nc, hK3, up_row nb, hK2, up_row nb, ← hK1, up_row nb]
  have eB : ∀ j v w, bE K5 j v w = bE N7 j v w := fun j v w => by unfold bE; rw [r0, r6]
  rw [eB, eB, eB, eB]
  have k6 := k5.pw (pq0 (k := 13) (k' := 21) (by decide)) (v := K5 0 13 + (bE N7 0 x 1 + bE N7 1 y 1)) (v' := F 12 21 + (bE N7 0 x 1 + bE N7 1 y 1)) (by rw [k5.g0 (k := 13) (by decide)])
  have k7 := k6.pw (pqO hk (s := 8) (o := 6) (by decide)) (v := K5 (mO k) 8 + (bE N7 0 x x + bE N7 1 y y)) (v' := F 9 (12 * k + 6) + (bE N7 0 x x + bE N7 1 y y)) (by rw [k5.mi (s := 8) (o := 6) hk (by decide)])
  have k8 := k7.o12 (j := k) (v := K5 (mO k) 12 + us)
  have fin : up (up (up K5 0 13 (K5 0 13 + (bE N7 0 x 1 + bE N7 1 y 1))) (mO k) 8 (K5 (mO k) 8 + (bE N7 0 x x + bE N7 1 y y))) (mO k) 12 (K5 (mO k) 12 + us) = Y5 N7 k p x y := by
    rw [hK5, hK4, hK3, hK2, ← hK1, hus, hu5]
    unfold Y5 Y4 Y3 Y1 bE
    generalize hvv N7 k = hv
    by_cases hS : N7 0 12 = 0 ∨ N7 6 0 = 0
    · rw [if_pos hS]
      have q0 := hq2.mpr hS
      simp only [if_pos q0]
      unfold gain
      simp only [br_up, up_r, n1, n2, n3, n4, n5, n6, n7, n8, n9, na, nb, nc, if_true, if_false]
      generalize mO k = a at *
      generalize mS k = b at *
      funext i s
      simp only [up_r]
      grind
    · rw [if_neg hS]
      have q0 : ¬ qq = 0 := fun w => hS (hq2.mp w)
      simp only [if_neg q0]
      simp only [br_up, up_r, n1, n2, n3, n4, n5, n6, n7, n8, n9, na, nb, nc, if_true, if_false]
      generalize mO k = a at *
      generalize mS k = b at *
      funext i s
      simp only [up_r]
      grind
  rw [fin] at k8
  refine ⟨k8, ?_, (lcF.up_ (by decide) (fun e => by omega)).up_ (by decide) (fun _ j => by omega)⟩
  rw [← fin, up_oth (by decide), up_oth (by decide), up_row n6, hK5, up_row n7, hK4, up_row na, hK3, up_oth (by decide), hK2, up_same]
end LawN
