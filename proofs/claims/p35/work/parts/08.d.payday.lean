section MathH
theorem GI.nx {c : Nat} {A : Mem} (g : GI c A) : GI (c + 1) A := by
  have fu := g.fu
  exact ⟨g.d, g.ck, g.ed, g.pd, g.li, g.dc, g.ob, g.st, g.cl, by omega, g.te, g.t0, g.q4, g.q5, g.la⟩
theorem pay_R {n c : Nat} (hc : c < 512) (hn : n ≤ 10) {P Q : Mem} {z : Int32} {A B : Mem} (h : RR n P Q z A B) (g : GI c A) (mm : MM n (7000 * c) A) {p : Nat} (hp : p < 40) : ∀ j, j ≤ n →
    RR n P Q z (payS A p j).1 (pdS B p j).1 ∧ (payS A p j).2 = (pdS B p j).2 ∧ GI c (payS A p j).1 ∧ MM n (7000 * c + 100 * j) (payS A p j).1 ∧ (payS A p j).1 0 6 = A 0 6 := by
  intro j
  induction j with
  | zero => intro _; exact ⟨h, rfl, g, mm.le (by omega), rfl⟩
  | succ j ih =>
    intro hj
    obtain ⟨i1, i2, i3, i4, i5⟩ := ih (by omega)
    unfold payS pdS
    rw [i1.al (by omega)]
    by_cases h1 : (payS A p j).1 (mO j) 0 = 0
    · rw [if_pos h1, if_pos h1]; exact ⟨i1, i2, i3, i4.le (by omega), i5⟩
    rw [if_neg h1, if_neg h1]
    have I : Iv (c + 1) n (payS A p j).1 := ⟨hn, by omega, i3.nx, i4.le (by omega)⟩
    obtain ⟨s1, s2, s3, s4, s5⟩ := settle i1 I (k := j) (by omega) hp
    refine ⟨s1, ?_, s3.gi i3, s3.mm i4 (by omega) s4 (by omega), ?_⟩
    · show (payS A p j).2 + _ = (pdS B p j).2 + _
      rw [i2, s2]
    · show setM (payS A p j).1 j p 0 6 = A 0 6
      rw [s3.z 6 (by decide)]; exact i5
theorem mn_xx (x : Int32) : mn x x = x := by unfold mn; split <;> rfl
theorem lose_MI {n : Nat} {A : Mem} {k i : Nat} (m : MI n (A (mO k)) (A (mS k))) (hi : i < 40) : MI n (lose A k i (A (mS k) i) (mO k)) (lose A k i (A (mS k) i) (mS k)) ∧ msR (lose A k i (A (mS k) i) (mO k)) (lose A k i (A (mS k) i) (mS k)) = msR (A (mO k)) (A (mS k)) - (A (mS k) i).toInt := by
  rw [lose_O, lose_S, mn_xx]
  have e0 : A (mS k) i - A (mS k) i = 0 := by grind
  have z0 : (0 : Int32).toInt = 0 := rfl
  rw [e0]
  refine ⟨⟨m.b0, m.b1, m.b2, m.k3, m.p4, m.p5, m.p6, m.p7, fun q hq => ?_, ?_⟩, ?_⟩
  · unfold upd; split
    · decide
    · exact m.ps q hq
  · rw [sm_upd hi, ← m.cw]; unfold upd; rw [if_neg (by decide), if_pos rfl]; grind
  · unfold msR; rw [si_upd hi, z0]; unfold upd
    rw [if_neg (by decide), if_neg (by decide), if_neg (by decide), if_neg (by decide)]; omega
theorem lose_kp {A : Mem} {k i : Nat} {w : Int32} : KP k A (lose A k i w) := (KP.id.up (Or.inl (Or.inr (Or.inr (Or.inl rfl))))).up (Or.inl (Or.inl rfl))
abbrev EX1 (n : Nat) (A E : Mem) (T : Int) (c : Nat) : Prop := (GI c E) ∧ (MM n T E) ∧ (∀ s, ¬ s = 13 → E 0 s = A 0 s)
theorem EX1.g {n : Nat} {A E : Mem} {T : Int} {c : Nat} (h : EX1 n A E T c) : GI c E := h.1
theorem EX1.m {n : Nat} {A E : Mem} {T : Int} {c : Nat} (h : EX1 n A E T c) : MM n T E := h.2.1
theorem EX1.z {n : Nat} {A E : Mem} {T : Int} {c : Nat} (h : EX1 n A E T c) : ∀ s, ¬ s = 13 → E 0 s = A 0 s := h.2.2
theorem ex_I {n c : Nat} {T : Int} {A : Mem} (g : GI c A) (m : MM n T A) {i : Nat} (hi : i < 40) : ∀ j, j ≤ n → EX1 n A (exM A i j) T c := by
  intro j
  induction j with
  | zero => intro _; exact ⟨g, m, fun _ _ => rfl⟩
  | succ j ih =>
    intro hj
    have e := ih (by omega)
    unfold exM
    generalize exM A i j = N at e ⊢
    have kp : KP j N (up (lose N j i (N (mS j) i)) 7 3 (N 7 3 + mn (N (mS j) i) (N (mS j) i))) := lose_kp.up (Or.inl (Or.inr (Or.inr (Or.inr (Or.inl rfl)))))
    have mj := e.m.mi j (by omega)
    obtain ⟨l1, l2⟩ := lose_MI mj hi
    have pi := mj.ps i hi
    refine ⟨kp.gi e.g, kp.mm e.m (by omega) ?_ ?_, fun s hs => (kp.z s hs).trans (e.z s hs)⟩
    · rw [up_row (by unfold mO; omega), up_row (by unfold mS; omega)]; exact l1
    · rw [up_row (by unfold mO; omega), up_row (by unfold mS; omega), l2]; omega
theorem exp_I {n c : Nat} {T : Int} {A : Mem} (g : GI c A) (m : MM n T A) : ∀ i, i ≤ 40 → EX1 n A (expS A n i) T c := by
  intro i
  induction i with
  | zero => intro _; exact ⟨g, m, fun _ _ => rfl⟩
  | succ i ih =>
    intro hi
    have e := ih (by omega)
    unfold expS
    have e2 := ex_I e.g e.m (i := i) (by omega) n (Nat.le_refl _)
    exact ⟨e2.g, e2.m, fun s hs => (e2.z s hs).trans (e.z s hs)⟩
theorem ex_C (A : Mem) (i : Nat) : ∀ j, (∀ a, a < 28 → ¬ a = 7 → exM A i j a = A a) ∧ (∀ q, exM A i j (mG q) = A (mG q)) ∧ (∀ q s, exM A i j (mS q) s = if q < j ∧ s = i then 0 else A (mS q) s) ∧ (∀ q s, ¬ s = 13 → exM A i j (mO q) s = A (mO q) s) ∧ (∀ s, exM A i j 7 s = if s = 3 then A 7 3 + sm (fun q => A (mS q) i) j else A 7 s) := by
  intro j
  induction j with
  | zero => exact ⟨fun _ _ _ => rfl, fun _ => rfl, fun q s => by rw [if_neg (by omega)]; rfl, fun _ _ _ => rfl, fun s => by
      split
      · subst_vars; show A 7 3 = A 7 3 + 0; grind
      · rfl⟩
  | succ j ih =>
    obtain ⟨i1, i2, i3, i4, i5⟩ := ih
    unfold exM
    generalize exM A i j = N at *
    have nj : N (mS j) i = A (mS j) i := by rw [i3, if_neg (by omega)]
    refine ⟨fun a h1 h2 => ?_, fun q => ?_, fun q s => ?_, fun q s hs => ?_, fun s => ?_⟩
    · rw [up_row h2, lose_oth (by unfold mS; omega) (by unfold mO; omega), i1 a h1 h2]
    · rw [up_row (by unfold mG; omega), lose_oth (by unfold mG mS; omega) (by unfold mG mO; omega), i2]
    · rw [up_row (by unfold mS; omega)]
      by_cases e : q = j
      · subst e
        rw [lose_S, mn_xx]; unfold upd
        by_cases e2 : s = i
        · rw [if_pos e2, if_pos ⟨by omega, e2⟩]; grind
        · rw [if_neg e2, if_neg (by omega), i3, if_neg (by omega)]
      · rw [lose_oth (by unfold mS; omega) (by unfold mS mO; omega), i3]
        by_cases e2 : q < j ∧ s = i
        · rw [if_pos e2, if_pos ⟨by omega, e2.2⟩]
        · rw [if_neg e2, if_neg (by omega)]
    · rw [up_row (by unfold mO; omega)]
      by_cases e : q = j
      · subst e
        rw [lose_O]; unfold upd; rw [if_neg hs, i4 _ _ hs]
      · rw [lose_oth (by unfold mS mO; omega) (by unfold mO; omega), i4 _ _ hs]
    · rw [up_r, if_pos rfl]
      have e7 : lose N j i (N (mS j) i) 7 = N 7 := lose_oth (by unfold mS; omega) (by unfold mO; omega)
      by_cases e : s = 3
      · rw [if_pos e, if_pos e, i5 3, if_pos rfl, mn_xx, nj]
        show _ = A 7 3 + (sm (fun q => A (mS q) i) j + A (mS j) i)
        grind
      · rw [if_neg e, if_neg e, e7, i5 s, if_neg e]
theorem exp_C (A : Mem) (n : Nat) : ∀ m, (∀ a, a < 28 → ¬ a = 7 → expS A n m a = A a) ∧ (∀ q, expS A n m (mG q) = A (mG q)) ∧ (∀ q s, expS A n m (mS q) s = if q < n ∧ s < m then 0 else A (mS q) s) ∧ (∀ q s, ¬ s = 13 → expS A n m (mO q) s = A (mO q) s) ∧ (∀ s, expS A n m 7 s = if s = 3 then A 7 3 + sm (fun i => sm (fun q => A (mS q) i) n) m else A 7 s) := by
  intro m
  induction m with
  | zero => exact ⟨fun _ _ _ => rfl, fun _ => rfl, fun q s => by rw [if_neg (by omega)]; rfl, fun _ _ _ => rfl, fun s => by
      split
      · subst_vars; show A 7 3 = A 7 3 + 0; grind
      · rfl⟩
  | succ m ih =>
    obtain ⟨i1, i2, i3, i4, i5⟩ := ih
    unfold expS
    generalize expS A n m = N at *
    obtain ⟨j1, j2, j3, j4, j5⟩ := ex_C N m n
    refine ⟨fun a h1 h2 => ?_, fun q => ?_, fun q s => ?_, fun q s hs => ?_, fun s => ?_⟩
    · rw [j1 a h1 h2, i1 a h1 h2]
    · rw [j2, i2]
    · rw [j3, i3]
      by_cases e : q < n ∧ s < m + 1
      · rw [if_pos e]; split
        · rfl
        · rw [if_pos (by omega)]
      · rw [if_neg e, if_neg (by omega), if_neg (by omega)]
    · rw [j4 _ _ hs, i4 _ _ hs]
    · rw [j5]
      by_cases e : s = 3
      · rw [if_pos e, if_pos e, i5, if_pos rfl]
        have : sm (fun q => N (mS q) m) n = sm (fun q => A (mS q) m) n := sm_congr (fun q hq => by rw [i3, if_neg (by omega)])
        rw [this]
        show _ = A 7 3 + (sm (fun i => sm (fun q => A (mS q) i) n) m + sm (fun q => A (mS q) m) n)
        grind
      · rw [if_neg e, if_neg e, i5, if_neg e]
theorem xp_C (B : Mem) : ∀ q, (∀ a, ¬ a = 20 → ¬ a = 26 → xpS B q a = B a) ∧ (∀ s, xpS B q 20 s = if s < q ∧ ¬ B 9 21 - 4 < nI (s % 40) then 0 else B 20 s) ∧ (∀ s, xpS B q 26 s = if s = 3 then B 26 3 + sm (fun s => if B 9 21 - 4 < nI (s % 40) then 0 else B 20 s) q else B 26 s) := by
  intro q
  induction q with
  | zero => exact ⟨fun _ _ _ => rfl, fun s => by rw [if_neg (by omega)]; rfl, fun s => by
      split
      · subst_vars; show B 26 3 = B 26 3 + 0; grind
      · rfl⟩
  | succ q ih =>
    obtain ⟨i1, i2, i3⟩ := ih
    unfold xpS
    by_cases h : B 9 21 - 4 < nI (q % 40)
    · rw [if_pos h]
      refine ⟨i1, fun s => ?_, fun s => ?_⟩
      · rw [i2]
        by_cases e : s = q
        · subst e; rw [if_neg (by omega), if_neg (fun w => w.2 h)]
        · by_cases e2 : s < q ∧ ¬ B 9 21 - 4 < nI (s % 40)
          · rw [if_pos e2, if_pos ⟨by omega, e2.2⟩]
          · rw [if_neg e2, if_neg (fun w => e2 ⟨by omega, w.2⟩)]
      · rw [i3]
        by_cases e : s = 3
        · rw [if_pos e, if_pos e]
          show _ = B 26 3 + (sm _ q + (if B 9 21 - 4 < nI (q % 40) then 0 else B 20 q))
          rw [if_pos h]; grind
        · rw [if_neg e, if_neg e]
    · rw [if_neg h]
      unfold xp1
      generalize xpS B q = N at *
      have nq : N 20 q = B 20 q := by rw [i2, if_neg (by omega)]
      refine ⟨fun a h1 h2 => ?_, fun s => ?_, fun s => ?_⟩
      · rw [up_row h1, up_row h2, i1 a h1 h2]
      · rw [up_r, if_pos rfl, up_row (by decide)]
        by_cases e : s = q
        · subst e; rw [if_pos rfl, if_pos ⟨by omega, h⟩]
        · rw [if_neg e, i2]
          by_cases e2 : s < q ∧ ¬ B 9 21 - 4 < nI (s % 40)
          · rw [if_pos e2, if_pos ⟨by omega, e2.2⟩]
          · rw [if_neg e2, if_neg (fun w => e2 ⟨by omega, w.2⟩)]
      · rw [up_row (by decide), up_r, if_pos rfl]
        by_cases e : s = 3
        · rw [if_pos e, if_pos e, i3, if_pos rfl, nq]
          show _ = B 26 3 + (sm _ q + (if B 9 21 - 4 < nI (q % 40) then 0 else B 20 q))
          rw [if_neg h]; grind
        · rw [if_neg e, if_neg e, i3, if_neg e]
theorem sm_add (f g : Nat → Int32) (m : Nat) : sm (fun i => f i + g i) m = sm f m + sm g m := by
  induction m with
  | zero => rfl
  | succ m ih => unfold sm; rw [ih]; grind
theorem sm_zero (m : Nat) : sm (fun _ => 0) m = 0 := by
  induction m with
  | zero => rfl
  | succ m ih => unfold sm; rw [ih]; rfl
theorem sm_swap (F : Nat → Nat → Int32) (a b : Nat) : sm (fun i => sm (fun j => F i j) b) a = sm (fun j => sm (fun i => F i j) a) b := by
  induction a with
  | zero => show (0 : Int32) = sm (fun _ => 0) b; rw [sm_zero]
  | succ a ih =>
    show sm (fun i => sm (fun j => F i j) b) a + sm (fun j => F a j) b = sm (fun j => sm (fun i => F i j) a + F a j) b
    rw [sm_add, ih]
theorem sm_app (f : Nat → Int32) (a b : Nat) : sm f (a + b) = sm f a + sm (fun i => f (a + i)) b := by
  induction b with
  | zero => show sm f a = sm f a + 0; grind
  | succ b ih =>
    show sm f (a + b) + f (a + b) = sm f a + (sm (fun i => f (a + i)) b + f (a + b))
    rw [ih]; grind
theorem sm_rows (f : Nat → Int32) (n : Nat) : sm f (40 * n) = sm (fun j => sm (fun i => f (40 * j + i)) 40) n := by
  induction n with
  | zero => rfl
  | succ n ih =>
    have : 40 * (n + 1) = 40 * n + 40 := by omega
    rw [this, sm_app, ih]; rfl
theorem sm_cut (f : Nat → Int32) {m : Nat} (hm : m ≤ 40) : sm (fun i => if i < m then f i else 0) 40 = sm f m := by
  obtain ⟨d, hd⟩ : ∃ d, 40 = m + d := ⟨40 - m, by omega⟩
  rw [hd, sm_app, sm_congr (g := f) (m := m) (fun i hi => by rw [if_pos hi]), sm_congr (f := fun i => if m + i < m then f (m + i) else 0) (g := fun _ => 0) (m := d) (fun i hi => by rw [if_neg (by omega)]), sm_zero]
  grind
theorem exp_R {n : Nat} {P Q : Mem} {z : Int32} {A B : Mem} (h : RR n P Q z A B) {p : Nat} (hp : p < 40) (e6 : A 0 6 = nI p) : RR n P Q z (expS A n (p - 3)) (xpS B (40 * n)) := by
  obtain ⟨c1, c2, c3, c4, c5⟩ := exp_C A n (p - 3)
  obtain ⟨x1, x2, x3⟩ := xp_C B (40 * n)
  have cond : ∀ s, B 9 21 - 4 < nI (s % 40) ↔ ¬ s % 40 < p - 3 := by
    intro s
    have e4 : (4 : Int32).toInt = 4 := rfl
    have ep : (nI p).toInt = p := nI_toInt (by omega)
    rw [h.pd, e6, lti, nI_toInt (by omega), is (by omega) (by omega), ep, e4]; omega
  have sums : sm (fun s => if B 9 21 - 4 < nI (s % 40) then 0 else B 20 s) (40 * n) = sm (fun i => sm (fun q => A (mS q) i) n) (p - 3) := by
    rw [sm_rows, sm_swap (fun i q => A (mS q) i) (p - 3) n]
    apply sm_congr
    intro j hj
    rw [← sm_cut _ (show p - 3 ≤ 40 by omega)]
    apply sm_congr
    intro i hi
    have : (40 * j + i) % 40 = i := by omega
    by_cases q : i < p - 3
    · rw [if_neg (by rw [cond, this]; omega), if_pos q, h.sc hj hi]
    · rw [if_pos (by rw [cond, this]; omega), if_neg q]
  refine ⟨fun i k i' k' w => ?_, fun i hi k => ?_, fun i hi k => ?_, ?_, fun i k w => ?_, ?_⟩
  · have w0 := h.pr _ _ _ _ w
    unfold Par at w
    rcases w with ⟨a1, a2, a3⟩ | ⟨a1, a2, a3⟩ | ⟨a1, a2, a3⟩ | ⟨a1, a2, a3⟩ | ⟨a1, a2, a3⟩ | ⟨a1, a2, a3⟩ | ⟨j, a0, a1, a2, a3⟩ | ⟨j, a0, a1, a2, a3⟩ | ⟨j, a0, a1, a2, a3⟩
    · rw [x1 _ (by omega) (by omega), c1 _ (by omega) (by omega)]; exact w0
    · rw [x1 _ (by omega) (by omega), c1 _ (by omega) (by omega)]; exact w0
    · rw [x1 _ (by omega) (by omega), c1 _ (by omega) (by omega)]; exact w0
    · rw [x1 _ (by omega) (by omega), c1 _ (by omega) (by omega)]; exact w0
    · rw [x1 _ (by omega) (by omega), c1 _ (by omega) (by omega)]; exact w0
    · obtain ⟨a3, a4⟩ := a3
      subst a1; subst a2; subst a3
      rw [x3, c5, sums]
      by_cases e : k' = 3
      · subst e; rw [if_pos rfl, if_pos rfl, w0]
      · rw [if_neg e, if_neg e, w0]
    · have t := T1_b _ a3
      simp only at t
      subst a1; subst a2
      rw [x1 _ (by omega) (by omega), c4 _ _ (by omega)]; exact w0
    · subst a1; subst a2
      rw [x1 _ (by decide) (by decide), c2]; exact w0
    · obtain ⟨a3, a4⟩ := a3
      subst a1; subst a2; subst a3
      rw [x2, c3, w0]
      have : (40 * j + k) % 40 = k := by omega
      by_cases e : k < p - 3
      · rw [if_pos ⟨by omega, by rw [cond, this]; omega⟩, if_pos ⟨a0, e⟩]
      · rw [if_neg (fun q => q.2 (by rw [cond, this]; omega)), if_neg (fun q => e q.2)]
  · rw [c1 i (by unfold mdr at hi; omega) (by unfold mdr at hi; omega)]; exact h.fa i hi k
  · rw [x1 i (by unfold mdr at hi; omega) (by unfold mdr at hi; omega)]; exact h.fb i hi k
  · rw [x1 _ (by decide) (by decide)]; exact h.nn
  · have w0 := h.fz _ _ w
    by_cases e : i = 20
    · subst e; rw [x2, w0]; split <;> rfl
    · rw [x1 _ e (by unfold Frz at w; obtain ⟨j, hj, q⟩ := w; omega)]; exact w0
  · rw [x1 _ (by decide) (by decide)]; exact h.cd
theorem s_payday {n c : Nat} (hc : c < 512) {p : Nat} (hp : p ≤ 40) : ∀ (P Q A B : Mem), RR n P Q (B 9 29) A B → Iv c n A → A 0 6 = nI p → Cl n c [IS] P Q (o_payday A n p) (ompayday B n p) := by
  intro P Q A B h I e6
  have h' := h.ml 0
  unfold o_payday ompayday
  rw [h.pd, h.cl]
  by_cases h1 : 40 ≤ A 0 6
  · rw [if_pos h1, if_pos h1]; exact Cl.thr hc h I (by decide) (by decide)
  rw [if_neg h1, if_neg h1]
  by_cases h2 : A 0 15 = 0
  case neg => rw [if_neg h2, if_neg h2]; exact Cl.thr hc h I (by decide) (by decide)
  rw [if_pos h2, if_pos h2]
  have hp' : p < 40 := by
    rw [e6, lei, nI_toInt (by omega)] at h1
    have : (40 : Int32).toInt = 40 := rfl
    omega
  obtain ⟨p1, p2, p3, p4, p5⟩ := pay_R hc I.n10 h' I.g I.m hp' n (Nat.le_refl _)
  have r := exp_R p1 hp' (p5.trans e6)
  have e := exp_I p3 p4 (p - 3) (by omega)
  have n10 := I.n10
  have e06 : payE A n p 0 6 = nI p := by unfold payE; rw [e.z 6 (by decide), p5, e6]
  have iv : Iv (c + 1) n (payE A n p) := ⟨I.n10, by omega, e.g.nx, e.m.le (by omega)⟩
  refine Cl.ok (A := payF A n p) (B := pdF B n p) ?_ ?_ p2.symm
  · exact RR.pw r (pa0 (by decide)) (congrArg (· + 1) (show pdZ B n p 9 21 = payE A n p 0 6 from RR.pd r))
  · refine iv.glob (by decide) (iv.g.u0 6 _ (h6 := fun _ => ⟨p + 1, by omega, ?_⟩))
    rw [e06, nI_succ]
end MathH
