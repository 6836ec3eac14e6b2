section MathK
def zcn (N : Mem) : Nat → Nat
  | 0 => 0
  | j + 1 => zcn N j + (if N 22 j = 0 then 1 else 0)
theorem zcn_set {N : Mem} {q : Nat} (h : N 22 q = 0) (v : Int32) (hv : ¬ v = 0) : ∀ m, zcn (up N 22 q v) m + (if q < m then 1 else 0) = zcn N m := by
  intro m
  induction m with
  | zero => rfl
  | succ m ih =>
    unfold zcn
    rw [up_r, if_pos rfl]
    by_cases e : m = q
    · subst e
      rw [if_neg (show ¬ m < m by omega)] at ih
      rw [if_pos rfl, if_neg hv, if_pos h, if_pos (show m < m + 1 by omega)]; omega
    · rw [if_neg e]
      by_cases e3 : q < m
      · rw [if_pos e3] at ih; rw [if_pos (show q < m + 1 by omega)]; split <;> omega
      · rw [if_neg e3] at ih; rw [if_neg (show ¬ q < m + 1 by omega)]; split <;> omega
theorem zcn_le (N : Mem) (m : Nat) : zcn N m ≤ m := by
  induction m with
  | zero => exact Nat.le_refl _
  | succ m ih => unfold zcn; split <;> omega
theorem hr_cyc {n : Nat} {A N : Mem} (hn : n ≤ 10) (h : ∀ v, v < n → ¬ N 22 v = 0 → A (mO v) 0 = 0 ∧ ∃ u, u < n ∧ A (mO v) 3 = nI u ∧ ¬ N 22 u = 0) : ∀ (f q : Nat), q < n → ¬ N 22 q = 0 → hr A f (nI q) = -1 := by
  intro f
  induction f with
  | zero => intro q _ _; rfl
  | succ f ih =>
    intro q hq hv
    obtain ⟨a, u, hu, e, w⟩ := h q hq hv
    unfold hr
    rw [if_neg (neg1 (by omega)), nI_clamp (by omega), if_pos a, e]
    exact ih u hu w
theorem hm_R {n : Nat} {P Q : Mem} {z : Int32} {A1 A : Mem} (hn : n ≤ 10) (h0 : ∀ q, q < n → A (mO q) 0 = A1 (mO q) 0) (h3 : ∀ q, q < n → A (mO q) 3 = A1 (mO q) 3) (hk : ∀ q, q < n → kinOk n (A1 (mO q) 3)) : ∀ (f g : Nat) (N : Mem) (x : Int32), RR n P Q z A N → kinOk n x → zcn N n + 1 ≤ f → zcn N n + 1 ≤ g → (∀ v, v < n → ¬ N 22 v = 0 → A1 (mO v) 0 = 0 ∧ (A1 (mO v) 3 = x ∨ ∃ u, u < n ∧ A1 (mO v) 3 = nI u ∧ ¬ N 22 u = 0)) →
    hmR (hmS g N x).1 (hmS g N x).2 = hr A1 f x ∧ RR n P Q z A (hmS g N x).1 ∧ (hr A1 f x = -1 ∨ ∃ q, q < n ∧ hr A1 f x = nI q ∧ ¬ A1 (mO q) 0 = 0) := by
  intro f
  induction f with
  | zero => intro g N x _ _ h _ _; omega
  | succ f ih =>
    intro g N x r kx hf hg inv
    match g with
    | 0 => omega
    | g + 1 =>
      unfold hmS hr
      rcases kx with kx | ⟨q, hq, kx⟩
      · rw [if_pos kx, if_pos kx]
        refine ⟨?_, r, Or.inl rfl⟩
        show hmR N x = -1
        unfold hmR; rw [if_pos kx, kx]
      · have x1 : ¬ x = -1 := by rw [kx]; exact neg1 (by omega)
        have xc : x.toNatClampNeg = q := by rw [kx]; exact nI_clamp (by omega)
        rw [if_neg x1, if_neg x1, xc]
        by_cases m : N 22 q = 0
        · rw [if_pos m, r.al hq, h0 q hq]
          by_cases al : A1 (mO q) 0 = 0
          · rw [if_pos al, if_pos al, r.ki hq, h3 q hq]
            have zs := zcn_set m 1 (by decide) n
            rw [if_pos hq] at zs
            refine ih g (up N 22 q 1) _ r.m22 (hk q hq) (by omega) (by omega) ?_
            intro v hv hm
            by_cases e : v = q
            · subst e; exact ⟨al, Or.inl rfl⟩
            · rw [up_oth e] at hm
              obtain ⟨b1, b2⟩ := inv v hv hm
              refine ⟨b1, Or.inr ?_⟩
              rcases b2 with b2 | ⟨u, u1, u2, u3⟩
              · exact ⟨q, hq, by rw [b2, kx], by rw [up_same]; decide⟩
              · refine ⟨u, u1, u2, ?_⟩
                by_cases e2 : u = q
                · rw [e2, up_same]; decide
                · rw [up_oth e2]; exact u3
          · rw [if_neg al, if_neg al]
            refine ⟨?_, r, Or.inr ⟨q, hq, kx, al⟩⟩
            show hmR N x = x
            unfold hmR; rw [if_neg x1, xc, if_pos m]
        · rw [if_neg m]
          have cyc : hr A1 (f + 1) (nI q) = -1 := hr_cyc (N := N) hn (fun v hv hm => by
            obtain ⟨b1, b2⟩ := inv v hv hm
            refine ⟨b1, ?_⟩
            rcases b2 with b2 | b2
            · exact ⟨q, hq, by rw [b2, kx], m⟩
            · exact b2) (f + 1) q hq m
          have e : (if A1 (mO q) 0 = 0 then hr A1 f (A1 (mO q) 3) else x) = -1 := by
            have := cyc
            unfold hr at this
            rw [if_neg (neg1 (by omega)), nI_clamp (by omega)] at this
            rw [kx]; exact this
          rw [e]
          refine ⟨?_, r, Or.inl rfl⟩
          show hmR N x = -1
          unfold hmR; rw [if_neg x1, xc, if_neg m]
theorem mt_22 (M : Mem) (k : Nat) (hk : k < 10) : ∀ m, m ≤ 10 → ∀ q, q < m → mtM M k m 22 q = if q = k then 1 else 0 := by
  intro m
  induction m with
  | zero => intro _ q hq; omega
  | succ m ih =>
    intro hm q hq
    unfold mtM
    rw [up_r, if_pos rfl]
    by_cases e : q = m
    · rw [if_pos e]
      have : (nI m = nI k) ↔ (q = k) := by
        rw [eqi, nI_toInt (by omega), nI_toInt (by omega)]; omega
      by_cases e2 : q = k
      · rw [if_pos (this.mpr e2), if_pos e2]
      · rw [if_neg (fun w => e2 (this.mp w)), if_neg e2]
    · rw [if_neg e]; exact ih (by omega) q (by omega)
theorem mt_R {n : Nat} {P Q : Mem} {z : Int32} {A B : Mem} (h : RR n P Q z A B) (k : Nat) : ∀ m, RR n P Q z A (mtM B k m) := by
  intro m
  induction m with
  | zero => exact h
  | succ m ih => unfold mtM; exact ih.m22
theorem zcn_mt {N : Mem} {k : Nat} (hk : k < 10) {n : Nat} (hn : n ≤ 10) (h : ∀ q, q < 10 → N 22 q = if q = k then 1 else 0) : ∀ m, m ≤ n → zcn N m = m - (if k < m then 1 else 0) := by
  intro m
  induction m with
  | zero => intro _; rfl
  | succ m ih =>
    intro hm
    have := ih (by omega)
    unfold zcn
    rw [this, h m (by omega)]
    by_cases e : m = k
    · subst e
      rw [if_pos rfl, if_neg (show ¬ (1 : Int32) = 0 by decide), if_neg (show ¬ m < m by omega), if_pos (show m < m + 1 by omega)]; omega
    · rw [if_neg e, if_pos rfl]
      by_cases e3 : k < m
      · rw [if_pos e3, if_pos (show k < m + 1 by omega)]; omega
      · rw [if_neg e3, if_neg (show ¬ k < m + 1 by omega)]; omega
def At (A : Mem) (k : Nat) : Mem := up (up (up A (mO k) 0 0) (mO k) 4 0) (mO k) 1 0
theorem heir_R {n c : Nat} {P Q : Mem} {z : Int32} {A B : Mem} (h : RR n P Q z A B) (I : Iv c n A) {k : Nat} (hk : k < n) : dmH B k = diH A n k ∧ RR n P Q 0 (At A k) (dmT B k).1 ∧ (diH A n k = -1 ∨ ∃ q, q < n ∧ ¬ q = k ∧ diH A n k = nI q ∧ ¬ A (mO q) 0 = 0) := by
  have h' := h.ml 0
  have n10 := I.n10
  have r0 : RR n P Q 0 (At A k) (dmi B k) := ((h'.pw (paO hk (by decide)) rfl).pw (paO hk (by decide)) rfl).pw (paO hk (by decide)) rfl
  have r1 := mt_R r0 k 10
  have m22 := mt_22 (dmi B k) k (by omega) 10 (Nat.le_refl _)
  have e0 : ∀ q, q < n → At A k (mO q) 0 = di1 A k (mO q) 0 := by
    intro q _; unfold At di1
    by_cases e : q = k
    · subst e; rw [up_oth (by decide), up_oth (by decide)]
    · rw [up_row (by unfold mO; omega), up_row (by unfold mO; omega)]
  have e3' : ∀ q, di1 A k (mO q) 3 = A (mO q) 3 := by
    intro q; unfold di1
    by_cases e : q = k
    · subst e; rw [up_oth (by decide)]
    · rw [up_row (by unfold mO; omega)]
  have e3 : ∀ q, q < n → At A k (mO q) 3 = di1 A k (mO q) 3 := by
    intro q _; unfold At di1
    by_cases e : q = k
    · subst e; rw [up_oth (by decide), up_oth (by decide)]
    · rw [up_row (by unfold mO; omega), up_row (by unfold mO; omega)]
  have kk : ∀ q, q < n → kinOk n (di1 A k (mO q) 3) := fun q hq => by rw [e3']; exact (I.m.mi q hq).k3
  have zc := zcn_mt (N := mtM (dmi B k) k 10) (k := k) (by omega) n10 m22 n (Nat.le_refl _)
  rw [if_pos hk] at zc
  have kx : dmi B k 19 k = di1 A k (mO k) 3 := by rw [r0.ki hk, e3 k hk]
  have res := hm_R n10 e0 e3 kk n 10 (mtM (dmi B k) k 10) (dmi B k 19 k) r1 (by rw [kx]; exact kk k hk) (by omega) (by omega) (by
    intro v hv hm
    rw [m22 v (by omega)] at hm
    by_cases e : v = k
    · subst e
      exact ⟨by unfold di1; rw [up_same], Or.inl kx.symm⟩
    · rw [if_neg e] at hm; exact absurd rfl hm)
  obtain ⟨a1, a2, a3⟩ := res
  rw [kx] at a1 a3
  refine ⟨?_, a2, ?_⟩
  · unfold dmH dmT diH; rw [kx]; exact a1
  · unfold diH
    rcases a3 with a3 | ⟨q, q1, q2, q3⟩
    · exact Or.inl a3
    · refine Or.inr ⟨q, q1, ?_, q2, ?_⟩
      · intro e; subst e; unfold di1 at q3; rw [up_same] at q3; exact q3 rfl
      · intro e; apply q3; unfold di1
        by_cases e2 : q = k
        · subst e2; rw [up_same]
        · rw [up_row (by unfold mO; omega)]; exact e
end MathK
section MathL
theorem RR.ex2 {n : Nat} {P Q : Mem} {z : Int32} {A A' B : Mem} (h : RR n P Q z A B) (e : ∀ i k i' k', Par n i k i' k' → A' i k = A i k) (f : ∀ i, mdr i → A' i = A i) : RR n P Q z A' B :=
  ⟨fun i k i' k' p => by rw [e _ _ _ _ p]; exact h.pr _ _ _ _ p, fun i hi k => by rw [f i hi]; exact h.fa i hi k, h.fb, h.nn, h.fz, h.cd⟩
def yS (A : Mem) (k j : Nat) : Nat → Mem
  | 0 => A
  | i + 1 => up (up (yS A k j i) (mS j) i (yS A k j i (mS j) i + yS A k j i (mS k) i)) (mS k) i 0
def yG (A : Mem) (k j : Nat) : Nat → Mem
  | 0 => A
  | i + 1 => up (up (yG A k j i) (mG j) i (yG A k j i (mG j) i + yG A k j i (mG k) i)) (mG k) i 0
def yN (A : Mem) (k : Nat) : Nat → Mem
  | 0 => A
  | i + 1 => up (up (yN A k i) 7 4 (yN A k i 7 4 + yN A k i (mS k) i)) (mS k) i 0
theorem yS_R {n : Nat} {P Q : Mem} {z : Int32} {A B : Mem} (h : RR n P Q z A B) {k j : Nat} (hk : k < n) (hj : j < n) : ∀ m, m ≤ 40 → RR n P Q z (yS A k j m) (lhS B k j m) := by
  intro m
  induction m with
  | zero => intro _; exact h
  | succ m ih =>
    intro hm
    have r := ih (by omega)
    exact (r.pw (paS hj (by omega)) (by rw [r.sc hj (by omega), r.sc hk (by omega)])).pw (paS hk (by omega)) rfl
theorem yG_R {n : Nat} {P Q : Mem} {z : Int32} {A B : Mem} (h : RR n P Q z A B) {k j : Nat} (hk : k < n) (hj : j < n) : ∀ m, m ≤ 4 → RR n P Q z (yG A k j m) (lhG B k j m) := by
  intro m
  induction m with
  | zero => intro _; exact h
  | succ m ih =>
    intro hm
    have r := ih (by omega)
    exact (r.pw (paG hj (by omega)) (by rw [r.go hj (by omega), r.go hk (by omega)])).pw (paG hk (by omega)) rfl
theorem yN_R {n : Nat} {P Q : Mem} {z : Int32} {A B : Mem} (h : RR n P Q z A B) {k : Nat} (hk : k < n) : ∀ m, m ≤ 40 → RR n P Q z (yN A k m) (lnS B k m) := by
  intro m
  induction m with
  | zero => intro _; exact h
  | succ m ih =>
    intro hm
    have r := ih (by omega)
    exact (r.pw (pa7 (by decide)) (by rw [r.bo (by decide), r.sc hk (by omega)])).pw (paS hk (by omega)) rfl
theorem zG_R {n : Nat} {P Q : Mem} {z : Int32} {A B : Mem} (h : RR n P Q z A B) {k : Nat} (hk : k < n) : ∀ m, m ≤ 4 → RR n P Q z (zG A k m) (lnG B k m) := by
  intro m
  induction m with
  | zero => intro _; exact h
  | succ m ih => intro hm; exact (ih (by omega)).pw (paG hk (by omega)) rfl
theorem yS_C {A : Mem} {k j : Nat} (hjk : ¬ j = k) : ∀ m, (∀ a, ¬ a = mS j → ¬ a = mS k → yS A k j m a = A a) ∧ (∀ i, yS A k j m (mS j) i = if i < m then A (mS j) i + A (mS k) i else A (mS j) i) ∧ (∀ i, yS A k j m (mS k) i = if i < m then 0 else A (mS k) i) := by
  intro m
  have ne : ¬ mS j = mS k := by unfold mS; omega
  have ne' : ¬ mS k = mS j := by unfold mS; omega
  induction m with
  | zero => exact ⟨fun _ _ _ => rfl, fun i => by rw [if_neg (by omega)]; rfl, fun i => by rw [if_neg (by omega)]; rfl⟩
  | succ m ih =>
    obtain ⟨a1, a2, a3⟩ := ih
    unfold yS
    generalize yS A k j m = Y at *
    refine ⟨fun a h1 h2 => by rw [up_row h2, up_row h1, a1 a h1 h2], fun i => ?_, fun i => ?_⟩
    · rw [up_row ne, up_r, if_pos rfl, a2, a2, a3]
      by_cases e : i = m
      · subst e; rw [if_pos rfl, if_neg (show ¬ i < i by omega), if_neg (show ¬ i < i by omega), if_pos (show i < i + 1 by omega)]
      · rw [if_neg e]
        by_cases e2 : i < m
        · rw [if_pos e2, if_pos (show i < m + 1 by omega)]
        · rw [if_neg e2, if_neg (show ¬ i < m + 1 by omega)]
    · rw [up_r, if_pos rfl, up_row ne', a3]
      by_cases e : i = m
      · subst e; rw [if_pos rfl, if_pos (show i < i + 1 by omega)]
      · rw [if_neg e]
        by_cases e2 : i < m
        · rw [if_pos e2, if_pos (show i < m + 1 by omega)]
        · rw [if_neg e2, if_neg (show ¬ i < m + 1 by omega)]
theorem yG_C {A : Mem} {k j : Nat} (hjk : ¬ j = k) : ∀ m, (∀ a, ¬ a = mG j → ¬ a = mG k → yG A k j m a = A a) ∧ (∀ i, yG A k j m (mG j) i = if i < m then A (mG j) i + A (mG k) i else A (mG j) i) ∧ (∀ i, yG A k j m (mG k) i = if i < m then 0 else A (mG k) i) := by
  intro m
  have ne : ¬ mG j = mG k := by unfold mG; omega
  have ne' : ¬ mG k = mG j := by unfold mG; omega
  induction m with
  | zero => exact ⟨fun _ _ _ => rfl, fun i => by rw [if_neg (by omega)]; rfl, fun i => by rw [if_neg (by omega)]; rfl⟩
  | succ m ih =>
    obtain ⟨a1, a2, a3⟩ := ih
    unfold yG
    generalize yG A k j m = Y at *
    refine ⟨fun a h1 h2 => by rw [up_row h2, up_row h1, a1 a h1 h2], fun i => ?_, fun i => ?_⟩
    · rw [up_row ne, up_r, if_pos rfl, a2, a2, a3]
      by_cases e : i = m
      · subst e; rw [if_pos rfl, if_neg (show ¬ i < i by omega), if_neg (show ¬ i < i by omega), if_pos (show i < i + 1 by omega)]
      · rw [if_neg e]
        by_cases e2 : i < m
        · rw [if_pos e2, if_pos (show i < m + 1 by omega)]
        · rw [if_neg e2, if_neg (show ¬ i < m + 1 by omega)]
    · rw [up_r, if_pos rfl, up_row ne', a3]
      by_cases e : i = m
      · subst e; rw [if_pos rfl, if_pos (show i < i + 1 by omega)]
      · rw [if_neg e]
        by_cases e2 : i < m
        · rw [if_pos e2, if_pos (show i < m + 1 by omega)]
        · rw [if_neg e2, if_neg (show ¬ i < m + 1 by omega)]
theorem yN_C {A : Mem} {k : Nat} : ∀ m, (∀ a, ¬ a = 7 → ¬ a = mS k → yN A k m a = A a) ∧ (∀ i, yN A k m 7 i = if i = 4 then A 7 4 + sm (A (mS k)) m else A 7 i) ∧ (∀ i, yN A k m (mS k) i = if i < m then 0 else A (mS k) i) := by
  intro m
  have ne : ¬ 7 = mS k := by unfold mS; omega
  have ne' : ¬ mS k = 7 := by unfold mS; omega
  induction m with
  | zero => exact ⟨fun _ _ _ => rfl, fun i => by
      split
      · subst_vars; show A 7 4 = A 7 4 + 0; rw [Int32.add_zero]
      · rfl, fun i => by rw [if_neg (by omega)]; rfl⟩
  | succ m ih =>
    obtain ⟨a1, a2, a3⟩ := ih
    unfold yN
    generalize yN A k m = Y at *
    refine ⟨fun a h1 h2 => by rw [up_row h2, up_row h1, a1 a h1 h2], fun i => ?_, fun i => ?_⟩
    · rw [up_row ne, up_r, if_pos rfl, a2, a2, a3, if_pos rfl, if_neg (show ¬ m < m by omega)]
      by_cases e : i = 4
      · rw [if_pos e, if_pos e]; show _ = A 7 4 + (sm (A (mS k)) m + A (mS k) m); grind
      · rw [if_neg e, if_neg e, if_neg e]
    · rw [up_r, if_pos rfl, up_row ne', a3]
      by_cases e : i = m
      · subst e; rw [if_pos rfl, if_pos (show i < i + 1 by omega)]
      · rw [if_neg e]
        by_cases e2 : i < m
        · rw [if_pos e2, if_pos (show i < m + 1 by omega)]
        · rw [if_neg e2, if_neg (show ¬ i < m + 1 by omega)]
theorem zG_C {A : Mem} {k : Nat} : ∀ m, (∀ a, ¬ a = mG k → zG A k m a = A a) ∧ (∀ i, zG A k m (mG k) i = if i < m then 0 else A (mG k) i) := by
  intro m
  induction m with
  | zero => exact ⟨fun _ _ => rfl, fun i => by rw [if_neg (by omega)]; rfl⟩
  | succ m ih =>
    obtain ⟨a1, a3⟩ := ih
    unfold zG
    refine ⟨fun a h1 => by rw [up_row h1, a1 a h1], fun i => ?_⟩
    rw [up_r, if_pos rfl, a3]
    by_cases e : i = m
    · subst e; rw [if_pos rfl, if_pos (show i < i + 1 by omega)]
    · rw [if_neg e]
      by_cases e2 : i < m
      · rw [if_pos e2, if_pos (show i < m + 1 by omega)]
      · rw [if_neg e2, if_neg (show ¬ i < m + 1 by omega)]
theorem iS_C {A : Mem} {h d : Nat} (hd : ¬ h = d) : ∀ m, (∀ a, ¬ a = mS h → ¬ a = mO h → inhS A h d m a = A a) ∧ (∀ i, inhS A h d m (mS h) i = if i < m then A (mS h) i + A (mS d) i else A (mS h) i) ∧ (∀ s, inhS A h d m (mO h) s = if s = 12 then A (mO h) 12 + sm (A (mS d)) m else A (mO h) s) := by
  intro m
  have n1 : ¬ mS d = mS h := by unfold mS; omega
  have n2 : ¬ mS d = mO h := by unfold mS mO; omega
  have n3 : ¬ mS h = mO h := by unfold mS mO; omega
  have n4 : ¬ mO h = mS h := by unfold mS mO; omega
  induction m with
  | zero => exact ⟨fun _ _ _ => rfl, fun i => by rw [if_neg (by omega)]; rfl, fun i => by
      split
      · subst_vars; show A (mO h) 12 = A (mO h) 12 + 0; rw [Int32.add_zero]
      · rfl⟩
  | succ m ih =>
    obtain ⟨a1, a2, a3⟩ := ih
    unfold inhS gain
    generalize inhS A h d m = Y at *
    rw [a1 (mS d) n1 n2]
    refine ⟨fun a h1 h2 => by rw [up_row h2, up_row h1, a1 a h1 h2], fun i => ?_, fun i => ?_⟩
    · rw [up_row n3, up_r, if_pos rfl, a2, a2]
      by_cases e : i = m
      · subst e; rw [if_pos rfl, if_neg (show ¬ i < i by omega), if_pos (show i < i + 1 by omega)]
      · rw [if_neg e]
        by_cases e2 : i < m
        · rw [if_pos e2, if_pos (show i < m + 1 by omega)]
        · rw [if_neg e2, if_neg (show ¬ i < m + 1 by omega)]
    · rw [up_r, if_pos rfl, up_row n4, a3, a3, if_pos rfl]
      by_cases e : i = 12
      · rw [if_pos e, if_pos e]; show _ = A (mO h) 12 + (sm (A (mS d)) m + A (mS d) m); grind
      · rw [if_neg e, if_neg e, if_neg e]
theorem iG_C {A : Mem} {h d : Nat} (hd : ¬ h = d) : ∀ m, (∀ a, ¬ a = mG h → inhG A h d m a = A a) ∧ (∀ i, inhG A h d m (mG h) i = if i < m then A (mG h) i + A (mG d) i else A (mG h) i) := by
  intro m
  have n1 : ¬ mG d = mG h := by unfold mG; omega
  induction m with
  | zero => exact ⟨fun _ _ => rfl, fun i => by rw [if_neg (by omega)]; rfl⟩
  | succ m ih =>
    obtain ⟨a1, a2⟩ := ih
    unfold inhG
    generalize inhG A h d m = Y at *
    rw [a1 (mG d) n1]
    refine ⟨fun a h1 => by rw [up_row h1, a1 a h1], fun i => ?_⟩
    rw [up_r, if_pos rfl, a2, a2]
    by_cases e : i = m
    · subst e; rw [if_pos rfl, if_neg (show ¬ i < i by omega), if_pos (show i < i + 1 by omega)]
    · rw [if_neg e]
      by_cases e2 : i < m
      · rw [if_pos e2, if_pos (show i < m + 1 by omega)]
      · rw [if_neg e2, if_neg (show ¬ i < m + 1 by omega)]
/-- inh1, inh2 in one: wv says whether debts go over -/
theorem in_C {A : Mem} {h d : Nat} (hd : ¬ h = d) (wv : Int32) : ∀ F, F = (if wv = 0 then inh2 A h d else inh1 A h d) → (∀ a, ¬ a = mS h → ¬ a = mO h → ¬ a = mG h → F a = A a) ∧ (∀ i, i < 40 → F (mS h) i = A (mS h) i + A (mS d) i) ∧ (∀ i, i < 4 → F (mG h) i = A (mG h) i + A (mG d) i) ∧ (∀ s, F (mO h) s = if s = 12 then A (mO h) 12 + sm (A (mS d)) 40 else if s = 5 then A (mO h) 5 + A (mO d) 5 else if s = 6 then A (mO h) 6 + (if wv = 0 then A (mO d) 6 else 0) else if s = 7 then A (mO h) 7 + (if wv = 0 then A (mO d) 7 else 0) else A (mO h) s) := by
  intro F hF
  obtain ⟨s1, s2, s3⟩ := iS_C (A := inh0 A h d) hd 40
  obtain ⟨g1, g2⟩ := iG_C (A := inhS (inh0 A h d) h d 40) hd 4
  have n1 : ¬ mS d = mO h := by unfold mS mO; omega
  have n2 : ¬ mS h = mO h := by unfold mS mO; omega
  have n3 : ¬ mG h = mO h := by unfold mG mO; omega
  have n4 : ¬ mG d = mO h := by unfold mG mO; omega
  have n5 : ¬ mG h = mS h := by unfold mG mS; omega
  have n6 : ¬ mG d = mS h := by unfold mG mS; omega
  have n7 : ¬ mO h = mG h := by unfold mG mO; omega
  have n8 : ¬ mS h = mG h := by unfold mG mS; omega
  have n9 : ¬ mO d = mO h := by unfold mO; omega
  have na : ¬ mO d = mG h := by unfold mO mG; omega
  have nb : ¬ mO d = mS h := by unfold mO mS; omega
  have z1 : ∀ a, ¬ a = mO h → inh0 A h d a = A a := fun a ha => by unfold inh0; rw [up_row ha]
  have zO : ∀ s, inh0 A h d (mO h) s = if s = 5 then A (mO h) 5 + A (mO d) 5 else A (mO h) s := fun s => by unfold inh0; rw [up_r, if_pos rfl]
  have i1 : ∀ a, ¬ a = mS h → ¬ a = mO h → ¬ a = mG h → inh1 A h d a = A a := fun a h1 h2 h3 => by unfold inh1; rw [g1 a h3, s1 a h1 h2, z1 a h2]
  have iS : ∀ i, i < 40 → inh1 A h d (mS h) i = A (mS h) i + A (mS d) i := fun i hi => by unfold inh1; rw [g1 _ n8, s2, if_pos hi, z1 _ n2, z1 _ n1]
  have iG : ∀ i, i < 4 → inh1 A h d (mG h) i = A (mG h) i + A (mG d) i := fun i hi => by unfold inh1; rw [g2, if_pos hi, s1 _ n5 n3, s1 _ n6 n4, z1 _ n3, z1 _ n4]
  have iO : ∀ s, inh1 A h d (mO h) s = if s = 12 then A (mO h) 12 + sm (A (mS d)) 40 else if s = 5 then A (mO h) 5 + A (mO d) 5 else A (mO h) s := fun s => by
    unfold inh1; rw [g1 _ n7, s3, zO, zO, if_neg (show ¬ 12 = 5 by decide), z1 _ n1]
  have iD : inh1 A h d (mO d) = A (mO d) := i1 _ nb n9 na
  rw [hF]
  by_cases hw : wv = 0
  · simp only [if_pos hw]
    unfold inh2
    refine ⟨fun a h1 h2 h3 => by rw [up_row h2, up_row h2, i1 a h1 h2 h3], fun i hi => by rw [up_row n2, up_row n2, iS i hi], fun i hi => by rw [up_row n3, up_row n3, iG i hi], fun s => ?_⟩
    have q1 : up (inh1 A h d) (mO h) 6 (inh1 A h d (mO h) 6 + inh1 A h d (mO d) 6) (mO d) = A (mO d) := by rw [up_row n9, iD]
    rw [q1, iD, up_r, if_pos rfl]
    by_cases e7 : s = 7
    · subst e7
      rw [if_pos rfl, if_neg (by decide), if_neg (by decide), if_neg (by decide), if_pos rfl, up_oth (by decide), iO, if_neg (by decide), if_neg (by decide)]
    · rw [if_neg e7, up_r, if_pos rfl]
      by_cases e6 : s = 6
      · subst e6
        rw [if_pos rfl, if_neg (by decide), if_neg (by decide), if_pos rfl, iO, if_neg (by decide), if_neg (by decide)]
      · rw [if_neg e6, iO, if_neg e6, if_neg e7]
  · simp only [if_neg hw]
    refine ⟨i1, iS, iG, fun s => ?_⟩
    rw [iO]
    by_cases e12 : s = 12
    · rw [if_pos e12, if_pos e12]
    rw [if_neg e12, if_neg e12]
    by_cases e5 : s = 5
    · rw [if_pos e5, if_pos e5]
    rw [if_neg e5, if_neg e5]
    by_cases e6 : s = 6
    · rw [if_pos e6, e6, Int32.add_zero]
    rw [if_neg e6]
    by_cases e7 : s = 7
    · rw [if_pos e7, e7, Int32.add_zero]
    rw [if_neg e7]
theorem si_0 {f : Nat → Int32} {m : Nat} (h : ∀ i, i < m → 0 ≤ (f i).toInt) (h0 : si f m = 0) : ∀ i, i < m → f i = 0 := by
  intro i hi
  have a := si_mono h (q := i + 1) (by omega)
  have b := si_nn (f := f) (m := i) (fun q hq => h q (by omega))
  have c := h i hi
  have d : si f (i + 1) = si f i + (f i).toInt := rfl
  rw [eqi]
  have : (0 : Int32).toInt = 0 := rfl
  omega
/-- all that is left of one who has died -/
theorem lv2_C {n : Nat} {M : Mem} {k : Nat} (m : MI n (M (mO k)) (M (mS k))) (hb : msR (M (mO k)) (M (mS k)) ≤ 3584000) : (∀ a, ¬ a = mO k → ¬ a = mG k → ¬ a = mS k → lv2 M k a = M a) ∧ (∀ i, i < 40 → lv2 M k (mS k) i = 0) ∧ (∀ i, i < 4 → lv2 M k (mG k) i = 0) ∧ (∀ s, ¬ s = 13 → lv2 M k (mO k) s = if s = 1 ∨ s = 4 ∨ s = 5 ∨ s = 6 ∨ s = 7 then 0 else M (mO k) s) ∧ lv2 M k (mO k) 12 - lv2 M k (mO k) 13 = sm (lv2 M k (mS k)) 40 := by
  have n1 : ¬ mS k = mO k := by unfold mS mO; omega
  have n2 : ¬ mG k = mO k := by unfold mG mO; omega
  have n3 : ¬ mO k = mG k := by unfold mG mO; omega
  have n4 : ¬ mS k = mG k := by unfold mG mS; omega
  have n5 : ¬ mO k = mS k := by unfold mS mO; omega
  have z1 : ∀ a, ¬ a = mO k → lv0 M k a = M a := fun a ha => by unfold lv0; rw [up_row ha, up_row ha, up_row ha, up_row ha, up_row ha]
  have zO : lv0 M k (mO k) = upd (upd (upd (upd (upd (M (mO k)) 1 0) 4 0) 5 0) 6 0) 7 0 := by unfold lv0; rw [up_own, up_own, up_own, up_own, up_own]
  have zs : ∀ s, lv0 M k (mO k) s = if s = 1 ∨ s = 4 ∨ s = 5 ∨ s = 6 ∨ s = 7 then 0 else M (mO k) s := fun s => by
    rw [zO]; unfold upd
    by_cases e7 : s = 7
    · rw [if_pos e7, if_pos (by omega)]
    rw [if_neg e7]
    by_cases e6 : s = 6
    · rw [if_pos e6, if_pos (by omega)]
    rw [if_neg e6]
    by_cases e5 : s = 5
    · rw [if_pos e5, if_pos (by omega)]
    rw [if_neg e5]
    by_cases e4 : s = 4
    · rw [if_pos e4, if_pos (by omega)]
    rw [if_neg e4]
    by_cases e1 : s = 1
    · rw [if_pos e1, if_pos (by omega)]
    rw [if_neg e1, if_neg (by omega)]
  have m0 : MI n (lv0 M k (mO k)) (lv0 M k (mS k)) := by
    rw [z1 _ n1, zO]
    exact ((((m.o 1 0 (h0 := fun _ => Or.inl rfl)).o 4 0 (h4 := fun _ _ => by decide)).o 5 0 (h4 := fun _ _ => by decide)).o 6 0 (h4 := fun _ _ => by decide)).o 7 0 (h4 := fun _ _ => by decide)
  have bd := m.bd
  have s1 := sm_si m.ps (by omega)
  have L := llow_L m0 (w := sm (M (mS k)) 40) (by omega) 40 (Nat.le_refl _)
  have lt := L.t
  have ls := L.sS
  rw [z1 _ n1] at lt ls
  have all0 := si_0 L.ps (by omega)
  obtain ⟨g1, g2⟩ := zG_C (A := lv1 M k) (k := k) 4
  have eO : lv2 M k (mO k) = lv1 M k (mO k) := g1 _ n3
  have eS : lv2 M k (mS k) = lv1 M k (mS k) := g1 _ n4
  refine ⟨fun a h1 h2 h3 => ?_, fun i hi => ?_, fun i hi => ?_, fun s hs => ?_, ?_⟩
  · show zG (lv1 M k) k 4 a = M a
    rw [g1 a h2]; unfold lv1; rw [L.oth a h3 h1, z1 a h1]
  · rw [eS]; exact all0 i hi
  · show zG (lv1 M k) k 4 (mG k) i = 0
    rw [g2, if_pos hi]
  · rw [eO, ← zs]; exact L.o s hs
  · rw [eO, eS]; exact L.cw
end MathL
section MathM
theorem TM_two {n k j : Nat} {A F : Mem} (hk : k < n) (hj : j < n) (hjk : ¬ j = k) (h : ∀ q, q < n → ¬ q = k → ¬ q = j → msR (F (mO q)) (F (mS q)) = msR (A (mO q)) (A (mS q))) : TM F n = TM A n + (msR (F (mO k)) (F (mS k)) - msR (A (mO k)) (A (mS k))) + (msR (F (mO j)) (F (mS j)) - msR (A (mO j)) (A (mS j))) := by
  let G : Mem := fun i => if i = mO k ∨ i = mS k then F i else A i
  have gO : G (mO k) = F (mO k) := if_pos (Or.inl rfl)
  have gS : G (mS k) = F (mS k) := if_pos (Or.inr rfl)
  have oO : ∀ q, ¬ q = k → G (mO q) = A (mO q) := fun q hq => if_neg (by unfold mO mS; omega)
  have oS : ∀ q, ¬ q = k → G (mS q) = A (mS q) := fun q hq => if_neg (by unfold mO mS; omega)
  have e1 := TM_one (A := A) (A' := G) hk (fun q hq e => by rw [oO q e, oS q e])
  have e2 := TM_one (A := G) (A' := F) hj (fun q hq e => by
    by_cases e2 : q = k
    · subst e2; rw [gO, gS]
    · rw [oO q e2, oS q e2]; exact h q hq e2 e)
  rw [gO, gS] at e1
  rw [oO j hjk, oS j hjk] at e2
  omega
theorem TM_pair {n : Nat} {A : Mem} (h : ∀ j, j < n → MI n (A (mO j)) (A (mS j))) {j k : Nat} (hjk : ¬ j = k) : ∀ m, m ≤ n → j < m → k < m → msR (A (mO j)) (A (mS j)) + msR (A (mO k)) (A (mS k)) ≤ TM A m := by
  intro m
  induction m with
  | zero => intro _ hj; omega
  | succ m ih =>
    intro hm hj hk
    have mm := (h m (by omega)).msn
    show _ ≤ TM A m + msR (A (mO m)) (A (mS m))
    by_cases e1 : j = m
    · subst e1
      have := TM_ge h (m := j) (by omega) (j := k) (by omega)
      omega
    · by_cases e2 : k = m
      · subst e2
        have := TM_ge h (m := k) (by omega) (j := j) (by omega)
        omega
      · have := ih (by omega) (by omega) (by omega)
        omega
theorem MM.two {n : Nat} {T T' : Int} {A F : Mem} (m : MM n T A) {k j : Nat} (hk : k < n) (hj : j < n) (hjk : ¬ j = k) (hO : ∀ q, ¬ q = k → ¬ q = j → F (mO q) = A (mO q)) (hS : ∀ q, ¬ q = k → ¬ q = j → F (mS q) = A (mS q)) (mk : MI n (F (mO k)) (F (mS k))) (mj : MI n (F (mO j)) (F (mS j))) (ht : T + (msR (F (mO k)) (F (mS k)) - msR (A (mO k)) (A (mS k))) + (msR (F (mO j)) (F (mS j)) - msR (A (mO j)) (A (mS j))) ≤ T') : MM n T' F := by
  refine ⟨fun q hq => ?_, ?_⟩
  · by_cases e1 : q = k
    · subst e1; exact mk
    · by_cases e2 : q = j
      · subst e2; exact mj
      · rw [hO q e1 e2, hS q e1 e2]; exact m.mi q hq
  · rw [TM_two hk hj hjk (A := A) (fun q hq e1 e2 => by rw [hO q e1 e2, hS q e1 e2])]
    have := m.tm; omega
theorem At_r {A : Mem} {k : Nat} : (∀ a, ¬ a = mO k → At A k a = A a) ∧ (∀ s, At A k (mO k) s = if s = 0 ∨ s = 1 ∨ s = 4 then 0 else A (mO k) s) := by
  refine ⟨fun a h => by unfold At; rw [up_row h, up_row h, up_row h], fun s => ?_⟩
  unfold At
  rw [up_r, if_pos rfl]
  by_cases e1 : s = 1
  · rw [if_pos e1, if_pos (by omega)]
  rw [if_neg e1, up_r, if_pos rfl]
  by_cases e4 : s = 4
  · rw [if_pos e4, if_pos (by omega)]
  rw [if_neg e4, up_r, if_pos rfl]
  by_cases e0 : s = 0
  · rw [if_pos e0, if_pos (by omega)]
  rw [if_neg e0, if_neg (by omega)]
theorem di1_r {A : Mem} {k : Nat} : (∀ a, ¬ a = mO k → di1 A k a = A a) ∧ di1 A k (mO k) = upd (A (mO k)) 0 0 := ⟨fun a h => by unfold di1; rw [up_row h], by unfold di1; rw [up_own]⟩
def lzY (Y : Mem) (k : Nat) : Mem := up (up (up Y (mO k) 5 0) (mO k) 6 0) (mO k) 7 0
theorem lzY_r {Y : Mem} {k : Nat} : (∀ a, ¬ a = mO k → lzY Y k a = Y a) ∧ (∀ s, lzY Y k (mO k) s = if s = 5 ∨ s = 6 ∨ s = 7 then 0 else Y (mO k) s) := by
  refine ⟨fun a h => by unfold lzY; rw [up_row h, up_row h, up_row h], fun s => ?_⟩
  unfold lzY
  rw [up_r, if_pos rfl]
  by_cases e1 : s = 7
  · rw [if_pos e1, if_pos (by omega)]
  rw [if_neg e1, up_r, if_pos rfl]
  by_cases e4 : s = 6
  · rw [if_pos e4, if_pos (by omega)]
  rw [if_neg e4, up_r, if_pos rfl]
  by_cases e0 : s = 5
  · rw [if_pos e0, if_pos (by omega)]
  rw [if_neg e0, if_neg (by omega)]
theorem lzY_R {n : Nat} {P Q : Mem} {z : Int32} {A B : Mem} (h : RR n P Q z A B) {k : Nat} (hk : k < n) : RR n P Q z (lzY A k) (lz B k) :=
  ((h.pw (paO hk (by decide)) rfl).pw (paO hk (by decide)) rfl).pw (paO hk (by decide)) rfl
/-- the row of one who has died -/
theorem dead_row {n : Nat} {A M : Mem} {k : Nat} (m : MI n (A (mO k)) (A (mS k))) (hb : msR (A (mO k)) (A (mS k)) ≤ 3584000) (hO : M (mO k) = upd (A (mO k)) 0 0) (hS : M (mS k) = A (mS k)) :
    (∀ s, ¬ s = 13 → lv2 M k (mO k) s = if s = 0 ∨ s = 1 ∨ s = 4 ∨ s = 5 ∨ s = 6 ∨ s = 7 then 0 else A (mO k) s) ∧ MI n (lv2 M k (mO k)) (lv2 M k (mS k)) ∧ msR (lv2 M k (mO k)) (lv2 M k (mS k)) = 0 := by
  have mM : MI n (M (mO k)) (M (mS k)) := by rw [hO, hS]; exact m.o 0 0 (h0 := fun _ => Or.inl rfl)
  have mb : msR (M (mO k)) (M (mS k)) ≤ 3584000 := by rw [hO, hS, msX _ _ 0 _ (by decide)]; exact hb
  obtain ⟨l1, l2, l3, l4, l5⟩ := lv2_C mM mb
  have o : ∀ s, ¬ s = 13 → lv2 M k (mO k) s = if s = 0 ∨ s = 1 ∨ s = 4 ∨ s = 5 ∨ s = 6 ∨ s = 7 then 0 else A (mO k) s := by
    intro s hs
    rw [l4 s hs, hO]
    unfold upd
    by_cases e : s = 1 ∨ s = 4 ∨ s = 5 ∨ s = 6 ∨ s = 7
    · rw [if_pos e, if_pos (by omega)]
    · rw [if_neg e]
      by_cases e0 : s = 0
      · rw [if_pos e0, if_pos (by omega)]
      · rw [if_neg e0, if_neg (by omega)]
  have s0 : si (lv2 M k (mS k)) 40 = 0 := by
    rw [si_congr (g := fun _ => 0) (fun i hi => l2 i hi)]
    have : ∀ m, si (fun _ => 0) m = 0 := by
      intro m
      induction m with
      | zero => rfl
      | succ m ih => unfold si; rw [ih]; rfl
    exact this 40
  refine ⟨o, ⟨?_, ?_, ?_, ?_, ?_, ?_, ?_, ?_, fun i hi => ?_, l5⟩, ?_⟩
  · rw [o 0 (by decide)]; exact Or.inl rfl
  · rw [o 1 (by decide)]; exact Or.inl rfl
  · rw [o 2 (by decide)]; exact m.b2
  · rw [o 3 (by decide)]; exact m.k3
  · rw [o 4 (by decide), if_pos (by decide)]; decide
  · rw [o 5 (by decide), if_pos (by decide)]; decide
  · rw [o 6 (by decide), if_pos (by decide)]; decide
  · rw [o 7 (by decide), if_pos (by decide)]; decide
  · rw [l2 i hi]; decide
  · unfold msR
    rw [s0, o 4 (by decide), o 5 (by decide), o 6 (by decide), o 7 (by decide)]; rfl
theorem die_n {n c : Nat} (hc : c < 512) {P Q : Mem} {A B : Mem} (I : Iv c n A) {k : Nat} (hk : k < n) (r : RR n P Q 0 (At A k) B) : RR n P Q 0 (lv2 (diN A k) k) (lnM B k) ∧ Iv (c + 1) n (lv2 (diN A k) k) := by
  obtain ⟨t1, t2⟩ := At_r (A := A) (k := k)
  obtain ⟨d1, d2⟩ := di1_r (A := A) (k := k)
  have m := I.m.mi k hk
  have bb := I.msle hk
  have n1 : ¬ mO k = 7 := by unfold mO; omega
  have n2 : ¬ mS k = 7 := by unfold mS; omega
  have n3 : ¬ mS k = mO k := by unfold mS mO; omega
  have nO : diN A k (mO k) = upd (A (mO k)) 0 0 := by unfold diN; rw [up_row n1, d2]
  have nS : diN A k (mS k) = A (mS k) := by unfold diN; rw [up_row n2, d1 _ n3]
  have nr : ∀ a, ¬ a = 7 → ¬ a = mO k → diN A k a = A a := fun a h1 h2 => by unfold diN; rw [up_row h1, d1 a h2]
  have n7 : ∀ s, diN A k 7 s = if s = 4 then A 7 4 + sm (A (mS k)) 40 else A 7 s := fun s => by
    unfold diN; rw [up_r, if_pos rfl, d1 7 (fun e => n1 e.symm), d1 _ n3]
  obtain ⟨w1, w2, w3⟩ := dead_row (M := diN A k) m bb nO nS
  obtain ⟨l1, l2, l3, -, -⟩ := lv2_C (n := n) (M := diN A k) (k := k) (by rw [nO, nS]; exact m.o 0 0 (h0 := fun _ => Or.inl rfl)) (by rw [nO, nS, msX _ _ 0 _ (by decide)]; exact bb)
  obtain ⟨y1, y2, y3⟩ := yN_C (A := At A k) (k := k) 40
  obtain ⟨g1, g2⟩ := zG_C (A := yN (At A k) k 40) (k := k) 4
  obtain ⟨z1, z2⟩ := lzY_r (Y := zG (yN (At A k) k 40) k 4) (k := k)
  have rY : RR n P Q 0 (lzY (zG (yN (At A k) k 40) k 4) k) (lnM B k) := lzY_R (zG_R (yN_R r hk 40 (Nat.le_refl _)) hk 4 (Nat.le_refl _)) hk
  have row : ∀ a, ¬ a = mO k → ¬ a = mG k → ¬ a = mS k → ¬ a = 7 → lv2 (diN A k) k a = A a := fun a h1 h2 h3 h4 => by rw [l1 a h1 h2 h3, nr a h4 h1]
  have yow : ∀ a, ¬ a = mO k → ¬ a = mG k → ¬ a = mS k → ¬ a = 7 → lzY (zG (yN (At A k) k 40) k 4) k a = A a := fun a h1 h2 h3 h4 => by rw [z1 a h1, g1 a h2, y1 a h4 h3, t1 a h1]
  refine ⟨rY.ex2 (fun i s i' s' p => ?_) (fun i hi => ?_), ⟨I.n10, by omega, (I.g.nx).oth (fun s _ => ?_) (fun i hi => ?_), I.m.one hk (fun j e => ?_) (fun j e => ?_) w2 ?_⟩⟩
  · unfold Par at p
    have lo : ∀ a, a < 7 → lv2 (diN A k) k a = lzY (zG (yN (At A k) k 40) k 4) k a := fun a ha => by rw [row a (by unfold mO; omega) (by unfold mG; omega) (by unfold mS; omega) (by omega), yow a (by unfold mO; omega) (by unfold mG; omega) (by unfold mS; omega) (by omega)]
    rcases p with p | p | p | p | p | ⟨e, -⟩ | ⟨q, p1, p2, p3, p4⟩ | ⟨q, p1, p2, p3, p4, p5⟩ | ⟨q, p1, p2, p3, p4, p5⟩
    · rw [lo i (by omega)]
    · rw [lo i (by omega)]
    · rw [lo i (by omega)]
    · rw [lo i (by omega)]
    · rw [lo i (by omega)]
    · subst e
      rw [l1 7 (by unfold mO; omega) (by unfold mG; omega) (by unfold mS; omega), n7, z1 7 (by unfold mO; omega), g1 7 (by unfold mG; omega), y2, t1 7 (by unfold mO; omega), t1 _ n3]
    · have tb := T1_b _ p4
      simp only at tb
      by_cases e : q = k
      · subst e
        subst p2
        show lv2 (diN A q) q (mO q) s = lzY (zG (yN (At A q) q 40) q 4) q (mO q) s
        rw [w1 s (by omega), z2, g1 _ (by unfold mO mG; omega), y1 _ n1 (by unfold mO mS; omega), t2]
        by_cases e1 : s = 5 ∨ s = 6 ∨ s = 7
        · rw [if_pos (by omega), if_pos e1]
        · rw [if_neg e1]
          by_cases e2 : s = 0 ∨ s = 1 ∨ s = 4
          · rw [if_pos (by omega), if_pos e2]
          · rw [if_neg (by omega), if_neg e2]
      · rw [row i (by unfold mO; omega) (by unfold mG; omega) (by unfold mS; omega) (by omega), yow i (by unfold mO; omega) (by unfold mG; omega) (by unfold mS; omega) (by omega)]
    · by_cases e : q = k
      · subst e
        subst p2
        show lv2 (diN A q) q (mG q) s = lzY (zG (yN (At A q) q 40) q 4) q (mG q) s
        rw [l3 s p5, z1 _ (by unfold mO mG; omega), g2, if_pos p5]
      · rw [row i (by unfold mO; omega) (by unfold mG; omega) (by unfold mS; omega) (by omega), yow i (by unfold mO; omega) (by unfold mG; omega) (by unfold mS; omega) (by omega)]
    · by_cases e : q = k
      · subst e
        subst p2
        show lv2 (diN A q) q (mS q) s = lzY (zG (yN (At A q) q 40) q 4) q (mS q) s
        rw [l2 s p5, z1 _ n3, g1 _ (by unfold mG mS; omega), y3, if_pos p5]
      · rw [row i (by unfold mO; omega) (by unfold mG; omega) (by unfold mS; omega) (by omega), yow i (by unfold mO; omega) (by unfold mG; omega) (by unfold mS; omega) (by omega)]
  · unfold mdr at hi
    rw [row i (by unfold mO; omega) (by unfold mG; omega) (by unfold mS; omega) (by omega), yow i (by unfold mO; omega) (by unfold mG; omega) (by unfold mS; omega) (by omega)]
  · rw [row 0 (by unfold mO; omega) (by unfold mG; omega) (by unfold mS; omega) (by omega)]
  · rw [row i (by unfold mO; omega) (by unfold mG; omega) (by unfold mS; omega) (by omega)]
  · rw [row _ (by unfold mO; omega) (by unfold mO mG; omega) (by unfold mO mS; omega) (by unfold mO; omega)]
  · rw [row _ (by unfold mO mS; omega) (by unfold mS mG; omega) (by unfold mS; omega) (by unfold mS; omega)]
  · rw [w3]; have := m.msn; omega
theorem die_h {n c : Nat} (hc : c < 512) {P Q : Mem} {A B : Mem} (I : Iv c n A) {k j : Nat} (hk : k < n) (hj : j < n) (hjk : ¬ j = k) (r : RR n P Q 0 (At A k) B) : RR n P Q 0 (lv2 (diS A k j) k) (lhM B k j) ∧ Iv (c + 1) n (lv2 (diS A k j) k) := by
  obtain ⟨t1, t2⟩ := At_r (A := A) (k := k)
  obtain ⟨d1, d2⟩ := di1_r (A := A) (k := k)
  have m := I.m.mi k hk
  have bb := I.msle hk
  have mj := I.m.mi j hj
  have n3 : ¬ mS k = mO k := by unfold mS mO; omega
  obtain ⟨i1, i2, i3, i4⟩ := in_C (A := di1 A k) hjk (A 6 2) (diS A k j) rfl
  have k1 : ¬ mO k = mS j := by unfold mS mO; omega
  have k2 : ¬ mO k = mO j := by unfold mO; omega
  have k3 : ¬ mO k = mG j := by unfold mO mG; omega
  have k4 : ¬ mS k = mS j := by unfold mS; omega
  have k5 : ¬ mS k = mO j := by unfold mS mO; omega
  have k6 : ¬ mS k = mG j := by unfold mS mG; omega
  have k7 : ¬ mG k = mS j := by unfold mS mG; omega
  have k8 : ¬ mG k = mO j := by unfold mG mO; omega
  have k9 : ¬ mG k = mG j := by unfold mG; omega
  have ka : ¬ mG k = mO k := by unfold mG mO; omega
  have kb : ¬ mO k = mG k := by unfold mG mO; omega
  have kc : ¬ mO k = mS k := by unfold mO mS; omega
  have kd : ¬ mS k = mG k := by unfold mG mS; omega
  have ke : ¬ mG k = mS k := by unfold mG mS; omega
  have j1 : ¬ mO j = mO k := fun e => k2 e.symm
  have j2 : ¬ mS j = mO k := fun e => k1 e.symm
  have j3 : ¬ mG j = mO k := fun e => k3 e.symm
  have j4 : ¬ mO j = mG k := fun e => k8 e.symm
  have j5 : ¬ mS j = mG k := fun e => k7 e.symm
  have j6 : ¬ mG j = mG k := fun e => k9 e.symm
  have j7 : ¬ mO j = mS k := fun e => k5 e.symm
  have j8 : ¬ mS j = mS k := fun e => k4 e.symm
  have j9 : ¬ mG j = mS k := fun e => k6 e.symm
  have ja : ¬ mO j = mG j := by unfold mO mG; omega
  have jb : ¬ mO j = mS j := by unfold mO mS; omega
  have jc : ¬ mS j = mG j := by unfold mG mS; omega
  have jd : ¬ mS j = mO j := by unfold mO mS; omega
  have je : ¬ mG j = mO j := by unfold mO mG; omega
  have jf : ¬ mG j = mS j := by unfold mG mS; omega
  have nO : diS A k j (mO k) = upd (A (mO k)) 0 0 := by rw [i1 _ k1 k2 k3, d2]
  have nS : diS A k j (mS k) = A (mS k) := by rw [i1 _ k4 k5 k6, d1 _ n3]
  obtain ⟨w1, w2, w3⟩ := dead_row (M := diS A k j) m bb nO nS
  obtain ⟨l1, l2, l3, -, -⟩ := lv2_C (n := n) (M := diS A k j) (k := k) (by rw [nO, nS]; exact m.o 0 0 (h0 := fun _ => Or.inl rfl)) (by rw [nO, nS, msX _ _ 0 _ (by decide)]; exact bb)
  -- the heir's rows
  have fO : ∀ s, lv2 (diS A k j) k (mO j) s = if s = 12 then A (mO j) 12 + sm (A (mS k)) 40 else if s = 5 then A (mO j) 5 + A (mO k) 5 else if s = 6 then A (mO j) 6 + (if A 6 2 = 0 then A (mO k) 6 else 0) else if s = 7 then A (mO j) 7 + (if A 6 2 = 0 then A (mO k) 7 else 0) else A (mO j) s := by
    intro s
    rw [l1 _ j1 j4 j7, i4, d1 _ j1, d2, d1 _ n3]
    rfl
  have fS : ∀ i, i < 40 → lv2 (diS A k j) k (mS j) i = A (mS j) i + A (mS k) i := fun i hi => by rw [l1 _ j2 j5 j8, i2 i hi, d1 _ j2, d1 _ n3]
  have fG : ∀ i, i < 4 → lv2 (diS A k j) k (mG j) i = A (mG j) i + A (mG k) i := fun i hi => by rw [l1 _ j3 j6 j9, i3 i hi, d1 _ j3, d1 _ ka]
  have row : ∀ a, ¬ a = mO k → ¬ a = mG k → ¬ a = mS k → ¬ a = mO j → ¬ a = mG j → ¬ a = mS j → lv2 (diS A k j) k a = A a := fun a h1 h2 h3 h4 h5 h6 => by rw [l1 a h1 h2 h3, i1 a h6 h4 h5, d1 a h1]
  -- the same in the other's order
  obtain ⟨y1, y2, y3⟩ := yS_C (A := At A k) hjk 40
  obtain ⟨g1, g2, g3⟩ := yG_C (A := yS (At A k) k j 40) hjk 4
  have rS := yG_R (yS_R r hk hj 40 (Nat.le_refl _)) hk hj 4 (Nat.le_refl _)
  generalize hY : yG (yS (At A k) k j 40) k j 4 = Y at *
  have yOk : Y (mO k) = At A k (mO k) := by rw [g1 _ k3 kb, y1 _ k1 kc]
  have yOj : Y (mO j) = A (mO j) := by rw [g1 _ ja j4, y1 _ jb j7, t1 _ j1]
  have ySk : ∀ i, i < 40 → Y (mS k) i = 0 := fun i hi => by rw [g1 _ k6 kd, y3, if_pos hi]
  have ySj : ∀ i, i < 40 → Y (mS j) i = A (mS j) i + A (mS k) i := fun i hi => by rw [g1 _ jc j5, y2, if_pos hi, t1 _ j2, t1 _ n3]
  have yGk : ∀ i, i < 4 → Y (mG k) i = 0 := fun i hi => by rw [g3, if_pos hi]
  have yGj : ∀ i, i < 4 → Y (mG j) i = A (mG j) i + A (mG k) i := fun i hi => by rw [g2, if_pos hi, y1 _ jf j9, y1 _ k7 ke, t1 _ j3, t1 _ ka]
  have yrow : ∀ a, ¬ a = mO k → ¬ a = mG k → ¬ a = mS k → ¬ a = mG j → ¬ a = mS j → Y a = A a := fun a h1 h2 h3 h5 h6 => by rw [g1 a h5 h2, y1 a h6 h3, t1 a h1]
  have r3 : RR n P Q 0 (up Y (mO j) 5 (Y (mO j) 5 + Y (mO k) 5)) (lh1 (lhG (lhS B k j 40) k j 4) k j) := rS.pw (paO hj (by decide)) (by rw [rS.cn hj, rS.cn hk])
  have law : (lhG (lhS B k j 40) k j 4) 25 2 = B 25 2 := by
    have a : ∀ m, lhS B k j m 25 = B 25 := by
      intro m
      induction m with
      | zero => rfl
      | succ m ih => unfold lhS; rw [up_row (by decide), up_row (by decide), ih]
    have b : ∀ m, lhG (lhS B k j 40) k j m 25 = B 25 := by
      intro m
      induction m with
      | zero => exact a 40
      | succ m ih => unfold lhG; rw [up_row (by decide), up_row (by decide), ih]
    rw [b]
  have l6 : B 25 2 = A 6 2 := by rw [r.la (by decide), t1 _ (by unfold mO; omega)]
  have e5 : Y (mO k) 5 = A (mO k) 5 := by rw [yOk, t2, if_neg (by decide)]
  have e6 : Y (mO k) 6 = A (mO k) 6 := by rw [yOk, t2, if_neg (by decide)]
  have e7 : Y (mO k) 7 = A (mO k) 7 := by rw [yOk, t2, if_neg (by decide)]
  generalize hY3 : up Y (mO j) 5 (Y (mO j) 5 + Y (mO k) 5) = Y3 at r3
  have f3 : ∀ a, ¬ a = mO j → Y3 a = Y a := fun a ha => by rw [← hY3, up_row ha]
  have f3j : ∀ s, Y3 (mO j) s = if s = 5 then A (mO j) 5 + A (mO k) 5 else A (mO j) s := fun s => by rw [← hY3, up_r, if_pos rfl, yOj, e5]
  have r4 : ∃ Y4, RR n P Q 0 (lzY Y4 k) (lhM B k j) ∧ (∀ a, ¬ a = mO j → Y4 a = Y a) ∧ (∀ s, Y4 (mO j) s = if s = 5 then A (mO j) 5 + A (mO k) 5 else if s = 6 then A (mO j) 6 + (if A 6 2 = 0 then A (mO k) 6 else 0) else if s = 7 then A (mO j) 7 + (if A 6 2 = 0 then A (mO k) 7 else 0) else A (mO j) s) := by
    unfold lhM
    rw [l6]
    by_cases hw : A 6 2 = 0
    · refine ⟨up (up Y3 (mO j) 6 (Y3 (mO j) 6 + Y3 (mO k) 6)) (mO j) 7 (Y3 (mO j) 7 + Y3 (mO k) 7), ?_, fun a ha => by rw [up_row ha, up_row ha, f3 a ha], fun s => ?_⟩
      · rw [if_pos hw]
        refine lzY_R ?_ hk
        unfold lh2
        have a1 := r3.pw (i := mO j) (k := 6) (i' := 15) (k' := j) (paO hj (by decide)) (v := Y3 (mO j) 6 + Y3 (mO k) 6) (v' := lh1 (lhG (lhS B k j 40) k j 4) k j 15 j + lh1 (lhG (lhS B k j 40) k j 4) k j 15 k) (by rw [r3.de hj, r3.de hk])
        exact a1.pw (paO hj (by decide)) (by rw [a1.ar hj, a1.ar hk, up_oth (by decide), up_row k2])
      · simp only [if_pos hw]
        rw [up_r, if_pos rfl, f3 _ k2, e6, e7]
        by_cases q7 : s = 7
        · subst q7; rw [if_pos rfl, if_neg (by decide), if_neg (by decide), if_pos rfl, f3j, if_neg (by decide)]
        rw [if_neg q7, up_r, if_pos rfl]
        by_cases q6 : s = 6
        · subst q6; rw [if_pos rfl, if_neg (by decide), if_pos rfl, f3j, if_neg (by decide)]
        rw [if_neg q6, f3j, if_neg q6, if_neg q7]
    · refine ⟨Y3, ?_, f3, fun s => ?_⟩
      · rw [if_neg hw]
        refine lzY_R ?_ hk
        unfold lh3
        rw [Int32.add_zero, up_id, Int32.add_zero, up_id]
        exact r3
      · simp only [if_neg hw]
        rw [f3j]
        by_cases q5 : s = 5
        · rw [if_pos q5, if_pos q5]
        rw [if_neg q5, if_neg q5]
        by_cases q6 : s = 6
        · rw [if_pos q6, q6, Int32.add_zero]
        rw [if_neg q6]
        by_cases q7 : s = 7
        · rw [if_pos q7, q7, Int32.add_zero]
        rw [if_neg q7]
  obtain ⟨Y4, rY, v1, v2⟩ := r4
  obtain ⟨z1, z2⟩ := lzY_r (Y := Y4) (k := k)
  have yow : ∀ a, ¬ a = mO k → ¬ a = mG k → ¬ a = mS k → ¬ a = mO j → ¬ a = mG j → ¬ a = mS j → lzY Y4 k a = A a := fun a h1 h2 h3 h4 h5 h6 => by rw [z1 a h1, v1 a h4, yrow a h1 h2 h3 h5 h6]
  -- the heir counts
  have tp := TM_pair I.m.mi hjk n (Nat.le_refl _) hj hk
  have tt := I.m.tm
  have c5 := I.c5
  have bdk := m.bd
  have bdj := mj.bd
  have pk5 := m.p5
  have pk6 := m.p6
  have pk7 := m.p7
  have pj5 := mj.p5
  have pj6 := mj.p6
  have pj7 := mj.p7
  have z0 : (0 : Int32).toInt = 0 := rfl
  have h5 : (A (mO j) 5 + A (mO k) 5).toInt = (A (mO j) 5).toInt + (A (mO k) 5).toInt := ia (by omega) (by omega)
  have h6 : 0 ≤ (A (mO j) 6 + (if A 6 2 = 0 then A (mO k) 6 else 0)).toInt ∧ (A (mO j) 6 + (if A 6 2 = 0 then A (mO k) 6 else 0)).toInt ≤ (A (mO j) 6).toInt + (A (mO k) 6).toInt := by
    split
    · rw [ia (by omega) (by omega)]; omega
    · rw [ia (by omega) (by omega)]; omega
  have h7 : 0 ≤ (A (mO j) 7 + (if A 6 2 = 0 then A (mO k) 7 else 0)).toInt ∧ (A (mO j) 7 + (if A 6 2 = 0 then A (mO k) 7 else 0)).toInt ≤ (A (mO j) 7).toInt + (A (mO k) 7).toInt := by
    split
    · rw [ia (by omega) (by omega)]; omega
    · rw [ia (by omega) (by omega)]; omega
  have cell : ∀ (o s : Nat → Int32), MI n o s → ∀ i, i < 40 → (s i).toInt ≤ si s 40 := by
    intro o s ms i hi
    have a := si_mono ms.ps (q := i + 1) (by omega)
    have b := si_nn (f := s) (m := i) (fun q hq => ms.ps q (by omega))
    have d : si s (i + 1) = si s i + (s i).toInt := rfl
    omega
  have hs : ∀ i, i < 40 → (A (mS j) i + A (mS k) i).toInt = (A (mS j) i).toInt + (A (mS k) i).toInt := fun i hi => by
    have a := cell _ _ m i hi
    have b := cell _ _ mj i hi
    have e := m.ps i hi
    have f := mj.ps i hi
    exact ia (by omega) (by omega)
  have hsi : si (lv2 (diS A k j) k (mS j)) 40 = si (A (mS j)) 40 + si (A (mS k)) 40 := by
    have : ∀ q, q ≤ 40 → si (lv2 (diS A k j) k (mS j)) q = si (A (mS j)) q + si (A (mS k)) q := by
      intro q
      induction q with
      | zero => intro _; rfl
      | succ q ih =>
        intro hq
        have a := ih (by omega)
        unfold si
        rw [a, fS q (by omega), hs q (by omega)]; omega
    exact this 40 (Nat.le_refl _)
  have hsm : sm (lv2 (diS A k j) k (mS j)) 40 = sm (A (mS j)) 40 + sm (A (mS k)) 40 := by
    rw [sm_congr (g := fun i => A (mS j) i + A (mS k) i) (fun i hi => fS i hi), sm_add]
  have x0 := fO 0
  have mjF : MI n (lv2 (diS A k j) k (mO j)) (lv2 (diS A k j) k (mS j)) := by
    refine ⟨?_, ?_, ?_, ?_, ?_, ?_, ?_, ?_, fun i hi => ?_, ?_⟩
    · rw [fO]; exact mj.b0
    · rw [fO]; exact mj.b1
    · rw [fO]; exact mj.b2
    · rw [fO]; exact mj.k3
    · rw [fO]; exact mj.p4
    · rw [fO]; show 0 ≤ (A (mO j) 5 + A (mO k) 5).toInt; omega
    · rw [fO]; exact h6.1
    · rw [fO]; exact h7.1
    · rw [fS i hi, hs i hi]; have := m.ps i hi; have := mj.ps i hi; omega
    · rw [fO, fO, hsm, ← mj.cw]
      show A (mO j) 12 + sm (A (mS k)) 40 - A (mO j) 13 = A (mO j) 12 - A (mO j) 13 + sm (A (mS k)) 40
      grind
  have msF : msR (lv2 (diS A k j) k (mO j)) (lv2 (diS A k j) k (mS j)) ≤ msR (A (mO j)) (A (mS j)) + msR (A (mO k)) (A (mS k)) := by
    have q4 : lv2 (diS A k j) k (mO j) 4 = A (mO j) 4 := fO 4
    have q5 : lv2 (diS A k j) k (mO j) 5 = A (mO j) 5 + A (mO k) 5 := fO 5
    have q6 : lv2 (diS A k j) k (mO j) 6 = A (mO j) 6 + (if A 6 2 = 0 then A (mO k) 6 else 0) := fO 6
    have q7 : lv2 (diS A k j) k (mO j) 7 = A (mO j) 7 + (if A 6 2 = 0 then A (mO k) 7 else 0) := fO 7
    unfold msR
    rw [q4, q5, q6, q7, hsi, h5]
    have := m.p4
    omega
  refine ⟨rY.ex2 (fun i s i' s' p => ?_) (fun i hi => ?_), ⟨I.n10, by omega, (I.g.nx).oth (fun s _ => ?_) (fun i hi => ?_), I.m.two hk hj hjk (fun q h1 h2 => ?_) (fun q h1 h2 => ?_) w2 mjF (by rw [w3]; omega)⟩⟩
  · unfold Par at p
    have lo : ∀ a, a < 28 → lv2 (diS A k j) k a = lzY Y4 k a := fun a ha => by rw [row a (by unfold mO; omega) (by unfold mG; omega) (by unfold mS; omega) (by unfold mO; omega) (by unfold mG; omega) (by unfold mS; omega), yow a (by unfold mO; omega) (by unfold mG; omega) (by unfold mS; omega) (by unfold mO; omega) (by unfold mG; omega) (by unfold mS; omega)]
    have ot : ∀ a q, (a = 28 + 3 * q ∨ a = 29 + 3 * q ∨ a = 30 + 3 * q) → ¬ q = k → ¬ q = j → lv2 (diS A k j) k a = lzY Y4 k a := fun a q ha h1 h2 => by rw [row a (by unfold mO; omega) (by unfold mG; omega) (by unfold mS; omega) (by unfold mO; omega) (by unfold mG; omega) (by unfold mS; omega), yow a (by unfold mO; omega) (by unfold mG; omega) (by unfold mS; omega) (by unfold mO; omega) (by unfold mG; omega) (by unfold mS; omega)]
    rcases p with p | p | p | p | p | p | ⟨q, p1, p2, p3, p4⟩ | ⟨q, p1, p2, p3, p4, p5⟩ | ⟨q, p1, p2, p3, p4, p5⟩
    · rw [lo i (by omega)]
    · rw [lo i (by omega)]
    · rw [lo i (by omega)]
    · rw [lo i (by omega)]
    · rw [lo i (by omega)]
    · rw [lo i (by omega)]
    · have tb := T1_b _ p4
      simp only at tb
      by_cases e : q = k
      · subst e
        subst p2
        show lv2 (diS A q j) q (mO q) s = lzY Y4 q (mO q) s
        rw [w1 s (by omega), z2, v1 _ k2, yOk, t2]
        by_cases e1 : s = 5 ∨ s = 6 ∨ s = 7
        · rw [if_pos (by omega), if_pos e1]
        · rw [if_neg e1]
          by_cases e2 : s = 0 ∨ s = 1 ∨ s = 4
          · rw [if_pos (by omega), if_pos e2]
          · rw [if_neg (by omega), if_neg e2]
      · by_cases e' : q = j
        · subst e'
          subst p2
          show lv2 (diS A k q) k (mO q) s = lzY Y4 k (mO q) s
          rw [fO, z1 _ j1, v2, if_neg (show ¬ s = 12 by omega)]
        · rw [ot i q (Or.inl p2) e e']
    · by_cases e : q = k
      · subst e
        subst p2
        show lv2 (diS A q j) q (mG q) s = lzY Y4 q (mG q) s
        rw [l3 s p5, z1 _ ka, v1 _ k8, yGk s p5]
      · by_cases e' : q = j
        · subst e'
          subst p2
          show lv2 (diS A k q) k (mG q) s = lzY Y4 k (mG q) s
          rw [fG s p5, z1 _ j3, v1 _ je, yGj s p5]
        · rw [ot i q (Or.inr (Or.inl p2)) e e']
    · by_cases e : q = k
      · subst e
        subst p2
        show lv2 (diS A q j) q (mS q) s = lzY Y4 q (mS q) s
        rw [l2 s p5, z1 _ n3, v1 _ k5, ySk s p5]
      · by_cases e' : q = j
        · subst e'
          subst p2
          show lv2 (diS A k q) k (mS q) s = lzY Y4 k (mS q) s
          rw [fS s p5, z1 _ j2, v1 _ jd, ySj s p5]
        · rw [ot i q (Or.inr (Or.inr p2)) e e']
  · unfold mdr at hi
    rw [row i (by unfold mO; omega) (by unfold mG; omega) (by unfold mS; omega) (by unfold mO; omega) (by unfold mG; omega) (by unfold mS; omega), yow i (by unfold mO; omega) (by unfold mG; omega) (by unfold mS; omega) (by unfold mO; omega) (by unfold mG; omega) (by unfold mS; omega)]
  · rw [row 0 (by unfold mO; omega) (by unfold mG; omega) (by unfold mS; omega) (by unfold mO; omega) (by unfold mG; omega) (by unfold mS; omega)]
  · rw [row i (by unfold mO; omega) (by unfold mG; omega) (by unfold mS; omega) (by unfold mO; omega) (by unfold mG; omega) (by unfold mS; omega)]
  · rw [row _ (by unfold mO; omega) (by unfold mO mG; omega) (by unfold mO mS; omega) (by unfold mO; omega) (by unfold mO mG; omega) (by unfold mO mS; omega)]
  · rw [row _ (by unfold mO mS; omega) (by unfold mS mG; omega) (by unfold mS; omega) (by unfold mO mS; omega) (by unfold mS mG; omega) (by unfold mS; omega)]
theorem s_die {n c : Nat} (hc : c < 512) {k : Nat} (hk : k < n) : Sim n c [IX, IS] (fun M => o_die M n k) (fun B => omdie B k) := by
  intro P Q A B h I
  show Cl n c _ P Q (o_die A n k) (omdie B k)
  unfold o_die omdie
  rw [h.al hk]
  by_cases h1 : A (mO k) 0 = 0
  · rw [if_pos h1, if_pos h1]; exact Cl.thr hc h I (by decide) (by decide)
  rw [if_neg h1, if_neg h1]
  obtain ⟨a1, a2, a3⟩ := heir_R h I hk
  rw [a1]
  rcases a3 with a3 | ⟨q, q1, q2, q3, q4⟩
  · rw [if_pos a3, if_pos a3]
    obtain ⟨b1, b2⟩ := die_n hc I hk a2
    exact Cl.ok b1 b2 rfl
  · have n10 := I.n10
    have : ¬ diH A n k = -1 := by rw [q3]; exact neg1 (by omega)
    rw [if_neg this, if_neg this]
    have e : (diH A n k).toNatClampNeg = q := by rw [q3]; exact nI_clamp (by omega)
    rw [e]
    obtain ⟨b1, b2⟩ := die_h hc I hk q1 q2 a2
    exact Cl.ok b1 b2 rfl
end MathM
