/-! Soup, in the law and in the class. -/
section LawJ
def cn (p : Nat → Bool) : Nat → Nat
  | 0 => 0
  | m + 1 => cn p m + (if p m = true then 1 else 0)
theorem cn_s (p : Nat → Bool) (m : Nat) : cn p (m + 1) = cn p m + (if p m = true then 1 else 0) := rfl
theorem cn_cg {p q : Nat → Bool} {m : Nat} (h : ∀ j, j < m → p j = q j) : cn p m = cn q m := by
  induction m with
  | zero => rfl
  | succ m ih => rw [cn_s, cn_s, ih (fun j hj => h j (by omega)), h m (by omega)]
theorem cn_le {p q : Nat → Bool} {m : Nat} (h : ∀ j, j < m → p j = true → q j = true) : cn p m ≤ cn q m := by
  induction m with
  | zero => exact Nat.le_refl _
  | succ m ih =>
    have := ih (fun j hj => h j (by omega))
    have h2 := h m (by omega)
    rw [cn_s, cn_s]
    by_cases e : p m = true
    · rw [if_pos e, if_pos (h2 e)]; omega
    · rw [if_neg e]; omega
theorem cn_lt {p q : Nat → Bool} {k : Nat} (hp : p k = false) (hq : q k = true) : ∀ {m : Nat}, k < m → (∀ j, j < m → p j = true → q j = true) → cn p m < cn q m := by
  intro m
  induction m with
  | zero => intro h; omega
  | succ m ih =>
    intro hk h
    rw [cn_s, cn_s]
    by_cases e : k = m
    · subst e
      have := cn_le (p := p) (q := q) (m := k) (fun j hj => h j (by omega))
      rw [hp, hq, if_neg (by decide), if_pos rfl]; omega
    · have i1 := ih (by omega) (fun j hj => h j (by omega))
      have h2 := h m (by omega)
      by_cases e : p m = true
      · rw [if_pos e, if_pos (h2 e)]; omega
      · rw [if_neg e]; omega
theorem cn_m (p : Nat → Bool) (m : Nat) : cn p m ≤ m := by
  induction m with
  | zero => exact Nat.le_refl _
  | succ m ih => rw [cn_s]; split <;> omega
theorem cn_set {p p' : Nat → Bool} {q : Nat} (hq : p q = false) {m : Nat} (h : ∀ j, j < m → p' j = (p j || decide (j = q))) : cn p' m = cn p m + (if q < m then 1 else 0) := by
  induction m with
  | zero => rfl
  | succ m ih =>
    rw [cn_s, cn_s, ih (fun j hj => h j (by omega)), h m (by omega)]
    by_cases e : m = q
    · subst e
      rw [hq, if_pos (show (false || decide (m = m)) = true by simp), if_neg (show ¬ m < m by omega), if_neg (show ¬ false = true by decide), if_pos (show m < m + 1 by omega)]
    · rw [decide_eq_false e, Bool.or_false]
      by_cases e2 : q < m
      · rw [if_pos e2, if_pos (show q < m + 1 by omega)]; omega
      · rw [if_neg e2, if_neg (show ¬ q < m + 1 by omega)]; omega
/-- the bits that stand -/
abbrev nb (s : Int32) (j : Nat) : Bool := decide (¬ bz s j)
abbrev low (s : Int32) : Prop := ∀ i, 5 ≤ i → s.toBitVec.getLsbD i = false
theorem low_0 : low 0 := fun i _ => by
  show (0#32).getLsbD i = false
  simp
theorem bz_0 (j : Nat) (hj : j < 10) : bz 0 j := by
  rw [bz_iff _ hj]
  show (0#32).getLsbD j = false
  simp
theorem low_or {x : Int32} {q : Nat} (hq : q < 5) (hx : low x) : low (x ||| 1 <<< (nI q &&& 31)) := fun i hi => by
  rw [Int32.toBitVec_or, sl_eq (by omega), BitVec.getLsbD_or, hx i hi, BitVec.getLsbD_shiftLeft]
  have h1 : (1#32).getLsbD (i - q) = decide (i - q = 0) := by simp
  rw [h1, decide_eq_false (show ¬ i - q = 0 by omega)]
  simp
theorem bits_ext {x y : Int32} (hx : low x) (hy : low y) (h : ∀ j, j < 5 → (bz x j ↔ bz y j)) : x = y := by
  rw [← Int32.toBitVec_inj]
  apply BitVec.eq_of_getLsbD_eq
  intro i _
  by_cases e : i < 5
  · have := h i e
    rw [bz_iff _ (by omega), bz_iff _ (by omega)] at this
    cases hx1 : x.toBitVec.getLsbD i
    · exact (this.mp hx1).symm
    · cases hy1 : y.toBitVec.getLsbD i
      · rw [this.mpr hy1] at hx1; exact absurd hx1 (by decide)
      · rfl
  · rw [hx i (by omega), hy i (by omega)]
/-- who comes before -/
abbrev bf (M : Mem) (j k : Nat) : Prop := mea M j < mea M k ∨ (mea M j = mea M k ∧ j < k)
theorem pb_cg {M M' : Mem} (h : ∀ i, ¬ i = 0 → M' i = M i) (s : Int32) : ∀ j, pb M' s j = pb M s j
  | 0 => rfl
  | j + 1 => by
    rw [pb_s, pb_s, pb_cg h s j]
    unfold mea
    rw [h (mO j) (by unfold mO; omega), h (mS j) (by unfold mS; omega)]
theorem pb_L (M : Mem) (s : Int32) : ∀ j, j ≤ 5 → ((pb M s j).1 = -1 ∧ ∀ r, r < j → ¬ M (mO r) 0 = 0 → ¬ bz s r) ∨ ∃ q, q < j ∧ (pb M s j).1 = nI q ∧ (pb M s j).2 = mea M q ∧ ¬ M (mO q) 0 = 0 ∧ bz s q ∧ ∀ r, r < j → ¬ M (mO r) 0 = 0 → bz s r → r = q ∨ bf M q r := by
  intro j
  induction j with
  | zero => intro _; exact Or.inl ⟨rfl, fun r hr => by omega⟩
  | succ j ih =>
    intro hj
    have i2 := ih (by omega)
    rw [pb_s]
    have stay : (M (mO j) 0 = 0 ∨ ¬ bz s j) → ((pb M s j).1 = -1 ∧ ∀ r, r < j + 1 → ¬ M (mO r) 0 = 0 → ¬ bz s r) ∨ ∃ q, q < j + 1 ∧ (pb M s j).1 = nI q ∧ (pb M s j).2 = mea M q ∧ ¬ M (mO q) 0 = 0 ∧ bz s q ∧ ∀ r, r < j + 1 → ¬ M (mO r) 0 = 0 → bz s r → r = q ∨ bf M q r := by
      intro hs
      rcases i2 with ⟨a1, a2⟩ | ⟨q, a1, a2, a3, a4, a5, a6⟩
      · refine Or.inl ⟨a1, fun r hr h1 => ?_⟩
        by_cases e : r = j
        · subst e
          rcases hs with h | h
          · exact absurd h h1
          · exact h
        · exact a2 r (by omega) h1
      · refine Or.inr ⟨q, by omega, a2, a3, a4, a5, fun r hr h1 h2 => ?_⟩
        by_cases e : r = j
        · subst e
          rcases hs with h | h
          · exact absurd h h1
          · exact absurd h2 h
        · exact a6 r (by omega) h1 h2
    by_cases h1 : M (mO j) 0 = 0
    · rw [if_pos h1]; exact stay (Or.inl h1)
    rw [if_neg h1]
    by_cases h2 : bz s j
    case neg =>
      have h2' : ¬ s >>> (nI j &&& 31) &&& 1 = 0 := h2
      rw [if_neg h2']; exact stay (Or.inr h2)
    have h2' : s >>> (nI j &&& 31) &&& 1 = 0 := h2
    rw [if_pos h2']
    rcases i2 with ⟨a1, a2⟩ | ⟨q, a1, a2, a3, a4, a5, a6⟩
    · rw [if_pos a1]
      refine Or.inr ⟨j, by omega, rfl, rfl, h1, h2, fun r hr w1 w2 => ?_⟩
      by_cases e : r = j
      · exact Or.inl e
      · exact absurd w2 (a2 r (by omega) w1)
    · have nq : ¬ (pb M s j).1 = -1 := by rw [a2]; exact neg1 (by omega)
      rw [if_neg nq, a3]
      by_cases h3 : mea M q ≤ mea M j
      · rw [if_pos h3]
        refine Or.inr ⟨q, by omega, a2, a3, a4, a5, fun r hr w1 w2 => ?_⟩
        by_cases e : r = j
        · subst e
          refine Or.inr ?_
          by_cases e2 : mea M q = mea M r
          · exact Or.inr ⟨e2, a1⟩
          · exact Or.inl (by rw [lti]; rw [lei] at h3; rw [eqi] at e2; omega)
        · exact a6 r (by omega) w1 w2
      · rw [if_neg h3]
        refine Or.inr ⟨j, by omega, rfl, rfl, h1, h2, fun r hr w1 w2 => ?_⟩
        by_cases e : r = j
        · exact Or.inl e
        · refine Or.inr (Or.inl ?_)
          rw [lei] at h3
          rw [lti]
          rcases a6 r (by omega) w1 w2 with u | u | u
          · rw [u]; omega
          · rw [lti] at u; omega
          · rw [← u.1]; omega
theorem up_twice (M : Mem) (i k : Nat) (v w : Int32) : up (up M i k v) i k w = up M i k w := by
  funext a b
  simp only [up_r]
  grind
/-- who has been served: alive, and nobody poorer waits -/
abbrev Srv (M : Mem) (s : Int32) (t : Nat) : Prop := low s ∧ cn (nb s) 5 = t ∧ (∀ j, j < 5 → ¬ bz s j → ¬ M (mO j) 0 = 0) ∧ (∀ j k, j < 5 → k < 5 → ¬ bz s j → bz s k → ¬ M (mO k) 0 = 0 → bf M j k)
theorem sp_L {M : Mem} (hF : (M 0 16).toInt ≤ 1000000) : ∀ (f t : Nat) (v s : Int32), t + f = 5 → v.toInt + 2 * t = (M 0 16).toInt → 0 ≤ v.toInt → Srv M s t → ∃ (t' : Nat) (v' s' : Int32), sp 5 (up M 0 16 v) s f = (up M 0 16 v', s') ∧ v'.toInt + 2 * t' = (M 0 16).toInt ∧ 0 ≤ v'.toInt ∧ Srv M s' t' ∧ (v'.toInt < 2 ∨ ∀ k, k < 5 → ¬ M (mO k) 0 = 0 → ¬ bz s' k) := by
  intro f
  induction f with
  | zero =>
    intro t v s ht hv h0 h
    refine ⟨t, v, s, rfl, hv, h0, h, Or.inr (fun k hk _ hb => ?_)⟩
    have := cn_lt (p := nb s) (q := fun _ => true) (k := k) (by simp [nb, hb]) rfl (m := 5) hk (fun _ _ _ => rfl)
    rw [h.2.1] at this
    have h5 : cn (fun _ => true) 5 = 5 := rfl
    omega
  | succ f ih =>
    intro t v s ht hv h0 h
    rw [sp_s, up_same, up_twice]
    have e2 : (2 : Int32).toInt = 2 := rfl
    by_cases h1 : v < 2
    · rw [if_pos h1]
      rw [lti, e2] at h1
      exact ⟨t, v, s, rfl, hv, h0, h, Or.inl h1⟩
    rw [if_neg h1, pb_cg (M := M) (fun i hi => up_row hi)]
    rw [lti, e2] at h1
    obtain ⟨l1, l2, l3, l4⟩ := h
    rcases pb_L M s 5 (Nat.le_refl 5) with ⟨a1, a2⟩ | ⟨q, a1, a2, a3, a4, a5, a6⟩
    · rw [if_pos a1]
      exact ⟨t, v, s, rfl, hv, h0, ⟨l1, l2, l3, l4⟩, Or.inr a2⟩
    · rw [if_neg (by rw [a2]; exact neg1 (by omega)), a2]
      have ev : (v - 2).toInt = v.toInt - 2 := is (by rw [e2]; omega) (by rw [e2]; omega)
      refine ih (t + 1) (v - 2) _ (by omega) (by rw [ev]; omega) (by rw [ev]; omega) ⟨low_or a1 l1, ?_, fun j hj w => ?_, fun j k hj hk w1 w2 w3 => ?_⟩
      · rw [cn_set (p := nb s) (q := q) (by simp [nb, a5]) (fun j hj => ?_), l2, if_pos a1]
        have b := bz_set s (j := j) (q := q) (by omega) (by omega)
        by_cases u : bz s j
        · by_cases u2 : j = q
          · have : ¬ bz (s ||| 1 <<< (nI q &&& 31)) j := fun w => (b.mp w).2 u2
            show decide (¬ bz (s ||| 1 <<< (nI q &&& 31)) j) = (decide (¬ bz s j) || decide (j = q))
            rw [decide_eq_true this, decide_eq_true u2, Bool.or_true]
          · have : bz (s ||| 1 <<< (nI q &&& 31)) j := b.mpr ⟨u, u2⟩
            simp [nb, this, u, u2]
        · have : ¬ bz (s ||| 1 <<< (nI q &&& 31)) j := fun w => u (b.mp w).1
          simp [nb, this, u]
      · have b := bz_set s (j := j) (q := q) (by omega) (by omega)
        by_cases u2 : j = q
        · subst u2; exact a4
        · exact l3 j hj (fun w2 => w (b.mpr ⟨w2, u2⟩))
      · have b := bz_set s (j := j) (q := q) (by omega) (by omega)
        have b2 := (bz_set s (j := k) (q := q) (by omega) (by omega)).mp w2
        by_cases u2 : j = q
        · subst u2
          rcases a6 k hk w3 b2.1 with w | w
          · exact absurd w b2.2
          · exact w
        · exact l4 j k hj hk (fun w2 => w1 (b.mpr ⟨w2, u2⟩)) b2.1 w3
/-- the rank tells who is served -/
theorem srv_rank {M : Mem} {s : Int32} {t h : Nat} (r : Srv M s t) (ht : t ≤ h) (he : t = h ∨ ∀ k, k < 5 → ¬ M (mO k) 0 = 0 → ¬ bz s k) {k : Nat} (hk : k < 5) (hal : ¬ M (mO k) 0 = 0) : ¬ bz s k ↔ cn (fun j => decide (¬ M (mO j) 0 = 0 ∧ bf M j k)) 5 < h := by
  obtain ⟨l1, l2, l3, l4⟩ := r
  have ir : ¬ bf M k k := by
    rintro (w | w)
    · rw [lti] at w; omega
    · omega
  constructor
  · intro hb
    have : cn (fun j => decide (¬ M (mO j) 0 = 0 ∧ bf M j k)) 5 < cn (nb s) 5 := by
      refine cn_lt (k := k) (decide_eq_false (fun w => ir w.2)) (decide_eq_true hb) hk (fun j hj w => ?_)
      have w1 := of_decide_eq_true w
      refine decide_eq_true (fun w2 => ?_)
      have w3 := l4 k j hk hj hb w2 w1.1
      have w4 := w1.2
      unfold bf at w3 w4
      rw [lti, eqi] at w3 w4
      omega
    omega
  · intro hc hb
    rcases he with e | e
    · have : cn (nb s) 5 ≤ cn (fun j => decide (¬ M (mO j) 0 = 0 ∧ bf M j k)) 5 := by
        refine cn_le (fun j hj w => ?_)
        have w1 := of_decide_eq_true w
        exact decide_eq_true ⟨l3 j hj w1, l4 j k hj hk w1 hb hal⟩
      omega
    · exact e k hk hal hb
/-- the law's count of those before -/
theorem ak_R {c : Nat} {M : Mem} (s : SR c M) {k : Nat} (hk : k < 5) : ∀ m, m ≤ 5 → akS M k m = nI (cn (fun j => decide (¬ M (mO j) 0 = 0 ∧ bf M j k)) m) := by
  intro m
  induction m with
  | zero => intro _; rfl
  | succ m ih =>
    intro hm
    have mb : ∀ q, q < 5 → 0 ≤ (mea M q).toInt ∧ (mea M q).toInt ≤ 3584000 := fun q hq => by
      have mi := s.iv.m.mi q hq
      have bb := s.iv.msle hq
      obtain ⟨b1, -, -, -, -, b6, b7, -⟩ := mi.bd
      have p5 := mi.p5
      have e : (sm (M (mS q)) 40).toInt = si (M (mS q)) 40 := sm_si mi.ps (by omega)
      have e2 : (mea M q).toInt = (M (mO q) 5).toInt + (sm (M (mS q)) 40).toInt := ia (by omega) (by omega)
      omega
    have eb : byL M k m = mea M m - mea M k := by
      unfold byL
      rw [s.s.hs hk, s.s.hs (show m < 5 by omega), s.s.mi (s := 5) (o := 2) hk (by decide), s.s.mi (s := 5) (o := 2) (j := m) (by omega) (by decide)]
      unfold mea
      grind
    have b1 := mb k hk
    have b2 := mb m (by omega)
    have ed : (mea M m - mea M k).toInt = (mea M m).toInt - (mea M k).toInt := is (by omega) (by omega)
    have z0 : (0 : Int32).toInt = 0 := rfl
    rw [akS_s, ih (by omega), cn_s, eb, s.s.al (show m < 5 by omega)]
    have b0 := (s.iv.m.mi m (by omega)).b0
    by_cases h1 : M (mO m) 0 = 0
    · rw [if_neg (by rw [h1]; decide), if_neg (fun w => (of_decide_eq_true w).1 h1), Int32.add_zero, Nat.add_zero]
    · rw [if_pos (b0.resolve_left h1)]
      by_cases h2 : mea M m - mea M k < 0
      · rw [if_pos h2, if_pos (decide_eq_true ⟨h1, Or.inl (by rw [lti]; rw [lti, ed, z0] at h2; omega)⟩)]
        exact nI_1 _
      · rw [if_neg h2]
        rw [lti, ed, z0] at h2
        by_cases h3 : mea M m - mea M k = 0
        · rw [if_pos h3]
          rw [eqi, ed, z0] at h3
          have h4 : mea M m = mea M k := by rw [eqi]; omega
          by_cases h5 : m < k
          · rw [if_neg (fun w => absurd ((nI_leI (by omega) (by omega)).mp w) (by omega)), if_pos (decide_eq_true ⟨h1, Or.inr ⟨h4, h5⟩⟩)]
            exact nI_1 _
          · rw [if_pos ((nI_leI (by omega) (by omega)).mpr (by omega)), if_neg (fun w => by
              have w2 := (of_decide_eq_true w).2
              unfold bf at w2
              rw [lti] at w2
              omega), Int32.add_zero, Nat.add_zero]
        · rw [if_neg h3]
          rw [eqi, ed, z0] at h3
          rw [if_neg (fun w => by
            have w2 := (of_decide_eq_true w).2
            unfold bf at w2
            rw [lti, eqi] at w2
            omega), Int32.add_zero, Nat.add_zero]
theorem sk_R {M : Mem} : ∀ m, m ≤ 5 → low (skS M m) ∧ ∀ j, j < 5 → (¬ bz (skS M m) j ↔ j < m ∧ M 9 (12 * j) = 1 ∧ ¬ M 12 24 / 2 ≤ akS M j 5) := by
  intro m
  induction m with
  | zero => intro _; exact ⟨low_0, fun j hj => ⟨fun w => absurd (bz_0 j (by omega)) w, fun w => by omega⟩⟩
  | succ m ih =>
    intro hm
    obtain ⟨i1, i2⟩ := ih (by omega)
    unfold skS
    by_cases h : M 9 (12 * m) = 1 ∧ ¬ M 12 24 / 2 ≤ akS M m 5
    · rw [if_pos h.1, if_neg h.2]
      refine ⟨low_or (by omega) i1, fun j hj => ?_⟩
      have b := bz_set (skS M m) (j := j) (q := m) (by omega) (by omega)
      have i := i2 j hj
      by_cases e : j = m
      · subst e
        exact ⟨fun _ => ⟨by omega, h⟩, fun _ w => (b.mp w).2 rfl⟩
      · constructor
        · intro w
          have w2 := i.mp (fun w3 => w (b.mpr ⟨w3, e⟩))
          exact ⟨by omega, w2.2⟩
        · intro w w2
          exact i.mpr ⟨by omega, w.2⟩ (b.mp w2).1
    · have e0 : (if M 9 (12 * m) = 1 then (if M 12 24 / 2 ≤ akS M m 5 then 0 else (1 : Int32) <<< (nI m &&& 31)) else 0) = 0 := by
        by_cases h1 : M 9 (12 * m) = 1
        · rw [if_pos h1]
          by_cases h2 : M 12 24 / 2 ≤ akS M m 5
          · rw [if_pos h2]
          · exact absurd ⟨h1, h2⟩ h
        · rw [if_neg h1]
      rw [e0, Int32.or_zero]
      refine ⟨i1, fun j hj => ?_⟩
      have i := i2 j hj
      by_cases e : j = m
      · subst e
        exact ⟨fun w => absurd (i.mp w).1 (by omega), fun w => absurd w.2 h⟩
      · constructor
        · intro w
          have w2 := i.mp w
          exact ⟨by omega, w2.2⟩
        · intro w
          exact i.mpr ⟨by omega, w.2⟩
theorem sc_R (M : Mem) (s : Int32) : ∀ m, m ≤ 5 → scS M s m = up M 12 24 (M 12 24 - nI (2 * cn (nb s) m)) := by
  intro m
  induction m with
  | zero => intro _; show M = up M 12 24 (M 12 24 - 0); rw [Int32.sub_zero, up_id]
  | succ m ih =>
    intro hm
    unfold scS
    rw [ih (by omega), up_same, up_twice, bit01 s (show m < 10 by omega), cn_s]
    by_cases h : bz s m
    · rw [if_pos h, if_neg (fun w => (of_decide_eq_true w) h), Nat.add_zero, Int32.mul_zero, Int32.sub_zero]
    · rw [if_neg h, if_pos (decide_eq_true h)]
      congr 1
      rw [show 2 * (cn (nb s) m + 1) = 2 * cn (nb s) m + 2 by omega, ← nI_add]
      show _ - nI (2 * cn (nb s) m) - 2 * 1 = _
      rw [show nI 2 = (2 : Int32) from rfl]
      grind
theorem half {x : Int32} (h : 0 ≤ x.toInt) : (x / 2).toInt = x.toInt / 2 := by
  have e2 : (2 : Int32).toInt = 2 := rfl
  have b := ib x
  rw [Int32.toInt_div, e2, Int.tdiv_eq_ediv_of_nonneg h]
  exact bmI (by omega) (by omega)
theorem G_struck1 {l : Launch} (hl : l.stackTraces = false) {c : Nat} (hc : c < 512) {M : Mem} (s : SR c M) : LwGo l c yL_isStruck cL_isStruck 11 M (fun ρ => [.ref (ρ 0), .ref (ρ 9), .ref (ρ 10), .ref (ρ 12), .int 1]) := by
  by_cases h : M 12 22 = 0
  · exact ⟨M, s.idle hc, fun ρ J => L_isStruck_u0 hl h⟩
  have g := s.iv.g
  have c5 := s.iv.c5
  have e24 : M 12 24 = M 0 16 := s.s.g0 (by decide)
  have fu := g.fu
  obtain ⟨A, hA⟩ : ∃ A, A = suL M := ⟨_, rfl⟩
  have eA : A = up M 12 24 (M 12 24 - nI (2 * cn (nb (skS M 5)) 5)) := by rw [hA]; exact sc_R M _ 5 (Nat.le_refl 5)
  have r : ∀ i, ¬ mdr i → A i = M i := by rw [eA]; exact law1 mdr9.2.2.2
  have r0 := r 0 (by unfold mdr; omega)
  have c14 : ¬ A 0 14 = 0 := by rw [r0, ← s.s.g0 (k := 14) (k' := 22) (by decide)]; exact h
  obtain ⟨t, v, S, q1, q2, q3, q4, q5⟩ := sp_L (M := A) (by rw [r0]; omega) 5 0 (A 0 16) 0 rfl (by omega) (by rw [r0]; omega) ⟨low_0, rfl, fun j hj w => absurd (bz_0 j (by omega)) w, fun j k hj _ w => absurd (bz_0 j (by omega)) w⟩
  rw [up_id] at q1
  rw [r0] at q2
  have q5' : v.toInt < 2 ∨ ∀ k, k < 5 → ¬ M (mO k) 0 = 0 → ¬ bz S k := by
    refine q5.imp id (fun w k hk h1 => w k hk ?_)
    rw [r (mO k) (nmO k).1]; exact h1
  have q4' : Srv M S t := by
    obtain ⟨l1, l2, l3, l4⟩ := q4
    refine ⟨l1, l2, fun j hj w => ?_, fun j k hj hk w1 w2 w3 => ?_⟩
    · rw [← r (mO j) (nmO j).1]; exact l3 j hj w
    · have := l4 j k hj hk w1 w2 (by rw [r (mO k) (nmO k).1]; exact w3)
      unfold bf mea at this
      rw [r (mO k) (nmO k).1, r (mO j) (nmO j).1, r (mS k) (nmO k).2.2, r (mS j) (nmO j).2.2] at this
      exact this
  obtain ⟨n, hn⟩ : ∃ n : Nat, (M 0 16).toInt / 2 = n := ⟨((M 0 16).toInt / 2).toNat, by omega⟩
  have hd : (M 12 24 / 2).toInt = n := by rw [e24, half fu.1]; exact hn
  have eS : S = skS M 5 := by
    obtain ⟨k1, k2⟩ := sk_R (M := M) 5 (Nat.le_refl 5)
    refine bits_ext q4'.1 k1 (fun j hj => ?_)
    suffices w : ¬ bz S j ↔ ¬ bz (skS M 5) j from ⟨fun a => Decidable.byContradiction (fun b => w.mpr b a), fun a => Decidable.byContradiction (fun b => w.mp b a)⟩
    rw [k2 j hj, ak_R s hj 5 (Nat.le_refl 5), s.s.al hj]
    have b0 := (s.iv.m.mi j hj).b0
    have cm := cn_m (fun i => decide (¬ M (mO i) 0 = 0 ∧ bf M i j)) 5
    have le : nI n ≤ nI 5 ∨ True := Or.inr trivial
    have cmp : M 12 24 / 2 ≤ nI (cn (fun i => decide (¬ M (mO i) 0 = 0 ∧ bf M i j)) 5) ↔ n ≤ cn (fun i => decide (¬ M (mO i) 0 = 0 ∧ bf M i j)) 5 := by
      rw [lei, hd, nI_toInt (by omega)]; omega
    rw [cmp]
    by_cases h1 : M (mO j) 0 = 0
    · rw [h1]
      exact ⟨fun w => absurd h1 (q4'.2.2.1 j hj w), fun w => absurd w.2.1 (by decide)⟩
    · have := srv_rank q4' (h := n) (by omega) (q5'.imp (fun w => by omega) id) hj h1
      rw [this]
      exact ⟨fun w => ⟨hj, b0.resolve_left h1, by omega⟩, fun w => by omega⟩
  have ev : v = M 12 24 - nI (2 * cn (nb (skS M 5)) 5) := by
    have l2 := q4'.2.1
    rw [eS] at l2
    have cm := cn_m (nb (skS M 5)) 5
    rw [eqi, is (by rw [nI_toInt (by omega), e24]; omega) (by rw [nI_toInt (by omega), e24]; omega), nI_toInt (by omega), e24, l2]; omega
  have e1 : o_soup (suL M) 5 = rI (skS M 5) (up (up M 12 24 v) 0 16 v) := by
    unfold o_soup
    rw [← hA, if_neg c14, q1, eS, eA, ← ev]
  have iv : Iv (c + 1) 5 (up (up M 12 24 v) 0 16 v) := by
    obtain ⟨-, -, k3⟩ := soup_R 5 (M 0 16).toInt.toNat A (mir A) 0 (mir_R A) (s.iv.congr r) (cntU_le _ _ _) (by rw [r0]; omega)
    rw [q1, eA, ← ev] at k3
    exact k3.next hc
  exact ⟨_, s.one (pq0 (k := 16) (k' := 24) (by decide)) (by decide) (by omega) iv, fun ρ J => L_isStruck_u hl h e1⟩
end LawJ
