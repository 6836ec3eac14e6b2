section MathN
theorem and1' (x : BitVec 32) : x &&& 1#32 = 1#32 ↔ x.getLsbD 0 = true := by
  constructor
  · intro h
    have := congrArg (fun y => BitVec.getLsbD y 0) h
    simpa using this
  · intro h
    apply BitVec.eq_of_getLsbD_eq
    intro i hi
    by_cases e : i = 0
    · subst e; rw [BitVec.getLsbD_and, h]; simp
    · simp [e]
theorem bz_one (s : Int32) {j : Nat} (_ : j < 10) : s >>> (nI j &&& 31) &&& 1 = 1 ↔ ¬ bz s j := by
  have h0 : bz s j ↔ (s >>> (nI j &&& 31)).toBitVec.getLsbD 0 = false := by
    unfold bz
    rw [← Int32.toBitVec_inj, Int32.toBitVec_and]
    show (s >>> (nI j &&& 31)).toBitVec &&& 1#32 = 0#32 ↔ _
    rw [and1]
  rw [h0, ← Int32.toBitVec_inj, Int32.toBitVec_and]
  show (s >>> (nI j &&& 31)).toBitVec &&& 1#32 = 1#32 ↔ _
  rw [and1']
  simp
def cb (met : Int32) : Nat → Nat
  | 0 => 0
  | m + 1 => cb met m + (if 1 ≤ m ∧ bz met m then 1 else 0)
theorem cb_set {s : Int32} {q : Nat} (hq : q < 10) (h1 : 1 ≤ q) (hb : bz s q) : ∀ m, m ≤ 10 → cb (s ||| 1 <<< (nI q &&& 31)) m + (if q < m then 1 else 0) = cb s m := by
  intro m
  induction m with
  | zero => intro _; rfl
  | succ m ih =>
    intro hm
    have := ih (by omega)
    unfold cb
    have bs := bz_set s (j := m) (q := q) (by omega) hq
    by_cases e : m = q
    · subst e
      rw [if_neg (fun w => (bs.mp w.2).2 rfl), if_pos (show 1 ≤ m ∧ bz s m from ⟨h1, hb⟩), if_pos (show m < m + 1 by omega)]
      rw [if_neg (show ¬ m < m by omega)] at this; omega
    · by_cases e2 : 1 ≤ m ∧ bz s m
      · rw [if_pos (show 1 ≤ m ∧ bz (s ||| 1 <<< (nI q &&& 31)) m from ⟨e2.1, bs.mpr ⟨e2.2, e⟩⟩), if_pos e2]
        by_cases e3 : q < m
        · rw [if_pos e3] at this; rw [if_pos (show q < m + 1 by omega)]; omega
        · rw [if_neg e3] at this; rw [if_neg (show ¬ q < m + 1 by omega)]; omega
      · rw [if_neg (fun w => e2 ⟨w.1, (bs.mp w.2).1⟩), if_neg e2]
        by_cases e3 : q < m
        · rw [if_pos e3] at this; rw [if_pos (show q < m + 1 by omega)]; omega
        · rw [if_neg e3] at this; rw [if_neg (show ¬ q < m + 1 by omega)]; omega
theorem cb_0 {s : Int32} : ∀ m, cb s m = 0 → ∀ q, 1 ≤ q → q < m → ¬ bz s q := by
  intro m
  induction m with
  | zero => intro _ q _ h; omega
  | succ m ih =>
    intro h q h1 hq hb
    unfold cb at h
    by_cases e : q = m
    · subst e
      rw [if_pos (show 1 ≤ q ∧ bz s q from ⟨h1, hb⟩)] at h; omega
    · exact ih (by omega) q h1 (by omega) hb
theorem digI {r : Int32} (h : 0 ≤ r.toInt) : (r - r / 10 * 10).toInt = r.toInt % 10 ∧ (r / 10).toInt = r.toInt / 10 := by
  have rb := ib r
  have e : (r / 10).toInt = r.toInt / 10 := idv h (by decide)
  have e10 : (10 : Int32).toInt = 10 := rfl
  have e2 : (r / 10 * 10).toInt = r.toInt / 10 * 10 := by rw [im (by rw [e, e10]; omega) (by rw [e, e10]; omega), e, e10]
  exact ⟨by rw [is (by rw [e2]; omega) (by rw [e2]; omega), e2]; omega, e⟩
theorem digN {r : Int32} (h : 0 ≤ r.toInt) : r - r / 10 * 10 = nI (r.toInt.toNat % 10) := by
  obtain ⟨a, -⟩ := digI h
  rw [eqi, a, nI_toInt (by omega)]; omega
theorem edi_emi : ∀ (f : Nat) (r met : Int32), 0 ≤ r.toInt → cb met 6 = f → edi r met f = emi (f + 5) r met := by
  intro f
  have e0 : (0 : Int32).toInt = 0 := rfl
  have e1 : (1 : Int32).toInt = 1 := rfl
  have e5 : (5 : Int32).toInt = 5 := rfl
  induction f with
  | zero =>
    intro r met hr hc
    show (if r = 0 then 1 else 0) = emi (4 + 1) r met
    unfold emi
    by_cases h1 : r ≤ 0
    · rw [if_pos h1, if_pos (by rw [lei] at h1; rw [eqi]; omega)]
    · rw [if_neg h1, if_neg (fun q => h1 (by rw [q]; decide))]
      by_cases h2 : r - r / 10 * 10 < 1 ∨ 5 < r - r / 10 * 10
      · rw [if_pos h2]
      · rw [if_neg h2]
        have d := digN hr
        rw [lti, lti, d, nI_toInt (by omega)] at h2
        have nb := cb_0 6 hc (r.toInt.toNat % 10) (by omega) (by omega)
        have nb' : ¬ met >>> (nI (r.toInt.toNat % 10) &&& 31) &&& 1 = 0 := nb
        rw [d, if_neg nb']
  | succ f ih =>
    intro r met hr hc
    have : f + 1 + 5 = (f + 5) + 1 := by omega
    rw [this]
    unfold edi emi
    by_cases h1 : r ≤ 0
    · rw [if_pos h1, if_pos h1, if_pos (by rw [lei] at h1; rw [eqi]; omega)]
    rw [if_neg h1, if_neg h1]
    have d := digN hr
    rw [d]
    have dI : (nI (r.toInt.toNat % 10)).toInt = (r.toInt.toNat % 10 : Nat) := nI_toInt (by omega)
    by_cases h2 : nI (r.toInt.toNat % 10) < 1
    · rw [if_pos h2, if_pos (Or.inl h2)]
    rw [if_neg h2]
    by_cases h3 : 5 < nI (r.toInt.toNat % 10)
    · rw [if_pos h3, if_pos (Or.inr h3)]
    rw [if_neg h3, if_neg (show ¬ (nI (r.toInt.toNat % 10) < 1 ∨ 5 < nI (r.toInt.toNat % 10)) from fun w => w.elim h2 h3)]
    rw [lti, dI] at h2 h3
    by_cases h4 : bz met (r.toInt.toNat % 10)
    · have h4' : met >>> (nI (r.toInt.toNat % 10) &&& 31) &&& 1 = 0 := h4
      rw [if_neg (fun w => (bz_one met (by omega)).mp w h4), if_pos h4']
      have cs := cb_set (s := met) (q := r.toInt.toNat % 10) (by omega) (by omega) h4 6 (by omega)
      rw [if_pos (by omega)] at cs
      exact ih _ _ (by rw [(digI hr).2]; omega) (by omega)
    · have h4' : ¬ met >>> (nI (r.toInt.toNat % 10) &&& 31) &&& 1 = 0 := h4
      rw [if_pos ((bz_one met (by omega)).mpr h4), if_neg h4']
theorem ed_eq (x : Int32) : edi x 0 5 = edM x := by
  have e0 : (0 : Int32).toInt = 0 := rfl
  unfold edM
  by_cases h : x < 0
  · rw [if_pos h]
    rw [lti] at h
    unfold edi
    rw [if_pos (by rw [lei]; omega), if_neg (fun q => by rw [q] at h; omega)]
  · rw [if_neg h]
    rw [lti] at h
    exact edi_emi 5 x 0 (by omega) (by decide)
def dg (R i : Nat) : Nat := R / 10 ^ i % 10
theorem edi_dg : ∀ (f : Nat) (r met : Int32), 0 ≤ r.toInt → ¬ edi r met f = 0 → (∀ i, dg r.toInt.toNat i ≤ 5 ∧ (dg r.toInt.toNat i ≠ 0 → bz met (dg r.toInt.toNat i))) ∧ ∀ i j, i < j → dg r.toInt.toNat i = dg r.toInt.toNat j → dg r.toInt.toNat i = 0 := by
  intro f
  have e0 : (0 : Int32).toInt = 0 := rfl
  have e1 : (1 : Int32).toInt = 1 := rfl
  have e5 : (5 : Int32).toInt = 5 := rfl
  have z : ∀ i, dg 0 i = 0 := fun i => by unfold dg; rw [Nat.zero_div]
  have done : ∀ (r met : Int32), r = 0 → (∀ i, dg r.toInt.toNat i ≤ 5 ∧ (dg r.toInt.toNat i ≠ 0 → bz met (dg r.toInt.toNat i))) ∧ ∀ i j, i < j → dg r.toInt.toNat i = dg r.toInt.toNat j → dg r.toInt.toNat i = 0 := by
    intro r met hr
    subst hr
    have : (0 : Int32).toInt.toNat = 0 := rfl
    rw [this]
    exact ⟨fun i => ⟨by rw [z]; omega, fun q => absurd (z i) q⟩, fun i _ _ _ => z i⟩
  induction f with
  | zero =>
    intro r met hr h
    unfold edi at h
    by_cases q : r = 0
    · exact done r met q
    · rw [if_neg q] at h; exact absurd rfl h
  | succ f ih =>
    intro r met hr h
    unfold edi at h
    by_cases h1 : r ≤ 0
    · exact done r met (by rw [lei] at h1; rw [eqi]; omega)
    rw [if_neg h1, digN hr] at h
    have dI : (nI (r.toInt.toNat % 10)).toInt = (r.toInt.toNat % 10 : Nat) := nI_toInt (by omega)
    by_cases h2 : nI (r.toInt.toNat % 10) < 1
    · rw [if_pos h2] at h; exact absurd rfl h
    rw [if_neg h2] at h
    by_cases h3 : 5 < nI (r.toInt.toNat % 10)
    · rw [if_pos h3] at h; exact absurd rfl h
    rw [if_neg h3] at h
    by_cases h4 : bz met (r.toInt.toNat % 10)
    case neg => rw [if_pos ((bz_one met (by omega)).mpr h4)] at h; exact absurd rfl h
    rw [lti, dI] at h2 h3
    rw [if_neg (fun w => (bz_one met (by omega)).mp w h4)] at h
    obtain ⟨a, b⟩ := ih _ _ (by rw [(digI hr).2]; omega) h
    have e : (r / 10).toInt.toNat = r.toInt.toNat / 10 := by rw [(digI hr).2]; omega
    rw [e] at a b
    have d0 : dg r.toInt.toNat 0 = r.toInt.toNat % 10 := by unfold dg; rw [Nat.pow_zero, Nat.div_one]
    have ds : ∀ i, dg r.toInt.toNat (i + 1) = dg (r.toInt.toNat / 10) i := fun i => by
      unfold dg; rw [Nat.div_div_eq_div_mul, Nat.pow_succ, Nat.mul_comm]
    refine ⟨fun i => ?_, fun i j hij => ?_⟩
    · match i with
      | 0 => rw [d0]; exact ⟨by omega, fun _ => h4⟩
      | i + 1 =>
        rw [ds]
        obtain ⟨c1, c2⟩ := a i
        exact ⟨c1, fun q => ((bz_set met (by omega) (by omega)).mp (c2 q)).1⟩
    · match i, j with
      | _, 0 => omega
      | 0, j + 1 =>
        rw [d0, ds]
        intro q
        obtain ⟨c1, c2⟩ := a j
        have := ((bz_set met (by omega) (by omega)).mp (c2 (by omega))).2
        exact absurd q.symm this
      | i + 1, j + 1 =>
        rw [ds, ds]
        exact b i j (by omega)
theorem ed_G {x : Int32} (h : ¬ edi x 0 5 = 0) : edG x := by
  have e0 : (0 : Int32).toInt = 0 := rfl
  have hx : 0 ≤ x.toInt := by
    by_cases q : 0 ≤ x.toInt
    · exact q
    · exfalso; apply h
      unfold edi
      rw [if_pos (by rw [lei]; omega), if_neg (fun w => by rw [w] at q; omega)]
  obtain ⟨a, b⟩ := edi_dg 5 x 0 hx h
  have key : ∀ (pl : Int32) (i : Nat), pl.toInt = (10 ^ i : Nat) → x / pl - x / pl / 10 * 10 = nI (dg x.toInt.toNat i) := by
    intro pl i hp
    have pp : 0 < (10 ^ i : Nat) := Nat.pow_pos (by omega)
    have e : (x / pl).toInt = x.toInt / (10 ^ i : Nat) := by rw [idv hx (by omega), hp]
    have nn : 0 ≤ (x / pl).toInt := by rw [e]; exact Int.ediv_nonneg hx (by omega)
    have nx : (x / pl).toInt.toNat = x.toInt.toNat / 10 ^ i := by
      rw [e]
      have : x.toInt = (x.toInt.toNat : Int) := by omega
      rw [this, ← Int.natCast_ediv]; rfl
    rw [digN nn, nx]; rfl
  have k0 := key 1 0 rfl
  have k1 := key 10 1 rfl
  have k2 := key 100 2 rfl
  have k3 := key 1000 3 rfl
  have k4 := key 10000 4 rfl
  have a0 := (a 0).1
  have a1 := (a 1).1
  have a2 := (a 2).1
  have a3 := (a 3).1
  have a4 := (a 4).1
  have n0 : dgN x 1 = dg x.toInt.toNat 0 := by unfold dgN; rw [k0, nI_clamp (by omega)]
  have n1 : dgN x 10 = dg x.toInt.toNat 1 := by unfold dgN; rw [k1, nI_clamp (by omega)]
  have n2 : dgN x 100 = dg x.toInt.toNat 2 := by unfold dgN; rw [k2, nI_clamp (by omega)]
  have n3 : dgN x 1000 = dg x.toInt.toNat 3 := by unfold dgN; rw [k3, nI_clamp (by omega)]
  have n4 : dgN x 10000 = dg x.toInt.toNat 4 := by unfold dgN; rw [k4, nI_clamp (by omega)]
  have b01 := b 0 1 (by omega)
  have b02 := b 0 2 (by omega)
  have b03 := b 0 3 (by omega)
  have b04 := b 0 4 (by omega)
  have b12 := b 1 2 (by omega)
  have b13 := b 1 3 (by omega)
  have b14 := b 1 4 (by omega)
  have b23 := b 2 3 (by omega)
  have b24 := b 2 4 (by omega)
  have b34 := b 3 4 (by omega)
  refine ⟨?_, ?_⟩
  · intro pl hp
    simp only [List.mem_cons, List.not_mem_nil, or_false] at hp
    rcases hp with rfl | rfl | rfl | rfl | rfl
    · exact ⟨by rw [n4]; exact k4, by omega⟩
    · exact ⟨by rw [n3]; exact k3, by omega⟩
    · exact ⟨by rw [n2]; exact k2, by omega⟩
    · exact ⟨by rw [n1]; exact k1, by omega⟩
    · exact ⟨by rw [n0]; exact k0, by omega⟩
  · unfold edL
    rw [n0, n1, n2, n3, n4]
    simp only [List.pairwise_cons, List.mem_cons, List.not_mem_nil, or_false, forall_eq_or_imp, forall_eq, false_implies, implies_true, List.Pairwise.nil, and_true]
    omega
theorem s_edition {n c : Nat} (hc : c < 512) {x : Int32} : Sim n c [IA] (fun M => o_edition M x) (fun B => omed B x) := by
  intro P Q A B h I
  show Cl n c _ P Q (o_edition A x) (omed B x)
  unfold o_edition omed
  rw [← ed_eq]
  by_cases h1 : edi x 0 5 = 0
  · rw [if_pos h1, if_pos h1]; exact Cl.thr hc h I (by decide) (by decide)
  · rw [if_neg h1, if_neg h1]
    have h' := h.ml 0
    exact Cl.ok (h'.pw (pa0 (by decide)) rfl) ((I.next hc).glob (by decide) ((I.next hc).g.u0 3 x (h3 := fun _ => ed_G h1))) h'.ed
end MathN
section MathO
theorem RR.self {n : Nat} {P Q : Mem} {z : Int32} {A B : Mem} (h : RR n P Q z A B) (f : ∀ i, ¬ mdr i → B i = A i) : RR n B B (B 9 29) B B :=
  ⟨fun i k i' k' p => by rw [h.pr _ _ _ _ p, f _ p.rows.1], fun _ _ _ => rfl, fun _ _ _ => rfl, h.nn, h.fz, rfl⟩
theorem SS.idle {n c : Nat} (hc : c < 512) {M : Mem} (s : SS c n M) (v : Int32) : SS (c + 1) n (ml M v) := by
  obtain ⟨h, I⟩ := s
  have f : ∀ i, ¬ mdr i → ml M v i = M i := fun i hi => up_row (fun (e : i = 9) => hi (by subst e; unfold mdr; omega))
  exact ⟨(h.ml v).self f, (I.next hc).congr f⟩
theorem newM_r {M : Mem} {n : Nat} : (∀ a, ¬ a = mO n → ¬ a = mG n → ¬ a = mS n → ¬ a = 1 → newM M n a = M a) ∧ newM M n (mO n) = fz0 ∧ newM M n (mG n) = (fun _ => 0) ∧ newM M n (mS n) = (fun _ => 0) := by
  unfold newM up1
  refine ⟨fun a h1 h2 h3 h4 => ?_, ?_, ?_, ?_⟩
  · rw [if_neg h3, if_neg h2, if_neg h1, up_row h4]
  · rw [if_neg (by unfold mO mS; omega), if_neg (by unfold mO mG; omega), if_pos rfl]
  · rw [if_neg (by unfold mG mS; omega), if_pos rfl]
  · rw [if_pos rfl]
theorem SS.new {n c : Nat} (hc : c < 512) {M : Mem} (s : SS c n M) (hn : n < 10) : SS (c + 1) (n + 1) (mmN (newM M n) n) ∧ mmN (newM M n) n 9 29 = 0 := by
  obtain ⟨h, I⟩ := s
  obtain ⟨r1, r2, r3, r4⟩ := newM_r (M := M) (n := n)
  have e : ∀ i k, mmN (newM M n) n i k = if i = 9 ∧ k = 0 then nI (n + 1) else if i = 19 ∧ k = n then -1 else if i = 11 ∧ k = n then 1 else if i = 10 ∧ k = n then 1 else if i = 9 ∧ k = 29 then 0 else newM M n i k := by
    intro i k
    unfold mmN ml
    simp only [up_r]
    by_cases a : i = 9
    · subst a; by_cases b : k = 0
      · simp [b]
      · by_cases b2 : k = 29
        · subst b2; simp
        · simp [b, b2]
    · by_cases a1 : i = 19
      · subst a1; by_cases b : k = n
        · simp [b]
        · simp [b]
      · by_cases a2 : i = 11
        · subst a2; by_cases b : k = n
          · simp [b]
          · simp [b]
        · by_cases a3 : i = 10
          · subst a3; by_cases b : k = n
            · simp [b]
            · simp [b]
          · simp [a, a1, a2, a3]
  have lo : ∀ i, ¬ mdr i → mmN (newM M n) n i = newM M n i := fun i hi => by
    funext k; unfold mdr at hi
    rw [e, if_neg (by omega), if_neg (by omega), if_neg (by omega), if_neg (by omega), if_neg (by omega)]
  have lo9 : ∀ i, i < 9 → ¬ i = 1 → mmN (newM M n) n i = M i := fun i hi h1 => by
    rw [lo i (by unfold mdr; omega), r1 i (by unfold mO; omega) (by unfold mG; omega) (by unfold mS; omega) h1]
  have md : ∀ i k, mdr i → newM M n i k = M i k := fun i k hi => by
    unfold mdr at hi
    rw [r1 i (by unfold mO; omega) (by unfold mG; omega) (by unfold mS; omega) (by omega)]
  have oO : ∀ q, ¬ q = n → mmN (newM M n) n (mO q) = M (mO q) := fun q hq => by
    rw [lo _ (by unfold mdr mO; omega), r1 _ (by unfold mO; omega) (by unfold mO mG; omega) (by unfold mO mS; omega) (by unfold mO; omega)]
  have oG : ∀ q, ¬ q = n → mmN (newM M n) n (mG q) = M (mG q) := fun q hq => by
    rw [lo _ (by unfold mdr mG; omega), r1 _ (by unfold mO mG; omega) (by unfold mG; omega) (by unfold mG mS; omega) (by unfold mG; omega)]
  have oS : ∀ q, ¬ q = n → mmN (newM M n) n (mS q) = M (mS q) := fun q hq => by
    rw [lo _ (by unfold mdr mS; omega), r1 _ (by unfold mO mS; omega) (by unfold mS mG; omega) (by unfold mS; omega) (by unfold mS; omega)]
  have nO : mmN (newM M n) n (mO n) = fz0 := by rw [lo _ (by unfold mdr mO; omega), r2]
  have nG : mmN (newM M n) n (mG n) = fun _ => 0 := by rw [lo _ (by unfold mdr mG; omega), r3]
  have nS : mmN (newM M n) n (mS n) = fun _ => 0 := by rw [lo _ (by unfold mdr mS; omega), r4]
  have old : ∀ i k i' k', Par n i k i' k' → mmN (newM M n) n i' k' = M i' k' := by
    intro i k i' k' p
    have rr := p.rows
    have : ¬ (k' = n ∧ (i' = 10 ∨ i' = 11 ∨ i' = 19)) := by
      unfold Par at p
      rcases p with p | p | p | p | p | p | ⟨j, p⟩ | ⟨j, p⟩ | ⟨j, p⟩ <;> omega
    rw [e, if_neg (by omega), if_neg (by omega), if_neg (by omega), if_neg (by omega), if_neg (by omega), md _ _ rr.2.1]
  have z10 : (10 : Int32) = 10 := rfl
  have zz : ∀ m, si (fun _ => 0) m = 0 := by
    intro m
    induction m with
    | zero => rfl
    | succ m ih => unfold si; rw [ih]; rfl
  refine ⟨⟨⟨fun i k i' k' p => ?_, fun _ _ _ => rfl, fun _ _ _ => rfl, ?_, fun i k p => ?_, rfl⟩, ⟨by omega, by omega, ?_, ⟨fun j hj => ?_, ?_⟩⟩⟩, ?_⟩
  · have keep : Par n i k i' k' → mmN (newM M n) n i k = M i k → mmN (newM M n) n i' k' = mmN (newM M n) n i k := fun q w => by rw [old _ _ _ _ q, w]; exact h.pr _ _ _ _ q
    have p0 := p
    unfold Par at p
    rcases p with p | p | p | p | p | p | ⟨j, p1, p2, p3, p4⟩ | ⟨j, p1, p2, p3, p4, p5⟩ | ⟨j, p1, p2, p3, p4, p5⟩
    · exact keep (Or.inl p) (by rw [lo9 i (by omega) (by omega)])
    · exact keep (Or.inr (Or.inl p)) (by rw [lo9 i (by omega) (by omega)])
    · exact keep (Or.inr (Or.inr (Or.inl p))) (by rw [lo9 i (by omega) (by omega)])
    · exact keep (Or.inr (Or.inr (Or.inr (Or.inl p)))) (by rw [lo9 i (by omega) (by omega)])
    · exact keep (Or.inr (Or.inr (Or.inr (Or.inr (Or.inl p))))) (by rw [lo9 i (by omega) (by omega)])
    · exact keep (Or.inr (Or.inr (Or.inr (Or.inr (Or.inr (Or.inl p)))))) (by rw [lo9 i (by omega) (by omega)])
    · by_cases q : j = n
      · subst q
        subst p2
        subst p3
        show _ = mmN (newM M k') k' (mO k') k
        rw [nO, e]
        have f : ∀ i', 12 ≤ i' → i' ≤ 18 → newM M k' i' k' = 0 := fun i' a b => by rw [md _ _ (by unfold mdr; omega)]; exact h.fz _ _ ⟨k', by omega, Or.inl ⟨a, b, rfl⟩⟩
        unfold T1 at p4
        simp only [List.mem_cons, List.not_mem_nil, or_false, Prod.mk.injEq] at p4
        rcases p4 with ⟨rfl, rfl⟩ | ⟨rfl, rfl⟩ | ⟨rfl, rfl⟩ | ⟨rfl, rfl⟩ | ⟨rfl, rfl⟩ | ⟨rfl, rfl⟩ | ⟨rfl, rfl⟩ | ⟨rfl, rfl⟩ | ⟨rfl, rfl⟩ | ⟨rfl, rfl⟩
        · simp [fz0]
        · simp [fz0]
        · simp [fz0, f]
        · simp [fz0]
        · simp [fz0, f]
        · simp [fz0, f]
        · simp [fz0, f]
        · simp [fz0, f]
        · simp [fz0, f]
        · simp [fz0, f]
      · exact keep (by subst p2; subst p3; exact paO (by omega) p4) (by subst p2; rw [oO j q])
    · by_cases q : j = n
      · subst q
        subst p2
        subst p3
        show _ = mmN (newM M j) j (mG j) k
        rw [nG, e, if_neg (by omega), if_neg (by omega), if_neg (by omega), if_neg (by omega), if_neg (by omega), md _ _ (by unfold mdr; omega)]
        exact h.fz _ _ ⟨j, by omega, Or.inr (Or.inl ⟨rfl, k, p5, p4⟩)⟩
      · exact keep (by subst p2; subst p3; subst p4; exact paG (by omega) p5) (by subst p2; rw [oG j q])
    · by_cases q : j = n
      · subst q
        subst p2
        subst p3
        show _ = mmN (newM M j) j (mS j) k
        rw [nS, e, if_neg (by omega), if_neg (by omega), if_neg (by omega), if_neg (by omega), if_neg (by omega), md _ _ (by unfold mdr; omega)]
        exact h.fz _ _ ⟨j, by omega, Or.inr (Or.inr ⟨rfl, k, p5, p4⟩)⟩
      · exact keep (by subst p2; subst p3; subst p4; exact paS (by omega) p5) (by subst p2; rw [oS j q])
  · rw [e, if_pos ⟨rfl, rfl⟩]
  · have w : Frz n i k := by obtain ⟨j, hj, q⟩ := p; exact ⟨j, by omega, q⟩
    have nr : mdr i ∧ ¬ i = 9 ∧ ¬ i = 19 ∧ ¬ i = 11 ∧ ¬ i = 10 := by obtain ⟨j, hj, q⟩ := p; unfold mdr; omega
    rw [e, if_neg (by omega), if_neg (by omega), if_neg (by omega), if_neg (by omega), if_neg (by omega), md _ _ nr.1]
    exact h.fz _ _ w
  · exact I.g.nx.oth (fun s _ => by rw [lo9 0 (by omega) (by omega)]) (fun i hi => lo9 i (by omega) (by omega))
  · by_cases q : j = n
    · subst q
      rw [nO, nS]
      refine ⟨Or.inr rfl, Or.inr rfl, Or.inl rfl, Or.inl rfl, by decide, by decide, by decide, by decide, fun _ _ => (by decide : (0 : Int) ≤ (0 : Int32).toInt), ?_⟩
      rw [sm_zero]; rfl
    · rw [oO j q, oS j q]
      have m := I.m.mi j (by omega)
      refine ⟨m.b0, m.b1, m.b2, ?_, m.p4, m.p5, m.p6, m.p7, m.ps, m.cw⟩
      rcases m.k3 with k | ⟨u, hu, k⟩
      · exact Or.inl k
      · exact Or.inr ⟨u, by omega, k⟩
  · show TM (mmN (newM M n) n) n + msR (mmN (newM M n) n (mO n)) (mmN (newM M n) n (mS n)) ≤ _
    rw [TM_congr (A := M) (fun j hj => by rw [oO j (by omega), oS j (by omega)]), nO, nS]
    have := I.m.tm
    have e0 : msR fz0 (fun _ => 0) = 0 := by unfold msR; rw [zz]; rfl
    rw [e0]; omega
  · rw [e]; simp
theorem SS0 : SS 0 0 M00 := by
  refine ⟨⟨fun i k i' k' p => ?_, fun _ _ _ => rfl, fun _ _ _ => rfl, rfl, fun i k p => ?_, rfl⟩, ⟨by omega, by omega, ?_, ⟨fun j hj => by omega, by decide⟩⟩⟩
  · unfold Par at p
    rcases p with ⟨rfl, rfl, p⟩ | ⟨rfl, rfl, rfl, p⟩ | ⟨rfl, rfl, rfl, p⟩ | ⟨rfl, rfl, rfl, p⟩ | ⟨rfl, rfl, rfl, p⟩ | ⟨rfl, rfl, rfl, p⟩ | ⟨j, p, -⟩ | ⟨j, p, -⟩ | ⟨j, p, -⟩
    · unfold T0 at p
      simp only [List.mem_cons, List.not_mem_nil, or_false, Prod.mk.injEq] at p
      rcases p with ⟨rfl, rfl⟩ | ⟨rfl, rfl⟩ | ⟨rfl, rfl⟩ | ⟨rfl, rfl⟩ | ⟨rfl, rfl⟩ | ⟨rfl, rfl⟩ | ⟨rfl, rfl⟩ | ⟨rfl, rfl⟩ | ⟨rfl, rfl⟩ | ⟨rfl, rfl⟩ | ⟨rfl, rfl⟩ <;> rfl
    · match k', p with
      | 0, _ => rfl
      | 1, _ => rfl
      | 2, _ => rfl
      | 3, _ => rfl
      | 4, _ => rfl
    · match k', p with
      | 0, _ => rfl
      | 1, _ => rfl
      | 2, _ => rfl
      | 3, _ => rfl
    · match k, p with
      | 0, _ => rfl
      | 1, _ => rfl
      | 2, _ => rfl
      | 3, _ => rfl
    · rfl
    · rfl
    · omega
    · omega
    · omega
  · obtain ⟨j, -, q⟩ := p
    have : i = 12 ∨ i = 13 ∨ i = 14 ∨ i = 15 ∨ i = 16 ∨ i = 17 ∨ i = 18 ∨ i = 20 ∨ i = 21 := by omega
    rcases this with rfl | rfl | rfl | rfl | rfl | rfl | rfl | rfl | rfl <;> rfl
  · refine ⟨by decide, Or.inl rfl, ed_G (by decide +kernel), ⟨0, by omega, rfl⟩, by decide, by decide, Or.inl rfl, Or.inl rfl, Or.inl rfl, by decide, ?_, by decide, ?_, ?_, fun _ _ => Or.inl rfl⟩
    · intro k hk
      match k, hk with
      | 0, _ => decide
      | 1, _ => decide
      | 2, _ => decide
      | 3, _ => decide
      | 4, _ => decide
    · intro k hk
      match k, hk with
      | 0, _ => decide
      | 1, _ => decide
      | 2, _ => decide
      | 3, _ => decide
    · intro k hk
      match k, hk with
      | 0, _ => decide
      | 1, _ => decide
      | 2, _ => decide
      | 3, _ => decide
end MathO
