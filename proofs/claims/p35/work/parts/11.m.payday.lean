/-! Paydays agree. -/
section LawO
theorem pyZ_r {N : Mem} {k : Nat} {x y : Int32} {i : Nat} (h : ¬ mdr i) : pyZ N k x y i = N i := by
  unfold pyZ
  split
  · unfold pyY pyX
    rw [law1 mdr9.1 i h, law1 mdr9.2.2.2 i h]
  · rfl
theorem payL_r {M : Mem} {k p r i : Nat} (h : ¬ mdr i) : payL M k p r i = M i := by
  have h9 : ¬ i = 9 := fun e => h (e ▸ mdr9.1)
  unfold payL
  rw [pyZ_r h]
  unfold pyK pyF pyE pyC pyB pyA pyH
  rw [law1 mdr9.2.2.2 i h, law1 mdr9.1 i h, law1 mdr9.2.1 i h, law1 mdr9.1 i h, law1 mdr9.1 i h, law1 mdr9.1 i h]
  unfold pyG
  rw [pyS_r h9]
  unfold py1 py0
  rw [law1 mdr9.1 i h, law1 mdr9.1 i h]
theorem ipS_r {M : Mem} {p r i : Nat} (h : ¬ mdr i) : ∀ j, (ipS M p r j).1 i = M i
  | 0 => rfl
  | j + 1 => by
    rw [ipS_s]
    split
    · show payL _ _ _ _ i = _
      rw [payL_r h, ipS_r h j]
    · show (ipS M p r j).1 i = _
      rw [ipS_r h j]
theorem ixS_r {N : Mem} {p i : Nat} (h : ¬ mdr i) : ∀ q, ixS N p q i = N i
  | 0 => rfl
  | q + 1 => by
    rw [ixS_s]
    split
    · exact ixS_r h q
    · unfold ix3 ix2 ix1
      rw [law1 mdr9.2.1 i h, law1 mdr9.1 i h, law1 mdr9.2.2.2 i h, ixS_r h q]
theorem pay_L {c : Nat} (hc : c < 512) {M : Mem} (s : SR c M) {A : Mem} (hA : ∀ i, ¬ mdr i → A i = M i) {p : Nat} (hp : p < 12) {r : Nat} (hr : M 0 3 = nI r) (hE : r ∈ ED) : ∀ j, j ≤ 5 → SRP (payS A p j).1 (ipS M p r j).1 ∧ (ipS M p r j).2 = (payS A p j).2 ∧ LC (ipS M p r j).1 ∧ (payS A p j).1 0 3 = nI r := by
  intro j
  induction j with
  | zero => intro _; exact ⟨s.s.ca hA, rfl, s.lc, by show A 0 3 = _; rw [hA 0 (by unfold mdr; omega)]; exact hr⟩
  | succ j ih =>
    intro hj
    obtain ⟨i1, i2, i3, i4⟩ := ih (by omega)
    have I := s.iv.congr hA
    obtain ⟨w1, -, w3, w4, -⟩ := pay_R hc I.n10 (mir_R A) I.g I.m (p := p) (by omega) j (by omega)
    have I2 : Iv (c + 1) 5 (payS A p j).1 := ⟨I.n10, by omega, w3.nx, w4.le (by omega)⟩
    have b0 := (I2.m.mi j (by omega)).b0
    have al := i1.al (j := j) (by omega)
    rw [payS_s, ipS_s, al]
    by_cases h0 : (payS A p j).1 (mO j) 0 = 0
    · rw [if_pos h0, if_neg (by rw [h0]; decide)]
      exact ⟨i1, by show (ipS M p r j).2 + 0 = _; rw [Int32.add_zero, i2], i3, i4⟩
    · rw [if_neg h0, if_pos (b0.resolve_left h0)]
      obtain ⟨e1, e2, e3⟩ := set_R i1 i3 I2 (k := j) (by omega) hp i4 hE
      obtain ⟨-, -, s3, -, -⟩ := settle w1 I2 (k := j) (p := p) (by omega) (by omega)
      exact ⟨e1, by show (ipS M p r j).2 + _ = (payS A p j).2 + _; rw [i2, e2], e3, by show setM _ _ _ 0 3 = _; rw [s3.z 3 (by decide)]; exact i4⟩
theorem ix_LC {N : Mem} (h : LC N) {k i : Nat} (hi : i < 12) : LC (ix3 N (12 * k + i)) := by
  have h0 : LC (ix1 N (12 * k + i)) := by unfold ix1; exact h.up_ (by decide) (fun e => by omega)
  have h1 := h0.goes (k := k) (i := i) hi (v := 0) (w := ix1 N (12 * k + i) 10 (12 * k + i)) (by rw [Int32.sub_zero])
  unfold ix3 ix2
  rw [show (12 * k + i) / 12 * 12 + 11 = 12 * k + 11 by omega]
  generalize ix1 N (12 * k + i) = X at *
  refine h1.cg (fun q hq => ⟨?_, ?_⟩) (fun q => ?_)
  · rw [up_row (by decide), up12 (by omega), up12 (by omega), up_row (by decide)]
  · rw [up_row (show ¬ 9 = 10 by decide), up_row (show ¬ 9 = 10 by decide)]
    by_cases e : q = k
    · subst e; rw [up_same, up_same]
    · rw [up12 (by omega), up12 (by omega), up_row (by decide)]
  · by_cases e : q = 12 * k + i
    · subst e; rw [up_same, up_row (by decide), up_same]
    · rw [up12 (by omega), up_row (by decide), up_row (by decide), up12 (by omega)]
theorem ix_C {N : Mem} (lc : LC N) (p : Nat) : ∀ q, q ≤ 60 → (∀ a b, ¬ a = 10 → ¬ (a = 12 ∧ b = 28) → ¬ (a = 9 ∧ b % 12 = 11) → ixS N p q a b = N a b) ∧ (∀ s, ixS N p q 10 s = if s < q ∧ s % 12 + 4 ≤ p then 0 else N 10 s) ∧ (ixS N p q 12 28 = N 12 28 + sm (fun s => if p < s % 12 + 4 then 0 else N 10 s) q) ∧ LC (ixS N p q) := by
  intro q
  induction q with
  | zero => intro _; exact ⟨fun _ _ _ _ _ => rfl, fun s => by rw [if_neg (by omega)]; rfl, by show N 12 28 = N 12 28 + 0; rw [Int32.add_zero], lc⟩
  | succ q ih =>
    intro hq
    obtain ⟨i1, i2, i3, i4⟩ := ih (by omega)
    rw [ixS_s]
    by_cases h : p < q % 12 + 4
    · rw [if_pos h]
      refine ⟨i1, fun s => ?_, ?_, i4⟩
      · rw [i2]
        by_cases e : s < q ∧ s % 12 + 4 ≤ p
        · rw [if_pos e, if_pos ⟨by omega, e.2⟩]
        · rw [if_neg e, if_neg (fun w => e ⟨by
            have : ¬ s = q := fun w2 => by rw [w2] at w; omega
            omega, w.2⟩)]
      · rw [i3]
        show _ = N 12 28 + (sm _ q + (if p < q % 12 + 4 then 0 else N 10 q))
        rw [if_pos h, Int32.add_zero]
    · rw [if_neg h]
      have nq : ixS N p q 10 q = N 10 q := by rw [i2, if_neg (by omega)]
      have l4 : LC (ix3 (ixS N p q) q) := by
        have := ix_LC i4 (k := q / 12) (i := q % 12) (by omega)
        rw [show 12 * (q / 12) + q % 12 = q by omega] at this
        exact this
      generalize ixS N p q = X at *
      refine ⟨fun a b h1 h2 h3 => ?_, fun s => ?_, ?_, l4⟩
      · unfold ix3 ix2 ix1
        rw [up_row h1, up12 (by omega), up12 (by omega)]
        exact i1 a b h1 h2 h3
      · unfold ix3
        by_cases e : s = q
        · subst e; rw [up_same, if_pos (by omega)]
        · rw [up12 (by omega)]
          unfold ix2 ix1
          rw [up_row (by decide), up_row (by decide), i2]
          by_cases e2 : s < q ∧ s % 12 + 4 ≤ p
          · rw [if_pos e2, if_pos ⟨by omega, e2.2⟩]
          · rw [if_neg e2, if_neg (fun w => e2 ⟨by omega, w.2⟩)]
      · unfold ix3 ix2
        rw [up_row (by decide), up_row (by decide)]
        unfold ix1
        rw [up_same, i3, nq]
        show _ = N 12 28 + (sm _ q + (if p < q % 12 + 4 then 0 else N 10 q))
        rw [if_neg h]
        grind
theorem sm_rows12 (f : Nat → Int32) (n : Nat) : sm f (12 * n) = sm (fun j => sm (fun i => f (12 * j + i)) 12) n := by
  induction n with
  | zero => rfl
  | succ n ih =>
    have : 12 * (n + 1) = 12 * n + 12 := by omega
    rw [this, sm_app, ih]; rfl
theorem sm_cut12 (f : Nat → Int32) {m : Nat} (hm : m ≤ 12) : sm (fun i => if i < m then f i else 0) 12 = sm f m := by
  obtain ⟨d, hd⟩ : ∃ d, 12 = m + d := ⟨12 - m, by omega⟩
  rw [hd, sm_app, sm_congr (g := f) (m := m) (fun i hi => by rw [if_pos hi]), sm_congr (f := fun i => if m + i < m then f (m + i) else 0) (g := fun _ => 0) (m := d) (fun i hi => by rw [if_neg (by omega)]), sm_zero]
  grind
theorem ix_R {A N : Mem} (h : SRP A N) (lc : LC N) {p : Nat} (hp : p < 12) : SRP (expS A 5 (p - 3)) (ixS N p 60) := by
  obtain ⟨c1, c2, c3, c4, c5⟩ := exp_C A 5 (p - 3)
  obtain ⟨x1, x2, x3, -⟩ := ix_C lc p 60 (Nat.le_refl _)
  have sums : sm (fun s => if p < s % 12 + 4 then 0 else N 10 s) 60 = sm (fun i => sm (fun q => A (mS q) i) 5) (p - 3) := by
    rw [show 60 = 12 * 5 from rfl, sm_rows12, sm_swap (fun i q => A (mS q) i) (p - 3) 5]
    apply sm_congr
    intro j hj
    rw [← sm_cut12 _ (show p - 3 ≤ 12 by omega)]
    apply sm_congr
    intro i hi
    have : (12 * j + i) % 12 = i := by omega
    rw [this]
    by_cases q : i < p - 3
    · rw [if_neg (by omega), if_pos q, h.sc hj hi]
    · rw [if_pos (by omega), if_neg q]
  refine ⟨fun i k i' k' w => ?_, fun j hj => ?_, fun j hj => ?_, fun j i hj h1 h2 => ?_⟩
  · have w0 := h.pr _ _ _ _ w
    unfold Pq at w
    rcases w with ⟨a1, a2, a3⟩ | ⟨a1, a2, a3⟩ | ⟨a1, a2, a3⟩ | ⟨a1, a2, a3⟩ | ⟨a1, a2, a3⟩ | ⟨j, o, a0, a1, a2, a3⟩ | ⟨j, a0, a1, a2, a3⟩ | ⟨j, a0, a1, a2, a3⟩
    · have := TC_b _ a3
      simp only at this
      rw [x1 _ _ (by omega) (by omega) (by omega), c1 _ (by omega) (by omega)]; exact w0
    · rw [x1 _ _ (by omega) (by omega) (by omega), c1 _ (by omega) (by omega)]; exact w0
    · rw [x1 _ _ (by omega) (by omega) (by omega), c1 _ (by omega) (by omega)]; exact w0
    · rw [x1 _ _ (by omega) (by omega) (by omega), c1 _ (by omega) (by omega)]; exact w0
    · obtain ⟨a3, a4⟩ := a3
      subst a1; subst a2; subst a3
      rw [c5]
      by_cases e : k = 3
      · subst e; rw [if_pos rfl, show 25 + 3 = 28 from rfl, x3, sums]; rw [show 25 + 3 = 28 from rfl] at w0; rw [w0]
      · rw [if_neg e, x1 _ _ (by omega) (by omega) (by omega), w0]
    · have t := TA_b _ a3.1
      simp only at t
      obtain ⟨a3, a4⟩ := a3
      subst a1; subst a2; subst a4
      rw [x1 _ _ (by omega) (by omega) (by omega)]
      exact w0.trans (c4 j k (by omega)).symm
    · subst a1; subst a2
      rw [x1 _ _ (by omega) (by omega) (by omega)]
      exact w0.trans (congrFun (c2 j) k).symm
    · obtain ⟨a3, a4⟩ := a3
      subst a1; subst a2; subst a3
      rw [x2]
      refine Eq.trans ?_ (c3 j k).symm
      by_cases e : k < p - 3
      · rw [if_pos (by omega), if_pos ⟨a0, e⟩]
      · rw [if_neg (by omega), if_neg (fun q => e q.2)]; exact w0
  · rw [x1 _ _ (by omega) (by omega) (by omega), c4 _ _ (by decide)]; exact h.ki j hj
  · rw [x1 _ _ (by omega) (by omega) (by omega), c1 6 (by decide) (by decide)]; exact h.la j hj
  · rw [c3]
    split
    · rfl
    · exact h.fz j i hj h1 h2
theorem G_payday {l : Launch} (hl : l.stackTraces = false) {c : Nat} (hc : c < 512) {M : Mem} (s : SR c M) : LwGo l c yL_isPayday cL_isPayday 6 M (fun ρ => [.ref (ρ 0), .ref (ρ 9), .ref (ρ 10), .ref (ρ 12)]) := by
  by_cases h : M 12 16 = 12 ∨ M 12 23 = 1
  · exact ⟨M, s.idle hc, fun ρ J => L_isPayday_0 hl h⟩
  have g := s.iv.g
  obtain ⟨p, hp12, e6⟩ := s.pd
  obtain ⟨r, hE, e3⟩ := s.ed
  have c16 : M 12 16 = nI p := by rw [s.s.g0 (k := 6) (k' := 16) (by decide)]; exact e6
  have c15 : M 12 15 = nI r := by rw [s.s.g0 (k := 3) (k' := 15) (by decide)]; exact e3
  have hp : p < 12 := by
    by_cases q : p = 12
    · subst q; exact absurd (Or.inl c16) h
    · omega
  have h2 : ¬ M 12 23 = 1 := fun q => h (Or.inr q)
  have cl : M 0 15 = 0 := by rw [s.s.g0 (k := 15) (by decide)] at h2; exact g.cl.resolve_right h2
  have hdg : r < 100000 ∧ ∀ i, i < plen r → dgl r i ≤ 5 := by
    unfold ED at hE
    simp only [List.mem_cons, List.not_mem_nil, or_false] at hE
    rcases hE with rfl | rfl | rfl | rfl | rfl | rfl <;> exact ⟨by decide, by decide +kernel⟩
  have rr : ∀ i, ¬ mdr i → ipF M p r i = M i := fun i hi => by
    unfold ipF ipE
    rw [law1 mdr9.2.2.2 i hi, ixS_r hi, ipS_r hi]
  have r0 := rr 0 (by unfold mdr; omega)
  obtain ⟨M1, hM1⟩ : ∃ M1, M1 = ipF M p r := ⟨_, rfl⟩
  rw [← hM1] at rr r0
  obtain ⟨k1, k2, k3, k4⟩ := pay_L hc s rr hp e3 hE 5 (Nat.le_refl _)
  have I := s.iv.congr rr
  obtain ⟨-, -, -, -, w5⟩ := pay_R hc I.n10 (mir_R M1) I.g I.m (p := p) (by omega) 5 (Nat.le_refl _)
  have e6' : M1 0 6 = nI p := by rw [r0]; exact e6
  have e1 : o_payday M1 5 p = rI (ipS M p r 5).2 (payF M1 5 p) := by
    unfold o_payday
    rw [e6', if_neg (show ¬ 40 ≤ nI p from fun w => by have := (nI_leI (a := 40) (b := p) (by omega) (by omega)).mp w; omega), r0, if_pos cl, k2]
  obtain ⟨iv, hm⟩ := simI (o := o_payday M1 5 p) (om := fun B => ompayday B 5 p) (fun P Q B r I' => s_payday hc (by omega) P Q M1 B r I' e6') I
  rw [e1] at iv hm
  have q1 : SRP (payE M1 5 p) (ipE M p r) := ix_R k1 k3 hp
  have q2 : SRP (payF M1 5 p) (ipF M p r) := q1.pw (pq0 (k := 6) (k' := 16) (by decide)) (congrArg (· + 1) (q1.g0 (k := 6) (k' := 16) (by decide)))
  obtain ⟨c1, -, -, -, -⟩ := exp_C (payS M1 p 5).1 5 (p - 3)
  have q06 : payF M1 5 p 0 6 = nI (p + 1) := by
    unfold payF
    rw [up_same]
    unfold payE
    rw [c1 0 (by decide) (by decide), w5, e6', nI_1]
  have q03 : payF M1 5 p 0 3 = nI r := by
    unfold payF
    rw [up12 (by omega)]
    unfold payE
    rw [c1 0 (by decide) (by decide)]; exact k4
  refine ⟨payF M1 5 p, SR.mk_ q2 (fun _ _ => rfl) (fun i hi => (hm i hi).trans (by rw [hM1])) ?_ ⟨p + 1, by omega, q06⟩ ⟨r, hE, q03⟩ iv, fun ρ J => L_isPayday hl hp c16 h2 c15 hdg.1 hdg.2 (by rw [← hM1]; exact e6') (by rw [← hM1]; exact e1)⟩
  obtain ⟨-, -, -, x4⟩ := ix_C k3 p 60 (Nat.le_refl _)
  unfold ipF ipE
  exact x4.up_ (by decide) (fun e => by omega)
end LawO
