/-! A death, in the law and in the class. -/
section LawH
theorem TA_c {s o : Nat} (h : (s, o) ∈ TA) : (s = 0 ∧ o = 0) ∨ (s = 1 ∧ o = 5) ∨ (s = 2 ∧ o = 9) ∨ (s = 4 ∧ o = 1) ∨ (s = 5 ∧ o = 2) ∨ (s = 6 ∧ o = 3) ∨ (s = 7 ∧ o = 4) ∨ (s = 8 ∧ o = 6) ∨ (s = 9 ∧ o = 7) := by
  unfold TA at h
  simpa only [List.mem_cons, Prod.mk.injEq, List.not_mem_nil, or_false] using h
theorem G_dead {l : Launch} (hl : l.stackTraces = false) {c : Nat} (hc : c < 512) {M : Mem} (s : SR c M) {k : Nat} (hk : k < 5) : LwGo l c yL_isDead cL_isDead 10 M (fun ρ => [.ref (ρ 0), .ref (ρ 9), .ref (ρ 10), .ref (ρ 11), .ref (ρ 12), .int (nI k)]) := by
  by_cases h0 : M 9 (12 * k) = 0
  · exact ⟨M, s.idle hc, fun ρ J => L_isDead_0 hl hk h0⟩
  have mi := s.iv.m.mi
  have m := mi k hk
  have bb := s.iv.msle hk
  have dS : ∀ A, SRP A M → SRP (di1 A k) (dd0 M k) := fun A h => h.pw (pqO hk (s := 0) (o := 0) (by decide)) rfl
  have hkin : ∀ q, q < 5 → kinOk 5 (M (mO q) 3) := fun q hq => (mi q hq).k3
  have hkL : kinL (dd0 M k) := fun q hq => by
    rw [(dS M s.s).k1 hq]
    unfold di1
    rw [up12 (by omega)]
    exact hkin q hq
  have he : ∀ A, (∀ i, ¬ mdr i → A i = M i) → heL (dd0 M k) 5 (dd0 M k 9 (12 * k + 8) - 1) = diH A 5 k := fun A hA => by
    have h1 := dS A (s.s.ca hA)
    have e3 : ∀ q, di1 A k (mO q) 3 = M (mO q) 3 := fun q => by unfold di1; rw [up12 (by omega), hA _ (nmO q).1]
    have eO : ∀ q, q < 5 → isB (di1 A k (mO q) 0) := fun q hq => by
      unfold di1
      rw [up_r, hA _ (nmO q).1]
      by_cases w : mO q = mO k
      · rw [if_pos w, if_pos rfl]; exact Or.inl rfl
      · rw [if_neg w]; exact (mi q hq).b0
    rw [h1.k1 hk]
    exact he_R h1 eO (fun q hq => by rw [e3 q]; exact hkin q hq) 5 _ (by rw [e3 k]; exact hkin k hk)
  have hh := (heir_R (mir_R M) s.iv hk).2.2
  have hM := he M (fun _ _ => rfl)
  have n3 : ¬ mS k = mO k := by unfold mS mO; omega
  have al : ¬ M (mO k) 0 = 0 := by rw [← s.s.al hk]; exact h0
  rcases hh with hn | ⟨h, hh5, hhk, hn, -⟩
  · -- nobody inherits
    obtain ⟨n1, n2, n4, n5, n6, n7⟩ := ddN_C (M := M) (k := k)
    have r : ∀ i, ¬ mdr i → ddN M k i = M i := fun i hi => by
      have : ¬ i = 9 ∧ ¬ i = 10 ∧ ¬ i = 11 ∧ ¬ i = 12 := by unfold mdr at hi; omega
      exact n1 i this.1 this.2.1 this.2.2.1 this.2.2.2
    have hD : diH (ddN M k) 5 k = -1 := by rw [← he _ r, hM, hn]
    generalize hM1 : ddN M k = M1 at *
    have rO := r (mO k) (nmO k).1
    have rS := r (mS k) (nmO k).2.2
    obtain ⟨d1, d2⟩ := di1_r (A := M1) (k := k)
    obtain ⟨K, hK⟩ : ∃ K, K = lv2 (diN M1 k) k := ⟨_, rfl⟩
    have e1 : o_die M1 5 k = rI (-1) K := by
      unfold o_die
      rw [rO, if_neg al, if_pos hD, hD, hK]
    obtain ⟨iv, hm⟩ := ivK (s_die hc hk) s.iv r e1
    have nO : diN M1 k (mO k) = upd (M (mO k)) 0 0 := by unfold diN; rw [up_row (by unfold mO; omega), d2, rO]
    have nS : diN M1 k (mS k) = M (mS k) := by unfold diN; rw [up_row (by unfold mS; omega), d1 _ n3, rS]
    obtain ⟨w1, w2, w3⟩ := dead_row (M := diN M1 k) m bb nO nS
    obtain ⟨l1, l2, l3, -, -⟩ := lv2_C (n := 5) (M := diN M1 k) (k := k) (by rw [nO, nS]; exact m.o 0 0 (h0 := fun _ => Or.inl rfl)) (by rw [nO, nS, msX _ _ 0 _ (by decide)]; exact bb)
    rw [← hK] at w1 l1 l2 l3
    have row : ∀ a, ¬ mdr a → ¬ a = mO k → ¬ a = mG k → ¬ a = mS k → ¬ a = 7 → K a = M a := fun a ha h1 h2 h3 h4 => by
      rw [l1 a h1 h2 h3]; unfold diN; rw [up_row h4, d1 a h1, r a ha]
    have r7 : ∀ q, K 7 q = if q = 4 then M 7 4 + hasF M k else M 7 q := fun q => by
      rw [l1 7 (by unfold mO; omega) (by unfold mG; omega) (by unfold mS; omega)]
      unfold diN
      rw [d1 7 (by unfold mO; omega), r 7 (by unfold mdr; omega), d1 _ n3, rS, s.s.hs hk]
      by_cases e : q = 4
      · subst e; rw [up_same, if_pos rfl]
      · rw [up12 (by omega), d1 7 (by unfold mO; omega), r 7 (by unfold mdr; omega), if_neg e]
    have r0 : K 0 = M 0 := row 0 (by unfold mdr; omega) (by unfold mO; omega) (by unfold mG; omega) (by unfold mS; omega) (by decide)
    have oth : ∀ j, j < 5 → ¬ j = k → K (mO j) = M (mO j) ∧ K (mG j) = M (mG j) ∧ K (mS j) = M (mS j) := fun j hj hjk =>
      ⟨row _ (nmO j).1 (by unfold mO; omega) (by unfold mO mG; omega) (by unfold mO mS; omega) (by unfold mO; omega), row _ (nmO j).2.1 (by unfold mO mG; omega) (by unfold mG; omega) (by unfold mG mS; omega) (by unfold mG; omega), row _ (nmO j).2.2 (by unfold mO mS; omega) (by unfold mS mG; omega) (by unfold mS; omega) (by unfold mS; omega)⟩
    have pK : SRP K M1 := by
      refine ⟨fun i a i' a' p => ?_, fun j hj => ?_, fun j hj => ?_, fun j i hj h1 h2 => ?_⟩
      · unfold Pq at p
        rcases p with ⟨rfl, rfl, p⟩ | ⟨rfl, rfl, rfl, p⟩ | ⟨rfl, rfl, rfl, p⟩ | ⟨rfl, rfl, rfl, p⟩ | ⟨rfl, rfl, rfl, p⟩ | ⟨j, o, hj, rfl, rfl, p, rfl⟩ | ⟨j, hj, rfl, rfl, rfl, p⟩ | ⟨j, hj, rfl, rfl, rfl, p⟩
        · have tb := TC_b _ p
          simp only at tb
          rw [n6, if_neg (by omega), r0]; exact s.s.g0 p
        · rw [n6, if_neg (by omega), row 2 (by unfold mdr; omega) (by unfold mO; omega) (by unfold mG; omega) (by unfold mS; omega) (by decide)]; exact s.s.te p
        · rw [n6, if_neg (by omega), row 4 (by unfold mdr; omega) (by unfold mO; omega) (by unfold mG; omega) (by unfold mS; omega) (by decide)]; exact s.s.p4 p
        · rw [n6, if_neg (by omega), row 5 (by unfold mdr; omega) (by unfold mO; omega) (by unfold mG; omega) (by unfold mS; omega) (by decide)]; exact s.s.p5 p
        · rw [n6, r7]
          by_cases e : a = 4
          · subst e; rw [if_pos rfl, if_pos rfl, s.s.bo (k := 4) (by decide)]
          · rw [if_neg (by omega), if_neg e]; exact s.s.bo p
        · show M1 9 (12 * j + o) = K (mO j) a
          have tb := TA_b _ p
          simp only at tb
          rw [n2 j o tb.1]
          by_cases e : j = k
          · subst e
            rw [w1 a (by omega)]
            rcases TA_c p with ⟨rfl, rfl⟩ | ⟨rfl, rfl⟩ | ⟨rfl, rfl⟩ | ⟨rfl, rfl⟩ | ⟨rfl, rfl⟩ | ⟨rfl, rfl⟩ | ⟨rfl, rfl⟩ | ⟨rfl, rfl⟩ | ⟨rfl, rfl⟩
            all_goals first
              | (rw [if_pos (by omega), if_pos (by omega)]; done)
              | (rw [if_neg (by omega), if_neg (by omega)]; exact s.s.mi hj p)
          · rw [if_neg (fun w => e w.1), (oth j hj e).1]; exact s.s.mi hj p
        · show M1 11 (4 * j + a) = K (mG j) a
          rw [n5 j a p]
          by_cases e : j = k
          · subst e; rw [if_pos rfl, l3 a p]
          · rw [if_neg e, (oth j hj e).2.1]; exact s.s.go hj p
        · show M1 10 (12 * j + a) = K (mS j) a
          rw [n4 j a p]
          by_cases e : j = k
          · subst e; rw [if_pos rfl, l2 a (by omega)]
          · rw [if_neg e, (oth j hj e).2.2]; exact s.s.sc hj p
      · rw [n2 j 8 (by decide), if_neg (by omega), s.s.ki j hj]
        by_cases e : j = k
        · subst e; rw [w1 3 (by decide), if_neg (by decide)]
        · rw [(oth j hj e).1]
      · rw [n6, if_neg (by decide), row 6 (by unfold mdr; omega) (by unfold mO; omega) (by unfold mG; omega) (by unfold mS; omega) (by decide)]; exact s.s.la j hj
      · by_cases e : j = k
        · subst e; exact l2 i h2
        · rw [(oth j hj e).2.2]; exact s.s.fz j i hj h1 h2
    refine ⟨K, SR.mk_ pK (fun _ _ => rfl) hm (n7 s.lc) (by rw [r0]; exact s.pd) (by rw [r0]; exact s.ed) iv, fun ρ J => L_isDead_N hl hk h0 hkL (by rw [hM, hn]) ?_ ?_⟩
    · intro q hq; rw [hM1, r _ (nmO q).1]; exact hkin q hq
    · rw [hM1]; exact e1
  · -- an heir
    obtain ⟨n1, n2, n4, n5, n7⟩ := ddH_C (M := M) hhk
    have r : ∀ i, ¬ mdr i → ddH M k h i = M i := fun i hi => by
      have : ¬ i = 9 ∧ ¬ i = 10 ∧ ¬ i = 11 := by unfold mdr at hi; omega
      exact n1 i this.1 this.2.1 this.2.2
    have hD : diH (ddH M k h) 5 k = nI h := by rw [← he _ r, hM, hn]
    generalize hM1 : ddH M k h = M1 at *
    have rO := r (mO k) (nmO k).1
    have rS := r (mS k) (nmO k).2.2
    obtain ⟨d1, d2⟩ := di1_r (A := M1) (k := k)
    obtain ⟨K, hK⟩ : ∃ K, K = lv2 (diS M1 k h) k := ⟨_, rfl⟩
    have e1 : o_die M1 5 k = rI (nI h) K := by
      unfold o_die
      rw [rO, if_neg al, hD, if_neg (neg1 (by omega)), nI_clamp (by omega), hK]
    obtain ⟨iv, hm⟩ := ivK (s_die hc hk) s.iv r e1
    obtain ⟨i1, i2, i3, i4⟩ := in_C (A := di1 M1 k) hhk (M1 6 2) (diS M1 k h) rfl
    have k1 : ¬ mO k = mS h := by unfold mS mO; omega
    have k2 : ¬ mO k = mO h := by unfold mO; omega
    have k3 : ¬ mO k = mG h := by unfold mO mG; omega
    have k4 : ¬ mS k = mS h := by unfold mS; omega
    have k5 : ¬ mS k = mO h := by unfold mS mO; omega
    have k6 : ¬ mS k = mG h := by unfold mS mG; omega
    have ka : ¬ mG k = mO k := by unfold mG mO; omega
    have j1 : ¬ mO h = mO k := fun e => k2 e.symm
    have j2 : ¬ mS h = mO k := fun e => k1 e.symm
    have j3 : ¬ mG h = mO k := fun e => k3 e.symm
    have j4 : ¬ mO h = mG k := by unfold mG mO; omega
    have j5 : ¬ mS h = mG k := by unfold mG mS; omega
    have j6 : ¬ mG h = mG k := by unfold mG; omega
    have j7 : ¬ mO h = mS k := fun e => k5 e.symm
    have j8 : ¬ mS h = mS k := fun e => k4 e.symm
    have j9 : ¬ mG h = mS k := fun e => k6 e.symm
    have nO : diS M1 k h (mO k) = upd (M (mO k)) 0 0 := by rw [i1 _ k1 k2 k3, d2, rO]
    have nS : diS M1 k h (mS k) = M (mS k) := by rw [i1 _ k4 k5 k6, d1 _ n3, rS]
    obtain ⟨w1, w2, w3⟩ := dead_row (M := diS M1 k h) m bb nO nS
    obtain ⟨l1, l2, l3, -, -⟩ := lv2_C (n := 5) (M := diS M1 k h) (k := k) (by rw [nO, nS]; exact m.o 0 0 (h0 := fun _ => Or.inl rfl)) (by rw [nO, nS, msX _ _ 0 _ (by decide)]; exact bb)
    rw [← hK] at w1 l1 l2 l3
    have r6 : M1 6 = M 6 := r 6 (by unfold mdr; omega)
    have fO : ∀ q, K (mO h) q = if q = 12 then M (mO h) 12 + sm (M (mS k)) 40 else if q = 5 then M (mO h) 5 + M (mO k) 5 else if q = 6 then M (mO h) 6 + (if M 6 2 = 0 then M (mO k) 6 else 0) else if q = 7 then M (mO h) 7 + (if M 6 2 = 0 then M (mO k) 7 else 0) else M (mO h) q := by
      intro q
      rw [l1 _ j1 j4 j7, i4, d1 _ j1, d2, d1 _ n3, r6, rS, r _ (nmO h).1, rO]
      rfl
    have fS : ∀ i, i < 40 → K (mS h) i = M (mS h) i + M (mS k) i := fun i hi => by rw [l1 _ j2 j5 j8, i2 i hi, d1 _ j2, d1 _ n3, rS, r _ (nmO h).2.2]
    have fG : ∀ i, i < 4 → K (mG h) i = M (mG h) i + M (mG k) i := fun i hi => by rw [l1 _ j3 j6 j9, i3 i hi, d1 _ j3, d1 _ ka, r _ (nmO h).2.1, r _ (nmO k).2.1]
    have row : ∀ a, ¬ mdr a → ¬ a = mO k → ¬ a = mG k → ¬ a = mS k → ¬ a = mO h → ¬ a = mG h → ¬ a = mS h → K a = M a := fun a ha h1 h2 h3 h4 h5 h6 => by rw [l1 a h1 h2 h3, i1 a h6 h4 h5, d1 a h1, r a ha]
    have rlow : ∀ a, a < 9 → K a = M a := fun a ha => row a (by unfold mdr; omega) (by unfold mO; omega) (by unfold mG; omega) (by unfold mS; omega) (by unfold mO; omega) (by unfold mG; omega) (by unfold mS; omega)
    have oth : ∀ j, j < 5 → ¬ j = k → ¬ j = h → K (mO j) = M (mO j) ∧ K (mG j) = M (mG j) ∧ K (mS j) = M (mS j) := fun j hj hjk hjh =>
      ⟨row _ (nmO j).1 (by unfold mO; omega) (by unfold mO mG; omega) (by unfold mO mS; omega) (by unfold mO; omega) (by unfold mO mG; omega) (by unfold mO mS; omega), row _ (nmO j).2.1 (by unfold mO mG; omega) (by unfold mG; omega) (by unfold mG mS; omega) (by unfold mO mG; omega) (by unfold mG; omega) (by unfold mG mS; omega), row _ (nmO j).2.2 (by unfold mO mS; omega) (by unfold mS mG; omega) (by unfold mS; omega) (by unfold mO mS; omega) (by unfold mS mG; omega) (by unfold mS; omega)⟩
    have r12 : M1 12 = M 12 := n1 12 (by decide) (by decide) (by decide)
    have l4 : ∀ x : Int32, (if M 12 19 &&& 4 = 0 then x else 0) = (if M 6 2 = 0 then x else 0) := fun x => by
      by_cases w : M 6 2 = 0
      · rw [if_pos w, if_pos ((lw4 s.s).mpr w)]
      · rw [if_neg w, if_neg (fun u => w ((lw4 s.s).mp u))]
    have pK : SRP K M1 := by
      refine ⟨fun i a i' a' p => ?_, fun j hj => ?_, fun j hj => ?_, fun j i hj h1 h2 => ?_⟩
      · unfold Pq at p
        rcases p with ⟨rfl, rfl, p⟩ | ⟨rfl, rfl, rfl, p⟩ | ⟨rfl, rfl, rfl, p⟩ | ⟨rfl, rfl, rfl, p⟩ | ⟨rfl, rfl, rfl, p⟩ | ⟨j, o, hj, rfl, rfl, p, rfl⟩ | ⟨j, hj, rfl, rfl, rfl, p⟩ | ⟨j, hj, rfl, rfl, rfl, p⟩
        · rw [r12, rlow 0 (by decide)]; exact s.s.g0 p
        · rw [r12, rlow 2 (by decide)]; exact s.s.te p
        · rw [r12, rlow 4 (by decide)]; exact s.s.p4 p
        · rw [r12, rlow 5 (by decide)]; exact s.s.p5 p
        · rw [r12, rlow 7 (by decide)]; exact s.s.bo p
        · show M1 9 (12 * j + o) = K (mO j) a
          have tb := TA_b _ p
          simp only at tb
          rw [n2 j o tb.1]
          by_cases e : j = k
          · subst e
            rw [if_pos rfl, w1 a (by omega)]
            rcases TA_c p with ⟨rfl, rfl⟩ | ⟨rfl, rfl⟩ | ⟨rfl, rfl⟩ | ⟨rfl, rfl⟩ | ⟨rfl, rfl⟩ | ⟨rfl, rfl⟩ | ⟨rfl, rfl⟩ | ⟨rfl, rfl⟩ | ⟨rfl, rfl⟩
            all_goals first
              | (rw [if_pos (by omega), if_pos (by omega)]; done)
              | (rw [if_neg (by omega), if_neg (by omega)]; exact s.s.mi hj p)
          · rw [if_neg e]
            by_cases e2 : j = h
            · subst e2
              rw [if_pos rfl, fO, l4, l4]
              rcases TA_c p with ⟨rfl, rfl⟩ | ⟨rfl, rfl⟩ | ⟨rfl, rfl⟩ | ⟨rfl, rfl⟩ | ⟨rfl, rfl⟩ | ⟨rfl, rfl⟩ | ⟨rfl, rfl⟩ | ⟨rfl, rfl⟩ | ⟨rfl, rfl⟩
              · exact s.s.mi hj p
              · exact s.s.mi hj p
              · exact s.s.mi hj p
              · exact s.s.mi hj p
              · show M 9 (12 * j + 2) + M 9 (12 * k + 2) = M (mO j) 5 + M (mO k) 5
                rw [s.s.mi (s := 5) (o := 2) hj (by decide), s.s.mi (s := 5) (o := 2) hk (by decide)]
              · show M 9 (12 * j + 3) + (if M 6 2 = 0 then M 9 (12 * k + 3) else 0) = M (mO j) 6 + (if M 6 2 = 0 then M (mO k) 6 else 0)
                rw [s.s.mi (s := 6) (o := 3) hj (by decide), s.s.mi (s := 6) (o := 3) hk (by decide)]
              · show M 9 (12 * j + 4) + (if M 6 2 = 0 then M 9 (12 * k + 4) else 0) = M (mO j) 7 + (if M 6 2 = 0 then M (mO k) 7 else 0)
                rw [s.s.mi (s := 7) (o := 4) hj (by decide), s.s.mi (s := 7) (o := 4) hk (by decide)]
              · exact s.s.mi hj p
              · exact s.s.mi hj p
            · rw [if_neg e2, (oth j hj e e2).1]; exact s.s.mi hj p
        · show M1 11 (4 * j + a) = K (mG j) a
          rw [n5 j a p]
          by_cases e : j = k
          · subst e; rw [if_pos rfl, l3 a p]
          · rw [if_neg e]
            by_cases e2 : j = h
            · subst e2; rw [if_pos rfl, fG a p, s.s.go hj p, s.s.go hk p]
            · rw [if_neg e2, (oth j hj e e2).2.1]; exact s.s.go hj p
        · show M1 10 (12 * j + a) = K (mS j) a
          rw [n4 j a p]
          by_cases e : j = k
          · subst e; rw [if_pos rfl, l2 a (by omega)]
          · rw [if_neg e]
            by_cases e2 : j = h
            · subst e2; rw [if_pos rfl, fS a (by omega), s.s.sc hj p, s.s.sc hk p]
            · rw [if_neg e2, (oth j hj e e2).2.2]; exact s.s.sc hj p
      · rw [n2 j 8 (by decide)]
        by_cases e : j = k
        · subst e; rw [if_pos rfl, if_neg (by decide), w1 3 (by decide), if_neg (by decide)]; exact s.s.ki j hj
        · rw [if_neg e]
          by_cases e2 : j = h
          · subst e2; rw [if_pos rfl, if_neg (by decide), if_neg (by decide), if_neg (by decide), fO]; exact s.s.ki j hj
          · rw [if_neg e2, (oth j hj e e2).1]; exact s.s.ki j hj
      · rw [r12, rlow 6 (by decide)]; exact s.s.la j hj
      · by_cases e : j = k
        · subst e; exact l2 i h2
        · by_cases e2 : j = h
          · subst e2; rw [fS i h2, s.s.fz j i hj h1 h2, s.s.fz k i hk h1 h2]; rfl
          · rw [(oth j hj e e2).2.2]; exact s.s.fz j i hj h1 h2
    refine ⟨K, SR.mk_ pK (fun _ _ => rfl) hm (n7 s.lc) (by rw [rlow 0 (by decide)]; exact s.pd) (by rw [rlow 0 (by decide)]; exact s.ed) iv, fun ρ J => L_isDead_H hl hk h0 hkL hh5 (by rw [hM, hn]) ?_ ?_⟩
    · intro q hq; rw [hM1, r _ (nmO q).1]; exact hkin q hq
    · rw [hM1]; exact e1
end LawH
