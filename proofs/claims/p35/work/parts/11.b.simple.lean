/-! The simple calls. -/
section LawC
theorem rgN {v lo hi : Nat} (h1 : lo ≤ v) (h2 : v ≤ hi) (hh : hi < 2 ^ 31) : ¬ (nI v < nI lo ∨ nI hi < nI v) := by
  rintro (h | h)
  · exact absurd ((nI_ltI (by omega) (by omega)).mp h) (by omega)
  · exact absurd ((nI_ltI (by omega) (by omega)).mp h) (by omega)
theorem up_rr {M N : Mem} {a b i : Nat} {v : Int32} (h : M i = N i) : up M a b v i = up N a b v i := by
  funext q
  rw [up_r, up_r]
  by_cases e : i = a
  · subst e; rw [if_pos rfl, if_pos rfl, h]
  · rw [if_neg e, if_neg e, h]
theorem ivK {c : Nat} {ts : List String} {oc om : Mem → Out} (sim : Sim 5 c ts oc om) {M M1 K : Mem} {x : Int32} (I : Iv c 5 M) (h : ∀ i, ¬ mdr i → M1 i = M i) (e : oc M1 = rI x K) : Iv (c + 1) 5 K ∧ ∀ i, mdr i → K i = M1 i := by
  have h9 := simI (o := oc M1) (om := om) (fun P Q B r I' => sim P Q M1 B r I') (I.congr h)
  rw [e] at h9
  exact h9
theorem mdr9 : mdr 9 ∧ mdr 10 ∧ mdr 11 ∧ mdr 12 := by unfold mdr; omega
theorem nmO (k : Nat) : ¬ mdr (mO k) ∧ ¬ mdr (mG k) ∧ ¬ mdr (mS k) := by unfold mdr mO mG mS; omega
theorem law1 {M : Mem} {i' k' : Nat} {v : Int32} (h : mdr i') : ∀ i, ¬ mdr i → up M i' k' v i = M i := fun i hi => up_row (fun e => hi (e ▸ h))
/-- idle -/
theorem SR.idle {c : Nat} {M : Mem} (s : SR c M) (hc : c < 512) : SR (c + 1) M := ⟨s.s, s.lc, s.pd, s.ed, s.iv.next hc⟩
/-- one cell of each side -/
theorem SR.one {c : Nat} {M : Mem} (s : SR c M) {i k i' k' : Nat} {v : Int32} (p : Pq i k i' k') (hn : ¬ i' = 10) (h0 : i = 0 → ¬ k = 6 ∧ ¬ k = 3) (iv : Iv (c + 1) 5 (up (up M i' k' v) i k v)) : SR (c + 1) (up (up M i' k' v) i k v) := by
  obtain ⟨r1, r2, -, -, -, r6, r7, -, -⟩ := p.rows
  have h00 : ∀ q, q = 6 ∨ q = 3 → up (up M i' k' v) i k v 0 q = M 0 q := fun q hq => by
    rw [up12 (fun e => by have := h0 e.1.symm; omega), up_row (fun e => by rw [← e] at r2; exact absurd r2 (by unfold mdr; omega))]
  refine SR.mk_ (A := up M i k v) (L := up M i' k' v) (s.s.pw p rfl) (fun a ha => up_rr (up_row (fun e => ha (e ▸ r2)))) (fun a ha => up_row (fun e => r1 (e ▸ ha))) (s.lc.up_ hn (fun e j => ⟨fun q => r6 j ⟨e, q⟩, fun q => r7 j ⟨e, q⟩⟩)) ?_ ?_ iv
  · rw [h00 6 (Or.inl rfl)]; exact s.pd
  · rw [h00 3 (Or.inr rfl)]; exact s.ed
/-- what a law's method does: it answers true, and the two agree again -/
abbrev LwGo (l : Launch) (c : Nat) (y : MethodName) (cy : ByteArray) (mL : Nat) (M : Mem) (As : (Nat → Nat) → List Value) : Prop := ∃ K : Mem, SR (c + 1) K ∧ ∀ (ρ : Nat → Nat) (J : Nat → Int64), CtO l y cy mL (some .boolean) 10 13 78 5 ρ J M (As ρ) (rI 1 K)
theorem dq (z : Nat) (a b : Nat) (p : Prop) [Decidable p] : (if p then a else b) = a ∨ (if p then a else b) = b := by split <;> simp
theorem G_hew {l : Launch} (hl : l.stackTraces = false) {c : Nat} (hc : c < 512) {M : Mem} (s : SR c M) {z : Nat} (hz : z < 1000000000) : LwGo l c yL_isHewn cL_isHewn 6 M (fun ρ => [.ref (ρ 0), .ref (ρ 9), .ref (ρ 12), .int (nI z)]) := by
  obtain ⟨k, hk0⟩ : ∃ k, z % 5 = k := ⟨_, rfl⟩
  obtain ⟨q, hq⟩ : ∃ q, (if z / 3 % 2 = 0 then 1000 else 60) = q := ⟨_, rfl⟩
  have hq2 : q = 1000 ∨ q = 60 := by rw [← hq]; exact dq 0 _ _ _
  obtain ⟨w, hw⟩ : ∃ w, 1 + z / 5 % q = w := ⟨_, rfl⟩
  have hk : k < 5 := by omega
  have hw2 : w ≤ 1000 := by have := Nat.mod_lt (z / 5) (show 0 < q by omega); omega
  have g := s.iv.g
  by_cases h : M 9 (12 * k) = 0 ∨ M 12 22 = 1 ∨ M 12 23 = 1
  · exact ⟨M, s.idle hc, fun ρ J => L_isHewn_0 hl hz hk hk0 hq hq2 hw h⟩
  have h1 : ¬ M 9 (12 * k) = 0 := fun q => h (Or.inl q)
  have h2 : ¬ M 12 22 = 1 := fun q => h (Or.inr (Or.inl q))
  have h3 : ¬ M 12 23 = 1 := fun q => h (Or.inr (Or.inr q))
  have c14 : M 0 14 = 0 := by rw [s.s.g0 (k := 14) (by decide)] at h2; exact g.st.resolve_right h2
  have c15 : M 0 15 = 0 := by rw [s.s.g0 (k := 15) (by decide)] at h3; exact g.cl.resolve_right h3
  have r : ∀ i, ¬ mdr i → hwL M k w i = M i := law1 mdr9.1
  have rO := r (mO k) (nmO k).1
  have r0 := r 0 (by unfold mdr; omega)
  obtain ⟨v, hv⟩ : ∃ v, v = M (mO k) 4 + hewn M (nI w) := ⟨_, rfl⟩
  have e1 : o_hew (hwL M k w) k (nI w) = rI v (up (hwL M k w) (mO k) 4 v) := by
    unfold o_hew hewn
    rw [if_neg (show ¬ (nI w < 1 ∨ 1000 < nI w) from rgN (lo := 1) (hi := 1000) (by omega) hw2 (by decide)), rO, r0, if_neg (by rw [← s.s.al hk]; exact h1), if_pos c14, if_pos c15, up_same, hv]
    rfl
  have e2 : hwL M k w = up M 9 (12 * k + 1) v := by
    unfold hwL
    rw [hv, s.s.mi (s := 4) (o := 1) hk (by decide), s.s.g0 (k := 2) (by decide), s.s.g0 (k := 1) (by decide)]
    unfold hewn
    congr 2
    rcases g.ck with q | q
    · rw [q, if_neg (by decide), if_pos rfl]
    · rw [q, if_pos rfl, if_neg (by decide)]
  obtain ⟨iv, -⟩ := ivK (s_hew hc hk (w := nI w)) s.iv r e1
  rw [e2] at iv
  refine ⟨_, s.one (pqO hk (by decide)) (by decide) (fun e => by unfold mO at e; omega) iv, fun ρ J => L_isHewn hl hz hk hk0 hq hq2 hw h1 h2 h3 (x := v) (by rw [e1, e2]) ?_⟩
  rw [up_row (by unfold mO; omega), up_same]
theorem G_house {l : Launch} (hl : l.stackTraces = false) {c : Nat} (hc : c < 512) {M : Mem} (s : SR c M) {k : Nat} (hk : k < 5) : LwGo l c yL_isHoused cL_isHoused 3 M (fun ρ => [.ref (ρ 0), .ref (ρ 9), .int (nI k)]) := by
  have m := s.iv.m.mi k hk
  have hb : ∀ x : Int32, isB x → (if x = 0 then (0 : Int32) else 1) = x := by
    rintro x (rfl | rfl) <;> rfl
  by_cases h : M 9 (12 * k) = 1 ∧ M 9 (12 * k + 5) = 0 ∧ M 9 (12 * k + 4) = 0
  · obtain ⟨h1, h2, h3⟩ := h
    have r : ∀ i, ¬ mdr i → up M 9 (12 * k + 5) 1 i = M i := law1 mdr9.1
    have rO := r (mO k) (nmO k).1
    have e1 : o_house (up M 9 (12 * k + 5) 1) k = rV (up (up M 9 (12 * k + 5) 1) (mO k) 1 1) := by
      unfold o_house
      rw [rO, ← s.s.al hk, if_neg (by rw [h1]; decide), ← s.s.mi (s := 1) (o := 5) hk (by decide), if_pos h2, ← s.s.mi (s := 7) (o := 4) hk (by decide), if_pos (by rw [h3]; decide)]
    have iv : Iv (c + 1) 5 (up (up M 9 (12 * k + 5) 1) (mO k) 1 1) := by
      obtain ⟨M2, -, -, -, -, h6⟩ := s_house hc hk _ _ _ _ (mir_R (up M 9 (12 * k + 5) 1)) (s.iv.congr r)
      dsimp only at h6
      rw [e1] at h6
      exact h6
    refine ⟨_, s.one (pqO hk (by decide)) (by decide) (fun e => by unfold mO at e; omega) iv, fun ρ J => L_isHoused hl hk h1 h2 h3 e1 ?_⟩
    show (if _ = 0 then (0 : Int32) else 1) = _
    rw [up_same, up_row (by unfold mO; omega), up_same]
    rfl
  · refine ⟨M, s.idle hc, fun ρ J => L_isHoused_0 hl hk h ?_⟩
    show (if _ = 0 then (0 : Int32) else 1) = _
    rw [hb _ m.b1, s.s.mi (s := 1) (o := 5) hk (by decide)]
theorem mulI (a b : Int32) : a * b = b * a := Int32.mul_comm a b
theorem G_over {l : Launch} (hl : l.stackTraces = false) {c : Nat} (hc : c < 512) {M : Mem} (s : SR c M) {z : Nat} (hz : z < 1000000000) (ho : z / 1000 % 4 = 0) : LwGo l c yL_isBought cL_isBought 15 M (fun ρ => [.ref (ρ 0), .ref (ρ 9), .ref (ρ 10), .ref (ρ 11), .ref (ρ 12), .int (nI z)]) := by
  obtain ⟨k, hk0⟩ : ∃ k, z % 5 = k := ⟨_, rfl⟩
  obtain ⟨gd, hg0⟩ : ∃ k, z / 5 % 4 = k := ⟨_, rfl⟩
  obtain ⟨q, hq⟩ : ∃ q, (if z / 7 % 3 = 0 then 50 else 5) = q := ⟨_, rfl⟩
  have hq2 : q = 50 ∨ q = 5 := by rw [← hq]; exact dq 0 _ _ _
  obtain ⟨w, hw⟩ : ∃ w, 1 + z / 20 % q = w := ⟨_, rfl⟩
  have hk : k < 5 := by omega
  have hg : gd < 4 := by omega
  have hw2 : w ≤ 50 := by have := Nat.mod_lt (z / 20) (show 0 < q by omega); omega
  by_cases h : M 9 (12 * k) = 0 ∨ M 9 (12 * k + 2) < nI w * M 12 (9 + gd)
  · exact ⟨M, s.idle hc, fun ρ J => L_isOver_0 hl hz hk hk0 hg hg0 hq hq2 hw ho h⟩
  have h1 : ¬ M 9 (12 * k) = 0 := fun q => h (Or.inl q)
  have h2 : nI w * M 12 (9 + gd) ≤ M 9 (12 * k + 2) := Int32.not_lt.mp (fun q => h (Or.inr q))
  obtain ⟨C, hC⟩ : ∃ C, C = nI w * M 12 (9 + gd) := ⟨_, rfl⟩
  have hC2 : M 5 gd * nI w = C := by rw [hC, s.s.p5 hg, mulI]
  have eA : ovA M k gd w = up M 9 (12 * k + 2) (M (mO k) 5 - C) := by unfold ovA; rw [← hC, s.s.mi (s := 5) (o := 2) hk (by decide)]
  have eL : ovL M k gd w = up (up M 9 (12 * k + 2) (M (mO k) 5 - C)) 11 (4 * k + gd) (M (mG k) gd + nI w) := by
    unfold ovL
    rw [eA, up_row (show ¬ 11 = 9 by decide), s.s.go hk hg]
  have r : ∀ i, ¬ mdr i → ovL M k gd w i = M i := fun i hi => by
    rw [eL, law1 mdr9.2.2.1 i hi, law1 mdr9.1 i hi]
  have rO := r (mO k) (nmO k).1
  have e1 : o_over (ovL M k gd w) k gd (nI w) = rI (M (mO k) 5 - C) (up (up (ovL M k gd w) (mO k) 5 (M (mO k) 5 - C)) (mG k) gd (M (mG k) gd + nI w)) := by
    unfold o_over ov2 ov1
    rw [if_neg (show ¬ (nI w < 1 ∨ 50 < nI w) from rgN (lo := 1) (hi := 50) (by omega) hw2 (by decide)), rO, r 5 (by unfold mdr; omega), hC2, if_neg (by rw [← s.s.al hk]; exact h1), if_pos (by rw [← s.s.mi (s := 5) (o := 2) hk (by decide), hC]; exact h2)]
    rw [up_row (show ¬ mG k = mO k by unfold mO mG; omega), r (mG k) (nmO k).2.1, up_row (show ¬ mO k = mG k by unfold mO mG; omega), up_same]
  obtain ⟨iv, hm⟩ := ivK (s_over hc hk hg (w := nI w)) s.iv r e1
  have p1 := s.s.pw (pqO hk (s := 5) (o := 2) (by decide)) (v := M (mO k) 5 - C) rfl
  have p2 := p1.pw (pqG hk hg) (v := M (mG k) gd + nI w) rfl
  refine ⟨_, SR.mk_ p2 (fun i hi => up_rr (up_rr (r i hi))) (fun i hi => by rw [hm i hi, eL]) ?_ ?_ ?_ iv, fun ρ J => L_isOver hl hz hk hk0 hg hg0 hq hq2 hw ho h1 h2 e1 ?_⟩
  · exact (s.lc.up_ (by decide) (fun _ j => by omega)).up_ (by decide) (fun e => by omega)
  · rw [up_row (by unfold mG; omega), up_row (by unfold mO; omega), r 0 (by unfold mdr; omega)]; exact s.pd
  · rw [up_row (by unfold mG; omega), up_row (by unfold mO; omega), r 0 (by unfold mdr; omega)]; exact s.ed
  · rw [hm 9 mdr9.1, eL, up_row (by decide), up_same]
end LawC
