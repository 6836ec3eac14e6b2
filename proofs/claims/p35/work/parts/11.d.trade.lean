/-! Asking, striking, buying, changing. -/
section LawE
theorem raS {c : Nat} {M : Mem} (s : SR c M) {k g : Nat} (hk : k < 5) (hg : g < 4) : raL M k g = sPrice M k g := by
  unfold raL sPrice
  rw [s.s.p4 hg, s.s.mi (s := 6) (o := 3) hk (by decide)]
theorem G_same {l : Launch} (hl : l.stackTraces = false) {c : Nat} {M : Mem} (s : SR c M) {z : Nat} (hz : z < 1000000000) (ρ : Nat → Nat) (J : Nat → Int64) : CtO l yL_isSame cL_isSame 11 (some .boolean) 10 40 240 5 ρ J M [.ref (ρ 0), .ref (ρ 9), .ref (ρ 10), .ref (ρ 11), .ref (ρ 12), .int (nI z)] (rI 1 M) := by
  obtain ⟨k, hk0⟩ : ∃ k, z % 5 = k := ⟨_, rfl⟩
  obtain ⟨g, hg0⟩ : ∃ k, z / 5 % 4 = k := ⟨_, rfl⟩
  obtain ⟨i, hi0⟩ : ∃ k, z / 20 % 12 = k := ⟨_, rfl⟩
  obtain ⟨j, hj0⟩ : ∃ k, z / 240 % 6 = k := ⟨_, rfl⟩
  have hk : k < 5 := by omega
  have hg : g < 4 := by omega
  have hi : i < 12 := by omega
  have hj : j < 6 := by omega
  have m := s.iv.m.mi k hk
  have hb : ∀ x : Int32, isB x → (if x = 0 then (0 : Int32) else 1) = x := by
    rintro x (rfl | rfl) <;> rfl
  have hco : coL M k = bask M k 4 := by
    unfold coL
    rw [raS s hk (show 0 < 4 by decide), raS s hk (show 1 < 4 by decide), raS s hk (show 2 < 4 by decide), raS s hk (show 3 < 4 by decide)]
    rfl
  have hbk := (bk_eq (mir_R M) s.iv hk 4 (Nat.le_refl 4)).2.1
  have e0 : (0 : Int32).toInt = 0 := rfl
  have hc : ¬ coL M k = 0 := fun q => by rw [hco, eqi, e0] at q; omega
  refine L_isSame hl hz hk hk0 hg hg0 hi hi0 hj hj0 ?_ ?_ ?_ ?_ ?_ ?_ ?_ ?_ ?_ ?_ ?_ ?_ ?_ ?_ ?_ ?_ hc ?_
  · exact (s.s.hs hk).symm
  · rw [s.lc k hk, m.cw, s.s.hs hk]
  · show M (mO k) 3 = _
    rw [s.s.ki k hk]; grind
  · exact (s.s.go hk hg).symm
  · exact (s.s.sc hk hi).symm
  · exact (raS s hk hg).symm
  · exact (s.s.g0 (by decide)).symm
  · exact (s.s.bo hj).symm
  · show (if M (mO k) 0 = 0 then (0 : Int32) else 1) = _
    rw [hb _ m.b0, s.s.mi (s := 0) (o := 0) hk (by decide)]
  · exact (s.s.mi (s := 4) (o := 1) hk (by decide)).symm
  · exact (s.s.mi (s := 5) (o := 2) hk (by decide)).symm
  · exact (s.s.mi (s := 6) (o := 3) hk (by decide)).symm
  · exact (s.s.mi (s := 7) (o := 4) hk (by decide)).symm
  · show (if M (mO k) 1 = 0 then (0 : Int32) else 1) = _
    rw [hb _ m.b1, s.s.mi (s := 1) (o := 5) hk (by decide)]
  · exact (s.s.mi (s := 8) (o := 6) hk (by decide)).symm
  · exact (s.s.mi (s := 9) (o := 7) hk (by decide)).symm
  · unfold o_bask
    rw [if_neg (by rw [lei, e0]; omega), hco, s.s.mi (s := 9) (o := 7) hk (by decide)]
/-- the votes -/
theorem st_R {c : Nat} {M : Mem} (s : SR c M) : ∀ j, j ≤ 5 → ∃ a b : Nat, a + b ≤ j ∧ stS M j = (nI a, nI b) ∧ (lead M j).toInt = (a : Int) - b := by
  intro j
  induction j with
  | zero => intro _; exact ⟨0, 0, Nat.le_refl _, rfl, rfl⟩
  | succ j ih =>
    intro hj
    obtain ⟨a, b, h1, h2, h3⟩ := ih (by omega)
    have m := s.iv.m.mi j (by omega)
    have h4 : stS M (j + 1) = ((stS M j).1 + (if M 9 (12 * j) = 1 then (if M 9 (12 * j + 9) = 1 then 1 else 0) else 0), (stS M j).2 + (if M 9 (12 * j) = 1 then (if M 9 (12 * j + 9) = 0 then 1 else 0) else 0)) := rfl
    rw [h2, s.s.al (show j < 5 by omega), s.s.mi (s := 2) (o := 9) (show j < 5 by omega) (by decide)] at h4
    dsimp only at h4
    rw [h4, lead_s]
    rcases m.b0 with q | q
    · rw [q]
      exact ⟨a, b, by omega, (show ((nI a + 0, nI b + 0) : Int32 × Int32) = (nI a, nI b) by rw [Int32.add_zero, Int32.add_zero]), h3⟩
    · have e1 : (1 : Int32).toInt = 1 := rfl
      have e2 : (-1 : Int32).toInt = -1 := rfl
      rcases m.b2 with w | w
      · rw [q, w]
        refine ⟨a, b + 1, by omega, (show ((nI a + 0, nI b + 1) : Int32 × Int32) = (nI a, nI (b + 1)) by rw [Int32.add_zero, nI_1]), ?_⟩
        show (lead M j + (-1)).toInt = _
        rw [ia (by rw [h3, e2]; omega) (by rw [h3, e2]; omega), h3, e2]; omega
      · rw [q, w]
        refine ⟨a + 1, b, by omega, (show ((nI a + 1, nI b + 0) : Int32 × Int32) = (nI (a + 1), nI b) by rw [Int32.add_zero, nI_1]), ?_⟩
        show (lead M j + 1).toInt = _
        rw [ia (by rw [h3, e1]; omega) (by rw [h3, e1]; omega), h3, e1]; omega
theorem G_struck0 {l : Launch} (hl : l.stackTraces = false) {c : Nat} (hc : c < 512) {M : Mem} (s : SR c M) : LwGo l c yL_isStruck cL_isStruck 11 M (fun ρ => [.ref (ρ 0), .ref (ρ 9), .ref (ρ 10), .ref (ρ 12), .int 0]) := by
  have g := s.iv.g
  by_cases h : M 12 23 = 1 ∨ (M 12 22 = 0 ∧ (stS M 5).1 ≤ (stS M 5).2)
  · exact ⟨M, s.idle hc, fun ρ J => L_isStruck_s0 hl h⟩
  have h1 : ¬ M 12 23 = 1 := fun q => h (Or.inl q)
  have h2 : ¬ M 12 22 = 0 ∨ (stS M 5).2 < (stS M 5).1 := by
    by_cases q : M 12 22 = 0
    · exact Or.inr (Int32.not_le.mp (fun w => h (Or.inr ⟨q, w⟩)))
    · exact Or.inl q
  have c14 : M 12 22 = M 0 14 := s.s.g0 (by decide)
  have c15 : M 0 15 = 0 := by rw [s.s.g0 (k := 15) (by decide)] at h1; exact g.cl.resolve_right h1
  obtain ⟨v, hv⟩ : ∃ v, v = (if M 0 14 = 0 then (1 : Int32) else 0) := ⟨_, rfl⟩
  have eU : stU M = up M 12 22 v := by
    unfold stU
    rw [c14, hv]
    rcases g.st with q | q <;> rw [q] <;> rfl
  have e1 : o_strike (stU M) 5 = rI v (up (up M 12 22 v) 0 14 v) := by
    rw [eU]
    have r0 : up M 12 22 v 0 = M 0 := up_row (by decide)
    have es : strM (up M 12 22 v) = up (up M 12 22 v) 0 14 v := by unfold strM; rw [r0, ← hv]
    unfold o_strike
    rw [r0, if_pos c15, es, up_same]
    rcases g.st with q | q
    · have hcan : ¬ o_can (up M 12 22 v) 5 = 0 := by
        obtain ⟨a, b, q1, q2, q3⟩ := st_R s 5 (Nat.le_refl 5)
        have hl2 : lead (up M 12 22 v) 5 = lead M 5 := by
          have : ∀ j, lead (up M 12 22 v) j = lead M j := fun j => by
            induction j with
            | zero => rfl
            | succ j ih => rw [lead_s, lead_s, ih, up_row (show ¬ mO j = 12 by unfold mO; omega)]
          exact this 5
        rw [q2] at h2
        have h3 := h2.resolve_left (fun w => w (c14.trans q))
        have h4 := (nI_ltI (a := b) (b := a) (by omega) (by omega)).mp h3
        unfold o_can
        rw [hl2, if_neg (by rw [lei, q3]; have : (0 : Int32).toInt = 0 := rfl; omega)]
        decide
      rw [if_pos q, if_neg hcan]
    · rw [if_neg (by rw [q]; decide)]
  obtain ⟨iv, -⟩ := ivK (s_strike hc) s.iv (M1 := stU M) (by rw [eU]; exact law1 mdr9.2.2.2) e1
  refine ⟨_, s.one (pq0 (k := 14) (k' := 22) (by decide)) (by decide) (by omega) iv, fun ρ J => L_isStruck_s hl h1 h2 e1 ?_⟩
  rw [up_row (show ¬ 12 = 0 by decide), up_same, hv]
  rcases g.st with q | q <;> rw [q] <;> rfl
/-- scrip taken, issue by issue, on both sides -/
theorem nO13 {j a b : Nat} : ¬ Pq (mO j) 13 a b ∧ ¬ Pq (mO j) 12 a b := by
  unfold Pq mO
  constructor
  all_goals
    rintro (g | g | g | g | g | ⟨q, o, g⟩ | ⟨q, g⟩ | ⟨q, g⟩)
    all_goals first
      | omega
      | (have hb := TA_b _ g.2.2.2.1; simp only at hb; omega)
theorem SRP.o13 {A L : Mem} (h : SRP A L) {j : Nat} {v : Int32} : SRP (up A (mO j) 13 v) L := h.cw (fun _ _ => nO13.1) (by unfold mO; omega) (fun _ => by omega) (fun _ => by unfold mO mS; omega)
theorem SRP.o12 {A L : Mem} (h : SRP A L) {j : Nat} {v : Int32} : SRP (up A (mO j) 12 v) L := h.cw (fun _ _ => nO13.2) (by unfold mO; omega) (fun _ => by omega) (fun _ => by unfold mO mS; omega)
theorem i0 : (0 : Int32).toInt = 0 := rfl
theorem mn_0 {x y : Int32} (hx : 0 ≤ x.toInt) (hy : y.toInt = 0) : mn x y = 0 := by
  rw [eqi, mnI, i0]; split <;> omega
theorem mn_z {x y : Int32} (hx : x = 0) (hy : 0 ≤ y.toInt) : mn x y = 0 := by
  rw [eqi, mnI, hx, i0]; split <;> omega
theorem sp_R {A L : Mem} (h : SRP A L) {k : Nat} (hk : k < 5) (m : MI 5 (A (mO k)) (A (mS k))) (hb : msR (A (mO k)) (A (mS k)) ≤ 3584000) {w : Int32} (hw : 0 ≤ w.toInt) : ∀ i, i ≤ 12 → SRP (llow A k w i).1 (spL L k w i).1 ∧ (spL L k w i).2 = w - (llow A k w i).2 ∧ (LC L → LC (spL L k w i).1) := by
  intro i
  induction i with
  | zero => intro _; exact ⟨h, by show w = w - 0; grind, id⟩
  | succ i ih =>
    intro hi
    obtain ⟨p, e, lc⟩ := ih (by omega)
    have LLi := llow_L m hw i (by omega)
    have bd := m.bd
    have ht := LLi.t
    have hsi := si_nn (f := A (mS k)) (m := i) (fun q hq => m.ps q (by omega))
    have hsm := si_mono (f := A (mS k)) (m := 40) (q := i) m.ps (by omega)
    have hx0 := LLi.ps i (by omega)
    rw [spL_s]
    have hls : llow A k w (i + 1) = (lose (llow A k w i).1 k i (w - (llow A k w i).2), (llow A k w i).2 + mn ((llow A k w i).1 (mS k) i) (w - (llow A k w i).2)) := rfl
    rw [hls, e]
    generalize hA1 : (llow A k w i).1 = A1 at *
    generalize hT : (llow A k w i).2 = t at *
    generalize hL1 : (spL L k w i).1 = L1 at *
    have ibw := ib w
    have hlt : (w - t).toInt = w.toInt - t.toInt := is (by omega) (by omega)
    have hsc : L1 10 (12 * k + i) = A1 (mS k) i := p.sc hk (by omega)
    generalize hD : w - t = D at *
    generalize hX : A1 (mS k) i = x at *
    have pO : ∀ v v' v2 : Int32, ∀ q : SRP (up A1 (mS k) i v) (up L1 10 (12 * k + i) v'), ∀ u : Int32, SRP (up (up A1 (mS k) i v) (mO k) 13 v2) (up (up L1 10 (12 * k + i) v') 9 (12 * k + 11) u) := fun v v' v2 q u => q.o13.lw (Or.inr rfl)
    unfold lose
    rw [hX]
    by_cases c0 : D ≤ 0
    · rw [if_pos c0]
      rw [lei, i0] at c0
      have hD0 : D.toInt = 0 := by omega
      have hm := mn_0 hx0 hD0
      refine ⟨?_, ?_, ?_⟩
      · rw [hm, Int32.sub_zero, ← hX, up_id, hL1]; exact p.o13
      · dsimp only; rw [hm, e]; grind
      · rw [hL1]; exact lc
    · rw [if_neg c0]
      rw [lei, i0] at c0
      unfold spE spD
      rw [hsc]
      by_cases c1 : x ≤ D
      · rw [if_pos c1, if_pos c1, if_pos c1]
        have hm : mn x D = x := by unfold mn; rw [lei] at c1; rw [if_neg (by rw [lti]; omega)]
        refine ⟨?_, ?_, fun q => ?_⟩
        · rw [hm]; exact pO _ _ _ (p.pw (pqS hk (by omega)) (by grind)) _
        · dsimp only; rw [hm]; grind
        · exact (lc q).goes (by omega) (by rw [hsc]; grind)
      · rw [if_neg c1, if_neg c1, if_neg c1]
        have hm : mn x D = D := by unfold mn; rw [lei] at c1; rw [if_pos (by rw [lti]; omega)]
        refine ⟨?_, ?_, fun q => ?_⟩
        · rw [hm]; exact pO _ _ _ (p.pw (pqS hk (by omega)) rfl) _
        · dsimp only; rw [hm]; grind
        · exact (lc q).goes (by omega) (by rw [hsc]; grind)
theorem sp_F {A L : Mem} (h : SRP A L) {k : Nat} (hk : k < 5) (m : MI 5 (A (mO k)) (A (mS k))) (hb : msR (A (mO k)) (A (mS k)) ≤ 3584000) {w : Int32} (hw : 0 ≤ w.toInt) : SRP (llow A k w 40).1 (spL L k w 12).1 ∧ (spL L k w 12).2 = w - (llow A k w 40).2 ∧ (LC L → LC (spL L k w 12).1) := by
  obtain ⟨p, e, lc⟩ := sp_R h hk m hb hw 12 (Nat.le_refl 12)
  have key : ∀ q, q ≤ 28 → SRP (llow A k w (12 + q)).1 (spL L k w 12).1 ∧ (llow A k w (12 + q)).2 = (llow A k w 12).2 := by
    intro q
    induction q with
    | zero => intro _; exact ⟨p, rfl⟩
    | succ q ih =>
      intro hq
      obtain ⟨p1, e1⟩ := ih (by omega)
      have LLi := llow_L m hw (12 + q) (by omega)
      have bd := m.bd
      have ht := LLi.t
      have hsi := si_nn (f := A (mS k)) (m := 12 + q) (fun q hq => m.ps q (by omega))
      have hsm := si_mono (f := A (mS k)) (m := 40) (q := 12 + q) m.ps (by omega)
      have ibw := ib w
      have hlt : (w - (llow A k w (12 + q)).2).toInt = w.toInt - (llow A k w (12 + q)).2.toInt := is (by omega) (by omega)
      have hls : llow A k w (12 + (q + 1)) = (lose (llow A k w (12 + q)).1 k (12 + q) (w - (llow A k w (12 + q)).2), (llow A k w (12 + q)).2 + mn ((llow A k w (12 + q)).1 (mS k) (12 + q)) (w - (llow A k w (12 + q)).2)) := rfl
      have hx : (llow A k w (12 + q)).1 (mS k) (12 + q) = 0 := p1.fz k (12 + q) hk (by omega) (by omega)
      have hm := mn_z hx (y := w - (llow A k w (12 + q)).2) (by omega)
      rw [hls]
      unfold lose
      dsimp only
      rw [hm, Int32.sub_zero, Int32.add_zero, Int32.add_zero, up_id]
      exact ⟨p1.o13, e1⟩
  obtain ⟨p2, e2⟩ := key 28 (Nat.le_refl 28)
  rw [show 12 + 28 = 40 from rfl] at p2 e2
  exact ⟨p2, by rw [e, e2], lc⟩
theorem sp_row {M : Mem} {k : Nat} {v : Int32} {i : Nat} (h : ¬ i = 9) (h2 : ¬ i = 10) : ∀ m, (spL M k v m).1 i = M i
  | 0 => rfl
  | m + 1 => by
    rw [spL_s]
    split
    · exact sp_row h h2 m
    · dsimp only
      unfold spE spD
      rw [up_row h, up_row h2]
      exact sp_row h h2 m
theorem wh_R {c : Nat} {M : Mem} (s : SR c M) {k : Nat} (hk : k < 5) (x : Int32) : whL M k x = o_ref M k x := by
  have g := s.iv.g
  unfold whL o_ref onCr
  rw [s.s.g0 (k := 15) (by decide), s.s.g0 (k := 14) (by decide), s.s.g0 (k := 9) (by decide), s.s.al hk, s.s.hs hk, s.s.mi (s := 5) (o := 2) hk (by decide), s.s.mi (s := 6) (o := 3) hk (by decide)]
  have e : x - sm (M (mS k)) 40 - M (mO k) 5 = x - (M (mO k) 5 + sm (M (mS k)) 40) := by grind
  rw [e]
  rcases g.cl with q | q
  · rw [q, if_neg (by decide), if_pos rfl]
    rcases g.st with w | w
    · rw [w, if_neg (by decide), if_pos rfl]
    · rw [w, if_pos rfl, if_neg (by decide)]
  · rw [q, if_pos rfl, if_neg (by decide)]
theorem o_ref_v (M : Mem) (k : Nat) (x : Int32) : o_ref M k x ≤ 0 → o_ref M k x = 0 := by
  unfold o_ref
  (repeat' split) <;> intro h <;> first | rfl | exact absurd h (by decide)
theorem G_bought {l : Launch} (hl : l.stackTraces = false) {c : Nat} (hc : c < 512) {M : Mem} (s : SR c M) {z : Nat} (hz : z < 1000000000) (ho : ¬ z / 1000 % 4 = 0) : LwGo l c yL_isBought cL_isBought 15 M (fun ρ => [.ref (ρ 0), .ref (ρ 9), .ref (ρ 10), .ref (ρ 11), .ref (ρ 12), .int (nI z)]) := by
  obtain ⟨k, hk0⟩ : ∃ k, z % 5 = k := ⟨_, rfl⟩
  obtain ⟨g, hg0⟩ : ∃ k, z / 5 % 4 = k := ⟨_, rfl⟩
  obtain ⟨q, hq⟩ : ∃ q, (if z / 7 % 3 = 0 then 50 else 5) = q := ⟨_, rfl⟩
  have hq2 : q = 50 ∨ q = 5 := by rw [← hq]; exact dq 0 _ _ _
  obtain ⟨w, hw⟩ : ∃ w, 1 + z / 20 % q = w := ⟨_, rfl⟩
  have hk : k < 5 := by omega
  have hg : g < 4 := by omega
  have hw2 : w ≤ 50 := by have := Nat.mod_lt (z / 20) (show 0 < q by omega); omega
  have m := s.iv.m.mi k hk
  obtain ⟨C, hC⟩ : ∃ C, C = sPrice M k g * nI w := ⟨_, rfl⟩
  have hC1 : nI w * raL M k g = C := by rw [hC, raS s hk hg, mulI]
  have sb := spr_bd s.iv hk hg
  have hwI : (nI w).toInt = w := nI_toInt (by omega)
  have hCn : 0 ≤ C.toInt := by
    have h1 : 0 ≤ (sPrice M k g).toInt * (w : Int) := Int.mul_nonneg (by omega) (by omega)
    have h2 : (sPrice M k g).toInt * (w : Int) ≤ 1792100 * 50 := Int.mul_le_mul sb.2 (by omega) (by omega) (by omega)
    rw [hC, im (by rw [hwI]; omega) (by rw [hwI]; omega), hwI]; exact h1
  have hrng : ¬ (nI w < 1 ∨ 50 < nI w) := rgN (lo := 1) (hi := 50) (by omega) hw2 (by decide)
  have ewhy : o_why M k g (nI w) = rI (whL M k C) M := by
    unfold o_why
    rw [if_neg hrng, ← hC, wh_R s hk]
  by_cases h1 : whL M k C ≤ 0
  case neg => exact ⟨M, s.idle hc, fun ρ J => L_isBought_0 hl hz hk hk0 hg hg0 hq hq2 hw ho (by rw [hC1]; exact h1) (by rw [hC1]; exact ewhy)⟩
  have h0 : o_ref M k C = 0 := o_ref_v _ _ _ (by rw [← wh_R s hk]; exact h1)
  rw [wh_R s hk, h0] at ewhy
  -- the law's part
  have r : ∀ i, ¬ mdr i → bbF M k g w i = M i := fun i hi => by
    unfold bbF bbE bb4 bb3 bb2 bb1
    rw [law1 mdr9.2.2.1 i hi, law1 mdr9.1 i hi, law1 mdr9.1 i hi, law1 mdr9.2.2.2 i hi, sp_row (fun e => by rw [e] at hi; exact hi mdr9.1) (fun e => by rw [e] at hi; exact hi mdr9.2.1)]
  generalize hM1 : bbF M k g w = M1 at *
  have rO := r (mO k) (nmO k).1
  have rS := r (mS k) (nmO k).2.2
  have r0 := r 0 (by unfold mdr; omega)
  have hsp : sPrice M1 k g = sPrice M k g := by unfold sPrice; rw [rO, r 4 (by unfold mdr; omega)]
  have hre : o_ref M1 k C = 0 := by rw [← h0]; unfold o_ref onCr; rw [rO, rS, r0]
  obtain ⟨K, hK⟩ : ∃ K, K = by5 M1 k g C (nI w) := ⟨_, rfl⟩
  have e1 : o_buy M1 k g (nI w) = rI (K (mO k) 6) K := by
    unfold o_buy
    rw [if_neg hrng, hsp, ← hC, if_pos hre, hK]
  obtain ⟨iv, hm⟩ := ivK (s_buy hc hk hg (w := nI w)) s.iv r e1
  -- both together
  obtain ⟨p, eL, lc⟩ := sp_F (s.s.ca (A' := M1) r) hk (by rw [rO, rS]; exact m) (by rw [rO, rS]; exact s.iv.msle hk) hCn
  have pK : SRP (by5 M1 k g C (nI w)) (bbF M k g w) := by
    unfold bbF bbE
    rw [hC1, eL]
    unfold by5 by4 by3 by2 byC byI by1
    have p1 := p.pw (pq7 (k := 1) (by decide)) (v := (llow M1 k C 40).1 7 1 + (llow M1 k C 40).2) (v' := (spL M k C 12).1 12 26 + (C - (C - (llow M1 k C 40).2))) (by rw [p.bo (k := 1) (by decide)]; grind)
    have hv : bbV (bb1 (spL M k C 12).1 C (C - (llow M1 k C 40).2)) k (C - (llow M1 k C 40).2) = mn (C - (llow M1 k C 40).2) ((llow M1 k C 40).1 (mO k) 5) := by
      unfold bbV bb1 mn
      rw [up_row (show ¬ 9 = 12 by decide), p.mi (s := 5) (o := 2) hk (by decide)]
      by_cases u : (llow M1 k C 40).1 (mO k) 5 ≤ C - (llow M1 k C 40).2
      · rw [if_pos u]
        by_cases u2 : (llow M1 k C 40).1 (mO k) 5 < C - (llow M1 k C 40).2
        · rw [if_pos u2]
        · rw [if_neg u2]; rw [lei] at u; rw [lti] at u2; rw [eqi]; omega
      · rw [if_neg u, if_neg (fun u2 => u (by rw [lti] at u2; rw [lei]; omega))]
    rw [hv]
    have p2 := p1.pw (pqO hk (s := 5) (o := 2) (by decide)) (congrArg (fun x => x - mn (C - (llow M1 k C 40).2) ((llow M1 k C 40).1 (mO k) 5)) (p1.mi (s := 5) (o := 2) hk (by decide)))
    have p3 := p2.pw (pqO hk (s := 6) (o := 3) (by decide)) (congrArg (fun x => x + (C - (llow M1 k C 40).2 - mn (C - (llow M1 k C 40).2) ((llow M1 k C 40).1 (mO k) 5))) (p2.mi (s := 6) (o := 3) hk (by decide)))
    exact p3.pw (pqG hk hg) (congrArg (fun x => x + nI w) (p3.go hk hg))
  rw [hM1, ← hK] at pK
  refine ⟨K, SR.mk_ pK (fun _ _ => rfl) hm ?_ ?_ ?_ iv, fun ρ J => L_isBought hl hz hk hk0 hg hg0 hq hq2 hw ho (by rw [hC1]; exact h1) ewhy (by rw [hM1]; exact e1) ?_⟩
  · rw [← hM1]
    unfold bbF bbE bb4 bb3 bb2 bb1
    rw [hC1]
    exact ((((lc s.lc).up_ (by decide) (fun e => by omega)).up_ (by decide) (fun _ j => by omega)).up_ (by decide) (fun _ j => by omega)).up_ (by decide) (fun e => by omega)
  · have h6 : K 0 = M1 0 := by
      rw [hK]
      unfold by5 by4 by3 by2 by1
      rw [up_row (by unfold mG; omega), up_row (by unfold mO; omega), up_row (by unfold mO; omega), up_row (by decide)]
      exact (llow_L (n := 5) (by rw [rO, rS]; exact m) hCn 40 (Nat.le_refl 40)).oth 0 (by unfold mS; omega) (by unfold mO; omega)
    rw [h6, r0]; exact s.pd
  · have h6 : K 0 = M1 0 := by
      rw [hK]
      unfold by5 by4 by3 by2 by1
      rw [up_row (by unfold mG; omega), up_row (by unfold mO; omega), up_row (by unfold mO; omega), up_row (by decide)]
      exact (llow_L (n := 5) (by rw [rO, rS]; exact m) hCn 40 (Nat.le_refl 40)).oth 0 (by unfold mS; omega) (by unfold mO; omega)
    rw [h6, r0]; exact s.ed
  · rw [hm 9 mdr9.1]; exact (pK.mi (s := 6) (o := 3) hk (by decide)).symm
theorem G_changed {l : Launch} (hl : l.stackTraces = false) {c : Nat} (hc : c < 512) {M : Mem} (s : SR c M) {z : Nat} (hz : z < 1000000000) : LwGo l c yL_isChanged cL_isChanged 10 M (fun ρ => [.ref (ρ 0), .ref (ρ 9), .ref (ρ 10), .ref (ρ 12), .int (nI z)]) := by
  obtain ⟨k, hk0⟩ : ∃ k, z % 5 = k := ⟨_, rfl⟩
  have hk : k < 5 := by omega
  have m := s.iv.m.mi k hk
  have bd := m.bd
  have hb := s.iv.msle hk
  by_cases h : M 9 (12 * k) = 0 ∨ hasF M k = 0
  · exact ⟨M, s.idle hc, fun ρ J => L_isChanged_0 hl hz hk hk0 h⟩
  have h1 : ¬ M 9 (12 * k) = 0 := fun q => h (Or.inl q)
  have h2 : ¬ hasF M k = 0 := fun q => h (Or.inr q)
  have hsm : (sm (M (mS k)) 40).toInt = si (M (mS k)) 40 := sm_si m.ps (by omega)
  have hsn := si_nn m.ps
  obtain ⟨A, hA⟩ : ∃ A : Nat, hasF M k = nI A ∧ (A : Int) = si (M (mS k)) 40 := by
    refine ⟨(si (M (mS k)) 40).toNat, ?_, by omega⟩
    rw [s.s.hs hk, eqi, hsm, nI_toInt (by omega)]; omega
  obtain ⟨hA, hAi⟩ := hA
  have hA0 : 0 < A := by
    rcases Nat.eq_zero_or_pos A with q | q
    · exact absurd (by rw [hA, q]; rfl) h2
    · exact q
  obtain ⟨B, hB⟩ : ∃ B, (if A ≤ 100000 then A else 100000) = B := ⟨_, rfl⟩
  have hB2 : 0 < B ∧ B ≤ A ∧ B ≤ 100000 := by rw [← hB]; split <;> omega
  obtain ⟨w, hw⟩ : ∃ w, 1 + z / 5 % B = w := ⟨_, rfl⟩
  have hwB : w ≤ B := by have := Nat.mod_lt (z / 5) (show 0 < B by omega); omega
  have hwI : (nI w).toInt = w := nI_toInt (by omega)
  have hrng : ¬ (nI w < 1 ∨ 100000 < nI w) := rgN (lo := 1) (hi := 100000) (by omega) (by omega) (by decide)
  have r : ∀ i, ¬ mdr i → chF M k w i = M i := fun i hi => by
    unfold chF chB chA
    rw [law1 mdr9.1 i hi, law1 mdr9.2.2.2 i hi, sp_row (fun e => by rw [e] at hi; exact hi mdr9.1) (fun e => by rw [e] at hi; exact hi mdr9.2.1)]
  generalize hM1 : chF M k w = M1 at *
  have rO := r (mO k) (nmO k).1
  have rS := r (mS k) (nmO k).2.2
  have r0 := r 0 (by unfold mdr; omega)
  have LLf := llow_L (n := 5) (A := M1) (k := k) (by rw [rO, rS]; exact m) (w := nI w) (by omega) 40 (Nat.le_refl 40)
  have hT : (llow M1 k (nI w) 40).2 = nI w := by
    rw [eqi, LLf.t, rS, hwI]; omega
  obtain ⟨p, eL, lc⟩ := sp_F (s.s.ca (A' := M1) r) hk (by rw [rO, rS]; exact m) (by rw [rO, rS]; exact hb) (w := nI w) (by omega)
  have hl0 : (spL M k (nI w) 12).2 = 0 := by rw [eL, hT]; grind
  have h10 : ch1 M1 k (nI w) 0 10 = M 0 10 := by
    unfold ch1
    rw [up_row (by decide), LLf.oth 0 (by unfold mS; omega) (by unfold mO; omega), r0]
  have hV : chI (ch1 M1 k (nI w)) (nI w) = chV M w := by
    unfold chI chV
    rw [h10, s.s.g0 (k := 10) (by decide)]
  obtain ⟨K, hK⟩ : ∃ K, K = ch2 M1 k (nI w) := ⟨_, rfl⟩
  have e1 : o_change M1 k (nI w) = rI (chV M w) K := by
    unfold o_change
    rw [if_neg hrng, rO, if_neg (by rw [← s.s.al hk]; exact h1), rS, if_pos (by rw [lei, hsm, hwI]; omega), hV, hK]
  obtain ⟨iv, hm⟩ := ivK (s_change hc hk (w := nI w)) s.iv r e1
  have pK : SRP (ch2 M1 k (nI w)) (chF M k w) := by
    unfold ch2
    rw [hV]
    unfold chF chB chA ch1
    have p1 := p.pw (pq7 (k := 2) (by decide)) (v := M1 7 2 + (llow M1 k (nI w) 40).2) (v' := (spL M k (nI w) 12).1 12 27 + (nI w - (spL M k (nI w) 12).2)) (by rw [p.bo (k := 2) (by decide), LLf.oth 7 (by unfold mS; omega) (by unfold mO; omega), hT, hl0]; grind)
    exact p1.pw (pqO hk (s := 5) (o := 2) (by decide)) (congrArg (fun x => x + chV M w) (p1.mi (s := 5) (o := 2) hk (by decide)))
  rw [hM1, ← hK] at pK
  have h6 : K 0 = M 0 := by
    rw [hK]
    unfold ch2 ch1
    rw [up_row (by unfold mO; omega), up_row (by decide), LLf.oth 0 (by unfold mS; omega) (by unfold mO; omega), r0]
  refine ⟨K, SR.mk_ pK (fun _ _ => rfl) hm ?_ (by rw [h6]; exact s.pd) (by rw [h6]; exact s.ed) iv, fun ρ J => L_isChanged hl hz hk hk0 hA (by omega) hA0 hB ⟨hB2.1, hB2.2.1⟩ hw h1 hl0 (by rw [hM1]; exact e1)⟩
  rw [← hM1]
  unfold chF chB chA
  exact ((lc s.lc).up_ (by decide) (fun e => by omega)).up_ (by decide) (fun _ j => by omega)
end LawE
