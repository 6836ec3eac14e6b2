/-! Closings agree. -/
section LawI
theorem lgtI {x y : Int64} : 0 < lg_cmp x y ↔ y < x := by
  unfold lg_cmp
  split
  · rename_i h; exact ⟨fun _ => h, fun _ => by decide⟩
  · rename_i h
    split
    · exact ⟨fun w => absurd w (by decide), fun w => absurd w h⟩
    · exact ⟨fun w => absurd w (by decide), fun w => absurd w h⟩
theorem lltI {a b : Int32} : a.toInt64 < b.toInt64 ↔ a < b := by
  rw [Int64.lt_iff_toInt_lt, toI64, toI64, ← lti]
theorem l2i (p : Int32) : p.toInt64.toInt32 = p := by
  have b := ib p
  rw [eqi, Int64.toInt_toInt32, toI64]
  exact bmI (by omega) (by omega)
theorem gt_rd (p m t : Int32) : (gtL t.toInt64 m.toInt64 p).toInt32 = rdC p m t := by
  unfold gtL rdC
  by_cases h : m < t
  · rw [if_pos (lgtI.mpr (lltI.mpr h)), if_pos h]
  · rw [if_neg (fun w => h (lltI.mp (lgtI.mp w))), if_neg h, l2i]
theorem clT_R {A L : Mem} (r : SRP A L) (h : ∀ j, j < 5 → MI 5 (A (mO j)) (A (mS j))) {i : Nat} (hi : i < 12) (hT : TM A 5 < 2147483648) : ∀ m, m ≤ 5 → clT L i m = (tot A i m).toInt64 := by
  intro m
  induction m with
  | zero => intro _; rfl
  | succ m ih =>
    intro hm
    have a := tot_bd h (show i < 40 by omega) hT m (by omega)
    have st := tot_step h (show i < 40 by omega) hT (m := m) (by omega)
    have b := ib (tot A i (m + 1))
    unfold clT
    rw [ih (by omega), r.sc (by omega) hi]
    apply Int64.toInt_inj.mp
    rw [Int64.toInt_add, toI64, toI64, toI64, st, Int.bmod_def]
    split <;> omega
theorem rd_row {A : Mem} {i : Nat} {m u : Int32} : ∀ j a, (∀ q, q < j → ¬ a = mO q ∧ ¬ a = mS q) → (rd A i m u j).1 a = A a
  | 0, _, _ => rfl
  | j + 1, a, h => by
    rw [rd_s]
    dsimp only
    unfold rd2 rd1
    rw [up_row (h j (by omega)).1, lose_oth (h j (by omega)).2 (h j (by omega)).1]
    exact rd_row j a (fun q hq => h q (by omega))
/-- one miner's, in the law -/
theorem cr4_R {A L : Mem} (r : SRP A L) {j i : Nat} (hj : j < 5) (hi : i < 12) (v w : Int32) (hw : w = A 7 5 + A (mS j) i) : SRP (up (up (up (up A (mS j) i (A (mS j) i - mn (A (mS j) i) (A (mS j) i))) (mO j) 13 (A (mO j) 13 + mn (A (mS j) i) (A (mS j) i))) (mO j) 5 (A (mO j) 5 + v)) 7 5 w) (cr4 L j i v) := by
  have p := r.sc hj hi
  have q1 := r.pw (pqO hj (s := 5) (o := 2) (by decide)) (congrArg (fun x => x + v) (r.mi (s := 5) (o := 2) hj (by decide)))
  have q2 := q1.lw (j := j) (o := 11) (v := up L 9 (12 * j + 2) (L 9 (12 * j + 2) + v) 9 (12 * j + 11) + up L 9 (12 * j + 2) (L 9 (12 * j + 2) + v) 10 (12 * j + i)) (Or.inr rfl)
  have e3 : cr2 (cr1 L j v) j i 12 (25 + 5) + cr2 (cr1 L j v) j i 10 (12 * j + i) = w := by
    unfold cr2 cr1
    rw [up_row (show ¬ 12 = 9 by decide), up_row (show ¬ 12 = 9 by decide), up_row (show ¬ 10 = 9 by decide), up_row (show ¬ 10 = 9 by decide), p, r.bo (k := 5) (by decide), hw]
  have q3 : SRP (up (up A (mO j) 5 (A (mO j) 5 + v)) 7 5 w) (cr3 (cr2 (cr1 L j v) j i) j i) := q2.pw (pq7 (k := 5) (by decide)) e3
  have q4 := q3.pw (pqS hj hi) (v := 0) (v' := 0) rfl
  have q5 := q4.o13 (j := j) (v := A (mO j) 13 + A (mS j) i)
  refine SRP.ca q5 (fun a _ => ?_)
  rw [mn_xx]
  have n1 : ¬ mO j = mS j := by unfold mO mS; omega
  have n2 : ¬ 7 = mS j := by unfold mS; omega
  have n3 : ¬ 7 = mO j := by unfold mO; omega
  generalize mO j = o at *
  generalize mS j = t at *
  funext s
  simp only [up_r]
  grind
theorem cr4_LC {L : Mem} (h : LC L) {j i : Nat} (hi : i < 12) (v : Int32) : LC (cr4 L j i v) := by
  have h1 := h.goes (k := j) (i := i) hi (v := 0) (w := L 10 (12 * j + i)) (by grind)
  unfold cr4 cr3 cr2 cr1
  refine h1.cg (fun q hq => ⟨?_, ?_⟩) (fun q => ?_)
  · rw [up_row (by decide), up_row (by decide), up12 (by omega), up12 (by omega), up12 (by omega), up_row (by decide)]
  · rw [up_row (show ¬ 9 = 10 by decide), up_row (show ¬ 9 = 12 by decide)]
    by_cases e : q = j
    · subst e
      rw [up_same, up_same, up12 (by omega), up_row (show ¬ 10 = 9 by decide), up_row (show ¬ 9 = 10 by decide)]
    · rw [up12 (b := 12 * q + 11) (by omega), up12 (b := 12 * q + 11) (by omega), up12 (b := 12 * q + 11) (by omega), up_row (show ¬ 9 = 10 by decide)]
  · by_cases e : q = 12 * j + i
    · subst e; rw [up_same, up_row (show ¬ 10 = 9 by decide), up_same]
    · rw [up12 (by omega), up_row (show ¬ 10 = 12 by decide), up_row (show ¬ 10 = 9 by decide), up_row (show ¬ 10 = 9 by decide), up_row (show ¬ 10 = 9 by decide), up12 (by omega)]
theorem cr4_0 {L : Mem} {j i : Nat} (h : L 10 (12 * j + i) = 0) : cr4 L j i 0 = L := by
  have e1 : cr1 L j 0 = L := by unfold cr1; rw [Int32.add_zero, up_id]
  have e2 : cr2 L j i = L := by unfold cr2; rw [h, Int32.add_zero, up_id]
  have e3 : cr3 L j i = L := by unfold cr3; rw [h, Int32.add_zero, up_id]
  unfold cr4
  rw [e1, e2, e3, ← h, up_id]
/-- an issue -/
theorem cl_i {A L : Mem} (r : SRP A L) (lc : LC L) (h : ∀ j, j < 5 → MI 5 (A (mO j)) (A (mS j))) {i : Nat} (hi : i < 12) (hT : TM A 5 < 2147483648) {m : Int32} (hm : 0 ≤ m.toInt) : SRP (redM A i m 5).1 (clI L i (clT L i 5) m.toInt64 m 5).1 ∧ (clI L i (clT L i 5) m.toInt64 m 5).2 = m - (redM A i m 5).2 ∧ LC (clI L i (clT L i 5) m.toInt64 m 5).1 := by
  rw [clT_R r h hi hT 5 (Nat.le_refl _)]
  generalize hU : tot A i 5 = U
  by_cases hz : U ≤ 0
  · -- nothing of the issue
    have a5 := tot_bd h (show i < 40 by omega) hT 5 (Nat.le_refl _)
    rw [lei, i0] at hz
    have st : ∀ q, q < 5 → (tot A i (q + 1)).toInt = (tot A i q).toInt + (A (mS q) i).toInt := fun q hq => tot_step h (show i < 40 by omega) hT hq
    have pos : ∀ q, q < 5 → 0 ≤ (A (mS q) i).toInt := fun q hq => (h q hq).ps i (by omega)
    have zero : ∀ q, q < 5 → A (mS q) i = 0 := fun q hq => by
      have s0 := st 0 (by decide); have s1 := st 1 (by decide); have s2 := st 2 (by decide); have s3 := st 3 (by decide); have s4 := st 4 (by decide)
      have p0 := pos 0 (by decide); have p1 := pos 1 (by decide); have p2 := pos 2 (by decide); have p3 := pos 3 (by decide); have p4 := pos 4 (by decide)
      have t0 : (tot A i 0).toInt = 0 := rfl
      simp only [Nat.zero_add, Nat.reduceAdd] at s0 s1 s2 s3 s4
      rw [hU] at s4
      have : q = 0 ∨ q = 1 ∨ q = 2 ∨ q = 3 ∨ q = 4 := by omega
      rw [eqi, i0]
      rcases this with rfl | rfl | rfl | rfl | rfl <;> omega
    have hg : (gtL U.toInt64 m.toInt64 0).toInt32 = 0 := by
      rw [gt_rd]
      unfold rdC
      rw [if_neg (by rw [lti]; omega)]
    have key : ∀ j, j ≤ 5 → clI L i U.toInt64 m.toInt64 m j = (L, m) := by
      intro j
      induction j with
      | zero => intro _; rfl
      | succ j ih =>
        intro hj
        rw [clI_s, ih (by omega)]
        dsimp only
        have h0 : L 10 (12 * j + i) = 0 := by rw [r.sc (by omega) hi]; exact zero j (by omega)
        rw [h0, hg, cr4_0 h0, Int32.sub_zero]
    rw [key 5 (Nat.le_refl _)]
    unfold redM
    rw [hU, if_pos (by rw [lei, i0]; omega)]
    exact ⟨r, by dsimp only; rw [Int32.sub_zero], lc⟩
  · have key : ∀ j, j ≤ 5 → SRP (up (rd A i m U j).1 7 5 (A 7 5 + tot A i j)) (clI L i U.toInt64 m.toInt64 m j).1 ∧ (clI L i U.toInt64 m.toInt64 m j).2 = m - (rd A i m U j).2 ∧ LC (clI L i U.toInt64 m.toInt64 m j).1 := by
      intro j
      induction j with
      | zero => intro _; exact ⟨by show SRP (up A 7 5 (A 7 5 + 0)) L; rw [Int32.add_zero, up_id]; exact r, by show m = m - 0; rw [Int32.sub_zero], lc⟩
      | succ j ih =>
        intro hj
        obtain ⟨k1, k2, k3⟩ := ih (by omega)
        have rw7 : (rd A i m U j).1 7 = A 7 := rd_row j 7 (fun q _ => by unfold mO mS; omega)
        have rS : (rd A i m U j).1 (mS j) = A (mS j) := rd_row j _ (fun q hq => by unfold mO mS; omega)
        have hp : (clI L i U.toInt64 m.toInt64 m j).1 10 (12 * j + i) = A (mS j) i := by
          rw [k1.sc (by omega) hi, up_row (by unfold mS; omega), rS]
        rw [clI_s, rd_s]
        dsimp only
        rw [hp, gt_rd]
        generalize hN : (rd A i m U j).1 = N at *
        have e := cr4_R k1 (j := j) (i := i) (by omega) hi (rdC (A (mS j) i) m U) (A 7 5 + tot A i (j + 1)) (by
          rw [up_same, up_row (show ¬ mS j = 7 by unfold mS; omega), rS]
          show _ + (_ + _) = _ + _ + _
          grind)
        refine ⟨?_, ?_, cr4_LC k3 hi _⟩
        · refine SRP.ca e (fun a _ => ?_)
          unfold rd2 rd1 lose
          rw [rS, mn_xx]
          have n0 : ¬ mS j = 7 := by unfold mS; omega
          have n1 : ¬ mO j = mS j := by unfold mO mS; omega
          have n2 : ¬ 7 = mS j := by unfold mS; omega
          have n3 : ¬ 7 = mO j := by unfold mO; omega
          have n4 : ¬ mO j = 7 := by unfold mO; omega
          rw [up_row n0, up_row n4, rS]
          rw [mn_xx]
          generalize mO j = o at *
          generalize mS j = t at *
          generalize A 7 5 + tot A i (j + 1) = w
          generalize A 7 5 + tot A i j = w0
          funext s
          simp only [up_r]
          grind
        · rw [k2, rS, mn_xx]; grind
    obtain ⟨k1, k2, k3⟩ := key 5 (Nat.le_refl _)
    unfold redM
    rw [hU, if_neg hz]
    refine ⟨?_, k2, k3⟩
    dsimp only
    unfold rdF
    rw [hU]
    have rw7 : (rd A i m U 5).1 7 = A 7 := rd_row 5 7 (fun q _ => by unfold mO mS; omega)
    rw [rw7]
    rw [hU] at k1
    exact k1
theorem G_closed {l : Launch} (hl : l.stackTraces = false) {c : Nat} (hc : c < 512) {M : Mem} (s : SR c M) {z : Nat} (hz : z < 1000000000) : LwGo l c yL_isClosed cL_isClosed 15 M (fun ρ => [.ref (ρ 0), .ref (ρ 9), .ref (ρ 10), .ref (ρ 12), .int (nI z)]) := by
  by_cases h : M 12 23 = 1
  · exact ⟨M, s.idle hc, fun ρ J => L_isClosed_0 hl hz h⟩
  obtain ⟨q, hq⟩ : ∃ q, (if z / 7 % 2 = 0 then 600 else 100001) = q := ⟨_, rfl⟩
  have hq2 : q = 600 ∨ q = 100001 := by rw [← hq]; exact dq 0 _ _ _
  obtain ⟨m, hm0⟩ : ∃ m, z % q = m := ⟨_, rfl⟩
  have hm2 : m ≤ 100000 := by have := Nat.mod_lt z (show 0 < q by omega); omega
  have hmI : (nI m).toInt = m := nI_toInt (by omega)
  have g := s.iv.g
  have c15 : M 0 15 = 0 := by rw [s.s.g0 (k := 15) (by decide)] at h; exact g.cl.resolve_right h
  -- issue by issue, whatever the law's rows are
  have key : ∀ A : Mem, (∀ i, ¬ mdr i → A i = M i) → ∀ i, i ≤ 12 → SRP (clS 5 A (nI m) i).1 (ccS M (nI m) i).1 ∧ (ccS M (nI m) i).2 = (clS 5 A (nI m) i).2 ∧ LC (ccS M (nI m) i).1 := by
    intro A hA i
    have I := s.iv.congr hA
    induction i with
    | zero => intro _; exact ⟨s.s.ca hA, rfl, s.lc⟩
    | succ i ih =>
      intro hi
      obtain ⟨k1, k2, k3⟩ := ih (by omega)
      obtain ⟨-, -, k6, k7⟩ := cl_R (mir_R A) I.g I.m (by have := I.c5; omega) (m := nI m) (by omega) i (by omega)
      have tm := k6.m.tm
      have := I.c5
      obtain ⟨e1, e2, e3⟩ := cl_i k1 k3 k6.m.mi (i := i) (by omega) (by omega) k7
      rw [clS_s, ccS_s, k2]
      exact ⟨e1, e2, e3⟩
  have hnn : ∀ i, i < 12 → 0 ≤ (ccS M (nI m) i).2.toInt := fun i hi => by
    obtain ⟨-, -, -, k7⟩ := cl_R (mir_R M) s.iv.g s.iv.m (by have := s.iv.c5; omega) (m := nI m) (by omega) i (by omega)
    rw [(key M (fun _ _ => rfl) i (by omega)).2.1]; exact k7
  have r : ∀ i, ¬ mdr i → ccF (ccS M (nI m) 12).1 i = M i := by
    have r1 : ∀ i, ¬ mdr i → ∀ (N : Mem) (a : Nat) (u h : Int64) (l : Int32) (j : Nat), (clI N a u h l j).1 i = N i := fun i hi N a u h l j => by
      induction j with
      | zero => rfl
      | succ j ih =>
        rw [clI_s]
        dsimp only
        unfold cr4 cr3 cr2 cr1
        rw [law1 mdr9.2.1 i hi, law1 mdr9.2.2.2 i hi, law1 mdr9.1 i hi, law1 mdr9.1 i hi]; exact ih
    have r2 : ∀ i, ¬ mdr i → ∀ j, (ccS M (nI m) j).1 i = M i := fun i hi j => by
      induction j with
      | zero => rfl
      | succ j ih => rw [ccS_s, r1 i hi]; exact ih
    intro i hi
    unfold ccF
    rw [law1 mdr9.2.2.2 i hi, law1 mdr9.2.2.2 i hi]; exact r2 i hi 12
  generalize hM1 : ccF (ccS M (nI m) 12).1 = M1 at *
  obtain ⟨k1, k2, k3⟩ := key M1 r 12 (Nat.le_refl _)
  have k40 : ∀ q, q ≤ 28 → clS 5 M1 (nI m) (12 + q) = clS 5 M1 (nI m) 12 := by
    intro q
    induction q with
    | zero => intro _; rfl
    | succ q ih =>
      intro hq
      rw [show 12 + (q + 1) = 12 + q + 1 by omega, clS_s, ih (by omega)]
      have t0 : ∀ j, j ≤ 5 → tot (clS 5 M1 (nI m) 12).1 (12 + q) j = 0 := fun j => by
        induction j with
        | zero => intro _; rfl
        | succ j ih2 =>
          intro hj
          show tot _ _ j + _ = 0
          rw [ih2 (by omega), k1.fz j (12 + q) (by omega) (by omega) (by omega)]; rfl
      have e : redM (clS 5 M1 (nI m) 12).1 (12 + q) (clS 5 M1 (nI m) 12).2 5 = ((clS 5 M1 (nI m) 12).1, 0) := by
        unfold redM
        rw [t0 5 (Nat.le_refl _), if_pos (by decide)]
      rw [e, Int32.sub_zero]
  have k4 := k40 28 (Nat.le_refl _)
  rw [show 12 + 28 = 40 from rfl] at k4
  obtain ⟨K, hK⟩ : ∃ K, K = clF (clS 5 M1 (nI m) 12).1 := ⟨_, rfl⟩
  have r0 := r 0 (by unfold mdr; omega)
  have e1 : o_close M1 5 (nI m) = rI (ccS M (nI m) 12).2 K := by
    unfold o_close
    rw [if_neg (show ¬ (nI m < 0 ∨ 100000 < nI m) from rgN (lo := 0) (hi := 100000) (by omega) hm2 (by decide)), r0, if_pos c15, k4, ← k2, hK]
  obtain ⟨iv, hm⟩ := ivK (s_close hc) s.iv r e1
  have pK : SRP (clF (clS 5 M1 (nI m) 12).1) (ccF (ccS M (nI m) 12).1) := by
    unfold clF ccF
    exact (k1.pw (pq0 (k := 15) (k' := 23) (by decide)) rfl).pw (pq0 (k := 14) (k' := 22) (by decide)) rfl
  rw [hM1, ← hK] at pK
  have h60 : ∀ a, ¬ a = 13 → ¬ a = 14 → ¬ a = 15 → K 0 a = M 0 a := fun a h1 h2 h3 => by
    obtain ⟨-, -, k6, -⟩ := cl_R (mir_R M1) (s.iv.congr r).g (s.iv.congr r).m (by have := s.iv.c5; omega) (m := nI m) (by omega) 12 (by omega)
    rw [hK]
    unfold clF
    rw [up12 (by omega), up12 (by omega), k6.z a h1, r0]
  refine ⟨K, SR.mk_ pK (fun _ _ => rfl) hm ?_ (by rw [h60 6 (by decide) (by decide) (by decide)]; exact s.pd) (by rw [h60 3 (by decide) (by decide) (by decide)]; exact s.ed) iv, fun ρ J => L_isClosed hl hz hq hq2 hm0 h hnn (by rw [hM1]; exact e1)⟩
  rw [← hM1]
  unfold ccF
  exact (k3.up_ (by decide) (fun e => by omega)).up_ (by decide) (fun e => by omega)
end LawI
