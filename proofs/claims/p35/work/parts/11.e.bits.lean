/-! Bits of the laws; the heir. -/
section LawF
theorem andq (x : Int32) {q : Nat} (hq : q < 10) : x &&& ((1 : Int32) <<< (nI q &&& 31)) = if bz x q then 0 else (1 : Int32) <<< (nI q &&& 31) := by
  by_cases h : bz x q
  · rw [if_pos h]
    rw [bz_iff x hq] at h
    rw [← Int32.toBitVec_inj, Int32.toBitVec_and, sl_eq hq]
    apply BitVec.eq_of_getLsbD_eq
    intro i hi
    rw [BitVec.getLsbD_and, BitVec.getLsbD_shiftLeft]
    have h1 : (1#32).getLsbD (i - q) = decide (i - q = 0) := by simp
    rw [h1]
    by_cases e : i = q
    · subst e; rw [h]; simp
    · by_cases e2 : i < q
      · simp [e2]
      · have e3 : ¬ i - q = 0 := by omega
        simp [e3]
  · rw [if_neg h]
    rw [bz_iff x hq] at h
    rw [← Int32.toBitVec_inj, Int32.toBitVec_and, sl_eq hq]
    apply BitVec.eq_of_getLsbD_eq
    intro i hi
    rw [BitVec.getLsbD_and, BitVec.getLsbD_shiftLeft]
    have h1 : (1#32).getLsbD (i - q) = decide (i - q = 0) := by simp
    rw [h1]
    by_cases e : i = q
    · subst e
      have h2 : x.toBitVec.getLsbD i = true := by
        cases hx : x.toBitVec.getLsbD i
        · exact absurd hx h
        · rfl
      rw [h2]; simp
    · by_cases e2 : i < q
      · simp [e2]
      · have e3 : ¬ i - q = 0 := by omega
        simp [e3]
/-- a law's bit in the law's word -/
theorem lbit {A L : Mem} (h : SRP A L) {j : Nat} (hj : j < 3) : bz (L 12 19) j ↔ A 6 j = 0 := by
  rw [h.la j hj]
theorem lw4 {A L : Mem} (h : SRP A L) : L 12 19 &&& 4 = 0 ↔ A 6 2 = 0 := by
  rw [← lbit h (show 2 < 3 by decide)]
  have e := andq (L 12 19) (q := 2) (by decide)
  rw [show (1 : Int32) <<< (nI 2 &&& 31) = 4 from rfl] at e
  rw [e]
  by_cases u : bz (L 12 19) 2
  · rw [if_pos u]; exact ⟨fun _ => u, fun _ => rfl⟩
  · rw [if_neg u]; exact ⟨fun w => absurd w (by decide), fun w => absurd w u⟩
theorem lw2 {A L : Mem} (h : SRP A L) : (L 12 19 &&& 2 = 0 ↔ A 6 1 = 0) ∧ (L 12 19 &&& 2 = 2 ↔ ¬ A 6 1 = 0) := by
  rw [← lbit h (show 1 < 3 by decide)]
  have e := andq (L 12 19) (q := 1) (by decide)
  rw [show (1 : Int32) <<< (nI 1 &&& 31) = 2 from rfl] at e
  rw [e]
  by_cases u : bz (L 12 19) 1
  · rw [if_pos u]; exact ⟨⟨fun _ => u, fun _ => rfl⟩, ⟨fun w => absurd w (by decide), fun w => absurd u w⟩⟩
  · rw [if_neg u]; exact ⟨⟨fun w => absurd w (by decide), fun w => absurd w u⟩, ⟨fun _ => u, fun _ => rfl⟩⟩
theorem lw1 {A L : Mem} (h : SRP A L) : L 12 19 &&& 1 = 1 ↔ ¬ A 6 0 = 0 := by
  rw [← lbit h (show 0 < 3 by decide)]
  have e := andq (L 12 19) (q := 0) (by decide)
  rw [show (1 : Int32) <<< (nI 0 &&& 31) = 1 from rfl] at e
  rw [e]
  by_cases u : bz (L 12 19) 0
  · rw [if_pos u]; exact ⟨fun w => absurd w (by decide), fun w => absurd u w⟩
  · rw [if_neg u]; exact ⟨fun _ => u, fun _ => rfl⟩
theorem SRP.k1 {A L : Mem} (h : SRP A L) {q : Nat} (hq : q < 5) : L 9 (12 * q + 8) - 1 = A (mO q) 3 := by rw [h.ki q hq]; grind
theorem heL_n (L : Mem) : ∀ f, heL L f (-1) = -1
  | 0 => rfl
  | f + 1 => by
    unfold heL
    rw [if_pos (by decide)]
    exact heL_n L f
theorem he_R {A L : Mem} (h : SRP A L) (hb : ∀ q, q < 5 → isB (A (mO q) 0)) (hk : ∀ q, q < 5 → kinOk 5 (A (mO q) 3)) : ∀ f x, kinOk 5 x → heL L f x = hr A f x := by
  intro f
  induction f with
  | zero => intro x _; rfl
  | succ f ih =>
    intro x hx
    rw [hr_s]
    unfold heL
    rcases hx with rfl | ⟨q, hq, rfl⟩
    · rw [if_pos (by decide), if_pos rfl]; exact heL_n L f
    · rw [if_neg (nI_pos (by omega)), if_neg (neg1 (by omega)), nI_clamp (by omega), h.al hq, h.k1 hq]
      rcases hb q hq with u | u
      · rw [u, if_neg (by decide), if_pos rfl]; exact ih _ (hk q hq)
      · rw [u, if_pos rfl, if_neg (by decide)]
end LawF
