/-! Deaths agree. -/
section LawG
theorem dhS_s (N : Mem) (k h m : Nat) : dhS N k h (m + 1) = dh4 (dhS N k h m) k h m := rfl
theorem dnS_s (N : Mem) (k m : Nat) : dnS N k (m + 1) = dn3 (dnS N k m) k m := rfl
theorem dgS_s (N : Mem) (k h j : Nat) : dgS N k h (j + 1) = up (dgS N k h j) 11 (4 * h + j) (dgS N k h j 11 (4 * h + j) + dgS N k h j 11 (4 * k + j)) := rfl
theorem dh2_lc {T : Mem} (h : LC T) {k i : Nat} (hi : i < 12) : LC (dh2 T k i) := by
  unfold dh2 dh1
  exact h.goes hi (by grind)
theorem dh2_10 {T : Mem} {k m q i : Nat} (hm : m < 12) (hi : i < 12) : dh2 T k m 10 (12 * q + i) = if q = k ∧ i = m then 0 else T 10 (12 * q + i) := by
  unfold dh2 dh1
  rw [up_row (by decide)]
  by_cases e : q = k ∧ i = m
  · rw [if_pos e, e.1, e.2, up_same]
  · rw [if_neg e, up12 (by omega)]
theorem dhS_C {N : Mem} {k h : Nat} (hkh : ¬ h = k) : ∀ m, m ≤ 12 → (∀ i, ¬ i = 9 → ¬ i = 10 → dhS N k h m i = N i) ∧ (∀ s, ¬ s = 12 * k + 11 → ¬ s = 12 * h + 10 → dhS N k h m 9 s = N 9 s) ∧ (∀ q i, i < 12 → dhS N k h m 10 (12 * q + i) = if i < m then (if q = k then 0 else if q = h then N 10 (12 * h + i) + N 10 (12 * k + i) else N 10 (12 * q + i)) else N 10 (12 * q + i)) ∧ (LC N → LC (dhS N k h m)) := by
  intro m
  induction m with
  | zero => intro _; exact ⟨fun _ _ _ => rfl, fun _ _ _ => rfl, fun _ _ _ => rfl, id⟩
  | succ m ih =>
    intro hm
    obtain ⟨r1, r2, r3, r4⟩ := ih (by omega)
    rw [dhS_s]
    generalize hT : dhS N k h m = T at *
    have hk0 : T 10 (12 * k + m) = N 10 (12 * k + m) := by rw [r3 k m (by omega), if_neg (by omega)]
    have hh0 : T 10 (12 * h + m) = N 10 (12 * h + m) := by rw [r3 h m (by omega), if_neg (by omega)]
    refine ⟨fun i h1 h2 => ?_, fun s h1 h2 => ?_, fun q i hi => ?_, fun hL => ?_⟩
    · unfold dh4 dh3 dh2 dh1
      rw [up_row h1, up_row h2, up_row h1, up_row h2]; exact r1 i h1 h2
    · unfold dh4 dh3 dh2 dh1
      rw [up12 (by omega), up_row (by decide), up12 (by omega), up_row (by decide)]; exact r2 s h1 h2
    · unfold dh4 dh3
      rw [up_row (by decide)]
      by_cases e1 : q = h ∧ i = m
      · obtain ⟨rfl, rfl⟩ := e1
        rw [up_same, dh2_10 (by omega) (by omega), if_neg (by omega), hh0, hk0, if_pos (by omega), if_neg hkh, if_pos rfl]
      · rw [up12 (by omega), dh2_10 (by omega) hi]
        by_cases e2 : q = k ∧ i = m
        · rw [if_pos e2, if_pos (by omega), if_pos e2.1]
        · rw [if_neg e2, r3 q i hi]
          by_cases e3 : i < m
          · rw [if_pos e3, if_pos (show i < m + 1 by omega)]
          · rw [if_neg e3]
            by_cases e4 : i < m + 1
            · rw [if_pos e4, if_neg (show ¬ q = k by omega), if_neg (show ¬ q = h by omega)]
            · rw [if_neg e4]
    · have h2 := dh2_lc (r4 hL) (k := k) (i := m) (by omega)
      unfold dh4 dh3
      exact h2.come (by omega) _
theorem dnS_C {N : Mem} {k : Nat} : ∀ m, m ≤ 12 → (∀ i, ¬ i = 9 → ¬ i = 10 → ¬ i = 12 → dnS N k m i = N i) ∧ (∀ s, ¬ s = 12 * k + 11 → dnS N k m 9 s = N 9 s) ∧ (∀ q i, i < 12 → dnS N k m 10 (12 * q + i) = if q = k ∧ i < m then 0 else N 10 (12 * q + i)) ∧ (∀ s, dnS N k m 12 s = if s = 29 then N 12 29 + sm (fun i => N 10 (12 * k + i)) m else N 12 s) ∧ (LC N → LC (dnS N k m)) := by
  intro m
  induction m with
  | zero => intro _; exact ⟨fun _ _ _ _ => rfl, fun _ _ => rfl, fun q i _ => by rw [if_neg (by omega)]; rfl, fun s => by
      by_cases e : s = 29
      · subst e; rw [if_pos rfl]; show N 12 29 = N 12 29 + 0; rw [Int32.add_zero]
      · rw [if_neg e]; rfl, id⟩
  | succ m ih =>
    intro hm
    obtain ⟨r1, r2, r3, r5, r4⟩ := ih (by omega)
    rw [dnS_s]
    generalize hT : dnS N k m = T at *
    have hk0 : T 10 (12 * k + m) = N 10 (12 * k + m) := by rw [r3 k m (by omega), if_neg (by omega)]
    refine ⟨fun i h1 h2 h3 => ?_, fun s h1 => ?_, fun q i hi => ?_, fun s => ?_, fun hL => ?_⟩
    · unfold dn3 dh2 dh1
      rw [up_row h3, up_row h1, up_row h2]; exact r1 i h1 h2 h3
    · unfold dn3 dh2 dh1
      rw [up_row (by decide), up12 (by omega), up_row (by decide)]; exact r2 s h1
    · unfold dn3
      rw [up_row (by decide), dh2_10 (by omega) hi]
      by_cases e2 : q = k ∧ i = m
      · rw [if_pos e2, if_pos (by omega)]
      · rw [if_neg e2, r3 q i hi]
        by_cases e3 : q = k ∧ i < m
        · rw [if_pos e3, if_pos (by omega)]
        · rw [if_neg e3, if_neg (by omega)]
    · unfold dn3
      have hd : ∀ a, dh2 T k m 12 a = T 12 a := fun a => by unfold dh2 dh1; rw [up_row (by decide), up_row (by decide)]
      by_cases e : s = 29
      · subst e; rw [up_same, if_pos rfl, hd, r5, if_pos rfl, hk0]
        show _ = N 12 29 + (sm (fun i => N 10 (12 * k + i)) m + N 10 (12 * k + m))
        grind
      · rw [up12 (by omega), hd, r5, if_neg e, if_neg e]
    · have h2 := dh2_lc (r4 hL) (k := k) (i := m) (by omega)
      unfold dn3
      exact h2.up_ (by decide) (fun e => by omega)
theorem dgS_C {N : Mem} {k h : Nat} (hkh : ¬ h = k) : ∀ m, m ≤ 4 → (∀ i, ¬ i = 11 → dgS N k h m i = N i) ∧ (∀ q j, j < 4 → dgS N k h m 11 (4 * q + j) = if q = h ∧ j < m then N 11 (4 * h + j) + N 11 (4 * k + j) else N 11 (4 * q + j)) := by
  intro m
  induction m with
  | zero => intro _; exact ⟨fun _ _ => rfl, fun q j _ => by rw [if_neg (by omega)]; rfl⟩
  | succ m ih =>
    intro hm
    obtain ⟨r1, r2⟩ := ih (by omega)
    rw [dgS_s]
    generalize hT : dgS N k h m = T at *
    refine ⟨fun i h1 => by rw [up_row h1]; exact r1 i h1, fun q j hj => ?_⟩
    by_cases e : q = h ∧ j = m
    · obtain ⟨rfl, rfl⟩ := e
      rw [up_same, r2 q j (by omega), r2 k j (by omega), if_neg (by omega), if_neg (by omega), if_pos ⟨rfl, by omega⟩]
    · rw [up12 (by omega), r2 q j hj]
      by_cases e2 : q = h ∧ j < m
      · rw [if_pos e2, if_pos (by omega)]
      · rw [if_neg e2, if_neg (by omega)]
theorem dcS_C {N : Mem} {k h : Nat} (hkh : ¬ h = k) : (∀ i, ¬ i = 9 → dcS N k h 3 i = N i) ∧ (∀ s, dcS N k h 3 9 s = if s = 12 * h + 2 then N 9 (12 * h + 2) + N 9 (12 * k + 2) else if s = 12 * h + 3 then N 9 (12 * h + 3) + (if N 12 19 &&& 4 = 0 then N 9 (12 * k + 3) else 0) else if s = 12 * h + 4 then N 9 (12 * h + 4) + (if N 12 19 &&& 4 = 0 then N 9 (12 * k + 4) else 0) else N 9 s) := by
  have e1 : dcS N k h 1 = up N 9 (12 * h + 2) (N 9 (12 * h + 2) + N 9 (12 * k + 2)) := rfl
  have e2 : dcS N k h 2 = up (dcS N k h 1) 9 (12 * h + 3) (N 9 (12 * h + 3) + (if N 12 19 &&& 4 = 0 then N 9 (12 * k + 3) else 0)) := by
    show up (dcS N k h 1) 9 (12 * h + (1 + 2)) (dcS N k h 1 9 (12 * h + (1 + 2)) + (if nI (1 + 2) = 2 then dcS N k h 1 9 (12 * k + (1 + 2)) else if dcS N k h 1 12 19 &&& 4 = 0 then dcS N k h 1 9 (12 * k + (1 + 2)) else 0)) = _
    rw [e1, if_neg (by decide), up12 (show ¬ (9 = 9 ∧ 12 * h + (1 + 2) = 12 * h + 2) by omega), up12 (show ¬ (9 = 9 ∧ 12 * k + (1 + 2) = 12 * h + 2) by omega), up_row (show ¬ 12 = 9 by decide)]
  have e3 : dcS N k h 3 = up (dcS N k h 2) 9 (12 * h + 4) (N 9 (12 * h + 4) + (if N 12 19 &&& 4 = 0 then N 9 (12 * k + 4) else 0)) := by
    show up (dcS N k h 2) 9 (12 * h + (2 + 2)) (dcS N k h 2 9 (12 * h + (2 + 2)) + (if nI (2 + 2) = 2 then dcS N k h 2 9 (12 * k + (2 + 2)) else if dcS N k h 2 12 19 &&& 4 = 0 then dcS N k h 2 9 (12 * k + (2 + 2)) else 0)) = _
    have f1 : ∀ s, ¬ s = 12 * h + 2 → ¬ s = 12 * h + 3 → dcS N k h 2 9 s = N 9 s := fun s h1 h2 => by rw [e2, up12 (by omega), e1, up12 (by omega)]
    have f2 : dcS N k h 2 12 = N 12 := by rw [e2, up_row (by decide), e1, up_row (by decide)]
    rw [if_neg (by decide), f1 _ (by omega) (by omega), f1 _ (by omega) (by omega), f2]
  refine ⟨fun i hi => by rw [e3, up_row hi, e2, up_row hi, e1, up_row hi], fun s => ?_⟩
  rw [e3, e2, e1]
  by_cases s4 : s = 12 * h + 4
  · subst s4; rw [up_same, if_neg (show ¬ 12 * h + 4 = 12 * h + 2 by omega), if_neg (show ¬ 12 * h + 4 = 12 * h + 3 by omega), if_pos rfl]
  · rw [up12 (by omega)]
    by_cases s3 : s = 12 * h + 3
    · subst s3; rw [up_same, if_neg (show ¬ 12 * h + 3 = 12 * h + 2 by omega), if_pos rfl]
    · rw [up12 (by omega)]
      by_cases s2 : s = 12 * h + 2
      · subst s2; rw [up_same, if_pos rfl]
      · rw [up12 (by omega), if_neg s2, if_neg s3, if_neg s4]
theorem dzS_C {N : Mem} {k : Nat} : ∀ m, m ≤ 5 → (∀ i, ¬ i = 9 → ¬ i = 11 → dzS N k m i = N i) ∧ (∀ s, dzS N k m 9 s = if 12 * k + 1 ≤ s ∧ s ≤ 12 * k + m then 0 else N 9 s) ∧ (∀ q j, j < 4 → ¬ q = k → dzS N k m 11 (4 * q + j) = N 11 (4 * q + j)) ∧ (∀ t, t < m → dzS N k m 11 (4 * k + (t + 1) % 4) = 0) ∧ (LC N → LC (dzS N k m)) := by
  intro m
  induction m with
  | zero => intro _; exact ⟨fun _ _ _ => rfl, fun s => by rw [if_neg (by omega)]; rfl, fun _ _ _ _ => rfl, fun t h => by omega, id⟩
  | succ m ih =>
    intro hm
    obtain ⟨r1, r2, r3, r4, r5⟩ := ih (by omega)
    have e : dzS N k (m + 1) = up (up (dzS N k m) 9 (12 * k + (m + 1)) 0) 11 (4 * k + (m + 1) % 4) 0 := rfl
    rw [e]
    generalize hT : dzS N k m = T at *
    refine ⟨fun i h1 h2 => by rw [up_row h2, up_row h1]; exact r1 i h1 h2, fun s => ?_, fun q j hj hq => ?_, fun t ht => ?_, fun hL => ?_⟩
    · rw [up_row (by decide)]
      by_cases e1 : s = 12 * k + (m + 1)
      · subst e1; rw [up_same, if_pos (by omega)]
      · rw [up12 (by omega), r2]
        by_cases e2 : 12 * k + 1 ≤ s ∧ s ≤ 12 * k + m
        · rw [if_pos e2, if_pos (by omega)]
        · rw [if_neg e2, if_neg (by omega)]
    · rw [up12 (by omega), up_row (by decide)]; exact r3 q j hj hq
    · by_cases e1 : (t + 1) % 4 = (m + 1) % 4
      · rw [e1, up_same]
      · rw [up12 (by omega), up_row (by decide)]; exact r4 t (by omega)
    · exact ((r5 hL).up_ (by decide) (fun _ j => by omega)).up_ (by decide) (fun e => by omega)
/-- the law's rows behind a death with an heir -/
theorem ddH_C {M : Mem} {k h : Nat} (hkh : ¬ h = k) : (∀ i, ¬ i = 9 → ¬ i = 10 → ¬ i = 11 → ddH M k h i = M i) ∧ (∀ q o, o < 10 → ddH M k h 9 (12 * q + o) = if q = k then (if o ≤ 5 then 0 else M 9 (12 * k + o)) else if q = h then (if o = 2 then M 9 (12 * h + 2) + M 9 (12 * k + 2) else if o = 3 then M 9 (12 * h + 3) + (if M 12 19 &&& 4 = 0 then M 9 (12 * k + 3) else 0) else if o = 4 then M 9 (12 * h + 4) + (if M 12 19 &&& 4 = 0 then M 9 (12 * k + 4) else 0) else M 9 (12 * h + o)) else M 9 (12 * q + o)) ∧ (∀ q i, i < 12 → ddH M k h 10 (12 * q + i) = if q = k then 0 else if q = h then M 10 (12 * h + i) + M 10 (12 * k + i) else M 10 (12 * q + i)) ∧ (∀ q j, j < 4 → ddH M k h 11 (4 * q + j) = if q = k then 0 else if q = h then M 11 (4 * h + j) + M 11 (4 * k + j) else M 11 (4 * q + j)) ∧ (LC M → LC (ddH M k h)) := by
  obtain ⟨a1, a2, a3, a4⟩ := dhS_C (N := dd0 M k) hkh 12 (Nat.le_refl _)
  unfold ddH
  generalize hX : dhS (dd0 M k) k h 12 = X at *
  obtain ⟨b1, b2⟩ := dgS_C (N := X) hkh 4 (Nat.le_refl _)
  generalize hY : dgS X k h 4 = Y at *
  obtain ⟨c1, c2⟩ := dcS_C (N := Y) hkh
  have clc : LC Y → LC (dcS Y k h 3) := fun hL => ((hL.up_ (i := 9) (k := 12 * h + (0 + 2)) (by decide) (fun _ j => by omega)).up_ (i := 9) (k := 12 * h + (1 + 2)) (by decide) (fun _ j => by omega)).up_ (i := 9) (k := 12 * h + (2 + 2)) (by decide) (fun _ j => by omega)
  generalize hZ : dcS Y k h 3 = Z at *
  obtain ⟨z1, z2, z3, z4, z5⟩ := dzS_C (N := Z) (k := k) 5 (Nat.le_refl _)
  have x9 : ∀ q o, o < 10 → X 9 (12 * q + o) = if q = k ∧ o = 0 then 0 else M 9 (12 * q + o) := fun q o ho => by
    rw [a2 _ (by omega) (by omega)]
    unfold dd0
    by_cases e : q = k ∧ o = 0
    · rw [if_pos e, e.1, e.2]; exact up_same _ _ _ _
    · rw [if_neg e, up12 (by omega)]
  have x12 : X 12 = M 12 := by rw [a1 12 (by decide) (by decide)]; unfold dd0; rw [up_row (by decide)]
  refine ⟨fun i h1 h2 h3 => ?_, fun q o ho => ?_, fun q i hi => ?_, fun q j hj => ?_, fun hL => ?_⟩
  · rw [z1 i h1 h3, c1 i h1, b1 i h3, a1 i h1 h2]; unfold dd0; rw [up_row h1]
  · rw [z2]
    by_cases e1 : q = k
    · subst e1
      rw [if_pos rfl]
      by_cases e2 : o ≤ 5
      · rw [if_pos e2]
        by_cases e3 : 12 * q + 1 ≤ 12 * q + o ∧ 12 * q + o ≤ 12 * q + 5
        · rw [if_pos e3]
        · rw [if_neg e3, c2, if_neg (show ¬ 12 * q + o = 12 * h + 2 by omega), if_neg (show ¬ 12 * q + o = 12 * h + 3 by omega), if_neg (show ¬ 12 * q + o = 12 * h + 4 by omega), b1 9 (by decide), x9 _ _ ho, if_pos ⟨rfl, by omega⟩]
      · rw [if_neg e2, if_neg (show ¬ (12 * q + 1 ≤ 12 * q + o ∧ 12 * q + o ≤ 12 * q + 5) by omega), c2, if_neg (show ¬ 12 * q + o = 12 * h + 2 by omega), if_neg (show ¬ 12 * q + o = 12 * h + 3 by omega), if_neg (show ¬ 12 * q + o = 12 * h + 4 by omega), b1 9 (by decide), x9 _ _ ho, if_neg (show ¬ (q = q ∧ o = 0) by omega)]
    · rw [if_neg e1, if_neg (show ¬ (12 * k + 1 ≤ 12 * q + o ∧ 12 * q + o ≤ 12 * k + 5) by omega), c2]
      have y9 : ∀ q o, o < 10 → Y 9 (12 * q + o) = if q = k ∧ o = 0 then 0 else M 9 (12 * q + o) := fun q o ho => by rw [b1 9 (by decide)]; exact x9 q o ho
      have y12 : Y 12 = M 12 := by rw [b1 12 (by decide)]; exact x12
      rw [y12, y9 h 2 (by decide), y9 k 2 (by decide), y9 h 3 (by decide), y9 k 3 (by decide), y9 h 4 (by decide), y9 k 4 (by decide), y9 q o ho, if_neg (show ¬ (h = k ∧ 2 = 0) by omega), if_neg (show ¬ (k = k ∧ 2 = 0) by omega), if_neg (show ¬ (h = k ∧ 3 = 0) by omega), if_neg (show ¬ (k = k ∧ 3 = 0) by omega), if_neg (show ¬ (h = k ∧ 4 = 0) by omega), if_neg (show ¬ (k = k ∧ 4 = 0) by omega), if_neg (show ¬ (q = k ∧ o = 0) by omega)]
      by_cases e2 : q = h
      · subst e2
        rw [if_pos rfl]
        by_cases o2 : o = 2
        · subst o2; rw [if_pos rfl, if_pos rfl]
        · by_cases o3 : o = 3
          · subst o3; rw [if_neg (show ¬ 12 * q + 3 = 12 * q + 2 by omega), if_pos rfl, if_neg (show ¬ 3 = 2 by decide), if_pos rfl]
          · by_cases o4 : o = 4
            · subst o4; rw [if_neg (show ¬ 12 * q + 4 = 12 * q + 2 by omega), if_neg (show ¬ 12 * q + 4 = 12 * q + 3 by omega), if_pos rfl, if_neg (show ¬ 4 = 2 by decide), if_neg (show ¬ 4 = 3 by decide), if_pos rfl]
            · rw [if_neg (show ¬ 12 * q + o = 12 * q + 2 by omega), if_neg (show ¬ 12 * q + o = 12 * q + 3 by omega), if_neg (show ¬ 12 * q + o = 12 * q + 4 by omega), if_neg o2, if_neg o3, if_neg o4]
      · rw [if_neg (show ¬ 12 * q + o = 12 * h + 2 by omega), if_neg (show ¬ 12 * q + o = 12 * h + 3 by omega), if_neg (show ¬ 12 * q + o = 12 * h + 4 by omega), if_neg e2]
  · rw [z1 10 (by decide) (by decide), c1 10 (by decide), b1 10 (by decide), a3 q i hi, if_pos hi]
    have d : ∀ s, dd0 M k 10 s = M 10 s := fun s => by unfold dd0; rw [up_row (by decide)]
    rw [d, d, d]
  · have g11 : ∀ q j, j < 4 → Z 11 (4 * q + j) = if q = h then M 11 (4 * h + j) + M 11 (4 * k + j) else M 11 (4 * q + j) := fun q j hj => by
      have d : ∀ s, X 11 s = M 11 s := fun s => by rw [a1 11 (by decide) (by decide)]; unfold dd0; rw [up_row (by decide)]
      rw [c1 11 (by decide), b2 q j hj, d, d, d]
      by_cases e : q = h
      · rw [if_pos ⟨e, hj⟩, if_pos e]
      · rw [if_neg (fun w => e w.1), if_neg e]
    by_cases e1 : q = k
    · subst e1
      rw [if_pos rfl]
      have : j = 0 ∨ j = 1 ∨ j = 2 ∨ j = 3 := by omega
      rcases this with rfl | rfl | rfl | rfl
      · exact z4 3 (by decide)
      · exact z4 0 (by decide)
      · exact z4 1 (by decide)
      · exact z4 2 (by decide)
    · rw [z3 q j hj e1, g11 q j hj, if_neg e1]
  · have h0 : LC (dd0 M k) := hL.up_ (by decide) (fun _ j => by omega)
    have hX2 := a4 h0
    have hY2 : LC Y := hX2.cg (fun j hj => by rw [b1 9 (by decide)]; exact ⟨rfl, rfl⟩) (fun q => by rw [b1 10 (by decide)])
    exact z5 (clc hY2)
theorem ddN_C {M : Mem} {k : Nat} : (∀ i, ¬ i = 9 → ¬ i = 10 → ¬ i = 11 → ¬ i = 12 → ddN M k i = M i) ∧ (∀ q o, o < 10 → ddN M k 9 (12 * q + o) = if q = k ∧ o ≤ 5 then 0 else M 9 (12 * q + o)) ∧ (∀ q i, i < 12 → ddN M k 10 (12 * q + i) = if q = k then 0 else M 10 (12 * q + i)) ∧ (∀ q j, j < 4 → ddN M k 11 (4 * q + j) = if q = k then 0 else M 11 (4 * q + j)) ∧ (∀ s, ddN M k 12 s = if s = 29 then M 12 29 + hasF M k else M 12 s) ∧ (LC M → LC (ddN M k)) := by
  obtain ⟨a1, a2, a3, a5, a4⟩ := dnS_C (N := dd0 M k) (k := k) 12 (Nat.le_refl _)
  unfold ddN
  generalize hX : dnS (dd0 M k) k 12 = X at *
  obtain ⟨z1, z2, z3, z4, z5⟩ := dzS_C (N := X) (k := k) 5 (Nat.le_refl _)
  have d : ∀ i s, ¬ i = 9 → dd0 M k i s = M i s := fun i s hi => by unfold dd0; rw [up_row hi]
  have x9 : ∀ q o, o < 10 → X 9 (12 * q + o) = if q = k ∧ o = 0 then 0 else M 9 (12 * q + o) := fun q o ho => by
    rw [a2 _ (by omega)]
    unfold dd0
    by_cases e : q = k ∧ o = 0
    · rw [if_pos e, e.1, e.2]; exact up_same _ _ _ _
    · rw [if_neg e, up12 (by omega)]
  refine ⟨fun i h1 h2 h3 h4 => ?_, fun q o ho => ?_, fun q i hi => ?_, fun q j hj => ?_, fun s => ?_, fun hL => ?_⟩
  · rw [z1 i h1 h3, a1 i h1 h2 h4]; unfold dd0; rw [up_row h1]
  · rw [z2]
    by_cases e1 : q = k ∧ o ≤ 5
    · obtain ⟨rfl, e1⟩ := e1
      rw [if_pos (show q = q ∧ o ≤ 5 from ⟨rfl, e1⟩)]
      by_cases e3 : 12 * q + 1 ≤ 12 * q + o ∧ 12 * q + o ≤ 12 * q + 5
      · rw [if_pos e3]
      · rw [if_neg e3, x9 _ _ ho, if_pos ⟨rfl, by omega⟩]
    · rw [if_neg e1, if_neg (by omega), x9 _ _ ho, if_neg (by omega)]
  · rw [z1 10 (by decide) (by decide), a3 q i hi, d 10 _ (by decide)]
    by_cases e : q = k
    · rw [if_pos ⟨e, hi⟩, if_pos e]
    · rw [if_neg (fun w => e w.1), if_neg e]
  · have g11 : ∀ s, X 11 s = M 11 s := fun s => by rw [a1 11 (by decide) (by decide) (by decide), d 11 _ (by decide)]
    by_cases e1 : q = k
    · subst e1
      rw [if_pos rfl]
      have : j = 0 ∨ j = 1 ∨ j = 2 ∨ j = 3 := by omega
      rcases this with rfl | rfl | rfl | rfl
      · exact z4 3 (by decide)
      · exact z4 0 (by decide)
      · exact z4 1 (by decide)
      · exact z4 2 (by decide)
    · rw [z3 q j hj e1, g11, if_neg e1]
  · rw [z1 12 (by decide) (by decide), a5, d 12 _ (by decide), d 12 _ (by decide)]
    have hs : sm (fun i => dd0 M k 10 (12 * k + i)) 12 = hasF M k := by
      unfold hasF
      exact sm_congr (fun i _ => d 10 _ (by decide))
    rw [hs]
  · exact z5 (a4 (hL.up_ (by decide) (fun _ j => by omega)))
end LawG
