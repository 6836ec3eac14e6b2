/-! The town's world: every object of class, reference and law at an id; what ints they hold is M id slot. -/
abbrev Mem : Type := Nat → Nat → Int32
abbrev St : Type := Nat × (Nat → Nat) × (Nat → Int64) × Mem
abbrev mO (k : Nat) : Nat := 28 + 3 * k
abbrev mG (k : Nat) : Nat := 29 + 3 * k
abbrev mS (k : Nat) : Nat := 30 + 3 * k
/-- how many cells: the class's eight, the law's four rows, the list's row, three a miner -/
def cnt (n : Nat) : Nat := if n = 0 then 12 else 13 + 3 * n
/-- which ids there are -/
def Ok (n i : Nat) : Prop := i < 8 ∨ (9 ≤ i ∧ i ≤ 12) ∨ (i = 27 ∧ 0 < n) ∨ (28 ≤ i ∧ i < 28 + 3 * n)
/-- the place of an id, the id of a place -/
def pos (i : Nat) : Nat := if i < 8 then i else if i < 13 then i - 1 else i - 15
def idn (j : Nat) : Nat := if j < 8 then j else if j < 12 then j + 1 else j + 15
theorem pos_lt {n i : Nat} (h : Ok n i) : pos i < cnt n := by unfold Ok at h; unfold pos cnt; (repeat' split) <;> omega
theorem idn_pos {n i : Nat} (h : Ok n i) : idn (pos i) = i := by unfold Ok at h; unfold idn pos; (repeat' split) <;> omega
theorem idn_inj {i j : Nat} (h : idn i = idn j) : i = j := by unfold idn at h; (repeat' split at h) <;> omega
theorem pos_idn {j : Nat} : pos (idn j) = j := by unfold pos idn; (repeat' split) <;> omega
theorem ok_idn {n j : Nat} (h : j < cnt n) : Ok n (idn j) := by unfold cnt at h; unfold Ok idn; (repeat' split) <;> split at h <;> omega
def fs0 (ρ : Nat → Nat) (k : Nat) (f : Nat → Int32) : List Value := [.int (f 0), .int (f 1), .int (f 2), .int (f 3), .int (f 4), .int (f 5), .int (f 6), .int (f 7), .int (f 8), .int (f 9), .ref (ρ (mG k)), .ref (ρ (mS k)), .int (f 12), .int (f 13)]
def fs1 (f : Nat → Int32) : List Value := [.int (f 0), .int (f 1), .int (f 2), .int (f 3)]
def fs2 (ρ : Nat → Nat) (f : Nat → Int32) : List Value := [.ref (ρ 1), .int (f 1), .int (f 2), .int (f 3), .ref (ρ 2), .ref (ρ 3), .int (f 6), .ref (ρ 4), .ref (ρ 5), .int (f 9), .int (f 10), .ref (ρ 6), .int (f 12), .int (f 13), .int (f 14), .int (f 15), .int (f 16), .ref (ρ 7)]
def fsL (n : Nat) (ρ : Nat → Nat) (f : Nat → Int32) : List Value := [.int (f 0), .ref (ρ 27), .int (nI n)]
def minersAt (n : Nat) (ρ : Nat → Nat) : Nat → Option Nat := fun j => if j < n then some (ρ (mO j)) else none
/-- what lies at the id i, if its ints are f -/
def cellOf (cA : Nat → ClassId) (n : Nat) (ρ : Nat → Nat) (J : Nat → Int64) (i : Nat) (f : Nat → Int32) : va_E := match i with
  | 0 => .inr (3, fs2 ρ f)
  | 1 => .inr (0, fsL n ρ f)
  | 2 => .inl (cA 0, 5, .inl f)
  | 3 => .inr (2, fs1 f)
  | 4 => .inl (cA 0, 4, .inl f)
  | 5 => .inl (cA 0, 4, .inl f)
  | 6 => .inl (cA 1, 3, .inl f)
  | 7 => .inl (cA 0, 6, .inl f)
  | 8 => .inl (cA 0, 0, .inl f)
  | 9 => .inl (cA 0, 60, .inl f)
  | 10 => .inl (cA 0, 60, .inl f)
  | 11 => .inl (cA 0, 20, .inl f)
  | 12 => .inl (cA 0, 31, .inl f)
  | 13 => .inl (cA 0, 0, .inl f)
  | 14 => .inl (cA 0, 0, .inl f)
  | 15 => .inl (cA 0, 0, .inl f)
  | 16 => .inl (cA 0, 0, .inl f)
  | 17 => .inl (cA 0, 0, .inl f)
  | 18 => .inl (cA 0, 0, .inl f)
  | 19 => .inl (cA 0, 0, .inl f)
  | 20 => .inl (cA 0, 0, .inl f)
  | 21 => .inl (cA 0, 0, .inl f)
  | 22 => .inl (cA 0, 0, .inl f)
  | 23 => .inl (cA 0, 0, .inl f)
  | 24 => .inl (cA 0, 0, .inl f)
  | 25 => .inl (cA 0, 0, .inl f)
  | 26 => .inl (cA 0, 0, .inl f)
  | 27 => .inl (cA 3, 10, .inr (.inr (.inr (.inr (minersAt n ρ)))))
  | k + 28 => if k % 3 = 0 then .inr (1, fs0 ρ (k / 3) f) else if k % 3 = 1 then .inl (cA 0, 4, .inl f) else .inl (cA 0, 40, .inl f)
/-- one row of the ints anew -/
def up1 (M : Mem) (i : Nat) (g : Nat → Int32) : Mem := fun j => if j = i then g else M j
/-- one int anew -/
def up (M : Mem) (i k : Nat) (v : Int32) : Mem := up1 M i (upd (M i) k v)
def ws (cA : Nat → ClassId) (n : Nat) (ρ : Nat → Nat) (J : Nat → Int64) (M : Mem) : va_W := (List.range (cnt n)).map (fun j => (ρ (idn j), cellOf cA n ρ J (idn j) (M (idn j))))
theorem ws_pl {cA : Nat → ClassId} {n : Nat} {ρ : Nat → Nat} {J : Nat → Int64} {M : Mem} {j : Nat} (h : j < cnt n) : (ws cA n ρ J M)[j]? = some (ρ (idn j), cellOf cA n ρ J (idn j) (M (idn j))) := by
  unfold ws
  rw [List.getElem?_map, List.getElem?_range h]
  rfl
theorem ws_len {cA : Nat → ClassId} {n : Nat} {ρ : Nat → Nat} {J : Nat → Int64} {M : Mem} : (ws cA n ρ J M).length = cnt n := by
  unfold ws
  rw [List.length_map, List.length_range]
theorem ws_at {cA : Nat → ClassId} {n : Nat} {ρ : Nat → Nat} {J : Nat → Int64} {M : Mem} {i : Nat} (h : Ok n i) : (ws cA n ρ J M)[pos i]? = some (ρ i, cellOf cA n ρ J i (M i)) := by
  rw [ws_pl (pos_lt h), idn_pos h]
theorem ws_set {cA : Nat → ClassId} {n : Nat} {ρ : Nat → Nat} {J : Nat → Int64} {M : Mem} {i : Nat} (h : Ok n i) (g : Nat → Int32) : (ws cA n ρ J M).set (pos i) (ρ i, cellOf cA n ρ J i g) = ws cA n ρ J (up1 M i g) := by
  apply List.ext_getElem?
  intro j
  rw [List.getElem?_set]
  by_cases e : pos i = j
  · subst e
    rw [if_pos rfl, ws_len, if_pos (pos_lt h), ws_pl (pos_lt h), idn_pos h]
    unfold up1
    rw [if_pos rfl]
  · rw [if_neg e]
    by_cases hj : j < cnt n
    · have e2 : ¬ idn j = i := fun q => e (by rw [← q, pos_idn])
      rw [ws_pl hj, ws_pl hj]
      unfold up1
      rw [if_neg e2]
    · rw [List.getElem?_eq_none (by rw [ws_len]; omega), List.getElem?_eq_none (by rw [ws_len]; omega)]
theorem cell_O (cA : Nat → ClassId) (n : Nat) (ρ : Nat → Nat) (J : Nat → Int64) (k : Nat) (f : Nat → Int32) : cellOf cA n ρ J (mO k) f = .inr (1, fs0 ρ k f) := by
  rw [show mO k = 3 * k + 28 by unfold mO; omega]
  unfold cellOf
  dsimp only
  rw [if_pos (by omega), show 3 * k / 3 = k by omega]
theorem cell_G (cA : Nat → ClassId) (n : Nat) (ρ : Nat → Nat) (J : Nat → Int64) (k : Nat) (f : Nat → Int32) : cellOf cA n ρ J (mG k) f = .inl (cA 0, 4, .inl f) := by
  rw [show mG k = (3 * k + 1) + 28 by unfold mG; omega]
  unfold cellOf
  dsimp only
  rw [if_neg (by omega), if_pos (by omega)]
theorem cell_S (cA : Nat → ClassId) (n : Nat) (ρ : Nat → Nat) (J : Nat → Int64) (k : Nat) (f : Nat → Int32) : cellOf cA n ρ J (mS k) f = .inl (cA 0, 40, .inl f) := by
  rw [show mS k = (3 * k + 2) + 28 by unfold mS; omega]
  unfold cellOf
  dsimp only
  rw [if_neg (by omega), if_neg (by omega)]
theorem cnt_fix {n i : Nat} (h : i < 8 ∨ (9 ≤ i ∧ i ≤ 12)) : Ok n i := by unfold Ok; omega
theorem cnt_ea {n k : Nat} (h : k < n) : Ok n 27 := by unfold Ok; omega
theorem cnt_O {n k : Nat} (h : k < n) : Ok n (mO k) := by unfold Ok mO; omega
theorem cnt_G {n k : Nat} (h : k < n) : Ok n (mG k) := by unfold Ok mG; omega
theorem cnt_S {n k : Nat} (h : k < n) : Ok n (mS k) := by unfold Ok mS; omega
/-- the array types' rows -/
def tysA (cA : Nat → ClassId) : List (ClassId × FieldType) := [(cA 0, .int), (cA 1, .boolean), (cA 2, .int), (cA 3, .object "java/lang/Object")]
def KK (D : va_G) (cA : Nat → ClassId) (U : State) : Prop := va_K D vwCl (tysA cA) U
