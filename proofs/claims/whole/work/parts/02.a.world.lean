/-! The town's world: every object of class, reference and law at an id; what ints they hold is M id slot. -/
abbrev Mem : Type := Nat → Nat → Int32
abbrev St : Type := Nat × (Nat → Nat) × (Nat → Int64) × Mem
abbrev mO (k : Nat) : Nat := 28 + 3 * k
abbrev mG (k : Nat) : Nat := 29 + 3 * k
abbrev mS (k : Nat) : Nat := 30 + 3 * k
def cnt (n : Nat) : Nat := if n = 0 then 27 else 28 + 3 * n
def fs0 (ρ : Nat → Nat) (k : Nat) (f : Nat → Int32) : List Value := [.int (f 0), .int (f 1), .int (f 2), .int (f 3), .int (f 4), .int (f 5), .int (f 6), .int (f 7), .int (f 8), .int (f 9), .ref (ρ (mG k)), .ref (ρ (mS k)), .int (f 12), .int (f 13)]
def fs1 (f : Nat → Int32) : List Value := [.int (f 0), .int (f 1), .int (f 2), .int (f 3)]
def fs2 (ρ : Nat → Nat) (f : Nat → Int32) : List Value := [.ref (ρ 1), .int (f 1), .int (f 2), .int (f 3), .ref (ρ 2), .ref (ρ 3), .int (f 6), .ref (ρ 4), .ref (ρ 5), .int (f 9), .int (f 10), .ref (ρ 6), .int (f 12), .int (f 13), .int (f 14), .int (f 15), .int (f 16), .ref (ρ 7)]
def fs3 (ρ : Nat → Nat) (f : Nat → Int32) : List Value := [.int (f 0), .ref (ρ 10), .ref (ρ 11), .ref (ρ 12), .ref (ρ 13), .ref (ρ 14), .ref (ρ 15), .ref (ρ 16), .ref (ρ 17), .ref (ρ 18), .ref (ρ 19), .ref (ρ 20), .ref (ρ 21), .ref (ρ 22), .ref (ρ 23), .ref (ρ 24), .ref (ρ 25), .ref (ρ 26), .int (f 18), .int (f 19), .int (f 20), .int (f 21), .int (f 22), .int (f 23), .int (f 24), .int (f 25), .int (f 26), .int (f 27), .int (f 28), .int (f 29)]
def fsL (n : Nat) (ρ : Nat → Nat) (f : Nat → Int32) : List Value := [.int (f 0), .ref (ρ 27), .int (nI n)]
def minersAt (n : Nat) (ρ : Nat → Nat) : Nat → Option Nat := fun j => if j < n then some (ρ (mO j)) else none
/-- what lies at the id i, if its ints are f -/
def cellOf (cA : Nat → ClassId) (n : Nat) (ρ : Nat → Nat) (J : Nat → Int64) (i : Nat) (f : Nat → Int32) : va_E := match i with
  | 0 => .inr (3, fs2 ρ f)
  | 1 => .inr (0, fsL n ρ f)
  | 2 => .inl (cA 0, 5, .inl f)
  | 3 => .inr (2, fs1 f)
  | 4 => .inl (cA 0, 4, .inl f)
  | 5 => .inl (cA 0, 4, .inl f)
  | 6 => .inl (cA 1, 3, .inl f)
  | 7 => .inl (cA 0, 6, .inl f)
  | 8 => .inl (cA 2, 1, .inr (.inl J))
  | 9 => .inr (4, fs3 ρ f)
  | 10 => .inl (cA 1, 10, .inl f)
  | 11 => .inl (cA 1, 10, .inl f)
  | 12 => .inl (cA 1, 10, .inl f)
  | 13 => .inl (cA 0, 10, .inl f)
  | 14 => .inl (cA 0, 10, .inl f)
  | 15 => .inl (cA 0, 10, .inl f)
  | 16 => .inl (cA 0, 10, .inl f)
  | 17 => .inl (cA 0, 10, .inl f)
  | 18 => .inl (cA 0, 10, .inl f)
  | 19 => .inl (cA 0, 10, .inl f)
  | 20 => .inl (cA 0, 400, .inl f)
  | 21 => .inl (cA 0, 40, .inl f)
  | 22 => .inl (cA 1, 10, .inl f)
  | 23 => .inl (cA 0, 5, .inl f)
  | 24 => .inl (cA 0, 8, .inl f)
  | 25 => .inl (cA 1, 3, .inl f)
  | 26 => .inl (cA 0, 6, .inl f)
  | 27 => .inl (cA 3, 10, .inr (.inr (.inr (.inr (minersAt n ρ)))))
  | k + 28 => if k % 3 = 0 then .inr (1, fs0 ρ (k / 3) f) else if k % 3 = 1 then .inl (cA 0, 4, .inl f) else .inl (cA 0, 40, .inl f)
/-- one row of the ints anew -/
def up1 (M : Mem) (i : Nat) (g : Nat → Int32) : Mem := fun j => if j = i then g else M j
/-- one int anew -/
def up (M : Mem) (i k : Nat) (v : Int32) : Mem := up1 M i (upd (M i) k v)
def ws (cA : Nat → ClassId) (n : Nat) (ρ : Nat → Nat) (J : Nat → Int64) (M : Mem) : va_W := (List.range (cnt n)).map (fun i => (ρ i, cellOf cA n ρ J i (M i)))
theorem ws_at {cA : Nat → ClassId} {n : Nat} {ρ : Nat → Nat} {J : Nat → Int64} {M : Mem} {i : Nat} (h : i < cnt n) : (ws cA n ρ J M)[i]? = some (ρ i, cellOf cA n ρ J i (M i)) := by
  unfold ws
  rw [List.getElem?_map, List.getElem?_range h]
  rfl
theorem ws_set {cA : Nat → ClassId} {n : Nat} {ρ : Nat → Nat} {J : Nat → Int64} {M : Mem} (i : Nat) (g : Nat → Int32) : (ws cA n ρ J M).set i (ρ i, cellOf cA n ρ J i g) = ws cA n ρ J (up1 M i g) := by
  apply List.ext_getElem?
  intro j
  unfold ws
  rw [List.getElem?_set]
  by_cases e : i = j
  · subst e
    rw [if_pos rfl, List.length_map, List.length_range]
    by_cases h : i < cnt n
    · rw [if_pos h, List.getElem?_map, List.getElem?_range h]
      simp [up1]
    · rw [if_neg h, List.getElem?_map, List.getElem?_eq_none (by rw [List.length_range]; omega)]
      rfl
  · rw [if_neg e, List.getElem?_map, List.getElem?_map]
    by_cases h : j < cnt n
    · rw [List.getElem?_range h]
      have e2 : ¬ j = i := fun q => e q.symm
      simp [up1, e2]
    · rw [List.getElem?_eq_none (by rw [List.length_range]; omega)]
      rfl
theorem ws_setJ {cA : Nat → ClassId} {n : Nat} {ρ : Nat → Nat} {J J' : Nat → Int64} {M : Mem} : (ws cA n ρ J M).set 8 (ρ 8, .inl (cA 2, 1, .inr (.inl J'))) = ws cA n ρ J' M := by
  apply List.ext_getElem?
  intro j
  unfold ws
  rw [List.getElem?_set]
  by_cases e : 8 = j
  · subst e
    have h : 8 < cnt n := by unfold cnt; split <;> omega
    rw [if_pos rfl, List.length_map, List.length_range, if_pos h, List.getElem?_map, List.getElem?_range h]
    rfl
  · rw [if_neg e, List.getElem?_map, List.getElem?_map]
    by_cases h : j < cnt n
    · rw [List.getElem?_range h]
      simp only [Option.map_some]
      congr 2
      unfold cellOf
      split <;> first | rfl | exact absurd rfl e
    · rw [List.getElem?_eq_none (by rw [List.length_range]; omega)]
      rfl
theorem cell_O (cA : Nat → ClassId) (n : Nat) (ρ : Nat → Nat) (J : Nat → Int64) (k : Nat) (f : Nat → Int32) : cellOf cA n ρ J (mO k) f = .inr (1, fs0 ρ k f) := by
  rw [show mO k = 3 * k + 28 by unfold mO; omega]
  unfold cellOf
  dsimp only
  rw [if_pos (by omega), show 3 * k / 3 = k by omega]
theorem cell_G (cA : Nat → ClassId) (n : Nat) (ρ : Nat → Nat) (J : Nat → Int64) (k : Nat) (f : Nat → Int32) : cellOf cA n ρ J (mG k) f = .inl (cA 0, 4, .inl f) := by
  rw [show mG k = (3 * k + 1) + 28 by unfold mG; omega]
  unfold cellOf
  dsimp only
  rw [if_neg (by omega), if_pos (by omega)]
theorem cell_S (cA : Nat → ClassId) (n : Nat) (ρ : Nat → Nat) (J : Nat → Int64) (k : Nat) (f : Nat → Int32) : cellOf cA n ρ J (mS k) f = .inl (cA 0, 40, .inl f) := by
  rw [show mS k = (3 * k + 2) + 28 by unfold mS; omega]
  unfold cellOf
  dsimp only
  rw [if_neg (by omega), if_neg (by omega)]
theorem cnt_fix {n i : Nat} (h : i < 27) : i < cnt n := by unfold cnt; split <;> omega
theorem cnt_ea {n k : Nat} (h : k < n) : 27 < cnt n := by unfold cnt; split <;> omega
theorem cnt_O {n k : Nat} (h : k < n) : mO k < cnt n := by unfold cnt mO; split <;> omega
theorem cnt_G {n k : Nat} (h : k < n) : mG k < cnt n := by unfold cnt mG; split <;> omega
theorem cnt_S {n k : Nat} (h : k < n) : mS k < cnt n := by unfold cnt mS; split <;> omega
/-- the array types' rows -/
def tysA (cA : Nat → ClassId) : List (ClassId × FieldType) := [(cA 0, .int), (cA 1, .boolean), (cA 2, .long), (cA 3, .object "java/lang/Object")]
def KK (D : va_G) (cA : Nat → ClassId) (U : State) : Prop := va_K D vwCl (tysA cA) U
