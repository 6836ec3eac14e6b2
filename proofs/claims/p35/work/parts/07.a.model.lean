/-! The reference's functions. -/
def gv (f s t : Int32) : Int32 := if f = 0 then 1 else if s = 0 then 2 else if t = 0 then 3 else 0
def gr (f s t : Int32) : Int32 := if gv f s t = 0 then 1 else 0
/-- the reference's outcome: the code, the value -/
abbrev mo (M : Mem) (c v : Int32) : Out := rI v (up M 9 29 c)
theorem pm {x : Int32} {n : Nat} (hn : n ≤ 10) (h : nI n ≤ x) : nI n - 1 < x := by
  have h1 := Int32.le_iff_toInt_le.mp h
  have h2 : (nI n - nI 1).toInt = (n : Int) - 1 := pk_sub_toInt (by omega) (by omega)
  have h3 : (nI n).toInt = (n : Int) := nI_toInt (by omega)
  apply Int32.lt_iff_toInt_lt.mpr
  show (nI n - nI 1).toInt < x.toInt
  omega
theorem pn {k n : Nat} (hk : k < n) (hn : n ≤ 10) : nI k ≤ nI n - 1 := by
  have h2 : (nI n - nI 1).toInt = (n : Int) - 1 := pk_sub_toInt (by omega) (by omega)
  have h3 : (nI k).toInt = (k : Int) := nI_toInt (by omega)
  apply Int32.le_iff_toInt_le.mpr
  show (nI k).toInt ≤ (nI n - nI 1).toInt
  omega
theorem g3 {x : Int32} {n : Nat} (hn : n < 1000) (h : nI (n + 1) ≤ x) : nI n < x := by
  have h1 := Int32.le_iff_toInt_le.mp h
  have h2 : (nI (n + 1)).toInt = (n : Int) + 1 := nI_toInt (by omega)
  have h3 : (nI n).toInt = (n : Int) := nI_toInt (by omega)
  apply Int32.lt_iff_toInt_lt.mpr
  omega
abbrev ml (M : Mem) (c : Int32) : Mem := up M 9 29 c
def omhN (M : Mem) (w : Int32) : Int32 := if M 9 19 = 0 then w * (100 - M 9 18) / 100 else w
def omhew (M : Mem) (k : Nat) (w : Int32) : Out := if w < 1 ∨ 1000 < w then mo M 2 0 else if M 10 k = 0 then mo M 3 0 else if M 9 26 = 0 then (if M 9 27 = 0 then rI (up (ml M 0) 13 k (ml M 0 13 k + omhN (ml M 0) w) 13 k) (up (ml M 0) 13 k (ml M 0 13 k + omhN (ml M 0) w)) else mo M 3 0) else mo M 3 0
def omkin (n : Nat) (M : Mem) (k : Nat) (y : Int32) : Out := if y = -1 then (if nI k = y then mo M 2 0 else rI (ml M 0 19 k) (up (ml M 0) 19 k y)) else if y < 0 ∨ nI n ≤ y then mo M 1 0 else if nI k = y then mo M 2 0 else rI (ml M 0 19 k) (up (ml M 0) 19 k y)
def omtell (M : Mem) (j : Nat) (y : Int32) : Out := if nI j = 0 then (if y < 1 ∨ 50 < y then mo M 1 0 else rI (ml M 0 23 j) (up (ml M 0) 23 j y)) else if y < 0 ∨ 100 < y then mo M 1 0 else rI (ml M 0 23 j) (up (ml M 0) 23 j y)
def omhouse (M : Mem) (k : Nat) : Out := if M 10 k = 0 then (.inr none, ml M 2) else if M 11 k = 0 then (if M 16 k = 0 then (.inr none, up (ml M 0) 11 k 1) else (.inr none, ml M 2)) else (.inr none, ml M 2)
theorem ix4 (g : Nat) : nI g + 4 = nI (g + 4) := nI_add g 4
theorem ix40 (k j : Nat) : 40 * nI k + nI j = nI (40 * k + j) := by rw [show (40 : Int32) = nI 40 from rfl, pk_mul, nI_add]
theorem ix4k (k j : Nat) : 4 * nI k + nI j = nI (4 * k + j) := by rw [show (4 : Int32) = nI 4 from rfl, pk_mul, nI_add]
theorem ix4g (g : Nat) : 4 + nI g = nI (4 + g) := nI_add 4 g
def omprice (M : Mem) (g : Nat) (y z : Int32) : Out := if y < 1 ∨ 100 < y then mo M 2 0 else if z = 0 then rI (ml M 0 24 g) (up (ml M 0) 24 g y) else rI (ml M 0 24 (g + 4)) (up (ml M 0) 24 (g + 4) y)
def raF (M : Mem) (k g : Nat) : Int32 := M 24 g + ((M 24 g).toInt64 * (M 15 k).toInt64 / 200).toInt32
def smM (M : Mem) (k : Nat) : Nat → Int32
  | 0 => 0
  | j + 1 => smM M k j + M 20 (40 * k + j)
def mn2 (x y : Int32) : Int32 := if y ≤ x then y else x
def tkS (M : Mem) (k : Nat) (v : Int32) : Nat → Mem × Int32
  | 0 => (M, v)
  | j + 1 => (up (tkS M k v j).1 20 (40 * k + j) ((tkS M k v j).1 20 (40 * k + j) - mn2 ((tkS M k v j).1 20 (40 * k + j)) (tkS M k v j).2), (tkS M k v j).2 - mn2 ((tkS M k v j).1 20 (40 * k + j)) (tkS M k v j).2)
theorem tkS_s (M : Mem) (k : Nat) (v : Int32) (j : Nat) : tkS M k v (j + 1) = (up (tkS M k v j).1 20 (40 * k + j) ((tkS M k v j).1 20 (40 * k + j) - mn2 ((tkS M k v j).1 20 (40 * k + j)) (tkS M k v j).2), (tkS M k v j).2 - mn2 ((tkS M k v j).1 20 (40 * k + j)) (tkS M k v j).2) := rfl
theorem ix40z (k : Nat) : 40 * nI k = nI (40 * k) := by rw [show (40 : Int32) = nI 40 from rfl, pk_mul]
theorem ix40e (k : Nat) : 40 * nI k + 40 = nI (40 * k + 40) := by rw [ix40z]; exact nI_add _ 40
def lkM (M : Mem) (k : Nat) (c : Int32) : Int32 := if c - smM M k 40 - M 14 k ≤ 0 then 0 else c - smM M k 40 - M 14 k
def omref (M : Mem) (k g : Nat) (w : Int32) : Int32 := if M 9 27 = 0 then (if M 9 26 = 0 then (if M 10 k = 0 then 2 else if lkM M k (w * raF M k g) ≤ 0 then 0 else if M 15 k + lkM M k (w * raF M k g) ≤ M 9 22 then 0 else 3) else 1) else 1
def omwhy (M : Mem) (k g : Nat) (w : Int32) : Out := if w < 1 ∨ 50 < w then mo M 2 0 else rI (omref (ml M 0) k g w) (ml M 0)
abbrev bmC (N : Mem) (k g : Nat) (w : Int32) : Int32 := w * raF N k g
abbrev bmK (N : Mem) (k g : Nat) (w : Int32) : Int32 := bmC N k g w - (tkS N k (bmC N k g w) 40).2
abbrev bm1 (N : Mem) (k g : Nat) (w : Int32) : Mem := up (tkS N k (bmC N k g w) 40).1 26 1 ((tkS N k (bmC N k g w) 40).1 26 1 + bmK N k g w)
abbrev bmL (N : Mem) (k g : Nat) (w : Int32) : Int32 := bmC N k g w - bmK N k g w
def bm2 (B : Mem) (k : Nat) (P : Int32) : Mem := up B 14 k (B 14 k - P)
def bm3 (B : Mem) (k : Nat) (L P : Int32) : Mem := up (bm2 B k P) 15 k (bm2 B k P 15 k + (L - P))
def bm4 (B : Mem) (k g : Nat) (w L P : Int32) : Mem := up (bm3 B k L P) 21 (4 * k + g) (bm3 B k L P 21 (4 * k + g) + w)
def ombuy (M : Mem) (k g : Nat) (w : Int32) : Out := if w < 1 ∨ 50 < w then mo M 2 0 else if omref M k g w = 0 then (if bmL (ml M 0) k g w ≤ bm1 (ml M 0) k g w 14 k then rI (bm4 (bm1 (ml M 0) k g w) k g w (bmL (ml M 0) k g w) (bmL (ml M 0) k g w) 15 k) (bm4 (bm1 (ml M 0) k g w) k g w (bmL (ml M 0) k g w) (bmL (ml M 0) k g w)) else rI (bm4 (bm1 (ml M 0) k g w) k g w (bmL (ml M 0) k g w) (bm1 (ml M 0) k g w 14 k) 15 k) (bm4 (bm1 (ml M 0) k g w) k g w (bmL (ml M 0) k g w) (bm1 (ml M 0) k g w 14 k))) else mo M 3 0
def om1 (N : Mem) (k : Nat) (c : Int32) : Mem := up N 14 k (N 14 k - c)
def om2 (N : Mem) (k g : Nat) (c w : Int32) : Mem := up (om1 N k c) 21 (4 * k + g) (om1 N k c 21 (4 * k + g) + w)
def omover (M : Mem) (k g : Nat) (w : Int32) : Out := if w < 1 ∨ 50 < w then mo M 2 0 else if M 10 k = 0 then mo M 3 0 else if M 14 k < w * M 24 (4 + g) then mo M 3 0 else rI (om2 (ml M 0) k g (w * M 24 (4 + g)) w 14 k) (om2 (ml M 0) k g (w * M 24 (4 + g)) w)
abbrev cmI (N : Mem) (w : Int32) : Int32 := w * (100 - N 9 23) / 100
def cm1 (N : Mem) (k : Nat) (w : Int32) : Mem := up (tkS N k w 40).1 26 2 (N 26 2 + (w - (tkS N k w 40).2))
def cm2 (N : Mem) (k : Nat) (w : Int32) : Mem := up (cm1 N k w) 14 k (cm1 N k w 14 k + cmI (cm1 N k w) w)
def omchange (M : Mem) (k : Nat) (w : Int32) : Out := if w < 1 ∨ 100000 < w then mo M 2 0 else if M 10 k = 0 then mo M 3 0 else if smM M k 40 < w then mo M 3 0 else rI (cmI (cm1 (ml M 0) k w) w) (cm2 (ml M 0) k w)
def omab (M : Mem) (k : Nat) : Nat → Int32
  | 0 => if M 10 k = 0 then 0 else 1
  | 1 => M 13 k
  | 2 => M 14 k
  | 3 => smM M k 40
  | 4 => M 15 k
  | 5 => M 16 k
  | 6 => if M 11 k = 0 then 0 else 1
  | 7 => M 17 k
  | 8 => M 18 k
  | _ => M 19 k
theorem in9 {y : Int32} (h : y.toInt < 0 ∨ 9 < y.toInt) : y < 0 ∨ 9 < y := h.elim (fun z => Or.inl (Int32.lt_iff_toInt_lt.mpr z)) (fun z => Or.inr (Int32.lt_iff_toInt_lt.mpr z))
def bkM (M : Mem) (k : Nat) : Nat → Int32
  | 0 => 0
  | g + 1 => bkM M k g + raF M k g
def spM (M : Mem) : Int32 := if M 9 24 = 0 then 0 else if M 25 1 = 0 then 0 else 1
def brkM (M : Mem) (k : Nat) (v : Int32) : Mem := if M 9 24 = 0 then (if v ≤ 0 then M else up (up M 9 25 (M 9 25 + 1)) 17 k (up M 9 25 (M 9 25 + 1) 17 k + v)) else M
def emi : Nat → Int32 → Int32 → Int32
  | 0, _, _ => 1
  | f + 1, r, met => if r ≤ 0 then 1 else if r - r / 10 * 10 < 1 ∨ 5 < r - r / 10 * 10 then 0 else if met >>> ((r - r / 10 * 10) &&& 31) &&& 1 = 0 then emi f (r / 10) (met ||| 1 <<< ((r - r / 10 * 10) &&& 31)) else 0
theorem emi_s (f : Nat) (r met : Int32) : emi (f + 1) r met = if r ≤ 0 then 1 else if r - r / 10 * 10 < 1 ∨ 5 < r - r / 10 * 10 then 0 else if met >>> ((r - r / 10 * 10) &&& 31) &&& 1 = 0 then emi f (r / 10) (met ||| 1 <<< ((r - r / 10 * 10) &&& 31)) else 0 := rfl
theorem emi_01 : ∀ (f : Nat) (r met : Int32), emi f r met = 0 ∨ emi f r met = 1
  | 0, _, _ => Or.inr rfl
  | f + 1, r, met => by
    rw [emi_s]
    split
    · exact Or.inr rfl
    · split
      · exact Or.inl rfl
      · split
        · exact emi_01 f _ _
        · exact Or.inl rfl
def edM (x : Int32) : Int32 := if x < 0 then 0 else emi 10 x 0
theorem edM_01 (x : Int32) : edM x = 0 ∨ edM x = 1 := by
  unfold edM
  split
  · exact Or.inl rfl
  · exact emi_01 _ _ _
theorem d10 {m : Nat} (h : m < 2 ^ 31) : nI m / 10 = nI (m / 10) := pk_div (a := m) (d := 10) h (by omega) (by omega)
def omed (M : Mem) (x : Int32) : Out := if edM x = 0 then mo M 1 0 else rI (ml M 0 9 20) (up (ml M 0) 9 20 x)
def leadM (M : Mem) : Nat → Int32
  | 0 => 0
  | j + 1 => if M 10 j = 0 then leadM M j + 0 else if M 12 j = 0 then leadM M j + (-1) else leadM M j + 1
theorem leadM_s (M : Mem) (j : Nat) : leadM M (j + 1) = if M 10 j = 0 then leadM M j + 0 else if M 12 j = 0 then leadM M j + (-1) else leadM M j + 1 := rfl
def stM (M : Mem) : Mem := up (ml M 0) 9 26 (if ml M 0 9 26 = 0 then 1 else 0)
def omstrike (M : Mem) (n : Nat) : Out := if M 9 27 = 0 then (if M 9 26 = 0 then (if leadM M n ≤ 0 then mo M 1 0 else rI (stM M 9 26) (stM M)) else rI (stM M 9 26) (stM M)) else mo M 1 0
theorem ml_at {M : Mem} {c : Int32} {s : Nat} (h : s ≠ 29) : ml M c 9 s = M 9 s := by
  show up M 9 29 c 9 s = M 9 s
  rw [up_eq]
  unfold upd
  rw [if_neg h]
theorem ml_ne {M : Mem} {c : Int32} {i : Nat} (h : i ≠ 9) : ml M c i = M i := up_ne h
abbrev meM (M : Mem) (j : Nat) : Int32 := M 14 j + smM M j 40
def nx (M : Mem) (s : Int32) : Nat → Int32
  | 0 => -1
  | j + 1 => if M 10 j = 0 then nx M s j else if s >>> (nI j &&& 31) &&& 1 = 0 then (if nx M s j = -1 then nI j else if meM M (nx M s j).toNatClampNeg ≤ meM M j then nx M s j else nI j) else nx M s j
theorem nx_s (M : Mem) (s : Int32) (j : Nat) : nx M s (j + 1) = if M 10 j = 0 then nx M s j else if s >>> (nI j &&& 31) &&& 1 = 0 then (if nx M s j = -1 then nI j else if meM M (nx M s j).toNatClampNeg ≤ meM M j then nx M s j else nI j) else nx M s j := rfl
theorem nx_ok (M : Mem) (s : Int32) : ∀ j, nx M s j = -1 ∨ ∃ q, q < j ∧ nx M s j = nI q
  | 0 => Or.inl rfl
  | j + 1 => by
    have h := nx_ok M s j
    have h2 : nx M s j = -1 ∨ ∃ q, q < j + 1 ∧ nx M s j = nI q := h.elim Or.inl (fun ⟨q, h1, h2⟩ => Or.inr ⟨q, by omega, h2⟩)
    rw [nx_s]
    split
    · exact h2
    · split
      · split
        · exact Or.inr ⟨j, by omega, rfl⟩
        · split
          · exact h2
          · exact Or.inr ⟨j, by omega, rfl⟩
      · exact h2
def ss (n : Nat) : Nat → Mem → Int32 → Mem × Int32
  | 0, M, s => (M, s)
  | f + 1, M, s => if M 9 28 < 2 then (M, s) else if nx M s n = -1 then (M, s) else ss n f (up M 9 28 (M 9 28 - 2)) (s ||| 1 <<< (nx M s n &&& 31))
theorem ss_s (n f : Nat) (M : Mem) (s : Int32) : ss n (f + 1) M s = if M 9 28 < 2 then (M, s) else if nx M s n = -1 then (M, s) else ss n f (up M 9 28 (M 9 28 - 2)) (s ||| 1 <<< (nx M s n &&& 31)) := rfl
def omsoup (M : Mem) (n φ : Nat) : Out := if M 9 26 = 0 then mo M 1 0 else rI (ss n φ (ml M 0) 0).2 (ss n φ (ml M 0) 0).1
def totM (M : Mem) (i : Nat) : Nat → Int64
  | 0 => 0
  | j + 1 => totM M i j + (M 20 (40 * j + i)).toInt64
def prtM (u : Int64) (h m : Int32) : Int64 := if u = 0 then 0 else h.toInt64 * m.toInt64 / u
def getM (u : Int64) (h m : Int32) : Int32 := if m.toInt64 < u then (prtM u h m).toInt32 else h
def re1 (M : Mem) (j i : Nat) (u : Int64) (m : Int32) : Mem := up M 14 j (M 14 j + getM u (M 20 (40 * j + i)) m)
def re2 (N M : Mem) (j i : Nat) : Mem := up N 26 5 (N 26 5 + M 20 (40 * j + i))
def re3 (M : Mem) (j i : Nat) (u : Int64) (m : Int32) : Mem := up (re2 (re1 M j i u m) M j i) 20 (40 * j + i) 0
def reS (M : Mem) (i : Nat) (u : Int64) (m : Int32) : Nat → Mem × Int32
  | 0 => (M, m)
  | j + 1 => (re3 (reS M i u m j).1 j i u m, (reS M i u m j).2 - getM u ((reS M i u m j).1 20 (40 * j + i)) m)
theorem reS_s (M : Mem) (i : Nat) (u : Int64) (m : Int32) (j : Nat) : reS M i u m (j + 1) = (re3 (reS M i u m j).1 j i u m, (reS M i u m j).2 - getM u ((reS M i u m j).1 20 (40 * j + i)) m) := rfl
theorem lc0 {x y : Int64} : lg_cmp x y = 0 ↔ x = y := by
  have e2 : (y < x) ↔ y.toInt < x.toInt := Int64.lt_iff_toInt_lt
  have e3 : x = y ↔ x.toInt = y.toInt := Int64.toInt_inj.symm
  unfold lg_cmp
  split
  · rename_i h
    have h9 := e2.mp h
    exact ⟨fun w => absurd w (by decide), fun w => absurd (e3.mp w) (by omega)⟩
  · split
    · rename_i h1 h2
      exact ⟨fun _ => h2, fun _ => rfl⟩
    · rename_i h1 h2
      exact ⟨fun w => absurd w (by decide), fun w => absurd w h2⟩
theorem lcn {x y : Int64} : lg_cmp x y < 0 ↔ x < y := by
  have e : (x < y) ↔ x.toInt < y.toInt := Int64.lt_iff_toInt_lt
  have e2 : (y < x) ↔ y.toInt < x.toInt := Int64.lt_iff_toInt_lt
  have e3 : x = y ↔ x.toInt = y.toInt := Int64.toInt_inj.symm
  unfold lg_cmp
  split
  · rename_i h
    have h9 := e2.mp h
    exact ⟨fun w => absurd w (by decide), fun w => absurd (e.mp w) (by omega)⟩
  · split
    · rename_i h1 h2
      have h9 := e3.mp h2
      exact ⟨fun w => absurd w (by decide), fun w => absurd (e.mp w) (by omega)⟩
    · rename_i h1 h2
      have a1 : ¬ y.toInt < x.toInt := fun z => h1 (e2.mpr z)
      have a2 : ¬ x.toInt = y.toInt := fun z => h2 (e3.mpr z)
      exact ⟨fun _ => e.mpr (by omega), fun _ => by decide⟩
theorem reS_9 {M : Mem} {i : Nat} {u : Int64} {m : Int32} : ∀ j : Nat, (reS M i u m j).1 9 = M 9
  | 0 => rfl
  | j + 1 => by
    rw [reS_s]
    dsimp only
    unfold re3 re2 re1
    rw [up_ne (by decide), up_ne (by decide), up_ne (by decide)]
    exact reS_9 j
def cmS (n : Nat) (M : Mem) (m : Int32) : Nat → Mem × Int32
  | 0 => (M, m)
  | i + 1 => reS (cmS n M m i).1 i (totM (cmS n M m i).1 i n) (cmS n M m i).2 n
theorem cmS_s (n : Nat) (M : Mem) (m : Int32) (i : Nat) : cmS n M m (i + 1) = reS (cmS n M m i).1 i (totM (cmS n M m i).1 i n) (cmS n M m i).2 n := rfl
def cmF (N : Mem) : Mem := up (up N 9 27 1) 9 26 0
def omclose (M : Mem) (n : Nat) (m : Int32) : Out := if m < 0 ∨ 100000 < m then mo M 1 0 else if M 9 27 = 0 then rI (cmS n (ml M 0) m 40).2 (cmF (cmS n (ml M 0) m 40).1) else mo M 2 0
def mtM (M : Mem) (k : Nat) : Nat → Mem
  | 0 => M
  | j + 1 => up (mtM M k j) 22 j (if nI j = nI k then 1 else 0)
def hmS : Nat → Mem → Int32 → Mem × Int32
  | 0, M, x => (M, x)
  | f + 1, M, x => if x = -1 then (M, x) else if M 22 x.toNatClampNeg = 0 then (if M 10 x.toNatClampNeg = 0 then hmS f (up M 22 x.toNatClampNeg 1) (M 19 x.toNatClampNeg) else (M, x)) else (M, x)
theorem hmS_s (f : Nat) (M : Mem) (x : Int32) : hmS (f + 1) M x = if x = -1 then (M, x) else if M 22 x.toNatClampNeg = 0 then (if M 10 x.toNatClampNeg = 0 then hmS f (up M 22 x.toNatClampNeg 1) (M 19 x.toNatClampNeg) else (M, x)) else (M, x) := rfl
def hmR (M : Mem) (x : Int32) : Int32 := if x = -1 then x else if M 22 x.toNatClampNeg = 0 then x else -1
/-- how many of the first are not met -/
def zc (M : Mem) : Nat → Nat
  | 0 => 0
  | j + 1 => zc M j + (if M 22 j = 0 then 1 else 0)
theorem zc_le (M : Mem) : ∀ j, zc M j ≤ j
  | 0 => Nat.le_refl 0
  | j + 1 => by
    have h := zc_le M j
    unfold zc
    split <;> omega
theorem up_at {M : Mem} {i k j : Nat} {v : Int32} : up M i k v i j = if j = k then v else M i j := by
  rw [up_eq]; rfl
theorem zc_hi (M : Mem) (q : Nat) : ∀ j, j ≤ q → zc (up M 22 q 1) j = zc M j
  | 0, _ => rfl
  | j + 1, h => by
    have h2 := zc_hi M q j (by omega)
    have e9 : up M 22 q 1 22 j = M 22 j := by rw [up_at, if_neg (by omega)]
    unfold zc
    rw [h2, e9]
theorem zc_lo (M : Mem) (q : Nat) (hq : M 22 q = 0) : ∀ j, q < j → zc (up M 22 q 1) j + 1 = zc M j
  | 0, h => absurd h (Nat.not_lt_zero q)
  | j + 1, h => by
    unfold zc
    rcases Nat.lt_or_ge q j with z | z
    · have h2 := zc_lo M q hq j z
      have e9 : up M 22 q 1 22 j = M 22 j := by rw [up_at, if_neg (by omega)]
      rw [e9]
      omega
    · have e : j = q := by omega
      subst e
      rw [zc_hi M j j (Nat.le_refl j), up_at, if_pos rfl, if_pos hq, if_neg (by decide)]
def lnS (M : Mem) (k : Nat) : Nat → Mem
  | 0 => M
  | i + 1 => up (up (lnS M k i) 26 4 (lnS M k i 26 4 + lnS M k i 20 (40 * k + i))) 20 (40 * k + i) 0
def lnG (M : Mem) (k : Nat) : Nat → Mem
  | 0 => M
  | g + 1 => up (lnG M k g) 21 (4 * k + g) 0
def lz (M : Mem) (k : Nat) : Mem := up (up (up M 14 k 0) 15 k 0) 16 k 0
def lnM (M : Mem) (k : Nat) : Mem := lz (lnG (lnS M k 40) k 4) k
def lhS (M : Mem) (k j : Nat) : Nat → Mem
  | 0 => M
  | i + 1 => up (up (lhS M k j i) 20 (40 * j + i) (lhS M k j i 20 (40 * j + i) + lhS M k j i 20 (40 * k + i))) 20 (40 * k + i) 0
def lhG (M : Mem) (k j : Nat) : Nat → Mem
  | 0 => M
  | g + 1 => up (up (lhG M k j g) 21 (4 * j + g) (lhG M k j g 21 (4 * j + g) + lhG M k j g 21 (4 * k + g))) 21 (4 * k + g) 0
def lh1 (M : Mem) (k j : Nat) : Mem := up M 14 j (M 14 j + M 14 k)
def lh2 (M : Mem) (k j : Nat) : Mem := up (up M 15 j (M 15 j + M 15 k)) 16 j (up M 15 j (M 15 j + M 15 k) 16 j + up M 15 j (M 15 j + M 15 k) 16 k)
def lh3 (M : Mem) (j : Nat) : Mem := up (up M 15 j (M 15 j + 0)) 16 j (up M 15 j (M 15 j + 0) 16 j + 0)
def lhM (M : Mem) (k j : Nat) : Mem := if M 25 2 = 0 then lz (lh2 (lh1 (lhG (lhS M k j 40) k j 4) k j) k j) k else lz (lh3 (lh1 (lhG (lhS M k j 40) k j 4) k j) j) k
def dmi (M : Mem) (k : Nat) : Mem := up (up (up (ml M 0) 10 k 0) 13 k 0) 11 k 0
def dmT (M : Mem) (k : Nat) : Mem × Int32 := hmS 10 (mtM (dmi M k) k 10) (dmi M k 19 k)
def dmH (M : Mem) (k : Nat) : Int32 := hmR (dmT M k).1 (dmT M k).2
def omdie (M : Mem) (k : Nat) : Out := if M 10 k = 0 then mo M 2 0 else if dmH M k = -1 then rI (dmH M k) (lnM (dmT M k).1 k) else rI (dmH M k) (lhM (dmT M k).1 k (dmH M k).toNatClampNeg)
theorem hmS_ok {n : Nat} (hn : n ≤ 10) (K : Nat → Int32) (hkin : ∀ j, j < n → kinOk n (K j)) : ∀ (f : Nat) (M : Mem) (x : Int32), M 19 = K → kinOk n x → kinOk n (hmS f M x).2
  | 0, _, _, _, hx => hx
  | f + 1, M, x, hM, hx => by
    rw [hmS_s]
    rcases hx with hx | ⟨j, hj, ej⟩
    · rw [if_pos hx]; exact Or.inl hx
    · subst ej
      rw [nI_clamp (by omega)]
      split
      · rename_i h; exact Or.inl h
      · split
        · split
          · exact hmS_ok hn K hkin f _ _ (by rw [up_ne (by decide)]; exact hM) (by rw [hM]; exact hkin j hj)
          · exact Or.inr ⟨j, hj, rfl⟩
        · exact Or.inr ⟨j, hj, rfl⟩
theorem hmR_ok {n : Nat} {M : Mem} {x : Int32} (hx : kinOk n x) : kinOk n (hmR M x) := by
  unfold hmR
  split
  · exact hx
  · split
    · exact hx
    · exact Or.inl rfl
theorem mt19 (M : Mem) (k : Nat) : ∀ j, mtM M k j 19 = M 19
  | 0 => rfl
  | j + 1 => by
    unfold mtM
    rw [up_ne (by decide)]
    exact mt19 M k j
theorem dmi19 (M : Mem) (k : Nat) : dmi M k 19 = M 19 := by
  unfold dmi
  rw [up_ne (by decide), up_ne (by decide), up_ne (by decide), ml_ne (by decide)]
theorem dmH_ok {n k : Nat} {M : Mem} (hn : n ≤ 10) (hk : k < n) (hkin : ∀ j, j < n → kinOk n (M 19 j)) : kinOk n (dmH M k) :=
  hmR_ok (hmS_ok hn (M 19) hkin 10 _ _ (by rw [mt19, dmi19]) (by rw [dmi19]; exact hkin k hk))
def psW (M : Mem) (k : Nat) : Int32 := ((M 13 k).toInt64 * (M 23 0).toInt64 / 10).toInt32
def psR (M : Mem) (k : Nat) : Int32 := M 16 k + (if M 11 k = 0 then 0 else M 23 1)
/-- what is due of a kind -/
def psD (M : Mem) (k : Nat) (rent : Int32) : Nat → Int32
  | 0 => 0
  | 1 => rent
  | 2 => M 23 2
  | 3 => if spM M = 0 then M 23 3 else 0
  | 4 => if spM M = 0 then M 23 4 else 0
  | _ => if spM M = 0 then M 15 k else 0
/-- one kind's turn: arrears, debts, what is left, what 3 to 5 took -/
def psX (due left : Int32) : Int32 := if left ≤ due then left else due
def psA (M : Mem) (k d : Nat) (t : Int32) : Mem := up M 16 k (M 16 k - (if d = 1 then t else 0))
def psB (M : Mem) (k d : Nat) (t : Int32) : Mem := up M 15 k (M 15 k - (if d = 5 then t else 0))
def psM (M : Mem) (k d : Nat) (rent left : Int32) : Mem := psB (psA M k d (psX (psD M k rent d) left)) k d (psX (psD M k rent d) left)
def psL (M : Mem) (k d : Nat) (rent left : Int32) : Int32 := left - psX (psD M k rent d) left
def psT (M : Mem) (k d : Nat) (rent left tk : Int32) : Int32 := tk + (if 2 < d then psX (psD M k rent d) left else 0)
/-- the reference's digit -/
def kdM (M : Mem) (pl : Int32) : Int32 := M 9 20 / pl - M 9 20 / pl / 10 * 10
def ps0 (M : Mem) (k : Nat) : Mem := up (up M 13 k 0) 16 k (psR (up M 13 k 0) k)
def dgN (x pl : Int32) : Nat := (x / pl - x / pl / 10 * 10).toNatClampNeg
/-- every digit is 0 to 5 -/
def edOk (x : Int32) : Prop := ∀ pl ∈ ([10000, 1000, 100, 10, 1] : List Int32), x / pl - x / pl / 10 * 10 = nI (dgN x pl) ∧ dgN x pl ≤ 5
theorem psM_9 {M : Mem} {k d : Nat} {r l : Int32} : psM M k d r l 9 = M 9 := by
  unfold psM psB psA
  rw [up_ne (by decide), up_ne (by decide)]
def psN (k : Nat) (rent : Int32) (S : Mem × Int32 × Int32) (d : Nat) : Mem × Int32 × Int32 := (psM S.1 k d rent S.2.1, psL S.1 k d rent S.2.1, psT S.1 k d rent S.2.1 S.2.2)
def psF (M : Mem) (k : Nat) : Mem × Int32 × Int32 := [dgN (M 9 20) 10000, dgN (M 9 20) 1000, dgN (M 9 20) 100, dgN (M 9 20) 10, dgN (M 9 20) 1].foldl (psN k (ps0 M k 16 k)) (ps0 M k, psW M k, 0)
def psH (N : Mem) (k : Nat) : Mem := up N 11 k (if N 11 k = 0 then 0 else if N 23 1 = 0 then 1 else if 3 * N 23 1 < N 16 k then 0 else 1)
def ps1 (N : Mem) (k : Nat) (l : Int32) : Mem := brkM N k (if N 25 0 = 0 then 0 else l)
def ps2 (N : Mem) (k : Nat) (t : Int32) : Mem := brkM N k (if N 25 1 = 0 then 0 else t)
def psE (M : Mem) (k : Nat) : Mem := ps2 (ps1 (psH (psF M k).1 k) k (psF M k).2.1) k (psF M k).2.2
def psV (M : Mem) (k : Nat) : Int32 := (psF M k).2.1
def pdC (N : Mem) (j : Nat) : Mem := up N 14 j (N 14 j + N 18 j)
def pdB (N : Mem) (j p : Nat) : Mem := up (up N 20 (40 * j + p) (N 20 (40 * j + p) + N 18 j)) 26 0 (up N 20 (40 * j + p) (N 20 (40 * j + p) + N 18 j) 26 0 + up N 20 (40 * j + p) (N 20 (40 * j + p) + N 18 j) 18 j)
def pdH (N : Mem) (j p : Nat) : Mem := if N 9 24 = 0 then pdB N j p else if N 25 0 = 0 then pdB N j p else pdC N j
def pdP (N : Mem) (j : Nat) : Mem := up (psE N j) 18 j (psV N j)
def pd1 (S : Mem × Int32) (j p : Nat) : Mem × Int32 := (pdH (pdP S.1 j) j p, S.2 + pdP S.1 j 18 j)
def pdS (M : Mem) (p : Nat) : Nat → Mem × Int32
  | 0 => (M, 0)
  | j + 1 => if (pdS M p j).1 10 j = 0 then pdS M p j else pd1 (pdS M p j) j p
theorem pdS_s (M : Mem) (p j : Nat) : pdS M p (j + 1) = if (pdS M p j).1 10 j = 0 then pdS M p j else pd1 (pdS M p j) j p := rfl
def xp1 (N : Mem) (q : Nat) : Mem := up (up N 26 3 (N 26 3 + N 20 q)) 20 q 0
def xpS (N : Mem) : Nat → Mem
  | 0 => N
  | q + 1 => if N 9 21 - 4 < nI (q % 40) then xpS N q else xp1 (xpS N q) q
theorem xpS_9 (N : Mem) : ∀ q, xpS N q 9 = N 9
  | 0 => rfl
  | q + 1 => by
    unfold xpS
    split
    · exact xpS_9 N q
    · unfold xp1
      rw [up_ne (by decide), up_ne (by decide)]
      exact xpS_9 N q
def pdZ (M : Mem) (n p : Nat) : Mem := xpS (pdS (ml M 0) p n).1 (40 * n)
def pdF (M : Mem) (n p : Nat) : Mem := up (pdZ M n p) 9 21 (pdZ M n p 9 21 + 1)
def ompayday (M : Mem) (n p : Nat) : Out := if 40 ≤ M 9 21 then mo M 1 0 else if M 9 27 = 0 then rI (pdS (ml M 0) p n).2 (pdF M n p) else mo M 1 0
theorem brkM_9 {M : Mem} {k s : Nat} {v : Int32} (h : s ≠ 25) : brkM M k v 9 s = M 9 s := by
  unfold brkM
  split
  · split
    · rfl
    · rw [up_ne (by decide), up_at, if_neg h]
  · rfl
theorem psF_9 {M : Mem} {k : Nat} : (psF M k).1 9 = M 9 := by
  have h : ∀ (ds : List Nat) (r : Int32) (S : Mem × Int32 × Int32), (ds.foldl (psN k r) S).1 9 = S.1 9 := by
    intro ds
    induction ds with
    | nil => intro r S; rfl
    | cons d ds ih => intro r S; rw [List.foldl_cons, ih]; exact (show psM S.1 k d r S.2.1 9 = S.1 9 from psM_9)
  unfold psF
  rw [h]
  show ps0 M k 9 = M 9
  unfold ps0
  rw [up_ne (by decide), up_ne (by decide)]
theorem psE_9 {M : Mem} {k s : Nat} (h : s ≠ 25) : psE M k 9 s = M 9 s := by
  unfold psE ps2 ps1
  rw [brkM_9 h, brkM_9 h]
  unfold psH
  rw [up_ne (by decide), psF_9]
theorem pdP_9 {M : Mem} {k s : Nat} (h : s ≠ 25) : pdP M k 9 s = M 9 s := by
  unfold pdP
  rw [up_ne (by decide), psE_9 h]
theorem pdH_9 {N : Mem} {j p : Nat} : pdH N j p 9 = N 9 := by
  have h : pdB N j p 9 = N 9 := by unfold pdB; rw [up_ne (by decide), up_ne (by decide)]
  unfold pdH
  split
  · exact h
  · split
    · exact h
    · unfold pdC; rw [up_ne (by decide)]
theorem pdS_9 {M : Mem} {p s : Nat} (h : s ≠ 25) : ∀ j, (pdS M p j).1 9 s = M 9 s
  | 0 => rfl
  | j + 1 => by
    rw [pdS_s]
    split
    · exact pdS_9 h j
    · show pdH (pdP (pdS M p j).1 j) j p 9 s = M 9 s
      rw [pdH_9, pdP_9 h]
      exact pdS_9 h j
def mmN (M : Mem) (q : Nat) : Mem := up (up (up (up (ml M 0) 10 q 1) 11 q 1) 19 q (-1)) 9 0 (nI (q + 1))
def ommin (M : Mem) (q : Nat) : Out := if q < 10 then rI (nI q) (mmN M q) else mo M 1 0
/-- the code of an outcome: 0, or the place of its exception -/
def cdo (ts : List String) (o : Out) : Int32 := match o.1 with
  | .inr _ => 0
  | .inl Ex => nI (ts.idxOf Ex + 1)
def Jn (J : Nat → Int64) (o : Out) : Nat → Int64 := match o.1 with
  | .inr (some (.int x)) => vp_updL J 0 x.toInt64
  | _ => J
def Jb (J : Nat → Int64) (o : Out) : Nat → Int64 := match o.1 with
  | .inr (some (.int x)) => vp_updL J 0 (if x = 0 then 0 else 1)
  | _ => J
/-- an outcome: an int, or one of these exceptions -/
def oki (ts : List String) (o : Out) : Prop := (∃ (x : Int32) (N : Mem), o = (.inr (some (.int x)), N)) ∨ ∃ (Ex : String) (N : Mem), Ex ∈ ts ∧ o = (.inl Ex, N)
def okv (ts : List String) (o : Out) : Prop := (∃ N : Mem, o = (.inr none, N)) ∨ ∃ (Ex : String) (N : Mem), Ex ∈ ts ∧ o = (.inl Ex, N)
def h0X2 : Nat → Int32 := fun k => if k = 1 then 10 else if k = 3 then 12345 else if k = 9 then 200 else if k = 10 then 20 else 0
def h0X3 : Nat → Int32 := fun k => if k = 18 then 10 else if k = 20 then 12345 else if k = 22 then 200 else if k = 23 then 20 else 0
def M00 : Mem := fun i => match i with
  | 0 => h0X2
  | 9 => h0X3
  | 2 => (upd (upd (upd (upd (upd (fun _ => 0) 0 10) 1 20) 2 0) 3 0) 4 0)
  | 4 => (upd (upd (upd (upd (fun _ => 0) 0 10) 1 10) 2 10) 3 10)
  | 5 => (upd (upd (upd (upd (fun _ => 0) 0 10) 1 10) 2 10) 3 10)
  | 23 => (upd (upd (fun _ => 0) 0 10) 1 20)
  | 24 => (upd (upd (upd (upd (upd (upd (upd (upd (fun _ => 0) 0 10) 1 10) 2 10) 3 10) 4 10) 5 10) 6 10) 7 10)
  | _ => fun _ => 0
def rho0 (e : Nat) (L : List Nat) : Nat → Nat := fun i => if i = 27 then e else L.getD i 0
