section MathD
theorem Iv.g0 {n c : Nat} {A : Mem} (I : Iv c n A) (hc : c < 512) : Iv (c + 1) n A := I.next hc
def omdock (x : Int32) (B : Mem) : Out := if x < 0 ∨ 50 < x then mo B 1 0 else rI (ml B 0 9 18) (up (ml B 0) 9 18 x)
def omlimit (x : Int32) (B : Mem) : Out := if x < 0 ∨ 1000 < x then mo B 1 0 else rI (ml B 0 9 22) (up (ml B 0) 9 22 x)
def omdisc (x : Int32) (B : Mem) : Out := if x < 0 ∨ 90 < x then mo B 1 0 else rI (ml B 0 9 23) (up (ml B 0) 9 23 x)
def omgive (x : Int32) (B : Mem) : Out := if x < 1 ∨ 1000 < x then mo B 1 0 else rI (up (ml B 0) 9 28 (ml B 0 9 28 + x) 9 28) (up (ml B 0) 9 28 (ml B 0 9 28 + x))
theorem s_dock {n c : Nat} (hc : c < 512) {x : Int32} : Sim n c [IA] (fun M => o_dock M x) (omdock x) := by
  intro P Q A B h I
  show Cl n c _ P Q (o_dock A x) (omdock x B)
  unfold o_dock omdock
  by_cases hx : x < 0 ∨ 50 < x
  · rw [if_pos hx, if_pos hx]; exact Cl.thr hc h I (by decide) (by decide)
  · rw [if_neg hx, if_neg hx]
    have h' := h.ml 0
    exact Cl.ok (h'.pw (pa0 (by decide)) rfl) ((I.next hc).glob (by decide) ((I.next hc).g.u0 1 x (h1 := fun _ => rng hx))) h'.d
theorem s_limit {n c : Nat} (hc : c < 512) {x : Int32} : Sim n c [IA] (fun M => o_limit M x) (omlimit x) := by
  intro P Q A B h I
  show Cl n c _ P Q (o_limit A x) (omlimit x B)
  unfold o_limit omlimit
  by_cases hx : x < 0 ∨ 1000 < x
  · rw [if_pos hx, if_pos hx]; exact Cl.thr hc h I (by decide) (by decide)
  · rw [if_neg hx, if_neg hx]
    have h' := h.ml 0
    exact Cl.ok (h'.pw (pa0 (by decide)) rfl) ((I.next hc).glob (by decide) ((I.next hc).g.u0 9 x (h9 := fun _ => rng hx))) h'.li
theorem s_disc {n c : Nat} (hc : c < 512) {x : Int32} : Sim n c [IA] (fun M => o_discount M x) (omdisc x) := by
  intro P Q A B h I
  show Cl n c _ P Q (o_discount A x) (omdisc x B)
  unfold o_discount omdisc
  by_cases hx : x < 0 ∨ 90 < x
  · rw [if_pos hx, if_pos hx]; exact Cl.thr hc h I (by decide) (by decide)
  · rw [if_neg hx, if_neg hx]
    have h' := h.ml 0
    exact Cl.ok (h'.pw (pa0 (by decide)) rfl) ((I.next hc).glob (by decide) ((I.next hc).g.u0 10 x (h10 := fun _ => rng hx))) h'.dc
theorem s_give {n c : Nat} (hc : c < 512) {x : Int32} : Sim n c [IA] (fun M => o_give M x) (omgive x) := by
  intro P Q A B h I
  show Cl n c _ P Q (o_give A x) (omgive x B)
  unfold o_give omgive
  by_cases hx : x < 1 ∨ 1000 < x
  · rw [if_pos hx, if_pos hx]; exact Cl.thr hc h I (by decide) (by decide)
  · rw [if_neg hx, if_neg hx]
    have h' := h.ml 0
    have r := rng hx
    have e1 : (1 : Int32).toInt = 1 := rfl
    have e2 : (1000 : Int32).toInt = 1000 := rfl
    have f := I.g.fu
    have e : (A 0 16 + x).toInt = (A 0 16).toInt + x.toInt := ia (by omega) (by omega)
    refine Cl.ok (h'.pw (pa0 (by decide)) (by rw [h'.fu])) ((I.next hc).glob (by decide) ((I.next hc).g.u0 16 _ (h16 := fun _ => by rw [e]; omega))) ?_
    rw [up_same, up_same, h'.fu]
theorem s_check {n c : Nat} (hc : c < 512) {x : Int32} (hx : isB x) : Sim n c [] (fun M => rI (M 0 2) (up M 0 2 x)) (fun B => rI (ml B 0 9 19) (up (ml B 0) 9 19 x)) := by
  intro P Q A B h I
  have h' := h.ml 0
  exact Cl.ok (h'.pw (pa0 (by decide)) rfl) ((I.next hc).glob (by decide) ((I.next hc).g.u0 2 x (h2 := fun _ => hx))) h'.ck
theorem s_obey {n c : Nat} (hc : c < 512) {x : Int32} (hx : isB x) : Sim n c [] (fun M => rI (M 0 12) (up M 0 12 x)) (fun B => rI (ml B 0 9 24) (up (ml B 0) 9 24 x)) := by
  intro P Q A B h I
  have h' := h.ml 0
  exact Cl.ok (h'.pw (pa0 (by decide)) rfl) ((I.next hc).glob (by decide) ((I.next hc).g.u0 12 x (h12 := fun _ => hx))) h'.ob
theorem s_breaches {n c : Nat} (hc : c < 512) : Sim n c [] (fun M => rI (M 0 13) M) (fun B => rI (ml B 0 9 25) (ml B 0)) := by
  intro P Q A B h I
  exact Cl.ok (h.ml 0) (I.next hc) (h.ml 0).br
theorem s_thr {n c : Nat} (hc : c < 512) {ts : List String} {Ex : String} {code : Int32} (h1 : Ex ∈ ts) (h2 : code = nI (ts.idxOf Ex + 1)) : Sim n c ts (fun M => rX Ex M) (fun B => mo B code 0) := by
  intro P Q A B h I
  exact Cl.thr hc h I h1 h2
theorem s_hew {n c : Nat} (hc : c < 512) {k : Nat} (hk : k < n) {w : Int32} : Sim n c [IX, IA, IS] (fun M => o_hew M k w) (fun B => omhew B k w) := by
  intro P Q A B h I
  have h' := h.ml 0
  show Cl n c _ P Q (o_hew A k w) (omhew B k w)
  unfold o_hew omhew
  rw [h.al hk, h.st, h.cl]
  by_cases hx : w < 1 ∨ 1000 < w
  · rw [if_pos hx, if_pos hx]; exact Cl.thr hc h I (by decide) (by decide)
  rw [if_neg hx, if_neg hx]
  by_cases h1 : A (mO k) 0 = 0
  · rw [if_pos h1, if_pos h1]; exact Cl.thr hc h I (by decide) (by decide)
  rw [if_neg h1, if_neg h1]
  by_cases h2 : A 0 14 = 0
  case neg => rw [if_neg h2, if_neg h2]; exact Cl.thr hc h I (by decide) (by decide)
  rw [if_pos h2, if_pos h2]
  by_cases h3 : A 0 15 = 0
  case neg => rw [if_neg h3, if_neg h3]; exact Cl.thr hc h I (by decide) (by decide)
  rw [if_pos h3, if_pos h3]
  have r := rng hx
  have e1 : (1 : Int32).toInt = 1 := rfl
  have e2 : (1000 : Int32).toInt = 1000 := rfl
  have e3 : (100 : Int32).toInt = 100 := rfl
  have eh : omhN (ml B 0) w = hewn A w := by unfold omhN hewn; rw [h'.ck, h'.d]
  have d := I.g.d
  have hb : 0 ≤ (hewn A w).toInt ∧ (hewn A w).toInt ≤ 1000 := by
    unfold hewn
    split
    · have q1 : (100 - A 0 1).toInt = 100 - (A 0 1).toInt := is (by omega) (by omega)
      have q4 : 0 ≤ w.toInt * (100 - (A 0 1).toInt) := Int.mul_nonneg (by omega) (by omega)
      have q5 : w.toInt * (100 - (A 0 1).toInt) ≤ w.toInt * 100 := Int.mul_le_mul_of_nonneg_left (by omega) (by omega)
      have q2 : (w * (100 - A 0 1)).toInt = w.toInt * (100 - (A 0 1).toInt) := by
        rw [← q1]; exact im (by rw [q1]; omega) (by rw [q1]; omega)
      rw [idv (by rw [q2]; exact q4) (by decide), q2, e3]
      omega
    · omega
  have m := I.m.mi k hk
  have b := m.bd
  have bb := I.msle hk
  have e : (A (mO k) 4 + hewn A w).toInt = (A (mO k) 4).toInt + (hewn A w).toInt := ia (by have := m.p4; omega) (by omega)
  refine Cl.ok (h'.pw (paO hk (by decide)) (by rw [h'.co hk, eh])) (I.mo (Or.inr rfl) (by omega) (I.m.o hk 4 _ (m.o 4 _ (h4 := fun _ _ => by rw [e]; have := m.p4; omega)) (by rw [ms4, e]; omega))) ?_
  rw [up_same, up_same, h'.co hk, eh]
theorem s_kin {n c : Nat} (hc : c < 512) {k : Nat} (hk : k < n) {y : Int32} : Sim n c [IX, IA] (fun M => o_kin n M k y) (fun B => omkin n B k y) := by
  intro P Q A B h I
  have h' := h.ml 0
  have n10 := I.n10
  show Cl n c _ P Q (o_kin n A k y) (omkin n B k y)
  unfold o_kin omkin
  have fin : kinOk n y → Cl n c [IX, IA] P Q (rI (A (mO k) 3) (up A (mO k) 3 y)) (rI (ml B 0 19 k) (up (ml B 0) 19 k y)) := fun q =>
    Cl.ok (h'.pw (paO hk (by decide)) rfl) ((I.next hc).mo (Or.inl rfl) (by omega) ((I.next hc).m.o hk 3 _ ((I.m.mi k hk).o 3 _ (h3 := fun _ => q)) (by rw [msX _ _ 3 _ (by decide)]; omega))) (h'.ki hk)
  by_cases h1 : y = -1
  · rw [if_pos h1, if_pos h1]
    by_cases h2 : nI k = y
    · rw [if_pos h2, if_pos h2]; exact Cl.thr hc h I (by decide) (by decide)
    · rw [if_neg h2, if_neg h2]; exact fin (Or.inl h1)
  · rw [if_neg h1, if_neg h1]
    by_cases h2 : y < 0 ∨ nI n ≤ y
    · rw [if_pos h2, if_pos h2]; exact Cl.thr hc h I (by decide) (by decide)
    · rw [if_neg h2, if_neg h2]
      by_cases h3 : nI k = y
      · rw [if_pos h3, if_pos h3]; exact Cl.thr hc h I (by decide) (by decide)
      · rw [if_neg h3, if_neg h3]
        refine fin (Or.inr ⟨y.toInt.toNat, ?_, ?_⟩)
        · rw [lti, lei, nI_toInt (by omega)] at h2
          have : (0 : Int32).toInt = 0 := rfl
          omega
        · rw [lti, lei, nI_toInt (by omega)] at h2
          have : (0 : Int32).toInt = 0 := rfl
          rw [eqi, nI_toInt (by omega)]; omega
theorem s_tell {n c : Nat} (hc : c < 512) {j : Nat} (hj : j < 5) {y : Int32} : Sim n c [IA] (fun M => o_tell M j y) (fun B => omtell B j y) := by
  intro P Q A B h I
  have h' := h.ml 0
  show Cl n c _ P Q (o_tell A j y) (omtell B j y)
  unfold o_tell omtell
  have e0 : (0 : Int32).toInt = 0 := rfl
  have e1 : (1 : Int32).toInt = 1 := rfl
  have e5 : (50 : Int32).toInt = 50 := rfl
  have eh : (100 : Int32).toInt = 100 := rfl
  by_cases h1 : nI j = 0
  · rw [if_pos h1, if_pos h1]
    by_cases h2 : y < 1 ∨ 50 < y
    · rw [if_pos h2, if_pos h2]; exact Cl.thr hc h I (by decide) (by decide)
    · rw [if_neg h2, if_neg h2]
      have r := rng h2
      exact Cl.ok (h'.pw (pa2 hj) rfl) ((I.next hc).glob (by decide) ((I.next hc).g.ur 2 j y (by decide) (h2 := fun _ _ => by omega) (h20 := fun _ _ => by omega))) (h'.te hj)
  · rw [if_neg h1, if_neg h1]
    by_cases h2 : y < 0 ∨ 100 < y
    · rw [if_pos h2, if_pos h2]; exact Cl.thr hc h I (by decide) (by decide)
    · rw [if_neg h2, if_neg h2]
      have r := rng h2
      have : ¬ j = 0 := fun q => h1 (by rw [q]; rfl)
      exact Cl.ok (h'.pw (pa2 hj) rfl) ((I.next hc).glob (by decide) ((I.next hc).g.ur 2 j y (by decide) (h2 := fun _ _ => by omega) (h20 := fun _ q => absurd q this))) (h'.te hj)
theorem s_price {n c : Nat} (hc : c < 512) {g : Nat} (hg : g < 4) {y z : Int32} : Sim n c [IX, IA] (fun M => o_price M g y z) (fun B => omprice B g y z) := by
  intro P Q A B h I
  have h' := h.ml 0
  show Cl n c _ P Q (o_price A g y z) (omprice B g y z)
  unfold o_price omprice
  have e1 : (1 : Int32).toInt = 1 := rfl
  have eh : (100 : Int32).toInt = 100 := rfl
  by_cases h2 : y < 1 ∨ 100 < y
  · rw [if_pos h2, if_pos h2]; exact Cl.thr hc h I (by decide) (by decide)
  · rw [if_neg h2, if_neg h2]
    have r := rng h2
    by_cases h1 : z = 0
    · rw [if_pos h1, if_pos h1]
      exact Cl.ok (h'.pw (pa4 hg) rfl) ((I.next hc).glob (by decide) ((I.next hc).g.ur 4 g y (by decide) (h4 := fun _ => by omega))) (h'.p4 hg)
    · rw [if_neg h1, if_neg h1]
      exact Cl.ok (h'.pw (pa5 hg) rfl) ((I.next hc).glob (by decide) ((I.next hc).g.ur 5 g y (by decide) (h5 := fun _ => by omega))) (h'.p5 hg)
theorem s_law {n c : Nat} (hc : c < 512) {j : Nat} (hj : j < 3) {z : Int32} (hz : isB z) : Sim n c [IX] (fun M => rI (M 6 j) (up M 6 j z)) (fun B => rI (ml B 0 25 j) (up (ml B 0) 25 j z)) := by
  intro P Q A B h I
  have h' := h.ml 0
  exact Cl.ok (h'.pw (pa6 hj) rfl) ((I.next hc).glob (by decide) ((I.next hc).g.ur 6 j z (by decide) (h6 := fun _ => hz))) (h'.la hj)
theorem s_vote {n c : Nat} (hc : c < 512) {k : Nat} (hk : k < n) {z : Int32} (hz : isB z) : Sim n c [IX] (fun M => rI (M (mO k) 2) (up M (mO k) 2 z)) (fun B => rI (ml B 0 12 k) (up (ml B 0) 12 k z)) := by
  intro P Q A B h I
  have h' := h.ml 0
  exact Cl.ok (h'.pw (paO hk (by decide)) rfl) ((I.next hc).mo (Or.inl rfl) (by omega) ((I.next hc).m.o hk 2 _ ((I.m.mi k hk).o 2 _ (h0 := fun _ => hz)) (by rw [msX _ _ 2 _ (by decide)]; omega))) (h'.vo hk)
theorem s_has {n c : Nat} (hc : c < 512) {k g : Nat} (hk : k < n) (hg : g < 4) : Sim n c [IX] (fun M => rI (M (mG k) g) M) (fun B => rI (ml B 0 21 (4 * k + g)) (ml B 0)) := by
  intro P Q A B h I
  exact Cl.ok (h.ml 0) (I.next hc) ((h.ml 0).go hk hg)
theorem s_scrip {n c : Nat} (hc : c < 512) {k j : Nat} (hk : k < n) (hj : j < 40) : Sim n c [IX, IA] (fun M => rI (M (mS k) j) M) (fun B => rI (ml B 0 20 (40 * k + j)) (ml B 0)) := by
  intro P Q A B h I
  exact Cl.ok (h.ml 0) (I.next hc) ((h.ml 0).sc hk hj)
theorem s_books {n c : Nat} (hc : c < 512) {j : Nat} (hj : j < 6) : Sim n c [IX] (fun M => rI (M 7 j) M) (fun B => rI (ml B 0 26 j) (ml B 0)) := by
  intro P Q A B h I
  exact Cl.ok (h.ml 0) (I.next hc) ((h.ml 0).bo hj)
theorem smM_eq {n : Nat} {P Q : Mem} {z : Int32} {A B : Mem} (h : RR n P Q z A B) {k : Nat} (hk : k < n) : ∀ m, m ≤ 40 → smM B k m = sm (A (mS k)) m := by
  intro m
  induction m with
  | zero => intro _; rfl
  | succ m ih => intro hm; unfold smM sm; rw [ih (by omega), h.sc hk (by omega)]
theorem toI64 (a : Int32) : a.toInt64.toInt = a.toInt := Int32.toInt_toInt64 a
theorem ldiv {a b d : Int32} (h1 : 0 ≤ a.toInt * b.toInt) (h2 : a.toInt * b.toInt < 2147483648) (hd : 0 < d.toInt) : (a.toInt64 * b.toInt64 / d.toInt64).toInt32 = a * b / d := by
  have e1 : (a * b).toInt = a.toInt * b.toInt := im (by omega) h2
  have e2 : (a.toInt64 * b.toInt64).toInt = a.toInt * b.toInt := by
    rw [Int64.toInt_mul, toI64, toI64, Int.bmod_def]; split <;> omega
  have q0 : 0 ≤ a.toInt * b.toInt / d.toInt := Int.ediv_nonneg h1 (by omega)
  have q1 : a.toInt * b.toInt / d.toInt ≤ a.toInt * b.toInt := Int.ediv_le_self _ h1
  have e3 : (a.toInt64 * b.toInt64 / d.toInt64).toInt = a.toInt * b.toInt / d.toInt := by
    rw [Int64.toInt_div, e2, toI64, Int.tdiv_eq_ediv_of_nonneg h1, Int.bmod_def]; split <;> omega
  rw [eqi, idv (by omega) hd, e1, Int64.toInt_toInt32, e3]
  exact bmI (by omega) (by omega)
theorem raf_eq {n c : Nat} {P Q : Mem} {z : Int32} {A B : Mem} (h : RR n P Q z A B) (I : Iv c n A) {k g : Nat} (hk : k < n) (hg : g < 4) : raF B k g = sPrice A k g := by
  unfold raF sPrice
  rw [h.p4 hg, h.de hk]
  have q := I.g.q4 g hg
  have b := (I.m.mi k hk).bd
  have bb := I.msle hk
  have p6 := (I.m.mi k hk).p6
  have m1 : 0 ≤ (A 4 g).toInt * (A (mO k) 6).toInt := Int.mul_nonneg (by omega) p6
  have m2 : (A 4 g).toInt * (A (mO k) 6).toInt ≤ 100 * (A (mO k) 6).toInt := Int.mul_le_mul_of_nonneg_right (by omega) p6
  have := ldiv (d := 200) m1 (by omega) (by decide)
  rw [← this]; rfl
theorem spr_bd {n c : Nat} {A : Mem} (I : Iv c n A) {k g : Nat} (hk : k < n) (hg : g < 4) : 1 ≤ (sPrice A k g).toInt ∧ (sPrice A k g).toInt ≤ 1792100 := by
  unfold sPrice
  have q := I.g.q4 g hg
  have b := (I.m.mi k hk).bd
  have bb := I.msle hk
  have p6 := (I.m.mi k hk).p6
  have m1 : 0 ≤ (A 4 g).toInt * (A (mO k) 6).toInt := Int.mul_nonneg (by omega) p6
  have m2 : (A 4 g).toInt * (A (mO k) 6).toInt ≤ 100 * (A (mO k) 6).toInt := Int.mul_le_mul_of_nonneg_right (by omega) p6
  have e1 : (A 4 g * A (mO k) 6).toInt = (A 4 g).toInt * (A (mO k) 6).toInt := im (by omega) (by omega)
  have e2 : (A 4 g * A (mO k) 6 / 200).toInt = (A 4 g).toInt * (A (mO k) 6).toInt / 200 := by rw [idv (by omega) (by decide), e1]; rfl
  rw [ia (by rw [e2]; omega) (by rw [e2]; omega), e2]; omega
theorem s_raised {n c : Nat} (hc : c < 512) {k g : Nat} (hk : k < n) (hg : g < 4) : Sim n c [IX] (fun M => rI (sPrice M k g) M) (fun B => rI (raF (ml B 0) k g) (ml B 0)) := by
  intro P Q A B h I
  exact Cl.ok (h.ml 0) (I.next hc) (raf_eq (h.ml 0) I hk hg)
theorem s_anew {n c : Nat} (hc : c < 512) {k : Nat} (hk : k < n) : Sim n c [IX] (fun M => rI (M (mO k) 12 - M (mO k) 13) M) (fun B => rI (smM (ml B 0) k 40) (ml B 0)) := by
  intro P Q A B h I
  exact Cl.ok (h.ml 0) (I.next hc) (by rw [smM_eq (h.ml 0) hk 40 (Nat.le_refl _), (I.m.mi k hk).cw])
theorem s_ab {n c : Nat} (hc : c < 512) {k j : Nat} (hk : k < n) (hj : j < 10) : Sim n c [IX, IA] (fun M => rI (o_ab M k j) M) (fun B => rI (omab (ml B 0) k j) (ml B 0)) := by
  intro P Q A B h I
  have h' := h.ml 0
  refine Cl.ok h' (I.next hc) ?_
  match j, hj with
  | 0, _ => show (if ml B 0 10 k = 0 then (0 : Int32) else 1) = if A (mO k) 0 = 0 then 0 else 1; rw [h'.al hk]
  | 1, _ => exact h'.co hk
  | 2, _ => exact h'.cn hk
  | 3, _ => exact smM_eq h' hk 40 (Nat.le_refl _)
  | 4, _ => exact h'.de hk
  | 5, _ => exact h'.ar hk
  | 6, _ => show (if ml B 0 11 k = 0 then (0 : Int32) else 1) = if A (mO k) 1 = 0 then 0 else 1; rw [h'.ho hk]
  | 7, _ => exact h'.ow hk
  | 8, _ => exact h'.wa hk
  | 9, _ => exact h'.ki hk
theorem bk_eq {n c : Nat} {P Q : Mem} {z : Int32} {A B : Mem} (h : RR n P Q z A B) (I : Iv c n A) {k : Nat} (hk : k < n) : ∀ m, m ≤ 4 → bkM B k m = bask A k m ∧ (m : Int) ≤ (bask A k m).toInt ∧ (bask A k m).toInt ≤ 1792100 * m := by
  intro m
  induction m with
  | zero => intro _; exact ⟨rfl, Int.le_refl _, Int.le_refl _⟩
  | succ m ih =>
    intro hm
    obtain ⟨a1, a2, a3⟩ := ih (by omega)
    have s := spr_bd I hk (g := m) (by omega)
    unfold bkM bask
    rw [a1, raf_eq h I hk (by omega)]
    have := ia (a := bask A k m) (b := sPrice A k m) (by omega) (by omega)
    refine ⟨rfl, ?_, ?_⟩ <;> rw [this] <;> omega
theorem bk_ne {n c : Nat} {P Q : Mem} {z : Int32} {A B : Mem} (h : RR n P Q z A B) (I : Iv c n A) {k : Nat} (hk : k < n) : ¬ bkM B k 4 = 0 := by
  obtain ⟨a1, a2, a3⟩ := bk_eq h I hk 4 (Nat.le_refl _)
  rw [a1]; intro q; rw [q] at a2; exact absurd a2 (by decide)
theorem lead_eq {n : Nat} {P Q : Mem} {z : Int32} {A B : Mem} (h : RR n P Q z A B) : ∀ m, m ≤ n → leadM B m = lead A m := by
  intro m
  induction m with
  | zero => intro _; rfl
  | succ m ih =>
    intro hm
    unfold leadM lead
    rw [ih (by omega), h.al (by omega), h.vo (by omega)]
    split
    · simp
    · rfl
theorem s_bask {n c : Nat} (hc : c < 512) {k : Nat} (hk : k < n) : Sim n c [IX] (fun M => rI (o_bask M k) M) (fun B => rI (ml B 0 18 k / bkM (ml B 0) k 4) (ml B 0)) := by
  intro P Q A B h I
  have h' := h.ml 0
  obtain ⟨a1, a2, a3⟩ := bk_eq h' I hk 4 (Nat.le_refl _)
  refine Cl.ok h' (I.next hc) ?_
  unfold o_bask
  rw [if_neg (by rw [lei]; have : (0 : Int32).toInt = 0 := rfl; omega), a1, h'.wa hk]
theorem s_strike {n c : Nat} (hc : c < 512) : Sim n c [IS] (fun M => o_strike M n) (fun B => omstrike B n) := by
  intro P Q A B h I
  have h' := h.ml 0
  show Cl n c _ P Q (o_strike A n) (omstrike B n)
  unfold o_strike omstrike o_can
  rw [h.cl, h.st, lead_eq h n (Nat.le_refl _)]
  have fin : Cl n c [IS] P Q (rI (strM A 0 14) (strM A)) (rI (stM B 9 26) (stM B)) := by
    have e : stM B = up (ml B 0) 9 26 (if ml B 0 9 26 = 0 then 1 else 0) := rfl
    unfold strM
    rw [e, h'.st]
    exact Cl.ok (h'.pw (pa0 (by decide)) rfl) ((I.next hc).glob (by decide) ((I.next hc).g.u0 14 _ (h14 := fun _ => by split <;> first | exact Or.inl rfl | exact Or.inr rfl))) (by rw [up_same, up_same])
  by_cases h1 : A 0 15 = 0
  case neg => rw [if_neg h1, if_neg h1]; exact Cl.thr hc h I (by decide) (by decide)
  rw [if_pos h1, if_pos h1]
  by_cases h2 : A 0 14 = 0
  case neg => rw [if_neg h2, if_neg h2]; exact fin
  rw [if_pos h2, if_pos h2]
  by_cases h3 : lead A n ≤ 0
  · rw [if_pos h3, if_pos h3, if_pos rfl]; exact Cl.thr hc h I (by decide) (by decide)
  · rw [if_neg h3, if_neg h3, if_neg (by decide)]; exact fin
def ClV (n c : Nat) (ts : List String) (P Q : Mem) (o m : Out) : Prop := ∃ M2 : Mem, m = (.inr none, M2) ∧ okv ts o ∧ M2 9 29 = cdo ts o ∧ RR n P Q (M2 9 29) o.2 M2 ∧ Iv (c + 1) n o.2
def SimV (n c : Nat) (ts : List String) (oc om : Mem → Out) : Prop := ∀ (P Q A B : Mem), RR n P Q (B 9 29) A B → Iv c n A → ClV n c ts P Q (oc A) (om B)
theorem SimV.step {n c : Nat} {ts : List String} {oc om : Mem → Out} (h : SimV n c ts oc om) {M : Mem} (s : SS c n M) : RR n M (oc M).2 ((oc M).2 9 29) M (oc M).2 ∧ ∃ M2 : Mem, om (oc M).2 = (.inr none, M2) ∧ okv ts (oc M) ∧ M2 9 29 = cdo ts (oc M) ∧ SS (c + 1) n M2 := by
  obtain ⟨hr, hi⟩ := s
  obtain ⟨M0, -, -, -, h0, -⟩ := h _ _ _ _ hr hi
  have e := h0.fa
  have r : RR n M (oc M).2 ((oc M).2 9 29) M (oc M).2 := by
    refine ⟨fun i k i' k' p => ?_, fun i _ k => rfl, fun i _ k => rfl, ?_, fun i k p => ?_, rfl⟩
    · rw [e _ p.rows.2.1]; exact hr.pr _ _ _ _ p
    · rw [e _ (by unfold mdr; omega)]; exact hr.nn
    · rw [e _ (by unfold Frz at p; obtain ⟨j, hj, q⟩ := p; unfold mdr; omega)]; exact hr.fz _ _ p
  obtain ⟨M2, a1, a2, a3, a5, a6⟩ := h _ _ _ _ r hi
  have f : ∀ i, ¬ mdr i → M2 i = (oc M).2 i := fun i hi => funext fun k => a5.fb i hi k
  exact ⟨r, M2, a1, a2, a3, ⟨fun i k i' k' p => by rw [a5.pr _ _ _ _ p, f _ p.rows.1], fun _ _ _ => rfl, fun _ _ _ => rfl, a5.nn, a5.fz, rfl⟩, a6.congr f⟩
theorem ClV.thr {n c : Nat} {ts : List String} {P Q : Mem} {Ex : String} {code z : Int32} {A B : Mem} (hc : c < 512) (h : RR n P Q z A B) (I : Iv c n A) (h1 : Ex ∈ ts) (h2 : code = nI (ts.idxOf Ex + 1)) : ClV n c ts P Q (rX Ex A) (.inr none, ml B code) :=
  ⟨up B 9 29 code, rfl, Or.inr ⟨Ex, A, h1, rfl⟩, by rw [up_same, h2]; rfl, (by rw [up_same]; exact h.ml code), I.next hc⟩
theorem s_house {n c : Nat} (hc : c < 512) {k : Nat} (hk : k < n) : SimV n c [IX, IS] (fun M => o_house M k) (fun B => omhouse B k) := by
  intro P Q A B h I
  have h' := h.ml 0
  show ClV n c _ P Q (o_house A k) (omhouse B k)
  unfold o_house omhouse
  rw [h.al hk, h.ho hk, h.ar hk]
  by_cases h1 : A (mO k) 0 = 0
  · rw [if_pos h1, if_pos h1]; exact ClV.thr hc h I (by decide) (by decide)
  rw [if_neg h1, if_neg h1]
  by_cases h2 : A (mO k) 1 = 0
  case neg => rw [if_neg h2, if_neg h2]; exact ClV.thr hc h I (by decide) (by decide)
  rw [if_pos h2, if_pos h2]
  have e0 : (0 : Int32).toInt = 0 := rfl
  have p7 := (I.m.mi k hk).p7
  by_cases h3 : A (mO k) 7 = 0
  · rw [if_pos h3, if_pos (by rw [lei, h3]; exact Int.le_refl _)]
    have h2' := h'.pw (i := mO k) (k := 1) (i' := 11) (k' := k) (paO hk (by decide)) (v := 1) (v' := 1) rfl
    exact ⟨_, rfl, Or.inl ⟨_, rfl⟩, h2'.cd, (by rw [h2'.cd]; exact h2'), (I.next hc).mo (Or.inl rfl) (by omega) ((I.next hc).m.o hk 1 _ ((I.m.mi k hk).o 1 _ (h0 := fun _ => Or.inr rfl)) (by rw [msX _ _ 1 _ (by decide)]; omega))⟩
  · rw [if_neg h3, if_neg (by rw [lei]; intro q; exact h3 (by rw [eqi]; omega))]; exact ClV.thr hc h I (by decide) (by decide)
end MathD
section MathE
theorem mn_eq (x y : Int32) : mn x y = mn2 x y := by
  unfold mn mn2
  by_cases h : y < x
  · rw [if_pos h, if_pos (by rw [lti] at h; rw [lei]; omega)]
  · rw [if_neg h]
    by_cases g : y ≤ x
    · rw [if_pos g]; rw [lti] at h; rw [lei] at g; rw [eqi]; omega
    · rw [if_neg g]
theorem mnI (x y : Int32) : (mn x y).toInt = if y.toInt < x.toInt then y.toInt else x.toInt := by
  unfold mn
  by_cases h : y < x
  · rw [if_pos h, if_pos (lti.mp h)]
  · rw [if_neg h, if_neg (fun q => h (lti.mpr q))]
theorem lose_R {n : Nat} {P Q : Mem} {z : Int32} {A B : Mem} (h : RR n P Q z A B) {k i : Nat} (hk : k < n) (hi : i < 40) (w v : Int32) (e : v = A (mS k) i - mn (A (mS k) i) w) : RR n P Q z (lose A k i w) (up B 20 (40 * k + i) v) :=
  (h.pw (paS hk hi) e).o13
theorem llow_R {n : Nat} {P Q : Mem} {z : Int32} {A B : Mem} (h : RR n P Q z A B) {k : Nat} (hk : k < n) (w : Int32) : ∀ m, m ≤ 40 → RR n P Q z (llow A k w m).1 (tkS B k w m).1 ∧ (tkS B k w m).2 = w - (llow A k w m).2 := by
  intro m
  induction m with
  | zero => intro _; exact ⟨h, by show w = w - 0; grind⟩
  | succ m ih =>
    intro hm
    obtain ⟨h1, h2⟩ := ih (by omega)
    unfold llow tkS
    simp only
    rw [h2, h1.sc hk (by omega), ← mn_eq]
    exact ⟨lose_R h1 hk (by omega) _ _ rfl, by grind⟩
abbrev LL (A A' : Mem) (k : Nat) (w t : Int32) (m : Nat) : Prop := (∀ i, ¬ i = mS k → ¬ i = mO k → A' i = A i) ∧ (∀ s, ¬ s = 13 → A' (mO k) s = A (mO k) s) ∧ (∀ i, i < 40 → 0 ≤ (A' (mS k) i).toInt) ∧ (∀ i, m ≤ i → A' (mS k) i = A (mS k) i) ∧ (si (A' (mS k)) 40 = si (A (mS k)) 40 - t.toInt) ∧ (A' (mO k) 12 - A' (mO k) 13 = sm (A' (mS k)) 40) ∧ (t.toInt = min w.toInt (si (A (mS k)) m))
theorem LL.oth {A A' : Mem} {k : Nat} {w t : Int32} {m : Nat} (h : LL A A' k w t m) : ∀ i, ¬ i = mS k → ¬ i = mO k → A' i = A i := h.1
theorem LL.o {A A' : Mem} {k : Nat} {w t : Int32} {m : Nat} (h : LL A A' k w t m) : ∀ s, ¬ s = 13 → A' (mO k) s = A (mO k) s := h.2.1
theorem LL.ps {A A' : Mem} {k : Nat} {w t : Int32} {m : Nat} (h : LL A A' k w t m) : ∀ i, i < 40 → 0 ≤ (A' (mS k) i).toInt := h.2.2.1
theorem LL.hi {A A' : Mem} {k : Nat} {w t : Int32} {m : Nat} (h : LL A A' k w t m) : ∀ i, m ≤ i → A' (mS k) i = A (mS k) i := h.2.2.2.1
theorem LL.sS {A A' : Mem} {k : Nat} {w t : Int32} {m : Nat} (h : LL A A' k w t m) : si (A' (mS k)) 40 = si (A (mS k)) 40 - t.toInt := h.2.2.2.2.1
theorem LL.cw {A A' : Mem} {k : Nat} {w t : Int32} {m : Nat} (h : LL A A' k w t m) : A' (mO k) 12 - A' (mO k) 13 = sm (A' (mS k)) 40 := h.2.2.2.2.2.1
theorem LL.t {A A' : Mem} {k : Nat} {w t : Int32} {m : Nat} (h : LL A A' k w t m) : t.toInt = min w.toInt (si (A (mS k)) m) := h.2.2.2.2.2.2
theorem lose_oth {A : Mem} {k i : Nat} {w : Int32} {a : Nat} (h1 : ¬ a = mS k) (h2 : ¬ a = mO k) : lose A k i w a = A a := by
  unfold lose; rw [up_row h2, up_row h1]
theorem lose_S (A : Mem) (k i : Nat) (w : Int32) : lose A k i w (mS k) = upd (A (mS k)) i (A (mS k) i - mn (A (mS k) i) w) := by
  unfold lose; rw [up_row (by unfold mO mS; omega), up_own]
theorem lose_O (A : Mem) (k i : Nat) (w : Int32) : lose A k i w (mO k) = upd (A (mO k)) 13 (A (mO k) 13 + mn (A (mS k) i) w) := by
  unfold lose; rw [up_own, up_row (by unfold mO mS; omega)]
theorem llow_L {n : Nat} {A : Mem} {k : Nat} (hm : MI n (A (mO k)) (A (mS k))) {w : Int32} (hw : 0 ≤ w.toInt) : ∀ m, m ≤ 40 → LL A (llow A k w m).1 k w (llow A k w m).2 m := by
  intro m
  induction m with
  | zero =>
    intro _
    refine ⟨fun _ _ _ => rfl, fun _ _ => rfl, hm.ps, fun _ _ => rfl, ?_, hm.cw, ?_⟩
    · show si (A (mS k)) 40 = si (A (mS k)) 40 - (0 : Int32).toInt
      have : (0 : Int32).toInt = 0 := rfl
      omega
    · show (0 : Int32).toInt = min w.toInt 0
      have : (0 : Int32).toInt = 0 := rfl
      omega
  | succ m ih =>
    intro hm'
    have L := ih (by omega)
    unfold llow
    simp only
    generalize hA : (llow A k w m).1 = A1 at L ⊢
    generalize ht : (llow A k w m).2 = t at L ⊢
    have x0 := L.ps m (by omega)
    have xe := L.hi m (Nat.le_refl _)
    have S0 := si_nn (f := A (mS k)) (m := m) (fun i hi => hm.ps i (by omega))
    have lt := L.t
    have wb := ib w
    have xb := ib (A1 (mS k) m)
    have y1 : (w - t).toInt = w.toInt - t.toInt := is (by omega) (by omega)
    have mI := mnI (A1 (mS k) m) (w - t)
    have t1 : (t + mn (A1 (mS k) m) (w - t)).toInt = t.toInt + (mn (A1 (mS k) m) (w - t)).toInt := ia (by rw [mI]; split <;> omega) (by rw [mI]; split <;> omega)
    have c1 : (A1 (mS k) m - mn (A1 (mS k) m) (w - t)).toInt = (A1 (mS k) m).toInt - (mn (A1 (mS k) m) (w - t)).toInt := is (by rw [mI]; split <;> omega) (by rw [mI]; split <;> omega)
    refine ⟨fun i h1 h2 => by rw [lose_oth h1 h2]; exact L.oth i h1 h2, fun s hs => ?_, fun i hi => ?_, fun i hi => ?_, ?_, ?_, ?_⟩
    · rw [lose_O]; unfold upd; rw [if_neg hs]; exact L.o s hs
    · rw [lose_S]; unfold upd
      split
      · rw [c1, mI]; split <;> omega
      · exact L.ps i hi
    · rw [lose_S]; unfold upd; rw [if_neg (by omega)]; exact L.hi i (by omega)
    · rw [lose_S, si_upd (by omega), L.sS, t1, c1]; omega
    · rw [lose_S, lose_O, sm_upd (by omega), ← L.cw]; unfold upd; rw [if_neg (by decide), if_pos rfl]; grind
    · rw [t1, mI, y1]
      show _ = min w.toInt (si (A (mS k)) m + (A (mS k) m).toInt)
      rw [← xe]
      split <;> omega
theorem LL.mi {n : Nat} {A A' : Mem} {k : Nat} {w t : Int32} {m : Nat} (L : LL A A' k w t m) (h : MI n (A (mO k)) (A (mS k))) : MI n (A' (mO k)) (A' (mS k)) := by
  refine ⟨?_, ?_, ?_, ?_, ?_, ?_, ?_, ?_, ?_, ?_⟩
  · rw [L.o _ (by decide)]; exact h.b0
  · rw [L.o _ (by decide)]; exact h.b1
  · rw [L.o _ (by decide)]; exact h.b2
  · rw [L.o _ (by decide)]; exact h.k3
  · rw [L.o _ (by decide)]; exact h.p4
  · rw [L.o _ (by decide)]; exact h.p5
  · rw [L.o _ (by decide)]; exact h.p6
  · rw [L.o _ (by decide)]; exact h.p7
  · exact L.ps
  · exact L.cw
theorem LL.ms {A A' : Mem} {k : Nat} {w t : Int32} {m : Nat} (L : LL A A' k w t m) : msR (A' (mO k)) (A' (mS k)) = msR (A (mO k)) (A (mS k)) - t.toInt := by
  unfold msR
  rw [L.o _ (by decide), L.o _ (by decide), L.o _ (by decide), L.o _ (by decide), L.sS]; omega
def PK (k i : Nat) : Prop := i = 28 + 3 * k ∨ i = 29 + 3 * k ∨ i = 30 + 3 * k ∨ i = 7 ∨ i = 3
abbrev KP (k : Nat) (A A' : Mem) : Prop := (∀ i, ¬ PK k i → ¬ i = 0 → A' i = A i) ∧ (∀ s, ¬ s = 13 → A' 0 s = A 0 s)
theorem KP.r {k : Nat} {A A' : Mem} (h : KP k A A') : ∀ i, ¬ PK k i → ¬ i = 0 → A' i = A i := h.1
theorem KP.z {k : Nat} {A A' : Mem} (h : KP k A A') : ∀ s, ¬ s = 13 → A' 0 s = A 0 s := h.2
theorem KP.id {k : Nat} {A : Mem} : KP k A A := ⟨fun _ _ _ => Eq.refl _, fun _ _ => Eq.refl _⟩
theorem KP.up {k : Nat} {A A' : Mem} (h : KP k A A') {i s : Nat} {v : Int32} (hi : PK k i ∨ (i = 0 ∧ s = 13)) : KP k A (up A' i s v) := by
  refine ⟨fun a ha h0 => ?_, fun a ha => ?_⟩
  · rw [up_row (fun e => by subst e; rcases hi with hi | hi; exact ha hi; exact h0 hi.1)]; exact h.r a ha h0
  · by_cases e : 0 = i
    · subst e
      rw [up_oth (fun q => by rcases hi with hi | hi; (unfold PK at hi; omega); (omega))]; exact h.z a ha
    · rw [up_row e]; exact h.z a ha
theorem KP.tr {k : Nat} {A A' A'' : Mem} (h : KP k A A') (g : KP k A' A'') : KP k A A'' := ⟨fun i hi h0 => (g.r i hi h0).trans (h.r i hi h0), fun s hs => (g.z s hs).trans (h.z s hs)⟩
theorem KP.gi {k c : Nat} {A A' : Mem} (h : KP k A A') (g : GI c A) : GI c A' := g.oth h.z (fun i hi => h.r i (by unfold PK; omega) (by omega))
theorem KP.mm {n k : Nat} {T T' : Int} {A A' : Mem} (h : KP k A A') (m : MM n T A) (hk : k < n) (hm : MI n (A' (mO k)) (A' (mS k))) (ht : T + (msR (A' (mO k)) (A' (mS k)) - msR (A (mO k)) (A (mS k))) ≤ T') : MM n T' A' :=
  m.one hk (fun j e => h.r _ (by unfold PK mO; omega) (by unfold mO; omega)) (fun j e => h.r _ (by unfold PK mS; omega) (by unfold mS; omega)) hm ht
theorem LL.kp {A A' : Mem} {k : Nat} {w t : Int32} {m : Nat} (L : LL A A' k w t m) : KP k A A' :=
  ⟨fun i h1 h2 => L.oth i (by unfold PK at h1; unfold mS; omega) (by unfold PK at h1; unfold mO; omega), fun s _ => by rw [L.oth 0 (by unfold mS; omega) (by unfold mO; omega)]⟩
theorem KP.iv {n c k : Nat} {A A' : Mem} (h : KP k A A') (I : Iv c n A) (hc : c < 512) (hk : k < n) (hm : MI n (A' (mO k)) (A' (mS k))) (ht : msR (A' (mO k)) (A' (mS k)) ≤ msR (A (mO k)) (A (mS k)) + 7000) : Iv (c + 1) n A' :=
  ⟨I.n10, by omega, h.gi (I.next hc).g, h.mm I.m hk hm (by omega)⟩
theorem ref_eq {n c : Nat} {P Q : Mem} {z : Int32} {A B : Mem} (h : RR n P Q z A B) (I : Iv c n A) {k g : Nat} (hk : k < n) (hg : g < 4) (w : Int32) : omref B k g w = o_ref A k (sPrice A k g * w) := by
  unfold omref o_ref lkM
  rw [h.cl, h.st, h.al hk, raf_eq h I hk hg, smM_eq h hk 40 (Nat.le_refl _), h.cn hk, h.de hk, h.li, Int32.mul_comm w]
  have e : sPrice A k g * w - sm (A (mS k)) 40 - A (mO k) 5 = onCr A k (sPrice A k g * w) := by unfold onCr; grind
  rw [e]
  generalize onCr A k (sPrice A k g * w) = x
  by_cases hx : x ≤ 0
  · rw [if_pos hx, if_pos hx, if_pos (show (0 : Int32) ≤ 0 by decide)]
  · rw [if_neg hx, if_neg hx]
theorem s_why {n c : Nat} (hc : c < 512) {k g : Nat} (hk : k < n) (hg : g < 4) {w : Int32} : Sim n c [IX, IA] (fun M => o_why M k g w) (fun B => omwhy B k g w) := by
  intro P Q A B h I
  show Cl n c _ P Q (o_why A k g w) (omwhy B k g w)
  unfold o_why omwhy
  by_cases hx : w < 1 ∨ 50 < w
  · rw [if_pos hx, if_pos hx]; exact Cl.thr hc h I (by decide) (by decide)
  · rw [if_neg hx, if_neg hx]
    exact Cl.ok (h.ml 0) (I.next hc) (ref_eq (h.ml 0) I hk hg w)
theorem s_over {n c : Nat} (hc : c < 512) {k g : Nat} (hk : k < n) (hg : g < 4) {w : Int32} : Sim n c [IX, IA, IS] (fun M => o_over M k g w) (fun B => omover B k g w) := by
  intro P Q A B h I
  have h' := h.ml 0
  show Cl n c _ P Q (o_over A k g w) (omover B k g w)
  unfold o_over omover
  rw [h.al hk, h.cn hk, h.p5' hg, Int32.mul_comm w]
  by_cases hx : w < 1 ∨ 50 < w
  · rw [if_pos hx, if_pos hx]; exact Cl.thr hc h I (by decide) (by decide)
  rw [if_neg hx, if_neg hx]
  by_cases h1 : A (mO k) 0 = 0
  · rw [if_pos h1, if_pos h1]; exact Cl.thr hc h I (by decide) (by decide)
  rw [if_neg h1, if_neg h1]
  by_cases h2 : A 5 g * w ≤ A (mO k) 5
  case neg => rw [if_neg h2, if_pos (by rw [lei] at h2; rw [lti]; omega)]; exact Cl.thr hc h I (by decide) (by decide)
  rw [if_pos h2, if_neg (by rw [lei] at h2; rw [lti]; omega)]
  have r := rng hx
  have e1 : (1 : Int32).toInt = 1 := rfl
  have e2 : (50 : Int32).toInt = 50 := rfl
  have q := I.g.q5 g hg
  have m1 : 0 ≤ (A 5 g).toInt * w.toInt := Int.mul_nonneg (by omega) (by omega)
  have m2 : (A 5 g).toInt * w.toInt ≤ 100 * w.toInt := Int.mul_le_mul_of_nonneg_right (by omega) (by omega)
  have e3 : (A 5 g * w).toInt = (A 5 g).toInt * w.toInt := im (by omega) (by omega)
  rw [lei] at h2
  have m := I.m.mi k hk
  have cb := ib (A (mO k) 5)
  have e4 : (A (mO k) 5 - A 5 g * w).toInt = (A (mO k) 5).toInt - (A 5 g * w).toInt := is (by omega) (by omega)
  have r1 : RR n P Q 0 (ov1 A k (A 5 g * w)) (om1 (ml B 0) k (A 5 g * w)) := h'.pw (paO hk (by decide)) (by rw [h'.cn hk])
  have r2 : RR n P Q 0 (ov2 A k g (A 5 g * w) w) (om2 (ml B 0) k g (A 5 g * w) w) := r1.pw (paG hk hg) (by rw [r1.go hk hg])
  have kp : KP k A (ov2 A k g (A 5 g * w) w) := (KP.id.up (Or.inl (Or.inl rfl))).up (Or.inl (Or.inr (Or.inl rfl)))
  have eO : ov2 A k g (A 5 g * w) w (mO k) = upd (A (mO k)) 5 (A (mO k) 5 - A 5 g * w) := by unfold ov2 ov1; rw [up_row (by unfold mO mG; omega), up_own]
  have eS : ov2 A k g (A 5 g * w) w (mS k) = A (mS k) := by unfold ov2 ov1; rw [up_row (by unfold mS mG; omega), up_row (by unfold mS mO; omega)]
  refine Cl.ok r2 (kp.iv I hc hk ?_ ?_) ?_
  · rw [eO, eS]; exact m.o 5 _ (h4 := fun _ _ => by rw [e4]; omega)
  · rw [eO, eS, ms5, e4]; omega
  · exact r2.cn hk
theorem s_change {n c : Nat} (hc : c < 512) {k : Nat} (hk : k < n) {w : Int32} : Sim n c [IX, IA, IS] (fun M => o_change M k w) (fun B => omchange B k w) := by
  intro P Q A B h I
  have h' := h.ml 0
  show Cl n c _ P Q (o_change A k w) (omchange B k w)
  unfold o_change omchange
  rw [h.al hk, smM_eq h hk 40 (Nat.le_refl _)]
  by_cases hx : w < 1 ∨ 100000 < w
  · rw [if_pos hx, if_pos hx]; exact Cl.thr hc h I (by decide) (by decide)
  rw [if_neg hx, if_neg hx]
  by_cases h1 : A (mO k) 0 = 0
  · rw [if_pos h1, if_pos h1]; exact Cl.thr hc h I (by decide) (by decide)
  rw [if_neg h1, if_neg h1]
  by_cases h2 : w ≤ sm (A (mS k)) 40
  case neg => rw [if_neg h2, if_pos (by rw [lei] at h2; rw [lti]; omega)]; exact Cl.thr hc h I (by decide) (by decide)
  rw [if_pos h2, if_neg (by rw [lei] at h2; rw [lti]; omega)]
  have r := rng hx
  have e1 : (1 : Int32).toInt = 1 := rfl
  have e2 : (100000 : Int32).toInt = 100000 := rfl
  have e3 : (100 : Int32).toInt = 100 := rfl
  have m := I.m.mi k hk
  have bd := m.bd
  have bb := I.msle hk
  have L := llow_L m (w := w) (by omega) 40 (Nat.le_refl _)
  obtain ⟨r0, rt⟩ := llow_R h' hk w 40 (Nat.le_refl _)
  have s1 := sm_si m.ps (by omega)
  rw [lei, s1] at h2
  have tw : (llow A k w 40).2.toInt = w.toInt := by rw [L.t]; omega
  have r1 : RR n P Q 0 (ch1 A k w) (cm1 (ml B 0) k w) := r0.pw (pa7 (by decide)) (by rw [h'.bo (by decide), rt]; grind)
  have ei : cmI (cm1 (ml B 0) k w) w = chI (ch1 A k w) w := by unfold chI; rw [← r1.dc]
  have r2 : RR n P Q 0 (ch2 A k w) (cm2 (ml B 0) k w) := r1.pw (paO hk (by decide)) (by rw [r1.cn hk, ei])
  have kp1 : KP k A (ch1 A k w) := L.kp.up (Or.inl (Or.inr (Or.inr (Or.inr (Or.inl rfl)))))
  have kp : KP k A (ch2 A k w) := kp1.up (Or.inl (Or.inl rfl))
  have dd := I.g.dc
  have ec : (chI (ch1 A k w) w).toInt ≤ w.toInt ∧ 0 ≤ (chI (ch1 A k w) w).toInt := by
    unfold chI
    rw [kp1.z 10 (by decide)]
    have q1 : (100 - A 0 10).toInt = 100 - (A 0 10).toInt := is (by omega) (by omega)
    have q4 : 0 ≤ w.toInt * (100 - (A 0 10).toInt) := Int.mul_nonneg (by omega) (by omega)
    have q5 : w.toInt * (100 - (A 0 10).toInt) ≤ w.toInt * 100 := Int.mul_le_mul_of_nonneg_left (by omega) (by omega)
    have q2 : (w * (100 - A 0 10)).toInt = w.toInt * (100 - (A 0 10).toInt) := by
      rw [← q1]; exact im (by rw [q1]; omega) (by rw [q1]; omega)
    rw [idv (by rw [q2]; exact q4) (by decide), q2, e3]
    omega
  have o1 : ch1 A k w (mO k) = (llow A k w 40).1 (mO k) := by unfold ch1; rw [up_row (by unfold mO; omega)]
  have eO : ch2 A k w (mO k) = upd ((llow A k w 40).1 (mO k)) 5 ((llow A k w 40).1 (mO k) 5 + chI (ch1 A k w) w) := by unfold ch2; rw [up_own, o1]
  have eS : ch2 A k w (mS k) = (llow A k w 40).1 (mS k) := by unfold ch2 ch1; rw [up_row (by unfold mS mO; omega), up_row (by unfold mS; omega)]
  have m' := L.mi m
  have p5 := m'.p5
  have o5 := L.o 5 (by decide)
  have e5 : ((llow A k w 40).1 (mO k) 5 + chI (ch1 A k w) w).toInt = ((llow A k w 40).1 (mO k) 5).toInt + (chI (ch1 A k w) w).toInt := ia (by omega) (by rw [o5]; omega)
  refine Cl.ok r2 (kp.iv I hc hk ?_ ?_) ei
  · rw [eO, eS]; exact m'.o 5 _ (h4 := fun _ _ => by rw [e5]; omega)
  · rw [eO, eS, ms5, e5, L.ms]; omega
theorem s_buy {n c : Nat} (hc : c < 512) {k g : Nat} (hk : k < n) (hg : g < 4) {w : Int32} : Sim n c [IX, IA, IS] (fun M => o_buy M k g w) (fun B => ombuy B k g w) := by
  intro P Q A B h I
  have h' := h.ml 0
  show Cl n c _ P Q (o_buy A k g w) (ombuy B k g w)
  unfold o_buy ombuy
  rw [ref_eq h I hk hg]
  by_cases hx : w < 1 ∨ 50 < w
  · rw [if_pos hx, if_pos hx]; exact Cl.thr hc h I (by decide) (by decide)
  rw [if_neg hx, if_neg hx]
  by_cases h1 : o_ref A k (sPrice A k g * w) = 0
  case neg => rw [if_neg h1, if_neg h1]; exact Cl.thr hc h I (by decide) (by decide)
  rw [if_pos h1, if_pos h1]
  have r := rng hx
  have e1 : (1 : Int32).toInt = 1 := rfl
  have e2 : (50 : Int32).toInt = 50 := rfl
  have e0 : (0 : Int32).toInt = 0 := rfl
  have sp := spr_bd I hk hg
  have m1 : 0 ≤ (sPrice A k g).toInt * w.toInt := Int.mul_nonneg (by omega) (by omega)
  have m2 : (sPrice A k g).toInt * w.toInt ≤ 1792100 * w.toInt := Int.mul_le_mul_of_nonneg_right (by omega) (by omega)
  have ec : (sPrice A k g * w).toInt = (sPrice A k g).toInt * w.toInt := im (by omega) (by omega)
  have eC : bmC (ml B 0) k g w = sPrice A k g * w := by show w * raF (ml B 0) k g = _; rw [raf_eq h' I hk hg, Int32.mul_comm]
  have hcn : 0 ≤ (sPrice A k g * w).toInt := by rw [ec]; exact m1
  have hcb : (sPrice A k g * w).toInt ≤ 89605000 := by rw [ec]; omega
  clear ec m1 m2 sp
  generalize hC : sPrice A k g * w = C at *
  have m := I.m.mi k hk
  have bd := m.bd
  have bb := I.msle hk
  have li := I.g.li
  have L := llow_L m (w := C) hcn 40 (Nat.le_refl _)
  obtain ⟨r0, rt⟩ := llow_R h' hk C 40 (Nat.le_refl _)
  have lt := L.t
  have eK : bmK (ml B 0) k g w = byI A k C := by
    show bmC (ml B 0) k g w - (tkS (ml B 0) k (bmC (ml B 0) k g w) 40).2 = _
    rw [eC, rt]; unfold byI; grind
  have eL : bmL (ml B 0) k g w = C - byI A k C := by
    show bmC (ml B 0) k g w - bmK (ml B 0) k g w = _
    rw [eK, eC]
  have r1 : RR n P Q 0 (by2 A k C) (bm1 (ml B 0) k g w) := by
    show RR n P Q 0 (by2 A k C) (up (tkS (ml B 0) k (bmC (ml B 0) k g w) 40).1 26 1 ((tkS (ml B 0) k (bmC (ml B 0) k g w) 40).1 26 1 + bmK (ml B 0) k g w))
    rw [eK, eC]
    exact r0.pw (pa7 (by decide)) (by rw [r0.bo (by decide)]; rfl)
  have b5 : by2 A k C (mO k) 5 = by1 A k C (mO k) 5 := by unfold by2; rw [up_row (by unfold mO; omega)]
  have cn : bm1 (ml B 0) k g w 14 k = by1 A k C (mO k) 5 := by rw [r1.cn hk, b5]
  have t1 : (C - byI A k C).toInt = C.toInt - (byI A k C).toInt := is (by unfold byI; omega) (by unfold byI; omega)
  have fin : ∀ Pm : Int32, Pm = byC A k C → Cl n c [IX, IA, IS] P Q (rI (by5 A k g C w (mO k) 6) (by5 A k g C w)) (rI (bm4 (bm1 (ml B 0) k g w) k g w (bmL (ml B 0) k g w) Pm 15 k) (bm4 (bm1 (ml B 0) k g w) k g w (bmL (ml B 0) k g w) Pm)) := by
    intro Pm hP
    subst hP
    rw [eL]
    have r2 : RR n P Q 0 (by3 A k C) (bm2 (bm1 (ml B 0) k g w) k (byC A k C)) := r1.pw (paO hk (by decide)) (by rw [r1.cn hk])
    have r3 : RR n P Q 0 (by4 A k C) (bm3 (bm1 (ml B 0) k g w) k (C - byI A k C) (byC A k C)) := r2.pw (paO hk (by decide)) (by rw [r2.de hk])
    have r4 : RR n P Q 0 (by5 A k g C w) (bm4 (bm1 (ml B 0) k g w) k g w (C - byI A k C) (byC A k C)) := r3.pw (paG hk hg) (by rw [r3.go hk hg])
    have kp : KP k A (by5 A k g C w) := (((L.kp.up (Or.inl (Or.inr (Or.inr (Or.inr (Or.inl rfl)))))).up (Or.inl (Or.inl rfl))).up (Or.inl (Or.inl rfl))).up (Or.inl (Or.inr (Or.inl rfl)))
    have o2 : by2 A k C (mO k) = (llow A k C 40).1 (mO k) := by unfold by2 by1; rw [up_row (by unfold mO; omega)]
    have o3 : by3 A k C (mO k) = upd ((llow A k C 40).1 (mO k)) 5 ((llow A k C 40).1 (mO k) 5 - byC A k C) := by unfold by3; rw [up_own, o2]
    have o4 : by4 A k C (mO k) = upd (upd ((llow A k C 40).1 (mO k)) 5 ((llow A k C 40).1 (mO k) 5 - byC A k C)) 6 ((llow A k C 40).1 (mO k) 6 + (C - byI A k C - byC A k C)) := by unfold by4; rw [up_own, o3]; rfl
    have eO : by5 A k g C w (mO k) = upd (upd ((llow A k C 40).1 (mO k)) 5 ((llow A k C 40).1 (mO k) 5 - byC A k C)) 6 ((llow A k C 40).1 (mO k) 6 + (C - byI A k C - byC A k C)) := by unfold by5; rw [up_row (by unfold mO mG; omega), o4]
    have eS : by5 A k g C w (mS k) = (llow A k C 40).1 (mS k) := by unfold by5 by4 by3 by2 by1; rw [up_row (by unfold mS mG; omega), up_row (by unfold mS mO; omega), up_row (by unfold mS mO; omega), up_row (by unfold mS; omega)]
    have m' := L.mi m
    have p5 := m'.p5
    have p6 := m'.p6
    have p50 := m.p5
    have p60 := m.p6
    have o5 := L.o 5 (by decide)
    have o6 := L.o 6 (by decide)
    have f1 : (byC A k C).toInt = if ((llow A k C 40).1 (mO k) 5).toInt < C.toInt - (byI A k C).toInt then ((llow A k C 40).1 (mO k) 5).toInt else C.toInt - (byI A k C).toInt := by
      unfold byC; rw [mnI, t1]; rfl
    rw [o5] at f1
    have f0 : (byI A k C).toInt = min C.toInt (si (A (mS k)) 40) := lt
    have f2 : (C - byI A k C - byC A k C).toInt = C.toInt - (byI A k C).toInt - (byC A k C).toInt := by
      rw [is (by rw [t1, f1]; split <;> omega) (by rw [t1, f1]; split <;> omega), t1]
    have f3 : (onCr A k C).toInt = C.toInt - ((A (mO k) 5).toInt + si (A (mS k)) 40) := by
      unfold onCr
      have s1 := sm_si m.ps (by omega)
      have s2 : (A (mO k) 5 + sm (A (mS k)) 40).toInt = (A (mO k) 5).toInt + si (A (mS k)) 40 := by rw [ia (by omega) (by omega), s1]
      rw [is (by omega) (by omega), s2]
    have cr : (C - byI A k C - byC A k C).toInt = max 0 (onCr A k C).toInt := by rw [f2, f3, f1]; split <;> omega
    have hcr : (A (mO k) 6).toInt + max 0 (onCr A k C).toInt ≤ (A (mO k) 6).toInt + 1000 := by
      unfold o_ref at h1
      by_cases q1 : A 0 15 = 0
      case neg => rw [if_neg q1] at h1; exact absurd h1 (by decide)
      rw [if_pos q1] at h1
      by_cases q2 : A 0 14 = 0
      case neg => rw [if_neg q2] at h1; exact absurd h1 (by decide)
      rw [if_pos q2] at h1
      by_cases q3 : A (mO k) 0 = 0
      · rw [if_pos q3] at h1; exact absurd h1 (by decide)
      rw [if_neg q3] at h1
      by_cases q4 : onCr A k C ≤ 0
      · rw [lei, e0] at q4; omega
      rw [if_neg q4] at h1
      by_cases q5 : A (mO k) 6 + onCr A k C ≤ A 0 9
      case neg => rw [if_neg q5] at h1; exact absurd h1 (by decide)
      rw [lei, e0] at q4
      rw [lei, ia (by omega) (by omega)] at q5
      omega
    have g5 : ((llow A k C 40).1 (mO k) 5 - byC A k C).toInt = (A (mO k) 5).toInt - (byC A k C).toInt := by
      rw [o5]; exact is (by rw [f1]; split <;> omega) (by rw [f1]; split <;> omega)
    have g6 : ((llow A k C 40).1 (mO k) 6 + (C - byI A k C - byC A k C)).toInt = (A (mO k) 6).toInt + (C - byI A k C - byC A k C).toInt := by
      rw [o6]; exact ia (by omega) (by omega)
    refine Cl.ok r4 (kp.iv I hc hk ?_ ?_) (r4.de hk)
    · rw [eO, eS]
      exact (m'.o 5 _ (h4 := fun _ _ => by rw [g5, f1]; split <;> omega)).o 6 _ (h4 := fun _ _ => by rw [g6, cr]; omega)
    · rw [eO, eS, ms6, ms5, g5, g6, L.ms]
      have : upd ((llow A k C 40).1 (mO k)) 5 ((llow A k C 40).1 (mO k) 5 - byC A k C) 6 = (llow A k C 40).1 (mO k) 6 := rfl
      rw [this, o5, o6]
      have fb : 0 ≤ (byC A k C).toInt := by rw [f1]; split <;> omega
      have ft : 0 ≤ (llow A k C 40).2.toInt := by omega
      omega
  rw [cn, eL]
  rw [eL] at fin
  have mx : byC A k C = if by1 A k C (mO k) 5 < C - byI A k C then by1 A k C (mO k) 5 else C - byI A k C := rfl
  by_cases h3 : C - byI A k C ≤ by1 A k C (mO k) 5
  · rw [if_pos h3]
    exact fin _ (by rw [mx, if_neg (by rw [lei] at h3; rw [lti]; omega)])
  · rw [if_neg h3]
    exact fin _ (by rw [mx, if_pos (by rw [lei] at h3; rw [lti]; omega)])
end MathE
