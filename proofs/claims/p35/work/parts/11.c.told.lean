/-! Telling. -/
section LawD
theorem bz_clr (s : Int32) {j q : Nat} (hj : j < 10) (hq : q < 10) : bz (s &&& ((1 : Int32) <<< (nI q &&& 31) ^^^ (-1))) j ↔ bz s j ∨ j = q := by
  rw [bz_iff _ hj, bz_iff _ hj, Int32.toBitVec_and, BitVec.getLsbD_and, Int32.toBitVec_xor, sl_eq hq, BitVec.getLsbD_xor, BitVec.getLsbD_shiftLeft]
  have h1 : (1#32).getLsbD (j - q) = decide (j - q = 0) := by simp
  have h2 : (-1 : Int32).toBitVec.getLsbD j = true := by
    show (BitVec.allOnes 32).getLsbD j = true
    rw [BitVec.getLsbD_allOnes]
    simp; omega
  rw [h1, h2]
  by_cases e : j = q
  · subst e; simp; omega
  · by_cases e2 : j < q
    · simp [e, e2]
    · have e3 : ¬ j - q = 0 := by omega
      simp [e, e3]
theorem bit01 (s : Int32) {j : Nat} (hj : j < 10) : s >>> (nI j &&& 31) &&& 1 = if bz s j then 0 else 1 := by
  by_cases h : bz s j
  · rw [if_pos h]; exact h
  · rw [if_neg h]; exact (bz_one s hj).mpr h
theorem SRP.lset {A L : Mem} (h : SRP A L) {j : Nat} {v b : Int32} (hv : ∀ q, q < 3 → v >>> (nI q &&& 31) &&& 1 = if q = j then b else A 6 q) : SRP (up A 6 j b) (up L 12 19 v) := by
  refine ⟨fun a k a' k' p => ?_, fun q hq => ?_, fun q hq => ?_, fun q a hq h1 h2 => ?_⟩
  · obtain ⟨r1, r2, r3, r4, -⟩ := p.rows
    rw [up12 (fun e => r4 ⟨e.1, e.2⟩), up_row r3]; exact h.pr _ _ _ _ p
  · rw [up_row (by decide), up_row (by unfold mO; omega)]; exact h.ki q hq
  · rw [up_same, hv q hq, up_r, if_pos rfl]
  · rw [up_row (by unfold mS; omega)]; exact h.fz q a hq h1 h2
theorem SRP.kset {A L : Mem} (h : SRP A L) {k : Nat} {v a : Int32} (hv : v = a + 1) : SRP (up A (mO k) 3 a) (up L 9 (12 * k + 8) v) := by
  refine ⟨fun i b i' b' p => ?_, fun q hq => ?_, fun q hq => ?_, fun q i hq h1 h2 => ?_⟩
  · obtain ⟨r1, r2, r3, r4, r5, -, -, r8, -⟩ := p.rows
    rw [up12 (fun e => r5 k e), up12 (fun e => r8 k e)]; exact h.pr _ _ _ _ p
  · by_cases e : q = k
    · subst e; rw [up_same, up_same]; exact hv
    · rw [up12 (by omega), up12 (by unfold mO; omega)]; exact h.ki q hq
  · rw [up_row (show ¬ 6 = mO k by unfold mO; omega), up_row (show ¬ 12 = 9 by decide)]; exact h.la q hq
  · rw [up_row (by unfold mO mS; omega)]; exact h.fz q i hq h1 h2
theorem set1 {c : Nat} {ts : List String} {oc om : Mem → Out} (sim : Sim 5 c ts oc om) {M : Mem} (s : SR c M) {i k k' : Nat} {v x : Int32} (p : Pq i k 12 k') (h0 : i = 0 → ¬ k = 6 ∧ ¬ k = 3) (e : oc (up M 12 k' v) = rI x (up (up M 12 k' v) i k v)) : SR (c + 1) (up (up M 12 k' v) i k v) :=
  s.one p (by decide) h0 (ivK sim s.iv (law1 mdr9.2.2.2) e).1
abbrev LwT (l : Launch) (c z : Nat) (M : Mem) : Prop := LwGo l c yL_isTold cL_isTold 9 M (fun ρ => [.ref (ρ 0), .ref (ρ 9), .ref (ρ 12), .int (nI z)])
variable {l : Launch} {c z y : Nat} {M : Mem}
theorem T_tell (hl : l.stackTraces = false) (hc : c < 512) (s : SR c M) (hz : z < 1000000000) (hy : z / 11 = y) (hway : z % 11 = 0) : LwT l c z M := by
  obtain ⟨d, hd0⟩ : ∃ d, y % 5 = d := ⟨_, rfl⟩
  have hd : d < 5 := by omega
  by_cases hdz : d = 0
  · obtain ⟨v, hv⟩ : ∃ v, 1 + y / 5 % 50 = v := ⟨_, rfl⟩
    have e : o_tell (up M 12 d (nI v)) d (nI v) = rI (M 2 d) (up (up M 12 d (nI v)) 2 d (nI v)) := by
      unfold o_tell
      rw [if_pos (show nI d = 0 by rw [hdz]; rfl), if_neg (show ¬ (nI v < 1 ∨ 50 < nI v) from rgN (lo := 1) (hi := 50) (by omega) (by omega) (by decide)), up_row (show ¬ 2 = 12 by decide)]
    exact ⟨_, set1 (s_tell hc hd) s (pq2 hd) (by omega) e, fun ρ J => L_tell_0 hl hz hy hway hd hd0 hdz hv e (s.s.te hd).symm⟩
  · obtain ⟨q, hq⟩ : ∃ q, (if y / 3 % 2 = 0 then 101 else 12) = q := ⟨_, rfl⟩
    have hq2 : q = 101 ∨ q = 12 := by rw [← hq]; exact dq 0 _ _ _
    obtain ⟨v, hv⟩ : ∃ v, y / 5 % q = v := ⟨_, rfl⟩
    have hv2 : v ≤ 100 := by have := Nat.mod_lt (y / 5) (show 0 < q by omega); omega
    have e : o_tell (up M 12 d (nI v)) d (nI v) = rI (M 2 d) (up (up M 12 d (nI v)) 2 d (nI v)) := by
      unfold o_tell
      rw [if_neg (show ¬ nI d = 0 from nI_ne0 (by omega) (by omega)), if_neg (show ¬ (nI v < 0 ∨ 100 < nI v) from rgN (lo := 0) (hi := 100) (by omega) (by omega) (by decide)), up_row (show ¬ 2 = 12 by decide)]
    exact ⟨_, set1 (s_tell hc hd) s (pq2 hd) (by omega) e, fun ρ J => L_tell_1 hl hz hy hway hd hd0 hdz hq hq2 hv e (s.s.te hd).symm⟩
theorem T_price (hl : l.stackTraces = false) (hc : c < 512) (s : SR c M) (hz : z < 1000000000) (hy : z / 11 = y) (hway : z % 11 = 1) : LwT l c z M := by
  obtain ⟨g, hg0⟩ : ∃ d, y % 4 = d := ⟨_, rfl⟩
  have hg : g < 4 := by omega
  obtain ⟨v, hv⟩ : ∃ v, 1 + y / 8 % 100 = v := ⟨_, rfl⟩
  by_cases hh : y / 4 % 2 = 1
  · have e : o_price (up M 12 (9 + g) (nI v)) g (nI v) 1 = rI (M 5 g) (up (up M 12 (9 + g) (nI v)) 5 g (nI v)) := by
      unfold o_price
      rw [if_neg (show ¬ (nI v < 1 ∨ 100 < nI v) from rgN (lo := 1) (hi := 100) (by omega) (by omega) (by decide)), if_neg (by decide), up_row (show ¬ 5 = 12 by decide)]
    exact ⟨_, set1 (s_price hc hg) s (pq5 hg) (by omega) e, fun ρ J => L_price_h hl hz hy hway hg hg0 hv hh e (s.s.p5 hg).symm⟩
  · have e : o_price (up M 12 (5 + g) (nI v)) g (nI v) 0 = rI (M 4 g) (up (up M 12 (5 + g) (nI v)) 4 g (nI v)) := by
      unfold o_price
      rw [if_neg (show ¬ (nI v < 1 ∨ 100 < nI v) from rgN (lo := 1) (hi := 100) (by omega) (by omega) (by decide)), if_pos rfl, up_row (show ¬ 4 = 12 by decide)]
    exact ⟨_, set1 (s_price hc hg) s (pq4 hg) (by omega) e, fun ρ J => L_price_s hl hz hy hway hg hg0 hv hh e (s.s.p4 hg).symm⟩
theorem T_dock (hl : l.stackTraces = false) (hc : c < 512) (s : SR c M) (hz : z < 1000000000) (hy : z / 11 = y) (hway : z % 11 = 2) : LwT l c z M := by
  obtain ⟨v, hv⟩ : ∃ v, y % 51 = v := ⟨_, rfl⟩
  have e : o_dock (up M 12 13 (nI v)) (nI v) = rI (M 0 1) (up (up M 12 13 (nI v)) 0 1 (nI v)) := by
    unfold o_dock
    rw [if_neg (show ¬ (nI v < 0 ∨ 50 < nI v) from rgN (lo := 0) (hi := 50) (by omega) (by omega) (by decide)), up_row (show ¬ 0 = 12 by decide)]
  exact ⟨_, set1 (s_dock hc) s (pq0 (by decide)) (by omega) e, fun ρ J => L_dock hl hz hy hway hv e (s.s.g0 (by decide)).symm⟩
theorem T_limit (hl : l.stackTraces = false) (hc : c < 512) (s : SR c M) (hz : z < 1000000000) (hy : z / 11 = y) (hway : z % 11 = 5) : LwT l c z M := by
  obtain ⟨v, hv⟩ : ∃ v, y % 1001 = v := ⟨_, rfl⟩
  have e : o_limit (up M 12 17 (nI v)) (nI v) = rI (M 0 9) (up (up M 12 17 (nI v)) 0 9 (nI v)) := by
    unfold o_limit
    rw [if_neg (show ¬ (nI v < 0 ∨ 1000 < nI v) from rgN (lo := 0) (hi := 1000) (by omega) (by omega) (by decide)), up_row (show ¬ 0 = 12 by decide)]
  exact ⟨_, set1 (s_limit hc) s (pq0 (by decide)) (by omega) e, fun ρ J => L_limit hl hz hy hway hv e (s.s.g0 (by decide)).symm⟩
theorem T_discount (hl : l.stackTraces = false) (hc : c < 512) (s : SR c M) (hz : z < 1000000000) (hy : z / 11 = y) (hway : z % 11 = 6) : LwT l c z M := by
  obtain ⟨v, hv⟩ : ∃ v, y % 91 = v := ⟨_, rfl⟩
  have e : o_discount (up M 12 18 (nI v)) (nI v) = rI (M 0 10) (up (up M 12 18 (nI v)) 0 10 (nI v)) := by
    unfold o_discount
    rw [if_neg (show ¬ (nI v < 0 ∨ 90 < nI v) from rgN (lo := 0) (hi := 90) (by omega) (by omega) (by decide)), up_row (show ¬ 0 = 12 by decide)]
  exact ⟨_, set1 (s_disc hc) s (pq0 (by decide)) (by omega) e, fun ρ J => L_discount hl hz hy hway hv e (s.s.g0 (by decide)).symm⟩
theorem SR.ed3 {r : Nat} (s : SR c M) (hr : r ∈ ED) (iv : Iv (c + 1) 5 (up (up M 12 15 (nI r)) 0 3 (nI r))) : SR (c + 1) (up (up M 12 15 (nI r)) 0 3 (nI r)) := by
  refine SR.mk_ (A := up M 0 3 (nI r)) (L := up M 12 15 (nI r)) (s.s.pw (pq0 (by decide)) rfl) (fun a ha => up_rr (up_row (fun e => ha (by rw [e]; exact mdr9.2.2.2)))) (fun a ha => up_row (fun e => by rw [e] at ha; exact absurd ha (by unfold mdr; omega))) (s.lc.up_ (by decide) (fun e => by omega)) ?_ ⟨r, hr, up_same _ _ _ _⟩ iv
  rw [up12 (by omega), up_row (by decide)]; exact s.pd
theorem T_edition (hl : l.stackTraces = false) (hc : c < 512) (s : SR c M) (hz : z < 1000000000) (hy : z / 11 = y) (hway : z % 11 = 4) : LwT l c z M := by
  have key : ∀ r : Nat, r ∈ ED → ¬ edi (nI r) 0 5 = 0 → o_edition (up M 12 15 (nI r)) (nI r) = rI (M 0 3) (up (up M 12 15 (nI r)) 0 3 (nI r)) ∧ SR (c + 1) (up (up M 12 15 (nI r)) 0 3 (nI r)) := by
    intro r hr h
    have e : o_edition (up M 12 15 (nI r)) (nI r) = rI (M 0 3) (up (up M 12 15 (nI r)) 0 3 (nI r)) := by
      unfold o_edition
      rw [if_neg h, up_row (show ¬ 0 = 12 by decide)]
    exact ⟨e, s.ed3 hr (ivK (s_edition hc) s.iv (law1 mdr9.2.2.2) e).1⟩
  have h15 := (s.s.g0 (k := 3) (k' := 15) (by decide)).symm
  have h6 : y % 6 = 0 ∨ y % 6 = 1 ∨ y % 6 = 2 ∨ y % 6 = 3 ∨ y % 6 = 4 ∨ y % 6 = 5 := by omega
  rcases h6 with hv | hv | hv | hv | hv | hv
  · obtain ⟨e, r⟩ := key 12345 (by decide) (by decide +kernel)
    exact ⟨_, r, fun ρ J => L_edition_0 hl hz hy hway hv e h15⟩
  · obtain ⟨e, r⟩ := key 54321 (by decide) (by decide +kernel)
    exact ⟨_, r, fun ρ J => L_edition_1 hl hz hy hway hv e h15⟩
  · obtain ⟨e, r⟩ := key 0 (by decide) (by decide +kernel)
    exact ⟨_, r, fun ρ J => L_edition_2 hl hz hy hway hv e h15⟩
  · obtain ⟨e, r⟩ := key 5 (by decide) (by decide +kernel)
    exact ⟨_, r, fun ρ J => L_edition_3 hl hz hy hway hv e h15⟩
  · obtain ⟨e, r⟩ := key 2413 (by decide) (by decide +kernel)
    exact ⟨_, r, fun ρ J => L_edition_4 hl hz hy hway hv e h15⟩
  · obtain ⟨e, r⟩ := key 31 (by decide) (by decide +kernel)
    exact ⟨_, r, fun ρ J => L_edition_5 hl hz hy hway hv e h15⟩
theorem T_check (hl : l.stackTraces = false) (hc : c < 512) (s : SR c M) (hz : z < 1000000000) (hy : z / 11 = y) (hway : z % 11 = 3) : LwT l c z M := by
  have g := s.iv.g
  have hx : M 0 2 = if M 12 14 = 1 then 1 else 0 := by
    rw [s.s.g0 (k := 2) (k' := 14) (by decide)]
    rcases g.ck with q | q <;> rw [q] <;> rfl
  have h2 : y % 2 = 0 ∨ y % 2 = 1 := by omega
  rcases h2 with hv | hv
  · exact ⟨_, set1 (s_check hc (Or.inl rfl)) s (pq0 (k := 2) (k' := 14) (by decide)) (by omega) rfl, fun ρ J => L_check_0 hl hz hy hway hv g.ck hx⟩
  · exact ⟨_, set1 (s_check hc (Or.inr rfl)) s (pq0 (k := 2) (k' := 14) (by decide)) (by omega) rfl, fun ρ J => L_check_1 hl hz hy hway hv g.ck hx⟩
theorem T_obey (hl : l.stackTraces = false) (hc : c < 512) (s : SR c M) (hz : z < 1000000000) (hy : z / 11 = y) (hway : z % 11 = 8) : LwT l c z M := by
  have g := s.iv.g
  have hx : M 0 12 = if M 12 20 = 1 then 1 else 0 := by
    rw [s.s.g0 (k := 12) (k' := 20) (by decide)]
    rcases g.ob with q | q <;> rw [q] <;> rfl
  have h2 : y % 2 = 0 ∨ y % 2 = 1 := by omega
  rcases h2 with hv | hv
  · exact ⟨_, set1 (s_obey hc (Or.inl rfl)) s (pq0 (k := 12) (k' := 20) (by decide)) (by omega) rfl, fun ρ J => L_obey_0 hl hz hy hway hv g.ob hx⟩
  · exact ⟨_, set1 (s_obey hc (Or.inr rfl)) s (pq0 (k := 12) (k' := 20) (by decide)) (by omega) rfl, fun ρ J => L_obey_1 hl hz hy hway hv g.ob hx⟩
theorem SR.law_ {j : Nat} {v b : Int32} (s : SR c M) (hv : ∀ q, q < 3 → v >>> (nI q &&& 31) &&& 1 = if q = j then b else M 6 q) (iv : Iv (c + 1) 5 (up (up M 12 19 v) 6 j b)) : SR (c + 1) (up (up M 12 19 v) 6 j b) := by
  refine SR.mk_ (A := up M 6 j b) (L := up M 12 19 v) (s.s.lset hv) (fun a ha => up_rr (up_row (fun e => ha (by rw [e]; exact mdr9.2.2.2)))) (fun a ha => up_row (fun e => by rw [e] at ha; exact absurd ha (by unfold mdr; omega))) (s.lc.up_ (by decide) (fun e => by omega)) ?_ ?_ iv
  · rw [up_row (by decide), up_row (by decide)]; exact s.pd
  · rw [up_row (by decide), up_row (by decide)]; exact s.ed
theorem T_law (hl : l.stackTraces = false) (hc : c < 512) (s : SR c M) (hz : z < 1000000000) (hy : z / 11 = y) (hway : z % 11 = 7) : LwT l c z M := by
  obtain ⟨j, hj0⟩ : ∃ d, y % 3 = d := ⟨_, rfl⟩
  have hj : j < 3 := by omega
  have hb := s.iv.g.la j hj
  have hx : M 6 j = if M 12 19 >>> (nI j &&& 31) &&& 1 = 1 then 1 else 0 := by
    rw [← s.s.la j hj]
    rcases hb with q | q <;> rw [q] <;> rfl
  by_cases hh : 0 < y / 3 % 3
  · refine ⟨_, s.law_ (j := j) (v := M 12 19 ||| (1 : Int32) <<< (nI j &&& 31)) (b := 1) (fun q hq => ?_) (ivK (s_law hc hj (Or.inr rfl)) s.iv (law1 mdr9.2.2.2) rfl).1, fun ρ J => L_law_1 hl hz hy hway hj hj0 hh hb hx⟩
    rw [bit01 _ (by omega)]
    by_cases e : q = j
    · subst e; rw [if_neg (fun w => ((bz_set _ (by omega) (by omega)).mp w).2 rfl), if_pos rfl]
    · rw [if_neg e, s.s.la q hq]; refine Eq.trans ?_ (bit01 (M 12 19) (j := q) (by omega)).symm
      by_cases w : bz (M 12 19) q
      · rw [if_pos ((bz_set _ (by omega) (by omega)).mpr ⟨w, e⟩), if_pos w]
      · rw [if_neg (fun u => w ((bz_set _ (by omega) (by omega)).mp u).1), if_neg w]
  · refine ⟨_, s.law_ (j := j) (v := M 12 19 &&& ((1 : Int32) <<< (nI j &&& 31) ^^^ (-1))) (b := 0) (fun q hq => ?_) (ivK (s_law hc hj (Or.inl rfl)) s.iv (law1 mdr9.2.2.2) rfl).1, fun ρ J => L_law_0 hl hz hy hway hj hj0 hh hb hx⟩
    rw [bit01 _ (by omega)]
    by_cases e : q = j
    · subst e; rw [if_pos ((bz_clr _ (by omega) (by omega)).mpr (Or.inr rfl)), if_pos rfl]
    · rw [if_neg e, s.s.la q hq]; refine Eq.trans ?_ (bit01 (M 12 19) (j := q) (by omega)).symm
      by_cases w : bz (M 12 19) q
      · rw [if_pos ((bz_clr _ (by omega) (by omega)).mpr (Or.inl w)), if_pos w]
      · rw [if_neg (fun u => ((bz_clr _ (by omega) (by omega)).mp u).elim w e), if_neg w]
theorem SR.kin_ {k : Nat} {v a : Int32} (s : SR c M) (hv : v = a + 1) (iv : Iv (c + 1) 5 (up (up M 9 (12 * k + 8) v) (mO k) 3 a)) : SR (c + 1) (up (up M 9 (12 * k + 8) v) (mO k) 3 a) := by
  refine SR.mk_ (A := up M (mO k) 3 a) (L := up M 9 (12 * k + 8) v) (s.s.kset hv) (fun i hi => up_rr (up_row (fun e => hi (by rw [e]; exact mdr9.1)))) (fun i hi => up_row (fun e => by rw [e] at hi; exact absurd hi (nmO k).1)) (s.lc.up_ (by decide) (fun e => by omega)) ?_ ?_ iv
  · rw [up_row (by unfold mO; omega), up_row (by decide)]; exact s.pd
  · rw [up_row (by unfold mO; omega), up_row (by decide)]; exact s.ed
theorem T_kin (hl : l.stackTraces = false) (hc : c < 512) (s : SR c M) (hz : z < 1000000000) (hy : z / 11 = y) (hway : z % 11 = 10) : LwT l c z M := by
  obtain ⟨k, hk0⟩ : ∃ d, y % 5 = d := ⟨_, rfl⟩
  have hk : k < 5 := by omega
  obtain ⟨j, hj0⟩ : ∃ d, (k + y / 5 % 5) % 5 = d := ⟨_, rfl⟩
  have hj : j < 5 := by omega
  have hx : M (mO k) 3 = M 9 (12 * k + 8) - 1 := by rw [s.s.ki k hk]; grind
  by_cases hh : j = k
  · have e : o_kin 5 (up M 9 (12 * k + 8) 0) k (-1) = rI (M 9 (12 * k + 8) - 1) (up (up M 9 (12 * k + 8) 0) (mO k) 3 (-1)) := by
      unfold o_kin
      rw [if_pos rfl, if_neg (neg1 (by omega)), up_row (show ¬ mO k = 9 by unfold mO; omega), hx]
    exact ⟨_, s.kin_ (by decide) (ivK (s_kin hc hk) s.iv (law1 mdr9.1) e).1, fun ρ J => L_kin_s hl hz hy hway hk hk0 hj hj0 hh e⟩
  · have e : o_kin 5 (up M 9 (12 * k + 8) (nI (j + 1))) k (nI j) = rI (M 9 (12 * k + 8) - 1) (up (up M 9 (12 * k + 8) (nI (j + 1))) (mO k) 3 (nI j)) := by
      unfold o_kin
      rw [if_neg (neg1 (by omega)), if_neg (show ¬ (nI j < 0 ∨ nI 5 ≤ nI j) from by
        rintro (w | w)
        · exact nI_pos (by omega) w
        · exact nI_ge hj (by omega) w), if_neg (fun w => hh ((nI_eq (by omega) (by omega)).mp w).symm), up_row (show ¬ mO k = 9 by unfold mO; omega), hx]
    exact ⟨_, s.kin_ (nI_1 j).symm (ivK (s_kin hc hk) s.iv (law1 mdr9.1) e).1, fun ρ J => L_kin_o hl hz hy hway hk hk0 hj hj0 hh e⟩
/-- with two calls -/
abbrev LwG2 (l : Launch) (c : Nat) (y : MethodName) (cy : ByteArray) (mL : Nat) (M : Mem) (As : (Nat → Nat) → List Value) : Prop := ∃ K : Mem, SR (c + 2) K ∧ ∀ (ρ : Nat → Nat) (J : Nat → Int64), CtO l y cy mL (some .boolean) 10 13 78 5 ρ J M (As ρ) (rI 1 K)
theorem LwGo.two {y : MethodName} {cy : ByteArray} {mL : Nat} {As : (Nat → Nat) → List Value} (h : LwGo l c y cy mL M As) (hc : c + 1 < 512) : LwG2 l c y cy mL M As := by
  obtain ⟨K, s, h⟩ := h
  exact ⟨K, s.idle hc, h⟩
theorem T_give (hl : l.stackTraces = false) (hc : c + 1 < 512) (s : SR c M) (hz : z < 1000000000) (hy : z / 11 = y) (hway : z % 11 = 9) : LwG2 l c yL_isTold cL_isTold 9 M (fun ρ => [.ref (ρ 0), .ref (ρ 9), .ref (ρ 12), .int (nI z)]) := by
  obtain ⟨k, hk0⟩ : ∃ d, y % 5 = d := ⟨_, rfl⟩
  have hk : k < 5 := by omega
  obtain ⟨v, hv⟩ : ∃ v, 1 + y / 5 % 9 = v := ⟨_, rfl⟩
  obtain ⟨u, hu⟩ : ∃ u, u = M 0 16 + nI v := ⟨_, rfl⟩
  have hu2 : M 12 24 + nI v = u := by rw [hu, s.s.g0 (k := 16) (by decide)]
  have m := s.iv.m.mi k hk
  -- after the first call
  have e1 : ∀ b : Int32, o_give (up (up M 12 24 (M 12 24 + nI v)) 9 (12 * k + 9) b) (nI v) = rI u (up (up (up M 12 24 u) 9 (12 * k + 9) b) 0 16 u) := fun b => by
    unfold o_give
    rw [if_neg (show ¬ (nI v < 1 ∨ 1000 < nI v) from rgN (lo := 1) (hi := 1000) (by omega) (by omega) (by decide)), up_row (show ¬ 0 = 9 by decide), up_row (show ¬ 0 = 12 by decide), ← hu, up_same, hu2]
  have s2 : ∀ b : Int32, isB b → SR (c + 2) (up (up (up (up M 12 24 u) 9 (12 * k + 9) b) 0 16 u) (mO k) 2 b) := fun b hb => by
    have r : ∀ i, ¬ mdr i → up (up M 12 24 u) 9 (12 * k + 9) b i = M i := fun i hi => by rw [law1 mdr9.1 i hi, law1 mdr9.2.2.2 i hi]
    have iv1 := (ivK (s_give (by omega)) s.iv r (hu2 ▸ e1 b)).1
    have iv2 := (ivK (s_vote (c := c + 1) hc hk hb) iv1 (fun _ _ => rfl) rfl).1
    have p1 := s.s.pw (pq0 (k := 16) (k' := 24) (by decide)) (v := u) rfl
    have p2 := p1.pw (pqO hk (s := 2) (o := 9) (by decide)) (v := b) rfl
    refine SR.mk_ p2 (fun i hi => up_rr (up_rr (r i hi))) (fun i hi => ?_) ((s.lc.up_ (by decide) (fun e => by omega)).up_ (by decide) (fun e => by omega)) ?_ ?_ iv2
    · rw [up_row (show ¬ i = mO k from fun e => by rw [e] at hi; exact absurd hi (nmO k).1), up_row (show ¬ i = 0 from fun e => by rw [e] at hi; exact absurd hi (by unfold mdr; omega))]
    · rw [up_row (by unfold mO; omega), up12 (by omega), up_row (by decide), up_row (by decide)]; exact s.pd
    · rw [up_row (by unfold mO; omega), up12 (by omega), up_row (by decide), up_row (by decide)]; exact s.ed
  have hK : ∀ b : Int32, up (up (up M 12 24 u) 9 (12 * k + 9) b) 0 16 u (mO k) 2 = M (mO k) 2 := fun b => by
    rw [up_row (by unfold mO; omega), up_row (by unfold mO; omega), up_row (by unfold mO; omega)]
  have hx2 : M (mO k) 2 = if M 9 (12 * k + 9) = 1 then 1 else 0 := by
    rw [s.s.mi (s := 2) (o := 9) hk (by decide)]
    rcases m.b2 with q | q <;> rw [q] <;> rfl
  have h24 : ∀ b : Int32, u = up (up (up M 12 24 u) 9 (12 * k + 9) b) 0 16 u 12 24 := fun b => by
    rw [up_row (by decide), up_row (by decide), up_same]
  have h9 : ∀ b : Int32, up (up (up M 12 24 u) 9 (12 * k + 9) b) 0 16 u 9 (12 * k + 9) = b := fun b => by
    rw [up_row (by decide), up_same]
  by_cases hh : y / 45 % 3 = 0
  · exact ⟨_, s2 0 (Or.inl rfl), fun ρ J => L_give_0 hl hz hy hway hk hk0 hv hh (e1 0) (h24 0) (h9 0) (by rw [hK]; exact m.b2) (by rw [hK]; exact hx2)⟩
  · exact ⟨_, s2 1 (Or.inr rfl), fun ρ J => L_give_1 hl hz hy hway hk hk0 hv hh (e1 1) (h24 1) (h9 1) (by rw [hK]; exact m.b2) (by rw [hK]; exact hx2)⟩
theorem G_told (hl : l.stackTraces = false) (hc : c + 1 < 512) (s : SR c M) (hz : z < 1000000000) : LwG2 l c yL_isTold cL_isTold 9 M (fun ρ => [.ref (ρ 0), .ref (ρ 9), .ref (ρ 12), .int (nI z)]) := by
  have hc' : c < 512 := by omega
  have h : z % 11 = 0 ∨ z % 11 = 1 ∨ z % 11 = 2 ∨ z % 11 = 3 ∨ z % 11 = 4 ∨ z % 11 = 5 ∨ z % 11 = 6 ∨ z % 11 = 7 ∨ z % 11 = 8 ∨ z % 11 = 9 ∨ z % 11 = 10 := by omega
  rcases h with h | h | h | h | h | h | h | h | h | h | h
  · exact (T_tell hl hc' s hz rfl h).two hc
  · exact (T_price hl hc' s hz rfl h).two hc
  · exact (T_dock hl hc' s hz rfl h).two hc
  · exact (T_check hl hc' s hz rfl h).two hc
  · exact (T_edition hl hc' s hz rfl h).two hc
  · exact (T_limit hl hc' s hz rfl h).two hc
  · exact (T_discount hl hc' s hz rfl h).two hc
  · exact (T_law hl hc' s hz rfl h).two hc
  · exact (T_obey hl hc' s hz rfl h).two hc
  · exact T_give hl hc s hz rfl h
  · exact (T_kin hl hc' s hz rfl h).two hc
end LawD
