/-! Each call of the two, as the loop wants it. -/
section Good1
theorem stepAt {n c : Nat} {ts : List String} {o : Out} {om : Mem → Out} {M : Mem} (h : ∀ P Q B : Mem, RR n P Q (B 9 29) M B → Iv c n M → Cl n c ts P Q o (om B)) (s : SS c n M) : RR n M o.2 (o.2 9 29) M o.2 ∧ ∃ (x2 : Int32) (M2 : Mem), om o.2 = rI x2 M2 ∧ oki ts o ∧ M2 9 29 = cdo ts o ∧ (∀ (x : Int32) (N : Mem), o = rI x N → x = x2) ∧ SS (c + 1) n M2 := by
  obtain ⟨hr, hi⟩ := s
  obtain ⟨x0, M0, -, -, -, -, h0, -⟩ := h _ _ _ hr hi
  have e := h0.fa
  have r : RR n M o.2 (o.2 9 29) M o.2 := by
    refine ⟨fun i k i' k' p => ?_, fun i _ k => rfl, fun i _ k => rfl, ?_, fun i k p => ?_, rfl⟩
    · rw [e _ p.rows.2.1]; exact hr.pr _ _ _ _ p
    · rw [e _ (by unfold mdr; omega)]; exact hr.nn
    · rw [e _ (by unfold Frz at p; obtain ⟨j, hj, q⟩ := p; unfold mdr; omega)]; exact hr.fz _ _ p
  obtain ⟨x2, M2, a1, a2, a3, a4, a5, a6⟩ := h _ _ _ r hi
  have f : ∀ i, ¬ mdr i → M2 i = o.2 i := fun i hi => funext fun k => a5.fb i hi k
  exact ⟨r, x2, M2, a1, a2, a3, a4, a5.self f, a6.congr f⟩
theorem mkI {l : Launch} {n c : Nat} {ts : List String} {o : Out} {om : Mem → Out} {M : Mem} {As : List Value} {yc : MethodName} {cyc : ByteArray} {mLc : Nat} {rc : Option FieldType} {ym : MethodName} {cym : ByteArray} {mLm : Nat} {rm : Option FieldType} {h mc ms h2 : Nat}
    (s : SS c n M) (k : ∀ P Q B : Mem, RR n P Q (B 9 29) M B → Iv c n M → Cl n c ts P Q o (om B))
    (Hc : ∀ (ρ : Nat → Nat) (J : Nat → Int64), CtO l yc cyc mLc rc h mc ms n ρ J M (.ref (ρ 0) :: As) o)
    (Hm : ∀ N : Mem, RR n M N (N 9 29) M N → ∀ (ρ : Nat → Nat) (J : Nat → Int64), CtO l ym cym mLm rm h2 0 0 n ρ J N (.ref (ρ 9) :: As) (om N))
    (b1 : h ≤ 9) (b2 : mc ≤ 13) (b3 : ms ≤ 78) (b4 : h2 ≤ 9) : PrI l SS yc cyc mLc rc ym cym mLm rm ts c n M As := by
  obtain ⟨r, x2, M2, e1, e2, e3, e4, e5⟩ := stepAt k s
  exact ⟨h, mc, ms, h2, o, x2, M2, Hc, b1, b2, b3, e2, fun ρ J => e1 ▸ Hm o.2 r ρ J, b4, e3, e4, e5⟩
theorem mkD {l : Launch} {n c : Nat} {x : Int32} {M1 : Mem} {om : Mem → Out} {M : Mem} {As : List Value} {yc : MethodName} {cyc : ByteArray} {mLc : Nat} {rc : Option FieldType} {ym : MethodName} {cym : ByteArray} {mLm : Nat} {rm : Option FieldType}
    (s : SS c n M) (k : ∀ P Q B : Mem, RR n P Q (B 9 29) M B → Iv c n M → Cl n c [] P Q (rI x M1) (om B))
    (Hc : ∀ (ρ : Nat → Nat) (J : Nat → Int64), CtO l yc cyc mLc rc 0 0 0 n ρ J M (.ref (ρ 0) :: As) (rI x M1))
    (Hm : ∀ N : Mem, RR n M N (N 9 29) M N → ∀ (ρ : Nat → Nat) (J : Nat → Int64), CtO l ym cym mLm rm 0 0 0 n ρ J N (.ref (ρ 9) :: As) (om N)) : PrD l SS yc cyc mLc rc ym cym mLm rm c n M As := by
  obtain ⟨r, x2, M2, e1, e2, e3, e4, e5⟩ := stepAt k s
  have e := e4 x M1 rfl
  subst e
  exact ⟨x, M1, M2, Hc, fun ρ J => e1 ▸ Hm M1 r ρ J, e5⟩
theorem mkV {l : Launch} {n c : Nat} {ts : List String} {oc om : Mem → Out} {M : Mem} {As : List Value} {yc : MethodName} {cyc : ByteArray} {mLc : Nat} {rc : Option FieldType} {ym : MethodName} {cym : ByteArray} {mLm : Nat} {rm : Option FieldType} {h mc ms h2 : Nat}
    (s : SS c n M) (k : SimV n c ts oc om)
    (Hc : ∀ (ρ : Nat → Nat) (J : Nat → Int64), CtO l yc cyc mLc rc h mc ms n ρ J M (.ref (ρ 0) :: As) (oc M))
    (Hm : ∀ N : Mem, RR n M N (N 9 29) M N → ∀ (ρ : Nat → Nat) (J : Nat → Int64), CtO l ym cym mLm rm h2 0 0 n ρ J N (.ref (ρ 9) :: As) (om N))
    (b1 : h ≤ 9) (b2 : mc ≤ 13) (b3 : ms ≤ 78) (b4 : h2 ≤ 9) : PrV l SS yc cyc mLc rc ym cym mLm rm ts c n M As := by
  obtain ⟨r, M2, e1, e2, e3, e5⟩ := k.step s
  exact ⟨h, mc, ms, h2, oc M, M2, Hc, b1, b2, b3, e2, fun ρ J => e1 ▸ Hm (oc M).2 r ρ J, b4, e3, e5⟩
theorem sv_thr {n c : Nat} (hc : c < 512) : SimV n c [IX, IS] (fun M => rX IX M) (fun B => (.inr none, ml B 1)) := by
  intro P Q A B h I
  exact ClV.thr hc h I (by decide) (by decide)
theorem rg4 {x : Int32} (h : x < 0 ∨ nI 4 ≤ x) : x < 0 ∨ 4 ≤ x := h
theorem rg5 {x : Int32} (h : x < 0 ∨ nI 5 ≤ x) : x < 0 ∨ 4 < x := by
  rcases h with h | h
  · exact Or.inl h
  · right; rw [lei] at h; rw [lti]
    have e1 : (nI 5).toInt = 5 := rfl
    have e2 : (4 : Int32).toInt = 4 := rfl
    omega
theorem rg3 {x : Int32} (h : x < 0 ∨ nI 3 ≤ x) : (x < 0 ∨ 3 ≤ x) ∧ (x < 0 ∨ 2 < x) := by
  refine ⟨h, ?_⟩
  rcases h with h | h
  · exact Or.inl h
  · right; rw [lei] at h; rw [lti]
    have e1 : (nI 3).toInt = 3 := rfl
    have e2 : (2 : Int32).toInt = 2 := rfl
    omega
theorem rg6 {x : Int32} (h : x < 0 ∨ nI 6 ≤ x) : (x < 0 ∨ 6 ≤ x) ∧ (x < 0 ∨ 5 < x) := by
  refine ⟨h, ?_⟩
  rcases h with h | h
  · exact Or.inl h
  · right; rw [lei] at h; rw [lti]
    have e1 : (nI 6).toInt = 6 := rfl
    have e2 : (5 : Int32).toInt = 5 := rfl
    omega
theorem rg40 {x : Int32} (h : x < 0 ∨ nI 40 ≤ x) : x < 0 ∨ 39 < x := by
  rcases h with h | h
  · exact Or.inl h
  · right; rw [lei] at h; rw [lti]
    have e1 : (nI 40).toInt = 40 := rfl
    have e2 : (39 : Int32).toInt = 39 := rfl
    omega
theorem rg10 {x : Int32} (h : x < 0 ∨ nI 10 ≤ x) : x.toInt < 0 ∨ 9 < x.toInt := by
  rw [lti, lei] at h
  have e1 : (nI 10).toInt = 10 := rfl
  have e2 : (0 : Int32).toInt = 0 := rfl
  omega
end Good1
section Good2
variable {l : Launch} {n c : Nat} {M : Mem}
theorem p_dock (hl : l.stackTraces = false) (hc : c < 512) (hS : SS c n M) (x : Int32) : PrI l SS yX2_dock cX2_dock 3 (some .int) yX3_dock cX3_dock 3 (some .int) [IA] c n M [.int x] := by
  refine mkI (h2 := 1) hS (fun P Q B => (s_dock hc (x := x)) P Q M B) (fun ρ J => c_X2_dock hl) (fun N r ρ J => ?_) (by decide) (by decide) (by decide) (by decide)
  unfold omdock
  split
  · exact c_X3_dock_x hl (by assumption)
  · exact c_X3_dock hl (by assumption)
theorem p_limit (hl : l.stackTraces = false) (hc : c < 512) (hS : SS c n M) (x : Int32) : PrI l SS yX2_limit cX2_limit 3 (some .int) yX3_limit cX3_limit 3 (some .int) [IA] c n M [.int x] := by
  refine mkI (h2 := 1) hS (fun P Q B => (s_limit hc (x := x)) P Q M B) (fun ρ J => c_X2_limit hl) (fun N r ρ J => ?_) (by decide) (by decide) (by decide) (by decide)
  unfold omlimit
  split
  · exact c_X3_limit_x hl (by assumption)
  · exact c_X3_limit hl (by assumption)
theorem p_discount (hl : l.stackTraces = false) (hc : c < 512) (hS : SS c n M) (x : Int32) : PrI l SS yX2_discount cX2_discount 3 (some .int) yX3_discount cX3_discount 3 (some .int) [IA] c n M [.int x] := by
  refine mkI (h2 := 1) hS (fun P Q B => (s_disc hc (x := x)) P Q M B) (fun ρ J => c_X2_discount hl) (fun N r ρ J => ?_) (by decide) (by decide) (by decide) (by decide)
  unfold omdisc
  split
  · exact c_X3_discount_x hl (by assumption)
  · exact c_X3_discount hl (by assumption)
theorem p_give (hl : l.stackTraces = false) (hc : c < 512) (hS : SS c n M) (x : Int32) : PrI l SS yX2_give cX2_give 2 (some .int) yX3_give cX3_give 2 (some .int) [IA] c n M [.int x] := by
  refine mkI (h2 := 1) hS (fun P Q B => (s_give hc (x := x)) P Q M B) (fun ρ J => c_X2_give hl) (fun N r ρ J => ?_) (by decide) (by decide) (by decide) (by decide)
  unfold omgive
  split
  · exact c_X3_give_x hl (by assumption)
  · exact c_X3_give hl (by assumption)
theorem p_check (hl : l.stackTraces = false) (hc : c < 512) (hS : SS c n M) (z : Int32) (hz : isB z) : PrD l SS yX2_check cX2_check 3 (some .boolean) yX3_check cX3_check 3 (some .boolean) c n M [.int z] :=
  mkD hS (fun P Q B => (s_check hc hz) P Q M B) (fun ρ J => c_X2_check hl hz hS.2.g.ck) (fun N r ρ J => c_X3_check hl hz (by rw [(r.ml 0).ck]; exact hS.2.g.ck))
theorem p_obey (hl : l.stackTraces = false) (hc : c < 512) (hS : SS c n M) (z : Int32) (hz : isB z) : PrD l SS yX2_obey cX2_obey 3 (some .boolean) yX3_obey cX3_obey 3 (some .boolean) c n M [.int z] :=
  mkD hS (fun P Q B => (s_obey hc hz) P Q M B) (fun ρ J => c_X2_obey hl hz hS.2.g.ob) (fun N r ρ J => c_X3_obey hl hz (by rw [(r.ml 0).ob]; exact hS.2.g.ob))
theorem p_breaches (hl : l.stackTraces = false) (hc : c < 512) (hS : SS c n M) : PrD l SS yX2_breaches cX2_breaches 1 (some .int) yX3_breaches cX3_breaches 1 (some .int) c n M [] :=
  mkD hS (fun P Q B => (s_breaches hc) P Q M B) (fun ρ J => c_X2_breaches hl) (fun N r ρ J => c_X3_breaches hl)
theorem p_kin (hl : l.stackTraces = false) (hc : c < 512) (hS : SS c n M) (x y : Int32) : PrI l SS yX2_kin cX2_kin 5 (some .int) yX3_kin cX3_kin 4 (some .int) [IX, IA] c n M [.int x, .int y] := by
  have n10 := hS.2.n10
  rcases idx3 x (n := n) (by omega) with h | ⟨k, hk, rfl⟩
  · exact mkI hS (fun P Q B => (s_thr hc (ts := [IX, IA]) (Ex := IX) (code := 1) (by decide) (by decide)) P Q M B) (fun ρ J => c_X2_kin_x hl h) (fun N r ρ J => c_X3_kin_x hl h n10 r.nn) (by decide) (by decide) (by decide) (by decide)
  · exact mkI hS (fun P Q B => (s_kin hc hk (y := y)) P Q M B) (fun ρ J => c_X2_kin hl hk n10 ) (fun N r ρ J => c_X3_kin hl hk n10 r.nn ) (by decide) (by decide) (by decide) (by decide)
theorem p_hew (hl : l.stackTraces = false) (hc : c < 512) (hS : SS c n M) (x y : Int32) : PrI l SS yX2_hew cX2_hew 4 (some .int) yX3_hew cX3_hew 3 (some .int) [IX, IA, IS] c n M [.int x, .int y] := by
  have n10 := hS.2.n10
  rcases idx3 x (n := n) (by omega) with h | ⟨k, hk, rfl⟩
  · exact mkI hS (fun P Q B => (s_thr hc (ts := [IX, IA, IS]) (Ex := IX) (code := 1) (by decide) (by decide)) P Q M B) (fun ρ J => c_X2_hew_x hl h) (fun N r ρ J => c_X3_hew_x hl h n10 r.nn) (by decide) (by decide) (by decide) (by decide)
  · exact mkI hS (fun P Q B => (s_hew hc hk (w := y)) P Q M B) (fun ρ J => c_X2_hew hl hk n10 ) (fun N r ρ J => c_X3_hew hl hk n10 r.nn ) (by decide) (by decide) (by decide) (by decide)
theorem p_change (hl : l.stackTraces = false) (hc : c < 512) (hS : SS c n M) (x y : Int32) : PrI l SS yX2_change cX2_change 5 (some .int) yX3_change cX3_change 5 (some .int) [IX, IA, IS] c n M [.int x, .int y] := by
  have n10 := hS.2.n10
  rcases idx3 x (n := n) (by omega) with h | ⟨k, hk, rfl⟩
  · exact mkI hS (fun P Q B => (s_thr hc (ts := [IX, IA, IS]) (Ex := IX) (code := 1) (by decide) (by decide)) P Q M B) (fun ρ J => c_X2_change_x hl h) (fun N r ρ J => c_X3_change_x hl h n10 r.nn) (by decide) (by decide) (by decide) (by decide)
  · exact mkI hS (fun P Q B => (s_change hc hk (w := y)) P Q M B) (fun ρ J => c_X2_change hl hk n10 ) (fun N r ρ J => c_X3_change hl hk n10 r.nn ) (by decide) (by decide) (by decide) (by decide)
theorem p_scripAnew (hl : l.stackTraces = false) (hc : c < 512) (hS : SS c n M) (x : Int32) : PrI l SS yX2_scripAnew cX2_scripAnew 3 (some .int) yX3_scripAnew cX3_scripAnew 2 (some .int) [IX] c n M [.int x] := by
  have n10 := hS.2.n10
  rcases idx3 x (n := n) (by omega) with h | ⟨k, hk, rfl⟩
  · exact mkI hS (fun P Q B => (s_thr hc (ts := [IX]) (Ex := IX) (code := 1) (by decide) (by decide)) P Q M B) (fun ρ J => c_X2_scripAnew_x hl h) (fun N r ρ J => c_X3_scripAnew_x hl h n10 r.nn) (by decide) (by decide) (by decide) (by decide)
  · exact mkI hS (fun P Q B => (s_anew hc hk) P Q M B) (fun ρ J => c_X2_scripAnew hl hk n10 ) (fun N r ρ J => c_X3_scripAnew hl hk n10 r.nn ) (by decide) (by decide) (by decide) (by decide)
theorem p_baskets (hl : l.stackTraces = false) (hc : c < 512) (hS : SS c n M) (x : Int32) : PrI l SS yX2_baskets cX2_baskets 5 (some .int) yX3_baskets cX3_baskets 4 (some .int) [IX] c n M [.int x] := by
  have n10 := hS.2.n10
  rcases idx3 x (n := n) (by omega) with h | ⟨k, hk, rfl⟩
  · exact mkI hS (fun P Q B => (s_thr hc (ts := [IX]) (Ex := IX) (code := 1) (by decide) (by decide)) P Q M B) (fun ρ J => c_X2_baskets_x hl h) (fun N r ρ J => c_X3_baskets_x hl h n10 r.nn) (by decide) (by decide) (by decide) (by decide)
  · exact mkI hS (fun P Q B => (s_bask hc hk) P Q M B) (fun ρ J => c_X2_baskets hl hk n10 ) (fun N r ρ J => c_X3_baskets hl hk n10 r.nn (bk_ne (r.ml 0) hS.2 hk)) (by decide) (by decide) (by decide) (by decide)
theorem p_die (hl : l.stackTraces = false) (hc : c < 512) (hS : SS c n M) (x : Int32) : PrI l SS yX2_die cX2_die 4 (some .int) yX3_die cX3_die 3 (some .int) [IX, IS] c n M [.int x] := by
  have n10 := hS.2.n10
  rcases idx3 x (n := n) (by omega) with h | ⟨k, hk, rfl⟩
  · exact mkI hS (fun P Q B => (s_thr hc (ts := [IX, IS]) (Ex := IX) (code := 1) (by decide) (by decide)) P Q M B) (fun ρ J => c_X2_die_x hl h) (fun N r ρ J => c_X3_die_x hl h n10 r.nn) (by decide) (by decide) (by decide) (by decide)
  · exact mkI hS (fun P Q B => (s_die hc hk) P Q M B) (fun ρ J => c_X2_die hl hk n10 (fun k hk => (hS.2.m.mi k hk).k3)) (fun N r ρ J => c_X3_die hl hk n10 r.nn (fun j hj => by rw [r.ki hj]; exact (hS.2.m.mi j hj).k3)) (by decide) (by decide) (by decide) (by decide)
theorem p_vote (hl : l.stackTraces = false) (hc : c < 512) (hS : SS c n M) (x y : Int32) (hy : isB y) : PrI l SS yX2_vote cX2_vote 5 (some .boolean) yX3_vote cX3_vote 4 (some .boolean) [IX] c n M [.int x, .int y] := by
  have n10 := hS.2.n10
  rcases idx3 x (n := n) (by omega) with h | ⟨k, hk, rfl⟩
  · exact mkI hS (fun P Q B => (s_thr hc (ts := [IX]) (Ex := IX) (code := 1) (by decide) (by decide)) P Q M B) (fun ρ J => c_X2_vote_x hl h) (fun N r ρ J => c_X3_vote_x hl h n10 r.nn) (by decide) (by decide) (by decide) (by decide)
  · exact mkI hS (fun P Q B => (s_vote hc hk hy) P Q M B) (fun ρ J => c_X2_vote hl hk n10 hy (hS.2.m.mi k hk).b2) (fun N r ρ J => c_X3_vote hl hk n10 r.nn hy (by rw [(r.ml 0).vo hk]; exact (hS.2.m.mi k hk).b2)) (by decide) (by decide) (by decide) (by decide)
theorem p_raised (hl : l.stackTraces = false) (hc : c < 512) (hS : SS c n M) (x y : Int32) : PrI l SS yX2_raised cX2_raised 4 (some .int) yX3_raised cX3_raised 3 (some .int) [IX] c n M [.int x, .int y] := by
  have n10 := hS.2.n10
  rcases idx3 x (n := n) (by omega) with h | ⟨k, hk, rfl⟩
  · exact mkI hS (fun P Q B => (s_thr hc (ts := [IX]) (Ex := IX) (code := 1) (by decide) (by decide)) P Q M B) (fun ρ J => c_X2_raised_x hl h) (fun N r ρ J => c_X3_raised_x hl h n10 r.nn) (by decide) (by decide) (by decide) (by decide)
  · rcases idx3 y (n := 4) (by decide) with h | ⟨g, hg, rfl⟩
    · exact mkI hS (fun P Q B => (s_thr hc (ts := [IX]) (Ex := IX) (code := 1) (by decide) (by decide)) P Q M B) (fun ρ J => c_X2_raised_g hl hk n10 (rg4 h)) (fun N r ρ J => c_X3_raised_g hl hk n10 r.nn (rg4 h)) (by decide) (by decide) (by decide) (by decide)
    · exact mkI hS (fun P Q B => (s_raised hc hk hg) P Q M B) (fun ρ J => c_X2_raised hl hk n10 hg) (fun N r ρ J => c_X3_raised hl hk n10 r.nn hg) (by decide) (by decide) (by decide) (by decide)
theorem p_whyNot (hl : l.stackTraces = false) (hc : c < 512) (hS : SS c n M) (x y z : Int32) : PrI l SS yX2_whyNot cX2_whyNot 5 (some .int) yX3_whyNot cX3_whyNot 4 (some .int) [IX, IA] c n M [.int x, .int y, .int z] := by
  have n10 := hS.2.n10
  rcases idx3 x (n := n) (by omega) with h | ⟨k, hk, rfl⟩
  · exact mkI hS (fun P Q B => (s_thr hc (ts := [IX, IA]) (Ex := IX) (code := 1) (by decide) (by decide)) P Q M B) (fun ρ J => c_X2_whyNot_x hl h) (fun N r ρ J => c_X3_whyNot_x hl h n10 r.nn) (by decide) (by decide) (by decide) (by decide)
  · rcases idx3 y (n := 4) (by decide) with h | ⟨g, hg, rfl⟩
    · exact mkI hS (fun P Q B => (s_thr hc (ts := [IX, IA]) (Ex := IX) (code := 1) (by decide) (by decide)) P Q M B) (fun ρ J => c_X2_whyNot_g hl hk n10 (rg4 h)) (fun N r ρ J => c_X3_whyNot_g hl hk n10 r.nn (rg4 h)) (by decide) (by decide) (by decide) (by decide)
    · exact mkI hS (fun P Q B => (s_why hc hk hg (w := z)) P Q M B) (fun ρ J => c_X2_whyNot hl hk n10 hg) (fun N r ρ J => c_X3_whyNot hl hk n10 r.nn hg) (by decide) (by decide) (by decide) (by decide)
theorem p_buy (hl : l.stackTraces = false) (hc : c < 512) (hS : SS c n M) (x y z : Int32) : PrI l SS yX2_buy cX2_buy 8 (some .int) yX3_buy cX3_buy 9 (some .int) [IX, IA, IS] c n M [.int x, .int y, .int z] := by
  have n10 := hS.2.n10
  rcases idx3 x (n := n) (by omega) with h | ⟨k, hk, rfl⟩
  · exact mkI hS (fun P Q B => (s_thr hc (ts := [IX, IA, IS]) (Ex := IX) (code := 1) (by decide) (by decide)) P Q M B) (fun ρ J => c_X2_buy_x hl h) (fun N r ρ J => c_X3_buy_x hl h n10 r.nn) (by decide) (by decide) (by decide) (by decide)
  · rcases idx3 y (n := 4) (by decide) with h | ⟨g, hg, rfl⟩
    · exact mkI hS (fun P Q B => (s_thr hc (ts := [IX, IA, IS]) (Ex := IX) (code := 1) (by decide) (by decide)) P Q M B) (fun ρ J => c_X2_buy_g hl hk n10 (rg4 h)) (fun N r ρ J => c_X3_buy_g hl hk n10 r.nn (rg4 h)) (by decide) (by decide) (by decide) (by decide)
    · exact mkI hS (fun P Q B => (s_buy hc hk hg (w := z)) P Q M B) (fun ρ J => c_X2_buy hl hk n10 hg) (fun N r ρ J => c_X3_buy hl hk n10 r.nn hg) (by decide) (by decide) (by decide) (by decide)
theorem p_over (hl : l.stackTraces = false) (hc : c < 512) (hS : SS c n M) (x y z : Int32) : PrI l SS yX2_over cX2_over 6 (some .int) yX3_over cX3_over 6 (some .int) [IX, IA, IS] c n M [.int x, .int y, .int z] := by
  have n10 := hS.2.n10
  rcases idx3 x (n := n) (by omega) with h | ⟨k, hk, rfl⟩
  · exact mkI hS (fun P Q B => (s_thr hc (ts := [IX, IA, IS]) (Ex := IX) (code := 1) (by decide) (by decide)) P Q M B) (fun ρ J => c_X2_over_x hl h) (fun N r ρ J => c_X3_over_x hl h n10 r.nn) (by decide) (by decide) (by decide) (by decide)
  · rcases idx3 y (n := 4) (by decide) with h | ⟨g, hg, rfl⟩
    · exact mkI hS (fun P Q B => (s_thr hc (ts := [IX, IA, IS]) (Ex := IX) (code := 1) (by decide) (by decide)) P Q M B) (fun ρ J => c_X2_over_g hl hk n10 (rg4 h)) (fun N r ρ J => c_X3_over_g hl hk n10 r.nn (rg4 h)) (by decide) (by decide) (by decide) (by decide)
    · exact mkI hS (fun P Q B => (s_over hc hk hg (w := z)) P Q M B) (fun ρ J => c_X2_over hl hk n10 hg) (fun N r ρ J => c_X3_over hl hk n10 r.nn hg) (by decide) (by decide) (by decide) (by decide)
theorem p_has (hl : l.stackTraces = false) (hc : c < 512) (hS : SS c n M) (x y : Int32) : PrI l SS yX2_has cX2_has 4 (some .int) yX3_has cX3_has 3 (some .int) [IX] c n M [.int x, .int y] := by
  have n10 := hS.2.n10
  rcases idx3 x (n := n) (by omega) with h | ⟨k, hk, rfl⟩
  · exact mkI hS (fun P Q B => (s_thr hc (ts := [IX]) (Ex := IX) (code := 1) (by decide) (by decide)) P Q M B) (fun ρ J => c_X2_has_x hl h) (fun N r ρ J => c_X3_has_x hl h n10 r.nn) (by decide) (by decide) (by decide) (by decide)
  · rcases idx3 y (n := 4) (by decide) with h | ⟨g, hg, rfl⟩
    · exact mkI hS (fun P Q B => (s_thr hc (ts := [IX]) (Ex := IX) (code := 1) (by decide) (by decide)) P Q M B) (fun ρ J => c_X2_has_g hl hk n10 (rg4 h)) (fun N r ρ J => c_X3_has_g hl hk n10 r.nn (rg4 h)) (by decide) (by decide) (by decide) (by decide)
    · exact mkI hS (fun P Q B => (s_has hc hk hg) P Q M B) (fun ρ J => c_X2_has hl hk n10 hg) (fun N r ρ J => c_X3_has hl hk n10 r.nn hg) (by decide) (by decide) (by decide) (by decide)
theorem p_scrip (hl : l.stackTraces = false) (hc : c < 512) (hS : SS c n M) (x y : Int32) : PrI l SS yX2_scrip cX2_scrip 4 (some .int) yX3_scrip cX3_scrip 3 (some .int) [IX, IA] c n M [.int x, .int y] := by
  have n10 := hS.2.n10
  rcases idx3 x (n := n) (by omega) with h | ⟨k, hk, rfl⟩
  · exact mkI hS (fun P Q B => (s_thr hc (ts := [IX, IA]) (Ex := IX) (code := 1) (by decide) (by decide)) P Q M B) (fun ρ J => c_X2_scrip_x hl h) (fun N r ρ J => c_X3_scrip_x hl h n10 r.nn) (by decide) (by decide) (by decide) (by decide)
  · rcases idx3 y (n := 40) (by decide) with h | ⟨g, hg, rfl⟩
    · exact mkI hS (fun P Q B => (s_thr hc (ts := [IX, IA]) (Ex := IA) (code := 2) (by decide) (by decide)) P Q M B) (fun ρ J => c_X2_scrip_g hl hk n10 (rg40 h)) (fun N r ρ J => c_X3_scrip_g hl hk n10 r.nn (rg40 h)) (by decide) (by decide) (by decide) (by decide)
    · exact mkI hS (fun P Q B => (s_scrip hc hk hg) P Q M B) (fun ρ J => c_X2_scrip hl hk n10 hg) (fun N r ρ J => c_X3_scrip hl hk n10 r.nn hg) (by decide) (by decide) (by decide) (by decide)
theorem p_about (hl : l.stackTraces = false) (hc : c < 512) (hS : SS c n M) (x y : Int32) : PrI l SS yX2_about cX2_about 4 (some .int) yX3_about cX3_about 3 (some .int) [IX, IA] c n M [.int x, .int y] := by
  have n10 := hS.2.n10
  rcases idx3 x (n := n) (by omega) with h | ⟨k, hk, rfl⟩
  · exact mkI hS (fun P Q B => (s_thr hc (ts := [IX, IA]) (Ex := IX) (code := 1) (by decide) (by decide)) P Q M B) (fun ρ J => c_X2_about_x hl h) (fun N r ρ J => c_X3_about_x hl h n10 r.nn) (by decide) (by decide) (by decide) (by decide)
  · rcases idx3 y (n := 10) (by decide) with h | ⟨j, hj, rfl⟩
    · exact mkI hS (fun P Q B => (s_thr hc (ts := [IX, IA]) (Ex := IA) (code := 2) (by decide) (by decide)) P Q M B) (fun ρ J => c_X2_about_y hl hk n10 (rg10 h)) (fun N r ρ J => c_X3_about_y hl hk n10 r.nn (rg10 h)) (by decide) (by decide) (by decide) (by decide)
    · match j, hj with
      | 0, _ => exact mkI hS (fun P Q B => (s_ab hc hk (j := 0) (by decide)) P Q M B) (fun ρ J => c_X2_about_0 hl hk n10) (fun N r ρ J => c_X3_about_0 hl hk n10 r.nn) (by decide) (by decide) (by decide) (by decide)
      | 1, _ => exact mkI hS (fun P Q B => (s_ab hc hk (j := 1) (by decide)) P Q M B) (fun ρ J => c_X2_about_1 hl hk n10) (fun N r ρ J => c_X3_about_1 hl hk n10 r.nn) (by decide) (by decide) (by decide) (by decide)
      | 2, _ => exact mkI hS (fun P Q B => (s_ab hc hk (j := 2) (by decide)) P Q M B) (fun ρ J => c_X2_about_2 hl hk n10) (fun N r ρ J => c_X3_about_2 hl hk n10 r.nn) (by decide) (by decide) (by decide) (by decide)
      | 3, _ => exact mkI hS (fun P Q B => (s_ab hc hk (j := 3) (by decide)) P Q M B) (fun ρ J => c_X2_about_3 hl hk n10) (fun N r ρ J => c_X3_about_3 hl hk n10 r.nn) (by decide) (by decide) (by decide) (by decide)
      | 4, _ => exact mkI hS (fun P Q B => (s_ab hc hk (j := 4) (by decide)) P Q M B) (fun ρ J => c_X2_about_4 hl hk n10) (fun N r ρ J => c_X3_about_4 hl hk n10 r.nn) (by decide) (by decide) (by decide) (by decide)
      | 5, _ => exact mkI hS (fun P Q B => (s_ab hc hk (j := 5) (by decide)) P Q M B) (fun ρ J => c_X2_about_5 hl hk n10) (fun N r ρ J => c_X3_about_5 hl hk n10 r.nn) (by decide) (by decide) (by decide) (by decide)
      | 6, _ => exact mkI hS (fun P Q B => (s_ab hc hk (j := 6) (by decide)) P Q M B) (fun ρ J => c_X2_about_6 hl hk n10) (fun N r ρ J => c_X3_about_6 hl hk n10 r.nn) (by decide) (by decide) (by decide) (by decide)
      | 7, _ => exact mkI hS (fun P Q B => (s_ab hc hk (j := 7) (by decide)) P Q M B) (fun ρ J => c_X2_about_7 hl hk n10) (fun N r ρ J => c_X3_about_7 hl hk n10 r.nn) (by decide) (by decide) (by decide) (by decide)
      | 8, _ => exact mkI hS (fun P Q B => (s_ab hc hk (j := 8) (by decide)) P Q M B) (fun ρ J => c_X2_about_8 hl hk n10) (fun N r ρ J => c_X3_about_8 hl hk n10 r.nn) (by decide) (by decide) (by decide) (by decide)
      | 9, _ => exact mkI hS (fun P Q B => (s_ab hc hk (j := 9) (by decide)) P Q M B) (fun ρ J => c_X2_about_9 hl hk n10) (fun N r ρ J => c_X3_about_9 hl hk n10 r.nn) (by decide) (by decide) (by decide) (by decide)
theorem p_tell (hl : l.stackTraces = false) (hc : c < 512) (hS : SS c n M) (x y : Int32) : PrI l SS yX2_tell cX2_tell 4 (some .int) yX3_tell cX3_tell 4 (some .int) [IA] c n M [.int x, .int y] := by
  rcases idx3 x (n := 5) (by decide) with h | ⟨j, hj, rfl⟩
  · exact mkI hS (fun P Q B => (s_thr hc (ts := [IA]) (Ex := IA) (code := 1) (by decide) (by decide)) P Q M B) (fun ρ J => c_X2_tell_x hl (rg5 h)) (fun N r ρ J => c_X3_tell_x hl (rg5 h)) (by decide) (by decide) (by decide) (by decide)
  · exact mkI hS (fun P Q B => (s_tell hc hj (y := y)) P Q M B) (fun ρ J => c_X2_tell hl hj) (fun N r ρ J => c_X3_tell hl hj) (by decide) (by decide) (by decide) (by decide)
theorem p_price (hl : l.stackTraces = false) (hc : c < 512) (hS : SS c n M) (x y z : Int32) : PrI l SS yX2_price cX2_price 6 (some .int) yX3_price cX3_price 6 (some .int) [IX, IA] c n M [.int x, .int y, .int z] := by
  rcases idx3 x (n := 4) (by decide) with h | ⟨j, hj, rfl⟩
  · exact mkI hS (fun P Q B => (s_thr hc (ts := [IX, IA]) (Ex := IX) (code := 1) (by decide) (by decide)) P Q M B) (fun ρ J => c_X2_price_x hl (rg4 h)) (fun N r ρ J => c_X3_price_x hl (rg4 h)) (by decide) (by decide) (by decide) (by decide)
  · exact mkI hS (fun P Q B => (s_price hc hj (y := y) (z := z)) P Q M B) (fun ρ J => c_X2_price hl hj) (fun N r ρ J => c_X3_price hl hj) (by decide) (by decide) (by decide) (by decide)
theorem p_law (hl : l.stackTraces = false) (hc : c < 512) (hS : SS c n M) (x y : Int32) (hy : isB y) : PrI l SS yX2_law cX2_law 4 (some .boolean) yX3_law cX3_law 4 (some .boolean) [IX] c n M [.int x, .int y] := by
  rcases idx3 x (n := 3) (by decide) with h | ⟨j, hj, rfl⟩
  · exact mkI hS (fun P Q B => (s_thr hc (ts := [IX]) (Ex := IX) (code := 1) (by decide) (by decide)) P Q M B) (fun ρ J => c_X2_law_x hl (rg3 h).1) (fun N r ρ J => c_X3_law_x hl (rg3 h).2) (by decide) (by decide) (by decide) (by decide)
  · exact mkI hS (fun P Q B => (s_law hc hj hy) P Q M B) (fun ρ J => c_X2_law hl hj hy (hS.2.g.la j hj)) (fun N r ρ J => c_X3_law hl hj hy (by rw [(r.ml 0).la hj]; exact hS.2.g.la j hj)) (by decide) (by decide) (by decide) (by decide)
theorem p_books (hl : l.stackTraces = false) (hc : c < 512) (hS : SS c n M) (x : Int32) : PrI l SS yX2_books cX2_books 2 (some .int) yX3_books cX3_books 2 (some .int) [IX] c n M [.int x] := by
  rcases idx3 x (n := 6) (by decide) with h | ⟨j, hj, rfl⟩
  · exact mkI hS (fun P Q B => (s_thr hc (ts := [IX]) (Ex := IX) (code := 1) (by decide) (by decide)) P Q M B) (fun ρ J => c_X2_books_x hl (rg6 h).1) (fun N r ρ J => c_X3_books_x hl (rg6 h).2) (by decide) (by decide) (by decide) (by decide)
  · exact mkI hS (fun P Q B => (s_books hc hj) P Q M B) (fun ρ J => c_X2_books hl hj) (fun N r ρ J => c_X3_books hl hj) (by decide) (by decide) (by decide) (by decide)
theorem p_edition (hl : l.stackTraces = false) (hc : c < 512) (hS : SS c n M) (x : Int32) : PrI l SS yX2_edition cX2_edition 3 (some .int) yX3_edition cX3_edition 3 (some .int) [IA] c n M [.int x] := by
  exact mkI hS (fun P Q B => (s_edition hc (x := x)) P Q M B) (fun ρ J => c_X2_edition hl) (fun N r ρ J => c_X3_edition hl) (by decide) (by decide) (by decide) (by decide)
theorem p_close (hl : l.stackTraces = false) (hc : c < 512) (hS : SS c n M) (x : Int32) : PrI l SS yX2_close cX2_close 4 (some .int) yX3_close cX3_close 4 (some .int) [IA, IS] c n M [.int x] := by
  exact mkI hS (fun P Q B => (s_close hc (m := x)) P Q M B) (fun ρ J => c_X2_close hl hS.2.n10) (fun N r ρ J => c_X3_close hl hS.2.n10 r.nn) (by decide) (by decide) (by decide) (by decide)
theorem p_strike (hl : l.stackTraces = false) (hc : c < 512) (hS : SS c n M)  : PrI l SS yX2_strike cX2_strike 1 (some .boolean) yX3_strike cX3_strike 3 (some .boolean) [IS] c n M [] := by
  exact mkI hS (fun P Q B => (s_strike hc) P Q M B) (fun ρ J => c_X2_strike hl hS.2.n10) (fun N r ρ J => c_X3_strike hl hS.2.n10 r.nn) (by decide) (by decide) (by decide) (by decide)
theorem p_payday (hl : l.stackTraces = false) (hc : c < 512) (hS : SS c n M)  : PrI l SS yX2_payday cX2_payday 4 (some .int) yX3_payday cX3_payday 3 (some .int) [IS] c n M [] := by
  obtain ⟨p, hp, e⟩ := hS.2.g.pd
  exact mkI hS (fun P Q B h I => s_payday hc hp P Q M B h I e) (fun ρ J => c_X2_payday hl hS.2.n10 hp e) (fun N r ρ J => c_X3_payday hl hp (by rw [r.pd]; exact e) (by rw [r.ed]; exact hS.2.g.ed.1) hS.2.n10 r.nn) (by decide) (by decide) (by decide) (by decide)
theorem p_soup (hl : l.stackTraces = false) (hc : c < 512) (hS : SS c n M)  : PrI l SS yX2_soup cX2_soup 4 (some .int) yX3_soup cX3_soup 5 (some .int) [IS] c n M [] := by
  have fu := hS.2.g.fu
  have b := ib (M 0 16)
  exact mkI hS (fun P Q B h I => s_soup hc (φ := (M 0 16).toInt.toNat) P Q M B h I (by omega)) (fun ρ J => c_X2_soup hl hS.2.n10) (fun N r ρ J => c_X3_soup hl hS.2.n10 r.nn (φ := (M 0 16).toInt.toNat) (by omega) (by rw [r.fu, eqi, nI_toInt (by omega)]; omega) (by rw [r.st]; exact hS.2.g.st)) (by decide) (by decide) (by decide) (by decide)
theorem p_house (hl : l.stackTraces = false) (hc : c < 512) (hS : SS c n M) (x : Int32) : PrV l SS yX2_house cX2_house 3 none yX3_house cX3_house 2 none [IX, IS] c n M [.int x] := by
  have n10 := hS.2.n10
  rcases idx3 x (n := n) (by omega) with h | ⟨k, hk, rfl⟩
  · exact mkV hS (sv_thr hc) (fun ρ J => c_X2_house_x hl h) (fun N r ρ J => c_X3_house_x hl h n10 r.nn) (by decide) (by decide) (by decide) (by decide)
  · exact mkV hS (s_house hc hk) (fun ρ J => c_X2_house hl hk n10) (fun N r ρ J => c_X3_house hl hk n10 r.nn) (by decide) (by decide) (by decide) (by decide)
theorem p_miner (hl : l.stackTraces = false) (hc : c < 512) (hS : SS c n M) : PrM l SS c n M := by
  refine ⟨fun hn => ?_, fun hn => ?_⟩
  · obtain ⟨a1, a2⟩ := hS.new hc hn
    refine ⟨mmN (newM M n) n, fun ρ J => ?_, a2, a1⟩
    have e : newM M n 9 0 = nI n := by
      rw [(newM_r (M := M) (n := n)).1 9 (by unfold mO; omega) (by unfold mG; omega) (by unfold mS; omega) (by decide)]
      exact hS.1.nn
    have k := c_X3_miner hl (n := n + 1) (ρ := ρ) (J := J) (M := newM M n) (q := n) (by omega) e
    unfold ommin at k
    rw [if_pos hn] at k
    exact k
  · subst hn
    refine ⟨0, ml M 1, fun ρ J => ?_, up_same _ _ _ _, hS.idle hc 1⟩
    have k := c_X3_miner hl (n := 10) (ρ := ρ) (J := J) (M := M) (q := 10) (by omega) hS.1.nn
    unfold ommin at k
    rw [if_neg (by decide)] at k
    exact k
end Good2
theorem good_SS {l : Launch} (hl : l.stackTraces = false) : Good l SS := by
  intro c n M hc hS
  exact ⟨hS.2.n10, p_miner hl hc hS,
    fun x y => p_kin hl hc hS x y,
    fun x => p_dock hl hc hS x,
    fun x hx => p_check hl hc hS x hx,
    fun x y => p_hew hl hc hS x y,
    fun x => p_edition hl hc hS x,
    fun x y => p_tell hl hc hS x y,
    p_payday hl hc hS,
    fun x => p_house hl hc hS x,
    fun x y z _ => p_price hl hc hS x y z,
    fun x y => p_raised hl hc hS x y,
    fun x => p_limit hl hc hS x,
    fun x y z => p_whyNot hl hc hS x y z,
    fun x y z => p_buy hl hc hS x y z,
    fun x y z => p_over hl hc hS x y z,
    fun x => p_discount hl hc hS x,
    fun x y => p_change hl hc hS x y,
    fun x y hy => p_law hl hc hS x y hy,
    fun x hx => p_obey hl hc hS x hx,
    p_breaches hl hc hS,
    fun x => p_die hl hc hS x,
    fun x y hy => p_vote hl hc hS x y hy,
    p_strike hl hc hS,
    fun x => p_give hl hc hS x,
    p_soup hl hc hS,
    fun x => p_close hl hc hS x,
    fun x y => p_about hl hc hS x y,
    fun x y => p_has hl hc hS x y,
    fun x y => p_scrip hl hc hS x y,
    fun x => p_scripAnew hl hc hS x,
    fun x => p_baskets hl hc hS x,
    fun x => p_books hl hc hS x⟩
