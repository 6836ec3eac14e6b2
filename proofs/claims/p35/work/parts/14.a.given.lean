/-! What the start gives. -/
theorem st_ng {b : Addr} {s : State} (hts : ∀ w ∈ lw_tbl, w.before #[Value.ref b] s = true) : ∀ q ∈ NGw, va_Nw q s := by
  intro q hq
  simp only [NGw, List.mem_cons, List.not_mem_nil, or_false] at hq
  rcases hq with rfl | rfl | rfl | rfl | rfl | rfl
  · exact va_Nw.of rfl (hts _ (by decide +kernel))
  · exact va_Nw.of rfl (hts _ (by decide +kernel))
  · exact va_Nw.of rfl (hts _ (by decide +kernel))
  · exact va_Nw.of rfl (hts _ (by decide +kernel))
  · exact va_Nw.of rfl (hts _ (by decide +kernel))
  · exact va_Nw.of rfl (hts _ (by decide +kernel))
theorem st_s0 {b : Addr} {s : State} (hts : ∀ w ∈ lw_tbl, w.before #[Value.ref b] s = true) (hgv : (Jvm.Cond.and given_1 narrow_1).before #[Value.ref b] s = true) : ∃ a, vk_R RX2 59 "there are 10 miners" a s := by
  have hex : (Cond.exactly (.string "ScripHollow" 59) "java/lang/String").before #[Value.ref b] s = true := flat_of_before _ hgv _ (by decide +kernel)
  obtain ⟨a, -, -, -, ha, -⟩ := Cond.exactly_spec hex
  exact ⟨a, vk_R.of (hts (.stringRef "ScripHollow" 59 "there are 10 miners") (by decide +kernel)) ha⟩
theorem st_s1 {b : Addr} {s : State} (hts : ∀ w ∈ lw_tbl, w.before #[Value.ref b] s = true) (hgv : (Jvm.Cond.and given_1 narrow_1).before #[Value.ref b] s = true) : ∃ a, vk_R RX2 77 "nobody is their own kin" a s := by
  have hex : (Cond.exactly (.string "ScripHollow" 77) "java/lang/String").before #[Value.ref b] s = true := flat_of_before _ hgv _ (by decide +kernel)
  obtain ⟨a, -, -, -, ha, -⟩ := Cond.exactly_spec hex
  exact ⟨a, vk_R.of (hts (.stringRef "ScripHollow" 77 "nobody is their own kin") (by decide +kernel)) ha⟩
theorem st_s2 {b : Addr} {s : State} (hts : ∀ w ∈ lw_tbl, w.before #[Value.ref b] s = true) (hgv : (Jvm.Cond.and given_1 narrow_1).before #[Value.ref b] s = true) : ∃ a, vk_R RX2 101 "nobody hews now" a s := by
  have hex : (Cond.exactly (.string "ScripHollow" 101) "java/lang/String").before #[Value.ref b] s = true := flat_of_before _ hgv _ (by decide +kernel)
  obtain ⟨a, -, -, -, ha, -⟩ := Cond.exactly_spec hex
  exact ⟨a, vk_R.of (hts (.stringRef "ScripHollow" 101 "nobody hews now") (by decide +kernel)) ha⟩
theorem st_s3 {b : Addr} {s : State} (hts : ∀ w ∈ lw_tbl, w.before #[Value.ref b] s = true) (hgv : (Jvm.Cond.and given_1 narrow_1).before #[Value.ref b] s = true) : ∃ a, vk_R RX2 110 "not a row of unlike kinds" a s := by
  have hex : (Cond.exactly (.string "ScripHollow" 110) "java/lang/String").before #[Value.ref b] s = true := flat_of_before _ hgv _ (by decide +kernel)
  obtain ⟨a, -, -, -, ha, -⟩ := Cond.exactly_spec hex
  exact ⟨a, vk_R.of (hts (.stringRef "ScripHollow" 110 "not a row of unlike kinds") (by decide +kernel)) ha⟩
theorem st_s4 {b : Addr} {s : State} (hts : ∀ w ∈ lw_tbl, w.before #[Value.ref b] s = true) (hgv : (Jvm.Cond.and given_1 narrow_1).before #[Value.ref b] s = true) : ∃ a, vk_R RX2 115 "no payday can be held" a s := by
  have hex : (Cond.exactly (.string "ScripHollow" 115) "java/lang/String").before #[Value.ref b] s = true := flat_of_before _ hgv _ (by decide +kernel)
  obtain ⟨a, -, -, -, ha, -⟩ := Cond.exactly_spec hex
  exact ⟨a, vk_R.of (hts (.stringRef "ScripHollow" 115 "no payday can be held") (by decide +kernel)) ha⟩
theorem st_s5 {b : Addr} {s : State} (hts : ∀ w ∈ lw_tbl, w.before #[Value.ref b] s = true) (hgv : (Jvm.Cond.and given_1 narrow_1).before #[Value.ref b] s = true) : ∃ a, vk_R RX2 140 "the miner has a house, or arrears" a s := by
  have hex : (Cond.exactly (.string "ScripHollow" 140) "java/lang/String").before #[Value.ref b] s = true := flat_of_before _ hgv _ (by decide +kernel)
  obtain ⟨a, -, -, -, ha, -⟩ := Cond.exactly_spec hex
  exact ⟨a, vk_R.of (hts (.stringRef "ScripHollow" 140 "the miner has a house, or arrears") (by decide +kernel)) ha⟩
theorem st_s6 {b : Addr} {s : State} (hts : ∀ w ∈ lw_tbl, w.before #[Value.ref b] s = true) (hgv : (Jvm.Cond.and given_1 narrow_1).before #[Value.ref b] s = true) : ∃ a, vk_R RX2 152 "the store refuses" a s := by
  have hex : (Cond.exactly (.string "ScripHollow" 152) "java/lang/String").before #[Value.ref b] s = true := flat_of_before _ hgv _ (by decide +kernel)
  obtain ⟨a, -, -, -, ha, -⟩ := Cond.exactly_spec hex
  exact ⟨a, vk_R.of (hts (.stringRef "ScripHollow" 152 "the store refuses") (by decide +kernel)) ha⟩
theorem st_s7 {b : Addr} {s : State} (hts : ∀ w ∈ lw_tbl, w.before #[Value.ref b] s = true) (hgv : (Jvm.Cond.and given_1 narrow_1).before #[Value.ref b] s = true) : ∃ a, vk_R RX2 173 "the miner has less coin" a s := by
  have hex : (Cond.exactly (.string "ScripHollow" 173) "java/lang/String").before #[Value.ref b] s = true := flat_of_before _ hgv _ (by decide +kernel)
  obtain ⟨a, -, -, -, ha, -⟩ := Cond.exactly_spec hex
  exact ⟨a, vk_R.of (hts (.stringRef "ScripHollow" 173 "the miner has less coin") (by decide +kernel)) ha⟩
theorem st_s8 {b : Addr} {s : State} (hts : ∀ w ∈ lw_tbl, w.before #[Value.ref b] s = true) (hgv : (Jvm.Cond.and given_1 narrow_1).before #[Value.ref b] s = true) : ∃ a, vk_R RX2 179 "the miner has less scrip" a s := by
  have hex : (Cond.exactly (.string "ScripHollow" 179) "java/lang/String").before #[Value.ref b] s = true := flat_of_before _ hgv _ (by decide +kernel)
  obtain ⟨a, -, -, -, ha, -⟩ := Cond.exactly_spec hex
  exact ⟨a, vk_R.of (hts (.stringRef "ScripHollow" 179 "the miner has less scrip") (by decide +kernel)) ha⟩
theorem st_s9 {b : Addr} {s : State} (hts : ∀ w ∈ lw_tbl, w.before #[Value.ref b] s = true) (hgv : (Jvm.Cond.and given_1 narrow_1).before #[Value.ref b] s = true) : ∃ a, vk_R RX2 209 "no strike can begin" a s := by
  have hex : (Cond.exactly (.string "ScripHollow" 209) "java/lang/String").before #[Value.ref b] s = true := flat_of_before _ hgv _ (by decide +kernel)
  obtain ⟨a, -, -, -, ha, -⟩ := Cond.exactly_spec hex
  exact ⟨a, vk_R.of (hts (.stringRef "ScripHollow" 209 "no strike can begin") (by decide +kernel)) ha⟩
theorem st_s10 {b : Addr} {s : State} (hts : ∀ w ∈ lw_tbl, w.before #[Value.ref b] s = true) (hgv : (Jvm.Cond.and given_1 narrow_1).before #[Value.ref b] s = true) : ∃ a, vk_R RX2 214 "there is no strike" a s := by
  have hex : (Cond.exactly (.string "ScripHollow" 214) "java/lang/String").before #[Value.ref b] s = true := flat_of_before _ hgv _ (by decide +kernel)
  obtain ⟨a, -, -, -, ha, -⟩ := Cond.exactly_spec hex
  exact ⟨a, vk_R.of (hts (.stringRef "ScripHollow" 214 "there is no strike") (by decide +kernel)) ha⟩
theorem st_s11 {b : Addr} {s : State} (hts : ∀ w ∈ lw_tbl, w.before #[Value.ref b] s = true) (hgv : (Jvm.Cond.and given_1 narrow_1).before #[Value.ref b] s = true) : ∃ a, vk_R RX2 219 "the mine is closed" a s := by
  have hex : (Cond.exactly (.string "ScripHollow" 219) "java/lang/String").before #[Value.ref b] s = true := flat_of_before _ hgv _ (by decide +kernel)
  obtain ⟨a, -, -, -, ha, -⟩ := Cond.exactly_spec hex
  exact ⟨a, vk_R.of (hts (.stringRef "ScripHollow" 219 "the mine is closed") (by decide +kernel)) ha⟩
theorem st_s12 {b : Addr} {s : State} (hts : ∀ w ∈ lw_tbl, w.before #[Value.ref b] s = true) (hgv : (Jvm.Cond.and given_1 narrow_1).before #[Value.ref b] s = true) : ∃ a, vk_R RX2 227 "nothing is told by this number" a s := by
  have hex : (Cond.exactly (.string "ScripHollow" 227) "java/lang/String").before #[Value.ref b] s = true := flat_of_before _ hgv _ (by decide +kernel)
  obtain ⟨a, -, -, -, ha, -⟩ := Cond.exactly_spec hex
  exact ⟨a, vk_R.of (hts (.stringRef "ScripHollow" 227 "nothing is told by this number") (by decide +kernel)) ha⟩
theorem st_s13 {b : Addr} {s : State} (hts : ∀ w ∈ lw_tbl, w.before #[Value.ref b] s = true) (hgv : (Jvm.Cond.and given_1 narrow_1).before #[Value.ref b] s = true) : ∃ a, vk_R RX2 240 "there is none of this number" a s := by
  have hex : (Cond.exactly (.string "ScripHollow" 240) "java/lang/String").before #[Value.ref b] s = true := flat_of_before _ hgv _ (by decide +kernel)
  obtain ⟨a, -, -, -, ha, -⟩ := Cond.exactly_spec hex
  exact ⟨a, vk_R.of (hts (.stringRef "ScripHollow" 240 "there is none of this number") (by decide +kernel)) ha⟩
theorem st_s14 {b : Addr} {s : State} (hts : ∀ w ∈ lw_tbl, w.before #[Value.ref b] s = true) (hgv : (Jvm.Cond.and given_1 narrow_1).before #[Value.ref b] s = true) : ∃ a, vk_R RX2 243 "out of its range" a s := by
  have hex : (Cond.exactly (.string "ScripHollow" 243) "java/lang/String").before #[Value.ref b] s = true := flat_of_before _ hgv _ (by decide +kernel)
  obtain ⟨a, -, -, -, ha, -⟩ := Cond.exactly_spec hex
  exact ⟨a, vk_R.of (hts (.stringRef "ScripHollow" 243 "out of its range") (by decide +kernel)) ha⟩
theorem st_s15 {b : Addr} {s : State} (hts : ∀ w ∈ lw_tbl, w.before #[Value.ref b] s = true) (hgv : (Jvm.Cond.and given_1 narrow_1).before #[Value.ref b] s = true) : ∃ a, vk_R RX2 245 "the miner is not alive" a s := by
  have hex : (Cond.exactly (.string "ScripHollow" 245) "java/lang/String").before #[Value.ref b] s = true := flat_of_before _ hgv _ (by decide +kernel)
  obtain ⟨a, -, -, -, ha, -⟩ := Cond.exactly_spec hex
  exact ⟨a, vk_R.of (hts (.stringRef "ScripHollow" 245 "the miner is not alive") (by decide +kernel)) ha⟩
theorem st_str {b : Addr} {s : State} (hts : ∀ w ∈ lw_tbl, w.before #[Value.ref b] s = true) (hgv : (Jvm.Cond.and given_1 narrow_1).before #[Value.ref b] s = true) : ∀ q ∈ strs, ∃ a, vk_R RX2 q.1 q.2 a s := by
  intro q hq
  simp only [strs, List.mem_cons, List.not_mem_nil, or_false] at hq
  rcases hq with rfl | rfl | rfl | rfl | rfl | rfl | rfl | rfl | rfl | rfl | rfl | rfl | rfl | rfl | rfl | rfl
  · exact st_s0 hts hgv
  · exact st_s1 hts hgv
  · exact st_s2 hts hgv
  · exact st_s3 hts hgv
  · exact st_s4 hts hgv
  · exact st_s5 hts hgv
  · exact st_s6 hts hgv
  · exact st_s7 hts hgv
  · exact st_s8 hts hgv
  · exact st_s9 hts hgv
  · exact st_s10 hts hgv
  · exact st_s11 hts hgv
  · exact st_s12 hts hgv
  · exact st_s13 hts hgv
  · exact st_s14 hts hgv
  · exact st_s15 hts hgv
theorem st_gp {b : Addr} {s : State} (hts : ∀ w ∈ lw_tbl, w.before #[Value.ref b] s = true) (hgv : (Jvm.Cond.and given_1 narrow_1).before #[Value.ref b] s = true) : GP (fun q => s.heap.size ≤ q) s s.heap := by
  have hA : ∀ a : Nat, a < s.heap.size → ¬ s.heap.size ≤ a := fun a h => by omega
  refine ⟨st_ng hts, st_str hts hgv, ?_, ?_⟩
  · exact vx_Zqof (hts (.laysStatic Bundle.tN "UNASSIGNED_STACK" Bundle.steD) (by decide +kernel)) (hts (.initialized Bundle.tN) (by decide +kernel)) (flat_of_before _ hgv (.isRef (.static Bundle.tN "UNASSIGNED_STACK" Bundle.steD)) (by decide +kernel)) hA
  · exact vx_Zqof (hts (.laysStatic Bundle.tN "SUPPRESSED_SENTINEL" Bundle.listD) (by decide +kernel)) (hts (.initialized Bundle.tN) (by decide +kernel)) (flat_of_before _ hgv (.isRef (.static Bundle.tN "SUPPRESSED_SENTINEL" Bundle.listD)) (by decide +kernel)) hA
theorem st_e {b : Addr} {s : State} (hts : ∀ w ∈ lw_tbl, w.before #[Value.ref b] s = true) (hgv : (Jvm.Cond.and given_1 narrow_1).before #[Value.ref b] s = true) : ∃ e, EXe e (fun q => s.heap.size ≤ q) s s.heap := by
  have hA : ∀ a : Nat, a < s.heap.size → ¬ s.heap.size ≤ a := fun a h => by omega
  have harr : (Cond.arrayOf (.static RJx4a65c eN eD) tO).before #[Value.ref b] s = true := flat_of_before _ hgv _ (by decide +kernel)
  have hlen : (Cond.eq (.length (.static RJx4a65c eN eD)) (.int 0)).before #[Value.ref b] s = true := flat_of_before _ hgv _ (by decide +kernel)
  obtain ⟨e, he, cell, e1, e2, e3, e4, e5, e6, e7⟩ := va_Tof (N := 0) (f := fun _ => Value.null) (by decide) harr (va_eqt hlen) (fun j hj => absurd hj (Nat.not_lt_zero _)) hA
  refine ⟨e, st_gp hts hgv, va_Nc.of (flat_of_before _ hgv (.not (.castable IA IX)) (by decide +kernel)), va_Nc.of (flat_of_before _ hgv (.not (.castable IS IX)) (by decide +kernel)), va_Nc.of (flat_of_before _ hgv (.not (.castable IS IA)) (by decide +kernel)), va_Nw.of rfl (hts (.methodLinkNest RX2 66 yX0_init RX2) (by decide +kernel)), va_Nw.of rfl (hts (.methodLinkNest RX2 29 yX1_init RX2) (by decide +kernel)), va_Nw.of rfl (hts (.castable RX0 "java/lang/Object") (by decide +kernel)), va_AO.of (hts (.arrayOver (.object "java/lang/Object")) (by decide +kernel)), va_Zref (hts (.laysStatic RJx4a65c eN eD) (by decide +kernel)) (hts (.initialized RJx4a65c) (by decide +kernel)) he hA, e7, cell, e1, e2, ?_⟩
  exact e5
theorem st_kk {b : Addr} {s : State} (hts : ∀ w ∈ lw_tbl, w.before #[Value.ref b] s = true) : ∃ (D : va_G) (cA : Nat → ClassId), KK D cA s := by
  have hts' : ∀ w ∈ GW, w.before #[Value.ref b] s = true := fun w hw => hts w (in_gw w hw)
  obtain ⟨c0, i0, k0⟩ := u_known hts' inlJx4a65c (hts (.instantiable RJx4a65c 3) (by decide +kernel))
  obtain ⟨c1, i1, k1⟩ := u_known hts' inlX0 (hts (.instantiable RX0 14) (by decide +kernel))
  obtain ⟨c2, i2, k2⟩ := u_known hts' inlX1 (hts (.instantiable RX1 4) (by decide +kernel))
  obtain ⟨c3, i3, k3⟩ := u_known hts' inlX2 (hts (.instantiable RX2 18) (by decide +kernel))
  obtain ⟨ai, ki, pi, f1, f2, f3⟩ := Cond.arrayClass_spec (hts (.arrayClass .int) (by decide +kernel))
  obtain ⟨ab, kb, pb', g1, g2, g3⟩ := Cond.arrayClass_spec (hts (.arrayClass .boolean) (by decide +kernel))
  obtain ⟨po, ao, ko, o1, o2, o3, o4, o5⟩ := Cond.arrayOver_spec (hts (.arrayOver (.object "java/lang/Object")) (by decide +kernel))
  refine ⟨(fun c => match c with | 0 => c0 | 1 => c1 | 2 => c2 | _ => c3, fun c => match c with | 0 => i0 | 1 => i1 | 2 => i2 | _ => i3), fun k => match k with | 0 => ai | 1 => ab | 2 => ai | _ => ao, ?_, ?_⟩
  · intro c q h
    match c, h with
    | 0, h => cases h; exact k0
    | 1, h => cases h; exact k1
    | 2, h => cases h; exact k2
    | 3, h => cases h; exact k3
    | c + 4, h => cases h
  · intro k q h
    match k, h with
    | 0, h => cases h; exact ⟨fun _ _ => ⟨(fun k h => by cases h), ki, f2, pi, f3⟩, f1⟩
    | 1, h => cases h; exact ⟨fun _ _ => ⟨(fun k h => by cases h), kb, g2, pb', g3⟩, g1⟩
    | 2, h => cases h; exact ⟨fun _ _ => ⟨(fun k h => by cases h), ki, f2, pi, f3⟩, f1⟩
    | 3, h => cases h; exact ⟨fun _ _ => ⟨(fun k h => by cases h), ko, o3, po, o4⟩, ko, po, o3, o4, o1, o5⟩
    | k + 4, h => cases h
theorem gw_goodS {own : String} {index : Nat} {y : MethodName} {w : Cond} (h : w ∈ GW) (h1 : Cond.methodLink own index y ∈ GW) (h2 : Cond.static y ∈ GW) (h3 : Cond.initialized y.cls ∈ GW) : GoodIn GW (va_wsS own index y (w :: GW)) := by
  have hm : ∀ v ∈ va_wsS own index y (w :: GW), v ∈ GW := by
    intro v hv
    unfold va_wsS at hv
    simp only [List.mem_append, List.mem_cons, List.not_mem_nil, or_false] at hv
    rcases hv with (rfl | rfl | rfl) | rfl | hv <;> assumption
  exact fun v hv => ⟨hm v hv, good_of_word (List.all_eq_true.mp gw_all v (hm v hv))⟩
theorem law_walk {l : Launch} (hl : l.stackTraces = false) {mn : String} {e bs L : Nat} {xs : Nat → Int32} {tb : List ExceptionTableEntry} {Ξ : CT} (B : CB (EXl e bs L xs) l room_1 cL_law RL mn tb Ξ) (hL : L ≤ 260) (hret : ∀ (w : Wd) (a b : Nat) (ls : List (Nat × Value)), a ≤ 600130 → b ≤ 7301080 → G Ξ w a b 4 ls [.int 1]) : G Ξ (fun _ => []) 0 0 0 [(0, .ref bs)] [] := by
  refine g_aload_n (j := 0) B dL_law_0 rfl rfl ?_
  refine g_callSX (nA := 1) (As := [.ref bs]) B (c_isHeld hl (e := e) (xs := xs) (by omega)) (fun _ _ _ h => h) EXl.carr (gw_goodS mw_3 mw_0 mw_1 mw_2) mw_2 (by decide +kernel) ⟨(Nat.le_of_ble_eq_true rfl), (Nat.le_of_ble_eq_true rfl)⟩ rfl rfl (Nat.le_of_ble_eq_true rfl) dL_law_1 ⟨(Nat.le_of_ble_eq_true rfl), (Nat.le_of_ble_eq_true rfl)⟩ (fun _ _ h => h.elim) (fun v u hvu => ?_)
  subst hvu
  exact hret _ _ _ _ (Nat.le_of_ble_eq_true rfl) (Nat.le_of_ble_eq_true rfl)
