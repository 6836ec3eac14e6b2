/-! The law's loop, case by case. -/
theorem cdo_ne {ts : List String} {Ex : String} {N : Mem} (hl : ts.length < 100) (h : Ex ∈ ts) : ¬ cdo ts (.inl Ex, N) = 0 := by
  have h1 : ts.idxOf Ex < ts.length := List.idxOf_lt_length_iff.mpr h
  show ¬ nI (ts.idxOf Ex + 1) = 0
  exact nI_ne0 (by omega) (by omega)
set_option maxRecDepth 100000 in
set_option maxHeartbeats 4000000 in
theorem lc_0 {l : Launch} (hl : l.stackTraces = false) {mn : String} {e bs L : Nat} {xs : Nat → Int32} {tb : List ExceptionTableEntry} {Ξ : CT} (hnL : Ξ.2.2.2.2.2.2 = 7) (B : CB (EXl e bs L xs) l room_1 cL_law_ RL mn tb Ξ) {S : Nat → Nat → Mem → Prop} {c n : Nat} {ρ : Nat → Nat} {J : Nat → Int64} {M : Mem} {a b : Nat} (hc : 4 * c + 4 ≤ L) (hL : L ≤ 2048) (ha : a + 13 ≤ 601024) (hb : b + 78 ≤ 7293034) (hn : n ≤ 10) (hρ : n = 0 → ρ 27 = e) (hp : PrM l S c n M) (hnext : ∀ (n' : Nat) (ρ' : Nat → Nat) (J' : Nat → Int64) (M' : Mem), (n' = 0 → ρ' 27 = e) → S (c + 1) n' M' → G Ξ (wsd n' ρ' J' M') (a + 13) (b + 78) 2116 [(4, .int (nI (4 * c))), (0, .ref bs), (1, .ref (ρ' 0)), (2, .ref (ρ' 9)), (3, .ref (ρ' 8))] []) : G Ξ (wsd n ρ J M) a b 180 [(4, .int (nI (4 * c))), (0, .ref bs), (1, .ref (ρ 0)), (2, .ref (ρ 9)), (3, .ref (ρ 8))] [] := by
  by_cases h10 : n < 10
  · obtain ⟨M2, hm1, hcode, hS⟩ := hp.1 h10
    refine g_aload_n (j := 2) B dL_law__180 rfl rfl ?_
    refine g_aload_n (j := 4) B dL_law__181 rfl rfl ?_
    refine g_callSX (nA := 2) (As := [.ref (ρ 0), .ref (ρ 8)]) B (w_miner hl h10 hρ) EXl.e EXe.carr (gw_goodS mw_78 mw_75 mw_76 mw_77) mw_77 (by decide +kernel) ⟨(Nat.le_of_ble_eq_true rfl), (Nat.le_of_ble_eq_true rfl)⟩ rfl rfl (Nat.le_of_ble_eq_true rfl) dL_law__182 ⟨by show a + 13 ≤ 601024; omega, by show b + 78 ≤ 7293034; omega⟩ (fun _ _ h => h.elim) (fun v u hvu => ?_)
    obtain ⟨rfl, ρ', hr, rfl⟩ := hvu
    rw [← hr 0 (by omega), ← hr 8 (by omega), ← hr 9 (by omega)]
    refine g_istore (ls2 := [(5, .int 0), (4, .int (nI (4 * c))), (0, .ref bs), (1, .ref (ρ' 0)), (2, .ref (ρ' 9)), (3, .ref (ρ' 8))]) B hnL dL_law__185 (by decide) rfl ?_
    refine g_aload_n (j := 4) B dL_law__187 rfl rfl ?_
    refine g_callV (i := 9) (ci := 4) (nA := 0) (Cn := RX3) (As := []) B (CtO.g (hm1 ρ' _)) EXl.gp carrGP (fun cA => ws_at (cnt_fix (by decide))) rfl rfl mw_157 mw_154 mw_155 mw_156 mw_5 (by decide +kernel) ⟨by show 3 + 1 ≤ 13; omega, by show 8 + (1 + 11) + (30 * 3 + 60) ≤ 474; omega⟩ rfl rfl (Nat.le_of_ble_eq_true rfl) dL_law__188 ⟨by show _ + 0 ≤ 601024; omega, by show _ + 0 ≤ 7293034; omega⟩ (fun _ _ h => absurd h.1 (fun z => by cases z)) (fun v u hvu => ?_)
    obtain ⟨hv, rfl⟩ := hvu
    cases hv
    refine g_istore (ls2 := [(6, .int (nI n)), (5, .int 0), (4, .int (nI (4 * c))), (0, .ref bs), (1, .ref (ρ' 0)), (2, .ref (ρ' 9)), (3, .ref (ρ' 8))]) B hnL dL_law__191 (by decide) rfl ?_
    refine g_aload_n (j := 5) B dL_law__193 rfl rfl ?_
    refine g_callV (i := 9) (ci := 4) (nA := 0) (Cn := RX3) (As := []) B (CtO.g (c_X3_thrown hl)) EXl.gp carrGP (fun cA => ws_at (cnt_fix (by decide))) rfl rfl mw_167 mw_164 mw_165 mw_166 mw_5 (by decide +kernel) (by decide) rfl rfl (Nat.le_of_ble_eq_true rfl) dL_law__194 ⟨by show _ + 0 ≤ 601024; omega, by show _ + 0 ≤ 7293034; omega⟩ (fun _ _ h => absurd h.1 (fun z => by cases z)) (fun v u hvu => ?_)
    obtain ⟨hv, rfl⟩ := hvu
    cases hv
    refine g_iload (j := 1) B dL_law__197 rfl ?_
    refine g_icmp_eq (tgt := 204) B dL_law__199 (by decide) (fun _ => ?_) (fun h => absurd hcode h)
    refine g_iload (j := 1) B dL_law__204 rfl ?_
    refine g_if_ne (tgt := 221) B dL_law__206 (by decide) (fun h => absurd rfl h) (fun _ => ?_)
    refine g_aload_n (j := 6) B dL_law__209 rfl rfl ?_
    refine g_iconst (v := 0) B dL_law__210 (by decide) ?_
    refine g_lald (N := 1) (f := (vp_updL J 0 (nI n).toInt64)) 8 B (fun cA => ws_at (cnt_fix (by decide))) (vp_in_nI (n := 0) (by decide) (by decide)) dL_law__211 ?_
    refine g_iload (j := 0) B dL_law__212 rfl ?_
    refine g_i2l B dL_law__214 ?_
    refine g_lcmp B dL_law__215 ?_
    rw [show (vp_updL J 0 (nI n).toInt64) (0 : Int32).toNatClampNeg = (nI n).toInt64 from rfl, lcmp_self]
    refine g_if_eq (tgt := 221) B dL_law__216 (by decide) (fun _ => ?_) (fun h => absurd rfl h)
    refine g_goto (tgt := 2116) B dL_law__221 (by decide) ?_
    refine g_sub [2, 3, 4, 5, 6] rfl ?_
    exact hnext _ ρ' _ _ (fun h => absurd h (Nat.succ_ne_zero n)) hS
  · have hn10 : n = 10 := by omega
    subst hn10
    obtain ⟨x2, M2, hm1, hcode, hS⟩ := hp.2 rfl
    refine g_aload_n (j := 2) B dL_law__180 rfl rfl ?_
    refine g_aload_n (j := 4) B dL_law__181 rfl rfl ?_
    refine g_callSX (nA := 2) (As := [.ref (ρ 0), .ref (ρ 8)]) B (w_miner_x (n := 0) hl) EXl.e EXe.carr (gw_goodS mw_78 mw_75 mw_76 mw_77) mw_77 (by decide +kernel) ⟨(Nat.le_of_ble_eq_true rfl), (Nat.le_of_ble_eq_true rfl)⟩ rfl rfl (Nat.le_of_ble_eq_true rfl) dL_law__182 ⟨by show a + 13 ≤ 601024; omega, by show b + 78 ≤ 7293034; omega⟩ (fun _ _ h => h.elim) (fun v u hvu => ?_)
    obtain ⟨rfl, rfl⟩ := hvu
    refine g_istore (ls2 := [(5, .int 1), (4, .int (nI (4 * c))), (0, .ref bs), (1, .ref (ρ 0)), (2, .ref (ρ 9)), (3, .ref (ρ 8))]) B hnL dL_law__185 (by decide) rfl ?_
    refine g_aload_n (j := 4) B dL_law__187 rfl rfl ?_
    refine g_callV (i := 9) (ci := 4) (nA := 0) (Cn := RX3) (As := []) B (CtO.g (hm1 ρ _)) EXl.gp carrGP (fun cA => ws_at (cnt_fix (by decide))) rfl rfl mw_157 mw_154 mw_155 mw_156 mw_5 (by decide +kernel) ⟨by show 3 + 1 ≤ 13; omega, by show 8 + (1 + 11) + (30 * 3 + 60) ≤ 474; omega⟩ rfl rfl (Nat.le_of_ble_eq_true rfl) dL_law__188 ⟨by show _ + 0 ≤ 601024; omega, by show _ + 0 ≤ 7293034; omega⟩ (fun _ _ h => absurd h.1 (fun z => by cases z)) (fun v u hvu => ?_)
    obtain ⟨hv, rfl⟩ := hvu
    cases hv
    refine g_istore (ls2 := [(6, .int x2), (5, .int 1), (4, .int (nI (4 * c))), (0, .ref bs), (1, .ref (ρ 0)), (2, .ref (ρ 9)), (3, .ref (ρ 8))]) B hnL dL_law__191 (by decide) rfl ?_
    refine g_aload_n (j := 5) B dL_law__193 rfl rfl ?_
    refine g_callV (i := 9) (ci := 4) (nA := 0) (Cn := RX3) (As := []) B (CtO.g (c_X3_thrown hl)) EXl.gp carrGP (fun cA => ws_at (cnt_fix (by decide))) rfl rfl mw_167 mw_164 mw_165 mw_166 mw_5 (by decide +kernel) (by decide) rfl rfl (Nat.le_of_ble_eq_true rfl) dL_law__194 ⟨by show _ + 0 ≤ 601024; omega, by show _ + 0 ≤ 7293034; omega⟩ (fun _ _ h => absurd h.1 (fun z => by cases z)) (fun v u hvu => ?_)
    obtain ⟨hv, rfl⟩ := hvu
    cases hv
    refine g_iload (j := 1) B dL_law__197 rfl ?_
    refine g_icmp_eq (tgt := 204) B dL_law__199 (by decide) (fun _ => ?_) (fun h => absurd hcode h)
    refine g_iload (j := 1) B dL_law__204 rfl ?_
    refine g_if_ne (tgt := 221) B dL_law__206 (by decide) (fun _ => ?_) (fun h => absurd h (by decide))
    refine g_goto (tgt := 2116) B dL_law__221 (by decide) ?_
    refine g_sub [2, 3, 4, 5, 6] rfl ?_
    exact hnext 10 ρ _ _ (fun h => absurd h (by decide)) hS
set_option maxRecDepth 100000 in
set_option maxHeartbeats 4000000 in
theorem lc_1 {l : Launch} (hl : l.stackTraces = false) {mn : String} {e bs L : Nat} {xs : Nat → Int32} {tb : List ExceptionTableEntry} {Ξ : CT} (hnL : Ξ.2.2.2.2.2.2 = 7) (B : CB (EXl e bs L xs) l room_1 cL_law_ RL mn tb Ξ) {S : Nat → Nat → Mem → Prop} {c n : Nat} {ρ : Nat → Nat} {J : Nat → Int64} {M : Mem} {a b : Nat} (hc : 4 * c + 4 ≤ L) (hL : L ≤ 2048) (ha : a + 13 ≤ 601024) (hb : b + 78 ≤ 7293034) (hp : ∀ x y : Int32, PrI l S yX2_kin cX2_kin 5 (some .int) yX3_kin cX3_kin 4 (some .int) [IX, IA] c n M [.int x, .int y]) (hnext : ∀ (J' : Nat → Int64) (M' : Mem), S (c + 1) n M' → G Ξ (wsd n ρ J' M') (a + 13) (b + 78) 2116 [(4, .int (nI (4 * c))), (0, .ref bs), (1, .ref (ρ 0)), (2, .ref (ρ 9)), (3, .ref (ρ 8))] []) : G Ξ (wsd n ρ J M) a b 224 [(4, .int (nI (4 * c))), (0, .ref bs), (1, .ref (ρ 0)), (2, .ref (ρ 9)), (3, .ref (ρ 8))] [] := by
  obtain ⟨h, mc, ms, h2, o, x2, M2, hc1, hh, hmc, hms, ho, hm1, hh2, hcode, hval, hS⟩ := hp (xs (4 * c + 1)) (xs (4 * c + 2))
  refine g_aload_n (j := 2) B dL_law__224 rfl rfl ?_
  refine g_aload_n (j := 1) B dL_law__225 rfl rfl ?_
  refine g_iload (j := 0) B dL_law__226 rfl ?_
  refine g_iconst (v := 1) B dL_law__228 (by decide) ?_
  refine g_iadd B dL_law__229 ?_
  refine g_sld (4 * c + 1) B (nI_add (4 * c) 1) (by omega) (by omega) dL_law__230 ?_
  refine g_aload_n (j := 1) B dL_law__231 rfl rfl ?_
  refine g_iload (j := 0) B dL_law__232 rfl ?_
  refine g_iconst (v := 2) B dL_law__234 (by decide) ?_
  refine g_iadd B dL_law__235 ?_
  refine g_sld (4 * c + 2) B (nI_add (4 * c) 2) (by omega) (by omega) dL_law__236 ?_
  refine g_aload_n (j := 4) B dL_law__237 rfl rfl ?_
  refine g_callSX (nA := 4) (As := [.ref (ρ 0), .int (xs (4 * c + 1)), .int (xs (4 * c + 2)), .ref (ρ 8)]) B (w_kin hl (hc1 ρ J) hh hmc hms ho) EXl.e EXe.carr (gw_goodS mw_170 mw_168 mw_169 mw_77) mw_77 (by decide +kernel) ⟨(Nat.le_of_ble_eq_true rfl), (Nat.le_of_ble_eq_true rfl)⟩ rfl rfl (Nat.le_of_ble_eq_true rfl) dL_law__238 ⟨by show a + 13 ≤ 601024; omega, by show b + 78 ≤ 7293034; omega⟩ (fun _ _ h => h.elim) (fun v u hvu => ?_)
  obtain ⟨rfl, rfl⟩ := hvu
  refine g_istore (ls2 := [(5, .int (cdo [IX, IA] o)), (4, .int (nI (4 * c))), (0, .ref bs), (1, .ref (ρ 0)), (2, .ref (ρ 9)), (3, .ref (ρ 8))]) B hnL dL_law__241 (by decide) rfl ?_
  refine g_aload_n (j := 4) B dL_law__243 rfl rfl ?_
  refine g_aload_n (j := 2) B dL_law__244 rfl rfl ?_
  refine g_iload (j := 1) B dL_law__245 rfl ?_
  refine g_iconst (v := 1) B dL_law__247 (by decide) ?_
  refine g_iadd B dL_law__248 ?_
  refine g_sld (4 * c + 1) B (nI_add (4 * c) 1) (by omega) (by omega) dL_law__249 ?_
  refine g_aload_n (j := 2) B dL_law__250 rfl rfl ?_
  refine g_iload (j := 1) B dL_law__251 rfl ?_
  refine g_iconst (v := 2) B dL_law__253 (by decide) ?_
  refine g_iadd B dL_law__254 ?_
  refine g_sld (4 * c + 2) B (nI_add (4 * c) 2) (by omega) (by omega) dL_law__255 ?_
  refine g_callV (i := 9) (ci := 4) (nA := 2) (Cn := RX3) (As := [.int (xs (4 * c + 1)), .int (xs (4 * c + 2))]) B (CtO.g (hm1 ρ (Jn J o))) EXl.gp carrGP (fun cA => ws_at (cnt_fix (by decide))) rfl rfl mw_209 mw_206 mw_207 mw_208 mw_5 (by decide +kernel) ⟨by show h2 + 1 ≤ 13; omega, by show 8 + (4 + 11) + (30 * h2 + 60) ≤ 474; omega⟩ rfl rfl (Nat.le_of_ble_eq_true rfl) dL_law__256 ⟨by show _ + 0 ≤ 601024; omega, by show _ + 0 ≤ 7293034; omega⟩ (fun _ _ h => absurd h.1 (fun z => by cases z)) (fun v u hvu => ?_)
  obtain ⟨hv, rfl⟩ := hvu
  cases hv
  refine g_istore (ls2 := [(6, .int x2), (5, .int (cdo [IX, IA] o)), (4, .int (nI (4 * c))), (0, .ref bs), (1, .ref (ρ 0)), (2, .ref (ρ 9)), (3, .ref (ρ 8))]) B hnL dL_law__259 (by decide) rfl ?_
  refine g_aload_n (j := 5) B dL_law__261 rfl rfl ?_
  refine g_callV (i := 9) (ci := 4) (nA := 0) (Cn := RX3) (As := []) B (CtO.g (c_X3_thrown hl)) EXl.gp carrGP (fun cA => ws_at (cnt_fix (by decide))) rfl rfl mw_167 mw_164 mw_165 mw_166 mw_5 (by decide +kernel) (by decide) rfl rfl (Nat.le_of_ble_eq_true rfl) dL_law__262 ⟨by show _ + 0 ≤ 601024; omega, by show _ + 0 ≤ 7293034; omega⟩ (fun _ _ h => absurd h.1 (fun z => by cases z)) (fun v u hvu => ?_)
  obtain ⟨hv, rfl⟩ := hvu
  cases hv
  refine g_iload (j := 1) B dL_law__265 rfl ?_
  refine g_icmp_eq (tgt := 272) B dL_law__267 (by decide) (fun _ => ?_) (fun h => absurd hcode h)
  refine g_iload (j := 1) B dL_law__272 rfl ?_
  have hend : ∀ J2, G Ξ (wsd n ρ J2 M2) (a + 13) (b + 78) 289 [(6, .int x2), (5, .int (cdo [IX, IA] o)), (4, .int (nI (4 * c))), (0, .ref bs), (1, .ref (ρ 0)), (2, .ref (ρ 9)), (3, .ref (ρ 8))] [] := fun J2 => by
    refine g_goto (tgt := 2116) B dL_law__289 (by decide) ?_
    refine g_sub [2, 3, 4, 5, 6] rfl ?_
    exact hnext _ _ hS
  refine g_if_ne (tgt := 289) B dL_law__274 (by decide) (fun _ => hend _) (fun h0 => ?_)
  rcases ho with ⟨x0, N, rfl⟩ | ⟨Ey, N, hE, rfl⟩
  · have hx2 : x0 = x2 := hval x0 N rfl
    subst hx2
    refine g_aload_n (j := 6) B dL_law__277 rfl rfl ?_
    refine g_iconst (v := 0) B dL_law__278 (by decide) ?_
    refine g_lald (N := 1) (f := (Jn J (rI x0 N))) 8 B (fun cA => ws_at (cnt_fix (by decide))) (vp_in_nI (n := 0) (by decide) (by decide)) dL_law__279 ?_
    refine g_iload (j := 0) B dL_law__280 rfl ?_
    refine g_i2l B dL_law__282 ?_
    refine g_lcmp B dL_law__283 ?_
    rw [show (Jn J (rI x0 N)) (0 : Int32).toNatClampNeg = x0.toInt64 from rfl, lcmp_self]
    exact g_if_eq (tgt := 289) B dL_law__284 (by decide) (fun _ => hend _) (fun h => absurd rfl h)
  · exact absurd h0 (cdo_ne (by decide) hE)
set_option maxRecDepth 100000 in
set_option maxHeartbeats 4000000 in
theorem lc_2 {l : Launch} (hl : l.stackTraces = false) {mn : String} {e bs L : Nat} {xs : Nat → Int32} {tb : List ExceptionTableEntry} {Ξ : CT} (hnL : Ξ.2.2.2.2.2.2 = 7) (B : CB (EXl e bs L xs) l room_1 cL_law_ RL mn tb Ξ) {S : Nat → Nat → Mem → Prop} {c n : Nat} {ρ : Nat → Nat} {J : Nat → Int64} {M : Mem} {a b : Nat} (hc : 4 * c + 4 ≤ L) (hL : L ≤ 2048) (ha : a + 13 ≤ 601024) (hb : b + 78 ≤ 7293034) (hp : ∀ x : Int32, PrI l S yX2_dock cX2_dock 3 (some .int) yX3_dock cX3_dock 3 (some .int) [IA] c n M [.int x]) (hnext : ∀ (J' : Nat → Int64) (M' : Mem), S (c + 1) n M' → G Ξ (wsd n ρ J' M') (a + 13) (b + 78) 2116 [(4, .int (nI (4 * c))), (0, .ref bs), (1, .ref (ρ 0)), (2, .ref (ρ 9)), (3, .ref (ρ 8))] []) : G Ξ (wsd n ρ J M) a b 292 [(4, .int (nI (4 * c))), (0, .ref bs), (1, .ref (ρ 0)), (2, .ref (ρ 9)), (3, .ref (ρ 8))] [] := by
  obtain ⟨h, mc, ms, h2, o, x2, M2, hc1, hh, hmc, hms, ho, hm1, hh2, hcode, hval, hS⟩ := hp (xs (4 * c + 1))
  refine g_aload_n (j := 2) B dL_law__292 rfl rfl ?_
  refine g_aload_n (j := 1) B dL_law__293 rfl rfl ?_
  refine g_iload (j := 0) B dL_law__294 rfl ?_
  refine g_iconst (v := 1) B dL_law__296 (by decide) ?_
  refine g_iadd B dL_law__297 ?_
  refine g_sld (4 * c + 1) B (nI_add (4 * c) 1) (by omega) (by omega) dL_law__298 ?_
  refine g_aload_n (j := 4) B dL_law__299 rfl rfl ?_
  refine g_callSX (nA := 3) (As := [.ref (ρ 0), .int (xs (4 * c + 1)), .ref (ρ 8)]) B (w_dock hl (hc1 ρ J) hh hmc hms ho) EXl.e EXe.carr (gw_goodS mw_219 mw_217 mw_218 mw_77) mw_77 (by decide +kernel) ⟨(Nat.le_of_ble_eq_true rfl), (Nat.le_of_ble_eq_true rfl)⟩ rfl rfl (Nat.le_of_ble_eq_true rfl) dL_law__300 ⟨by show a + 13 ≤ 601024; omega, by show b + 78 ≤ 7293034; omega⟩ (fun _ _ h => h.elim) (fun v u hvu => ?_)
  obtain ⟨rfl, rfl⟩ := hvu
  refine g_istore (ls2 := [(5, .int (cdo [IA] o)), (4, .int (nI (4 * c))), (0, .ref bs), (1, .ref (ρ 0)), (2, .ref (ρ 9)), (3, .ref (ρ 8))]) B hnL dL_law__303 (by decide) rfl ?_
  refine g_aload_n (j := 4) B dL_law__305 rfl rfl ?_
  refine g_aload_n (j := 2) B dL_law__306 rfl rfl ?_
  refine g_iload (j := 1) B dL_law__307 rfl ?_
  refine g_iconst (v := 1) B dL_law__309 (by decide) ?_
  refine g_iadd B dL_law__310 ?_
  refine g_sld (4 * c + 1) B (nI_add (4 * c) 1) (by omega) (by omega) dL_law__311 ?_
  refine g_callV (i := 9) (ci := 4) (nA := 1) (Cn := RX3) (As := [.int (xs (4 * c + 1))]) B (CtO.g (hm1 ρ (Jn J o))) EXl.gp carrGP (fun cA => ws_at (cnt_fix (by decide))) rfl rfl mw_230 mw_227 mw_228 mw_229 mw_5 (by decide +kernel) ⟨by show h2 + 1 ≤ 13; omega, by show 8 + (3 + 11) + (30 * h2 + 60) ≤ 474; omega⟩ rfl rfl (Nat.le_of_ble_eq_true rfl) dL_law__312 ⟨by show _ + 0 ≤ 601024; omega, by show _ + 0 ≤ 7293034; omega⟩ (fun _ _ h => absurd h.1 (fun z => by cases z)) (fun v u hvu => ?_)
  obtain ⟨hv, rfl⟩ := hvu
  cases hv
  refine g_istore (ls2 := [(6, .int x2), (5, .int (cdo [IA] o)), (4, .int (nI (4 * c))), (0, .ref bs), (1, .ref (ρ 0)), (2, .ref (ρ 9)), (3, .ref (ρ 8))]) B hnL dL_law__315 (by decide) rfl ?_
  refine g_aload_n (j := 5) B dL_law__317 rfl rfl ?_
  refine g_callV (i := 9) (ci := 4) (nA := 0) (Cn := RX3) (As := []) B (CtO.g (c_X3_thrown hl)) EXl.gp carrGP (fun cA => ws_at (cnt_fix (by decide))) rfl rfl mw_167 mw_164 mw_165 mw_166 mw_5 (by decide +kernel) (by decide) rfl rfl (Nat.le_of_ble_eq_true rfl) dL_law__318 ⟨by show _ + 0 ≤ 601024; omega, by show _ + 0 ≤ 7293034; omega⟩ (fun _ _ h => absurd h.1 (fun z => by cases z)) (fun v u hvu => ?_)
  obtain ⟨hv, rfl⟩ := hvu
  cases hv
  refine g_iload (j := 1) B dL_law__321 rfl ?_
  refine g_icmp_eq (tgt := 328) B dL_law__323 (by decide) (fun _ => ?_) (fun h => absurd hcode h)
  refine g_iload (j := 1) B dL_law__328 rfl ?_
  have hend : ∀ J2, G Ξ (wsd n ρ J2 M2) (a + 13) (b + 78) 345 [(6, .int x2), (5, .int (cdo [IA] o)), (4, .int (nI (4 * c))), (0, .ref bs), (1, .ref (ρ 0)), (2, .ref (ρ 9)), (3, .ref (ρ 8))] [] := fun J2 => by
    refine g_goto (tgt := 2116) B dL_law__345 (by decide) ?_
    refine g_sub [2, 3, 4, 5, 6] rfl ?_
    exact hnext _ _ hS
  refine g_if_ne (tgt := 345) B dL_law__330 (by decide) (fun _ => hend _) (fun h0 => ?_)
  rcases ho with ⟨x0, N, rfl⟩ | ⟨Ey, N, hE, rfl⟩
  · have hx2 : x0 = x2 := hval x0 N rfl
    subst hx2
    refine g_aload_n (j := 6) B dL_law__333 rfl rfl ?_
    refine g_iconst (v := 0) B dL_law__334 (by decide) ?_
    refine g_lald (N := 1) (f := (Jn J (rI x0 N))) 8 B (fun cA => ws_at (cnt_fix (by decide))) (vp_in_nI (n := 0) (by decide) (by decide)) dL_law__335 ?_
    refine g_iload (j := 0) B dL_law__336 rfl ?_
    refine g_i2l B dL_law__338 ?_
    refine g_lcmp B dL_law__339 ?_
    rw [show (Jn J (rI x0 N)) (0 : Int32).toNatClampNeg = x0.toInt64 from rfl, lcmp_self]
    exact g_if_eq (tgt := 345) B dL_law__340 (by decide) (fun _ => hend _) (fun h => absurd rfl h)
  · exact absurd h0 (cdo_ne (by decide) hE)
set_option maxRecDepth 100000 in
set_option maxHeartbeats 4000000 in
theorem lc_3 {l : Launch} (hl : l.stackTraces = false) {mn : String} {e bs L : Nat} {xs : Nat → Int32} {tb : List ExceptionTableEntry} {Ξ : CT} (hnL : Ξ.2.2.2.2.2.2 = 7) (B : CB (EXl e bs L xs) l room_1 cL_law_ RL mn tb Ξ) {S : Nat → Nat → Mem → Prop} {c n : Nat} {ρ : Nat → Nat} {J : Nat → Int64} {M : Mem} {a b : Nat} (hc : 4 * c + 4 ≤ L) (hL : L ≤ 2048) (ha : a + 13 ≤ 601024) (hb : b + 78 ≤ 7293034) (hp : ∀ z : Int32, isB z → PrD l S yX2_check cX2_check 3 (some .boolean) yX3_check cX3_check 3 (some .boolean) c n M [.int z]) (hnext : ∀ (J' : Nat → Int64) (M' : Mem), S (c + 1) n M' → G Ξ (wsd n ρ J' M') (a + 0) (b + 0) 2116 [(4, .int (nI (4 * c))), (0, .ref bs), (1, .ref (ρ 0)), (2, .ref (ρ 9)), (3, .ref (ρ 8))] []) : G Ξ (wsd n ρ J M) a b 348 [(4, .int (nI (4 * c))), (0, .ref bs), (1, .ref (ρ 0)), (2, .ref (ρ 9)), (3, .ref (ρ 8))] [] := by
  by_cases hz : xs (4 * c + 1) = 0
  · obtain ⟨x2, M1, M2, hc1, hm1, hS⟩ := hp 0 (Or.inl rfl)
    refine g_aload_n (j := 2) B dL_law__348 rfl rfl ?_
    refine g_aload_n (j := 1) B dL_law__349 rfl rfl ?_
    refine g_iload (j := 0) B dL_law__350 rfl ?_
    refine g_iconst (v := 1) B dL_law__352 (by decide) ?_
    refine g_iadd B dL_law__353 ?_
    refine g_sld (4 * c + 1) B (nI_add (4 * c) 1) (by omega) (by omega) dL_law__354 ?_
    refine g_if_eq (tgt := 362) B dL_law__355 (by decide) (fun _ => ?_) (fun h => absurd hz h)
    refine g_iconst (v := 0) B dL_law__362 (by decide) ?_
    refine g_callV (i := 0) (ci := 3) (nA := 1) (Cn := RX2) (As := [.int 0]) B (CtO.g (hc1 ρ J)) EXl.gp carrGP (fun cA => ws_at (cnt_fix (by decide))) rfl rfl mw_234 mw_231 mw_232 mw_233 mw_2 (by decide +kernel) (by decide) rfl rfl (Nat.le_of_ble_eq_true rfl) dL_law__363 ⟨by show _ + 0 ≤ 601024; omega, by show _ + 0 ≤ 7293034; omega⟩ (fun _ _ h => absurd h.1 (fun z => by cases z)) (fun v u hvu => ?_)
    obtain ⟨hv, rfl⟩ := hvu
    cases hv
    refine g_aload_n (j := 3) B dL_law__366 rfl rfl ?_
    refine g_aload_n (j := 1) B dL_law__367 rfl rfl ?_
    refine g_iload (j := 0) B dL_law__368 rfl ?_
    refine g_iconst (v := 1) B dL_law__370 (by decide) ?_
    refine g_iadd B dL_law__371 ?_
    refine g_sld (4 * c + 1) B (nI_add (4 * c) 1) (by omega) (by omega) dL_law__372 ?_
    refine g_if_eq (tgt := 380) B dL_law__373 (by decide) (fun _ => ?_) (fun h => absurd hz h)
    refine g_iconst (v := 0) B dL_law__380 (by decide) ?_
    refine g_callV (i := 9) (ci := 4) (nA := 1) (Cn := RX3) (As := [.int 0]) B (CtO.g (hm1 ρ J)) EXl.gp carrGP (fun cA => ws_at (cnt_fix (by decide))) rfl rfl mw_239 mw_236 mw_237 mw_238 mw_5 (by decide +kernel) ⟨by show 0 + 1 ≤ 13; omega, by show 8 + (3 + 11) + (30 * 0 + 60) ≤ 474; omega⟩ rfl rfl (Nat.le_of_ble_eq_true rfl) dL_law__381 ⟨by show _ + 0 ≤ 601024; omega, by show _ + 0 ≤ 7293034; omega⟩ (fun _ _ h => absurd h.1 (fun z => by cases z)) (fun v u hvu => ?_)
    obtain ⟨hv, rfl⟩ := hvu
    cases hv
    refine g_icmp_eq (tgt := 2116) B dL_law__384 (by decide) (fun _ => ?_) (fun h => absurd rfl h)
    exact hnext _ _ hS
  · obtain ⟨x2, M1, M2, hc1, hm1, hS⟩ := hp 1 (Or.inr rfl)
    refine g_aload_n (j := 2) B dL_law__348 rfl rfl ?_
    refine g_aload_n (j := 1) B dL_law__349 rfl rfl ?_
    refine g_iload (j := 0) B dL_law__350 rfl ?_
    refine g_iconst (v := 1) B dL_law__352 (by decide) ?_
    refine g_iadd B dL_law__353 ?_
    refine g_sld (4 * c + 1) B (nI_add (4 * c) 1) (by omega) (by omega) dL_law__354 ?_
    refine g_if_eq (tgt := 362) B dL_law__355 (by decide) (fun h => absurd h hz) (fun _ => ?_)
    refine g_iconst (v := 1) B dL_law__358 (by decide) ?_
    refine g_goto (tgt := 363) B dL_law__359 (by decide) ?_
    refine g_callV (i := 0) (ci := 3) (nA := 1) (Cn := RX2) (As := [.int 1]) B (CtO.g (hc1 ρ J)) EXl.gp carrGP (fun cA => ws_at (cnt_fix (by decide))) rfl rfl mw_234 mw_231 mw_232 mw_233 mw_2 (by decide +kernel) (by decide) rfl rfl (Nat.le_of_ble_eq_true rfl) dL_law__363 ⟨by show _ + 0 ≤ 601024; omega, by show _ + 0 ≤ 7293034; omega⟩ (fun _ _ h => absurd h.1 (fun z => by cases z)) (fun v u hvu => ?_)
    obtain ⟨hv, rfl⟩ := hvu
    cases hv
    refine g_aload_n (j := 3) B dL_law__366 rfl rfl ?_
    refine g_aload_n (j := 1) B dL_law__367 rfl rfl ?_
    refine g_iload (j := 0) B dL_law__368 rfl ?_
    refine g_iconst (v := 1) B dL_law__370 (by decide) ?_
    refine g_iadd B dL_law__371 ?_
    refine g_sld (4 * c + 1) B (nI_add (4 * c) 1) (by omega) (by omega) dL_law__372 ?_
    refine g_if_eq (tgt := 380) B dL_law__373 (by decide) (fun h => absurd h hz) (fun _ => ?_)
    refine g_iconst (v := 1) B dL_law__376 (by decide) ?_
    refine g_goto (tgt := 381) B dL_law__377 (by decide) ?_
    refine g_callV (i := 9) (ci := 4) (nA := 1) (Cn := RX3) (As := [.int 1]) B (CtO.g (hm1 ρ J)) EXl.gp carrGP (fun cA => ws_at (cnt_fix (by decide))) rfl rfl mw_239 mw_236 mw_237 mw_238 mw_5 (by decide +kernel) ⟨by show 0 + 1 ≤ 13; omega, by show 8 + (3 + 11) + (30 * 0 + 60) ≤ 474; omega⟩ rfl rfl (Nat.le_of_ble_eq_true rfl) dL_law__381 ⟨by show _ + 0 ≤ 601024; omega, by show _ + 0 ≤ 7293034; omega⟩ (fun _ _ h => absurd h.1 (fun z => by cases z)) (fun v u hvu => ?_)
    obtain ⟨hv, rfl⟩ := hvu
    cases hv
    refine g_icmp_eq (tgt := 2116) B dL_law__384 (by decide) (fun _ => ?_) (fun h => absurd rfl h)
    exact hnext _ _ hS
set_option maxRecDepth 100000 in
set_option maxHeartbeats 4000000 in
theorem lc_4 {l : Launch} (hl : l.stackTraces = false) {mn : String} {e bs L : Nat} {xs : Nat → Int32} {tb : List ExceptionTableEntry} {Ξ : CT} (hnL : Ξ.2.2.2.2.2.2 = 7) (B : CB (EXl e bs L xs) l room_1 cL_law_ RL mn tb Ξ) {S : Nat → Nat → Mem → Prop} {c n : Nat} {ρ : Nat → Nat} {J : Nat → Int64} {M : Mem} {a b : Nat} (hc : 4 * c + 4 ≤ L) (hL : L ≤ 2048) (ha : a + 13 ≤ 601024) (hb : b + 78 ≤ 7293034) (hp : ∀ x y : Int32, PrI l S yX2_hew cX2_hew 4 (some .int) yX3_hew cX3_hew 3 (some .int) [IX, IA, IS] c n M [.int x, .int y]) (hnext : ∀ (J' : Nat → Int64) (M' : Mem), S (c + 1) n M' → G Ξ (wsd n ρ J' M') (a + 13) (b + 78) 2116 [(4, .int (nI (4 * c))), (0, .ref bs), (1, .ref (ρ 0)), (2, .ref (ρ 9)), (3, .ref (ρ 8))] []) : G Ξ (wsd n ρ J M) a b 389 [(4, .int (nI (4 * c))), (0, .ref bs), (1, .ref (ρ 0)), (2, .ref (ρ 9)), (3, .ref (ρ 8))] [] := by
  obtain ⟨h, mc, ms, h2, o, x2, M2, hc1, hh, hmc, hms, ho, hm1, hh2, hcode, hval, hS⟩ := hp (xs (4 * c + 1)) (xs (4 * c + 2))
  refine g_aload_n (j := 2) B dL_law__389 rfl rfl ?_
  refine g_aload_n (j := 1) B dL_law__390 rfl rfl ?_
  refine g_iload (j := 0) B dL_law__391 rfl ?_
  refine g_iconst (v := 1) B dL_law__393 (by decide) ?_
  refine g_iadd B dL_law__394 ?_
  refine g_sld (4 * c + 1) B (nI_add (4 * c) 1) (by omega) (by omega) dL_law__395 ?_
  refine g_aload_n (j := 1) B dL_law__396 rfl rfl ?_
  refine g_iload (j := 0) B dL_law__397 rfl ?_
  refine g_iconst (v := 2) B dL_law__399 (by decide) ?_
  refine g_iadd B dL_law__400 ?_
  refine g_sld (4 * c + 2) B (nI_add (4 * c) 2) (by omega) (by omega) dL_law__401 ?_
  refine g_aload_n (j := 4) B dL_law__402 rfl rfl ?_
  refine g_callSX (nA := 4) (As := [.ref (ρ 0), .int (xs (4 * c + 1)), .int (xs (4 * c + 2)), .ref (ρ 8)]) B (w_hew hl (hc1 ρ J) hh hmc hms ho) EXl.e EXe.carr (gw_goodS mw_243 mw_241 mw_242 mw_77) mw_77 (by decide +kernel) ⟨(Nat.le_of_ble_eq_true rfl), (Nat.le_of_ble_eq_true rfl)⟩ rfl rfl (Nat.le_of_ble_eq_true rfl) dL_law__403 ⟨by show a + 13 ≤ 601024; omega, by show b + 78 ≤ 7293034; omega⟩ (fun _ _ h => h.elim) (fun v u hvu => ?_)
  obtain ⟨rfl, rfl⟩ := hvu
  refine g_istore (ls2 := [(5, .int (cdo [IX, IA, IS] o)), (4, .int (nI (4 * c))), (0, .ref bs), (1, .ref (ρ 0)), (2, .ref (ρ 9)), (3, .ref (ρ 8))]) B hnL dL_law__406 (by decide) rfl ?_
  refine g_aload_n (j := 4) B dL_law__408 rfl rfl ?_
  refine g_aload_n (j := 2) B dL_law__409 rfl rfl ?_
  refine g_iload (j := 1) B dL_law__410 rfl ?_
  refine g_iconst (v := 1) B dL_law__412 (by decide) ?_
  refine g_iadd B dL_law__413 ?_
  refine g_sld (4 * c + 1) B (nI_add (4 * c) 1) (by omega) (by omega) dL_law__414 ?_
  refine g_aload_n (j := 2) B dL_law__415 rfl rfl ?_
  refine g_iload (j := 1) B dL_law__416 rfl ?_
  refine g_iconst (v := 2) B dL_law__418 (by decide) ?_
  refine g_iadd B dL_law__419 ?_
  refine g_sld (4 * c + 2) B (nI_add (4 * c) 2) (by omega) (by omega) dL_law__420 ?_
  refine g_callV (i := 9) (ci := 4) (nA := 2) (Cn := RX3) (As := [.int (xs (4 * c + 1)), .int (xs (4 * c + 2))]) B (CtO.g (hm1 ρ (Jn J o))) EXl.gp carrGP (fun cA => ws_at (cnt_fix (by decide))) rfl rfl mw_258 mw_255 mw_256 mw_257 mw_5 (by decide +kernel) ⟨by show h2 + 1 ≤ 13; omega, by show 8 + (3 + 11) + (30 * h2 + 60) ≤ 474; omega⟩ rfl rfl (Nat.le_of_ble_eq_true rfl) dL_law__421 ⟨by show _ + 0 ≤ 601024; omega, by show _ + 0 ≤ 7293034; omega⟩ (fun _ _ h => absurd h.1 (fun z => by cases z)) (fun v u hvu => ?_)
  obtain ⟨hv, rfl⟩ := hvu
  cases hv
  refine g_istore (ls2 := [(6, .int x2), (5, .int (cdo [IX, IA, IS] o)), (4, .int (nI (4 * c))), (0, .ref bs), (1, .ref (ρ 0)), (2, .ref (ρ 9)), (3, .ref (ρ 8))]) B hnL dL_law__424 (by decide) rfl ?_
  refine g_aload_n (j := 5) B dL_law__426 rfl rfl ?_
  refine g_callV (i := 9) (ci := 4) (nA := 0) (Cn := RX3) (As := []) B (CtO.g (c_X3_thrown hl)) EXl.gp carrGP (fun cA => ws_at (cnt_fix (by decide))) rfl rfl mw_167 mw_164 mw_165 mw_166 mw_5 (by decide +kernel) (by decide) rfl rfl (Nat.le_of_ble_eq_true rfl) dL_law__427 ⟨by show _ + 0 ≤ 601024; omega, by show _ + 0 ≤ 7293034; omega⟩ (fun _ _ h => absurd h.1 (fun z => by cases z)) (fun v u hvu => ?_)
  obtain ⟨hv, rfl⟩ := hvu
  cases hv
  refine g_iload (j := 1) B dL_law__430 rfl ?_
  refine g_icmp_eq (tgt := 437) B dL_law__432 (by decide) (fun _ => ?_) (fun h => absurd hcode h)
  refine g_iload (j := 1) B dL_law__437 rfl ?_
  have hend : ∀ J2, G Ξ (wsd n ρ J2 M2) (a + 13) (b + 78) 454 [(6, .int x2), (5, .int (cdo [IX, IA, IS] o)), (4, .int (nI (4 * c))), (0, .ref bs), (1, .ref (ρ 0)), (2, .ref (ρ 9)), (3, .ref (ρ 8))] [] := fun J2 => by
    refine g_goto (tgt := 2116) B dL_law__454 (by decide) ?_
    refine g_sub [2, 3, 4, 5, 6] rfl ?_
    exact hnext _ _ hS
  refine g_if_ne (tgt := 454) B dL_law__439 (by decide) (fun _ => hend _) (fun h0 => ?_)
  rcases ho with ⟨x0, N, rfl⟩ | ⟨Ey, N, hE, rfl⟩
  · have hx2 : x0 = x2 := hval x0 N rfl
    subst hx2
    refine g_aload_n (j := 6) B dL_law__442 rfl rfl ?_
    refine g_iconst (v := 0) B dL_law__443 (by decide) ?_
    refine g_lald (N := 1) (f := (Jn J (rI x0 N))) 8 B (fun cA => ws_at (cnt_fix (by decide))) (vp_in_nI (n := 0) (by decide) (by decide)) dL_law__444 ?_
    refine g_iload (j := 0) B dL_law__445 rfl ?_
    refine g_i2l B dL_law__447 ?_
    refine g_lcmp B dL_law__448 ?_
    rw [show (Jn J (rI x0 N)) (0 : Int32).toNatClampNeg = x0.toInt64 from rfl, lcmp_self]
    exact g_if_eq (tgt := 454) B dL_law__449 (by decide) (fun _ => hend _) (fun h => absurd rfl h)
  · exact absurd h0 (cdo_ne (by decide) hE)
set_option maxRecDepth 100000 in
set_option maxHeartbeats 4000000 in
theorem lc_5 {l : Launch} (hl : l.stackTraces = false) {mn : String} {e bs L : Nat} {xs : Nat → Int32} {tb : List ExceptionTableEntry} {Ξ : CT} (hnL : Ξ.2.2.2.2.2.2 = 7) (B : CB (EXl e bs L xs) l room_1 cL_law_ RL mn tb Ξ) {S : Nat → Nat → Mem → Prop} {c n : Nat} {ρ : Nat → Nat} {J : Nat → Int64} {M : Mem} {a b : Nat} (hc : 4 * c + 4 ≤ L) (hL : L ≤ 2048) (ha : a + 13 ≤ 601024) (hb : b + 78 ≤ 7293034) (hp : ∀ x : Int32, PrI l S yX2_edition cX2_edition 3 (some .int) yX3_edition cX3_edition 3 (some .int) [IA] c n M [.int x]) (hnext : ∀ (J' : Nat → Int64) (M' : Mem), S (c + 1) n M' → G Ξ (wsd n ρ J' M') (a + 13) (b + 78) 2116 [(4, .int (nI (4 * c))), (0, .ref bs), (1, .ref (ρ 0)), (2, .ref (ρ 9)), (3, .ref (ρ 8))] []) : G Ξ (wsd n ρ J M) a b 457 [(4, .int (nI (4 * c))), (0, .ref bs), (1, .ref (ρ 0)), (2, .ref (ρ 9)), (3, .ref (ρ 8))] [] := by
  obtain ⟨h, mc, ms, h2, o, x2, M2, hc1, hh, hmc, hms, ho, hm1, hh2, hcode, hval, hS⟩ := hp (xs (4 * c + 1))
  refine g_aload_n (j := 2) B dL_law__457 rfl rfl ?_
  refine g_aload_n (j := 1) B dL_law__458 rfl rfl ?_
  refine g_iload (j := 0) B dL_law__459 rfl ?_
  refine g_iconst (v := 1) B dL_law__461 (by decide) ?_
  refine g_iadd B dL_law__462 ?_
  refine g_sld (4 * c + 1) B (nI_add (4 * c) 1) (by omega) (by omega) dL_law__463 ?_
  refine g_aload_n (j := 4) B dL_law__464 rfl rfl ?_
  refine g_callSX (nA := 3) (As := [.ref (ρ 0), .int (xs (4 * c + 1)), .ref (ρ 8)]) B (w_edition hl (hc1 ρ J) hh hmc hms ho) EXl.e EXe.carr (gw_goodS mw_267 mw_265 mw_266 mw_77) mw_77 (by decide +kernel) ⟨(Nat.le_of_ble_eq_true rfl), (Nat.le_of_ble_eq_true rfl)⟩ rfl rfl (Nat.le_of_ble_eq_true rfl) dL_law__465 ⟨by show a + 13 ≤ 601024; omega, by show b + 78 ≤ 7293034; omega⟩ (fun _ _ h => h.elim) (fun v u hvu => ?_)
  obtain ⟨rfl, rfl⟩ := hvu
  refine g_istore (ls2 := [(5, .int (cdo [IA] o)), (4, .int (nI (4 * c))), (0, .ref bs), (1, .ref (ρ 0)), (2, .ref (ρ 9)), (3, .ref (ρ 8))]) B hnL dL_law__468 (by decide) rfl ?_
  refine g_aload_n (j := 4) B dL_law__470 rfl rfl ?_
  refine g_aload_n (j := 2) B dL_law__471 rfl rfl ?_
  refine g_iload (j := 1) B dL_law__472 rfl ?_
  refine g_iconst (v := 1) B dL_law__474 (by decide) ?_
  refine g_iadd B dL_law__475 ?_
  refine g_sld (4 * c + 1) B (nI_add (4 * c) 1) (by omega) (by omega) dL_law__476 ?_
  refine g_callV (i := 9) (ci := 4) (nA := 1) (Cn := RX3) (As := [.int (xs (4 * c + 1))]) B (CtO.g (hm1 ρ (Jn J o))) EXl.gp carrGP (fun cA => ws_at (cnt_fix (by decide))) rfl rfl mw_278 mw_275 mw_276 mw_277 mw_5 (by decide +kernel) ⟨by show h2 + 1 ≤ 13; omega, by show 8 + (3 + 11) + (30 * h2 + 60) ≤ 474; omega⟩ rfl rfl (Nat.le_of_ble_eq_true rfl) dL_law__477 ⟨by show _ + 0 ≤ 601024; omega, by show _ + 0 ≤ 7293034; omega⟩ (fun _ _ h => absurd h.1 (fun z => by cases z)) (fun v u hvu => ?_)
  obtain ⟨hv, rfl⟩ := hvu
  cases hv
  refine g_istore (ls2 := [(6, .int x2), (5, .int (cdo [IA] o)), (4, .int (nI (4 * c))), (0, .ref bs), (1, .ref (ρ 0)), (2, .ref (ρ 9)), (3, .ref (ρ 8))]) B hnL dL_law__480 (by decide) rfl ?_
  refine g_aload_n (j := 5) B dL_law__482 rfl rfl ?_
  refine g_callV (i := 9) (ci := 4) (nA := 0) (Cn := RX3) (As := []) B (CtO.g (c_X3_thrown hl)) EXl.gp carrGP (fun cA => ws_at (cnt_fix (by decide))) rfl rfl mw_167 mw_164 mw_165 mw_166 mw_5 (by decide +kernel) (by decide) rfl rfl (Nat.le_of_ble_eq_true rfl) dL_law__483 ⟨by show _ + 0 ≤ 601024; omega, by show _ + 0 ≤ 7293034; omega⟩ (fun _ _ h => absurd h.1 (fun z => by cases z)) (fun v u hvu => ?_)
  obtain ⟨hv, rfl⟩ := hvu
  cases hv
  refine g_iload (j := 1) B dL_law__486 rfl ?_
  refine g_icmp_eq (tgt := 493) B dL_law__488 (by decide) (fun _ => ?_) (fun h => absurd hcode h)
  refine g_iload (j := 1) B dL_law__493 rfl ?_
  have hend : ∀ J2, G Ξ (wsd n ρ J2 M2) (a + 13) (b + 78) 510 [(6, .int x2), (5, .int (cdo [IA] o)), (4, .int (nI (4 * c))), (0, .ref bs), (1, .ref (ρ 0)), (2, .ref (ρ 9)), (3, .ref (ρ 8))] [] := fun J2 => by
    refine g_goto (tgt := 2116) B dL_law__510 (by decide) ?_
    refine g_sub [2, 3, 4, 5, 6] rfl ?_
    exact hnext _ _ hS
  refine g_if_ne (tgt := 510) B dL_law__495 (by decide) (fun _ => hend _) (fun h0 => ?_)
  rcases ho with ⟨x0, N, rfl⟩ | ⟨Ey, N, hE, rfl⟩
  · have hx2 : x0 = x2 := hval x0 N rfl
    subst hx2
    refine g_aload_n (j := 6) B dL_law__498 rfl rfl ?_
    refine g_iconst (v := 0) B dL_law__499 (by decide) ?_
    refine g_lald (N := 1) (f := (Jn J (rI x0 N))) 8 B (fun cA => ws_at (cnt_fix (by decide))) (vp_in_nI (n := 0) (by decide) (by decide)) dL_law__500 ?_
    refine g_iload (j := 0) B dL_law__501 rfl ?_
    refine g_i2l B dL_law__503 ?_
    refine g_lcmp B dL_law__504 ?_
    rw [show (Jn J (rI x0 N)) (0 : Int32).toNatClampNeg = x0.toInt64 from rfl, lcmp_self]
    exact g_if_eq (tgt := 510) B dL_law__505 (by decide) (fun _ => hend _) (fun h => absurd rfl h)
  · exact absurd h0 (cdo_ne (by decide) hE)
set_option maxRecDepth 100000 in
set_option maxHeartbeats 4000000 in
theorem lc_6 {l : Launch} (hl : l.stackTraces = false) {mn : String} {e bs L : Nat} {xs : Nat → Int32} {tb : List ExceptionTableEntry} {Ξ : CT} (hnL : Ξ.2.2.2.2.2.2 = 7) (B : CB (EXl e bs L xs) l room_1 cL_law_ RL mn tb Ξ) {S : Nat → Nat → Mem → Prop} {c n : Nat} {ρ : Nat → Nat} {J : Nat → Int64} {M : Mem} {a b : Nat} (hc : 4 * c + 4 ≤ L) (hL : L ≤ 2048) (ha : a + 13 ≤ 601024) (hb : b + 78 ≤ 7293034) (hp : ∀ x y : Int32, PrI l S yX2_tell cX2_tell 4 (some .int) yX3_tell cX3_tell 4 (some .int) [IA] c n M [.int x, .int y]) (hnext : ∀ (J' : Nat → Int64) (M' : Mem), S (c + 1) n M' → G Ξ (wsd n ρ J' M') (a + 13) (b + 78) 2116 [(4, .int (nI (4 * c))), (0, .ref bs), (1, .ref (ρ 0)), (2, .ref (ρ 9)), (3, .ref (ρ 8))] []) : G Ξ (wsd n ρ J M) a b 513 [(4, .int (nI (4 * c))), (0, .ref bs), (1, .ref (ρ 0)), (2, .ref (ρ 9)), (3, .ref (ρ 8))] [] := by
  obtain ⟨h, mc, ms, h2, o, x2, M2, hc1, hh, hmc, hms, ho, hm1, hh2, hcode, hval, hS⟩ := hp (xs (4 * c + 1)) (xs (4 * c + 2))
  refine g_aload_n (j := 2) B dL_law__513 rfl rfl ?_
  refine g_aload_n (j := 1) B dL_law__514 rfl rfl ?_
  refine g_iload (j := 0) B dL_law__515 rfl ?_
  refine g_iconst (v := 1) B dL_law__517 (by decide) ?_
  refine g_iadd B dL_law__518 ?_
  refine g_sld (4 * c + 1) B (nI_add (4 * c) 1) (by omega) (by omega) dL_law__519 ?_
  refine g_aload_n (j := 1) B dL_law__520 rfl rfl ?_
  refine g_iload (j := 0) B dL_law__521 rfl ?_
  refine g_iconst (v := 2) B dL_law__523 (by decide) ?_
  refine g_iadd B dL_law__524 ?_
  refine g_sld (4 * c + 2) B (nI_add (4 * c) 2) (by omega) (by omega) dL_law__525 ?_
  refine g_aload_n (j := 4) B dL_law__526 rfl rfl ?_
  refine g_callSX (nA := 4) (As := [.ref (ρ 0), .int (xs (4 * c + 1)), .int (xs (4 * c + 2)), .ref (ρ 8)]) B (w_tell hl (hc1 ρ J) hh hmc hms ho) EXl.e EXe.carr (gw_goodS mw_284 mw_282 mw_283 mw_77) mw_77 (by decide +kernel) ⟨(Nat.le_of_ble_eq_true rfl), (Nat.le_of_ble_eq_true rfl)⟩ rfl rfl (Nat.le_of_ble_eq_true rfl) dL_law__527 ⟨by show a + 13 ≤ 601024; omega, by show b + 78 ≤ 7293034; omega⟩ (fun _ _ h => h.elim) (fun v u hvu => ?_)
  obtain ⟨rfl, rfl⟩ := hvu
  refine g_istore (ls2 := [(5, .int (cdo [IA] o)), (4, .int (nI (4 * c))), (0, .ref bs), (1, .ref (ρ 0)), (2, .ref (ρ 9)), (3, .ref (ρ 8))]) B hnL dL_law__530 (by decide) rfl ?_
  refine g_aload_n (j := 4) B dL_law__532 rfl rfl ?_
  refine g_aload_n (j := 2) B dL_law__533 rfl rfl ?_
  refine g_iload (j := 1) B dL_law__534 rfl ?_
  refine g_iconst (v := 1) B dL_law__536 (by decide) ?_
  refine g_iadd B dL_law__537 ?_
  refine g_sld (4 * c + 1) B (nI_add (4 * c) 1) (by omega) (by omega) dL_law__538 ?_
  refine g_aload_n (j := 2) B dL_law__539 rfl rfl ?_
  refine g_iload (j := 1) B dL_law__540 rfl ?_
  refine g_iconst (v := 2) B dL_law__542 (by decide) ?_
  refine g_iadd B dL_law__543 ?_
  refine g_sld (4 * c + 2) B (nI_add (4 * c) 2) (by omega) (by omega) dL_law__544 ?_
  refine g_callV (i := 9) (ci := 4) (nA := 2) (Cn := RX3) (As := [.int (xs (4 * c + 1)), .int (xs (4 * c + 2))]) B (CtO.g (hm1 ρ (Jn J o))) EXl.gp carrGP (fun cA => ws_at (cnt_fix (by decide))) rfl rfl mw_292 mw_289 mw_290 mw_291 mw_5 (by decide +kernel) ⟨by show h2 + 1 ≤ 13; omega, by show 8 + (4 + 11) + (30 * h2 + 60) ≤ 474; omega⟩ rfl rfl (Nat.le_of_ble_eq_true rfl) dL_law__545 ⟨by show _ + 0 ≤ 601024; omega, by show _ + 0 ≤ 7293034; omega⟩ (fun _ _ h => absurd h.1 (fun z => by cases z)) (fun v u hvu => ?_)
  obtain ⟨hv, rfl⟩ := hvu
  cases hv
  refine g_istore (ls2 := [(6, .int x2), (5, .int (cdo [IA] o)), (4, .int (nI (4 * c))), (0, .ref bs), (1, .ref (ρ 0)), (2, .ref (ρ 9)), (3, .ref (ρ 8))]) B hnL dL_law__548 (by decide) rfl ?_
  refine g_aload_n (j := 5) B dL_law__550 rfl rfl ?_
  refine g_callV (i := 9) (ci := 4) (nA := 0) (Cn := RX3) (As := []) B (CtO.g (c_X3_thrown hl)) EXl.gp carrGP (fun cA => ws_at (cnt_fix (by decide))) rfl rfl mw_167 mw_164 mw_165 mw_166 mw_5 (by decide +kernel) (by decide) rfl rfl (Nat.le_of_ble_eq_true rfl) dL_law__551 ⟨by show _ + 0 ≤ 601024; omega, by show _ + 0 ≤ 7293034; omega⟩ (fun _ _ h => absurd h.1 (fun z => by cases z)) (fun v u hvu => ?_)
  obtain ⟨hv, rfl⟩ := hvu
  cases hv
  refine g_iload (j := 1) B dL_law__554 rfl ?_
  refine g_icmp_eq (tgt := 561) B dL_law__556 (by decide) (fun _ => ?_) (fun h => absurd hcode h)
  refine g_iload (j := 1) B dL_law__561 rfl ?_
  have hend : ∀ J2, G Ξ (wsd n ρ J2 M2) (a + 13) (b + 78) 578 [(6, .int x2), (5, .int (cdo [IA] o)), (4, .int (nI (4 * c))), (0, .ref bs), (1, .ref (ρ 0)), (2, .ref (ρ 9)), (3, .ref (ρ 8))] [] := fun J2 => by
    refine g_goto (tgt := 2116) B dL_law__578 (by decide) ?_
    refine g_sub [2, 3, 4, 5, 6] rfl ?_
    exact hnext _ _ hS
  refine g_if_ne (tgt := 578) B dL_law__563 (by decide) (fun _ => hend _) (fun h0 => ?_)
  rcases ho with ⟨x0, N, rfl⟩ | ⟨Ey, N, hE, rfl⟩
  · have hx2 : x0 = x2 := hval x0 N rfl
    subst hx2
    refine g_aload_n (j := 6) B dL_law__566 rfl rfl ?_
    refine g_iconst (v := 0) B dL_law__567 (by decide) ?_
    refine g_lald (N := 1) (f := (Jn J (rI x0 N))) 8 B (fun cA => ws_at (cnt_fix (by decide))) (vp_in_nI (n := 0) (by decide) (by decide)) dL_law__568 ?_
    refine g_iload (j := 0) B dL_law__569 rfl ?_
    refine g_i2l B dL_law__571 ?_
    refine g_lcmp B dL_law__572 ?_
    rw [show (Jn J (rI x0 N)) (0 : Int32).toNatClampNeg = x0.toInt64 from rfl, lcmp_self]
    exact g_if_eq (tgt := 578) B dL_law__573 (by decide) (fun _ => hend _) (fun h => absurd rfl h)
  · exact absurd h0 (cdo_ne (by decide) hE)
set_option maxRecDepth 100000 in
set_option maxHeartbeats 4000000 in
theorem lc_7 {l : Launch} (hl : l.stackTraces = false) {mn : String} {e bs L : Nat} {xs : Nat → Int32} {tb : List ExceptionTableEntry} {Ξ : CT} (hnL : Ξ.2.2.2.2.2.2 = 7) (B : CB (EXl e bs L xs) l room_1 cL_law_ RL mn tb Ξ) {S : Nat → Nat → Mem → Prop} {c n : Nat} {ρ : Nat → Nat} {J : Nat → Int64} {M : Mem} {a b : Nat} (hc : 4 * c + 4 ≤ L) (hL : L ≤ 2048) (ha : a + 13 ≤ 601024) (hb : b + 78 ≤ 7293034) (hp : PrI l S yX2_payday cX2_payday 4 (some .int) yX3_payday cX3_payday 3 (some .int) [IS] c n M []) (hnext : ∀ (J' : Nat → Int64) (M' : Mem), S (c + 1) n M' → G Ξ (wsd n ρ J' M') (a + 13) (b + 78) 2116 [(4, .int (nI (4 * c))), (0, .ref bs), (1, .ref (ρ 0)), (2, .ref (ρ 9)), (3, .ref (ρ 8))] []) : G Ξ (wsd n ρ J M) a b 581 [(4, .int (nI (4 * c))), (0, .ref bs), (1, .ref (ρ 0)), (2, .ref (ρ 9)), (3, .ref (ρ 8))] [] := by
  obtain ⟨h, mc, ms, h2, o, x2, M2, hc1, hh, hmc, hms, ho, hm1, hh2, hcode, hval, hS⟩ := hp 
  refine g_aload_n (j := 2) B dL_law__581 rfl rfl ?_
  refine g_aload_n (j := 4) B dL_law__582 rfl rfl ?_
  refine g_callSX (nA := 2) (As := [.ref (ρ 0), .ref (ρ 8)]) B (w_payday hl (hc1 ρ J) hh hmc hms ho) EXl.e EXe.carr (gw_goodS mw_295 mw_293 mw_294 mw_77) mw_77 (by decide +kernel) ⟨(Nat.le_of_ble_eq_true rfl), (Nat.le_of_ble_eq_true rfl)⟩ rfl rfl (Nat.le_of_ble_eq_true rfl) dL_law__583 ⟨by show a + 13 ≤ 601024; omega, by show b + 78 ≤ 7293034; omega⟩ (fun _ _ h => h.elim) (fun v u hvu => ?_)
  obtain ⟨rfl, rfl⟩ := hvu
  refine g_istore (ls2 := [(5, .int (cdo [IS] o)), (4, .int (nI (4 * c))), (0, .ref bs), (1, .ref (ρ 0)), (2, .ref (ρ 9)), (3, .ref (ρ 8))]) B hnL dL_law__586 (by decide) rfl ?_
  refine g_aload_n (j := 4) B dL_law__588 rfl rfl ?_
  refine g_callV (i := 9) (ci := 4) (nA := 0) (Cn := RX3) (As := []) B (CtO.g (hm1 ρ (Jn J o))) EXl.gp carrGP (fun cA => ws_at (cnt_fix (by decide))) rfl rfl mw_365 mw_362 mw_363 mw_364 mw_5 (by decide +kernel) ⟨by show h2 + 1 ≤ 13; omega, by show 8 + (3 + 11) + (30 * h2 + 60) ≤ 474; omega⟩ rfl rfl (Nat.le_of_ble_eq_true rfl) dL_law__589 ⟨by show _ + 0 ≤ 601024; omega, by show _ + 0 ≤ 7293034; omega⟩ (fun _ _ h => absurd h.1 (fun z => by cases z)) (fun v u hvu => ?_)
  obtain ⟨hv, rfl⟩ := hvu
  cases hv
  refine g_istore (ls2 := [(6, .int x2), (5, .int (cdo [IS] o)), (4, .int (nI (4 * c))), (0, .ref bs), (1, .ref (ρ 0)), (2, .ref (ρ 9)), (3, .ref (ρ 8))]) B hnL dL_law__592 (by decide) rfl ?_
  refine g_aload_n (j := 5) B dL_law__594 rfl rfl ?_
  refine g_callV (i := 9) (ci := 4) (nA := 0) (Cn := RX3) (As := []) B (CtO.g (c_X3_thrown hl)) EXl.gp carrGP (fun cA => ws_at (cnt_fix (by decide))) rfl rfl mw_167 mw_164 mw_165 mw_166 mw_5 (by decide +kernel) (by decide) rfl rfl (Nat.le_of_ble_eq_true rfl) dL_law__595 ⟨by show _ + 0 ≤ 601024; omega, by show _ + 0 ≤ 7293034; omega⟩ (fun _ _ h => absurd h.1 (fun z => by cases z)) (fun v u hvu => ?_)
  obtain ⟨hv, rfl⟩ := hvu
  cases hv
  refine g_iload (j := 1) B dL_law__598 rfl ?_
  refine g_icmp_eq (tgt := 605) B dL_law__600 (by decide) (fun _ => ?_) (fun h => absurd hcode h)
  refine g_iload (j := 1) B dL_law__605 rfl ?_
  have hend : ∀ J2, G Ξ (wsd n ρ J2 M2) (a + 13) (b + 78) 622 [(6, .int x2), (5, .int (cdo [IS] o)), (4, .int (nI (4 * c))), (0, .ref bs), (1, .ref (ρ 0)), (2, .ref (ρ 9)), (3, .ref (ρ 8))] [] := fun J2 => by
    refine g_goto (tgt := 2116) B dL_law__622 (by decide) ?_
    refine g_sub [2, 3, 4, 5, 6] rfl ?_
    exact hnext _ _ hS
  refine g_if_ne (tgt := 622) B dL_law__607 (by decide) (fun _ => hend _) (fun h0 => ?_)
  rcases ho with ⟨x0, N, rfl⟩ | ⟨Ey, N, hE, rfl⟩
  · have hx2 : x0 = x2 := hval x0 N rfl
    subst hx2
    refine g_aload_n (j := 6) B dL_law__610 rfl rfl ?_
    refine g_iconst (v := 0) B dL_law__611 (by decide) ?_
    refine g_lald (N := 1) (f := (Jn J (rI x0 N))) 8 B (fun cA => ws_at (cnt_fix (by decide))) (vp_in_nI (n := 0) (by decide) (by decide)) dL_law__612 ?_
    refine g_iload (j := 0) B dL_law__613 rfl ?_
    refine g_i2l B dL_law__615 ?_
    refine g_lcmp B dL_law__616 ?_
    rw [show (Jn J (rI x0 N)) (0 : Int32).toNatClampNeg = x0.toInt64 from rfl, lcmp_self]
    exact g_if_eq (tgt := 622) B dL_law__617 (by decide) (fun _ => hend _) (fun h => absurd rfl h)
  · exact absurd h0 (cdo_ne (by decide) hE)
set_option maxRecDepth 100000 in
set_option maxHeartbeats 4000000 in
theorem lc_8 {l : Launch} (hl : l.stackTraces = false) {mn : String} {e bs L : Nat} {xs : Nat → Int32} {tb : List ExceptionTableEntry} {Ξ : CT} (hnL : Ξ.2.2.2.2.2.2 = 7) (B : CB (EXl e bs L xs) l room_1 cL_law_ RL mn tb Ξ) {S : Nat → Nat → Mem → Prop} {c n : Nat} {ρ : Nat → Nat} {J : Nat → Int64} {M : Mem} {a b : Nat} (hc : 4 * c + 4 ≤ L) (hL : L ≤ 2048) (ha : a + 13 ≤ 601024) (hb : b + 78 ≤ 7293034) (hp : ∀ x : Int32, PrV l S yX2_house cX2_house 3 none yX3_house cX3_house 2 none [IX, IS] c n M [.int x]) (hnext : ∀ (J' : Nat → Int64) (M' : Mem), S (c + 1) n M' → G Ξ (wsd n ρ J' M') (a + 13) (b + 78) 2116 [(4, .int (nI (4 * c))), (0, .ref bs), (1, .ref (ρ 0)), (2, .ref (ρ 9)), (3, .ref (ρ 8))] []) : G Ξ (wsd n ρ J M) a b 625 [(4, .int (nI (4 * c))), (0, .ref bs), (1, .ref (ρ 0)), (2, .ref (ρ 9)), (3, .ref (ρ 8))] [] := by
  obtain ⟨h, mc, ms, h2, o, M2, hc1, hh, hmc, hms, ho, hm1, hh2, hcode, hS⟩ := hp (xs (4 * c + 1))
  refine g_aload_n (j := 2) B dL_law__625 rfl rfl ?_
  refine g_aload_n (j := 1) B dL_law__626 rfl rfl ?_
  refine g_iload (j := 0) B dL_law__627 rfl ?_
  refine g_iconst (v := 1) B dL_law__629 (by decide) ?_
  refine g_iadd B dL_law__630 ?_
  refine g_sld (4 * c + 1) B (nI_add (4 * c) 1) (by omega) (by omega) dL_law__631 ?_
  refine g_callSX (nA := 2) (As := [.ref (ρ 0), .int (xs (4 * c + 1))]) B (w_house hl (hc1 ρ J) hh hmc hms ho) EXl.e EXe.carr (gw_goodS mw_384 mw_382 mw_383 mw_77) mw_77 (by decide +kernel) ⟨(Nat.le_of_ble_eq_true rfl), (Nat.le_of_ble_eq_true rfl)⟩ rfl rfl (Nat.le_of_ble_eq_true rfl) dL_law__632 ⟨by show a + 13 ≤ 601024; omega, by show b + 78 ≤ 7293034; omega⟩ (fun _ _ h => h.elim) (fun v u hvu => ?_)
  obtain ⟨rfl, rfl⟩ := hvu
  refine g_istore (ls2 := [(5, .int (cdo [IX, IS] o)), (4, .int (nI (4 * c))), (0, .ref bs), (1, .ref (ρ 0)), (2, .ref (ρ 9)), (3, .ref (ρ 8))]) B hnL dL_law__635 (by decide) rfl ?_
  refine g_aload_n (j := 4) B dL_law__637 rfl rfl ?_
  refine g_aload_n (j := 2) B dL_law__638 rfl rfl ?_
  refine g_iload (j := 1) B dL_law__639 rfl ?_
  refine g_iconst (v := 1) B dL_law__641 (by decide) ?_
  refine g_iadd B dL_law__642 ?_
  refine g_sld (4 * c + 1) B (nI_add (4 * c) 1) (by omega) (by omega) dL_law__643 ?_
  refine g_callV (i := 9) (ci := 4) (nA := 1) (Cn := RX3) (As := [.int (xs (4 * c + 1))]) B (CtO.g (hm1 ρ J)) EXl.gp carrGP (fun cA => ws_at (cnt_fix (by decide))) rfl rfl mw_392 mw_389 mw_390 mw_391 mw_5 (by decide +kernel) ⟨by show h2 + 1 ≤ 13; omega, by show 8 + (2 + 11) + (30 * h2 + 60) ≤ 474; omega⟩ rfl rfl (Nat.le_of_ble_eq_true rfl) dL_law__644 ⟨by show _ + 0 ≤ 601024; omega, by show _ + 0 ≤ 7293034; omega⟩ (fun _ _ h => absurd h.1 (fun z => by cases z)) (fun v u hvu => ?_)
  obtain ⟨hv, rfl⟩ := hvu
  cases hv
  refine g_aload_n (j := 4) B dL_law__647 rfl rfl ?_
  refine g_callV (i := 9) (ci := 4) (nA := 0) (Cn := RX3) (As := []) B (CtO.g (c_X3_thrown hl)) EXl.gp carrGP (fun cA => ws_at (cnt_fix (by decide))) rfl rfl mw_167 mw_164 mw_165 mw_166 mw_5 (by decide +kernel) (by decide) rfl rfl (Nat.le_of_ble_eq_true rfl) dL_law__648 ⟨by show _ + 0 ≤ 601024; omega, by show _ + 0 ≤ 7293034; omega⟩ (fun _ _ h => absurd h.1 (fun z => by cases z)) (fun v u hvu => ?_)
  obtain ⟨hv, rfl⟩ := hvu
  cases hv
  refine g_iload (j := 0) B dL_law__651 rfl ?_
  refine g_icmp_eq (tgt := 658) B dL_law__653 (by decide) (fun _ => ?_) (fun h => absurd hcode h)
  refine g_goto (tgt := 2116) B dL_law__658 (by decide) ?_
  refine g_sub [1, 2, 3, 4, 5] rfl ?_
  exact hnext _ _ hS
set_option maxRecDepth 100000 in
set_option maxHeartbeats 4000000 in
theorem lc_9 {l : Launch} (hl : l.stackTraces = false) {mn : String} {e bs L : Nat} {xs : Nat → Int32} {tb : List ExceptionTableEntry} {Ξ : CT} (hnL : Ξ.2.2.2.2.2.2 = 7) (B : CB (EXl e bs L xs) l room_1 cL_law_ RL mn tb Ξ) {S : Nat → Nat → Mem → Prop} {c n : Nat} {ρ : Nat → Nat} {J : Nat → Int64} {M : Mem} {a b : Nat} (hc : 4 * c + 4 ≤ L) (hL : L ≤ 2048) (ha : a + 13 ≤ 601024) (hb : b + 78 ≤ 7293034) (hp : ∀ x y z : Int32, isB z → PrI l S yX2_price cX2_price 6 (some .int) yX3_price cX3_price 6 (some .int) [IX, IA] c n M [.int x, .int y, .int z]) (hnext : ∀ (J' : Nat → Int64) (M' : Mem), S (c + 1) n M' → G Ξ (wsd n ρ J' M') (a + 13) (b + 78) 2116 [(4, .int (nI (4 * c))), (0, .ref bs), (1, .ref (ρ 0)), (2, .ref (ρ 9)), (3, .ref (ρ 8))] []) : G Ξ (wsd n ρ J M) a b 661 [(4, .int (nI (4 * c))), (0, .ref bs), (1, .ref (ρ 0)), (2, .ref (ρ 9)), (3, .ref (ρ 8))] [] := by
  by_cases hz : xs (4 * c + 3) = 0
  · obtain ⟨h, mc, ms, h2, o, x2, M2, hc1, hh, hmc, hms, ho, hm1, hh2, hcode, hval, hS⟩ := hp (xs (4 * c + 1)) (xs (4 * c + 2)) 0 (Or.inl rfl)
    refine g_aload_n (j := 2) B dL_law__661 rfl rfl ?_
    refine g_aload_n (j := 1) B dL_law__662 rfl rfl ?_
    refine g_iload (j := 0) B dL_law__663 rfl ?_
    refine g_iconst (v := 1) B dL_law__665 (by decide) ?_
    refine g_iadd B dL_law__666 ?_
    refine g_sld (4 * c + 1) B (nI_add (4 * c) 1) (by omega) (by omega) dL_law__667 ?_
    refine g_aload_n (j := 1) B dL_law__668 rfl rfl ?_
    refine g_iload (j := 0) B dL_law__669 rfl ?_
    refine g_iconst (v := 2) B dL_law__671 (by decide) ?_
    refine g_iadd B dL_law__672 ?_
    refine g_sld (4 * c + 2) B (nI_add (4 * c) 2) (by omega) (by omega) dL_law__673 ?_
    refine g_aload_n (j := 1) B dL_law__674 rfl rfl ?_
    refine g_iload (j := 0) B dL_law__675 rfl ?_
    refine g_iconst (v := 3) B dL_law__677 (by decide) ?_
    refine g_iadd B dL_law__678 ?_
    refine g_sld (4 * c + 3) B (nI_add (4 * c) 3) (by omega) (by omega) dL_law__679 ?_
    refine g_if_eq (tgt := 687) B dL_law__680 (by decide) (fun _ => ?_) (fun h => absurd hz h)
    refine g_iconst (v := 0) B dL_law__687 (by decide) ?_
    refine g_aload_n (j := 4) B dL_law__688 rfl rfl ?_
    refine g_callSX (nA := 5) (As := [.ref (ρ 0), .int (xs (4 * c + 1)), .int (xs (4 * c + 2)), .int 0, .ref (ρ 8)]) B (w_price hl (hc1 ρ J) hh hmc hms ho) EXl.e EXe.carr (gw_goodS mw_395 mw_393 mw_394 mw_77) mw_77 (by decide +kernel) ⟨(Nat.le_of_ble_eq_true rfl), (Nat.le_of_ble_eq_true rfl)⟩ rfl rfl (Nat.le_of_ble_eq_true rfl) dL_law__689 ⟨by show a + 13 ≤ 601024; omega, by show b + 78 ≤ 7293034; omega⟩ (fun _ _ h => h.elim) (fun v u hvu => ?_)
    obtain ⟨rfl, rfl⟩ := hvu
    refine g_istore (ls2 := [(5, .int (cdo [IX, IA] o)), (4, .int (nI (4 * c))), (0, .ref bs), (1, .ref (ρ 0)), (2, .ref (ρ 9)), (3, .ref (ρ 8))]) B hnL dL_law__692 (by decide) rfl ?_
    refine g_aload_n (j := 4) B dL_law__694 rfl rfl ?_
    refine g_aload_n (j := 2) B dL_law__695 rfl rfl ?_
    refine g_iload (j := 1) B dL_law__696 rfl ?_
    refine g_iconst (v := 1) B dL_law__698 (by decide) ?_
    refine g_iadd B dL_law__699 ?_
    refine g_sld (4 * c + 1) B (nI_add (4 * c) 1) (by omega) (by omega) dL_law__700 ?_
    refine g_aload_n (j := 2) B dL_law__701 rfl rfl ?_
    refine g_iload (j := 1) B dL_law__702 rfl ?_
    refine g_iconst (v := 2) B dL_law__704 (by decide) ?_
    refine g_iadd B dL_law__705 ?_
    refine g_sld (4 * c + 2) B (nI_add (4 * c) 2) (by omega) (by omega) dL_law__706 ?_
    refine g_aload_n (j := 2) B dL_law__707 rfl rfl ?_
    refine g_iload (j := 1) B dL_law__708 rfl ?_
    refine g_iconst (v := 3) B dL_law__710 (by decide) ?_
    refine g_iadd B dL_law__711 ?_
    refine g_sld (4 * c + 3) B (nI_add (4 * c) 3) (by omega) (by omega) dL_law__712 ?_
    refine g_if_eq (tgt := 720) B dL_law__713 (by decide) (fun _ => ?_) (fun h => absurd hz h)
    refine g_iconst (v := 0) B dL_law__720 (by decide) ?_
    refine g_callV (i := 9) (ci := 4) (nA := 3) (Cn := RX3) (As := [.int (xs (4 * c + 1)), .int (xs (4 * c + 2)), .int 0]) B (CtO.g (hm1 ρ (Jn J o))) EXl.gp carrGP (fun cA => ws_at (cnt_fix (by decide))) rfl rfl mw_406 mw_403 mw_404 mw_405 mw_5 (by decide +kernel) ⟨by show h2 + 1 ≤ 13; omega, by show 8 + (6 + 11) + (30 * h2 + 60) ≤ 474; omega⟩ rfl rfl (Nat.le_of_ble_eq_true rfl) dL_law__721 ⟨by show _ + 0 ≤ 601024; omega, by show _ + 0 ≤ 7293034; omega⟩ (fun _ _ h => absurd h.1 (fun z => by cases z)) (fun v u hvu => ?_)
    obtain ⟨hv, rfl⟩ := hvu
    cases hv
    refine g_istore (ls2 := [(6, .int x2), (5, .int (cdo [IX, IA] o)), (4, .int (nI (4 * c))), (0, .ref bs), (1, .ref (ρ 0)), (2, .ref (ρ 9)), (3, .ref (ρ 8))]) B hnL dL_law__724 (by decide) rfl ?_
    refine g_aload_n (j := 5) B dL_law__726 rfl rfl ?_
    refine g_callV (i := 9) (ci := 4) (nA := 0) (Cn := RX3) (As := []) B (CtO.g (c_X3_thrown hl)) EXl.gp carrGP (fun cA => ws_at (cnt_fix (by decide))) rfl rfl mw_167 mw_164 mw_165 mw_166 mw_5 (by decide +kernel) (by decide) rfl rfl (Nat.le_of_ble_eq_true rfl) dL_law__727 ⟨by show _ + 0 ≤ 601024; omega, by show _ + 0 ≤ 7293034; omega⟩ (fun _ _ h => absurd h.1 (fun z => by cases z)) (fun v u hvu => ?_)
    obtain ⟨hv, rfl⟩ := hvu
    cases hv
    refine g_iload (j := 1) B dL_law__730 rfl ?_
    refine g_icmp_eq (tgt := 737) B dL_law__732 (by decide) (fun _ => ?_) (fun h => absurd hcode h)
    refine g_iload (j := 1) B dL_law__737 rfl ?_
    have hend : ∀ J2, G Ξ (wsd n ρ J2 M2) (a + 13) (b + 78) 754 [(6, .int x2), (5, .int (cdo [IX, IA] o)), (4, .int (nI (4 * c))), (0, .ref bs), (1, .ref (ρ 0)), (2, .ref (ρ 9)), (3, .ref (ρ 8))] [] := fun J2 => by
      refine g_goto (tgt := 2116) B dL_law__754 (by decide) ?_
      refine g_sub [2, 3, 4, 5, 6] rfl ?_
      exact hnext _ _ hS
    refine g_if_ne (tgt := 754) B dL_law__739 (by decide) (fun _ => hend _) (fun h0 => ?_)
    rcases ho with ⟨x0, N, rfl⟩ | ⟨Ey, N, hE, rfl⟩
    · have hx2 : x0 = x2 := hval x0 N rfl
      subst hx2
      refine g_aload_n (j := 6) B dL_law__742 rfl rfl ?_
      refine g_iconst (v := 0) B dL_law__743 (by decide) ?_
      refine g_lald (N := 1) (f := (Jn J (rI x0 N))) 8 B (fun cA => ws_at (cnt_fix (by decide))) (vp_in_nI (n := 0) (by decide) (by decide)) dL_law__744 ?_
      refine g_iload (j := 0) B dL_law__745 rfl ?_
      refine g_i2l B dL_law__747 ?_
      refine g_lcmp B dL_law__748 ?_
      rw [show (Jn J (rI x0 N)) (0 : Int32).toNatClampNeg = x0.toInt64 from rfl, lcmp_self]
      exact g_if_eq (tgt := 754) B dL_law__749 (by decide) (fun _ => hend _) (fun h => absurd rfl h)
    · exact absurd h0 (cdo_ne (by decide) hE)
  · obtain ⟨h, mc, ms, h2, o, x2, M2, hc1, hh, hmc, hms, ho, hm1, hh2, hcode, hval, hS⟩ := hp (xs (4 * c + 1)) (xs (4 * c + 2)) 1 (Or.inr rfl)
    refine g_aload_n (j := 2) B dL_law__661 rfl rfl ?_
    refine g_aload_n (j := 1) B dL_law__662 rfl rfl ?_
    refine g_iload (j := 0) B dL_law__663 rfl ?_
    refine g_iconst (v := 1) B dL_law__665 (by decide) ?_
    refine g_iadd B dL_law__666 ?_
    refine g_sld (4 * c + 1) B (nI_add (4 * c) 1) (by omega) (by omega) dL_law__667 ?_
    refine g_aload_n (j := 1) B dL_law__668 rfl rfl ?_
    refine g_iload (j := 0) B dL_law__669 rfl ?_
    refine g_iconst (v := 2) B dL_law__671 (by decide) ?_
    refine g_iadd B dL_law__672 ?_
    refine g_sld (4 * c + 2) B (nI_add (4 * c) 2) (by omega) (by omega) dL_law__673 ?_
    refine g_aload_n (j := 1) B dL_law__674 rfl rfl ?_
    refine g_iload (j := 0) B dL_law__675 rfl ?_
    refine g_iconst (v := 3) B dL_law__677 (by decide) ?_
    refine g_iadd B dL_law__678 ?_
    refine g_sld (4 * c + 3) B (nI_add (4 * c) 3) (by omega) (by omega) dL_law__679 ?_
    refine g_if_eq (tgt := 687) B dL_law__680 (by decide) (fun h => absurd h hz) (fun _ => ?_)
    refine g_iconst (v := 1) B dL_law__683 (by decide) ?_
    refine g_goto (tgt := 688) B dL_law__684 (by decide) ?_
    refine g_aload_n (j := 4) B dL_law__688 rfl rfl ?_
    refine g_callSX (nA := 5) (As := [.ref (ρ 0), .int (xs (4 * c + 1)), .int (xs (4 * c + 2)), .int 1, .ref (ρ 8)]) B (w_price hl (hc1 ρ J) hh hmc hms ho) EXl.e EXe.carr (gw_goodS mw_395 mw_393 mw_394 mw_77) mw_77 (by decide +kernel) ⟨(Nat.le_of_ble_eq_true rfl), (Nat.le_of_ble_eq_true rfl)⟩ rfl rfl (Nat.le_of_ble_eq_true rfl) dL_law__689 ⟨by show a + 13 ≤ 601024; omega, by show b + 78 ≤ 7293034; omega⟩ (fun _ _ h => h.elim) (fun v u hvu => ?_)
    obtain ⟨rfl, rfl⟩ := hvu
    refine g_istore (ls2 := [(5, .int (cdo [IX, IA] o)), (4, .int (nI (4 * c))), (0, .ref bs), (1, .ref (ρ 0)), (2, .ref (ρ 9)), (3, .ref (ρ 8))]) B hnL dL_law__692 (by decide) rfl ?_
    refine g_aload_n (j := 4) B dL_law__694 rfl rfl ?_
    refine g_aload_n (j := 2) B dL_law__695 rfl rfl ?_
    refine g_iload (j := 1) B dL_law__696 rfl ?_
    refine g_iconst (v := 1) B dL_law__698 (by decide) ?_
    refine g_iadd B dL_law__699 ?_
    refine g_sld (4 * c + 1) B (nI_add (4 * c) 1) (by omega) (by omega) dL_law__700 ?_
    refine g_aload_n (j := 2) B dL_law__701 rfl rfl ?_
    refine g_iload (j := 1) B dL_law__702 rfl ?_
    refine g_iconst (v := 2) B dL_law__704 (by decide) ?_
    refine g_iadd B dL_law__705 ?_
    refine g_sld (4 * c + 2) B (nI_add (4 * c) 2) (by omega) (by omega) dL_law__706 ?_
    refine g_aload_n (j := 2) B dL_law__707 rfl rfl ?_
    refine g_iload (j := 1) B dL_law__708 rfl ?_
    refine g_iconst (v := 3) B dL_law__710 (by decide) ?_
    refine g_iadd B dL_law__711 ?_
    refine g_sld (4 * c + 3) B (nI_add (4 * c) 3) (by omega) (by omega) dL_law__712 ?_
    refine g_if_eq (tgt := 720) B dL_law__713 (by decide) (fun h => absurd h hz) (fun _ => ?_)
    refine g_iconst (v := 1) B dL_law__716 (by decide) ?_
    refine g_goto (tgt := 721) B dL_law__717 (by decide) ?_
    refine g_callV (i := 9) (ci := 4) (nA := 3) (Cn := RX3) (As := [.int (xs (4 * c + 1)), .int (xs (4 * c + 2)), .int 1]) B (CtO.g (hm1 ρ (Jn J o))) EXl.gp carrGP (fun cA => ws_at (cnt_fix (by decide))) rfl rfl mw_406 mw_403 mw_404 mw_405 mw_5 (by decide +kernel) ⟨by show h2 + 1 ≤ 13; omega, by show 8 + (6 + 11) + (30 * h2 + 60) ≤ 474; omega⟩ rfl rfl (Nat.le_of_ble_eq_true rfl) dL_law__721 ⟨by show _ + 0 ≤ 601024; omega, by show _ + 0 ≤ 7293034; omega⟩ (fun _ _ h => absurd h.1 (fun z => by cases z)) (fun v u hvu => ?_)
    obtain ⟨hv, rfl⟩ := hvu
    cases hv
    refine g_istore (ls2 := [(6, .int x2), (5, .int (cdo [IX, IA] o)), (4, .int (nI (4 * c))), (0, .ref bs), (1, .ref (ρ 0)), (2, .ref (ρ 9)), (3, .ref (ρ 8))]) B hnL dL_law__724 (by decide) rfl ?_
    refine g_aload_n (j := 5) B dL_law__726 rfl rfl ?_
    refine g_callV (i := 9) (ci := 4) (nA := 0) (Cn := RX3) (As := []) B (CtO.g (c_X3_thrown hl)) EXl.gp carrGP (fun cA => ws_at (cnt_fix (by decide))) rfl rfl mw_167 mw_164 mw_165 mw_166 mw_5 (by decide +kernel) (by decide) rfl rfl (Nat.le_of_ble_eq_true rfl) dL_law__727 ⟨by show _ + 0 ≤ 601024; omega, by show _ + 0 ≤ 7293034; omega⟩ (fun _ _ h => absurd h.1 (fun z => by cases z)) (fun v u hvu => ?_)
    obtain ⟨hv, rfl⟩ := hvu
    cases hv
    refine g_iload (j := 1) B dL_law__730 rfl ?_
    refine g_icmp_eq (tgt := 737) B dL_law__732 (by decide) (fun _ => ?_) (fun h => absurd hcode h)
    refine g_iload (j := 1) B dL_law__737 rfl ?_
    have hend : ∀ J2, G Ξ (wsd n ρ J2 M2) (a + 13) (b + 78) 754 [(6, .int x2), (5, .int (cdo [IX, IA] o)), (4, .int (nI (4 * c))), (0, .ref bs), (1, .ref (ρ 0)), (2, .ref (ρ 9)), (3, .ref (ρ 8))] [] := fun J2 => by
      refine g_goto (tgt := 2116) B dL_law__754 (by decide) ?_
      refine g_sub [2, 3, 4, 5, 6] rfl ?_
      exact hnext _ _ hS
    refine g_if_ne (tgt := 754) B dL_law__739 (by decide) (fun _ => hend _) (fun h0 => ?_)
    rcases ho with ⟨x0, N, rfl⟩ | ⟨Ey, N, hE, rfl⟩
    · have hx2 : x0 = x2 := hval x0 N rfl
      subst hx2
      refine g_aload_n (j := 6) B dL_law__742 rfl rfl ?_
      refine g_iconst (v := 0) B dL_law__743 (by decide) ?_
      refine g_lald (N := 1) (f := (Jn J (rI x0 N))) 8 B (fun cA => ws_at (cnt_fix (by decide))) (vp_in_nI (n := 0) (by decide) (by decide)) dL_law__744 ?_
      refine g_iload (j := 0) B dL_law__745 rfl ?_
      refine g_i2l B dL_law__747 ?_
      refine g_lcmp B dL_law__748 ?_
      rw [show (Jn J (rI x0 N)) (0 : Int32).toNatClampNeg = x0.toInt64 from rfl, lcmp_self]
      exact g_if_eq (tgt := 754) B dL_law__749 (by decide) (fun _ => hend _) (fun h => absurd rfl h)
    · exact absurd h0 (cdo_ne (by decide) hE)
set_option maxRecDepth 100000 in
set_option maxHeartbeats 4000000 in
theorem lc_10 {l : Launch} (hl : l.stackTraces = false) {mn : String} {e bs L : Nat} {xs : Nat → Int32} {tb : List ExceptionTableEntry} {Ξ : CT} (hnL : Ξ.2.2.2.2.2.2 = 7) (B : CB (EXl e bs L xs) l room_1 cL_law_ RL mn tb Ξ) {S : Nat → Nat → Mem → Prop} {c n : Nat} {ρ : Nat → Nat} {J : Nat → Int64} {M : Mem} {a b : Nat} (hc : 4 * c + 4 ≤ L) (hL : L ≤ 2048) (ha : a + 13 ≤ 601024) (hb : b + 78 ≤ 7293034) (hp : ∀ x y : Int32, PrI l S yX2_raised cX2_raised 4 (some .int) yX3_raised cX3_raised 3 (some .int) [IX] c n M [.int x, .int y]) (hnext : ∀ (J' : Nat → Int64) (M' : Mem), S (c + 1) n M' → G Ξ (wsd n ρ J' M') (a + 13) (b + 78) 2116 [(4, .int (nI (4 * c))), (0, .ref bs), (1, .ref (ρ 0)), (2, .ref (ρ 9)), (3, .ref (ρ 8))] []) : G Ξ (wsd n ρ J M) a b 757 [(4, .int (nI (4 * c))), (0, .ref bs), (1, .ref (ρ 0)), (2, .ref (ρ 9)), (3, .ref (ρ 8))] [] := by
  obtain ⟨h, mc, ms, h2, o, x2, M2, hc1, hh, hmc, hms, ho, hm1, hh2, hcode, hval, hS⟩ := hp (xs (4 * c + 1)) (xs (4 * c + 2))
  refine g_aload_n (j := 2) B dL_law__757 rfl rfl ?_
  refine g_aload_n (j := 1) B dL_law__758 rfl rfl ?_
  refine g_iload (j := 0) B dL_law__759 rfl ?_
  refine g_iconst (v := 1) B dL_law__761 (by decide) ?_
  refine g_iadd B dL_law__762 ?_
  refine g_sld (4 * c + 1) B (nI_add (4 * c) 1) (by omega) (by omega) dL_law__763 ?_
  refine g_aload_n (j := 1) B dL_law__764 rfl rfl ?_
  refine g_iload (j := 0) B dL_law__765 rfl ?_
  refine g_iconst (v := 2) B dL_law__767 (by decide) ?_
  refine g_iadd B dL_law__768 ?_
  refine g_sld (4 * c + 2) B (nI_add (4 * c) 2) (by omega) (by omega) dL_law__769 ?_
  refine g_aload_n (j := 4) B dL_law__770 rfl rfl ?_
  refine g_callSX (nA := 4) (As := [.ref (ρ 0), .int (xs (4 * c + 1)), .int (xs (4 * c + 2)), .ref (ρ 8)]) B (w_raised hl (hc1 ρ J) hh hmc hms ho) EXl.e EXe.carr (gw_goodS mw_412 mw_410 mw_411 mw_77) mw_77 (by decide +kernel) ⟨(Nat.le_of_ble_eq_true rfl), (Nat.le_of_ble_eq_true rfl)⟩ rfl rfl (Nat.le_of_ble_eq_true rfl) dL_law__771 ⟨by show a + 13 ≤ 601024; omega, by show b + 78 ≤ 7293034; omega⟩ (fun _ _ h => h.elim) (fun v u hvu => ?_)
  obtain ⟨rfl, rfl⟩ := hvu
  refine g_istore (ls2 := [(5, .int (cdo [IX] o)), (4, .int (nI (4 * c))), (0, .ref bs), (1, .ref (ρ 0)), (2, .ref (ρ 9)), (3, .ref (ρ 8))]) B hnL dL_law__774 (by decide) rfl ?_
  refine g_aload_n (j := 4) B dL_law__776 rfl rfl ?_
  refine g_aload_n (j := 2) B dL_law__777 rfl rfl ?_
  refine g_iload (j := 1) B dL_law__778 rfl ?_
  refine g_iconst (v := 1) B dL_law__780 (by decide) ?_
  refine g_iadd B dL_law__781 ?_
  refine g_sld (4 * c + 1) B (nI_add (4 * c) 1) (by omega) (by omega) dL_law__782 ?_
  refine g_aload_n (j := 2) B dL_law__783 rfl rfl ?_
  refine g_iload (j := 1) B dL_law__784 rfl ?_
  refine g_iconst (v := 2) B dL_law__786 (by decide) ?_
  refine g_iadd B dL_law__787 ?_
  refine g_sld (4 * c + 2) B (nI_add (4 * c) 2) (by omega) (by omega) dL_law__788 ?_
  refine g_callV (i := 9) (ci := 4) (nA := 2) (Cn := RX3) (As := [.int (xs (4 * c + 1)), .int (xs (4 * c + 2))]) B (CtO.g (hm1 ρ (Jn J o))) EXl.gp carrGP (fun cA => ws_at (cnt_fix (by decide))) rfl rfl mw_424 mw_421 mw_422 mw_423 mw_5 (by decide +kernel) ⟨by show h2 + 1 ≤ 13; omega, by show 8 + (3 + 11) + (30 * h2 + 60) ≤ 474; omega⟩ rfl rfl (Nat.le_of_ble_eq_true rfl) dL_law__789 ⟨by show _ + 0 ≤ 601024; omega, by show _ + 0 ≤ 7293034; omega⟩ (fun _ _ h => absurd h.1 (fun z => by cases z)) (fun v u hvu => ?_)
  obtain ⟨hv, rfl⟩ := hvu
  cases hv
  refine g_istore (ls2 := [(6, .int x2), (5, .int (cdo [IX] o)), (4, .int (nI (4 * c))), (0, .ref bs), (1, .ref (ρ 0)), (2, .ref (ρ 9)), (3, .ref (ρ 8))]) B hnL dL_law__792 (by decide) rfl ?_
  refine g_aload_n (j := 5) B dL_law__794 rfl rfl ?_
  refine g_callV (i := 9) (ci := 4) (nA := 0) (Cn := RX3) (As := []) B (CtO.g (c_X3_thrown hl)) EXl.gp carrGP (fun cA => ws_at (cnt_fix (by decide))) rfl rfl mw_167 mw_164 mw_165 mw_166 mw_5 (by decide +kernel) (by decide) rfl rfl (Nat.le_of_ble_eq_true rfl) dL_law__795 ⟨by show _ + 0 ≤ 601024; omega, by show _ + 0 ≤ 7293034; omega⟩ (fun _ _ h => absurd h.1 (fun z => by cases z)) (fun v u hvu => ?_)
  obtain ⟨hv, rfl⟩ := hvu
  cases hv
  refine g_iload (j := 1) B dL_law__798 rfl ?_
  refine g_icmp_eq (tgt := 805) B dL_law__800 (by decide) (fun _ => ?_) (fun h => absurd hcode h)
  refine g_iload (j := 1) B dL_law__805 rfl ?_
  have hend : ∀ J2, G Ξ (wsd n ρ J2 M2) (a + 13) (b + 78) 822 [(6, .int x2), (5, .int (cdo [IX] o)), (4, .int (nI (4 * c))), (0, .ref bs), (1, .ref (ρ 0)), (2, .ref (ρ 9)), (3, .ref (ρ 8))] [] := fun J2 => by
    refine g_goto (tgt := 2116) B dL_law__822 (by decide) ?_
    refine g_sub [2, 3, 4, 5, 6] rfl ?_
    exact hnext _ _ hS
  refine g_if_ne (tgt := 822) B dL_law__807 (by decide) (fun _ => hend _) (fun h0 => ?_)
  rcases ho with ⟨x0, N, rfl⟩ | ⟨Ey, N, hE, rfl⟩
  · have hx2 : x0 = x2 := hval x0 N rfl
    subst hx2
    refine g_aload_n (j := 6) B dL_law__810 rfl rfl ?_
    refine g_iconst (v := 0) B dL_law__811 (by decide) ?_
    refine g_lald (N := 1) (f := (Jn J (rI x0 N))) 8 B (fun cA => ws_at (cnt_fix (by decide))) (vp_in_nI (n := 0) (by decide) (by decide)) dL_law__812 ?_
    refine g_iload (j := 0) B dL_law__813 rfl ?_
    refine g_i2l B dL_law__815 ?_
    refine g_lcmp B dL_law__816 ?_
    rw [show (Jn J (rI x0 N)) (0 : Int32).toNatClampNeg = x0.toInt64 from rfl, lcmp_self]
    exact g_if_eq (tgt := 822) B dL_law__817 (by decide) (fun _ => hend _) (fun h => absurd rfl h)
  · exact absurd h0 (cdo_ne (by decide) hE)
set_option maxRecDepth 100000 in
set_option maxHeartbeats 4000000 in
theorem lc_11 {l : Launch} (hl : l.stackTraces = false) {mn : String} {e bs L : Nat} {xs : Nat → Int32} {tb : List ExceptionTableEntry} {Ξ : CT} (hnL : Ξ.2.2.2.2.2.2 = 7) (B : CB (EXl e bs L xs) l room_1 cL_law_ RL mn tb Ξ) {S : Nat → Nat → Mem → Prop} {c n : Nat} {ρ : Nat → Nat} {J : Nat → Int64} {M : Mem} {a b : Nat} (hc : 4 * c + 4 ≤ L) (hL : L ≤ 2048) (ha : a + 13 ≤ 601024) (hb : b + 78 ≤ 7293034) (hp : ∀ x : Int32, PrI l S yX2_limit cX2_limit 3 (some .int) yX3_limit cX3_limit 3 (some .int) [IA] c n M [.int x]) (hnext : ∀ (J' : Nat → Int64) (M' : Mem), S (c + 1) n M' → G Ξ (wsd n ρ J' M') (a + 13) (b + 78) 2116 [(4, .int (nI (4 * c))), (0, .ref bs), (1, .ref (ρ 0)), (2, .ref (ρ 9)), (3, .ref (ρ 8))] []) : G Ξ (wsd n ρ J M) a b 825 [(4, .int (nI (4 * c))), (0, .ref bs), (1, .ref (ρ 0)), (2, .ref (ρ 9)), (3, .ref (ρ 8))] [] := by
  obtain ⟨h, mc, ms, h2, o, x2, M2, hc1, hh, hmc, hms, ho, hm1, hh2, hcode, hval, hS⟩ := hp (xs (4 * c + 1))
  refine g_aload_n (j := 2) B dL_law__825 rfl rfl ?_
  refine g_aload_n (j := 1) B dL_law__826 rfl rfl ?_
  refine g_iload (j := 0) B dL_law__827 rfl ?_
  refine g_iconst (v := 1) B dL_law__829 (by decide) ?_
  refine g_iadd B dL_law__830 ?_
  refine g_sld (4 * c + 1) B (nI_add (4 * c) 1) (by omega) (by omega) dL_law__831 ?_
  refine g_aload_n (j := 4) B dL_law__832 rfl rfl ?_
  refine g_callSX (nA := 3) (As := [.ref (ρ 0), .int (xs (4 * c + 1)), .ref (ρ 8)]) B (w_limit hl (hc1 ρ J) hh hmc hms ho) EXl.e EXe.carr (gw_goodS mw_432 mw_430 mw_431 mw_77) mw_77 (by decide +kernel) ⟨(Nat.le_of_ble_eq_true rfl), (Nat.le_of_ble_eq_true rfl)⟩ rfl rfl (Nat.le_of_ble_eq_true rfl) dL_law__833 ⟨by show a + 13 ≤ 601024; omega, by show b + 78 ≤ 7293034; omega⟩ (fun _ _ h => h.elim) (fun v u hvu => ?_)
  obtain ⟨rfl, rfl⟩ := hvu
  refine g_istore (ls2 := [(5, .int (cdo [IA] o)), (4, .int (nI (4 * c))), (0, .ref bs), (1, .ref (ρ 0)), (2, .ref (ρ 9)), (3, .ref (ρ 8))]) B hnL dL_law__836 (by decide) rfl ?_
  refine g_aload_n (j := 4) B dL_law__838 rfl rfl ?_
  refine g_aload_n (j := 2) B dL_law__839 rfl rfl ?_
  refine g_iload (j := 1) B dL_law__840 rfl ?_
  refine g_iconst (v := 1) B dL_law__842 (by decide) ?_
  refine g_iadd B dL_law__843 ?_
  refine g_sld (4 * c + 1) B (nI_add (4 * c) 1) (by omega) (by omega) dL_law__844 ?_
  refine g_callV (i := 9) (ci := 4) (nA := 1) (Cn := RX3) (As := [.int (xs (4 * c + 1))]) B (CtO.g (hm1 ρ (Jn J o))) EXl.gp carrGP (fun cA => ws_at (cnt_fix (by decide))) rfl rfl mw_440 mw_437 mw_438 mw_439 mw_5 (by decide +kernel) ⟨by show h2 + 1 ≤ 13; omega, by show 8 + (3 + 11) + (30 * h2 + 60) ≤ 474; omega⟩ rfl rfl (Nat.le_of_ble_eq_true rfl) dL_law__845 ⟨by show _ + 0 ≤ 601024; omega, by show _ + 0 ≤ 7293034; omega⟩ (fun _ _ h => absurd h.1 (fun z => by cases z)) (fun v u hvu => ?_)
  obtain ⟨hv, rfl⟩ := hvu
  cases hv
  refine g_istore (ls2 := [(6, .int x2), (5, .int (cdo [IA] o)), (4, .int (nI (4 * c))), (0, .ref bs), (1, .ref (ρ 0)), (2, .ref (ρ 9)), (3, .ref (ρ 8))]) B hnL dL_law__848 (by decide) rfl ?_
  refine g_aload_n (j := 5) B dL_law__850 rfl rfl ?_
  refine g_callV (i := 9) (ci := 4) (nA := 0) (Cn := RX3) (As := []) B (CtO.g (c_X3_thrown hl)) EXl.gp carrGP (fun cA => ws_at (cnt_fix (by decide))) rfl rfl mw_167 mw_164 mw_165 mw_166 mw_5 (by decide +kernel) (by decide) rfl rfl (Nat.le_of_ble_eq_true rfl) dL_law__851 ⟨by show _ + 0 ≤ 601024; omega, by show _ + 0 ≤ 7293034; omega⟩ (fun _ _ h => absurd h.1 (fun z => by cases z)) (fun v u hvu => ?_)
  obtain ⟨hv, rfl⟩ := hvu
  cases hv
  refine g_iload (j := 1) B dL_law__854 rfl ?_
  refine g_icmp_eq (tgt := 861) B dL_law__856 (by decide) (fun _ => ?_) (fun h => absurd hcode h)
  refine g_iload (j := 1) B dL_law__861 rfl ?_
  have hend : ∀ J2, G Ξ (wsd n ρ J2 M2) (a + 13) (b + 78) 878 [(6, .int x2), (5, .int (cdo [IA] o)), (4, .int (nI (4 * c))), (0, .ref bs), (1, .ref (ρ 0)), (2, .ref (ρ 9)), (3, .ref (ρ 8))] [] := fun J2 => by
    refine g_goto (tgt := 2116) B dL_law__878 (by decide) ?_
    refine g_sub [2, 3, 4, 5, 6] rfl ?_
    exact hnext _ _ hS
  refine g_if_ne (tgt := 878) B dL_law__863 (by decide) (fun _ => hend _) (fun h0 => ?_)
  rcases ho with ⟨x0, N, rfl⟩ | ⟨Ey, N, hE, rfl⟩
  · have hx2 : x0 = x2 := hval x0 N rfl
    subst hx2
    refine g_aload_n (j := 6) B dL_law__866 rfl rfl ?_
    refine g_iconst (v := 0) B dL_law__867 (by decide) ?_
    refine g_lald (N := 1) (f := (Jn J (rI x0 N))) 8 B (fun cA => ws_at (cnt_fix (by decide))) (vp_in_nI (n := 0) (by decide) (by decide)) dL_law__868 ?_
    refine g_iload (j := 0) B dL_law__869 rfl ?_
    refine g_i2l B dL_law__871 ?_
    refine g_lcmp B dL_law__872 ?_
    rw [show (Jn J (rI x0 N)) (0 : Int32).toNatClampNeg = x0.toInt64 from rfl, lcmp_self]
    exact g_if_eq (tgt := 878) B dL_law__873 (by decide) (fun _ => hend _) (fun h => absurd rfl h)
  · exact absurd h0 (cdo_ne (by decide) hE)
set_option maxRecDepth 100000 in
set_option maxHeartbeats 4000000 in
theorem lc_12 {l : Launch} (hl : l.stackTraces = false) {mn : String} {e bs L : Nat} {xs : Nat → Int32} {tb : List ExceptionTableEntry} {Ξ : CT} (hnL : Ξ.2.2.2.2.2.2 = 7) (B : CB (EXl e bs L xs) l room_1 cL_law_ RL mn tb Ξ) {S : Nat → Nat → Mem → Prop} {c n : Nat} {ρ : Nat → Nat} {J : Nat → Int64} {M : Mem} {a b : Nat} (hc : 4 * c + 4 ≤ L) (hL : L ≤ 2048) (ha : a + 13 ≤ 601024) (hb : b + 78 ≤ 7293034) (hp : ∀ x y z : Int32, PrI l S yX2_whyNot cX2_whyNot 5 (some .int) yX3_whyNot cX3_whyNot 4 (some .int) [IX, IA] c n M [.int x, .int y, .int z]) (hnext : ∀ (J' : Nat → Int64) (M' : Mem), S (c + 1) n M' → G Ξ (wsd n ρ J' M') (a + 13) (b + 78) 2116 [(4, .int (nI (4 * c))), (0, .ref bs), (1, .ref (ρ 0)), (2, .ref (ρ 9)), (3, .ref (ρ 8))] []) : G Ξ (wsd n ρ J M) a b 881 [(4, .int (nI (4 * c))), (0, .ref bs), (1, .ref (ρ 0)), (2, .ref (ρ 9)), (3, .ref (ρ 8))] [] := by
  obtain ⟨h, mc, ms, h2, o, x2, M2, hc1, hh, hmc, hms, ho, hm1, hh2, hcode, hval, hS⟩ := hp (xs (4 * c + 1)) (xs (4 * c + 2)) (xs (4 * c + 3))
  refine g_aload_n (j := 2) B dL_law__881 rfl rfl ?_
  refine g_aload_n (j := 1) B dL_law__882 rfl rfl ?_
  refine g_iload (j := 0) B dL_law__883 rfl ?_
  refine g_iconst (v := 1) B dL_law__885 (by decide) ?_
  refine g_iadd B dL_law__886 ?_
  refine g_sld (4 * c + 1) B (nI_add (4 * c) 1) (by omega) (by omega) dL_law__887 ?_
  refine g_aload_n (j := 1) B dL_law__888 rfl rfl ?_
  refine g_iload (j := 0) B dL_law__889 rfl ?_
  refine g_iconst (v := 2) B dL_law__891 (by decide) ?_
  refine g_iadd B dL_law__892 ?_
  refine g_sld (4 * c + 2) B (nI_add (4 * c) 2) (by omega) (by omega) dL_law__893 ?_
  refine g_aload_n (j := 1) B dL_law__894 rfl rfl ?_
  refine g_iload (j := 0) B dL_law__895 rfl ?_
  refine g_iconst (v := 3) B dL_law__897 (by decide) ?_
  refine g_iadd B dL_law__898 ?_
  refine g_sld (4 * c + 3) B (nI_add (4 * c) 3) (by omega) (by omega) dL_law__899 ?_
  refine g_aload_n (j := 4) B dL_law__900 rfl rfl ?_
  refine g_callSX (nA := 5) (As := [.ref (ρ 0), .int (xs (4 * c + 1)), .int (xs (4 * c + 2)), .int (xs (4 * c + 3)), .ref (ρ 8)]) B (w_whyNot hl (hc1 ρ J) hh hmc hms ho) EXl.e EXe.carr (gw_goodS mw_443 mw_441 mw_442 mw_77) mw_77 (by decide +kernel) ⟨(Nat.le_of_ble_eq_true rfl), (Nat.le_of_ble_eq_true rfl)⟩ rfl rfl (Nat.le_of_ble_eq_true rfl) dL_law__901 ⟨by show a + 13 ≤ 601024; omega, by show b + 78 ≤ 7293034; omega⟩ (fun _ _ h => h.elim) (fun v u hvu => ?_)
  obtain ⟨rfl, rfl⟩ := hvu
  refine g_istore (ls2 := [(5, .int (cdo [IX, IA] o)), (4, .int (nI (4 * c))), (0, .ref bs), (1, .ref (ρ 0)), (2, .ref (ρ 9)), (3, .ref (ρ 8))]) B hnL dL_law__904 (by decide) rfl ?_
  refine g_aload_n (j := 4) B dL_law__906 rfl rfl ?_
  refine g_aload_n (j := 2) B dL_law__907 rfl rfl ?_
  refine g_iload (j := 1) B dL_law__908 rfl ?_
  refine g_iconst (v := 1) B dL_law__910 (by decide) ?_
  refine g_iadd B dL_law__911 ?_
  refine g_sld (4 * c + 1) B (nI_add (4 * c) 1) (by omega) (by omega) dL_law__912 ?_
  refine g_aload_n (j := 2) B dL_law__913 rfl rfl ?_
  refine g_iload (j := 1) B dL_law__914 rfl ?_
  refine g_iconst (v := 2) B dL_law__916 (by decide) ?_
  refine g_iadd B dL_law__917 ?_
  refine g_sld (4 * c + 2) B (nI_add (4 * c) 2) (by omega) (by omega) dL_law__918 ?_
  refine g_aload_n (j := 2) B dL_law__919 rfl rfl ?_
  refine g_iload (j := 1) B dL_law__920 rfl ?_
  refine g_iconst (v := 3) B dL_law__922 (by decide) ?_
  refine g_iadd B dL_law__923 ?_
  refine g_sld (4 * c + 3) B (nI_add (4 * c) 3) (by omega) (by omega) dL_law__924 ?_
  refine g_callV (i := 9) (ci := 4) (nA := 3) (Cn := RX3) (As := [.int (xs (4 * c + 1)), .int (xs (4 * c + 2)), .int (xs (4 * c + 3))]) B (CtO.g (hm1 ρ (Jn J o))) EXl.gp carrGP (fun cA => ws_at (cnt_fix (by decide))) rfl rfl mw_464 mw_461 mw_462 mw_463 mw_5 (by decide +kernel) ⟨by show h2 + 1 ≤ 13; omega, by show 8 + (4 + 11) + (30 * h2 + 60) ≤ 474; omega⟩ rfl rfl (Nat.le_of_ble_eq_true rfl) dL_law__925 ⟨by show _ + 0 ≤ 601024; omega, by show _ + 0 ≤ 7293034; omega⟩ (fun _ _ h => absurd h.1 (fun z => by cases z)) (fun v u hvu => ?_)
  obtain ⟨hv, rfl⟩ := hvu
  cases hv
  refine g_istore (ls2 := [(6, .int x2), (5, .int (cdo [IX, IA] o)), (4, .int (nI (4 * c))), (0, .ref bs), (1, .ref (ρ 0)), (2, .ref (ρ 9)), (3, .ref (ρ 8))]) B hnL dL_law__928 (by decide) rfl ?_
  refine g_aload_n (j := 5) B dL_law__930 rfl rfl ?_
  refine g_callV (i := 9) (ci := 4) (nA := 0) (Cn := RX3) (As := []) B (CtO.g (c_X3_thrown hl)) EXl.gp carrGP (fun cA => ws_at (cnt_fix (by decide))) rfl rfl mw_167 mw_164 mw_165 mw_166 mw_5 (by decide +kernel) (by decide) rfl rfl (Nat.le_of_ble_eq_true rfl) dL_law__931 ⟨by show _ + 0 ≤ 601024; omega, by show _ + 0 ≤ 7293034; omega⟩ (fun _ _ h => absurd h.1 (fun z => by cases z)) (fun v u hvu => ?_)
  obtain ⟨hv, rfl⟩ := hvu
  cases hv
  refine g_iload (j := 1) B dL_law__934 rfl ?_
  refine g_icmp_eq (tgt := 941) B dL_law__936 (by decide) (fun _ => ?_) (fun h => absurd hcode h)
  refine g_iload (j := 1) B dL_law__941 rfl ?_
  have hend : ∀ J2, G Ξ (wsd n ρ J2 M2) (a + 13) (b + 78) 958 [(6, .int x2), (5, .int (cdo [IX, IA] o)), (4, .int (nI (4 * c))), (0, .ref bs), (1, .ref (ρ 0)), (2, .ref (ρ 9)), (3, .ref (ρ 8))] [] := fun J2 => by
    refine g_goto (tgt := 2116) B dL_law__958 (by decide) ?_
    refine g_sub [2, 3, 4, 5, 6] rfl ?_
    exact hnext _ _ hS
  refine g_if_ne (tgt := 958) B dL_law__943 (by decide) (fun _ => hend _) (fun h0 => ?_)
  rcases ho with ⟨x0, N, rfl⟩ | ⟨Ey, N, hE, rfl⟩
  · have hx2 : x0 = x2 := hval x0 N rfl
    subst hx2
    refine g_aload_n (j := 6) B dL_law__946 rfl rfl ?_
    refine g_iconst (v := 0) B dL_law__947 (by decide) ?_
    refine g_lald (N := 1) (f := (Jn J (rI x0 N))) 8 B (fun cA => ws_at (cnt_fix (by decide))) (vp_in_nI (n := 0) (by decide) (by decide)) dL_law__948 ?_
    refine g_iload (j := 0) B dL_law__949 rfl ?_
    refine g_i2l B dL_law__951 ?_
    refine g_lcmp B dL_law__952 ?_
    rw [show (Jn J (rI x0 N)) (0 : Int32).toNatClampNeg = x0.toInt64 from rfl, lcmp_self]
    exact g_if_eq (tgt := 958) B dL_law__953 (by decide) (fun _ => hend _) (fun h => absurd rfl h)
  · exact absurd h0 (cdo_ne (by decide) hE)
set_option maxRecDepth 100000 in
set_option maxHeartbeats 4000000 in
theorem lc_13 {l : Launch} (hl : l.stackTraces = false) {mn : String} {e bs L : Nat} {xs : Nat → Int32} {tb : List ExceptionTableEntry} {Ξ : CT} (hnL : Ξ.2.2.2.2.2.2 = 7) (B : CB (EXl e bs L xs) l room_1 cL_law_ RL mn tb Ξ) {S : Nat → Nat → Mem → Prop} {c n : Nat} {ρ : Nat → Nat} {J : Nat → Int64} {M : Mem} {a b : Nat} (hc : 4 * c + 4 ≤ L) (hL : L ≤ 2048) (ha : a + 13 ≤ 601024) (hb : b + 78 ≤ 7293034) (hp : ∀ x y z : Int32, PrI l S yX2_buy cX2_buy 8 (some .int) yX3_buy cX3_buy 9 (some .int) [IX, IA, IS] c n M [.int x, .int y, .int z]) (hnext : ∀ (J' : Nat → Int64) (M' : Mem), S (c + 1) n M' → G Ξ (wsd n ρ J' M') (a + 13) (b + 78) 2116 [(4, .int (nI (4 * c))), (0, .ref bs), (1, .ref (ρ 0)), (2, .ref (ρ 9)), (3, .ref (ρ 8))] []) : G Ξ (wsd n ρ J M) a b 961 [(4, .int (nI (4 * c))), (0, .ref bs), (1, .ref (ρ 0)), (2, .ref (ρ 9)), (3, .ref (ρ 8))] [] := by
  obtain ⟨h, mc, ms, h2, o, x2, M2, hc1, hh, hmc, hms, ho, hm1, hh2, hcode, hval, hS⟩ := hp (xs (4 * c + 1)) (xs (4 * c + 2)) (xs (4 * c + 3))
  refine g_aload_n (j := 2) B dL_law__961 rfl rfl ?_
  refine g_aload_n (j := 1) B dL_law__962 rfl rfl ?_
  refine g_iload (j := 0) B dL_law__963 rfl ?_
  refine g_iconst (v := 1) B dL_law__965 (by decide) ?_
  refine g_iadd B dL_law__966 ?_
  refine g_sld (4 * c + 1) B (nI_add (4 * c) 1) (by omega) (by omega) dL_law__967 ?_
  refine g_aload_n (j := 1) B dL_law__968 rfl rfl ?_
  refine g_iload (j := 0) B dL_law__969 rfl ?_
  refine g_iconst (v := 2) B dL_law__971 (by decide) ?_
  refine g_iadd B dL_law__972 ?_
  refine g_sld (4 * c + 2) B (nI_add (4 * c) 2) (by omega) (by omega) dL_law__973 ?_
  refine g_aload_n (j := 1) B dL_law__974 rfl rfl ?_
  refine g_iload (j := 0) B dL_law__975 rfl ?_
  refine g_iconst (v := 3) B dL_law__977 (by decide) ?_
  refine g_iadd B dL_law__978 ?_
  refine g_sld (4 * c + 3) B (nI_add (4 * c) 3) (by omega) (by omega) dL_law__979 ?_
  refine g_aload_n (j := 4) B dL_law__980 rfl rfl ?_
  refine g_callSX (nA := 5) (As := [.ref (ρ 0), .int (xs (4 * c + 1)), .int (xs (4 * c + 2)), .int (xs (4 * c + 3)), .ref (ρ 8)]) B (w_buy hl (hc1 ρ J) hh hmc hms ho) EXl.e EXe.carr (gw_goodS mw_479 mw_477 mw_478 mw_77) mw_77 (by decide +kernel) ⟨(Nat.le_of_ble_eq_true rfl), (Nat.le_of_ble_eq_true rfl)⟩ rfl rfl (Nat.le_of_ble_eq_true rfl) dL_law__981 ⟨by show a + 13 ≤ 601024; omega, by show b + 78 ≤ 7293034; omega⟩ (fun _ _ h => h.elim) (fun v u hvu => ?_)
  obtain ⟨rfl, rfl⟩ := hvu
  refine g_istore (ls2 := [(5, .int (cdo [IX, IA, IS] o)), (4, .int (nI (4 * c))), (0, .ref bs), (1, .ref (ρ 0)), (2, .ref (ρ 9)), (3, .ref (ρ 8))]) B hnL dL_law__984 (by decide) rfl ?_
  refine g_aload_n (j := 4) B dL_law__986 rfl rfl ?_
  refine g_aload_n (j := 2) B dL_law__987 rfl rfl ?_
  refine g_iload (j := 1) B dL_law__988 rfl ?_
  refine g_iconst (v := 1) B dL_law__990 (by decide) ?_
  refine g_iadd B dL_law__991 ?_
  refine g_sld (4 * c + 1) B (nI_add (4 * c) 1) (by omega) (by omega) dL_law__992 ?_
  refine g_aload_n (j := 2) B dL_law__993 rfl rfl ?_
  refine g_iload (j := 1) B dL_law__994 rfl ?_
  refine g_iconst (v := 2) B dL_law__996 (by decide) ?_
  refine g_iadd B dL_law__997 ?_
  refine g_sld (4 * c + 2) B (nI_add (4 * c) 2) (by omega) (by omega) dL_law__998 ?_
  refine g_aload_n (j := 2) B dL_law__999 rfl rfl ?_
  refine g_iload (j := 1) B dL_law__1000 rfl ?_
  refine g_iconst (v := 3) B dL_law__1002 (by decide) ?_
  refine g_iadd B dL_law__1003 ?_
  refine g_sld (4 * c + 3) B (nI_add (4 * c) 3) (by omega) (by omega) dL_law__1004 ?_
  refine g_callV (i := 9) (ci := 4) (nA := 3) (Cn := RX3) (As := [.int (xs (4 * c + 1)), .int (xs (4 * c + 2)), .int (xs (4 * c + 3))]) B (CtO.g (hm1 ρ (Jn J o))) EXl.gp carrGP (fun cA => ws_at (cnt_fix (by decide))) rfl rfl mw_494 mw_491 mw_492 mw_493 mw_5 (by decide +kernel) ⟨by show h2 + 1 ≤ 13; omega, by show 8 + (9 + 11) + (30 * h2 + 60) ≤ 474; omega⟩ rfl rfl (Nat.le_of_ble_eq_true rfl) dL_law__1005 ⟨by show _ + 0 ≤ 601024; omega, by show _ + 0 ≤ 7293034; omega⟩ (fun _ _ h => absurd h.1 (fun z => by cases z)) (fun v u hvu => ?_)
  obtain ⟨hv, rfl⟩ := hvu
  cases hv
  refine g_istore (ls2 := [(6, .int x2), (5, .int (cdo [IX, IA, IS] o)), (4, .int (nI (4 * c))), (0, .ref bs), (1, .ref (ρ 0)), (2, .ref (ρ 9)), (3, .ref (ρ 8))]) B hnL dL_law__1008 (by decide) rfl ?_
  refine g_aload_n (j := 5) B dL_law__1010 rfl rfl ?_
  refine g_callV (i := 9) (ci := 4) (nA := 0) (Cn := RX3) (As := []) B (CtO.g (c_X3_thrown hl)) EXl.gp carrGP (fun cA => ws_at (cnt_fix (by decide))) rfl rfl mw_167 mw_164 mw_165 mw_166 mw_5 (by decide +kernel) (by decide) rfl rfl (Nat.le_of_ble_eq_true rfl) dL_law__1011 ⟨by show _ + 0 ≤ 601024; omega, by show _ + 0 ≤ 7293034; omega⟩ (fun _ _ h => absurd h.1 (fun z => by cases z)) (fun v u hvu => ?_)
  obtain ⟨hv, rfl⟩ := hvu
  cases hv
  refine g_iload (j := 1) B dL_law__1014 rfl ?_
  refine g_icmp_eq (tgt := 1021) B dL_law__1016 (by decide) (fun _ => ?_) (fun h => absurd hcode h)
  refine g_iload (j := 1) B dL_law__1021 rfl ?_
  have hend : ∀ J2, G Ξ (wsd n ρ J2 M2) (a + 13) (b + 78) 1038 [(6, .int x2), (5, .int (cdo [IX, IA, IS] o)), (4, .int (nI (4 * c))), (0, .ref bs), (1, .ref (ρ 0)), (2, .ref (ρ 9)), (3, .ref (ρ 8))] [] := fun J2 => by
    refine g_goto (tgt := 2116) B dL_law__1038 (by decide) ?_
    refine g_sub [2, 3, 4, 5, 6] rfl ?_
    exact hnext _ _ hS
  refine g_if_ne (tgt := 1038) B dL_law__1023 (by decide) (fun _ => hend _) (fun h0 => ?_)
  rcases ho with ⟨x0, N, rfl⟩ | ⟨Ey, N, hE, rfl⟩
  · have hx2 : x0 = x2 := hval x0 N rfl
    subst hx2
    refine g_aload_n (j := 6) B dL_law__1026 rfl rfl ?_
    refine g_iconst (v := 0) B dL_law__1027 (by decide) ?_
    refine g_lald (N := 1) (f := (Jn J (rI x0 N))) 8 B (fun cA => ws_at (cnt_fix (by decide))) (vp_in_nI (n := 0) (by decide) (by decide)) dL_law__1028 ?_
    refine g_iload (j := 0) B dL_law__1029 rfl ?_
    refine g_i2l B dL_law__1031 ?_
    refine g_lcmp B dL_law__1032 ?_
    rw [show (Jn J (rI x0 N)) (0 : Int32).toNatClampNeg = x0.toInt64 from rfl, lcmp_self]
    exact g_if_eq (tgt := 1038) B dL_law__1033 (by decide) (fun _ => hend _) (fun h => absurd rfl h)
  · exact absurd h0 (cdo_ne (by decide) hE)
set_option maxRecDepth 100000 in
set_option maxHeartbeats 4000000 in
theorem lc_14 {l : Launch} (hl : l.stackTraces = false) {mn : String} {e bs L : Nat} {xs : Nat → Int32} {tb : List ExceptionTableEntry} {Ξ : CT} (hnL : Ξ.2.2.2.2.2.2 = 7) (B : CB (EXl e bs L xs) l room_1 cL_law_ RL mn tb Ξ) {S : Nat → Nat → Mem → Prop} {c n : Nat} {ρ : Nat → Nat} {J : Nat → Int64} {M : Mem} {a b : Nat} (hc : 4 * c + 4 ≤ L) (hL : L ≤ 2048) (ha : a + 13 ≤ 601024) (hb : b + 78 ≤ 7293034) (hp : ∀ x y z : Int32, PrI l S yX2_over cX2_over 6 (some .int) yX3_over cX3_over 6 (some .int) [IX, IA, IS] c n M [.int x, .int y, .int z]) (hnext : ∀ (J' : Nat → Int64) (M' : Mem), S (c + 1) n M' → G Ξ (wsd n ρ J' M') (a + 13) (b + 78) 2116 [(4, .int (nI (4 * c))), (0, .ref bs), (1, .ref (ρ 0)), (2, .ref (ρ 9)), (3, .ref (ρ 8))] []) : G Ξ (wsd n ρ J M) a b 1041 [(4, .int (nI (4 * c))), (0, .ref bs), (1, .ref (ρ 0)), (2, .ref (ρ 9)), (3, .ref (ρ 8))] [] := by
  obtain ⟨h, mc, ms, h2, o, x2, M2, hc1, hh, hmc, hms, ho, hm1, hh2, hcode, hval, hS⟩ := hp (xs (4 * c + 1)) (xs (4 * c + 2)) (xs (4 * c + 3))
  refine g_aload_n (j := 2) B dL_law__1041 rfl rfl ?_
  refine g_aload_n (j := 1) B dL_law__1042 rfl rfl ?_
  refine g_iload (j := 0) B dL_law__1043 rfl ?_
  refine g_iconst (v := 1) B dL_law__1045 (by decide) ?_
  refine g_iadd B dL_law__1046 ?_
  refine g_sld (4 * c + 1) B (nI_add (4 * c) 1) (by omega) (by omega) dL_law__1047 ?_
  refine g_aload_n (j := 1) B dL_law__1048 rfl rfl ?_
  refine g_iload (j := 0) B dL_law__1049 rfl ?_
  refine g_iconst (v := 2) B dL_law__1051 (by decide) ?_
  refine g_iadd B dL_law__1052 ?_
  refine g_sld (4 * c + 2) B (nI_add (4 * c) 2) (by omega) (by omega) dL_law__1053 ?_
  refine g_aload_n (j := 1) B dL_law__1054 rfl rfl ?_
  refine g_iload (j := 0) B dL_law__1055 rfl ?_
  refine g_iconst (v := 3) B dL_law__1057 (by decide) ?_
  refine g_iadd B dL_law__1058 ?_
  refine g_sld (4 * c + 3) B (nI_add (4 * c) 3) (by omega) (by omega) dL_law__1059 ?_
  refine g_aload_n (j := 4) B dL_law__1060 rfl rfl ?_
  refine g_callSX (nA := 5) (As := [.ref (ρ 0), .int (xs (4 * c + 1)), .int (xs (4 * c + 2)), .int (xs (4 * c + 3)), .ref (ρ 8)]) B (w_over hl (hc1 ρ J) hh hmc hms ho) EXl.e EXe.carr (gw_goodS mw_501 mw_499 mw_500 mw_77) mw_77 (by decide +kernel) ⟨(Nat.le_of_ble_eq_true rfl), (Nat.le_of_ble_eq_true rfl)⟩ rfl rfl (Nat.le_of_ble_eq_true rfl) dL_law__1061 ⟨by show a + 13 ≤ 601024; omega, by show b + 78 ≤ 7293034; omega⟩ (fun _ _ h => h.elim) (fun v u hvu => ?_)
  obtain ⟨rfl, rfl⟩ := hvu
  refine g_istore (ls2 := [(5, .int (cdo [IX, IA, IS] o)), (4, .int (nI (4 * c))), (0, .ref bs), (1, .ref (ρ 0)), (2, .ref (ρ 9)), (3, .ref (ρ 8))]) B hnL dL_law__1064 (by decide) rfl ?_
  refine g_aload_n (j := 4) B dL_law__1066 rfl rfl ?_
  refine g_aload_n (j := 2) B dL_law__1067 rfl rfl ?_
  refine g_iload (j := 1) B dL_law__1068 rfl ?_
  refine g_iconst (v := 1) B dL_law__1070 (by decide) ?_
  refine g_iadd B dL_law__1071 ?_
  refine g_sld (4 * c + 1) B (nI_add (4 * c) 1) (by omega) (by omega) dL_law__1072 ?_
  refine g_aload_n (j := 2) B dL_law__1073 rfl rfl ?_
  refine g_iload (j := 1) B dL_law__1074 rfl ?_
  refine g_iconst (v := 2) B dL_law__1076 (by decide) ?_
  refine g_iadd B dL_law__1077 ?_
  refine g_sld (4 * c + 2) B (nI_add (4 * c) 2) (by omega) (by omega) dL_law__1078 ?_
  refine g_aload_n (j := 2) B dL_law__1079 rfl rfl ?_
  refine g_iload (j := 1) B dL_law__1080 rfl ?_
  refine g_iconst (v := 3) B dL_law__1082 (by decide) ?_
  refine g_iadd B dL_law__1083 ?_
  refine g_sld (4 * c + 3) B (nI_add (4 * c) 3) (by omega) (by omega) dL_law__1084 ?_
  refine g_callV (i := 9) (ci := 4) (nA := 3) (Cn := RX3) (As := [.int (xs (4 * c + 1)), .int (xs (4 * c + 2)), .int (xs (4 * c + 3))]) B (CtO.g (hm1 ρ (Jn J o))) EXl.gp carrGP (fun cA => ws_at (cnt_fix (by decide))) rfl rfl mw_509 mw_506 mw_507 mw_508 mw_5 (by decide +kernel) ⟨by show h2 + 1 ≤ 13; omega, by show 8 + (6 + 11) + (30 * h2 + 60) ≤ 474; omega⟩ rfl rfl (Nat.le_of_ble_eq_true rfl) dL_law__1085 ⟨by show _ + 0 ≤ 601024; omega, by show _ + 0 ≤ 7293034; omega⟩ (fun _ _ h => absurd h.1 (fun z => by cases z)) (fun v u hvu => ?_)
  obtain ⟨hv, rfl⟩ := hvu
  cases hv
  refine g_istore (ls2 := [(6, .int x2), (5, .int (cdo [IX, IA, IS] o)), (4, .int (nI (4 * c))), (0, .ref bs), (1, .ref (ρ 0)), (2, .ref (ρ 9)), (3, .ref (ρ 8))]) B hnL dL_law__1088 (by decide) rfl ?_
  refine g_aload_n (j := 5) B dL_law__1090 rfl rfl ?_
  refine g_callV (i := 9) (ci := 4) (nA := 0) (Cn := RX3) (As := []) B (CtO.g (c_X3_thrown hl)) EXl.gp carrGP (fun cA => ws_at (cnt_fix (by decide))) rfl rfl mw_167 mw_164 mw_165 mw_166 mw_5 (by decide +kernel) (by decide) rfl rfl (Nat.le_of_ble_eq_true rfl) dL_law__1091 ⟨by show _ + 0 ≤ 601024; omega, by show _ + 0 ≤ 7293034; omega⟩ (fun _ _ h => absurd h.1 (fun z => by cases z)) (fun v u hvu => ?_)
  obtain ⟨hv, rfl⟩ := hvu
  cases hv
  refine g_iload (j := 1) B dL_law__1094 rfl ?_
  refine g_icmp_eq (tgt := 1101) B dL_law__1096 (by decide) (fun _ => ?_) (fun h => absurd hcode h)
  refine g_iload (j := 1) B dL_law__1101 rfl ?_
  have hend : ∀ J2, G Ξ (wsd n ρ J2 M2) (a + 13) (b + 78) 1118 [(6, .int x2), (5, .int (cdo [IX, IA, IS] o)), (4, .int (nI (4 * c))), (0, .ref bs), (1, .ref (ρ 0)), (2, .ref (ρ 9)), (3, .ref (ρ 8))] [] := fun J2 => by
    refine g_goto (tgt := 2116) B dL_law__1118 (by decide) ?_
    refine g_sub [2, 3, 4, 5, 6] rfl ?_
    exact hnext _ _ hS
  refine g_if_ne (tgt := 1118) B dL_law__1103 (by decide) (fun _ => hend _) (fun h0 => ?_)
  rcases ho with ⟨x0, N, rfl⟩ | ⟨Ey, N, hE, rfl⟩
  · have hx2 : x0 = x2 := hval x0 N rfl
    subst hx2
    refine g_aload_n (j := 6) B dL_law__1106 rfl rfl ?_
    refine g_iconst (v := 0) B dL_law__1107 (by decide) ?_
    refine g_lald (N := 1) (f := (Jn J (rI x0 N))) 8 B (fun cA => ws_at (cnt_fix (by decide))) (vp_in_nI (n := 0) (by decide) (by decide)) dL_law__1108 ?_
    refine g_iload (j := 0) B dL_law__1109 rfl ?_
    refine g_i2l B dL_law__1111 ?_
    refine g_lcmp B dL_law__1112 ?_
    rw [show (Jn J (rI x0 N)) (0 : Int32).toNatClampNeg = x0.toInt64 from rfl, lcmp_self]
    exact g_if_eq (tgt := 1118) B dL_law__1113 (by decide) (fun _ => hend _) (fun h => absurd rfl h)
  · exact absurd h0 (cdo_ne (by decide) hE)
set_option maxRecDepth 100000 in
set_option maxHeartbeats 4000000 in
theorem lc_15 {l : Launch} (hl : l.stackTraces = false) {mn : String} {e bs L : Nat} {xs : Nat → Int32} {tb : List ExceptionTableEntry} {Ξ : CT} (hnL : Ξ.2.2.2.2.2.2 = 7) (B : CB (EXl e bs L xs) l room_1 cL_law_ RL mn tb Ξ) {S : Nat → Nat → Mem → Prop} {c n : Nat} {ρ : Nat → Nat} {J : Nat → Int64} {M : Mem} {a b : Nat} (hc : 4 * c + 4 ≤ L) (hL : L ≤ 2048) (ha : a + 13 ≤ 601024) (hb : b + 78 ≤ 7293034) (hp : ∀ x : Int32, PrI l S yX2_discount cX2_discount 3 (some .int) yX3_discount cX3_discount 3 (some .int) [IA] c n M [.int x]) (hnext : ∀ (J' : Nat → Int64) (M' : Mem), S (c + 1) n M' → G Ξ (wsd n ρ J' M') (a + 13) (b + 78) 2116 [(4, .int (nI (4 * c))), (0, .ref bs), (1, .ref (ρ 0)), (2, .ref (ρ 9)), (3, .ref (ρ 8))] []) : G Ξ (wsd n ρ J M) a b 1121 [(4, .int (nI (4 * c))), (0, .ref bs), (1, .ref (ρ 0)), (2, .ref (ρ 9)), (3, .ref (ρ 8))] [] := by
  obtain ⟨h, mc, ms, h2, o, x2, M2, hc1, hh, hmc, hms, ho, hm1, hh2, hcode, hval, hS⟩ := hp (xs (4 * c + 1))
  refine g_aload_n (j := 2) B dL_law__1121 rfl rfl ?_
  refine g_aload_n (j := 1) B dL_law__1122 rfl rfl ?_
  refine g_iload (j := 0) B dL_law__1123 rfl ?_
  refine g_iconst (v := 1) B dL_law__1125 (by decide) ?_
  refine g_iadd B dL_law__1126 ?_
  refine g_sld (4 * c + 1) B (nI_add (4 * c) 1) (by omega) (by omega) dL_law__1127 ?_
  refine g_aload_n (j := 4) B dL_law__1128 rfl rfl ?_
  refine g_callSX (nA := 3) (As := [.ref (ρ 0), .int (xs (4 * c + 1)), .ref (ρ 8)]) B (w_discount hl (hc1 ρ J) hh hmc hms ho) EXl.e EXe.carr (gw_goodS mw_512 mw_510 mw_511 mw_77) mw_77 (by decide +kernel) ⟨(Nat.le_of_ble_eq_true rfl), (Nat.le_of_ble_eq_true rfl)⟩ rfl rfl (Nat.le_of_ble_eq_true rfl) dL_law__1129 ⟨by show a + 13 ≤ 601024; omega, by show b + 78 ≤ 7293034; omega⟩ (fun _ _ h => h.elim) (fun v u hvu => ?_)
  obtain ⟨rfl, rfl⟩ := hvu
  refine g_istore (ls2 := [(5, .int (cdo [IA] o)), (4, .int (nI (4 * c))), (0, .ref bs), (1, .ref (ρ 0)), (2, .ref (ρ 9)), (3, .ref (ρ 8))]) B hnL dL_law__1132 (by decide) rfl ?_
  refine g_aload_n (j := 4) B dL_law__1134 rfl rfl ?_
  refine g_aload_n (j := 2) B dL_law__1135 rfl rfl ?_
  refine g_iload (j := 1) B dL_law__1136 rfl ?_
  refine g_iconst (v := 1) B dL_law__1138 (by decide) ?_
  refine g_iadd B dL_law__1139 ?_
  refine g_sld (4 * c + 1) B (nI_add (4 * c) 1) (by omega) (by omega) dL_law__1140 ?_
  refine g_callV (i := 9) (ci := 4) (nA := 1) (Cn := RX3) (As := [.int (xs (4 * c + 1))]) B (CtO.g (hm1 ρ (Jn J o))) EXl.gp carrGP (fun cA => ws_at (cnt_fix (by decide))) rfl rfl mw_520 mw_517 mw_518 mw_519 mw_5 (by decide +kernel) ⟨by show h2 + 1 ≤ 13; omega, by show 8 + (3 + 11) + (30 * h2 + 60) ≤ 474; omega⟩ rfl rfl (Nat.le_of_ble_eq_true rfl) dL_law__1141 ⟨by show _ + 0 ≤ 601024; omega, by show _ + 0 ≤ 7293034; omega⟩ (fun _ _ h => absurd h.1 (fun z => by cases z)) (fun v u hvu => ?_)
  obtain ⟨hv, rfl⟩ := hvu
  cases hv
  refine g_istore (ls2 := [(6, .int x2), (5, .int (cdo [IA] o)), (4, .int (nI (4 * c))), (0, .ref bs), (1, .ref (ρ 0)), (2, .ref (ρ 9)), (3, .ref (ρ 8))]) B hnL dL_law__1144 (by decide) rfl ?_
  refine g_aload_n (j := 5) B dL_law__1146 rfl rfl ?_
  refine g_callV (i := 9) (ci := 4) (nA := 0) (Cn := RX3) (As := []) B (CtO.g (c_X3_thrown hl)) EXl.gp carrGP (fun cA => ws_at (cnt_fix (by decide))) rfl rfl mw_167 mw_164 mw_165 mw_166 mw_5 (by decide +kernel) (by decide) rfl rfl (Nat.le_of_ble_eq_true rfl) dL_law__1147 ⟨by show _ + 0 ≤ 601024; omega, by show _ + 0 ≤ 7293034; omega⟩ (fun _ _ h => absurd h.1 (fun z => by cases z)) (fun v u hvu => ?_)
  obtain ⟨hv, rfl⟩ := hvu
  cases hv
  refine g_iload (j := 1) B dL_law__1150 rfl ?_
  refine g_icmp_eq (tgt := 1157) B dL_law__1152 (by decide) (fun _ => ?_) (fun h => absurd hcode h)
  refine g_iload (j := 1) B dL_law__1157 rfl ?_
  have hend : ∀ J2, G Ξ (wsd n ρ J2 M2) (a + 13) (b + 78) 1174 [(6, .int x2), (5, .int (cdo [IA] o)), (4, .int (nI (4 * c))), (0, .ref bs), (1, .ref (ρ 0)), (2, .ref (ρ 9)), (3, .ref (ρ 8))] [] := fun J2 => by
    refine g_goto (tgt := 2116) B dL_law__1174 (by decide) ?_
    refine g_sub [2, 3, 4, 5, 6] rfl ?_
    exact hnext _ _ hS
  refine g_if_ne (tgt := 1174) B dL_law__1159 (by decide) (fun _ => hend _) (fun h0 => ?_)
  rcases ho with ⟨x0, N, rfl⟩ | ⟨Ey, N, hE, rfl⟩
  · have hx2 : x0 = x2 := hval x0 N rfl
    subst hx2
    refine g_aload_n (j := 6) B dL_law__1162 rfl rfl ?_
    refine g_iconst (v := 0) B dL_law__1163 (by decide) ?_
    refine g_lald (N := 1) (f := (Jn J (rI x0 N))) 8 B (fun cA => ws_at (cnt_fix (by decide))) (vp_in_nI (n := 0) (by decide) (by decide)) dL_law__1164 ?_
    refine g_iload (j := 0) B dL_law__1165 rfl ?_
    refine g_i2l B dL_law__1167 ?_
    refine g_lcmp B dL_law__1168 ?_
    rw [show (Jn J (rI x0 N)) (0 : Int32).toNatClampNeg = x0.toInt64 from rfl, lcmp_self]
    exact g_if_eq (tgt := 1174) B dL_law__1169 (by decide) (fun _ => hend _) (fun h => absurd rfl h)
  · exact absurd h0 (cdo_ne (by decide) hE)
set_option maxRecDepth 100000 in
set_option maxHeartbeats 4000000 in
theorem lc_16 {l : Launch} (hl : l.stackTraces = false) {mn : String} {e bs L : Nat} {xs : Nat → Int32} {tb : List ExceptionTableEntry} {Ξ : CT} (hnL : Ξ.2.2.2.2.2.2 = 7) (B : CB (EXl e bs L xs) l room_1 cL_law_ RL mn tb Ξ) {S : Nat → Nat → Mem → Prop} {c n : Nat} {ρ : Nat → Nat} {J : Nat → Int64} {M : Mem} {a b : Nat} (hc : 4 * c + 4 ≤ L) (hL : L ≤ 2048) (ha : a + 13 ≤ 601024) (hb : b + 78 ≤ 7293034) (hp : ∀ x y : Int32, PrI l S yX2_change cX2_change 5 (some .int) yX3_change cX3_change 5 (some .int) [IX, IA, IS] c n M [.int x, .int y]) (hnext : ∀ (J' : Nat → Int64) (M' : Mem), S (c + 1) n M' → G Ξ (wsd n ρ J' M') (a + 13) (b + 78) 2116 [(4, .int (nI (4 * c))), (0, .ref bs), (1, .ref (ρ 0)), (2, .ref (ρ 9)), (3, .ref (ρ 8))] []) : G Ξ (wsd n ρ J M) a b 1177 [(4, .int (nI (4 * c))), (0, .ref bs), (1, .ref (ρ 0)), (2, .ref (ρ 9)), (3, .ref (ρ 8))] [] := by
  obtain ⟨h, mc, ms, h2, o, x2, M2, hc1, hh, hmc, hms, ho, hm1, hh2, hcode, hval, hS⟩ := hp (xs (4 * c + 1)) (xs (4 * c + 2))
  refine g_aload_n (j := 2) B dL_law__1177 rfl rfl ?_
  refine g_aload_n (j := 1) B dL_law__1178 rfl rfl ?_
  refine g_iload (j := 0) B dL_law__1179 rfl ?_
  refine g_iconst (v := 1) B dL_law__1181 (by decide) ?_
  refine g_iadd B dL_law__1182 ?_
  refine g_sld (4 * c + 1) B (nI_add (4 * c) 1) (by omega) (by omega) dL_law__1183 ?_
  refine g_aload_n (j := 1) B dL_law__1184 rfl rfl ?_
  refine g_iload (j := 0) B dL_law__1185 rfl ?_
  refine g_iconst (v := 2) B dL_law__1187 (by decide) ?_
  refine g_iadd B dL_law__1188 ?_
  refine g_sld (4 * c + 2) B (nI_add (4 * c) 2) (by omega) (by omega) dL_law__1189 ?_
  refine g_aload_n (j := 4) B dL_law__1190 rfl rfl ?_
  refine g_callSX (nA := 4) (As := [.ref (ρ 0), .int (xs (4 * c + 1)), .int (xs (4 * c + 2)), .ref (ρ 8)]) B (w_change hl (hc1 ρ J) hh hmc hms ho) EXl.e EXe.carr (gw_goodS mw_523 mw_521 mw_522 mw_77) mw_77 (by decide +kernel) ⟨(Nat.le_of_ble_eq_true rfl), (Nat.le_of_ble_eq_true rfl)⟩ rfl rfl (Nat.le_of_ble_eq_true rfl) dL_law__1191 ⟨by show a + 13 ≤ 601024; omega, by show b + 78 ≤ 7293034; omega⟩ (fun _ _ h => h.elim) (fun v u hvu => ?_)
  obtain ⟨rfl, rfl⟩ := hvu
  refine g_istore (ls2 := [(5, .int (cdo [IX, IA, IS] o)), (4, .int (nI (4 * c))), (0, .ref bs), (1, .ref (ρ 0)), (2, .ref (ρ 9)), (3, .ref (ρ 8))]) B hnL dL_law__1194 (by decide) rfl ?_
  refine g_aload_n (j := 4) B dL_law__1196 rfl rfl ?_
  refine g_aload_n (j := 2) B dL_law__1197 rfl rfl ?_
  refine g_iload (j := 1) B dL_law__1198 rfl ?_
  refine g_iconst (v := 1) B dL_law__1200 (by decide) ?_
  refine g_iadd B dL_law__1201 ?_
  refine g_sld (4 * c + 1) B (nI_add (4 * c) 1) (by omega) (by omega) dL_law__1202 ?_
  refine g_aload_n (j := 2) B dL_law__1203 rfl rfl ?_
  refine g_iload (j := 1) B dL_law__1204 rfl ?_
  refine g_iconst (v := 2) B dL_law__1206 (by decide) ?_
  refine g_iadd B dL_law__1207 ?_
  refine g_sld (4 * c + 2) B (nI_add (4 * c) 2) (by omega) (by omega) dL_law__1208 ?_
  refine g_callV (i := 9) (ci := 4) (nA := 2) (Cn := RX3) (As := [.int (xs (4 * c + 1)), .int (xs (4 * c + 2))]) B (CtO.g (hm1 ρ (Jn J o))) EXl.gp carrGP (fun cA => ws_at (cnt_fix (by decide))) rfl rfl mw_533 mw_530 mw_531 mw_532 mw_5 (by decide +kernel) ⟨by show h2 + 1 ≤ 13; omega, by show 8 + (5 + 11) + (30 * h2 + 60) ≤ 474; omega⟩ rfl rfl (Nat.le_of_ble_eq_true rfl) dL_law__1209 ⟨by show _ + 0 ≤ 601024; omega, by show _ + 0 ≤ 7293034; omega⟩ (fun _ _ h => absurd h.1 (fun z => by cases z)) (fun v u hvu => ?_)
  obtain ⟨hv, rfl⟩ := hvu
  cases hv
  refine g_istore (ls2 := [(6, .int x2), (5, .int (cdo [IX, IA, IS] o)), (4, .int (nI (4 * c))), (0, .ref bs), (1, .ref (ρ 0)), (2, .ref (ρ 9)), (3, .ref (ρ 8))]) B hnL dL_law__1212 (by decide) rfl ?_
  refine g_aload_n (j := 5) B dL_law__1214 rfl rfl ?_
  refine g_callV (i := 9) (ci := 4) (nA := 0) (Cn := RX3) (As := []) B (CtO.g (c_X3_thrown hl)) EXl.gp carrGP (fun cA => ws_at (cnt_fix (by decide))) rfl rfl mw_167 mw_164 mw_165 mw_166 mw_5 (by decide +kernel) (by decide) rfl rfl (Nat.le_of_ble_eq_true rfl) dL_law__1215 ⟨by show _ + 0 ≤ 601024; omega, by show _ + 0 ≤ 7293034; omega⟩ (fun _ _ h => absurd h.1 (fun z => by cases z)) (fun v u hvu => ?_)
  obtain ⟨hv, rfl⟩ := hvu
  cases hv
  refine g_iload (j := 1) B dL_law__1218 rfl ?_
  refine g_icmp_eq (tgt := 1225) B dL_law__1220 (by decide) (fun _ => ?_) (fun h => absurd hcode h)
  refine g_iload (j := 1) B dL_law__1225 rfl ?_
  have hend : ∀ J2, G Ξ (wsd n ρ J2 M2) (a + 13) (b + 78) 1242 [(6, .int x2), (5, .int (cdo [IX, IA, IS] o)), (4, .int (nI (4 * c))), (0, .ref bs), (1, .ref (ρ 0)), (2, .ref (ρ 9)), (3, .ref (ρ 8))] [] := fun J2 => by
    refine g_goto (tgt := 2116) B dL_law__1242 (by decide) ?_
    refine g_sub [2, 3, 4, 5, 6] rfl ?_
    exact hnext _ _ hS
  refine g_if_ne (tgt := 1242) B dL_law__1227 (by decide) (fun _ => hend _) (fun h0 => ?_)
  rcases ho with ⟨x0, N, rfl⟩ | ⟨Ey, N, hE, rfl⟩
  · have hx2 : x0 = x2 := hval x0 N rfl
    subst hx2
    refine g_aload_n (j := 6) B dL_law__1230 rfl rfl ?_
    refine g_iconst (v := 0) B dL_law__1231 (by decide) ?_
    refine g_lald (N := 1) (f := (Jn J (rI x0 N))) 8 B (fun cA => ws_at (cnt_fix (by decide))) (vp_in_nI (n := 0) (by decide) (by decide)) dL_law__1232 ?_
    refine g_iload (j := 0) B dL_law__1233 rfl ?_
    refine g_i2l B dL_law__1235 ?_
    refine g_lcmp B dL_law__1236 ?_
    rw [show (Jn J (rI x0 N)) (0 : Int32).toNatClampNeg = x0.toInt64 from rfl, lcmp_self]
    exact g_if_eq (tgt := 1242) B dL_law__1237 (by decide) (fun _ => hend _) (fun h => absurd rfl h)
  · exact absurd h0 (cdo_ne (by decide) hE)
set_option maxRecDepth 100000 in
set_option maxHeartbeats 4000000 in
theorem lc_17 {l : Launch} (hl : l.stackTraces = false) {mn : String} {e bs L : Nat} {xs : Nat → Int32} {tb : List ExceptionTableEntry} {Ξ : CT} (hnL : Ξ.2.2.2.2.2.2 = 7) (B : CB (EXl e bs L xs) l room_1 cL_law_ RL mn tb Ξ) {S : Nat → Nat → Mem → Prop} {c n : Nat} {ρ : Nat → Nat} {J : Nat → Int64} {M : Mem} {a b : Nat} (hc : 4 * c + 4 ≤ L) (hL : L ≤ 2048) (ha : a + 13 ≤ 601024) (hb : b + 78 ≤ 7293034) (hp : ∀ x y : Int32, isB y → PrI l S yX2_law cX2_law 4 (some .boolean) yX3_law cX3_law 4 (some .boolean) [IX] c n M [.int x, .int y]) (hnext : ∀ (J' : Nat → Int64) (M' : Mem), S (c + 1) n M' → G Ξ (wsd n ρ J' M') (a + 13) (b + 78) 2116 [(4, .int (nI (4 * c))), (0, .ref bs), (1, .ref (ρ 0)), (2, .ref (ρ 9)), (3, .ref (ρ 8))] []) : G Ξ (wsd n ρ J M) a b 1245 [(4, .int (nI (4 * c))), (0, .ref bs), (1, .ref (ρ 0)), (2, .ref (ρ 9)), (3, .ref (ρ 8))] [] := by
  by_cases hz : xs (4 * c + 2) = 0
  · obtain ⟨h, mc, ms, h2, o, x2, M2, hc1, hh, hmc, hms, ho, hm1, hh2, hcode, hval, hS⟩ := hp (xs (4 * c + 1)) 0 (Or.inl rfl)
    refine g_aload_n (j := 2) B dL_law__1245 rfl rfl ?_
    refine g_aload_n (j := 1) B dL_law__1246 rfl rfl ?_
    refine g_iload (j := 0) B dL_law__1247 rfl ?_
    refine g_iconst (v := 1) B dL_law__1249 (by decide) ?_
    refine g_iadd B dL_law__1250 ?_
    refine g_sld (4 * c + 1) B (nI_add (4 * c) 1) (by omega) (by omega) dL_law__1251 ?_
    refine g_aload_n (j := 1) B dL_law__1252 rfl rfl ?_
    refine g_iload (j := 0) B dL_law__1253 rfl ?_
    refine g_iconst (v := 2) B dL_law__1255 (by decide) ?_
    refine g_iadd B dL_law__1256 ?_
    refine g_sld (4 * c + 2) B (nI_add (4 * c) 2) (by omega) (by omega) dL_law__1257 ?_
    refine g_if_eq (tgt := 1265) B dL_law__1258 (by decide) (fun _ => ?_) (fun h => absurd hz h)
    refine g_iconst (v := 0) B dL_law__1265 (by decide) ?_
    refine g_aload_n (j := 4) B dL_law__1266 rfl rfl ?_
    refine g_callSX (nA := 4) (As := [.ref (ρ 0), .int (xs (4 * c + 1)), .int 0, .ref (ρ 8)]) B (w_law hl (hc1 ρ J) hh hmc hms ho) EXl.e EXe.carr (gw_goodS mw_537 mw_535 mw_536 mw_77) mw_77 (by decide +kernel) ⟨(Nat.le_of_ble_eq_true rfl), (Nat.le_of_ble_eq_true rfl)⟩ rfl rfl (Nat.le_of_ble_eq_true rfl) dL_law__1267 ⟨by show a + 13 ≤ 601024; omega, by show b + 78 ≤ 7293034; omega⟩ (fun _ _ h => h.elim) (fun v u hvu => ?_)
    obtain ⟨rfl, rfl⟩ := hvu
    refine g_istore (ls2 := [(5, .int (cdo [IX] o)), (4, .int (nI (4 * c))), (0, .ref bs), (1, .ref (ρ 0)), (2, .ref (ρ 9)), (3, .ref (ρ 8))]) B hnL dL_law__1270 (by decide) rfl ?_
    refine g_aload_n (j := 4) B dL_law__1272 rfl rfl ?_
    refine g_aload_n (j := 2) B dL_law__1273 rfl rfl ?_
    refine g_iload (j := 1) B dL_law__1274 rfl ?_
    refine g_iconst (v := 1) B dL_law__1276 (by decide) ?_
    refine g_iadd B dL_law__1277 ?_
    refine g_sld (4 * c + 1) B (nI_add (4 * c) 1) (by omega) (by omega) dL_law__1278 ?_
    refine g_aload_n (j := 2) B dL_law__1279 rfl rfl ?_
    refine g_iload (j := 1) B dL_law__1280 rfl ?_
    refine g_iconst (v := 2) B dL_law__1282 (by decide) ?_
    refine g_iadd B dL_law__1283 ?_
    refine g_sld (4 * c + 2) B (nI_add (4 * c) 2) (by omega) (by omega) dL_law__1284 ?_
    refine g_if_eq (tgt := 1292) B dL_law__1285 (by decide) (fun _ => ?_) (fun h => absurd hz h)
    refine g_iconst (v := 0) B dL_law__1292 (by decide) ?_
    refine g_callV (i := 9) (ci := 4) (nA := 2) (Cn := RX3) (As := [.int (xs (4 * c + 1)), .int 0]) B (CtO.g (hm1 ρ (Jb J o))) EXl.gp carrGP (fun cA => ws_at (cnt_fix (by decide))) rfl rfl mw_545 mw_542 mw_543 mw_544 mw_5 (by decide +kernel) ⟨by show h2 + 1 ≤ 13; omega, by show 8 + (4 + 11) + (30 * h2 + 60) ≤ 474; omega⟩ rfl rfl (Nat.le_of_ble_eq_true rfl) dL_law__1293 ⟨by show _ + 0 ≤ 601024; omega, by show _ + 0 ≤ 7293034; omega⟩ (fun _ _ h => absurd h.1 (fun z => by cases z)) (fun v u hvu => ?_)
    obtain ⟨hv, rfl⟩ := hvu
    cases hv
    refine g_istore (ls2 := [(6, .int x2), (5, .int (cdo [IX] o)), (4, .int (nI (4 * c))), (0, .ref bs), (1, .ref (ρ 0)), (2, .ref (ρ 9)), (3, .ref (ρ 8))]) B hnL dL_law__1296 (by decide) rfl ?_
    refine g_aload_n (j := 5) B dL_law__1298 rfl rfl ?_
    refine g_callV (i := 9) (ci := 4) (nA := 0) (Cn := RX3) (As := []) B (CtO.g (c_X3_thrown hl)) EXl.gp carrGP (fun cA => ws_at (cnt_fix (by decide))) rfl rfl mw_167 mw_164 mw_165 mw_166 mw_5 (by decide +kernel) (by decide) rfl rfl (Nat.le_of_ble_eq_true rfl) dL_law__1299 ⟨by show _ + 0 ≤ 601024; omega, by show _ + 0 ≤ 7293034; omega⟩ (fun _ _ h => absurd h.1 (fun z => by cases z)) (fun v u hvu => ?_)
    obtain ⟨hv, rfl⟩ := hvu
    cases hv
    refine g_iload (j := 1) B dL_law__1302 rfl ?_
    refine g_icmp_eq (tgt := 1309) B dL_law__1304 (by decide) (fun _ => ?_) (fun h => absurd hcode h)
    refine g_iload (j := 1) B dL_law__1309 rfl ?_
    have hend : ∀ J2, G Ξ (wsd n ρ J2 M2) (a + 13) (b + 78) 1333 [(6, .int x2), (5, .int (cdo [IX] o)), (4, .int (nI (4 * c))), (0, .ref bs), (1, .ref (ρ 0)), (2, .ref (ρ 9)), (3, .ref (ρ 8))] [] := fun J2 => by
      refine g_goto (tgt := 2116) B dL_law__1333 (by decide) ?_
      refine g_sub [2, 3, 4, 5, 6] rfl ?_
      exact hnext _ _ hS
    refine g_if_ne (tgt := 1333) B dL_law__1311 (by decide) (fun _ => hend _) (fun h0 => ?_)
    rcases ho with ⟨x0, N, rfl⟩ | ⟨Ey, N, hE, rfl⟩
    · have hx2 : x0 = x2 := hval x0 N rfl
      subst hx2
      refine g_aload_n (j := 6) B dL_law__1314 rfl rfl ?_
      refine g_iconst (v := 0) B dL_law__1315 (by decide) ?_
      refine g_lald (N := 1) (f := (Jb J (rI x0 N))) 8 B (fun cA => ws_at (cnt_fix (by decide))) (vp_in_nI (n := 0) (by decide) (by decide)) dL_law__1316 ?_
      refine g_iload (j := 0) B dL_law__1317 rfl ?_
      refine g_if_eq (tgt := 1326) B dL_law__1319 (by decide) (fun hq => ?_) (fun hq => ?_)
      · refine g_lconst (v := 0) B dL_law__1326 (by decide) ?_
        refine g_lcmp B dL_law__1327 ?_
        rw [show (Jb J (rI x0 N)) (0 : Int32).toNatClampNeg = 0 by show (if x0 = 0 then (0 : Int64) else 1) = 0; rw [if_pos hq], lcmp_self]
        exact g_if_eq (tgt := 1333) B dL_law__1328 (by decide) (fun _ => hend _) (fun h => absurd rfl h)
      · refine g_lconst (v := 1) B dL_law__1322 (by decide) ?_
        refine g_goto (tgt := 1327) B dL_law__1323 (by decide) ?_
        refine g_lcmp B dL_law__1327 ?_
        rw [show (Jb J (rI x0 N)) (0 : Int32).toNatClampNeg = 1 by show (if x0 = 0 then (0 : Int64) else 1) = 1; rw [if_neg hq], lcmp_self]
        exact g_if_eq (tgt := 1333) B dL_law__1328 (by decide) (fun _ => hend _) (fun h => absurd rfl h)
    · exact absurd h0 (cdo_ne (by decide) hE)
  · obtain ⟨h, mc, ms, h2, o, x2, M2, hc1, hh, hmc, hms, ho, hm1, hh2, hcode, hval, hS⟩ := hp (xs (4 * c + 1)) 1 (Or.inr rfl)
    refine g_aload_n (j := 2) B dL_law__1245 rfl rfl ?_
    refine g_aload_n (j := 1) B dL_law__1246 rfl rfl ?_
    refine g_iload (j := 0) B dL_law__1247 rfl ?_
    refine g_iconst (v := 1) B dL_law__1249 (by decide) ?_
    refine g_iadd B dL_law__1250 ?_
    refine g_sld (4 * c + 1) B (nI_add (4 * c) 1) (by omega) (by omega) dL_law__1251 ?_
    refine g_aload_n (j := 1) B dL_law__1252 rfl rfl ?_
    refine g_iload (j := 0) B dL_law__1253 rfl ?_
    refine g_iconst (v := 2) B dL_law__1255 (by decide) ?_
    refine g_iadd B dL_law__1256 ?_
    refine g_sld (4 * c + 2) B (nI_add (4 * c) 2) (by omega) (by omega) dL_law__1257 ?_
    refine g_if_eq (tgt := 1265) B dL_law__1258 (by decide) (fun h => absurd h hz) (fun _ => ?_)
    refine g_iconst (v := 1) B dL_law__1261 (by decide) ?_
    refine g_goto (tgt := 1266) B dL_law__1262 (by decide) ?_
    refine g_aload_n (j := 4) B dL_law__1266 rfl rfl ?_
    refine g_callSX (nA := 4) (As := [.ref (ρ 0), .int (xs (4 * c + 1)), .int 1, .ref (ρ 8)]) B (w_law hl (hc1 ρ J) hh hmc hms ho) EXl.e EXe.carr (gw_goodS mw_537 mw_535 mw_536 mw_77) mw_77 (by decide +kernel) ⟨(Nat.le_of_ble_eq_true rfl), (Nat.le_of_ble_eq_true rfl)⟩ rfl rfl (Nat.le_of_ble_eq_true rfl) dL_law__1267 ⟨by show a + 13 ≤ 601024; omega, by show b + 78 ≤ 7293034; omega⟩ (fun _ _ h => h.elim) (fun v u hvu => ?_)
    obtain ⟨rfl, rfl⟩ := hvu
    refine g_istore (ls2 := [(5, .int (cdo [IX] o)), (4, .int (nI (4 * c))), (0, .ref bs), (1, .ref (ρ 0)), (2, .ref (ρ 9)), (3, .ref (ρ 8))]) B hnL dL_law__1270 (by decide) rfl ?_
    refine g_aload_n (j := 4) B dL_law__1272 rfl rfl ?_
    refine g_aload_n (j := 2) B dL_law__1273 rfl rfl ?_
    refine g_iload (j := 1) B dL_law__1274 rfl ?_
    refine g_iconst (v := 1) B dL_law__1276 (by decide) ?_
    refine g_iadd B dL_law__1277 ?_
    refine g_sld (4 * c + 1) B (nI_add (4 * c) 1) (by omega) (by omega) dL_law__1278 ?_
    refine g_aload_n (j := 2) B dL_law__1279 rfl rfl ?_
    refine g_iload (j := 1) B dL_law__1280 rfl ?_
    refine g_iconst (v := 2) B dL_law__1282 (by decide) ?_
    refine g_iadd B dL_law__1283 ?_
    refine g_sld (4 * c + 2) B (nI_add (4 * c) 2) (by omega) (by omega) dL_law__1284 ?_
    refine g_if_eq (tgt := 1292) B dL_law__1285 (by decide) (fun h => absurd h hz) (fun _ => ?_)
    refine g_iconst (v := 1) B dL_law__1288 (by decide) ?_
    refine g_goto (tgt := 1293) B dL_law__1289 (by decide) ?_
    refine g_callV (i := 9) (ci := 4) (nA := 2) (Cn := RX3) (As := [.int (xs (4 * c + 1)), .int 1]) B (CtO.g (hm1 ρ (Jb J o))) EXl.gp carrGP (fun cA => ws_at (cnt_fix (by decide))) rfl rfl mw_545 mw_542 mw_543 mw_544 mw_5 (by decide +kernel) ⟨by show h2 + 1 ≤ 13; omega, by show 8 + (4 + 11) + (30 * h2 + 60) ≤ 474; omega⟩ rfl rfl (Nat.le_of_ble_eq_true rfl) dL_law__1293 ⟨by show _ + 0 ≤ 601024; omega, by show _ + 0 ≤ 7293034; omega⟩ (fun _ _ h => absurd h.1 (fun z => by cases z)) (fun v u hvu => ?_)
    obtain ⟨hv, rfl⟩ := hvu
    cases hv
    refine g_istore (ls2 := [(6, .int x2), (5, .int (cdo [IX] o)), (4, .int (nI (4 * c))), (0, .ref bs), (1, .ref (ρ 0)), (2, .ref (ρ 9)), (3, .ref (ρ 8))]) B hnL dL_law__1296 (by decide) rfl ?_
    refine g_aload_n (j := 5) B dL_law__1298 rfl rfl ?_
    refine g_callV (i := 9) (ci := 4) (nA := 0) (Cn := RX3) (As := []) B (CtO.g (c_X3_thrown hl)) EXl.gp carrGP (fun cA => ws_at (cnt_fix (by decide))) rfl rfl mw_167 mw_164 mw_165 mw_166 mw_5 (by decide +kernel) (by decide) rfl rfl (Nat.le_of_ble_eq_true rfl) dL_law__1299 ⟨by show _ + 0 ≤ 601024; omega, by show _ + 0 ≤ 7293034; omega⟩ (fun _ _ h => absurd h.1 (fun z => by cases z)) (fun v u hvu => ?_)
    obtain ⟨hv, rfl⟩ := hvu
    cases hv
    refine g_iload (j := 1) B dL_law__1302 rfl ?_
    refine g_icmp_eq (tgt := 1309) B dL_law__1304 (by decide) (fun _ => ?_) (fun h => absurd hcode h)
    refine g_iload (j := 1) B dL_law__1309 rfl ?_
    have hend : ∀ J2, G Ξ (wsd n ρ J2 M2) (a + 13) (b + 78) 1333 [(6, .int x2), (5, .int (cdo [IX] o)), (4, .int (nI (4 * c))), (0, .ref bs), (1, .ref (ρ 0)), (2, .ref (ρ 9)), (3, .ref (ρ 8))] [] := fun J2 => by
      refine g_goto (tgt := 2116) B dL_law__1333 (by decide) ?_
      refine g_sub [2, 3, 4, 5, 6] rfl ?_
      exact hnext _ _ hS
    refine g_if_ne (tgt := 1333) B dL_law__1311 (by decide) (fun _ => hend _) (fun h0 => ?_)
    rcases ho with ⟨x0, N, rfl⟩ | ⟨Ey, N, hE, rfl⟩
    · have hx2 : x0 = x2 := hval x0 N rfl
      subst hx2
      refine g_aload_n (j := 6) B dL_law__1314 rfl rfl ?_
      refine g_iconst (v := 0) B dL_law__1315 (by decide) ?_
      refine g_lald (N := 1) (f := (Jb J (rI x0 N))) 8 B (fun cA => ws_at (cnt_fix (by decide))) (vp_in_nI (n := 0) (by decide) (by decide)) dL_law__1316 ?_
      refine g_iload (j := 0) B dL_law__1317 rfl ?_
      refine g_if_eq (tgt := 1326) B dL_law__1319 (by decide) (fun hq => ?_) (fun hq => ?_)
      · refine g_lconst (v := 0) B dL_law__1326 (by decide) ?_
        refine g_lcmp B dL_law__1327 ?_
        rw [show (Jb J (rI x0 N)) (0 : Int32).toNatClampNeg = 0 by show (if x0 = 0 then (0 : Int64) else 1) = 0; rw [if_pos hq], lcmp_self]
        exact g_if_eq (tgt := 1333) B dL_law__1328 (by decide) (fun _ => hend _) (fun h => absurd rfl h)
      · refine g_lconst (v := 1) B dL_law__1322 (by decide) ?_
        refine g_goto (tgt := 1327) B dL_law__1323 (by decide) ?_
        refine g_lcmp B dL_law__1327 ?_
        rw [show (Jb J (rI x0 N)) (0 : Int32).toNatClampNeg = 1 by show (if x0 = 0 then (0 : Int64) else 1) = 1; rw [if_neg hq], lcmp_self]
        exact g_if_eq (tgt := 1333) B dL_law__1328 (by decide) (fun _ => hend _) (fun h => absurd rfl h)
    · exact absurd h0 (cdo_ne (by decide) hE)
set_option maxRecDepth 100000 in
set_option maxHeartbeats 4000000 in
theorem lc_18 {l : Launch} (hl : l.stackTraces = false) {mn : String} {e bs L : Nat} {xs : Nat → Int32} {tb : List ExceptionTableEntry} {Ξ : CT} (hnL : Ξ.2.2.2.2.2.2 = 7) (B : CB (EXl e bs L xs) l room_1 cL_law_ RL mn tb Ξ) {S : Nat → Nat → Mem → Prop} {c n : Nat} {ρ : Nat → Nat} {J : Nat → Int64} {M : Mem} {a b : Nat} (hc : 4 * c + 4 ≤ L) (hL : L ≤ 2048) (ha : a + 13 ≤ 601024) (hb : b + 78 ≤ 7293034) (hp : ∀ z : Int32, isB z → PrD l S yX2_obey cX2_obey 3 (some .boolean) yX3_obey cX3_obey 3 (some .boolean) c n M [.int z]) (hnext : ∀ (J' : Nat → Int64) (M' : Mem), S (c + 1) n M' → G Ξ (wsd n ρ J' M') (a + 0) (b + 0) 2116 [(4, .int (nI (4 * c))), (0, .ref bs), (1, .ref (ρ 0)), (2, .ref (ρ 9)), (3, .ref (ρ 8))] []) : G Ξ (wsd n ρ J M) a b 1336 [(4, .int (nI (4 * c))), (0, .ref bs), (1, .ref (ρ 0)), (2, .ref (ρ 9)), (3, .ref (ρ 8))] [] := by
  by_cases hz : xs (4 * c + 1) = 0
  · obtain ⟨x2, M1, M2, hc1, hm1, hS⟩ := hp 0 (Or.inl rfl)
    refine g_aload_n (j := 2) B dL_law__1336 rfl rfl ?_
    refine g_aload_n (j := 1) B dL_law__1337 rfl rfl ?_
    refine g_iload (j := 0) B dL_law__1338 rfl ?_
    refine g_iconst (v := 1) B dL_law__1340 (by decide) ?_
    refine g_iadd B dL_law__1341 ?_
    refine g_sld (4 * c + 1) B (nI_add (4 * c) 1) (by omega) (by omega) dL_law__1342 ?_
    refine g_if_eq (tgt := 1350) B dL_law__1343 (by decide) (fun _ => ?_) (fun h => absurd hz h)
    refine g_iconst (v := 0) B dL_law__1350 (by decide) ?_
    refine g_callV (i := 0) (ci := 3) (nA := 1) (Cn := RX2) (As := [.int 0]) B (CtO.g (hc1 ρ J)) EXl.gp carrGP (fun cA => ws_at (cnt_fix (by decide))) rfl rfl mw_549 mw_546 mw_547 mw_548 mw_2 (by decide +kernel) (by decide) rfl rfl (Nat.le_of_ble_eq_true rfl) dL_law__1351 ⟨by show _ + 0 ≤ 601024; omega, by show _ + 0 ≤ 7293034; omega⟩ (fun _ _ h => absurd h.1 (fun z => by cases z)) (fun v u hvu => ?_)
    obtain ⟨hv, rfl⟩ := hvu
    cases hv
    refine g_aload_n (j := 3) B dL_law__1354 rfl rfl ?_
    refine g_aload_n (j := 1) B dL_law__1355 rfl rfl ?_
    refine g_iload (j := 0) B dL_law__1356 rfl ?_
    refine g_iconst (v := 1) B dL_law__1358 (by decide) ?_
    refine g_iadd B dL_law__1359 ?_
    refine g_sld (4 * c + 1) B (nI_add (4 * c) 1) (by omega) (by omega) dL_law__1360 ?_
    refine g_if_eq (tgt := 1368) B dL_law__1361 (by decide) (fun _ => ?_) (fun h => absurd hz h)
    refine g_iconst (v := 0) B dL_law__1368 (by decide) ?_
    refine g_callV (i := 9) (ci := 4) (nA := 1) (Cn := RX3) (As := [.int 0]) B (CtO.g (hm1 ρ J)) EXl.gp carrGP (fun cA => ws_at (cnt_fix (by decide))) rfl rfl mw_553 mw_550 mw_551 mw_552 mw_5 (by decide +kernel) ⟨by show 0 + 1 ≤ 13; omega, by show 8 + (3 + 11) + (30 * 0 + 60) ≤ 474; omega⟩ rfl rfl (Nat.le_of_ble_eq_true rfl) dL_law__1369 ⟨by show _ + 0 ≤ 601024; omega, by show _ + 0 ≤ 7293034; omega⟩ (fun _ _ h => absurd h.1 (fun z => by cases z)) (fun v u hvu => ?_)
    obtain ⟨hv, rfl⟩ := hvu
    cases hv
    refine g_icmp_eq (tgt := 2116) B dL_law__1372 (by decide) (fun _ => ?_) (fun h => absurd rfl h)
    exact hnext _ _ hS
  · obtain ⟨x2, M1, M2, hc1, hm1, hS⟩ := hp 1 (Or.inr rfl)
    refine g_aload_n (j := 2) B dL_law__1336 rfl rfl ?_
    refine g_aload_n (j := 1) B dL_law__1337 rfl rfl ?_
    refine g_iload (j := 0) B dL_law__1338 rfl ?_
    refine g_iconst (v := 1) B dL_law__1340 (by decide) ?_
    refine g_iadd B dL_law__1341 ?_
    refine g_sld (4 * c + 1) B (nI_add (4 * c) 1) (by omega) (by omega) dL_law__1342 ?_
    refine g_if_eq (tgt := 1350) B dL_law__1343 (by decide) (fun h => absurd h hz) (fun _ => ?_)
    refine g_iconst (v := 1) B dL_law__1346 (by decide) ?_
    refine g_goto (tgt := 1351) B dL_law__1347 (by decide) ?_
    refine g_callV (i := 0) (ci := 3) (nA := 1) (Cn := RX2) (As := [.int 1]) B (CtO.g (hc1 ρ J)) EXl.gp carrGP (fun cA => ws_at (cnt_fix (by decide))) rfl rfl mw_549 mw_546 mw_547 mw_548 mw_2 (by decide +kernel) (by decide) rfl rfl (Nat.le_of_ble_eq_true rfl) dL_law__1351 ⟨by show _ + 0 ≤ 601024; omega, by show _ + 0 ≤ 7293034; omega⟩ (fun _ _ h => absurd h.1 (fun z => by cases z)) (fun v u hvu => ?_)
    obtain ⟨hv, rfl⟩ := hvu
    cases hv
    refine g_aload_n (j := 3) B dL_law__1354 rfl rfl ?_
    refine g_aload_n (j := 1) B dL_law__1355 rfl rfl ?_
    refine g_iload (j := 0) B dL_law__1356 rfl ?_
    refine g_iconst (v := 1) B dL_law__1358 (by decide) ?_
    refine g_iadd B dL_law__1359 ?_
    refine g_sld (4 * c + 1) B (nI_add (4 * c) 1) (by omega) (by omega) dL_law__1360 ?_
    refine g_if_eq (tgt := 1368) B dL_law__1361 (by decide) (fun h => absurd h hz) (fun _ => ?_)
    refine g_iconst (v := 1) B dL_law__1364 (by decide) ?_
    refine g_goto (tgt := 1369) B dL_law__1365 (by decide) ?_
    refine g_callV (i := 9) (ci := 4) (nA := 1) (Cn := RX3) (As := [.int 1]) B (CtO.g (hm1 ρ J)) EXl.gp carrGP (fun cA => ws_at (cnt_fix (by decide))) rfl rfl mw_553 mw_550 mw_551 mw_552 mw_5 (by decide +kernel) ⟨by show 0 + 1 ≤ 13; omega, by show 8 + (3 + 11) + (30 * 0 + 60) ≤ 474; omega⟩ rfl rfl (Nat.le_of_ble_eq_true rfl) dL_law__1369 ⟨by show _ + 0 ≤ 601024; omega, by show _ + 0 ≤ 7293034; omega⟩ (fun _ _ h => absurd h.1 (fun z => by cases z)) (fun v u hvu => ?_)
    obtain ⟨hv, rfl⟩ := hvu
    cases hv
    refine g_icmp_eq (tgt := 2116) B dL_law__1372 (by decide) (fun _ => ?_) (fun h => absurd rfl h)
    exact hnext _ _ hS
set_option maxRecDepth 100000 in
set_option maxHeartbeats 4000000 in
theorem lc_19 {l : Launch} (hl : l.stackTraces = false) {mn : String} {e bs L : Nat} {xs : Nat → Int32} {tb : List ExceptionTableEntry} {Ξ : CT} (hnL : Ξ.2.2.2.2.2.2 = 7) (B : CB (EXl e bs L xs) l room_1 cL_law_ RL mn tb Ξ) {S : Nat → Nat → Mem → Prop} {c n : Nat} {ρ : Nat → Nat} {J : Nat → Int64} {M : Mem} {a b : Nat} (hc : 4 * c + 4 ≤ L) (hL : L ≤ 2048) (ha : a + 13 ≤ 601024) (hb : b + 78 ≤ 7293034) (hp : PrD l S yX2_breaches cX2_breaches 1 (some .int) yX3_breaches cX3_breaches 1 (some .int) c n M []) (hnext : ∀ (J' : Nat → Int64) (M' : Mem), S (c + 1) n M' → G Ξ (wsd n ρ J' M') (a + 0) (b + 0) 2116 [(4, .int (nI (4 * c))), (0, .ref bs), (1, .ref (ρ 0)), (2, .ref (ρ 9)), (3, .ref (ρ 8))] []) : G Ξ (wsd n ρ J M) a b 1377 [(4, .int (nI (4 * c))), (0, .ref bs), (1, .ref (ρ 0)), (2, .ref (ρ 9)), (3, .ref (ρ 8))] [] := by
  obtain ⟨x2, M1, M2, hc1, hm1, hS⟩ := hp
  refine g_aload_n (j := 2) B dL_law__1377 rfl rfl ?_
  refine g_callV (i := 0) (ci := 3) (nA := 0) (Cn := RX2) (As := []) B (CtO.g (hc1 ρ J)) EXl.gp carrGP (fun cA => ws_at (cnt_fix (by decide))) rfl rfl mw_557 mw_554 mw_555 mw_556 mw_2 (by decide +kernel) (by decide) rfl rfl (Nat.le_of_ble_eq_true rfl) dL_law__1378 ⟨by show _ + 0 ≤ 601024; omega, by show _ + 0 ≤ 7293034; omega⟩ (fun _ _ h => absurd h.1 (fun z => by cases z)) (fun v u hvu => ?_)
  obtain ⟨hv, rfl⟩ := hvu
  cases hv
  refine g_aload_n (j := 3) B dL_law__1381 rfl rfl ?_
  refine g_callV (i := 9) (ci := 4) (nA := 0) (Cn := RX3) (As := []) B (CtO.g (hm1 ρ J)) EXl.gp carrGP (fun cA => ws_at (cnt_fix (by decide))) rfl rfl mw_561 mw_558 mw_559 mw_560 mw_5 (by decide +kernel) ⟨by show 0 + 1 ≤ 13; omega, by show 8 + (1 + 11) + (30 * 0 + 60) ≤ 474; omega⟩ rfl rfl (Nat.le_of_ble_eq_true rfl) dL_law__1382 ⟨by show _ + 0 ≤ 601024; omega, by show _ + 0 ≤ 7293034; omega⟩ (fun _ _ h => absurd h.1 (fun z => by cases z)) (fun v u hvu => ?_)
  obtain ⟨hv, rfl⟩ := hvu
  cases hv
  refine g_icmp_eq (tgt := 2116) B dL_law__1385 (by decide) (fun _ => ?_) (fun h => absurd rfl h)
  exact hnext _ _ hS
set_option maxRecDepth 100000 in
set_option maxHeartbeats 4000000 in
theorem lc_20 {l : Launch} (hl : l.stackTraces = false) {mn : String} {e bs L : Nat} {xs : Nat → Int32} {tb : List ExceptionTableEntry} {Ξ : CT} (hnL : Ξ.2.2.2.2.2.2 = 7) (B : CB (EXl e bs L xs) l room_1 cL_law_ RL mn tb Ξ) {S : Nat → Nat → Mem → Prop} {c n : Nat} {ρ : Nat → Nat} {J : Nat → Int64} {M : Mem} {a b : Nat} (hc : 4 * c + 4 ≤ L) (hL : L ≤ 2048) (ha : a + 13 ≤ 601024) (hb : b + 78 ≤ 7293034) (hp : ∀ x : Int32, PrI l S yX2_die cX2_die 4 (some .int) yX3_die cX3_die 3 (some .int) [IX, IS] c n M [.int x]) (hnext : ∀ (J' : Nat → Int64) (M' : Mem), S (c + 1) n M' → G Ξ (wsd n ρ J' M') (a + 13) (b + 78) 2116 [(4, .int (nI (4 * c))), (0, .ref bs), (1, .ref (ρ 0)), (2, .ref (ρ 9)), (3, .ref (ρ 8))] []) : G Ξ (wsd n ρ J M) a b 1390 [(4, .int (nI (4 * c))), (0, .ref bs), (1, .ref (ρ 0)), (2, .ref (ρ 9)), (3, .ref (ρ 8))] [] := by
  obtain ⟨h, mc, ms, h2, o, x2, M2, hc1, hh, hmc, hms, ho, hm1, hh2, hcode, hval, hS⟩ := hp (xs (4 * c + 1))
  refine g_aload_n (j := 2) B dL_law__1390 rfl rfl ?_
  refine g_aload_n (j := 1) B dL_law__1391 rfl rfl ?_
  refine g_iload (j := 0) B dL_law__1392 rfl ?_
  refine g_iconst (v := 1) B dL_law__1394 (by decide) ?_
  refine g_iadd B dL_law__1395 ?_
  refine g_sld (4 * c + 1) B (nI_add (4 * c) 1) (by omega) (by omega) dL_law__1396 ?_
  refine g_aload_n (j := 4) B dL_law__1397 rfl rfl ?_
  refine g_callSX (nA := 3) (As := [.ref (ρ 0), .int (xs (4 * c + 1)), .ref (ρ 8)]) B (w_die hl (hc1 ρ J) hh hmc hms ho) EXl.e EXe.carr (gw_goodS mw_564 mw_562 mw_563 mw_77) mw_77 (by decide +kernel) ⟨(Nat.le_of_ble_eq_true rfl), (Nat.le_of_ble_eq_true rfl)⟩ rfl rfl (Nat.le_of_ble_eq_true rfl) dL_law__1398 ⟨by show a + 13 ≤ 601024; omega, by show b + 78 ≤ 7293034; omega⟩ (fun _ _ h => h.elim) (fun v u hvu => ?_)
  obtain ⟨rfl, rfl⟩ := hvu
  refine g_istore (ls2 := [(5, .int (cdo [IX, IS] o)), (4, .int (nI (4 * c))), (0, .ref bs), (1, .ref (ρ 0)), (2, .ref (ρ 9)), (3, .ref (ρ 8))]) B hnL dL_law__1401 (by decide) rfl ?_
  refine g_aload_n (j := 4) B dL_law__1403 rfl rfl ?_
  refine g_aload_n (j := 2) B dL_law__1404 rfl rfl ?_
  refine g_iload (j := 1) B dL_law__1405 rfl ?_
  refine g_iconst (v := 1) B dL_law__1407 (by decide) ?_
  refine g_iadd B dL_law__1408 ?_
  refine g_sld (4 * c + 1) B (nI_add (4 * c) 1) (by omega) (by omega) dL_law__1409 ?_
  refine g_callV (i := 9) (ci := 4) (nA := 1) (Cn := RX3) (As := [.int (xs (4 * c + 1))]) B (CtO.g (hm1 ρ (Jn J o))) EXl.gp carrGP (fun cA => ws_at (cnt_fix (by decide))) rfl rfl mw_589 mw_586 mw_587 mw_588 mw_5 (by decide +kernel) ⟨by show h2 + 1 ≤ 13; omega, by show 8 + (3 + 11) + (30 * h2 + 60) ≤ 474; omega⟩ rfl rfl (Nat.le_of_ble_eq_true rfl) dL_law__1410 ⟨by show _ + 0 ≤ 601024; omega, by show _ + 0 ≤ 7293034; omega⟩ (fun _ _ h => absurd h.1 (fun z => by cases z)) (fun v u hvu => ?_)
  obtain ⟨hv, rfl⟩ := hvu
  cases hv
  refine g_istore (ls2 := [(6, .int x2), (5, .int (cdo [IX, IS] o)), (4, .int (nI (4 * c))), (0, .ref bs), (1, .ref (ρ 0)), (2, .ref (ρ 9)), (3, .ref (ρ 8))]) B hnL dL_law__1413 (by decide) rfl ?_
  refine g_aload_n (j := 5) B dL_law__1415 rfl rfl ?_
  refine g_callV (i := 9) (ci := 4) (nA := 0) (Cn := RX3) (As := []) B (CtO.g (c_X3_thrown hl)) EXl.gp carrGP (fun cA => ws_at (cnt_fix (by decide))) rfl rfl mw_167 mw_164 mw_165 mw_166 mw_5 (by decide +kernel) (by decide) rfl rfl (Nat.le_of_ble_eq_true rfl) dL_law__1416 ⟨by show _ + 0 ≤ 601024; omega, by show _ + 0 ≤ 7293034; omega⟩ (fun _ _ h => absurd h.1 (fun z => by cases z)) (fun v u hvu => ?_)
  obtain ⟨hv, rfl⟩ := hvu
  cases hv
  refine g_iload (j := 1) B dL_law__1419 rfl ?_
  refine g_icmp_eq (tgt := 1426) B dL_law__1421 (by decide) (fun _ => ?_) (fun h => absurd hcode h)
  refine g_iload (j := 1) B dL_law__1426 rfl ?_
  have hend : ∀ J2, G Ξ (wsd n ρ J2 M2) (a + 13) (b + 78) 1443 [(6, .int x2), (5, .int (cdo [IX, IS] o)), (4, .int (nI (4 * c))), (0, .ref bs), (1, .ref (ρ 0)), (2, .ref (ρ 9)), (3, .ref (ρ 8))] [] := fun J2 => by
    refine g_goto (tgt := 2116) B dL_law__1443 (by decide) ?_
    refine g_sub [2, 3, 4, 5, 6] rfl ?_
    exact hnext _ _ hS
  refine g_if_ne (tgt := 1443) B dL_law__1428 (by decide) (fun _ => hend _) (fun h0 => ?_)
  rcases ho with ⟨x0, N, rfl⟩ | ⟨Ey, N, hE, rfl⟩
  · have hx2 : x0 = x2 := hval x0 N rfl
    subst hx2
    refine g_aload_n (j := 6) B dL_law__1431 rfl rfl ?_
    refine g_iconst (v := 0) B dL_law__1432 (by decide) ?_
    refine g_lald (N := 1) (f := (Jn J (rI x0 N))) 8 B (fun cA => ws_at (cnt_fix (by decide))) (vp_in_nI (n := 0) (by decide) (by decide)) dL_law__1433 ?_
    refine g_iload (j := 0) B dL_law__1434 rfl ?_
    refine g_i2l B dL_law__1436 ?_
    refine g_lcmp B dL_law__1437 ?_
    rw [show (Jn J (rI x0 N)) (0 : Int32).toNatClampNeg = x0.toInt64 from rfl, lcmp_self]
    exact g_if_eq (tgt := 1443) B dL_law__1438 (by decide) (fun _ => hend _) (fun h => absurd rfl h)
  · exact absurd h0 (cdo_ne (by decide) hE)
set_option maxRecDepth 100000 in
set_option maxHeartbeats 4000000 in
theorem lc_21 {l : Launch} (hl : l.stackTraces = false) {mn : String} {e bs L : Nat} {xs : Nat → Int32} {tb : List ExceptionTableEntry} {Ξ : CT} (hnL : Ξ.2.2.2.2.2.2 = 7) (B : CB (EXl e bs L xs) l room_1 cL_law_ RL mn tb Ξ) {S : Nat → Nat → Mem → Prop} {c n : Nat} {ρ : Nat → Nat} {J : Nat → Int64} {M : Mem} {a b : Nat} (hc : 4 * c + 4 ≤ L) (hL : L ≤ 2048) (ha : a + 13 ≤ 601024) (hb : b + 78 ≤ 7293034) (hp : ∀ x y : Int32, isB y → PrI l S yX2_vote cX2_vote 5 (some .boolean) yX3_vote cX3_vote 4 (some .boolean) [IX] c n M [.int x, .int y]) (hnext : ∀ (J' : Nat → Int64) (M' : Mem), S (c + 1) n M' → G Ξ (wsd n ρ J' M') (a + 13) (b + 78) 2116 [(4, .int (nI (4 * c))), (0, .ref bs), (1, .ref (ρ 0)), (2, .ref (ρ 9)), (3, .ref (ρ 8))] []) : G Ξ (wsd n ρ J M) a b 1446 [(4, .int (nI (4 * c))), (0, .ref bs), (1, .ref (ρ 0)), (2, .ref (ρ 9)), (3, .ref (ρ 8))] [] := by
  by_cases hz : xs (4 * c + 2) = 0
  · obtain ⟨h, mc, ms, h2, o, x2, M2, hc1, hh, hmc, hms, ho, hm1, hh2, hcode, hval, hS⟩ := hp (xs (4 * c + 1)) 0 (Or.inl rfl)
    refine g_aload_n (j := 2) B dL_law__1446 rfl rfl ?_
    refine g_aload_n (j := 1) B dL_law__1447 rfl rfl ?_
    refine g_iload (j := 0) B dL_law__1448 rfl ?_
    refine g_iconst (v := 1) B dL_law__1450 (by decide) ?_
    refine g_iadd B dL_law__1451 ?_
    refine g_sld (4 * c + 1) B (nI_add (4 * c) 1) (by omega) (by omega) dL_law__1452 ?_
    refine g_aload_n (j := 1) B dL_law__1453 rfl rfl ?_
    refine g_iload (j := 0) B dL_law__1454 rfl ?_
    refine g_iconst (v := 2) B dL_law__1456 (by decide) ?_
    refine g_iadd B dL_law__1457 ?_
    refine g_sld (4 * c + 2) B (nI_add (4 * c) 2) (by omega) (by omega) dL_law__1458 ?_
    refine g_if_eq (tgt := 1466) B dL_law__1459 (by decide) (fun _ => ?_) (fun h => absurd hz h)
    refine g_iconst (v := 0) B dL_law__1466 (by decide) ?_
    refine g_aload_n (j := 4) B dL_law__1467 rfl rfl ?_
    refine g_callSX (nA := 4) (As := [.ref (ρ 0), .int (xs (4 * c + 1)), .int 0, .ref (ρ 8)]) B (w_vote hl (hc1 ρ J) hh hmc hms ho) EXl.e EXe.carr (gw_goodS mw_600 mw_598 mw_599 mw_77) mw_77 (by decide +kernel) ⟨(Nat.le_of_ble_eq_true rfl), (Nat.le_of_ble_eq_true rfl)⟩ rfl rfl (Nat.le_of_ble_eq_true rfl) dL_law__1468 ⟨by show a + 13 ≤ 601024; omega, by show b + 78 ≤ 7293034; omega⟩ (fun _ _ h => h.elim) (fun v u hvu => ?_)
    obtain ⟨rfl, rfl⟩ := hvu
    refine g_istore (ls2 := [(5, .int (cdo [IX] o)), (4, .int (nI (4 * c))), (0, .ref bs), (1, .ref (ρ 0)), (2, .ref (ρ 9)), (3, .ref (ρ 8))]) B hnL dL_law__1471 (by decide) rfl ?_
    refine g_aload_n (j := 4) B dL_law__1473 rfl rfl ?_
    refine g_aload_n (j := 2) B dL_law__1474 rfl rfl ?_
    refine g_iload (j := 1) B dL_law__1475 rfl ?_
    refine g_iconst (v := 1) B dL_law__1477 (by decide) ?_
    refine g_iadd B dL_law__1478 ?_
    refine g_sld (4 * c + 1) B (nI_add (4 * c) 1) (by omega) (by omega) dL_law__1479 ?_
    refine g_aload_n (j := 2) B dL_law__1480 rfl rfl ?_
    refine g_iload (j := 1) B dL_law__1481 rfl ?_
    refine g_iconst (v := 2) B dL_law__1483 (by decide) ?_
    refine g_iadd B dL_law__1484 ?_
    refine g_sld (4 * c + 2) B (nI_add (4 * c) 2) (by omega) (by omega) dL_law__1485 ?_
    refine g_if_eq (tgt := 1493) B dL_law__1486 (by decide) (fun _ => ?_) (fun h => absurd hz h)
    refine g_iconst (v := 0) B dL_law__1493 (by decide) ?_
    refine g_callV (i := 9) (ci := 4) (nA := 2) (Cn := RX3) (As := [.int (xs (4 * c + 1)), .int 0]) B (CtO.g (hm1 ρ (Jb J o))) EXl.gp carrGP (fun cA => ws_at (cnt_fix (by decide))) rfl rfl mw_609 mw_606 mw_607 mw_608 mw_5 (by decide +kernel) ⟨by show h2 + 1 ≤ 13; omega, by show 8 + (4 + 11) + (30 * h2 + 60) ≤ 474; omega⟩ rfl rfl (Nat.le_of_ble_eq_true rfl) dL_law__1494 ⟨by show _ + 0 ≤ 601024; omega, by show _ + 0 ≤ 7293034; omega⟩ (fun _ _ h => absurd h.1 (fun z => by cases z)) (fun v u hvu => ?_)
    obtain ⟨hv, rfl⟩ := hvu
    cases hv
    refine g_istore (ls2 := [(6, .int x2), (5, .int (cdo [IX] o)), (4, .int (nI (4 * c))), (0, .ref bs), (1, .ref (ρ 0)), (2, .ref (ρ 9)), (3, .ref (ρ 8))]) B hnL dL_law__1497 (by decide) rfl ?_
    refine g_aload_n (j := 5) B dL_law__1499 rfl rfl ?_
    refine g_callV (i := 9) (ci := 4) (nA := 0) (Cn := RX3) (As := []) B (CtO.g (c_X3_thrown hl)) EXl.gp carrGP (fun cA => ws_at (cnt_fix (by decide))) rfl rfl mw_167 mw_164 mw_165 mw_166 mw_5 (by decide +kernel) (by decide) rfl rfl (Nat.le_of_ble_eq_true rfl) dL_law__1500 ⟨by show _ + 0 ≤ 601024; omega, by show _ + 0 ≤ 7293034; omega⟩ (fun _ _ h => absurd h.1 (fun z => by cases z)) (fun v u hvu => ?_)
    obtain ⟨hv, rfl⟩ := hvu
    cases hv
    refine g_iload (j := 1) B dL_law__1503 rfl ?_
    refine g_icmp_eq (tgt := 1510) B dL_law__1505 (by decide) (fun _ => ?_) (fun h => absurd hcode h)
    refine g_iload (j := 1) B dL_law__1510 rfl ?_
    have hend : ∀ J2, G Ξ (wsd n ρ J2 M2) (a + 13) (b + 78) 1534 [(6, .int x2), (5, .int (cdo [IX] o)), (4, .int (nI (4 * c))), (0, .ref bs), (1, .ref (ρ 0)), (2, .ref (ρ 9)), (3, .ref (ρ 8))] [] := fun J2 => by
      refine g_goto (tgt := 2116) B dL_law__1534 (by decide) ?_
      refine g_sub [2, 3, 4, 5, 6] rfl ?_
      exact hnext _ _ hS
    refine g_if_ne (tgt := 1534) B dL_law__1512 (by decide) (fun _ => hend _) (fun h0 => ?_)
    rcases ho with ⟨x0, N, rfl⟩ | ⟨Ey, N, hE, rfl⟩
    · have hx2 : x0 = x2 := hval x0 N rfl
      subst hx2
      refine g_aload_n (j := 6) B dL_law__1515 rfl rfl ?_
      refine g_iconst (v := 0) B dL_law__1516 (by decide) ?_
      refine g_lald (N := 1) (f := (Jb J (rI x0 N))) 8 B (fun cA => ws_at (cnt_fix (by decide))) (vp_in_nI (n := 0) (by decide) (by decide)) dL_law__1517 ?_
      refine g_iload (j := 0) B dL_law__1518 rfl ?_
      refine g_if_eq (tgt := 1527) B dL_law__1520 (by decide) (fun hq => ?_) (fun hq => ?_)
      · refine g_lconst (v := 0) B dL_law__1527 (by decide) ?_
        refine g_lcmp B dL_law__1528 ?_
        rw [show (Jb J (rI x0 N)) (0 : Int32).toNatClampNeg = 0 by show (if x0 = 0 then (0 : Int64) else 1) = 0; rw [if_pos hq], lcmp_self]
        exact g_if_eq (tgt := 1534) B dL_law__1529 (by decide) (fun _ => hend _) (fun h => absurd rfl h)
      · refine g_lconst (v := 1) B dL_law__1523 (by decide) ?_
        refine g_goto (tgt := 1528) B dL_law__1524 (by decide) ?_
        refine g_lcmp B dL_law__1528 ?_
        rw [show (Jb J (rI x0 N)) (0 : Int32).toNatClampNeg = 1 by show (if x0 = 0 then (0 : Int64) else 1) = 1; rw [if_neg hq], lcmp_self]
        exact g_if_eq (tgt := 1534) B dL_law__1529 (by decide) (fun _ => hend _) (fun h => absurd rfl h)
    · exact absurd h0 (cdo_ne (by decide) hE)
  · obtain ⟨h, mc, ms, h2, o, x2, M2, hc1, hh, hmc, hms, ho, hm1, hh2, hcode, hval, hS⟩ := hp (xs (4 * c + 1)) 1 (Or.inr rfl)
    refine g_aload_n (j := 2) B dL_law__1446 rfl rfl ?_
    refine g_aload_n (j := 1) B dL_law__1447 rfl rfl ?_
    refine g_iload (j := 0) B dL_law__1448 rfl ?_
    refine g_iconst (v := 1) B dL_law__1450 (by decide) ?_
    refine g_iadd B dL_law__1451 ?_
    refine g_sld (4 * c + 1) B (nI_add (4 * c) 1) (by omega) (by omega) dL_law__1452 ?_
    refine g_aload_n (j := 1) B dL_law__1453 rfl rfl ?_
    refine g_iload (j := 0) B dL_law__1454 rfl ?_
    refine g_iconst (v := 2) B dL_law__1456 (by decide) ?_
    refine g_iadd B dL_law__1457 ?_
    refine g_sld (4 * c + 2) B (nI_add (4 * c) 2) (by omega) (by omega) dL_law__1458 ?_
    refine g_if_eq (tgt := 1466) B dL_law__1459 (by decide) (fun h => absurd h hz) (fun _ => ?_)
    refine g_iconst (v := 1) B dL_law__1462 (by decide) ?_
    refine g_goto (tgt := 1467) B dL_law__1463 (by decide) ?_
    refine g_aload_n (j := 4) B dL_law__1467 rfl rfl ?_
    refine g_callSX (nA := 4) (As := [.ref (ρ 0), .int (xs (4 * c + 1)), .int 1, .ref (ρ 8)]) B (w_vote hl (hc1 ρ J) hh hmc hms ho) EXl.e EXe.carr (gw_goodS mw_600 mw_598 mw_599 mw_77) mw_77 (by decide +kernel) ⟨(Nat.le_of_ble_eq_true rfl), (Nat.le_of_ble_eq_true rfl)⟩ rfl rfl (Nat.le_of_ble_eq_true rfl) dL_law__1468 ⟨by show a + 13 ≤ 601024; omega, by show b + 78 ≤ 7293034; omega⟩ (fun _ _ h => h.elim) (fun v u hvu => ?_)
    obtain ⟨rfl, rfl⟩ := hvu
    refine g_istore (ls2 := [(5, .int (cdo [IX] o)), (4, .int (nI (4 * c))), (0, .ref bs), (1, .ref (ρ 0)), (2, .ref (ρ 9)), (3, .ref (ρ 8))]) B hnL dL_law__1471 (by decide) rfl ?_
    refine g_aload_n (j := 4) B dL_law__1473 rfl rfl ?_
    refine g_aload_n (j := 2) B dL_law__1474 rfl rfl ?_
    refine g_iload (j := 1) B dL_law__1475 rfl ?_
    refine g_iconst (v := 1) B dL_law__1477 (by decide) ?_
    refine g_iadd B dL_law__1478 ?_
    refine g_sld (4 * c + 1) B (nI_add (4 * c) 1) (by omega) (by omega) dL_law__1479 ?_
    refine g_aload_n (j := 2) B dL_law__1480 rfl rfl ?_
    refine g_iload (j := 1) B dL_law__1481 rfl ?_
    refine g_iconst (v := 2) B dL_law__1483 (by decide) ?_
    refine g_iadd B dL_law__1484 ?_
    refine g_sld (4 * c + 2) B (nI_add (4 * c) 2) (by omega) (by omega) dL_law__1485 ?_
    refine g_if_eq (tgt := 1493) B dL_law__1486 (by decide) (fun h => absurd h hz) (fun _ => ?_)
    refine g_iconst (v := 1) B dL_law__1489 (by decide) ?_
    refine g_goto (tgt := 1494) B dL_law__1490 (by decide) ?_
    refine g_callV (i := 9) (ci := 4) (nA := 2) (Cn := RX3) (As := [.int (xs (4 * c + 1)), .int 1]) B (CtO.g (hm1 ρ (Jb J o))) EXl.gp carrGP (fun cA => ws_at (cnt_fix (by decide))) rfl rfl mw_609 mw_606 mw_607 mw_608 mw_5 (by decide +kernel) ⟨by show h2 + 1 ≤ 13; omega, by show 8 + (4 + 11) + (30 * h2 + 60) ≤ 474; omega⟩ rfl rfl (Nat.le_of_ble_eq_true rfl) dL_law__1494 ⟨by show _ + 0 ≤ 601024; omega, by show _ + 0 ≤ 7293034; omega⟩ (fun _ _ h => absurd h.1 (fun z => by cases z)) (fun v u hvu => ?_)
    obtain ⟨hv, rfl⟩ := hvu
    cases hv
    refine g_istore (ls2 := [(6, .int x2), (5, .int (cdo [IX] o)), (4, .int (nI (4 * c))), (0, .ref bs), (1, .ref (ρ 0)), (2, .ref (ρ 9)), (3, .ref (ρ 8))]) B hnL dL_law__1497 (by decide) rfl ?_
    refine g_aload_n (j := 5) B dL_law__1499 rfl rfl ?_
    refine g_callV (i := 9) (ci := 4) (nA := 0) (Cn := RX3) (As := []) B (CtO.g (c_X3_thrown hl)) EXl.gp carrGP (fun cA => ws_at (cnt_fix (by decide))) rfl rfl mw_167 mw_164 mw_165 mw_166 mw_5 (by decide +kernel) (by decide) rfl rfl (Nat.le_of_ble_eq_true rfl) dL_law__1500 ⟨by show _ + 0 ≤ 601024; omega, by show _ + 0 ≤ 7293034; omega⟩ (fun _ _ h => absurd h.1 (fun z => by cases z)) (fun v u hvu => ?_)
    obtain ⟨hv, rfl⟩ := hvu
    cases hv
    refine g_iload (j := 1) B dL_law__1503 rfl ?_
    refine g_icmp_eq (tgt := 1510) B dL_law__1505 (by decide) (fun _ => ?_) (fun h => absurd hcode h)
    refine g_iload (j := 1) B dL_law__1510 rfl ?_
    have hend : ∀ J2, G Ξ (wsd n ρ J2 M2) (a + 13) (b + 78) 1534 [(6, .int x2), (5, .int (cdo [IX] o)), (4, .int (nI (4 * c))), (0, .ref bs), (1, .ref (ρ 0)), (2, .ref (ρ 9)), (3, .ref (ρ 8))] [] := fun J2 => by
      refine g_goto (tgt := 2116) B dL_law__1534 (by decide) ?_
      refine g_sub [2, 3, 4, 5, 6] rfl ?_
      exact hnext _ _ hS
    refine g_if_ne (tgt := 1534) B dL_law__1512 (by decide) (fun _ => hend _) (fun h0 => ?_)
    rcases ho with ⟨x0, N, rfl⟩ | ⟨Ey, N, hE, rfl⟩
    · have hx2 : x0 = x2 := hval x0 N rfl
      subst hx2
      refine g_aload_n (j := 6) B dL_law__1515 rfl rfl ?_
      refine g_iconst (v := 0) B dL_law__1516 (by decide) ?_
      refine g_lald (N := 1) (f := (Jb J (rI x0 N))) 8 B (fun cA => ws_at (cnt_fix (by decide))) (vp_in_nI (n := 0) (by decide) (by decide)) dL_law__1517 ?_
      refine g_iload (j := 0) B dL_law__1518 rfl ?_
      refine g_if_eq (tgt := 1527) B dL_law__1520 (by decide) (fun hq => ?_) (fun hq => ?_)
      · refine g_lconst (v := 0) B dL_law__1527 (by decide) ?_
        refine g_lcmp B dL_law__1528 ?_
        rw [show (Jb J (rI x0 N)) (0 : Int32).toNatClampNeg = 0 by show (if x0 = 0 then (0 : Int64) else 1) = 0; rw [if_pos hq], lcmp_self]
        exact g_if_eq (tgt := 1534) B dL_law__1529 (by decide) (fun _ => hend _) (fun h => absurd rfl h)
      · refine g_lconst (v := 1) B dL_law__1523 (by decide) ?_
        refine g_goto (tgt := 1528) B dL_law__1524 (by decide) ?_
        refine g_lcmp B dL_law__1528 ?_
        rw [show (Jb J (rI x0 N)) (0 : Int32).toNatClampNeg = 1 by show (if x0 = 0 then (0 : Int64) else 1) = 1; rw [if_neg hq], lcmp_self]
        exact g_if_eq (tgt := 1534) B dL_law__1529 (by decide) (fun _ => hend _) (fun h => absurd rfl h)
    · exact absurd h0 (cdo_ne (by decide) hE)
set_option maxRecDepth 100000 in
set_option maxHeartbeats 4000000 in
theorem lc_22 {l : Launch} (hl : l.stackTraces = false) {mn : String} {e bs L : Nat} {xs : Nat → Int32} {tb : List ExceptionTableEntry} {Ξ : CT} (hnL : Ξ.2.2.2.2.2.2 = 7) (B : CB (EXl e bs L xs) l room_1 cL_law_ RL mn tb Ξ) {S : Nat → Nat → Mem → Prop} {c n : Nat} {ρ : Nat → Nat} {J : Nat → Int64} {M : Mem} {a b : Nat} (hc : 4 * c + 4 ≤ L) (hL : L ≤ 2048) (ha : a + 13 ≤ 601024) (hb : b + 78 ≤ 7293034) (hp : PrI l S yX2_strike cX2_strike 1 (some .boolean) yX3_strike cX3_strike 3 (some .boolean) [IS] c n M []) (hnext : ∀ (J' : Nat → Int64) (M' : Mem), S (c + 1) n M' → G Ξ (wsd n ρ J' M') (a + 13) (b + 78) 2116 [(4, .int (nI (4 * c))), (0, .ref bs), (1, .ref (ρ 0)), (2, .ref (ρ 9)), (3, .ref (ρ 8))] []) : G Ξ (wsd n ρ J M) a b 1537 [(4, .int (nI (4 * c))), (0, .ref bs), (1, .ref (ρ 0)), (2, .ref (ρ 9)), (3, .ref (ρ 8))] [] := by
  obtain ⟨h, mc, ms, h2, o, x2, M2, hc1, hh, hmc, hms, ho, hm1, hh2, hcode, hval, hS⟩ := hp 
  refine g_aload_n (j := 2) B dL_law__1537 rfl rfl ?_
  refine g_aload_n (j := 4) B dL_law__1538 rfl rfl ?_
  refine g_callSX (nA := 2) (As := [.ref (ρ 0), .ref (ρ 8)]) B (w_strike hl (hc1 ρ J) hh hmc hms ho) EXl.e EXe.carr (gw_goodS mw_612 mw_610 mw_611 mw_77) mw_77 (by decide +kernel) ⟨(Nat.le_of_ble_eq_true rfl), (Nat.le_of_ble_eq_true rfl)⟩ rfl rfl (Nat.le_of_ble_eq_true rfl) dL_law__1539 ⟨by show a + 13 ≤ 601024; omega, by show b + 78 ≤ 7293034; omega⟩ (fun _ _ h => h.elim) (fun v u hvu => ?_)
  obtain ⟨rfl, rfl⟩ := hvu
  refine g_istore (ls2 := [(5, .int (cdo [IS] o)), (4, .int (nI (4 * c))), (0, .ref bs), (1, .ref (ρ 0)), (2, .ref (ρ 9)), (3, .ref (ρ 8))]) B hnL dL_law__1542 (by decide) rfl ?_
  refine g_aload_n (j := 4) B dL_law__1544 rfl rfl ?_
  refine g_callV (i := 9) (ci := 4) (nA := 0) (Cn := RX3) (As := []) B (CtO.g (hm1 ρ (Jb J o))) EXl.gp carrGP (fun cA => ws_at (cnt_fix (by decide))) rfl rfl mw_624 mw_621 mw_622 mw_623 mw_5 (by decide +kernel) ⟨by show h2 + 1 ≤ 13; omega, by show 8 + (3 + 11) + (30 * h2 + 60) ≤ 474; omega⟩ rfl rfl (Nat.le_of_ble_eq_true rfl) dL_law__1545 ⟨by show _ + 0 ≤ 601024; omega, by show _ + 0 ≤ 7293034; omega⟩ (fun _ _ h => absurd h.1 (fun z => by cases z)) (fun v u hvu => ?_)
  obtain ⟨hv, rfl⟩ := hvu
  cases hv
  refine g_istore (ls2 := [(6, .int x2), (5, .int (cdo [IS] o)), (4, .int (nI (4 * c))), (0, .ref bs), (1, .ref (ρ 0)), (2, .ref (ρ 9)), (3, .ref (ρ 8))]) B hnL dL_law__1548 (by decide) rfl ?_
  refine g_aload_n (j := 5) B dL_law__1550 rfl rfl ?_
  refine g_callV (i := 9) (ci := 4) (nA := 0) (Cn := RX3) (As := []) B (CtO.g (c_X3_thrown hl)) EXl.gp carrGP (fun cA => ws_at (cnt_fix (by decide))) rfl rfl mw_167 mw_164 mw_165 mw_166 mw_5 (by decide +kernel) (by decide) rfl rfl (Nat.le_of_ble_eq_true rfl) dL_law__1551 ⟨by show _ + 0 ≤ 601024; omega, by show _ + 0 ≤ 7293034; omega⟩ (fun _ _ h => absurd h.1 (fun z => by cases z)) (fun v u hvu => ?_)
  obtain ⟨hv, rfl⟩ := hvu
  cases hv
  refine g_iload (j := 1) B dL_law__1554 rfl ?_
  refine g_icmp_eq (tgt := 1561) B dL_law__1556 (by decide) (fun _ => ?_) (fun h => absurd hcode h)
  refine g_iload (j := 1) B dL_law__1561 rfl ?_
  have hend : ∀ J2, G Ξ (wsd n ρ J2 M2) (a + 13) (b + 78) 1585 [(6, .int x2), (5, .int (cdo [IS] o)), (4, .int (nI (4 * c))), (0, .ref bs), (1, .ref (ρ 0)), (2, .ref (ρ 9)), (3, .ref (ρ 8))] [] := fun J2 => by
    refine g_goto (tgt := 2116) B dL_law__1585 (by decide) ?_
    refine g_sub [2, 3, 4, 5, 6] rfl ?_
    exact hnext _ _ hS
  refine g_if_ne (tgt := 1585) B dL_law__1563 (by decide) (fun _ => hend _) (fun h0 => ?_)
  rcases ho with ⟨x0, N, rfl⟩ | ⟨Ey, N, hE, rfl⟩
  · have hx2 : x0 = x2 := hval x0 N rfl
    subst hx2
    refine g_aload_n (j := 6) B dL_law__1566 rfl rfl ?_
    refine g_iconst (v := 0) B dL_law__1567 (by decide) ?_
    refine g_lald (N := 1) (f := (Jb J (rI x0 N))) 8 B (fun cA => ws_at (cnt_fix (by decide))) (vp_in_nI (n := 0) (by decide) (by decide)) dL_law__1568 ?_
    refine g_iload (j := 0) B dL_law__1569 rfl ?_
    refine g_if_eq (tgt := 1578) B dL_law__1571 (by decide) (fun hq => ?_) (fun hq => ?_)
    · refine g_lconst (v := 0) B dL_law__1578 (by decide) ?_
      refine g_lcmp B dL_law__1579 ?_
      rw [show (Jb J (rI x0 N)) (0 : Int32).toNatClampNeg = 0 by show (if x0 = 0 then (0 : Int64) else 1) = 0; rw [if_pos hq], lcmp_self]
      exact g_if_eq (tgt := 1585) B dL_law__1580 (by decide) (fun _ => hend _) (fun h => absurd rfl h)
    · refine g_lconst (v := 1) B dL_law__1574 (by decide) ?_
      refine g_goto (tgt := 1579) B dL_law__1575 (by decide) ?_
      refine g_lcmp B dL_law__1579 ?_
      rw [show (Jb J (rI x0 N)) (0 : Int32).toNatClampNeg = 1 by show (if x0 = 0 then (0 : Int64) else 1) = 1; rw [if_neg hq], lcmp_self]
      exact g_if_eq (tgt := 1585) B dL_law__1580 (by decide) (fun _ => hend _) (fun h => absurd rfl h)
  · exact absurd h0 (cdo_ne (by decide) hE)
set_option maxRecDepth 100000 in
set_option maxHeartbeats 4000000 in
theorem lc_23 {l : Launch} (hl : l.stackTraces = false) {mn : String} {e bs L : Nat} {xs : Nat → Int32} {tb : List ExceptionTableEntry} {Ξ : CT} (hnL : Ξ.2.2.2.2.2.2 = 7) (B : CB (EXl e bs L xs) l room_1 cL_law_ RL mn tb Ξ) {S : Nat → Nat → Mem → Prop} {c n : Nat} {ρ : Nat → Nat} {J : Nat → Int64} {M : Mem} {a b : Nat} (hc : 4 * c + 4 ≤ L) (hL : L ≤ 2048) (ha : a + 13 ≤ 601024) (hb : b + 78 ≤ 7293034) (hp : ∀ x : Int32, PrI l S yX2_give cX2_give 2 (some .int) yX3_give cX3_give 2 (some .int) [IA] c n M [.int x]) (hnext : ∀ (J' : Nat → Int64) (M' : Mem), S (c + 1) n M' → G Ξ (wsd n ρ J' M') (a + 13) (b + 78) 2116 [(4, .int (nI (4 * c))), (0, .ref bs), (1, .ref (ρ 0)), (2, .ref (ρ 9)), (3, .ref (ρ 8))] []) : G Ξ (wsd n ρ J M) a b 1588 [(4, .int (nI (4 * c))), (0, .ref bs), (1, .ref (ρ 0)), (2, .ref (ρ 9)), (3, .ref (ρ 8))] [] := by
  obtain ⟨h, mc, ms, h2, o, x2, M2, hc1, hh, hmc, hms, ho, hm1, hh2, hcode, hval, hS⟩ := hp (xs (4 * c + 1))
  refine g_aload_n (j := 2) B dL_law__1588 rfl rfl ?_
  refine g_aload_n (j := 1) B dL_law__1589 rfl rfl ?_
  refine g_iload (j := 0) B dL_law__1590 rfl ?_
  refine g_iconst (v := 1) B dL_law__1592 (by decide) ?_
  refine g_iadd B dL_law__1593 ?_
  refine g_sld (4 * c + 1) B (nI_add (4 * c) 1) (by omega) (by omega) dL_law__1594 ?_
  refine g_aload_n (j := 4) B dL_law__1595 rfl rfl ?_
  refine g_callSX (nA := 3) (As := [.ref (ρ 0), .int (xs (4 * c + 1)), .ref (ρ 8)]) B (w_give hl (hc1 ρ J) hh hmc hms ho) EXl.e EXe.carr (gw_goodS mw_627 mw_625 mw_626 mw_77) mw_77 (by decide +kernel) ⟨(Nat.le_of_ble_eq_true rfl), (Nat.le_of_ble_eq_true rfl)⟩ rfl rfl (Nat.le_of_ble_eq_true rfl) dL_law__1596 ⟨by show a + 13 ≤ 601024; omega, by show b + 78 ≤ 7293034; omega⟩ (fun _ _ h => h.elim) (fun v u hvu => ?_)
  obtain ⟨rfl, rfl⟩ := hvu
  refine g_istore (ls2 := [(5, .int (cdo [IA] o)), (4, .int (nI (4 * c))), (0, .ref bs), (1, .ref (ρ 0)), (2, .ref (ρ 9)), (3, .ref (ρ 8))]) B hnL dL_law__1599 (by decide) rfl ?_
  refine g_aload_n (j := 4) B dL_law__1601 rfl rfl ?_
  refine g_aload_n (j := 2) B dL_law__1602 rfl rfl ?_
  refine g_iload (j := 1) B dL_law__1603 rfl ?_
  refine g_iconst (v := 1) B dL_law__1605 (by decide) ?_
  refine g_iadd B dL_law__1606 ?_
  refine g_sld (4 * c + 1) B (nI_add (4 * c) 1) (by omega) (by omega) dL_law__1607 ?_
  refine g_callV (i := 9) (ci := 4) (nA := 1) (Cn := RX3) (As := [.int (xs (4 * c + 1))]) B (CtO.g (hm1 ρ (Jn J o))) EXl.gp carrGP (fun cA => ws_at (cnt_fix (by decide))) rfl rfl mw_636 mw_633 mw_634 mw_635 mw_5 (by decide +kernel) ⟨by show h2 + 1 ≤ 13; omega, by show 8 + (2 + 11) + (30 * h2 + 60) ≤ 474; omega⟩ rfl rfl (Nat.le_of_ble_eq_true rfl) dL_law__1608 ⟨by show _ + 0 ≤ 601024; omega, by show _ + 0 ≤ 7293034; omega⟩ (fun _ _ h => absurd h.1 (fun z => by cases z)) (fun v u hvu => ?_)
  obtain ⟨hv, rfl⟩ := hvu
  cases hv
  refine g_istore (ls2 := [(6, .int x2), (5, .int (cdo [IA] o)), (4, .int (nI (4 * c))), (0, .ref bs), (1, .ref (ρ 0)), (2, .ref (ρ 9)), (3, .ref (ρ 8))]) B hnL dL_law__1611 (by decide) rfl ?_
  refine g_aload_n (j := 5) B dL_law__1613 rfl rfl ?_
  refine g_callV (i := 9) (ci := 4) (nA := 0) (Cn := RX3) (As := []) B (CtO.g (c_X3_thrown hl)) EXl.gp carrGP (fun cA => ws_at (cnt_fix (by decide))) rfl rfl mw_167 mw_164 mw_165 mw_166 mw_5 (by decide +kernel) (by decide) rfl rfl (Nat.le_of_ble_eq_true rfl) dL_law__1614 ⟨by show _ + 0 ≤ 601024; omega, by show _ + 0 ≤ 7293034; omega⟩ (fun _ _ h => absurd h.1 (fun z => by cases z)) (fun v u hvu => ?_)
  obtain ⟨hv, rfl⟩ := hvu
  cases hv
  refine g_iload (j := 1) B dL_law__1617 rfl ?_
  refine g_icmp_eq (tgt := 1624) B dL_law__1619 (by decide) (fun _ => ?_) (fun h => absurd hcode h)
  refine g_iload (j := 1) B dL_law__1624 rfl ?_
  have hend : ∀ J2, G Ξ (wsd n ρ J2 M2) (a + 13) (b + 78) 1641 [(6, .int x2), (5, .int (cdo [IA] o)), (4, .int (nI (4 * c))), (0, .ref bs), (1, .ref (ρ 0)), (2, .ref (ρ 9)), (3, .ref (ρ 8))] [] := fun J2 => by
    refine g_goto (tgt := 2116) B dL_law__1641 (by decide) ?_
    refine g_sub [2, 3, 4, 5, 6] rfl ?_
    exact hnext _ _ hS
  refine g_if_ne (tgt := 1641) B dL_law__1626 (by decide) (fun _ => hend _) (fun h0 => ?_)
  rcases ho with ⟨x0, N, rfl⟩ | ⟨Ey, N, hE, rfl⟩
  · have hx2 : x0 = x2 := hval x0 N rfl
    subst hx2
    refine g_aload_n (j := 6) B dL_law__1629 rfl rfl ?_
    refine g_iconst (v := 0) B dL_law__1630 (by decide) ?_
    refine g_lald (N := 1) (f := (Jn J (rI x0 N))) 8 B (fun cA => ws_at (cnt_fix (by decide))) (vp_in_nI (n := 0) (by decide) (by decide)) dL_law__1631 ?_
    refine g_iload (j := 0) B dL_law__1632 rfl ?_
    refine g_i2l B dL_law__1634 ?_
    refine g_lcmp B dL_law__1635 ?_
    rw [show (Jn J (rI x0 N)) (0 : Int32).toNatClampNeg = x0.toInt64 from rfl, lcmp_self]
    exact g_if_eq (tgt := 1641) B dL_law__1636 (by decide) (fun _ => hend _) (fun h => absurd rfl h)
  · exact absurd h0 (cdo_ne (by decide) hE)
set_option maxRecDepth 100000 in
set_option maxHeartbeats 4000000 in
theorem lc_24 {l : Launch} (hl : l.stackTraces = false) {mn : String} {e bs L : Nat} {xs : Nat → Int32} {tb : List ExceptionTableEntry} {Ξ : CT} (hnL : Ξ.2.2.2.2.2.2 = 7) (B : CB (EXl e bs L xs) l room_1 cL_law_ RL mn tb Ξ) {S : Nat → Nat → Mem → Prop} {c n : Nat} {ρ : Nat → Nat} {J : Nat → Int64} {M : Mem} {a b : Nat} (hc : 4 * c + 4 ≤ L) (hL : L ≤ 2048) (ha : a + 13 ≤ 601024) (hb : b + 78 ≤ 7293034) (hp : PrI l S yX2_soup cX2_soup 4 (some .int) yX3_soup cX3_soup 5 (some .int) [IS] c n M []) (hnext : ∀ (J' : Nat → Int64) (M' : Mem), S (c + 1) n M' → G Ξ (wsd n ρ J' M') (a + 13) (b + 78) 2116 [(4, .int (nI (4 * c))), (0, .ref bs), (1, .ref (ρ 0)), (2, .ref (ρ 9)), (3, .ref (ρ 8))] []) : G Ξ (wsd n ρ J M) a b 1644 [(4, .int (nI (4 * c))), (0, .ref bs), (1, .ref (ρ 0)), (2, .ref (ρ 9)), (3, .ref (ρ 8))] [] := by
  obtain ⟨h, mc, ms, h2, o, x2, M2, hc1, hh, hmc, hms, ho, hm1, hh2, hcode, hval, hS⟩ := hp 
  refine g_aload_n (j := 2) B dL_law__1644 rfl rfl ?_
  refine g_aload_n (j := 4) B dL_law__1645 rfl rfl ?_
  refine g_callSX (nA := 2) (As := [.ref (ρ 0), .ref (ρ 8)]) B (w_soup hl (hc1 ρ J) hh hmc hms ho) EXl.e EXe.carr (gw_goodS mw_640 mw_638 mw_639 mw_77) mw_77 (by decide +kernel) ⟨(Nat.le_of_ble_eq_true rfl), (Nat.le_of_ble_eq_true rfl)⟩ rfl rfl (Nat.le_of_ble_eq_true rfl) dL_law__1646 ⟨by show a + 13 ≤ 601024; omega, by show b + 78 ≤ 7293034; omega⟩ (fun _ _ h => h.elim) (fun v u hvu => ?_)
  obtain ⟨rfl, rfl⟩ := hvu
  refine g_istore (ls2 := [(5, .int (cdo [IS] o)), (4, .int (nI (4 * c))), (0, .ref bs), (1, .ref (ρ 0)), (2, .ref (ρ 9)), (3, .ref (ρ 8))]) B hnL dL_law__1649 (by decide) rfl ?_
  refine g_aload_n (j := 4) B dL_law__1651 rfl rfl ?_
  refine g_callV (i := 9) (ci := 4) (nA := 0) (Cn := RX3) (As := []) B (CtO.g (hm1 ρ (Jn J o))) EXl.gp carrGP (fun cA => ws_at (cnt_fix (by decide))) rfl rfl mw_652 mw_649 mw_650 mw_651 mw_5 (by decide +kernel) ⟨by show h2 + 1 ≤ 13; omega, by show 8 + (5 + 11) + (30 * h2 + 60) ≤ 474; omega⟩ rfl rfl (Nat.le_of_ble_eq_true rfl) dL_law__1652 ⟨by show _ + 0 ≤ 601024; omega, by show _ + 0 ≤ 7293034; omega⟩ (fun _ _ h => absurd h.1 (fun z => by cases z)) (fun v u hvu => ?_)
  obtain ⟨hv, rfl⟩ := hvu
  cases hv
  refine g_istore (ls2 := [(6, .int x2), (5, .int (cdo [IS] o)), (4, .int (nI (4 * c))), (0, .ref bs), (1, .ref (ρ 0)), (2, .ref (ρ 9)), (3, .ref (ρ 8))]) B hnL dL_law__1655 (by decide) rfl ?_
  refine g_aload_n (j := 5) B dL_law__1657 rfl rfl ?_
  refine g_callV (i := 9) (ci := 4) (nA := 0) (Cn := RX3) (As := []) B (CtO.g (c_X3_thrown hl)) EXl.gp carrGP (fun cA => ws_at (cnt_fix (by decide))) rfl rfl mw_167 mw_164 mw_165 mw_166 mw_5 (by decide +kernel) (by decide) rfl rfl (Nat.le_of_ble_eq_true rfl) dL_law__1658 ⟨by show _ + 0 ≤ 601024; omega, by show _ + 0 ≤ 7293034; omega⟩ (fun _ _ h => absurd h.1 (fun z => by cases z)) (fun v u hvu => ?_)
  obtain ⟨hv, rfl⟩ := hvu
  cases hv
  refine g_iload (j := 1) B dL_law__1661 rfl ?_
  refine g_icmp_eq (tgt := 1668) B dL_law__1663 (by decide) (fun _ => ?_) (fun h => absurd hcode h)
  refine g_iload (j := 1) B dL_law__1668 rfl ?_
  have hend : ∀ J2, G Ξ (wsd n ρ J2 M2) (a + 13) (b + 78) 1685 [(6, .int x2), (5, .int (cdo [IS] o)), (4, .int (nI (4 * c))), (0, .ref bs), (1, .ref (ρ 0)), (2, .ref (ρ 9)), (3, .ref (ρ 8))] [] := fun J2 => by
    refine g_goto (tgt := 2116) B dL_law__1685 (by decide) ?_
    refine g_sub [2, 3, 4, 5, 6] rfl ?_
    exact hnext _ _ hS
  refine g_if_ne (tgt := 1685) B dL_law__1670 (by decide) (fun _ => hend _) (fun h0 => ?_)
  rcases ho with ⟨x0, N, rfl⟩ | ⟨Ey, N, hE, rfl⟩
  · have hx2 : x0 = x2 := hval x0 N rfl
    subst hx2
    refine g_aload_n (j := 6) B dL_law__1673 rfl rfl ?_
    refine g_iconst (v := 0) B dL_law__1674 (by decide) ?_
    refine g_lald (N := 1) (f := (Jn J (rI x0 N))) 8 B (fun cA => ws_at (cnt_fix (by decide))) (vp_in_nI (n := 0) (by decide) (by decide)) dL_law__1675 ?_
    refine g_iload (j := 0) B dL_law__1676 rfl ?_
    refine g_i2l B dL_law__1678 ?_
    refine g_lcmp B dL_law__1679 ?_
    rw [show (Jn J (rI x0 N)) (0 : Int32).toNatClampNeg = x0.toInt64 from rfl, lcmp_self]
    exact g_if_eq (tgt := 1685) B dL_law__1680 (by decide) (fun _ => hend _) (fun h => absurd rfl h)
  · exact absurd h0 (cdo_ne (by decide) hE)
set_option maxRecDepth 100000 in
set_option maxHeartbeats 4000000 in
theorem lc_25 {l : Launch} (hl : l.stackTraces = false) {mn : String} {e bs L : Nat} {xs : Nat → Int32} {tb : List ExceptionTableEntry} {Ξ : CT} (hnL : Ξ.2.2.2.2.2.2 = 7) (B : CB (EXl e bs L xs) l room_1 cL_law_ RL mn tb Ξ) {S : Nat → Nat → Mem → Prop} {c n : Nat} {ρ : Nat → Nat} {J : Nat → Int64} {M : Mem} {a b : Nat} (hc : 4 * c + 4 ≤ L) (hL : L ≤ 2048) (ha : a + 13 ≤ 601024) (hb : b + 78 ≤ 7293034) (hp : ∀ x : Int32, PrI l S yX2_close cX2_close 4 (some .int) yX3_close cX3_close 4 (some .int) [IA, IS] c n M [.int x]) (hnext : ∀ (J' : Nat → Int64) (M' : Mem), S (c + 1) n M' → G Ξ (wsd n ρ J' M') (a + 13) (b + 78) 2116 [(4, .int (nI (4 * c))), (0, .ref bs), (1, .ref (ρ 0)), (2, .ref (ρ 9)), (3, .ref (ρ 8))] []) : G Ξ (wsd n ρ J M) a b 1688 [(4, .int (nI (4 * c))), (0, .ref bs), (1, .ref (ρ 0)), (2, .ref (ρ 9)), (3, .ref (ρ 8))] [] := by
  obtain ⟨h, mc, ms, h2, o, x2, M2, hc1, hh, hmc, hms, ho, hm1, hh2, hcode, hval, hS⟩ := hp (xs (4 * c + 1))
  refine g_aload_n (j := 2) B dL_law__1688 rfl rfl ?_
  refine g_aload_n (j := 1) B dL_law__1689 rfl rfl ?_
  refine g_iload (j := 0) B dL_law__1690 rfl ?_
  refine g_iconst (v := 1) B dL_law__1692 (by decide) ?_
  refine g_iadd B dL_law__1693 ?_
  refine g_sld (4 * c + 1) B (nI_add (4 * c) 1) (by omega) (by omega) dL_law__1694 ?_
  refine g_aload_n (j := 4) B dL_law__1695 rfl rfl ?_
  refine g_callSX (nA := 3) (As := [.ref (ρ 0), .int (xs (4 * c + 1)), .ref (ρ 8)]) B (w_close hl (hc1 ρ J) hh hmc hms ho) EXl.e EXe.carr (gw_goodS mw_655 mw_653 mw_654 mw_77) mw_77 (by decide +kernel) ⟨(Nat.le_of_ble_eq_true rfl), (Nat.le_of_ble_eq_true rfl)⟩ rfl rfl (Nat.le_of_ble_eq_true rfl) dL_law__1696 ⟨by show a + 13 ≤ 601024; omega, by show b + 78 ≤ 7293034; omega⟩ (fun _ _ h => h.elim) (fun v u hvu => ?_)
  obtain ⟨rfl, rfl⟩ := hvu
  refine g_istore (ls2 := [(5, .int (cdo [IA, IS] o)), (4, .int (nI (4 * c))), (0, .ref bs), (1, .ref (ρ 0)), (2, .ref (ρ 9)), (3, .ref (ρ 8))]) B hnL dL_law__1699 (by decide) rfl ?_
  refine g_aload_n (j := 4) B dL_law__1701 rfl rfl ?_
  refine g_aload_n (j := 2) B dL_law__1702 rfl rfl ?_
  refine g_iload (j := 1) B dL_law__1703 rfl ?_
  refine g_iconst (v := 1) B dL_law__1705 (by decide) ?_
  refine g_iadd B dL_law__1706 ?_
  refine g_sld (4 * c + 1) B (nI_add (4 * c) 1) (by omega) (by omega) dL_law__1707 ?_
  refine g_callV (i := 9) (ci := 4) (nA := 1) (Cn := RX3) (As := [.int (xs (4 * c + 1))]) B (CtO.g (hm1 ρ (Jn J o))) EXl.gp carrGP (fun cA => ws_at (cnt_fix (by decide))) rfl rfl mw_667 mw_664 mw_665 mw_666 mw_5 (by decide +kernel) ⟨by show h2 + 1 ≤ 13; omega, by show 8 + (4 + 11) + (30 * h2 + 60) ≤ 474; omega⟩ rfl rfl (Nat.le_of_ble_eq_true rfl) dL_law__1708 ⟨by show _ + 0 ≤ 601024; omega, by show _ + 0 ≤ 7293034; omega⟩ (fun _ _ h => absurd h.1 (fun z => by cases z)) (fun v u hvu => ?_)
  obtain ⟨hv, rfl⟩ := hvu
  cases hv
  refine g_istore (ls2 := [(6, .int x2), (5, .int (cdo [IA, IS] o)), (4, .int (nI (4 * c))), (0, .ref bs), (1, .ref (ρ 0)), (2, .ref (ρ 9)), (3, .ref (ρ 8))]) B hnL dL_law__1711 (by decide) rfl ?_
  refine g_aload_n (j := 5) B dL_law__1713 rfl rfl ?_
  refine g_callV (i := 9) (ci := 4) (nA := 0) (Cn := RX3) (As := []) B (CtO.g (c_X3_thrown hl)) EXl.gp carrGP (fun cA => ws_at (cnt_fix (by decide))) rfl rfl mw_167 mw_164 mw_165 mw_166 mw_5 (by decide +kernel) (by decide) rfl rfl (Nat.le_of_ble_eq_true rfl) dL_law__1714 ⟨by show _ + 0 ≤ 601024; omega, by show _ + 0 ≤ 7293034; omega⟩ (fun _ _ h => absurd h.1 (fun z => by cases z)) (fun v u hvu => ?_)
  obtain ⟨hv, rfl⟩ := hvu
  cases hv
  refine g_iload (j := 1) B dL_law__1717 rfl ?_
  refine g_icmp_eq (tgt := 1724) B dL_law__1719 (by decide) (fun _ => ?_) (fun h => absurd hcode h)
  refine g_iload (j := 1) B dL_law__1724 rfl ?_
  have hend : ∀ J2, G Ξ (wsd n ρ J2 M2) (a + 13) (b + 78) 1741 [(6, .int x2), (5, .int (cdo [IA, IS] o)), (4, .int (nI (4 * c))), (0, .ref bs), (1, .ref (ρ 0)), (2, .ref (ρ 9)), (3, .ref (ρ 8))] [] := fun J2 => by
    refine g_goto (tgt := 2116) B dL_law__1741 (by decide) ?_
    refine g_sub [2, 3, 4, 5, 6] rfl ?_
    exact hnext _ _ hS
  refine g_if_ne (tgt := 1741) B dL_law__1726 (by decide) (fun _ => hend _) (fun h0 => ?_)
  rcases ho with ⟨x0, N, rfl⟩ | ⟨Ey, N, hE, rfl⟩
  · have hx2 : x0 = x2 := hval x0 N rfl
    subst hx2
    refine g_aload_n (j := 6) B dL_law__1729 rfl rfl ?_
    refine g_iconst (v := 0) B dL_law__1730 (by decide) ?_
    refine g_lald (N := 1) (f := (Jn J (rI x0 N))) 8 B (fun cA => ws_at (cnt_fix (by decide))) (vp_in_nI (n := 0) (by decide) (by decide)) dL_law__1731 ?_
    refine g_iload (j := 0) B dL_law__1732 rfl ?_
    refine g_i2l B dL_law__1734 ?_
    refine g_lcmp B dL_law__1735 ?_
    rw [show (Jn J (rI x0 N)) (0 : Int32).toNatClampNeg = x0.toInt64 from rfl, lcmp_self]
    exact g_if_eq (tgt := 1741) B dL_law__1736 (by decide) (fun _ => hend _) (fun h => absurd rfl h)
  · exact absurd h0 (cdo_ne (by decide) hE)
set_option maxRecDepth 100000 in
set_option maxHeartbeats 4000000 in
theorem lc_26 {l : Launch} (hl : l.stackTraces = false) {mn : String} {e bs L : Nat} {xs : Nat → Int32} {tb : List ExceptionTableEntry} {Ξ : CT} (hnL : Ξ.2.2.2.2.2.2 = 7) (B : CB (EXl e bs L xs) l room_1 cL_law_ RL mn tb Ξ) {S : Nat → Nat → Mem → Prop} {c n : Nat} {ρ : Nat → Nat} {J : Nat → Int64} {M : Mem} {a b : Nat} (hc : 4 * c + 4 ≤ L) (hL : L ≤ 2048) (ha : a + 13 ≤ 601024) (hb : b + 78 ≤ 7293034) (hp : ∀ x y : Int32, PrI l S yX2_about cX2_about 4 (some .int) yX3_about cX3_about 3 (some .int) [IX, IA] c n M [.int x, .int y]) (hnext : ∀ (J' : Nat → Int64) (M' : Mem), S (c + 1) n M' → G Ξ (wsd n ρ J' M') (a + 13) (b + 78) 2116 [(4, .int (nI (4 * c))), (0, .ref bs), (1, .ref (ρ 0)), (2, .ref (ρ 9)), (3, .ref (ρ 8))] []) : G Ξ (wsd n ρ J M) a b 1744 [(4, .int (nI (4 * c))), (0, .ref bs), (1, .ref (ρ 0)), (2, .ref (ρ 9)), (3, .ref (ρ 8))] [] := by
  obtain ⟨h, mc, ms, h2, o, x2, M2, hc1, hh, hmc, hms, ho, hm1, hh2, hcode, hval, hS⟩ := hp (xs (4 * c + 1)) (xs (4 * c + 2))
  refine g_aload_n (j := 2) B dL_law__1744 rfl rfl ?_
  refine g_aload_n (j := 1) B dL_law__1745 rfl rfl ?_
  refine g_iload (j := 0) B dL_law__1746 rfl ?_
  refine g_iconst (v := 1) B dL_law__1748 (by decide) ?_
  refine g_iadd B dL_law__1749 ?_
  refine g_sld (4 * c + 1) B (nI_add (4 * c) 1) (by omega) (by omega) dL_law__1750 ?_
  refine g_aload_n (j := 1) B dL_law__1751 rfl rfl ?_
  refine g_iload (j := 0) B dL_law__1752 rfl ?_
  refine g_iconst (v := 2) B dL_law__1754 (by decide) ?_
  refine g_iadd B dL_law__1755 ?_
  refine g_sld (4 * c + 2) B (nI_add (4 * c) 2) (by omega) (by omega) dL_law__1756 ?_
  refine g_aload_n (j := 4) B dL_law__1757 rfl rfl ?_
  refine g_callSX (nA := 4) (As := [.ref (ρ 0), .int (xs (4 * c + 1)), .int (xs (4 * c + 2)), .ref (ρ 8)]) B (w_about hl (hc1 ρ J) hh hmc hms ho) EXl.e EXe.carr (gw_goodS mw_674 mw_672 mw_673 mw_77) mw_77 (by decide +kernel) ⟨(Nat.le_of_ble_eq_true rfl), (Nat.le_of_ble_eq_true rfl)⟩ rfl rfl (Nat.le_of_ble_eq_true rfl) dL_law__1758 ⟨by show a + 13 ≤ 601024; omega, by show b + 78 ≤ 7293034; omega⟩ (fun _ _ h => h.elim) (fun v u hvu => ?_)
  obtain ⟨rfl, rfl⟩ := hvu
  refine g_istore (ls2 := [(5, .int (cdo [IX, IA] o)), (4, .int (nI (4 * c))), (0, .ref bs), (1, .ref (ρ 0)), (2, .ref (ρ 9)), (3, .ref (ρ 8))]) B hnL dL_law__1761 (by decide) rfl ?_
  refine g_aload_n (j := 4) B dL_law__1763 rfl rfl ?_
  refine g_aload_n (j := 2) B dL_law__1764 rfl rfl ?_
  refine g_iload (j := 1) B dL_law__1765 rfl ?_
  refine g_iconst (v := 1) B dL_law__1767 (by decide) ?_
  refine g_iadd B dL_law__1768 ?_
  refine g_sld (4 * c + 1) B (nI_add (4 * c) 1) (by omega) (by omega) dL_law__1769 ?_
  refine g_aload_n (j := 2) B dL_law__1770 rfl rfl ?_
  refine g_iload (j := 1) B dL_law__1771 rfl ?_
  refine g_iconst (v := 2) B dL_law__1773 (by decide) ?_
  refine g_iadd B dL_law__1774 ?_
  refine g_sld (4 * c + 2) B (nI_add (4 * c) 2) (by omega) (by omega) dL_law__1775 ?_
  refine g_callV (i := 9) (ci := 4) (nA := 2) (Cn := RX3) (As := [.int (xs (4 * c + 1)), .int (xs (4 * c + 2))]) B (CtO.g (hm1 ρ (Jn J o))) EXl.gp carrGP (fun cA => ws_at (cnt_fix (by decide))) rfl rfl mw_682 mw_679 mw_680 mw_681 mw_5 (by decide +kernel) ⟨by show h2 + 1 ≤ 13; omega, by show 8 + (3 + 11) + (30 * h2 + 60) ≤ 474; omega⟩ rfl rfl (Nat.le_of_ble_eq_true rfl) dL_law__1776 ⟨by show _ + 0 ≤ 601024; omega, by show _ + 0 ≤ 7293034; omega⟩ (fun _ _ h => absurd h.1 (fun z => by cases z)) (fun v u hvu => ?_)
  obtain ⟨hv, rfl⟩ := hvu
  cases hv
  refine g_istore (ls2 := [(6, .int x2), (5, .int (cdo [IX, IA] o)), (4, .int (nI (4 * c))), (0, .ref bs), (1, .ref (ρ 0)), (2, .ref (ρ 9)), (3, .ref (ρ 8))]) B hnL dL_law__1779 (by decide) rfl ?_
  refine g_aload_n (j := 5) B dL_law__1781 rfl rfl ?_
  refine g_callV (i := 9) (ci := 4) (nA := 0) (Cn := RX3) (As := []) B (CtO.g (c_X3_thrown hl)) EXl.gp carrGP (fun cA => ws_at (cnt_fix (by decide))) rfl rfl mw_167 mw_164 mw_165 mw_166 mw_5 (by decide +kernel) (by decide) rfl rfl (Nat.le_of_ble_eq_true rfl) dL_law__1782 ⟨by show _ + 0 ≤ 601024; omega, by show _ + 0 ≤ 7293034; omega⟩ (fun _ _ h => absurd h.1 (fun z => by cases z)) (fun v u hvu => ?_)
  obtain ⟨hv, rfl⟩ := hvu
  cases hv
  refine g_iload (j := 1) B dL_law__1785 rfl ?_
  refine g_icmp_eq (tgt := 1792) B dL_law__1787 (by decide) (fun _ => ?_) (fun h => absurd hcode h)
  refine g_iload (j := 1) B dL_law__1792 rfl ?_
  have hend : ∀ J2, G Ξ (wsd n ρ J2 M2) (a + 13) (b + 78) 1809 [(6, .int x2), (5, .int (cdo [IX, IA] o)), (4, .int (nI (4 * c))), (0, .ref bs), (1, .ref (ρ 0)), (2, .ref (ρ 9)), (3, .ref (ρ 8))] [] := fun J2 => by
    refine g_goto (tgt := 2116) B dL_law__1809 (by decide) ?_
    refine g_sub [2, 3, 4, 5, 6] rfl ?_
    exact hnext _ _ hS
  refine g_if_ne (tgt := 1809) B dL_law__1794 (by decide) (fun _ => hend _) (fun h0 => ?_)
  rcases ho with ⟨x0, N, rfl⟩ | ⟨Ey, N, hE, rfl⟩
  · have hx2 : x0 = x2 := hval x0 N rfl
    subst hx2
    refine g_aload_n (j := 6) B dL_law__1797 rfl rfl ?_
    refine g_iconst (v := 0) B dL_law__1798 (by decide) ?_
    refine g_lald (N := 1) (f := (Jn J (rI x0 N))) 8 B (fun cA => ws_at (cnt_fix (by decide))) (vp_in_nI (n := 0) (by decide) (by decide)) dL_law__1799 ?_
    refine g_iload (j := 0) B dL_law__1800 rfl ?_
    refine g_i2l B dL_law__1802 ?_
    refine g_lcmp B dL_law__1803 ?_
    rw [show (Jn J (rI x0 N)) (0 : Int32).toNatClampNeg = x0.toInt64 from rfl, lcmp_self]
    exact g_if_eq (tgt := 1809) B dL_law__1804 (by decide) (fun _ => hend _) (fun h => absurd rfl h)
  · exact absurd h0 (cdo_ne (by decide) hE)
set_option maxRecDepth 100000 in
set_option maxHeartbeats 4000000 in
theorem lc_27 {l : Launch} (hl : l.stackTraces = false) {mn : String} {e bs L : Nat} {xs : Nat → Int32} {tb : List ExceptionTableEntry} {Ξ : CT} (hnL : Ξ.2.2.2.2.2.2 = 7) (B : CB (EXl e bs L xs) l room_1 cL_law_ RL mn tb Ξ) {S : Nat → Nat → Mem → Prop} {c n : Nat} {ρ : Nat → Nat} {J : Nat → Int64} {M : Mem} {a b : Nat} (hc : 4 * c + 4 ≤ L) (hL : L ≤ 2048) (ha : a + 13 ≤ 601024) (hb : b + 78 ≤ 7293034) (hp : ∀ x y : Int32, PrI l S yX2_has cX2_has 4 (some .int) yX3_has cX3_has 3 (some .int) [IX] c n M [.int x, .int y]) (hnext : ∀ (J' : Nat → Int64) (M' : Mem), S (c + 1) n M' → G Ξ (wsd n ρ J' M') (a + 13) (b + 78) 2116 [(4, .int (nI (4 * c))), (0, .ref bs), (1, .ref (ρ 0)), (2, .ref (ρ 9)), (3, .ref (ρ 8))] []) : G Ξ (wsd n ρ J M) a b 1812 [(4, .int (nI (4 * c))), (0, .ref bs), (1, .ref (ρ 0)), (2, .ref (ρ 9)), (3, .ref (ρ 8))] [] := by
  obtain ⟨h, mc, ms, h2, o, x2, M2, hc1, hh, hmc, hms, ho, hm1, hh2, hcode, hval, hS⟩ := hp (xs (4 * c + 1)) (xs (4 * c + 2))
  refine g_aload_n (j := 2) B dL_law__1812 rfl rfl ?_
  refine g_aload_n (j := 1) B dL_law__1813 rfl rfl ?_
  refine g_iload (j := 0) B dL_law__1814 rfl ?_
  refine g_iconst (v := 1) B dL_law__1816 (by decide) ?_
  refine g_iadd B dL_law__1817 ?_
  refine g_sld (4 * c + 1) B (nI_add (4 * c) 1) (by omega) (by omega) dL_law__1818 ?_
  refine g_aload_n (j := 1) B dL_law__1819 rfl rfl ?_
  refine g_iload (j := 0) B dL_law__1820 rfl ?_
  refine g_iconst (v := 2) B dL_law__1822 (by decide) ?_
  refine g_iadd B dL_law__1823 ?_
  refine g_sld (4 * c + 2) B (nI_add (4 * c) 2) (by omega) (by omega) dL_law__1824 ?_
  refine g_aload_n (j := 4) B dL_law__1825 rfl rfl ?_
  refine g_callSX (nA := 4) (As := [.ref (ρ 0), .int (xs (4 * c + 1)), .int (xs (4 * c + 2)), .ref (ρ 8)]) B (w_has hl (hc1 ρ J) hh hmc hms ho) EXl.e EXe.carr (gw_goodS mw_685 mw_683 mw_684 mw_77) mw_77 (by decide +kernel) ⟨(Nat.le_of_ble_eq_true rfl), (Nat.le_of_ble_eq_true rfl)⟩ rfl rfl (Nat.le_of_ble_eq_true rfl) dL_law__1826 ⟨by show a + 13 ≤ 601024; omega, by show b + 78 ≤ 7293034; omega⟩ (fun _ _ h => h.elim) (fun v u hvu => ?_)
  obtain ⟨rfl, rfl⟩ := hvu
  refine g_istore (ls2 := [(5, .int (cdo [IX] o)), (4, .int (nI (4 * c))), (0, .ref bs), (1, .ref (ρ 0)), (2, .ref (ρ 9)), (3, .ref (ρ 8))]) B hnL dL_law__1829 (by decide) rfl ?_
  refine g_aload_n (j := 4) B dL_law__1831 rfl rfl ?_
  refine g_aload_n (j := 2) B dL_law__1832 rfl rfl ?_
  refine g_iload (j := 1) B dL_law__1833 rfl ?_
  refine g_iconst (v := 1) B dL_law__1835 (by decide) ?_
  refine g_iadd B dL_law__1836 ?_
  refine g_sld (4 * c + 1) B (nI_add (4 * c) 1) (by omega) (by omega) dL_law__1837 ?_
  refine g_aload_n (j := 2) B dL_law__1838 rfl rfl ?_
  refine g_iload (j := 1) B dL_law__1839 rfl ?_
  refine g_iconst (v := 2) B dL_law__1841 (by decide) ?_
  refine g_iadd B dL_law__1842 ?_
  refine g_sld (4 * c + 2) B (nI_add (4 * c) 2) (by omega) (by omega) dL_law__1843 ?_
  refine g_callV (i := 9) (ci := 4) (nA := 2) (Cn := RX3) (As := [.int (xs (4 * c + 1)), .int (xs (4 * c + 2))]) B (CtO.g (hm1 ρ (Jn J o))) EXl.gp carrGP (fun cA => ws_at (cnt_fix (by decide))) rfl rfl mw_693 mw_690 mw_691 mw_692 mw_5 (by decide +kernel) ⟨by show h2 + 1 ≤ 13; omega, by show 8 + (3 + 11) + (30 * h2 + 60) ≤ 474; omega⟩ rfl rfl (Nat.le_of_ble_eq_true rfl) dL_law__1844 ⟨by show _ + 0 ≤ 601024; omega, by show _ + 0 ≤ 7293034; omega⟩ (fun _ _ h => absurd h.1 (fun z => by cases z)) (fun v u hvu => ?_)
  obtain ⟨hv, rfl⟩ := hvu
  cases hv
  refine g_istore (ls2 := [(6, .int x2), (5, .int (cdo [IX] o)), (4, .int (nI (4 * c))), (0, .ref bs), (1, .ref (ρ 0)), (2, .ref (ρ 9)), (3, .ref (ρ 8))]) B hnL dL_law__1847 (by decide) rfl ?_
  refine g_aload_n (j := 5) B dL_law__1849 rfl rfl ?_
  refine g_callV (i := 9) (ci := 4) (nA := 0) (Cn := RX3) (As := []) B (CtO.g (c_X3_thrown hl)) EXl.gp carrGP (fun cA => ws_at (cnt_fix (by decide))) rfl rfl mw_167 mw_164 mw_165 mw_166 mw_5 (by decide +kernel) (by decide) rfl rfl (Nat.le_of_ble_eq_true rfl) dL_law__1850 ⟨by show _ + 0 ≤ 601024; omega, by show _ + 0 ≤ 7293034; omega⟩ (fun _ _ h => absurd h.1 (fun z => by cases z)) (fun v u hvu => ?_)
  obtain ⟨hv, rfl⟩ := hvu
  cases hv
  refine g_iload (j := 1) B dL_law__1853 rfl ?_
  refine g_icmp_eq (tgt := 1860) B dL_law__1855 (by decide) (fun _ => ?_) (fun h => absurd hcode h)
  refine g_iload (j := 1) B dL_law__1860 rfl ?_
  have hend : ∀ J2, G Ξ (wsd n ρ J2 M2) (a + 13) (b + 78) 1877 [(6, .int x2), (5, .int (cdo [IX] o)), (4, .int (nI (4 * c))), (0, .ref bs), (1, .ref (ρ 0)), (2, .ref (ρ 9)), (3, .ref (ρ 8))] [] := fun J2 => by
    refine g_goto (tgt := 2116) B dL_law__1877 (by decide) ?_
    refine g_sub [2, 3, 4, 5, 6] rfl ?_
    exact hnext _ _ hS
  refine g_if_ne (tgt := 1877) B dL_law__1862 (by decide) (fun _ => hend _) (fun h0 => ?_)
  rcases ho with ⟨x0, N, rfl⟩ | ⟨Ey, N, hE, rfl⟩
  · have hx2 : x0 = x2 := hval x0 N rfl
    subst hx2
    refine g_aload_n (j := 6) B dL_law__1865 rfl rfl ?_
    refine g_iconst (v := 0) B dL_law__1866 (by decide) ?_
    refine g_lald (N := 1) (f := (Jn J (rI x0 N))) 8 B (fun cA => ws_at (cnt_fix (by decide))) (vp_in_nI (n := 0) (by decide) (by decide)) dL_law__1867 ?_
    refine g_iload (j := 0) B dL_law__1868 rfl ?_
    refine g_i2l B dL_law__1870 ?_
    refine g_lcmp B dL_law__1871 ?_
    rw [show (Jn J (rI x0 N)) (0 : Int32).toNatClampNeg = x0.toInt64 from rfl, lcmp_self]
    exact g_if_eq (tgt := 1877) B dL_law__1872 (by decide) (fun _ => hend _) (fun h => absurd rfl h)
  · exact absurd h0 (cdo_ne (by decide) hE)
set_option maxRecDepth 100000 in
set_option maxHeartbeats 4000000 in
theorem lc_28 {l : Launch} (hl : l.stackTraces = false) {mn : String} {e bs L : Nat} {xs : Nat → Int32} {tb : List ExceptionTableEntry} {Ξ : CT} (hnL : Ξ.2.2.2.2.2.2 = 7) (B : CB (EXl e bs L xs) l room_1 cL_law_ RL mn tb Ξ) {S : Nat → Nat → Mem → Prop} {c n : Nat} {ρ : Nat → Nat} {J : Nat → Int64} {M : Mem} {a b : Nat} (hc : 4 * c + 4 ≤ L) (hL : L ≤ 2048) (ha : a + 13 ≤ 601024) (hb : b + 78 ≤ 7293034) (hp : ∀ x y : Int32, PrI l S yX2_scrip cX2_scrip 4 (some .int) yX3_scrip cX3_scrip 3 (some .int) [IX, IA] c n M [.int x, .int y]) (hnext : ∀ (J' : Nat → Int64) (M' : Mem), S (c + 1) n M' → G Ξ (wsd n ρ J' M') (a + 13) (b + 78) 2116 [(4, .int (nI (4 * c))), (0, .ref bs), (1, .ref (ρ 0)), (2, .ref (ρ 9)), (3, .ref (ρ 8))] []) : G Ξ (wsd n ρ J M) a b 1880 [(4, .int (nI (4 * c))), (0, .ref bs), (1, .ref (ρ 0)), (2, .ref (ρ 9)), (3, .ref (ρ 8))] [] := by
  obtain ⟨h, mc, ms, h2, o, x2, M2, hc1, hh, hmc, hms, ho, hm1, hh2, hcode, hval, hS⟩ := hp (xs (4 * c + 1)) (xs (4 * c + 2))
  refine g_aload_n (j := 2) B dL_law__1880 rfl rfl ?_
  refine g_aload_n (j := 1) B dL_law__1881 rfl rfl ?_
  refine g_iload (j := 0) B dL_law__1882 rfl ?_
  refine g_iconst (v := 1) B dL_law__1884 (by decide) ?_
  refine g_iadd B dL_law__1885 ?_
  refine g_sld (4 * c + 1) B (nI_add (4 * c) 1) (by omega) (by omega) dL_law__1886 ?_
  refine g_aload_n (j := 1) B dL_law__1887 rfl rfl ?_
  refine g_iload (j := 0) B dL_law__1888 rfl ?_
  refine g_iconst (v := 2) B dL_law__1890 (by decide) ?_
  refine g_iadd B dL_law__1891 ?_
  refine g_sld (4 * c + 2) B (nI_add (4 * c) 2) (by omega) (by omega) dL_law__1892 ?_
  refine g_aload_n (j := 4) B dL_law__1893 rfl rfl ?_
  refine g_callSX (nA := 4) (As := [.ref (ρ 0), .int (xs (4 * c + 1)), .int (xs (4 * c + 2)), .ref (ρ 8)]) B (w_scrip hl (hc1 ρ J) hh hmc hms ho) EXl.e EXe.carr (gw_goodS mw_696 mw_694 mw_695 mw_77) mw_77 (by decide +kernel) ⟨(Nat.le_of_ble_eq_true rfl), (Nat.le_of_ble_eq_true rfl)⟩ rfl rfl (Nat.le_of_ble_eq_true rfl) dL_law__1894 ⟨by show a + 13 ≤ 601024; omega, by show b + 78 ≤ 7293034; omega⟩ (fun _ _ h => h.elim) (fun v u hvu => ?_)
  obtain ⟨rfl, rfl⟩ := hvu
  refine g_istore (ls2 := [(5, .int (cdo [IX, IA] o)), (4, .int (nI (4 * c))), (0, .ref bs), (1, .ref (ρ 0)), (2, .ref (ρ 9)), (3, .ref (ρ 8))]) B hnL dL_law__1897 (by decide) rfl ?_
  refine g_aload_n (j := 4) B dL_law__1899 rfl rfl ?_
  refine g_aload_n (j := 2) B dL_law__1900 rfl rfl ?_
  refine g_iload (j := 1) B dL_law__1901 rfl ?_
  refine g_iconst (v := 1) B dL_law__1903 (by decide) ?_
  refine g_iadd B dL_law__1904 ?_
  refine g_sld (4 * c + 1) B (nI_add (4 * c) 1) (by omega) (by omega) dL_law__1905 ?_
  refine g_aload_n (j := 2) B dL_law__1906 rfl rfl ?_
  refine g_iload (j := 1) B dL_law__1907 rfl ?_
  refine g_iconst (v := 2) B dL_law__1909 (by decide) ?_
  refine g_iadd B dL_law__1910 ?_
  refine g_sld (4 * c + 2) B (nI_add (4 * c) 2) (by omega) (by omega) dL_law__1911 ?_
  refine g_callV (i := 9) (ci := 4) (nA := 2) (Cn := RX3) (As := [.int (xs (4 * c + 1)), .int (xs (4 * c + 2))]) B (CtO.g (hm1 ρ (Jn J o))) EXl.gp carrGP (fun cA => ws_at (cnt_fix (by decide))) rfl rfl mw_704 mw_701 mw_702 mw_703 mw_5 (by decide +kernel) ⟨by show h2 + 1 ≤ 13; omega, by show 8 + (3 + 11) + (30 * h2 + 60) ≤ 474; omega⟩ rfl rfl (Nat.le_of_ble_eq_true rfl) dL_law__1912 ⟨by show _ + 0 ≤ 601024; omega, by show _ + 0 ≤ 7293034; omega⟩ (fun _ _ h => absurd h.1 (fun z => by cases z)) (fun v u hvu => ?_)
  obtain ⟨hv, rfl⟩ := hvu
  cases hv
  refine g_istore (ls2 := [(6, .int x2), (5, .int (cdo [IX, IA] o)), (4, .int (nI (4 * c))), (0, .ref bs), (1, .ref (ρ 0)), (2, .ref (ρ 9)), (3, .ref (ρ 8))]) B hnL dL_law__1915 (by decide) rfl ?_
  refine g_aload_n (j := 5) B dL_law__1917 rfl rfl ?_
  refine g_callV (i := 9) (ci := 4) (nA := 0) (Cn := RX3) (As := []) B (CtO.g (c_X3_thrown hl)) EXl.gp carrGP (fun cA => ws_at (cnt_fix (by decide))) rfl rfl mw_167 mw_164 mw_165 mw_166 mw_5 (by decide +kernel) (by decide) rfl rfl (Nat.le_of_ble_eq_true rfl) dL_law__1918 ⟨by show _ + 0 ≤ 601024; omega, by show _ + 0 ≤ 7293034; omega⟩ (fun _ _ h => absurd h.1 (fun z => by cases z)) (fun v u hvu => ?_)
  obtain ⟨hv, rfl⟩ := hvu
  cases hv
  refine g_iload (j := 1) B dL_law__1921 rfl ?_
  refine g_icmp_eq (tgt := 1928) B dL_law__1923 (by decide) (fun _ => ?_) (fun h => absurd hcode h)
  refine g_iload (j := 1) B dL_law__1928 rfl ?_
  have hend : ∀ J2, G Ξ (wsd n ρ J2 M2) (a + 13) (b + 78) 1945 [(6, .int x2), (5, .int (cdo [IX, IA] o)), (4, .int (nI (4 * c))), (0, .ref bs), (1, .ref (ρ 0)), (2, .ref (ρ 9)), (3, .ref (ρ 8))] [] := fun J2 => by
    refine g_goto (tgt := 2116) B dL_law__1945 (by decide) ?_
    refine g_sub [2, 3, 4, 5, 6] rfl ?_
    exact hnext _ _ hS
  refine g_if_ne (tgt := 1945) B dL_law__1930 (by decide) (fun _ => hend _) (fun h0 => ?_)
  rcases ho with ⟨x0, N, rfl⟩ | ⟨Ey, N, hE, rfl⟩
  · have hx2 : x0 = x2 := hval x0 N rfl
    subst hx2
    refine g_aload_n (j := 6) B dL_law__1933 rfl rfl ?_
    refine g_iconst (v := 0) B dL_law__1934 (by decide) ?_
    refine g_lald (N := 1) (f := (Jn J (rI x0 N))) 8 B (fun cA => ws_at (cnt_fix (by decide))) (vp_in_nI (n := 0) (by decide) (by decide)) dL_law__1935 ?_
    refine g_iload (j := 0) B dL_law__1936 rfl ?_
    refine g_i2l B dL_law__1938 ?_
    refine g_lcmp B dL_law__1939 ?_
    rw [show (Jn J (rI x0 N)) (0 : Int32).toNatClampNeg = x0.toInt64 from rfl, lcmp_self]
    exact g_if_eq (tgt := 1945) B dL_law__1940 (by decide) (fun _ => hend _) (fun h => absurd rfl h)
  · exact absurd h0 (cdo_ne (by decide) hE)
set_option maxRecDepth 100000 in
set_option maxHeartbeats 4000000 in
theorem lc_29 {l : Launch} (hl : l.stackTraces = false) {mn : String} {e bs L : Nat} {xs : Nat → Int32} {tb : List ExceptionTableEntry} {Ξ : CT} (hnL : Ξ.2.2.2.2.2.2 = 7) (B : CB (EXl e bs L xs) l room_1 cL_law_ RL mn tb Ξ) {S : Nat → Nat → Mem → Prop} {c n : Nat} {ρ : Nat → Nat} {J : Nat → Int64} {M : Mem} {a b : Nat} (hc : 4 * c + 4 ≤ L) (hL : L ≤ 2048) (ha : a + 13 ≤ 601024) (hb : b + 78 ≤ 7293034) (hp : ∀ x : Int32, PrI l S yX2_scripAnew cX2_scripAnew 3 (some .int) yX3_scripAnew cX3_scripAnew 2 (some .int) [IX] c n M [.int x]) (hnext : ∀ (J' : Nat → Int64) (M' : Mem), S (c + 1) n M' → G Ξ (wsd n ρ J' M') (a + 13) (b + 78) 2116 [(4, .int (nI (4 * c))), (0, .ref bs), (1, .ref (ρ 0)), (2, .ref (ρ 9)), (3, .ref (ρ 8))] []) : G Ξ (wsd n ρ J M) a b 1948 [(4, .int (nI (4 * c))), (0, .ref bs), (1, .ref (ρ 0)), (2, .ref (ρ 9)), (3, .ref (ρ 8))] [] := by
  obtain ⟨h, mc, ms, h2, o, x2, M2, hc1, hh, hmc, hms, ho, hm1, hh2, hcode, hval, hS⟩ := hp (xs (4 * c + 1))
  refine g_aload_n (j := 2) B dL_law__1948 rfl rfl ?_
  refine g_aload_n (j := 1) B dL_law__1949 rfl rfl ?_
  refine g_iload (j := 0) B dL_law__1950 rfl ?_
  refine g_iconst (v := 1) B dL_law__1952 (by decide) ?_
  refine g_iadd B dL_law__1953 ?_
  refine g_sld (4 * c + 1) B (nI_add (4 * c) 1) (by omega) (by omega) dL_law__1954 ?_
  refine g_aload_n (j := 4) B dL_law__1955 rfl rfl ?_
  refine g_callSX (nA := 3) (As := [.ref (ρ 0), .int (xs (4 * c + 1)), .ref (ρ 8)]) B (w_scripAnew hl (hc1 ρ J) hh hmc hms ho) EXl.e EXe.carr (gw_goodS mw_707 mw_705 mw_706 mw_77) mw_77 (by decide +kernel) ⟨(Nat.le_of_ble_eq_true rfl), (Nat.le_of_ble_eq_true rfl)⟩ rfl rfl (Nat.le_of_ble_eq_true rfl) dL_law__1956 ⟨by show a + 13 ≤ 601024; omega, by show b + 78 ≤ 7293034; omega⟩ (fun _ _ h => h.elim) (fun v u hvu => ?_)
  obtain ⟨rfl, rfl⟩ := hvu
  refine g_istore (ls2 := [(5, .int (cdo [IX] o)), (4, .int (nI (4 * c))), (0, .ref bs), (1, .ref (ρ 0)), (2, .ref (ρ 9)), (3, .ref (ρ 8))]) B hnL dL_law__1959 (by decide) rfl ?_
  refine g_aload_n (j := 4) B dL_law__1961 rfl rfl ?_
  refine g_aload_n (j := 2) B dL_law__1962 rfl rfl ?_
  refine g_iload (j := 1) B dL_law__1963 rfl ?_
  refine g_iconst (v := 1) B dL_law__1965 (by decide) ?_
  refine g_iadd B dL_law__1966 ?_
  refine g_sld (4 * c + 1) B (nI_add (4 * c) 1) (by omega) (by omega) dL_law__1967 ?_
  refine g_callV (i := 9) (ci := 4) (nA := 1) (Cn := RX3) (As := [.int (xs (4 * c + 1))]) B (CtO.g (hm1 ρ (Jn J o))) EXl.gp carrGP (fun cA => ws_at (cnt_fix (by decide))) rfl rfl mw_717 mw_714 mw_715 mw_716 mw_5 (by decide +kernel) ⟨by show h2 + 1 ≤ 13; omega, by show 8 + (2 + 11) + (30 * h2 + 60) ≤ 474; omega⟩ rfl rfl (Nat.le_of_ble_eq_true rfl) dL_law__1968 ⟨by show _ + 0 ≤ 601024; omega, by show _ + 0 ≤ 7293034; omega⟩ (fun _ _ h => absurd h.1 (fun z => by cases z)) (fun v u hvu => ?_)
  obtain ⟨hv, rfl⟩ := hvu
  cases hv
  refine g_istore (ls2 := [(6, .int x2), (5, .int (cdo [IX] o)), (4, .int (nI (4 * c))), (0, .ref bs), (1, .ref (ρ 0)), (2, .ref (ρ 9)), (3, .ref (ρ 8))]) B hnL dL_law__1971 (by decide) rfl ?_
  refine g_aload_n (j := 5) B dL_law__1973 rfl rfl ?_
  refine g_callV (i := 9) (ci := 4) (nA := 0) (Cn := RX3) (As := []) B (CtO.g (c_X3_thrown hl)) EXl.gp carrGP (fun cA => ws_at (cnt_fix (by decide))) rfl rfl mw_167 mw_164 mw_165 mw_166 mw_5 (by decide +kernel) (by decide) rfl rfl (Nat.le_of_ble_eq_true rfl) dL_law__1974 ⟨by show _ + 0 ≤ 601024; omega, by show _ + 0 ≤ 7293034; omega⟩ (fun _ _ h => absurd h.1 (fun z => by cases z)) (fun v u hvu => ?_)
  obtain ⟨hv, rfl⟩ := hvu
  cases hv
  refine g_iload (j := 1) B dL_law__1977 rfl ?_
  refine g_icmp_eq (tgt := 1984) B dL_law__1979 (by decide) (fun _ => ?_) (fun h => absurd hcode h)
  refine g_iload (j := 1) B dL_law__1984 rfl ?_
  have hend : ∀ J2, G Ξ (wsd n ρ J2 M2) (a + 13) (b + 78) 2001 [(6, .int x2), (5, .int (cdo [IX] o)), (4, .int (nI (4 * c))), (0, .ref bs), (1, .ref (ρ 0)), (2, .ref (ρ 9)), (3, .ref (ρ 8))] [] := fun J2 => by
    refine g_goto (tgt := 2116) B dL_law__2001 (by decide) ?_
    refine g_sub [2, 3, 4, 5, 6] rfl ?_
    exact hnext _ _ hS
  refine g_if_ne (tgt := 2001) B dL_law__1986 (by decide) (fun _ => hend _) (fun h0 => ?_)
  rcases ho with ⟨x0, N, rfl⟩ | ⟨Ey, N, hE, rfl⟩
  · have hx2 : x0 = x2 := hval x0 N rfl
    subst hx2
    refine g_aload_n (j := 6) B dL_law__1989 rfl rfl ?_
    refine g_iconst (v := 0) B dL_law__1990 (by decide) ?_
    refine g_lald (N := 1) (f := (Jn J (rI x0 N))) 8 B (fun cA => ws_at (cnt_fix (by decide))) (vp_in_nI (n := 0) (by decide) (by decide)) dL_law__1991 ?_
    refine g_iload (j := 0) B dL_law__1992 rfl ?_
    refine g_i2l B dL_law__1994 ?_
    refine g_lcmp B dL_law__1995 ?_
    rw [show (Jn J (rI x0 N)) (0 : Int32).toNatClampNeg = x0.toInt64 from rfl, lcmp_self]
    exact g_if_eq (tgt := 2001) B dL_law__1996 (by decide) (fun _ => hend _) (fun h => absurd rfl h)
  · exact absurd h0 (cdo_ne (by decide) hE)
set_option maxRecDepth 100000 in
set_option maxHeartbeats 4000000 in
theorem lc_30 {l : Launch} (hl : l.stackTraces = false) {mn : String} {e bs L : Nat} {xs : Nat → Int32} {tb : List ExceptionTableEntry} {Ξ : CT} (hnL : Ξ.2.2.2.2.2.2 = 7) (B : CB (EXl e bs L xs) l room_1 cL_law_ RL mn tb Ξ) {S : Nat → Nat → Mem → Prop} {c n : Nat} {ρ : Nat → Nat} {J : Nat → Int64} {M : Mem} {a b : Nat} (hc : 4 * c + 4 ≤ L) (hL : L ≤ 2048) (ha : a + 13 ≤ 601024) (hb : b + 78 ≤ 7293034) (hp : ∀ x : Int32, PrI l S yX2_baskets cX2_baskets 5 (some .int) yX3_baskets cX3_baskets 4 (some .int) [IX] c n M [.int x]) (hnext : ∀ (J' : Nat → Int64) (M' : Mem), S (c + 1) n M' → G Ξ (wsd n ρ J' M') (a + 13) (b + 78) 2116 [(4, .int (nI (4 * c))), (0, .ref bs), (1, .ref (ρ 0)), (2, .ref (ρ 9)), (3, .ref (ρ 8))] []) : G Ξ (wsd n ρ J M) a b 2004 [(4, .int (nI (4 * c))), (0, .ref bs), (1, .ref (ρ 0)), (2, .ref (ρ 9)), (3, .ref (ρ 8))] [] := by
  obtain ⟨h, mc, ms, h2, o, x2, M2, hc1, hh, hmc, hms, ho, hm1, hh2, hcode, hval, hS⟩ := hp (xs (4 * c + 1))
  refine g_aload_n (j := 2) B dL_law__2004 rfl rfl ?_
  refine g_aload_n (j := 1) B dL_law__2005 rfl rfl ?_
  refine g_iload (j := 0) B dL_law__2006 rfl ?_
  refine g_iconst (v := 1) B dL_law__2008 (by decide) ?_
  refine g_iadd B dL_law__2009 ?_
  refine g_sld (4 * c + 1) B (nI_add (4 * c) 1) (by omega) (by omega) dL_law__2010 ?_
  refine g_aload_n (j := 4) B dL_law__2011 rfl rfl ?_
  refine g_callSX (nA := 3) (As := [.ref (ρ 0), .int (xs (4 * c + 1)), .ref (ρ 8)]) B (w_baskets hl (hc1 ρ J) hh hmc hms ho) EXl.e EXe.carr (gw_goodS mw_720 mw_718 mw_719 mw_77) mw_77 (by decide +kernel) ⟨(Nat.le_of_ble_eq_true rfl), (Nat.le_of_ble_eq_true rfl)⟩ rfl rfl (Nat.le_of_ble_eq_true rfl) dL_law__2012 ⟨by show a + 13 ≤ 601024; omega, by show b + 78 ≤ 7293034; omega⟩ (fun _ _ h => h.elim) (fun v u hvu => ?_)
  obtain ⟨rfl, rfl⟩ := hvu
  refine g_istore (ls2 := [(5, .int (cdo [IX] o)), (4, .int (nI (4 * c))), (0, .ref bs), (1, .ref (ρ 0)), (2, .ref (ρ 9)), (3, .ref (ρ 8))]) B hnL dL_law__2015 (by decide) rfl ?_
  refine g_aload_n (j := 4) B dL_law__2017 rfl rfl ?_
  refine g_aload_n (j := 2) B dL_law__2018 rfl rfl ?_
  refine g_iload (j := 1) B dL_law__2019 rfl ?_
  refine g_iconst (v := 1) B dL_law__2021 (by decide) ?_
  refine g_iadd B dL_law__2022 ?_
  refine g_sld (4 * c + 1) B (nI_add (4 * c) 1) (by omega) (by omega) dL_law__2023 ?_
  refine g_callV (i := 9) (ci := 4) (nA := 1) (Cn := RX3) (As := [.int (xs (4 * c + 1))]) B (CtO.g (hm1 ρ (Jn J o))) EXl.gp carrGP (fun cA => ws_at (cnt_fix (by decide))) rfl rfl mw_728 mw_725 mw_726 mw_727 mw_5 (by decide +kernel) ⟨by show h2 + 1 ≤ 13; omega, by show 8 + (4 + 11) + (30 * h2 + 60) ≤ 474; omega⟩ rfl rfl (Nat.le_of_ble_eq_true rfl) dL_law__2024 ⟨by show _ + 0 ≤ 601024; omega, by show _ + 0 ≤ 7293034; omega⟩ (fun _ _ h => absurd h.1 (fun z => by cases z)) (fun v u hvu => ?_)
  obtain ⟨hv, rfl⟩ := hvu
  cases hv
  refine g_istore (ls2 := [(6, .int x2), (5, .int (cdo [IX] o)), (4, .int (nI (4 * c))), (0, .ref bs), (1, .ref (ρ 0)), (2, .ref (ρ 9)), (3, .ref (ρ 8))]) B hnL dL_law__2027 (by decide) rfl ?_
  refine g_aload_n (j := 5) B dL_law__2029 rfl rfl ?_
  refine g_callV (i := 9) (ci := 4) (nA := 0) (Cn := RX3) (As := []) B (CtO.g (c_X3_thrown hl)) EXl.gp carrGP (fun cA => ws_at (cnt_fix (by decide))) rfl rfl mw_167 mw_164 mw_165 mw_166 mw_5 (by decide +kernel) (by decide) rfl rfl (Nat.le_of_ble_eq_true rfl) dL_law__2030 ⟨by show _ + 0 ≤ 601024; omega, by show _ + 0 ≤ 7293034; omega⟩ (fun _ _ h => absurd h.1 (fun z => by cases z)) (fun v u hvu => ?_)
  obtain ⟨hv, rfl⟩ := hvu
  cases hv
  refine g_iload (j := 1) B dL_law__2033 rfl ?_
  refine g_icmp_eq (tgt := 2040) B dL_law__2035 (by decide) (fun _ => ?_) (fun h => absurd hcode h)
  refine g_iload (j := 1) B dL_law__2040 rfl ?_
  have hend : ∀ J2, G Ξ (wsd n ρ J2 M2) (a + 13) (b + 78) 2057 [(6, .int x2), (5, .int (cdo [IX] o)), (4, .int (nI (4 * c))), (0, .ref bs), (1, .ref (ρ 0)), (2, .ref (ρ 9)), (3, .ref (ρ 8))] [] := fun J2 => by
    refine g_goto (tgt := 2116) B dL_law__2057 (by decide) ?_
    refine g_sub [2, 3, 4, 5, 6] rfl ?_
    exact hnext _ _ hS
  refine g_if_ne (tgt := 2057) B dL_law__2042 (by decide) (fun _ => hend _) (fun h0 => ?_)
  rcases ho with ⟨x0, N, rfl⟩ | ⟨Ey, N, hE, rfl⟩
  · have hx2 : x0 = x2 := hval x0 N rfl
    subst hx2
    refine g_aload_n (j := 6) B dL_law__2045 rfl rfl ?_
    refine g_iconst (v := 0) B dL_law__2046 (by decide) ?_
    refine g_lald (N := 1) (f := (Jn J (rI x0 N))) 8 B (fun cA => ws_at (cnt_fix (by decide))) (vp_in_nI (n := 0) (by decide) (by decide)) dL_law__2047 ?_
    refine g_iload (j := 0) B dL_law__2048 rfl ?_
    refine g_i2l B dL_law__2050 ?_
    refine g_lcmp B dL_law__2051 ?_
    rw [show (Jn J (rI x0 N)) (0 : Int32).toNatClampNeg = x0.toInt64 from rfl, lcmp_self]
    exact g_if_eq (tgt := 2057) B dL_law__2052 (by decide) (fun _ => hend _) (fun h => absurd rfl h)
  · exact absurd h0 (cdo_ne (by decide) hE)
set_option maxRecDepth 100000 in
set_option maxHeartbeats 4000000 in
theorem lc_31 {l : Launch} (hl : l.stackTraces = false) {mn : String} {e bs L : Nat} {xs : Nat → Int32} {tb : List ExceptionTableEntry} {Ξ : CT} (hnL : Ξ.2.2.2.2.2.2 = 7) (B : CB (EXl e bs L xs) l room_1 cL_law_ RL mn tb Ξ) {S : Nat → Nat → Mem → Prop} {c n : Nat} {ρ : Nat → Nat} {J : Nat → Int64} {M : Mem} {a b : Nat} (hc : 4 * c + 4 ≤ L) (hL : L ≤ 2048) (ha : a + 13 ≤ 601024) (hb : b + 78 ≤ 7293034) (hp : ∀ x : Int32, PrI l S yX2_books cX2_books 2 (some .int) yX3_books cX3_books 2 (some .int) [IX] c n M [.int x]) (hnext : ∀ (J' : Nat → Int64) (M' : Mem), S (c + 1) n M' → G Ξ (wsd n ρ J' M') (a + 13) (b + 78) 2116 [(4, .int (nI (4 * c))), (0, .ref bs), (1, .ref (ρ 0)), (2, .ref (ρ 9)), (3, .ref (ρ 8))] []) : G Ξ (wsd n ρ J M) a b 2060 [(4, .int (nI (4 * c))), (0, .ref bs), (1, .ref (ρ 0)), (2, .ref (ρ 9)), (3, .ref (ρ 8))] [] := by
  obtain ⟨h, mc, ms, h2, o, x2, M2, hc1, hh, hmc, hms, ho, hm1, hh2, hcode, hval, hS⟩ := hp (xs (4 * c + 1))
  refine g_aload_n (j := 2) B dL_law__2060 rfl rfl ?_
  refine g_aload_n (j := 1) B dL_law__2061 rfl rfl ?_
  refine g_iload (j := 0) B dL_law__2062 rfl ?_
  refine g_iconst (v := 1) B dL_law__2064 (by decide) ?_
  refine g_iadd B dL_law__2065 ?_
  refine g_sld (4 * c + 1) B (nI_add (4 * c) 1) (by omega) (by omega) dL_law__2066 ?_
  refine g_aload_n (j := 4) B dL_law__2067 rfl rfl ?_
  refine g_callSX (nA := 3) (As := [.ref (ρ 0), .int (xs (4 * c + 1)), .ref (ρ 8)]) B (w_books hl (hc1 ρ J) hh hmc hms ho) EXl.e EXe.carr (gw_goodS mw_731 mw_729 mw_730 mw_77) mw_77 (by decide +kernel) ⟨(Nat.le_of_ble_eq_true rfl), (Nat.le_of_ble_eq_true rfl)⟩ rfl rfl (Nat.le_of_ble_eq_true rfl) dL_law__2068 ⟨by show a + 13 ≤ 601024; omega, by show b + 78 ≤ 7293034; omega⟩ (fun _ _ h => h.elim) (fun v u hvu => ?_)
  obtain ⟨rfl, rfl⟩ := hvu
  refine g_istore (ls2 := [(5, .int (cdo [IX] o)), (4, .int (nI (4 * c))), (0, .ref bs), (1, .ref (ρ 0)), (2, .ref (ρ 9)), (3, .ref (ρ 8))]) B hnL dL_law__2071 (by decide) rfl ?_
  refine g_aload_n (j := 4) B dL_law__2073 rfl rfl ?_
  refine g_aload_n (j := 2) B dL_law__2074 rfl rfl ?_
  refine g_iload (j := 1) B dL_law__2075 rfl ?_
  refine g_iconst (v := 1) B dL_law__2077 (by decide) ?_
  refine g_iadd B dL_law__2078 ?_
  refine g_sld (4 * c + 1) B (nI_add (4 * c) 1) (by omega) (by omega) dL_law__2079 ?_
  refine g_callV (i := 9) (ci := 4) (nA := 1) (Cn := RX3) (As := [.int (xs (4 * c + 1))]) B (CtO.g (hm1 ρ (Jn J o))) EXl.gp carrGP (fun cA => ws_at (cnt_fix (by decide))) rfl rfl mw_739 mw_736 mw_737 mw_738 mw_5 (by decide +kernel) ⟨by show h2 + 1 ≤ 13; omega, by show 8 + (2 + 11) + (30 * h2 + 60) ≤ 474; omega⟩ rfl rfl (Nat.le_of_ble_eq_true rfl) dL_law__2080 ⟨by show _ + 0 ≤ 601024; omega, by show _ + 0 ≤ 7293034; omega⟩ (fun _ _ h => absurd h.1 (fun z => by cases z)) (fun v u hvu => ?_)
  obtain ⟨hv, rfl⟩ := hvu
  cases hv
  refine g_istore (ls2 := [(6, .int x2), (5, .int (cdo [IX] o)), (4, .int (nI (4 * c))), (0, .ref bs), (1, .ref (ρ 0)), (2, .ref (ρ 9)), (3, .ref (ρ 8))]) B hnL dL_law__2083 (by decide) rfl ?_
  refine g_aload_n (j := 5) B dL_law__2085 rfl rfl ?_
  refine g_callV (i := 9) (ci := 4) (nA := 0) (Cn := RX3) (As := []) B (CtO.g (c_X3_thrown hl)) EXl.gp carrGP (fun cA => ws_at (cnt_fix (by decide))) rfl rfl mw_167 mw_164 mw_165 mw_166 mw_5 (by decide +kernel) (by decide) rfl rfl (Nat.le_of_ble_eq_true rfl) dL_law__2086 ⟨by show _ + 0 ≤ 601024; omega, by show _ + 0 ≤ 7293034; omega⟩ (fun _ _ h => absurd h.1 (fun z => by cases z)) (fun v u hvu => ?_)
  obtain ⟨hv, rfl⟩ := hvu
  cases hv
  refine g_iload (j := 1) B dL_law__2089 rfl ?_
  refine g_icmp_eq (tgt := 2096) B dL_law__2091 (by decide) (fun _ => ?_) (fun h => absurd hcode h)
  refine g_iload (j := 1) B dL_law__2096 rfl ?_
  have hend : ∀ J2, G Ξ (wsd n ρ J2 M2) (a + 13) (b + 78) 2113 [(6, .int x2), (5, .int (cdo [IX] o)), (4, .int (nI (4 * c))), (0, .ref bs), (1, .ref (ρ 0)), (2, .ref (ρ 9)), (3, .ref (ρ 8))] [] := fun J2 => by
    refine g_goto (tgt := 2116) B dL_law__2113 (by decide) ?_
    refine g_sub [2, 3, 4, 5, 6] rfl ?_
    exact hnext _ _ hS
  refine g_if_ne (tgt := 2113) B dL_law__2098 (by decide) (fun _ => hend _) (fun h0 => ?_)
  rcases ho with ⟨x0, N, rfl⟩ | ⟨Ey, N, hE, rfl⟩
  · have hx2 : x0 = x2 := hval x0 N rfl
    subst hx2
    refine g_aload_n (j := 6) B dL_law__2101 rfl rfl ?_
    refine g_iconst (v := 0) B dL_law__2102 (by decide) ?_
    refine g_lald (N := 1) (f := (Jn J (rI x0 N))) 8 B (fun cA => ws_at (cnt_fix (by decide))) (vp_in_nI (n := 0) (by decide) (by decide)) dL_law__2103 ?_
    refine g_iload (j := 0) B dL_law__2104 rfl ?_
    refine g_i2l B dL_law__2106 ?_
    refine g_lcmp B dL_law__2107 ?_
    rw [show (Jn J (rI x0 N)) (0 : Int32).toNatClampNeg = x0.toInt64 from rfl, lcmp_self]
    exact g_if_eq (tgt := 2113) B dL_law__2108 (by decide) (fun _ => hend _) (fun h => absurd rfl h)
  · exact absurd h0 (cdo_ne (by decide) hE)
