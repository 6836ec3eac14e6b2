/-! The law's loop. -/
/-- all pairs -/
def Good (l : Launch) (S : Nat → Nat → Mem → Prop) : Prop := ∀ (c n : Nat) (M : Mem), c < 512 → S c n M → n ≤ 10 ∧ PrM l S c n M ∧ (∀ x y : Int32, PrI l S yX2_kin cX2_kin 5 (some .int) yX3_kin cX3_kin 4 (some .int) [IX, IA] c n M [.int x, .int y]) ∧ (∀ x : Int32, PrI l S yX2_dock cX2_dock 3 (some .int) yX3_dock cX3_dock 3 (some .int) [IA] c n M [.int x]) ∧ (∀ z : Int32, isB z → PrD l S yX2_check cX2_check 3 (some .boolean) yX3_check cX3_check 3 (some .boolean) c n M [.int z]) ∧ (∀ x y : Int32, PrI l S yX2_hew cX2_hew 4 (some .int) yX3_hew cX3_hew 3 (some .int) [IX, IA, IS] c n M [.int x, .int y]) ∧ (∀ x : Int32, PrI l S yX2_edition cX2_edition 3 (some .int) yX3_edition cX3_edition 3 (some .int) [IA] c n M [.int x]) ∧ (∀ x y : Int32, PrI l S yX2_tell cX2_tell 4 (some .int) yX3_tell cX3_tell 4 (some .int) [IA] c n M [.int x, .int y]) ∧ (PrI l S yX2_payday cX2_payday 4 (some .int) yX3_payday cX3_payday 3 (some .int) [IS] c n M []) ∧ (∀ x : Int32, PrV l S yX2_house cX2_house 3 none yX3_house cX3_house 2 none [IX, IS] c n M [.int x]) ∧ (∀ x y z : Int32, isB z → PrI l S yX2_price cX2_price 6 (some .int) yX3_price cX3_price 6 (some .int) [IX, IA] c n M [.int x, .int y, .int z]) ∧ (∀ x y : Int32, PrI l S yX2_raised cX2_raised 4 (some .int) yX3_raised cX3_raised 3 (some .int) [IX] c n M [.int x, .int y]) ∧ (∀ x : Int32, PrI l S yX2_limit cX2_limit 3 (some .int) yX3_limit cX3_limit 3 (some .int) [IA] c n M [.int x]) ∧ (∀ x y z : Int32, PrI l S yX2_whyNot cX2_whyNot 5 (some .int) yX3_whyNot cX3_whyNot 4 (some .int) [IX, IA] c n M [.int x, .int y, .int z]) ∧ (∀ x y z : Int32, PrI l S yX2_buy cX2_buy 8 (some .int) yX3_buy cX3_buy 9 (some .int) [IX, IA, IS] c n M [.int x, .int y, .int z]) ∧ (∀ x y z : Int32, PrI l S yX2_over cX2_over 6 (some .int) yX3_over cX3_over 6 (some .int) [IX, IA, IS] c n M [.int x, .int y, .int z]) ∧ (∀ x : Int32, PrI l S yX2_discount cX2_discount 3 (some .int) yX3_discount cX3_discount 3 (some .int) [IA] c n M [.int x]) ∧ (∀ x y : Int32, PrI l S yX2_change cX2_change 5 (some .int) yX3_change cX3_change 5 (some .int) [IX, IA, IS] c n M [.int x, .int y]) ∧ (∀ x y : Int32, isB y → PrI l S yX2_law cX2_law 4 (some .boolean) yX3_law cX3_law 4 (some .boolean) [IX] c n M [.int x, .int y]) ∧ (∀ z : Int32, isB z → PrD l S yX2_obey cX2_obey 3 (some .boolean) yX3_obey cX3_obey 3 (some .boolean) c n M [.int z]) ∧ PrD l S yX2_breaches cX2_breaches 1 (some .int) yX3_breaches cX3_breaches 1 (some .int) c n M [] ∧ (∀ x : Int32, PrI l S yX2_die cX2_die 4 (some .int) yX3_die cX3_die 3 (some .int) [IX, IS] c n M [.int x]) ∧ (∀ x y : Int32, isB y → PrI l S yX2_vote cX2_vote 5 (some .boolean) yX3_vote cX3_vote 4 (some .boolean) [IX] c n M [.int x, .int y]) ∧ (PrI l S yX2_strike cX2_strike 1 (some .boolean) yX3_strike cX3_strike 3 (some .boolean) [IS] c n M []) ∧ (∀ x : Int32, PrI l S yX2_give cX2_give 2 (some .int) yX3_give cX3_give 2 (some .int) [IA] c n M [.int x]) ∧ (PrI l S yX2_soup cX2_soup 4 (some .int) yX3_soup cX3_soup 5 (some .int) [IS] c n M []) ∧ (∀ x : Int32, PrI l S yX2_close cX2_close 4 (some .int) yX3_close cX3_close 4 (some .int) [IA, IS] c n M [.int x]) ∧ (∀ x y : Int32, PrI l S yX2_about cX2_about 4 (some .int) yX3_about cX3_about 3 (some .int) [IX, IA] c n M [.int x, .int y]) ∧ (∀ x y : Int32, PrI l S yX2_has cX2_has 4 (some .int) yX3_has cX3_has 3 (some .int) [IX] c n M [.int x, .int y]) ∧ (∀ x y : Int32, PrI l S yX2_scrip cX2_scrip 4 (some .int) yX3_scrip cX3_scrip 3 (some .int) [IX, IA] c n M [.int x, .int y]) ∧ (∀ x : Int32, PrI l S yX2_scripAnew cX2_scripAnew 3 (some .int) yX3_scripAnew cX3_scripAnew 2 (some .int) [IX] c n M [.int x]) ∧ (∀ x : Int32, PrI l S yX2_baskets cX2_baskets 5 (some .int) yX3_baskets cX3_baskets 4 (some .int) [IX] c n M [.int x]) ∧ (∀ x : Int32, PrI l S yX2_books cX2_books 2 (some .int) yX3_books cX3_books 2 (some .int) [IX] c n M [.int x])
set_option maxRecDepth 100000 in
set_option maxHeartbeats 4000000 in
theorem law_loop {l : Launch} (hl : l.stackTraces = false) {mn : String} {e bs L : Nat} {xs : Nat → Int32} {tb : List ExceptionTableEntry} {Ξ : CT} (hnL : Ξ.2.2.2.2.2.2 = 7) (B : CB (EXl e bs L xs) l room_1 cL_law_ RL mn tb Ξ) {S : Nat → Nat → Mem → Prop} (hG : Good l S) (hL : L ≤ 2048) (hret : ∀ (w : Wd) (a b : Nat) (ls : List (Nat × Value)), a ≤ 601024 → b ≤ 7293034 → G Ξ w a b 2123 ls [.int 1]) :
    ∀ (f c n : Nat) (ρ : Nat → Nat) (J : Nat → Int64) (M : Mem) (a b : Nat), c + f = 513 → S c n M → (n = 0 → ρ 27 = e) → a ≤ 30 + 13 * c → b ≤ 1000 + 78 * c → G Ξ (wsd n ρ J M) a b 23 [(4, .int (nI (4 * c))), (0, .ref bs), (1, .ref (ρ 0)), (2, .ref (ρ 9)), (3, .ref (ρ 8))] [] := by
  intro f
  induction f with
  | zero =>
    intro c n ρ J M a b hcf hS hρ ha hb
    refine g_iload (j := 0) B dL_law__23 rfl ?_
    refine g_aload_n (j := 1) B dL_law__25 rfl rfl ?_
    refine g_slen B dL_law__26 ?_
    refine g_iconst (v := 4) B dL_law__27 (by decide) ?_
    refine g_isub B dL_law__28 ?_
    refine g_icmp_gt (tgt := 2122) B dL_law__29 (by decide) (fun _ => ?_) (fun h => absurd (?_ : nI L - nI 4 < nI (4 * c)) h)
    · refine g_iconst (v := 1) B dL_law__2122 (by decide) ?_
      exact hret _ _ _ _ (by omega) (by omega)
    · exact Int32.lt_iff_toInt_lt.mpr (by rw [pk_sub_toInt (by omega) (by omega), nI_toInt (by omega)]; omega)
  | succ f ih =>
    intro c n ρ J M a b hcf hS hρ ha hb
    refine g_iload (j := 0) B dL_law__23 rfl ?_
    refine g_aload_n (j := 1) B dL_law__25 rfl rfl ?_
    refine g_slen B dL_law__26 ?_
    refine g_iconst (v := 4) B dL_law__27 (by decide) ?_
    refine g_isub B dL_law__28 ?_
    by_cases hc : 4 * c + 4 ≤ L
    · refine g_icmp_gt (tgt := 2122) B dL_law__29 (by decide) (fun h => absurd (show nI L - nI 4 < nI (4 * c) from h) (fun h2 => by have h3 := Int32.lt_iff_toInt_lt.mp h2; rw [pk_sub_toInt (by omega) (by omega), nI_toInt (by omega)] at h3; omega)) (fun _ => ?_)
      have hg := hG c n M (by omega) hS
      refine g_aload_n (j := 1) B dL_law__32 rfl rfl ?_
      refine g_iload (j := 0) B dL_law__33 rfl ?_
      refine g_sld (4 * c) B rfl (by omega) (by omega) dL_law__35 ?_
      refine g_bipush (v := 31) B dL_law__36 (by decide) ?_
      refine g_iand B dL_law__38 ?_
      have hnx : ∀ (n' : Nat) (ρ' : Nat → Nat) (J' : Nat → Int64) (M' : Mem) (a' b' : Nat), a' ≤ a + 13 → b' ≤ b + 78 → (n' = 0 → ρ' 27 = e) → S (c + 1) n' M' → G Ξ (wsd n' ρ' J' M') a' b' 2116 [(4, .int (nI (4 * c))), (0, .ref bs), (1, .ref (ρ' 0)), (2, .ref (ρ' 9)), (3, .ref (ρ' 8))] [] := fun n' ρ' J' M' a' b' h1 h2 h3 h4 => by
        refine g_iinc (j := 0) (v := nI (4 * (c + 1))) (ls2 := [(4, .int (nI (4 * (c + 1)))), (0, .ref bs), (1, .ref (ρ' 0)), (2, .ref (ρ' 9)), (3, .ref (ρ' 8))]) B hnL dL_law__2116 rfl (nI_add (4 * c) 4) (by decide) rfl ?_
        refine g_goto (tgt := 23) B dL_law__2119 (by decide) ?_
        exact ih (c + 1) n' ρ' J' M' a' b' (by omega) h4 h3 (by omega) (by omega)
      obtain ⟨j, hj, ej⟩ := pk_andE (xs (4 * c)) (m := 31) 5 (by decide)
      rw [ej]
      match j, hj with
      | 0, _ => exact g_tswI (tgt := 180) (off := 141) B dL_law__39 (by decide) (by decide) rfl (by decide) (lc_0 hl hnL B hc hL (by omega) (by omega) hg.1 hρ hg.2.1 (fun n' ρ' J' M' h1 h2 => hnx n' ρ' J' M' _ _ (by omega) (by omega) h1 h2))
      | 1, _ => exact g_tswI (tgt := 224) (off := 185) B dL_law__39 (by decide) (by decide) rfl (by decide) (lc_1 hl hnL B hc hL (by omega) (by omega) hg.2.2.1 (fun J' M' h2 => hnx n ρ J' M' _ _ (by omega) (by omega) hρ h2))
      | 2, _ => exact g_tswI (tgt := 292) (off := 253) B dL_law__39 (by decide) (by decide) rfl (by decide) (lc_2 hl hnL B hc hL (by omega) (by omega) hg.2.2.2.1 (fun J' M' h2 => hnx n ρ J' M' _ _ (by omega) (by omega) hρ h2))
      | 3, _ => exact g_tswI (tgt := 348) (off := 309) B dL_law__39 (by decide) (by decide) rfl (by decide) (lc_3 hl hnL B hc hL (by omega) (by omega) hg.2.2.2.2.1 (fun J' M' h2 => hnx n ρ J' M' _ _ (by omega) (by omega) hρ h2))
      | 4, _ => exact g_tswI (tgt := 389) (off := 350) B dL_law__39 (by decide) (by decide) rfl (by decide) (lc_4 hl hnL B hc hL (by omega) (by omega) hg.2.2.2.2.2.1 (fun J' M' h2 => hnx n ρ J' M' _ _ (by omega) (by omega) hρ h2))
      | 5, _ => exact g_tswI (tgt := 457) (off := 418) B dL_law__39 (by decide) (by decide) rfl (by decide) (lc_5 hl hnL B hc hL (by omega) (by omega) hg.2.2.2.2.2.2.1 (fun J' M' h2 => hnx n ρ J' M' _ _ (by omega) (by omega) hρ h2))
      | 6, _ => exact g_tswI (tgt := 513) (off := 474) B dL_law__39 (by decide) (by decide) rfl (by decide) (lc_6 hl hnL B hc hL (by omega) (by omega) hg.2.2.2.2.2.2.2.1 (fun J' M' h2 => hnx n ρ J' M' _ _ (by omega) (by omega) hρ h2))
      | 7, _ => exact g_tswI (tgt := 581) (off := 542) B dL_law__39 (by decide) (by decide) rfl (by decide) (lc_7 hl hnL B hc hL (by omega) (by omega) hg.2.2.2.2.2.2.2.2.1 (fun J' M' h2 => hnx n ρ J' M' _ _ (by omega) (by omega) hρ h2))
      | 8, _ => exact g_tswI (tgt := 625) (off := 586) B dL_law__39 (by decide) (by decide) rfl (by decide) (lc_8 hl hnL B hc hL (by omega) (by omega) hg.2.2.2.2.2.2.2.2.2.1 (fun J' M' h2 => hnx n ρ J' M' _ _ (by omega) (by omega) hρ h2))
      | 9, _ => exact g_tswI (tgt := 661) (off := 622) B dL_law__39 (by decide) (by decide) rfl (by decide) (lc_9 hl hnL B hc hL (by omega) (by omega) hg.2.2.2.2.2.2.2.2.2.2.1 (fun J' M' h2 => hnx n ρ J' M' _ _ (by omega) (by omega) hρ h2))
      | 10, _ => exact g_tswI (tgt := 757) (off := 718) B dL_law__39 (by decide) (by decide) rfl (by decide) (lc_10 hl hnL B hc hL (by omega) (by omega) hg.2.2.2.2.2.2.2.2.2.2.2.1 (fun J' M' h2 => hnx n ρ J' M' _ _ (by omega) (by omega) hρ h2))
      | 11, _ => exact g_tswI (tgt := 825) (off := 786) B dL_law__39 (by decide) (by decide) rfl (by decide) (lc_11 hl hnL B hc hL (by omega) (by omega) hg.2.2.2.2.2.2.2.2.2.2.2.2.1 (fun J' M' h2 => hnx n ρ J' M' _ _ (by omega) (by omega) hρ h2))
      | 12, _ => exact g_tswI (tgt := 881) (off := 842) B dL_law__39 (by decide) (by decide) rfl (by decide) (lc_12 hl hnL B hc hL (by omega) (by omega) hg.2.2.2.2.2.2.2.2.2.2.2.2.2.1 (fun J' M' h2 => hnx n ρ J' M' _ _ (by omega) (by omega) hρ h2))
      | 13, _ => exact g_tswI (tgt := 961) (off := 922) B dL_law__39 (by decide) (by decide) rfl (by decide) (lc_13 hl hnL B hc hL (by omega) (by omega) hg.2.2.2.2.2.2.2.2.2.2.2.2.2.2.1 (fun J' M' h2 => hnx n ρ J' M' _ _ (by omega) (by omega) hρ h2))
      | 14, _ => exact g_tswI (tgt := 1041) (off := 1002) B dL_law__39 (by decide) (by decide) rfl (by decide) (lc_14 hl hnL B hc hL (by omega) (by omega) hg.2.2.2.2.2.2.2.2.2.2.2.2.2.2.2.1 (fun J' M' h2 => hnx n ρ J' M' _ _ (by omega) (by omega) hρ h2))
      | 15, _ => exact g_tswI (tgt := 1121) (off := 1082) B dL_law__39 (by decide) (by decide) rfl (by decide) (lc_15 hl hnL B hc hL (by omega) (by omega) hg.2.2.2.2.2.2.2.2.2.2.2.2.2.2.2.2.1 (fun J' M' h2 => hnx n ρ J' M' _ _ (by omega) (by omega) hρ h2))
      | 16, _ => exact g_tswI (tgt := 1177) (off := 1138) B dL_law__39 (by decide) (by decide) rfl (by decide) (lc_16 hl hnL B hc hL (by omega) (by omega) hg.2.2.2.2.2.2.2.2.2.2.2.2.2.2.2.2.2.1 (fun J' M' h2 => hnx n ρ J' M' _ _ (by omega) (by omega) hρ h2))
      | 17, _ => exact g_tswI (tgt := 1245) (off := 1206) B dL_law__39 (by decide) (by decide) rfl (by decide) (lc_17 hl hnL B hc hL (by omega) (by omega) hg.2.2.2.2.2.2.2.2.2.2.2.2.2.2.2.2.2.2.1 (fun J' M' h2 => hnx n ρ J' M' _ _ (by omega) (by omega) hρ h2))
      | 18, _ => exact g_tswI (tgt := 1336) (off := 1297) B dL_law__39 (by decide) (by decide) rfl (by decide) (lc_18 hl hnL B hc hL (by omega) (by omega) hg.2.2.2.2.2.2.2.2.2.2.2.2.2.2.2.2.2.2.2.1 (fun J' M' h2 => hnx n ρ J' M' _ _ (by omega) (by omega) hρ h2))
      | 19, _ => exact g_tswI (tgt := 1377) (off := 1338) B dL_law__39 (by decide) (by decide) rfl (by decide) (lc_19 hl hnL B hc hL (by omega) (by omega) hg.2.2.2.2.2.2.2.2.2.2.2.2.2.2.2.2.2.2.2.2.1 (fun J' M' h2 => hnx n ρ J' M' _ _ (by omega) (by omega) hρ h2))
      | 20, _ => exact g_tswI (tgt := 1390) (off := 1351) B dL_law__39 (by decide) (by decide) rfl (by decide) (lc_20 hl hnL B hc hL (by omega) (by omega) hg.2.2.2.2.2.2.2.2.2.2.2.2.2.2.2.2.2.2.2.2.2.1 (fun J' M' h2 => hnx n ρ J' M' _ _ (by omega) (by omega) hρ h2))
      | 21, _ => exact g_tswI (tgt := 1446) (off := 1407) B dL_law__39 (by decide) (by decide) rfl (by decide) (lc_21 hl hnL B hc hL (by omega) (by omega) hg.2.2.2.2.2.2.2.2.2.2.2.2.2.2.2.2.2.2.2.2.2.2.1 (fun J' M' h2 => hnx n ρ J' M' _ _ (by omega) (by omega) hρ h2))
      | 22, _ => exact g_tswI (tgt := 1537) (off := 1498) B dL_law__39 (by decide) (by decide) rfl (by decide) (lc_22 hl hnL B hc hL (by omega) (by omega) hg.2.2.2.2.2.2.2.2.2.2.2.2.2.2.2.2.2.2.2.2.2.2.2.1 (fun J' M' h2 => hnx n ρ J' M' _ _ (by omega) (by omega) hρ h2))
      | 23, _ => exact g_tswI (tgt := 1588) (off := 1549) B dL_law__39 (by decide) (by decide) rfl (by decide) (lc_23 hl hnL B hc hL (by omega) (by omega) hg.2.2.2.2.2.2.2.2.2.2.2.2.2.2.2.2.2.2.2.2.2.2.2.2.1 (fun J' M' h2 => hnx n ρ J' M' _ _ (by omega) (by omega) hρ h2))
      | 24, _ => exact g_tswI (tgt := 1644) (off := 1605) B dL_law__39 (by decide) (by decide) rfl (by decide) (lc_24 hl hnL B hc hL (by omega) (by omega) hg.2.2.2.2.2.2.2.2.2.2.2.2.2.2.2.2.2.2.2.2.2.2.2.2.2.1 (fun J' M' h2 => hnx n ρ J' M' _ _ (by omega) (by omega) hρ h2))
      | 25, _ => exact g_tswI (tgt := 1688) (off := 1649) B dL_law__39 (by decide) (by decide) rfl (by decide) (lc_25 hl hnL B hc hL (by omega) (by omega) hg.2.2.2.2.2.2.2.2.2.2.2.2.2.2.2.2.2.2.2.2.2.2.2.2.2.2.1 (fun J' M' h2 => hnx n ρ J' M' _ _ (by omega) (by omega) hρ h2))
      | 26, _ => exact g_tswI (tgt := 1744) (off := 1705) B dL_law__39 (by decide) (by decide) rfl (by decide) (lc_26 hl hnL B hc hL (by omega) (by omega) hg.2.2.2.2.2.2.2.2.2.2.2.2.2.2.2.2.2.2.2.2.2.2.2.2.2.2.2.1 (fun J' M' h2 => hnx n ρ J' M' _ _ (by omega) (by omega) hρ h2))
      | 27, _ => exact g_tswI (tgt := 1812) (off := 1773) B dL_law__39 (by decide) (by decide) rfl (by decide) (lc_27 hl hnL B hc hL (by omega) (by omega) hg.2.2.2.2.2.2.2.2.2.2.2.2.2.2.2.2.2.2.2.2.2.2.2.2.2.2.2.2.1 (fun J' M' h2 => hnx n ρ J' M' _ _ (by omega) (by omega) hρ h2))
      | 28, _ => exact g_tswI (tgt := 1880) (off := 1841) B dL_law__39 (by decide) (by decide) rfl (by decide) (lc_28 hl hnL B hc hL (by omega) (by omega) hg.2.2.2.2.2.2.2.2.2.2.2.2.2.2.2.2.2.2.2.2.2.2.2.2.2.2.2.2.2.1 (fun J' M' h2 => hnx n ρ J' M' _ _ (by omega) (by omega) hρ h2))
      | 29, _ => exact g_tswI (tgt := 1948) (off := 1909) B dL_law__39 (by decide) (by decide) rfl (by decide) (lc_29 hl hnL B hc hL (by omega) (by omega) hg.2.2.2.2.2.2.2.2.2.2.2.2.2.2.2.2.2.2.2.2.2.2.2.2.2.2.2.2.2.2.1 (fun J' M' h2 => hnx n ρ J' M' _ _ (by omega) (by omega) hρ h2))
      | 30, _ => exact g_tswI (tgt := 2004) (off := 1965) B dL_law__39 (by decide) (by decide) rfl (by decide) (lc_30 hl hnL B hc hL (by omega) (by omega) hg.2.2.2.2.2.2.2.2.2.2.2.2.2.2.2.2.2.2.2.2.2.2.2.2.2.2.2.2.2.2.2.1 (fun J' M' h2 => hnx n ρ J' M' _ _ (by omega) (by omega) hρ h2))
      | 31, _ => exact g_tswI (tgt := 2060) (off := 2021) B dL_law__39 (by decide) (by decide) rfl (by decide) (lc_31 hl hnL B hc hL (by omega) (by omega) hg.2.2.2.2.2.2.2.2.2.2.2.2.2.2.2.2.2.2.2.2.2.2.2.2.2.2.2.2.2.2.2.2 (fun J' M' h2 => hnx n ρ J' M' _ _ (by omega) (by omega) hρ h2))
      | k + 32, h => exact absurd h (by omega)
    · refine g_icmp_gt (tgt := 2122) B dL_law__29 (by decide) (fun _ => ?_) (fun h => absurd (?_ : nI L - nI 4 < nI (4 * c)) h)
      · refine g_iconst (v := 1) B dL_law__2122 (by decide) ?_
        exact hret _ _ _ _ (by omega) (by omega)
      · exact Int32.lt_iff_toInt_lt.mpr (by rw [pk_sub_toInt (by omega) (by omega), nI_toInt (by omega)]; omega)
