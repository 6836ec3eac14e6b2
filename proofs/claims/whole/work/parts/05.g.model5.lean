/-! The reference's closing, heirs, death. -/
def totM (M : Mem) (i : Nat) : Nat → Int64
  | 0 => 0
  | j + 1 => totM M i j + (M 20 (40 * j + i)).toInt64
def prtM (u : Int64) (h m : Int32) : Int64 := if u = 0 then 0 else h.toInt64 * m.toInt64 / u
def getM (u : Int64) (h m : Int32) : Int32 := if m.toInt64 < u then (prtM u h m).toInt32 else h
def re1 (M : Mem) (j i : Nat) (u : Int64) (m : Int32) : Mem := up M 14 j (M 14 j + getM u (M 20 (40 * j + i)) m)
def re2 (N M : Mem) (j i : Nat) : Mem := up N 26 5 (N 26 5 + M 20 (40 * j + i))
def re3 (M : Mem) (j i : Nat) (u : Int64) (m : Int32) : Mem := up (re2 (re1 M j i u m) M j i) 20 (40 * j + i) 0
def reS (M : Mem) (i : Nat) (u : Int64) (m : Int32) : Nat → Mem × Int32
  | 0 => (M, m)
  | j + 1 => (re3 (reS M i u m j).1 j i u m, (reS M i u m j).2 - getM u ((reS M i u m j).1 20 (40 * j + i)) m)
theorem reS_s (M : Mem) (i : Nat) (u : Int64) (m : Int32) (j : Nat) : reS M i u m (j + 1) = (re3 (reS M i u m j).1 j i u m, (reS M i u m j).2 - getM u ((reS M i u m j).1 20 (40 * j + i)) m) := rfl
theorem lc0 {x y : Int64} : lg_cmp x y = 0 ↔ x = y := by
  have e2 : (y < x) ↔ y.toInt < x.toInt := Int64.lt_iff_toInt_lt
  have e3 : x = y ↔ x.toInt = y.toInt := Int64.toInt_inj.symm
  unfold lg_cmp
  split
  · rename_i h
    have h9 := e2.mp h
    exact ⟨fun w => absurd w (by decide), fun w => absurd (e3.mp w) (by omega)⟩
  · split
    · rename_i h1 h2
      exact ⟨fun _ => h2, fun _ => rfl⟩
    · rename_i h1 h2
      exact ⟨fun w => absurd w (by decide), fun w => absurd w h2⟩
theorem lcn {x y : Int64} : lg_cmp x y < 0 ↔ x < y := by
  have e : (x < y) ↔ x.toInt < y.toInt := Int64.lt_iff_toInt_lt
  have e2 : (y < x) ↔ y.toInt < x.toInt := Int64.lt_iff_toInt_lt
  have e3 : x = y ↔ x.toInt = y.toInt := Int64.toInt_inj.symm
  unfold lg_cmp
  split
  · rename_i h
    have h9 := e2.mp h
    exact ⟨fun w => absurd w (by decide), fun w => absurd (e.mp w) (by omega)⟩
  · split
    · rename_i h1 h2
      have h9 := e3.mp h2
      exact ⟨fun w => absurd w (by decide), fun w => absurd (e.mp w) (by omega)⟩
    · rename_i h1 h2
      have a1 : ¬ y.toInt < x.toInt := fun z => h1 (e2.mpr z)
      have a2 : ¬ x.toInt = y.toInt := fun z => h2 (e3.mpr z)
      exact ⟨fun _ => e.mpr (by omega), fun _ => by decide⟩
theorem reS_9 {M : Mem} {i : Nat} {u : Int64} {m : Int32} : ∀ j : Nat, (reS M i u m j).1 9 = M 9
  | 0 => rfl
  | j + 1 => by
    rw [reS_s]
    dsimp only
    unfold re3 re2 re1
    rw [up_ne (by decide), up_ne (by decide), up_ne (by decide)]
    exact reS_9 j
set_option maxRecDepth 100000 in
set_option maxHeartbeats 4000000 in
theorem c_X3_redeems {l : Launch} (hl : l.stackTraces = false) {n : Nat} {ρ : Nat → Nat} {J : Nat → Int64} {M : Mem} {i : Nat} (hi : i < 40) {m : Int32} (hn : n ≤ 10) (hm : M 9 0 = nI n) : CtO l yX3_redeems cX3_redeems 11 (some .int) 0 0 0 n ρ J M [.ref (ρ 9), .int (nI i), .int m] (rI (reS M i (totM M i n) m n).2 (reS M i (totM M i n) m n).1) := by
  refine CtO.of hl (by decide +kernel) (Nat.le_of_ble_eq_true rfl) (fun Ξ hnL C => ?_)
  show E Ξ n ρ J M 0 0 0 [(0, .ref (ρ 9)), (1, .int (nI i)), (2, .int m)] []
  obtain ⟨U, hU⟩ : ∃ z, z = totM M i n := ⟨_, rfl⟩
  rw [← hU] at C
  have hm9 : ∀ N : Mem, N 9 = M 9 → N 9 0 = nI n := fun N h => by rw [h]; exact hm
  have loop2 : ∀ (f j : Nat) (N : Mem) (g : Int32), j + f = n → N 9 = M 9 → reS M i U m j = (N, g) → E Ξ n ρ J N 0 0 42 [(6, .int (nI j)), (5, .int g), (3, .long U), (0, .ref (ρ 9)), (1, .int (nI i)), (2, .int m)] [] := by
    intro f
    induction f with
    | zero =>
      intro j N g hjf hN9 hN
      have hjn : j = n := by omega
      have hN2 : reS M i U m n = (N, g) := by rw [← hjn]; exact hN
      refine e_iload (j := 0) C dX3_redeems_42 rfl ?_
      refine e_aload_n (j := 3) C dX3_redeems_44 rfl rfl ?_
      refine e_get3 (k := 0) (ref := "ScripHollowModel") C (by decide) rfl rfl mw_158 dX3_redeems_45 ?_
      refine e_icmp_ge (tgt := 151) C dX3_redeems_48 (by decide) (fun c_48 => ?_) (fun c_48 => absurd (by rw [hm9 N hN9]; exact nI_le (by omega) (by omega)) c_48)
      refine e_iload (j := 1) C dX3_redeems_151 rfl ?_
      exact e_iret C rfl (Nat.le_of_ble_eq_true rfl) (Nat.le_of_ble_eq_true rfl) dX3_redeems_153 (pO.mk (by rw [hN2]))
    | succ f ih =>
      intro j N g hjf hN9 hN
      have hj : j < n := by omega
      have hps := reS_s M i U m j
      rw [hN] at hps
      dsimp only at hps
      unfold re3 re2 re1 getM prtM at hps
      refine e_iload (j := 0) C dX3_redeems_42 rfl ?_
      refine e_aload_n (j := 3) C dX3_redeems_44 rfl rfl ?_
      refine e_get3 (k := 0) (ref := "ScripHollowModel") C (by decide) rfl rfl mw_158 dX3_redeems_45 ?_
      refine e_icmp_ge (tgt := 151) C dX3_redeems_48 (by decide) (fun c_48 => absurd c_48 (by rw [hm9 N hN9]; exact nI_ge hj (by omega))) (fun c_48 => ?_)
      refine e_aload_n (j := 3) C dX3_redeems_51 rfl rfl ?_
      refine e_get3 (k := 11) (ref := "ScripHollowModel") C (by decide) rfl rfl mw_64 dX3_redeems_52 ?_
      refine e_bipush (v := 40) C dX3_redeems_55 (by decide) ?_
      refine e_iload (j := 0) C dX3_redeems_57 rfl ?_
      refine e_imul C dX3_redeems_59 ?_
      refine e_iload_n (j := 4) C dX3_redeems_60 rfl rfl ?_
      refine e_iadd C dX3_redeems_61 ?_
      refine e_ialdN (40 * j + i) C (cnt_fix (by decide)) (fun _ => rfl) (ix40 j i) (by omega) (by decide) dX3_redeems_62 ?_
      refine e_topi (fun x7_63 ex7_63 => ?_)
      refine e_istore (ls2 := [(7, .int x7_63), (6, .int (nI j)), (5, .int g), (3, .long U), (0, .ref (ρ 9)), (1, .int (nI i)), (2, .int m)]) C hnL dX3_redeems_63 (by decide) rfl ?_
      refine e_lload_n (j := 3) C dX3_redeems_65 rfl rfl ?_
      refine e_lconst (v := 0) C dX3_redeems_66 (by decide) ?_
      refine e_lcmp C dX3_redeems_67 ?_
      refine e_if_ne (tgt := 75) C dX3_redeems_68 (by decide) (fun c_68 => ?_) (fun c_68 => ?_)
      · have z_68 : ¬ U = 0 := fun w => c_68 (lc0.mpr w)
        refine e_iload (j := 0) C dX3_redeems_75 rfl ?_
        refine e_i2l C dX3_redeems_77 ?_
        refine e_iload_n (j := 6) C dX3_redeems_78 rfl rfl ?_
        refine e_i2l C dX3_redeems_79 ?_
        refine e_lmul C dX3_redeems_80 ?_
        refine e_lload_n (j := 3) C dX3_redeems_81 rfl rfl ?_
        refine e_ldiv C dX3_redeems_82 z_68 ?_
        refine e_topl (fun x8_83 ex8_83 => ?_)
        refine e_lstore (ls2 := [(8, .long x8_83), (7, .int x7_63), (6, .int (nI j)), (5, .int g), (3, .long U), (0, .ref (ρ 9)), (1, .int (nI i)), (2, .int m)]) C hnL dX3_redeems_83 (by decide) rfl ?_
        refine e_iload_n (j := 7) C dX3_redeems_85 rfl rfl ?_
        refine e_i2l C dX3_redeems_86 ?_
        refine e_lload_n (j := 4) C dX3_redeems_87 rfl rfl ?_
        refine e_lcmp C dX3_redeems_88 ?_
        refine e_if_lt (tgt := 97) C dX3_redeems_89 (by decide) (fun c_89 => ?_) (fun c_89 => ?_)
        · have z_89 := lcn.mp c_89
          refine e_lload (j := 0) C dX3_redeems_97 rfl ?_
          refine e_l2i C dX3_redeems_99 ?_
          refine e_topi (fun x10_100 ex10_100 => ?_)
          refine e_istore (ls2 := [(10, .int x10_100), (8, .long x8_83), (7, .int x7_63), (6, .int (nI j)), (5, .int g), (3, .long U), (0, .ref (ρ 9)), (1, .int (nI i)), (2, .int m)]) C hnL dX3_redeems_100 (by decide) rfl ?_
          refine e_aload_n (j := 6) C dX3_redeems_102 rfl rfl ?_
          refine e_get3 (k := 5) (ref := "ScripHollowModel") C (by decide) rfl rfl mw_58 dX3_redeems_103 ?_
          refine e_iload (j := 3) C dX3_redeems_106 rfl ?_
          refine e_dup2 C dX3_redeems_108 rfl rfl ?_
          refine e_ialdN j C (cnt_fix (by decide)) (fun _ => rfl) rfl (by omega) (by decide) dX3_redeems_109 ?_
          refine e_iload (j := 0) C dX3_redeems_110 rfl ?_
          refine e_iadd C dX3_redeems_112 ?_
          refine e_iastN j C (cnt_fix (by decide)) (fun _ _ => rfl) rfl (by omega) (by decide) dX3_redeems_113 ?_
          refine e_iload (j := 4) C dX3_redeems_114 rfl ?_
          refine e_iload (j := 0) C dX3_redeems_116 rfl ?_
          refine e_isub C dX3_redeems_118 ?_
          refine e_topi (fun x5_119 ex5_119 => ?_)
          refine e_istore (ls2 := [(5, .int x5_119), (10, .int x10_100), (8, .long x8_83), (7, .int x7_63), (6, .int (nI j)), (3, .long U), (0, .ref (ρ 9)), (1, .int (nI i)), (2, .int m)]) C hnL dX3_redeems_119 (by decide) rfl ?_
          refine e_aload_n (j := 6) C dX3_redeems_121 rfl rfl ?_
          refine e_get3 (k := 17) (ref := "ScripHollowModel") C (by decide) rfl rfl mw_70 dX3_redeems_122 ?_
          refine e_iconst (v := 5) C dX3_redeems_125 (by decide) ?_
          refine e_dup2 C dX3_redeems_126 rfl rfl ?_
          refine e_ialdN 5 C (cnt_fix (by decide)) (fun _ => rfl) rfl (by decide) (by decide) dX3_redeems_127 ?_
          refine e_iload (j := 3) C dX3_redeems_128 rfl ?_
          refine e_iadd C dX3_redeems_130 ?_
          refine e_iastN 5 C (cnt_fix (by decide)) (fun _ _ => rfl) rfl (by decide) (by decide) dX3_redeems_131 ?_
          refine e_aload_n (j := 6) C dX3_redeems_132 rfl rfl ?_
          refine e_get3 (k := 11) (ref := "ScripHollowModel") C (by decide) rfl rfl mw_64 dX3_redeems_133 ?_
          refine e_bipush (v := 40) C dX3_redeems_136 (by decide) ?_
          refine e_iload (j := 4) C dX3_redeems_138 rfl ?_
          refine e_imul C dX3_redeems_140 ?_
          refine e_iload_n (j := 7) C dX3_redeems_141 rfl rfl ?_
          refine e_iadd C dX3_redeems_142 ?_
          refine e_iconst (v := 0) C dX3_redeems_143 (by decide) ?_
          refine e_iastN (40 * j + i) C (cnt_fix (by decide)) (fun _ _ => rfl) (ix40 j i) (by omega) (by decide) dX3_redeems_144 ?_
          obtain ⟨x6_145, ex6_145⟩ : ∃ z : Int32, z = (nI j) + 1 := ⟨_, rfl⟩
          refine e_iinc (j := 4) (v := x6_145) (ls2 := [(6, .int x6_145), (5, .int x5_119), (10, .int x10_100), (8, .long x8_83), (7, .int x7_63), (3, .long U), (0, .ref (ρ 9)), (1, .int (nI i)), (2, .int m)]) C hnL dX3_redeems_145 rfl (by rw [ex6_145]; rfl) (by decide) rfl ?_
          refine e_goto (tgt := 42) C dX3_redeems_148 (by decide) ?_
          subst ex6_145 ex5_119 ex10_100 ex8_83 ex7_63
          rw [nI_1]
          exact e_sub [0, 1, 5, 6, 7, 8] rfl (ih (j + 1) _ _ (by omega) (by rw [up_ne (by decide), up_ne (by decide), up_ne (by decide)]; exact hN9) (by rw [hps]; (repeat (first | rw [if_pos z_68] | rw [if_neg z_68] | rw [if_pos z_89] | rw [if_neg z_89]))))
        · have z_89 : ¬ m.toInt64 < U := fun w => c_89 (lcn.mpr w)
          refine e_iload (j := 1) C dX3_redeems_92 rfl ?_
          refine e_goto (tgt := 100) C dX3_redeems_94 (by decide) ?_
          refine e_istore (ls2 := [(10, .int x7_63), (8, .long x8_83), (7, .int x7_63), (6, .int (nI j)), (5, .int g), (3, .long U), (0, .ref (ρ 9)), (1, .int (nI i)), (2, .int m)]) C hnL dX3_redeems_100 (by decide) rfl ?_
          refine e_aload_n (j := 6) C dX3_redeems_102 rfl rfl ?_
          refine e_get3 (k := 5) (ref := "ScripHollowModel") C (by decide) rfl rfl mw_58 dX3_redeems_103 ?_
          refine e_iload (j := 3) C dX3_redeems_106 rfl ?_
          refine e_dup2 C dX3_redeems_108 rfl rfl ?_
          refine e_ialdN j C (cnt_fix (by decide)) (fun _ => rfl) rfl (by omega) (by decide) dX3_redeems_109 ?_
          refine e_iload (j := 0) C dX3_redeems_110 rfl ?_
          refine e_iadd C dX3_redeems_112 ?_
          refine e_iastN j C (cnt_fix (by decide)) (fun _ _ => rfl) rfl (by omega) (by decide) dX3_redeems_113 ?_
          refine e_iload (j := 4) C dX3_redeems_114 rfl ?_
          refine e_iload (j := 0) C dX3_redeems_116 rfl ?_
          refine e_isub C dX3_redeems_118 ?_
          refine e_topi (fun x5_119 ex5_119 => ?_)
          refine e_istore (ls2 := [(5, .int x5_119), (10, .int x7_63), (8, .long x8_83), (7, .int x7_63), (6, .int (nI j)), (3, .long U), (0, .ref (ρ 9)), (1, .int (nI i)), (2, .int m)]) C hnL dX3_redeems_119 (by decide) rfl ?_
          refine e_aload_n (j := 6) C dX3_redeems_121 rfl rfl ?_
          refine e_get3 (k := 17) (ref := "ScripHollowModel") C (by decide) rfl rfl mw_70 dX3_redeems_122 ?_
          refine e_iconst (v := 5) C dX3_redeems_125 (by decide) ?_
          refine e_dup2 C dX3_redeems_126 rfl rfl ?_
          refine e_ialdN 5 C (cnt_fix (by decide)) (fun _ => rfl) rfl (by decide) (by decide) dX3_redeems_127 ?_
          refine e_iload (j := 3) C dX3_redeems_128 rfl ?_
          refine e_iadd C dX3_redeems_130 ?_
          refine e_iastN 5 C (cnt_fix (by decide)) (fun _ _ => rfl) rfl (by decide) (by decide) dX3_redeems_131 ?_
          refine e_aload_n (j := 6) C dX3_redeems_132 rfl rfl ?_
          refine e_get3 (k := 11) (ref := "ScripHollowModel") C (by decide) rfl rfl mw_64 dX3_redeems_133 ?_
          refine e_bipush (v := 40) C dX3_redeems_136 (by decide) ?_
          refine e_iload (j := 4) C dX3_redeems_138 rfl ?_
          refine e_imul C dX3_redeems_140 ?_
          refine e_iload_n (j := 7) C dX3_redeems_141 rfl rfl ?_
          refine e_iadd C dX3_redeems_142 ?_
          refine e_iconst (v := 0) C dX3_redeems_143 (by decide) ?_
          refine e_iastN (40 * j + i) C (cnt_fix (by decide)) (fun _ _ => rfl) (ix40 j i) (by omega) (by decide) dX3_redeems_144 ?_
          obtain ⟨x6_145, ex6_145⟩ : ∃ z : Int32, z = (nI j) + 1 := ⟨_, rfl⟩
          refine e_iinc (j := 4) (v := x6_145) (ls2 := [(6, .int x6_145), (5, .int x5_119), (10, .int x7_63), (8, .long x8_83), (7, .int x7_63), (3, .long U), (0, .ref (ρ 9)), (1, .int (nI i)), (2, .int m)]) C hnL dX3_redeems_145 rfl (by rw [ex6_145]; rfl) (by decide) rfl ?_
          refine e_goto (tgt := 42) C dX3_redeems_148 (by decide) ?_
          subst ex6_145 ex5_119 ex7_63 ex8_83
          rw [nI_1]
          exact e_sub [0, 1, 5, 6, 7, 8] rfl (ih (j + 1) _ _ (by omega) (by rw [up_ne (by decide), up_ne (by decide), up_ne (by decide)]; exact hN9) (by rw [hps]; (repeat (first | rw [if_pos z_68] | rw [if_neg z_68] | rw [if_pos z_89] | rw [if_neg z_89]))))
      · have z_68 := lc0.mp c_68
        refine e_lconst (v := 0) C dX3_redeems_71 (by decide) ?_
        refine e_goto (tgt := 83) C dX3_redeems_72 (by decide) ?_
        refine e_lstore (ls2 := [(8, .long 0), (7, .int x7_63), (6, .int (nI j)), (5, .int g), (3, .long U), (0, .ref (ρ 9)), (1, .int (nI i)), (2, .int m)]) C hnL dX3_redeems_83 (by decide) rfl ?_
        refine e_iload_n (j := 7) C dX3_redeems_85 rfl rfl ?_
        refine e_i2l C dX3_redeems_86 ?_
        refine e_lload_n (j := 4) C dX3_redeems_87 rfl rfl ?_
        refine e_lcmp C dX3_redeems_88 ?_
        refine e_if_lt (tgt := 97) C dX3_redeems_89 (by decide) (fun c_89 => ?_) (fun c_89 => ?_)
        · have z_89 := lcn.mp c_89
          refine e_lload (j := 0) C dX3_redeems_97 rfl ?_
          refine e_l2i C dX3_redeems_99 ?_
          refine e_topi (fun x10_100 ex10_100 => ?_)
          refine e_istore (ls2 := [(10, .int x10_100), (8, .long 0), (7, .int x7_63), (6, .int (nI j)), (5, .int g), (3, .long U), (0, .ref (ρ 9)), (1, .int (nI i)), (2, .int m)]) C hnL dX3_redeems_100 (by decide) rfl ?_
          refine e_aload_n (j := 6) C dX3_redeems_102 rfl rfl ?_
          refine e_get3 (k := 5) (ref := "ScripHollowModel") C (by decide) rfl rfl mw_58 dX3_redeems_103 ?_
          refine e_iload (j := 3) C dX3_redeems_106 rfl ?_
          refine e_dup2 C dX3_redeems_108 rfl rfl ?_
          refine e_ialdN j C (cnt_fix (by decide)) (fun _ => rfl) rfl (by omega) (by decide) dX3_redeems_109 ?_
          refine e_iload (j := 0) C dX3_redeems_110 rfl ?_
          refine e_iadd C dX3_redeems_112 ?_
          refine e_iastN j C (cnt_fix (by decide)) (fun _ _ => rfl) rfl (by omega) (by decide) dX3_redeems_113 ?_
          refine e_iload (j := 4) C dX3_redeems_114 rfl ?_
          refine e_iload (j := 0) C dX3_redeems_116 rfl ?_
          refine e_isub C dX3_redeems_118 ?_
          refine e_topi (fun x5_119 ex5_119 => ?_)
          refine e_istore (ls2 := [(5, .int x5_119), (10, .int x10_100), (8, .long 0), (7, .int x7_63), (6, .int (nI j)), (3, .long U), (0, .ref (ρ 9)), (1, .int (nI i)), (2, .int m)]) C hnL dX3_redeems_119 (by decide) rfl ?_
          refine e_aload_n (j := 6) C dX3_redeems_121 rfl rfl ?_
          refine e_get3 (k := 17) (ref := "ScripHollowModel") C (by decide) rfl rfl mw_70 dX3_redeems_122 ?_
          refine e_iconst (v := 5) C dX3_redeems_125 (by decide) ?_
          refine e_dup2 C dX3_redeems_126 rfl rfl ?_
          refine e_ialdN 5 C (cnt_fix (by decide)) (fun _ => rfl) rfl (by decide) (by decide) dX3_redeems_127 ?_
          refine e_iload (j := 3) C dX3_redeems_128 rfl ?_
          refine e_iadd C dX3_redeems_130 ?_
          refine e_iastN 5 C (cnt_fix (by decide)) (fun _ _ => rfl) rfl (by decide) (by decide) dX3_redeems_131 ?_
          refine e_aload_n (j := 6) C dX3_redeems_132 rfl rfl ?_
          refine e_get3 (k := 11) (ref := "ScripHollowModel") C (by decide) rfl rfl mw_64 dX3_redeems_133 ?_
          refine e_bipush (v := 40) C dX3_redeems_136 (by decide) ?_
          refine e_iload (j := 4) C dX3_redeems_138 rfl ?_
          refine e_imul C dX3_redeems_140 ?_
          refine e_iload_n (j := 7) C dX3_redeems_141 rfl rfl ?_
          refine e_iadd C dX3_redeems_142 ?_
          refine e_iconst (v := 0) C dX3_redeems_143 (by decide) ?_
          refine e_iastN (40 * j + i) C (cnt_fix (by decide)) (fun _ _ => rfl) (ix40 j i) (by omega) (by decide) dX3_redeems_144 ?_
          obtain ⟨x6_145, ex6_145⟩ : ∃ z : Int32, z = (nI j) + 1 := ⟨_, rfl⟩
          refine e_iinc (j := 4) (v := x6_145) (ls2 := [(6, .int x6_145), (5, .int x5_119), (10, .int x10_100), (8, .long 0), (7, .int x7_63), (3, .long U), (0, .ref (ρ 9)), (1, .int (nI i)), (2, .int m)]) C hnL dX3_redeems_145 rfl (by rw [ex6_145]; rfl) (by decide) rfl ?_
          refine e_goto (tgt := 42) C dX3_redeems_148 (by decide) ?_
          subst ex6_145 ex5_119 ex10_100 ex7_63
          rw [nI_1]
          exact e_sub [0, 1, 5, 6, 7, 8] rfl (ih (j + 1) _ _ (by omega) (by rw [up_ne (by decide), up_ne (by decide), up_ne (by decide)]; exact hN9) (by rw [hps]; (repeat (first | rw [if_pos z_68] | rw [if_neg z_68] | rw [if_pos z_89] | rw [if_neg z_89]))))
        · have z_89 : ¬ m.toInt64 < U := fun w => c_89 (lcn.mpr w)
          refine e_iload (j := 1) C dX3_redeems_92 rfl ?_
          refine e_goto (tgt := 100) C dX3_redeems_94 (by decide) ?_
          refine e_istore (ls2 := [(10, .int x7_63), (8, .long 0), (7, .int x7_63), (6, .int (nI j)), (5, .int g), (3, .long U), (0, .ref (ρ 9)), (1, .int (nI i)), (2, .int m)]) C hnL dX3_redeems_100 (by decide) rfl ?_
          refine e_aload_n (j := 6) C dX3_redeems_102 rfl rfl ?_
          refine e_get3 (k := 5) (ref := "ScripHollowModel") C (by decide) rfl rfl mw_58 dX3_redeems_103 ?_
          refine e_iload (j := 3) C dX3_redeems_106 rfl ?_
          refine e_dup2 C dX3_redeems_108 rfl rfl ?_
          refine e_ialdN j C (cnt_fix (by decide)) (fun _ => rfl) rfl (by omega) (by decide) dX3_redeems_109 ?_
          refine e_iload (j := 0) C dX3_redeems_110 rfl ?_
          refine e_iadd C dX3_redeems_112 ?_
          refine e_iastN j C (cnt_fix (by decide)) (fun _ _ => rfl) rfl (by omega) (by decide) dX3_redeems_113 ?_
          refine e_iload (j := 4) C dX3_redeems_114 rfl ?_
          refine e_iload (j := 0) C dX3_redeems_116 rfl ?_
          refine e_isub C dX3_redeems_118 ?_
          refine e_topi (fun x5_119 ex5_119 => ?_)
          refine e_istore (ls2 := [(5, .int x5_119), (10, .int x7_63), (8, .long 0), (7, .int x7_63), (6, .int (nI j)), (3, .long U), (0, .ref (ρ 9)), (1, .int (nI i)), (2, .int m)]) C hnL dX3_redeems_119 (by decide) rfl ?_
          refine e_aload_n (j := 6) C dX3_redeems_121 rfl rfl ?_
          refine e_get3 (k := 17) (ref := "ScripHollowModel") C (by decide) rfl rfl mw_70 dX3_redeems_122 ?_
          refine e_iconst (v := 5) C dX3_redeems_125 (by decide) ?_
          refine e_dup2 C dX3_redeems_126 rfl rfl ?_
          refine e_ialdN 5 C (cnt_fix (by decide)) (fun _ => rfl) rfl (by decide) (by decide) dX3_redeems_127 ?_
          refine e_iload (j := 3) C dX3_redeems_128 rfl ?_
          refine e_iadd C dX3_redeems_130 ?_
          refine e_iastN 5 C (cnt_fix (by decide)) (fun _ _ => rfl) rfl (by decide) (by decide) dX3_redeems_131 ?_
          refine e_aload_n (j := 6) C dX3_redeems_132 rfl rfl ?_
          refine e_get3 (k := 11) (ref := "ScripHollowModel") C (by decide) rfl rfl mw_64 dX3_redeems_133 ?_
          refine e_bipush (v := 40) C dX3_redeems_136 (by decide) ?_
          refine e_iload (j := 4) C dX3_redeems_138 rfl ?_
          refine e_imul C dX3_redeems_140 ?_
          refine e_iload_n (j := 7) C dX3_redeems_141 rfl rfl ?_
          refine e_iadd C dX3_redeems_142 ?_
          refine e_iconst (v := 0) C dX3_redeems_143 (by decide) ?_
          refine e_iastN (40 * j + i) C (cnt_fix (by decide)) (fun _ _ => rfl) (ix40 j i) (by omega) (by decide) dX3_redeems_144 ?_
          obtain ⟨x6_145, ex6_145⟩ : ∃ z : Int32, z = (nI j) + 1 := ⟨_, rfl⟩
          refine e_iinc (j := 4) (v := x6_145) (ls2 := [(6, .int x6_145), (5, .int x5_119), (10, .int x7_63), (8, .long 0), (7, .int x7_63), (3, .long U), (0, .ref (ρ 9)), (1, .int (nI i)), (2, .int m)]) C hnL dX3_redeems_145 rfl (by rw [ex6_145]; rfl) (by decide) rfl ?_
          refine e_goto (tgt := 42) C dX3_redeems_148 (by decide) ?_
          subst ex6_145 ex5_119 ex7_63
          rw [nI_1]
          exact e_sub [0, 1, 5, 6, 7, 8] rfl (ih (j + 1) _ _ (by omega) (by rw [up_ne (by decide), up_ne (by decide), up_ne (by decide)]; exact hN9) (by rw [hps]; (repeat (first | rw [if_pos z_68] | rw [if_neg z_68] | rw [if_pos z_89] | rw [if_neg z_89]))))
  have loop : ∀ (f j : Nat), j + f = n → E Ξ n ρ J M 0 0 5 [(5, .int (nI j)), (3, .long (totM M i j)), (0, .ref (ρ 9)), (1, .int (nI i)), (2, .int m)] [] := by
    intro f
    induction f with
    | zero =>
      intro j hjf
      have hjn : j = n := by omega
      rw [hjn, ← hU]
      refine e_iload (j := 0) C dX3_redeems_5 rfl ?_
      refine e_aload_n (j := 2) C dX3_redeems_7 rfl rfl ?_
      refine e_get3 (k := 0) (ref := "ScripHollowModel") C (by decide) rfl rfl mw_158 dX3_redeems_8 ?_
      refine e_icmp_ge (tgt := 36) C dX3_redeems_11 (by decide) (fun c_11 => ?_) (fun c_11 => absurd (by rw [hm]; exact nI_le (Nat.le_refl n) (by omega)) c_11)
      refine e_iload_n (j := 4) C dX3_redeems_36 rfl rfl ?_
      refine e_istore (ls2 := [(5, .int m), (3, .long U), (0, .ref (ρ 9)), (1, .int (nI i)), (2, .int m)]) C hnL dX3_redeems_37 (by decide) rfl ?_
      refine e_iconst (v := 0) C dX3_redeems_39 (by decide) ?_
      refine e_istore (ls2 := [(6, .int 0), (5, .int m), (3, .long U), (0, .ref (ρ 9)), (1, .int (nI i)), (2, .int m)]) C hnL dX3_redeems_40 (by decide) rfl ?_
      exact e_sub [0, 1, 2, 3, 4, 5] rfl (loop2 n 0 M m (by omega) rfl rfl)
    | succ f ih =>
      intro j hjf
      have hj : j < n := by omega
      refine e_iload (j := 0) C dX3_redeems_5 rfl ?_
      refine e_aload_n (j := 2) C dX3_redeems_7 rfl rfl ?_
      refine e_get3 (k := 0) (ref := "ScripHollowModel") C (by decide) rfl rfl mw_158 dX3_redeems_8 ?_
      refine e_icmp_ge (tgt := 36) C dX3_redeems_11 (by decide) (fun c_11 => absurd c_11 (by rw [hm]; exact nI_ge hj (by omega))) (fun c_11 => ?_)
      refine e_lload_n (j := 1) C dX3_redeems_14 rfl rfl ?_
      refine e_aload_n (j := 2) C dX3_redeems_15 rfl rfl ?_
      refine e_get3 (k := 11) (ref := "ScripHollowModel") C (by decide) rfl rfl mw_64 dX3_redeems_16 ?_
      refine e_bipush (v := 40) C dX3_redeems_19 (by decide) ?_
      refine e_iload (j := 0) C dX3_redeems_21 rfl ?_
      refine e_imul C dX3_redeems_23 ?_
      refine e_iload_n (j := 3) C dX3_redeems_24 rfl rfl ?_
      refine e_iadd C dX3_redeems_25 ?_
      refine e_ialdN (40 * j + i) C (cnt_fix (by decide)) (fun _ => rfl) (ix40 j i) (by omega) (by decide) dX3_redeems_26 ?_
      refine e_i2l C dX3_redeems_27 ?_
      refine e_ladd C dX3_redeems_28 ?_
      refine e_topl (fun x3_29 ex3_29 => ?_)
      refine e_lstore_n (ls2 := [(3, .long x3_29), (5, .int (nI j)), (0, .ref (ρ 9)), (1, .int (nI i)), (2, .int m)]) C hnL dX3_redeems_29 rfl (by decide) rfl ?_
      obtain ⟨x5_30, ex5_30⟩ : ∃ z : Int32, z = (nI j) + 1 := ⟨_, rfl⟩
      refine e_iinc (j := 1) (v := x5_30) (ls2 := [(5, .int x5_30), (3, .long x3_29), (0, .ref (ρ 9)), (1, .int (nI i)), (2, .int m)]) C hnL dX3_redeems_30 rfl (by rw [ex5_30]; rfl) (by decide) rfl ?_
      refine e_goto (tgt := 5) C dX3_redeems_33 (by decide) ?_
      subst ex5_30 ex3_29
      rw [nI_1]
      exact e_sub [0, 1, 2, 3, 4] rfl (ih (j + 1) (by omega))
  refine e_lconst (v := 0) C dX3_redeems_0 (by decide) ?_
  refine e_lstore_n (ls2 := [(3, .long 0), (0, .ref (ρ 9)), (1, .int (nI i)), (2, .int m)]) C hnL dX3_redeems_1 rfl (by decide) rfl ?_
  refine e_iconst (v := 0) C dX3_redeems_2 (by decide) ?_
  refine e_istore (ls2 := [(5, .int 0), (3, .long 0), (0, .ref (ρ 9)), (1, .int (nI i)), (2, .int m)]) C hnL dX3_redeems_3 (by decide) rfl ?_
  exact e_sub [0, 1, 2, 3, 4] rfl (loop n 0 (by omega))
def cmS (n : Nat) (M : Mem) (m : Int32) : Nat → Mem × Int32
  | 0 => (M, m)
  | i + 1 => reS (cmS n M m i).1 i (totM (cmS n M m i).1 i n) (cmS n M m i).2 n
theorem cmS_s (n : Nat) (M : Mem) (m : Int32) (i : Nat) : cmS n M m (i + 1) = reS (cmS n M m i).1 i (totM (cmS n M m i).1 i n) (cmS n M m i).2 n := rfl
def cmF (N : Mem) : Mem := up (up N 9 27 1) 9 26 0
def omclose (M : Mem) (n : Nat) (m : Int32) : Out := if m < 0 ∨ 100000 < m then mo M 1 0 else if M 9 27 = 0 then rI (cmS n (ml M 0) m 40).2 (cmF (cmS n (ml M 0) m 40).1) else mo M 2 0
set_option maxRecDepth 100000 in
set_option maxHeartbeats 4000000 in
theorem c_X3_close {l : Launch} (hl : l.stackTraces = false) {n : Nat} {ρ : Nat → Nat} {J : Nat → Int64} {M : Mem} {m : Int32} (hn : n ≤ 10) (hm : M 9 0 = nI n) : CtO l yX3_close cX3_close 4 (some .int) 3 0 0 n ρ J M [.ref (ρ 9), .int m] (omclose M n m) := by
  refine CtO.of hl (by decide +kernel) (Nat.le_of_ble_eq_true rfl) (fun Ξ hnL C => ?_)
  show E Ξ n ρ J M 0 0 0 [(0, .ref (ρ 9)), (1, .int m)] []
  by_cases h : m < 0 ∨ 100000 < m
  · refine e_aload_n (j := 0) C dX3_close_0 rfl rfl ?_
    refine e_iload_n (j := 1) C dX3_close_1 rfl rfl ?_
    refine e_iconst (v := 0) C dX3_close_2 (by decide) ?_
    refine e_ldc (v := 100000) C dX3_close_3 mw_534 ?_
    refine e_cS (nA := 3) C (c_X3_in0 hl h) rfl mw_216 mw_214 mw_215 mw_5 (by decide +kernel) (by decide) rfl rfl (Nat.le_of_ble_eq_true rfl) dX3_close_5 (Nat.le_of_ble_eq_true rfl) (Nat.le_of_ble_eq_true rfl) ?_
    refine e_aload_n (j := 0) C dX3_close_8 rfl rfl ?_
    refine e_get3 (k := 27) (ref := "ScripHollowModel") C (by decide) rfl rfl mw_260 dX3_close_9 ?_
    refine e_if_ne (tgt := 19) C dX3_close_12 (by decide) (fun c_12 => ?_) (fun c_12 => ?_)
    · refine e_iconst (v := 0) C dX3_close_19 (by decide) ?_
      refine e_iconst (v := 1) C dX3_close_20 (by decide) ?_
      refine e_cV (i := 9) (nA := 3) (Cn := RX3) C (c_X3_g1 hl) rfl (cnt_fix (by decide)) (fun _ => rfl) rfl rfl mw_162 mw_159 mw_160 mw_161 mw_5 (by decide +kernel) (by decide) rfl rfl (Nat.le_of_ble_eq_true rfl) dX3_close_21 (Nat.le_of_ble_eq_true rfl) (Nat.le_of_ble_eq_true rfl) ?_
      refine e_if_ne (tgt := 29) C dX3_close_24 (by decide) (fun c_24 => absurd (by decide) c_24) (fun c_24 => ?_)
      refine e_iconst (v := 0) C dX3_close_27 (by decide) ?_
      exact e_iret C rfl (Nat.le_of_ble_eq_true rfl) (Nat.le_of_ble_eq_true rfl) dX3_close_28 (pO.mk (by unfold omclose; rw [if_pos h]))
    · refine e_iconst (v := 1) C dX3_close_15 (by decide) ?_
      refine e_goto (tgt := 20) C dX3_close_16 (by decide) ?_
      refine e_iconst (v := 1) C dX3_close_20 (by decide) ?_
      refine e_cV (i := 9) (nA := 3) (Cn := RX3) C (c_X3_g1 hl) rfl (cnt_fix (by decide)) (fun _ => rfl) rfl rfl mw_162 mw_159 mw_160 mw_161 mw_5 (by decide +kernel) (by decide) rfl rfl (Nat.le_of_ble_eq_true rfl) dX3_close_21 (Nat.le_of_ble_eq_true rfl) (Nat.le_of_ble_eq_true rfl) ?_
      refine e_if_ne (tgt := 29) C dX3_close_24 (by decide) (fun c_24 => absurd (by decide) c_24) (fun c_24 => ?_)
      refine e_iconst (v := 0) C dX3_close_27 (by decide) ?_
      exact e_iret C rfl (Nat.le_of_ble_eq_true rfl) (Nat.le_of_ble_eq_true rfl) dX3_close_28 (pO.mk (by unfold omclose; rw [if_pos h]))
  · by_cases h2 : M 9 27 = 0
    · have loop : ∀ (f j : Nat) (N : Mem) (g : Int32), j + f = 40 → N 9 0 = nI n → cmS n (ml M 0) m j = (N, g) → E Ξ n ρ J N 0 0 33 [(3, .int (nI j)), (2, .int g), (0, .ref (ρ 9)), (1, .int m)] [] := by
        intro f
        induction f with
        | zero =>
          intro j N g hjf hN9 hN
          have hjn : j = 40 := by omega
          have hN2 : cmS n (ml M 0) m 40 = (N, g) := by rw [← hjn]; exact hN
          refine e_iload_n (j := 0) C dX3_close_33 rfl rfl ?_
          refine e_bipush (v := 40) C dX3_close_34 (by decide) ?_
          refine e_icmp_ge (tgt := 52) C dX3_close_36 (by decide) (fun c_36 => ?_) (fun c_36 => absurd (nI_le (a := 40) (b := j) (by omega) (by omega)) c_36)
          refine e_aload_n (j := 2) C dX3_close_52 rfl rfl ?_
          refine e_iconst (v := 1) C dX3_close_53 (by decide) ?_
          refine e_put3 (k := 27) (ref := "ScripHollowModel") (ty := .boolean) C (by decide) rfl rfl (by decide +kernel) rfl rfl rfl mw_260 dX3_close_54 ?_
          refine e_aload_n (j := 2) C dX3_close_57 rfl rfl ?_
          refine e_iconst (v := 0) C dX3_close_58 (by decide) ?_
          refine e_put3 (k := 26) (ref := "ScripHollowModel") (ty := .boolean) C (by decide) rfl rfl (by decide +kernel) rfl rfl rfl mw_259 dX3_close_59 ?_
          refine e_iload_n (j := 1) C dX3_close_62 rfl rfl ?_
          exact e_iret C rfl (Nat.le_of_ble_eq_true rfl) (Nat.le_of_ble_eq_true rfl) dX3_close_63 (pO.mk (by unfold omclose; rw [if_neg h, if_pos h2, hN2]; rfl))
        | succ f ih =>
          intro j N g hjf hN9 hN
          have hps := cmS_s n (ml M 0) m j
          rw [hN] at hps
          refine e_iload_n (j := 0) C dX3_close_33 rfl rfl ?_
          refine e_bipush (v := 40) C dX3_close_34 (by decide) ?_
          refine e_icmp_ge (tgt := 52) C dX3_close_36 (by decide) (fun c_36 => absurd c_36 (nI_ge (a := j) (b := 40) (by omega) (by omega))) (fun c_36 => ?_)
          refine e_aload_n (j := 2) C dX3_close_39 rfl rfl ?_
          refine e_iload_n (j := 0) C dX3_close_40 rfl rfl ?_
          refine e_iload_n (j := 1) C dX3_close_41 rfl rfl ?_
          refine e_cV (i := 9) (nA := 2) (Cn := RX3) C (c_X3_redeems hl (i := j) (by omega) hn hN9) rfl (cnt_fix (by decide)) (fun _ => rfl) rfl rfl mw_671 mw_668 mw_669 mw_670 mw_5 (by decide +kernel) (by decide) rfl rfl (Nat.le_of_ble_eq_true rfl) dX3_close_42 (Nat.le_of_ble_eq_true rfl) (Nat.le_of_ble_eq_true rfl) ?_
          refine e_topi (fun x2_45 ex2_45 => ?_)
          refine e_istore_n (ls2 := [(2, .int x2_45), (3, .int (nI j)), (0, .ref (ρ 9)), (1, .int m)]) C hnL dX3_close_45 rfl (by decide) rfl ?_
          obtain ⟨x3_46, ex3_46⟩ : ∃ z : Int32, z = (nI j) + 1 := ⟨_, rfl⟩
          refine e_iinc (j := 1) (v := x3_46) (ls2 := [(3, .int x3_46), (2, .int x2_45), (0, .ref (ρ 9)), (1, .int m)]) C hnL dX3_close_46 rfl (by rw [ex3_46]; rfl) (by decide) rfl ?_
          refine e_goto (tgt := 33) C dX3_close_49 (by decide) ?_
          subst ex3_46 ex2_45
          rw [nI_1]
          exact e_sub [0, 1, 2, 3] rfl (ih (j + 1) _ _ (by omega) (by rw [reS_9]; exact hN9) hps)
      refine e_aload_n (j := 0) C dX3_close_0 rfl rfl ?_
      refine e_iload_n (j := 1) C dX3_close_1 rfl rfl ?_
      refine e_iconst (v := 0) C dX3_close_2 (by decide) ?_
      refine e_ldc (v := 100000) C dX3_close_3 mw_534 ?_
      refine e_cS (nA := 3) C (c_X3_in1 hl (rng_ok h).1 (rng_ok h).2) rfl mw_216 mw_214 mw_215 mw_5 (by decide +kernel) (by decide) rfl rfl (Nat.le_of_ble_eq_true rfl) dX3_close_5 (Nat.le_of_ble_eq_true rfl) (Nat.le_of_ble_eq_true rfl) ?_
      refine e_aload_n (j := 0) C dX3_close_8 rfl rfl ?_
      refine e_get3 (k := 27) (ref := "ScripHollowModel") C (by decide) rfl rfl mw_260 dX3_close_9 ?_
      refine e_if_ne (tgt := 19) C dX3_close_12 (by decide) (fun c_12 => absurd h2 c_12) (fun c_12 => ?_)
      refine e_iconst (v := 1) C dX3_close_15 (by decide) ?_
      refine e_goto (tgt := 20) C dX3_close_16 (by decide) ?_
      refine e_iconst (v := 1) C dX3_close_20 (by decide) ?_
      refine e_cV (i := 9) (nA := 3) (Cn := RX3) C (c_X3_g0 hl) rfl (cnt_fix (by decide)) (fun _ => rfl) rfl rfl mw_162 mw_159 mw_160 mw_161 mw_5 (by decide +kernel) (by decide) rfl rfl (Nat.le_of_ble_eq_true rfl) dX3_close_21 (Nat.le_of_ble_eq_true rfl) (Nat.le_of_ble_eq_true rfl) ?_
      refine e_if_ne (tgt := 29) C dX3_close_24 (by decide) (fun c_24 => ?_) (fun c_24 => absurd c_24 (by decide))
      refine e_iload_n (j := 1) C dX3_close_29 rfl rfl ?_
      refine e_istore_n (ls2 := [(2, .int m), (0, .ref (ρ 9)), (1, .int m)]) C hnL dX3_close_30 rfl (by decide) rfl ?_
      refine e_iconst (v := 0) C dX3_close_31 (by decide) ?_
      refine e_istore_n (ls2 := [(3, .int 0), (2, .int m), (0, .ref (ρ 9)), (1, .int m)]) C hnL dX3_close_32 rfl (by decide) rfl ?_
      exact e_sub [0, 1, 2, 3] rfl (loop 40 0 _ m (by omega) (by rw [ml_at (by decide)]; exact hm) rfl)
    · skip
      refine e_aload_n (j := 0) C dX3_close_0 rfl rfl ?_
      refine e_iload_n (j := 1) C dX3_close_1 rfl rfl ?_
      refine e_iconst (v := 0) C dX3_close_2 (by decide) ?_
      refine e_ldc (v := 100000) C dX3_close_3 mw_534 ?_
      refine e_cS (nA := 3) C (c_X3_in1 hl (rng_ok h).1 (rng_ok h).2) rfl mw_216 mw_214 mw_215 mw_5 (by decide +kernel) (by decide) rfl rfl (Nat.le_of_ble_eq_true rfl) dX3_close_5 (Nat.le_of_ble_eq_true rfl) (Nat.le_of_ble_eq_true rfl) ?_
      refine e_aload_n (j := 0) C dX3_close_8 rfl rfl ?_
      refine e_get3 (k := 27) (ref := "ScripHollowModel") C (by decide) rfl rfl mw_260 dX3_close_9 ?_
      refine e_if_ne (tgt := 19) C dX3_close_12 (by decide) (fun c_12 => ?_) (fun c_12 => absurd c_12 h2)
      refine e_iconst (v := 0) C dX3_close_19 (by decide) ?_
      refine e_iconst (v := 1) C dX3_close_20 (by decide) ?_
      refine e_cV (i := 9) (nA := 3) (Cn := RX3) C (c_X3_g2 hl) rfl (cnt_fix (by decide)) (fun _ => rfl) rfl rfl mw_162 mw_159 mw_160 mw_161 mw_5 (by decide +kernel) (by decide) rfl rfl (Nat.le_of_ble_eq_true rfl) dX3_close_21 (Nat.le_of_ble_eq_true rfl) (Nat.le_of_ble_eq_true rfl) ?_
      refine e_if_ne (tgt := 29) C dX3_close_24 (by decide) (fun c_24 => absurd (by decide) c_24) (fun c_24 => ?_)
      refine e_iconst (v := 0) C dX3_close_27 (by decide) ?_
      exact e_iret C rfl (Nat.le_of_ble_eq_true rfl) (Nat.le_of_ble_eq_true rfl) dX3_close_28 (pO.mk (by unfold omclose; rw [if_neg h, if_neg h2]))
