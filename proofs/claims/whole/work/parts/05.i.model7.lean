/-! The reference's death. -/
def lnS (M : Mem) (k : Nat) : Nat → Mem
  | 0 => M
  | i + 1 => up (up (lnS M k i) 26 4 (lnS M k i 26 4 + lnS M k i 20 (40 * k + i))) 20 (40 * k + i) 0
def lnG (M : Mem) (k : Nat) : Nat → Mem
  | 0 => M
  | g + 1 => up (lnG M k g) 21 (4 * k + g) 0
def lz (M : Mem) (k : Nat) : Mem := up (up (up M 14 k 0) 15 k 0) 16 k 0
def lnM (M : Mem) (k : Nat) : Mem := lz (lnG (lnS M k 40) k 4) k
def lhS (M : Mem) (k j : Nat) : Nat → Mem
  | 0 => M
  | i + 1 => up (up (lhS M k j i) 20 (40 * j + i) (lhS M k j i 20 (40 * j + i) + lhS M k j i 20 (40 * k + i))) 20 (40 * k + i) 0
def lhG (M : Mem) (k j : Nat) : Nat → Mem
  | 0 => M
  | g + 1 => up (up (lhG M k j g) 21 (4 * j + g) (lhG M k j g 21 (4 * j + g) + lhG M k j g 21 (4 * k + g))) 21 (4 * k + g) 0
def lh1 (M : Mem) (k j : Nat) : Mem := up M 14 j (M 14 j + M 14 k)
def lh2 (M : Mem) (k j : Nat) : Mem := up (up M 15 j (M 15 j + M 15 k)) 16 j (up M 15 j (M 15 j + M 15 k) 16 j + up M 15 j (M 15 j + M 15 k) 16 k)
def lh3 (M : Mem) (j : Nat) : Mem := up (up M 15 j (M 15 j + 0)) 16 j (up M 15 j (M 15 j + 0) 16 j + 0)
def lhM (M : Mem) (k j : Nat) : Mem := if M 25 2 = 0 then lz (lh2 (lh1 (lhG (lhS M k j 40) k j 4) k j) k j) k else lz (lh3 (lh1 (lhG (lhS M k j 40) k j 4) k j) j) k
set_option maxRecDepth 100000 in
set_option maxHeartbeats 4000000 in
theorem c_X3_leaves_n {l : Launch} (hl : l.stackTraces = false) {n : Nat} {ρ : Nat → Nat} {J : Nat → Int64} {M : Mem} {k : Nat} (hk : k < 10) : CtO l yX3_leaves cX3_leaves 5 none 0 0 0 n ρ J M [.ref (ρ 9), .int (nI k), .int (-1)] (rV (lnM M k)) := by
  refine CtO.of hl (by decide +kernel) (Nat.le_of_ble_eq_true rfl) (fun Ξ hnL C => ?_)
  show E Ξ n ρ J M 0 0 0 [(0, .ref (ρ 9)), (1, .int (nI k)), (2, .int (-1))] []
  skip
  have loopG : ∀ (f g : Nat), g + f = 4 → E Ξ n ρ J (lnG (lnS M k 40) k g) 0 0 108 [(4, .int (nI g)), (3, .int 1), (0, .ref (ρ 9)), (1, .int (nI k)), (2, .int (-1))] [] := by
    intro f
    induction f with
    | zero =>
      intro g hgf
      have hg4 : g = 4 := by omega
      rw [hg4]
      generalize hNN : (lnG (lnS M k 40) k 4) = NN
      refine e_iload (j := 0) C dX3_leaves_108 rfl ?_
      refine e_iconst (v := 4) C dX3_leaves_110 (by decide) ?_
      refine e_icmp_ge (tgt := 162) C dX3_leaves_111 (by decide) (fun c_111 => ?_) (fun c_111 => absurd (show (4 : Int32) ≤ nI 4 by decide) c_111)
      refine e_iload_n (j := 4) C dX3_leaves_162 rfl rfl ?_
      refine e_iconst (v := (-1)) C dX3_leaves_163 (by decide) ?_
      refine e_icmp_eq (tgt := 228) C dX3_leaves_164 (by decide) (fun c_164 => ?_) (fun c_164 => absurd (by decide) c_164)
      refine e_aload_n (j := 2) C dX3_leaves_228 rfl rfl ?_
      refine e_get3 (k := 5) (ref := "ScripHollowModel") C (by decide) rfl rfl mw_58 dX3_leaves_229 ?_
      refine e_iload_n (j := 3) C dX3_leaves_232 rfl rfl ?_
      refine e_iconst (v := 0) C dX3_leaves_233 (by decide) ?_
      refine e_iastN k C (cnt_fix (by decide)) (fun _ _ => rfl) rfl (by omega) (by decide) dX3_leaves_234 ?_
      refine e_aload_n (j := 2) C dX3_leaves_235 rfl rfl ?_
      refine e_get3 (k := 6) (ref := "ScripHollowModel") C (by decide) rfl rfl mw_59 dX3_leaves_236 ?_
      refine e_iload_n (j := 3) C dX3_leaves_239 rfl rfl ?_
      refine e_iconst (v := 0) C dX3_leaves_240 (by decide) ?_
      refine e_iastN k C (cnt_fix (by decide)) (fun _ _ => rfl) rfl (by omega) (by decide) dX3_leaves_241 ?_
      refine e_aload_n (j := 2) C dX3_leaves_242 rfl rfl ?_
      refine e_get3 (k := 7) (ref := "ScripHollowModel") C (by decide) rfl rfl mw_60 dX3_leaves_243 ?_
      refine e_iload_n (j := 3) C dX3_leaves_246 rfl rfl ?_
      refine e_iconst (v := 0) C dX3_leaves_247 (by decide) ?_
      refine e_iastN k C (cnt_fix (by decide)) (fun _ _ => rfl) rfl (by omega) (by decide) dX3_leaves_248 ?_
      exact e_vret C rfl (Nat.le_of_ble_eq_true rfl) (Nat.le_of_ble_eq_true rfl) dX3_leaves_249 (pO.mk (by show rV (lnM M k) = _; unfold lnM; rw [hNN]; rfl))
    | succ f ih =>
      intro g hgf
      have hg : g < 4 := by omega
      refine e_iload (j := 0) C dX3_leaves_108 rfl ?_
      refine e_iconst (v := 4) C dX3_leaves_110 (by decide) ?_
      refine e_icmp_ge (tgt := 162) C dX3_leaves_111 (by decide) (fun c_111 => absurd c_111 (nI_ge (a := g) (b := 4) hg (by omega))) (fun c_111 => ?_)
      refine e_iload_n (j := 4) C dX3_leaves_114 rfl rfl ?_
      refine e_iconst (v := (-1)) C dX3_leaves_115 (by decide) ?_
      refine e_icmp_eq (tgt := 144) C dX3_leaves_116 (by decide) (fun c_116 => ?_) (fun c_116 => absurd (by decide) c_116)
      refine e_aload_n (j := 2) C dX3_leaves_144 rfl rfl ?_
      refine e_get3 (k := 12) (ref := "ScripHollowModel") C (by decide) rfl rfl mw_65 dX3_leaves_145 ?_
      refine e_iconst (v := 4) C dX3_leaves_148 (by decide) ?_
      refine e_iload_n (j := 3) C dX3_leaves_149 rfl rfl ?_
      refine e_imul C dX3_leaves_150 ?_
      refine e_iload (j := 0) C dX3_leaves_151 rfl ?_
      refine e_iadd C dX3_leaves_153 ?_
      refine e_iconst (v := 0) C dX3_leaves_154 (by decide) ?_
      refine e_iastN (4 * k + g) C (cnt_fix (by decide)) (fun _ _ => rfl) (ix4k k g) (by omega) (by decide) dX3_leaves_155 ?_
      obtain ⟨x4_156, ex4_156⟩ : ∃ z : Int32, z = (nI g) + 1 := ⟨_, rfl⟩
      refine e_iinc (j := 0) (v := x4_156) (ls2 := [(4, .int x4_156), (3, .int 1), (0, .ref (ρ 9)), (1, .int (nI k)), (2, .int (-1))]) C hnL dX3_leaves_156 rfl (by rw [ex4_156]; rfl) (by decide) rfl ?_
      refine e_goto (tgt := 108) C dX3_leaves_159 (by decide) ?_
      subst ex4_156
      rw [nI_1]
      exact e_sub [0, 1, 2, 3, 4] rfl (ih (g + 1) (by omega))
  have loopS : ∀ (f i : Nat), i + f = 40 → E Ξ n ρ J (lnS M k i) 0 0 23 [(4, .int (nI i)), (3, .int 1), (0, .ref (ρ 9)), (1, .int (nI k)), (2, .int (-1))] [] := by
    intro f
    induction f with
    | zero =>
      intro i hif
      have hi4 : i = 40 := by omega
      rw [hi4]
      refine e_iload (j := 0) C dX3_leaves_23 rfl ?_
      refine e_bipush (v := 40) C dX3_leaves_25 (by decide) ?_
      refine e_icmp_ge (tgt := 105) C dX3_leaves_27 (by decide) (fun c_27 => ?_) (fun c_27 => absurd (show (40 : Int32) ≤ nI 40 by decide) c_27)
      refine e_iconst (v := 0) C dX3_leaves_105 (by decide) ?_
      refine e_istore (ls2 := [(4, .int 0), (3, .int 1), (0, .ref (ρ 9)), (1, .int (nI k)), (2, .int (-1))]) C hnL dX3_leaves_106 (by decide) rfl ?_
      exact e_sub [0, 1, 2, 3, 4] rfl (loopG 4 0 rfl)
    | succ f ih =>
      intro i hif
      have hi : i < 40 := by omega
      refine e_iload (j := 0) C dX3_leaves_23 rfl ?_
      refine e_bipush (v := 40) C dX3_leaves_25 (by decide) ?_
      refine e_icmp_ge (tgt := 105) C dX3_leaves_27 (by decide) (fun c_27 => absurd c_27 (nI_ge (a := i) (b := 40) hi (by omega))) (fun c_27 => ?_)
      refine e_iload_n (j := 4) C dX3_leaves_30 rfl rfl ?_
      refine e_iconst (v := (-1)) C dX3_leaves_31 (by decide) ?_
      refine e_icmp_ne (tgt := 59) C dX3_leaves_32 (by decide) (fun c_32 => absurd (by decide) c_32) (fun c_32 => ?_)
      refine e_aload_n (j := 2) C dX3_leaves_35 rfl rfl ?_
      refine e_get3 (k := 17) (ref := "ScripHollowModel") C (by decide) rfl rfl mw_70 dX3_leaves_36 ?_
      refine e_iconst (v := 4) C dX3_leaves_39 (by decide) ?_
      refine e_dup2 C dX3_leaves_40 rfl rfl ?_
      refine e_ialdN 4 C (cnt_fix (by decide)) (fun _ => rfl) rfl (by decide) (by decide) dX3_leaves_41 ?_
      refine e_aload_n (j := 2) C dX3_leaves_42 rfl rfl ?_
      refine e_get3 (k := 11) (ref := "ScripHollowModel") C (by decide) rfl rfl mw_64 dX3_leaves_43 ?_
      refine e_bipush (v := 40) C dX3_leaves_46 (by decide) ?_
      refine e_iload_n (j := 3) C dX3_leaves_48 rfl rfl ?_
      refine e_imul C dX3_leaves_49 ?_
      refine e_iload (j := 0) C dX3_leaves_50 rfl ?_
      refine e_iadd C dX3_leaves_52 ?_
      refine e_ialdN (40 * k + i) C (cnt_fix (by decide)) (fun _ => rfl) (ix40 k i) (by omega) (by decide) dX3_leaves_53 ?_
      refine e_iadd C dX3_leaves_54 ?_
      refine e_iastN 4 C (cnt_fix (by decide)) (fun _ _ => rfl) rfl (by decide) (by decide) dX3_leaves_55 ?_
      refine e_goto (tgt := 86) C dX3_leaves_56 (by decide) ?_
      refine e_aload_n (j := 2) C dX3_leaves_86 rfl rfl ?_
      refine e_get3 (k := 11) (ref := "ScripHollowModel") C (by decide) rfl rfl mw_64 dX3_leaves_87 ?_
      refine e_bipush (v := 40) C dX3_leaves_90 (by decide) ?_
      refine e_iload_n (j := 3) C dX3_leaves_92 rfl rfl ?_
      refine e_imul C dX3_leaves_93 ?_
      refine e_iload (j := 0) C dX3_leaves_94 rfl ?_
      refine e_iadd C dX3_leaves_96 ?_
      refine e_iconst (v := 0) C dX3_leaves_97 (by decide) ?_
      refine e_iastN (40 * k + i) C (cnt_fix (by decide)) (fun _ _ => rfl) (ix40 k i) (by omega) (by decide) dX3_leaves_98 ?_
      obtain ⟨x4_99, ex4_99⟩ : ∃ z : Int32, z = (nI i) + 1 := ⟨_, rfl⟩
      refine e_iinc (j := 0) (v := x4_99) (ls2 := [(4, .int x4_99), (3, .int 1), (0, .ref (ρ 9)), (1, .int (nI k)), (2, .int (-1))]) C hnL dX3_leaves_99 rfl (by rw [ex4_99]; rfl) (by decide) rfl ?_
      refine e_goto (tgt := 23) C dX3_leaves_102 (by decide) ?_
      subst ex4_99
      rw [nI_1]
      exact e_sub [0, 1, 2, 3, 4] rfl (ih (i + 1) (by omega))
  refine e_iload_n (j := 2) C dX3_leaves_0 rfl rfl ?_
  refine e_iconst (v := (-1)) C dX3_leaves_1 (by decide) ?_
  refine e_icmp_eq (tgt := 14) C dX3_leaves_2 (by decide) (fun c_2 => ?_) (fun c_2 => absurd (by decide) c_2)
  refine e_iconst (v := 1) C dX3_leaves_14 (by decide) ?_
  refine e_goto (tgt := 19) C dX3_leaves_15 (by decide) ?_
  refine e_istore_n (ls2 := [(3, .int 1), (0, .ref (ρ 9)), (1, .int (nI k)), (2, .int (-1))]) C hnL dX3_leaves_19 rfl (by decide) rfl ?_
  refine e_iconst (v := 0) C dX3_leaves_20 (by decide) ?_
  refine e_istore (ls2 := [(4, .int 0), (3, .int 1), (0, .ref (ρ 9)), (1, .int (nI k)), (2, .int (-1))]) C hnL dX3_leaves_21 (by decide) rfl ?_
  exact e_sub [0, 1, 2, 3, 4] rfl (loopS 40 0 rfl)
set_option maxRecDepth 100000 in
set_option maxHeartbeats 4000000 in
theorem c_X3_leaves {l : Launch} (hl : l.stackTraces = false) {n : Nat} {ρ : Nat → Nat} {J : Nat → Int64} {M : Mem} {k : Nat} (hk : k < 10) {j : Nat} (hj : j < 10) : CtO l yX3_leaves cX3_leaves 5 none 0 0 0 n ρ J M [.ref (ρ 9), .int (nI k), .int (nI j)] (rV (lhM M k j)) := by
  refine CtO.of hl (by decide +kernel) (Nat.le_of_ble_eq_true rfl) (fun Ξ hnL C => ?_)
  show E Ξ n ρ J M 0 0 0 [(0, .ref (ρ 9)), (1, .int (nI k)), (2, .int (nI j))] []
  have hne : ¬ nI j = -1 := fun w => nI_pos (n := j) (by omega) (by rw [w]; decide)
  by_cases hl2 : M 25 2 = 0
  · skip
    have loopG : ∀ (f g : Nat), g + f = 4 → E Ξ n ρ J (lhG (lhS M k j 40) k j g) 0 0 108 [(4, .int (nI g)), (3, .int 0), (0, .ref (ρ 9)), (1, .int (nI k)), (2, .int (nI j))] [] := by
      intro f
      induction f with
      | zero =>
        intro g hgf
        have hg4 : g = 4 := by omega
        rw [hg4]
        generalize hNN : (lhG (lhS M k j 40) k j 4) = NN
        refine e_iload (j := 0) C dX3_leaves_108 rfl ?_
        refine e_iconst (v := 4) C dX3_leaves_110 (by decide) ?_
        refine e_icmp_ge (tgt := 162) C dX3_leaves_111 (by decide) (fun c_111 => ?_) (fun c_111 => absurd (show (4 : Int32) ≤ nI 4 by decide) c_111)
        refine e_iload_n (j := 4) C dX3_leaves_162 rfl rfl ?_
        refine e_iconst (v := (-1)) C dX3_leaves_163 (by decide) ?_
        refine e_icmp_eq (tgt := 228) C dX3_leaves_164 (by decide) (fun c_164 => absurd c_164 hne) (fun c_164 => ?_)
        refine e_aload_n (j := 2) C dX3_leaves_167 rfl rfl ?_
        refine e_get3 (k := 5) (ref := "ScripHollowModel") C (by decide) rfl rfl mw_58 dX3_leaves_168 ?_
        refine e_iload_n (j := 4) C dX3_leaves_171 rfl rfl ?_
        refine e_dup2 C dX3_leaves_172 rfl rfl ?_
        refine e_ialdN j C (cnt_fix (by decide)) (fun _ => rfl) rfl (by omega) (by decide) dX3_leaves_173 ?_
        refine e_aload_n (j := 2) C dX3_leaves_174 rfl rfl ?_
        refine e_get3 (k := 5) (ref := "ScripHollowModel") C (by decide) rfl rfl mw_58 dX3_leaves_175 ?_
        refine e_iload_n (j := 3) C dX3_leaves_178 rfl rfl ?_
        refine e_ialdN k C (cnt_fix (by decide)) (fun _ => rfl) rfl (by omega) (by decide) dX3_leaves_179 ?_
        refine e_iadd C dX3_leaves_180 ?_
        refine e_iastN j C (cnt_fix (by decide)) (fun _ _ => rfl) rfl (by omega) (by decide) dX3_leaves_181 ?_
        refine e_aload_n (j := 2) C dX3_leaves_182 rfl rfl ?_
        refine e_get3 (k := 6) (ref := "ScripHollowModel") C (by decide) rfl rfl mw_59 dX3_leaves_183 ?_
        refine e_iload_n (j := 4) C dX3_leaves_186 rfl rfl ?_
        refine e_dup2 C dX3_leaves_187 rfl rfl ?_
        refine e_ialdN j C (cnt_fix (by decide)) (fun _ => rfl) rfl (by omega) (by decide) dX3_leaves_188 ?_
        refine e_iload_n (j := 1) C dX3_leaves_189 rfl rfl ?_
        refine e_if_eq (tgt := 197) C dX3_leaves_190 (by decide) (fun c_190 => ?_) (fun c_190 => absurd (by decide) c_190)
        refine e_aload_n (j := 2) C dX3_leaves_197 rfl rfl ?_
        refine e_get3 (k := 6) (ref := "ScripHollowModel") C (by decide) rfl rfl mw_59 dX3_leaves_198 ?_
        refine e_iload_n (j := 3) C dX3_leaves_201 rfl rfl ?_
        refine e_ialdN k C (cnt_fix (by decide)) (fun _ => rfl) rfl (by omega) (by decide) dX3_leaves_202 ?_
        refine e_iadd C dX3_leaves_203 ?_
        refine e_iastN j C (cnt_fix (by decide)) (fun _ _ => rfl) rfl (by omega) (by decide) dX3_leaves_204 ?_
        refine e_aload_n (j := 2) C dX3_leaves_205 rfl rfl ?_
        refine e_get3 (k := 7) (ref := "ScripHollowModel") C (by decide) rfl rfl mw_60 dX3_leaves_206 ?_
        refine e_iload_n (j := 4) C dX3_leaves_209 rfl rfl ?_
        refine e_dup2 C dX3_leaves_210 rfl rfl ?_
        refine e_ialdN j C (cnt_fix (by decide)) (fun _ => rfl) rfl (by omega) (by decide) dX3_leaves_211 ?_
        refine e_iload_n (j := 1) C dX3_leaves_212 rfl rfl ?_
        refine e_if_eq (tgt := 220) C dX3_leaves_213 (by decide) (fun c_213 => ?_) (fun c_213 => absurd (by decide) c_213)
        refine e_aload_n (j := 2) C dX3_leaves_220 rfl rfl ?_
        refine e_get3 (k := 7) (ref := "ScripHollowModel") C (by decide) rfl rfl mw_60 dX3_leaves_221 ?_
        refine e_iload_n (j := 3) C dX3_leaves_224 rfl rfl ?_
        refine e_ialdN k C (cnt_fix (by decide)) (fun _ => rfl) rfl (by omega) (by decide) dX3_leaves_225 ?_
        refine e_iadd C dX3_leaves_226 ?_
        refine e_iastN j C (cnt_fix (by decide)) (fun _ _ => rfl) rfl (by omega) (by decide) dX3_leaves_227 ?_
        refine e_aload_n (j := 2) C dX3_leaves_228 rfl rfl ?_
        refine e_get3 (k := 5) (ref := "ScripHollowModel") C (by decide) rfl rfl mw_58 dX3_leaves_229 ?_
        refine e_iload_n (j := 3) C dX3_leaves_232 rfl rfl ?_
        refine e_iconst (v := 0) C dX3_leaves_233 (by decide) ?_
        refine e_iastN k C (cnt_fix (by decide)) (fun _ _ => rfl) rfl (by omega) (by decide) dX3_leaves_234 ?_
        refine e_aload_n (j := 2) C dX3_leaves_235 rfl rfl ?_
        refine e_get3 (k := 6) (ref := "ScripHollowModel") C (by decide) rfl rfl mw_59 dX3_leaves_236 ?_
        refine e_iload_n (j := 3) C dX3_leaves_239 rfl rfl ?_
        refine e_iconst (v := 0) C dX3_leaves_240 (by decide) ?_
        refine e_iastN k C (cnt_fix (by decide)) (fun _ _ => rfl) rfl (by omega) (by decide) dX3_leaves_241 ?_
        refine e_aload_n (j := 2) C dX3_leaves_242 rfl rfl ?_
        refine e_get3 (k := 7) (ref := "ScripHollowModel") C (by decide) rfl rfl mw_60 dX3_leaves_243 ?_
        refine e_iload_n (j := 3) C dX3_leaves_246 rfl rfl ?_
        refine e_iconst (v := 0) C dX3_leaves_247 (by decide) ?_
        refine e_iastN k C (cnt_fix (by decide)) (fun _ _ => rfl) rfl (by omega) (by decide) dX3_leaves_248 ?_
        exact e_vret C rfl (Nat.le_of_ble_eq_true rfl) (Nat.le_of_ble_eq_true rfl) dX3_leaves_249 (pO.mk (by show rV (lhM M k j) = _; unfold lhM; rw [if_pos hl2, hNN]; rfl))
      | succ f ih =>
        intro g hgf
        have hg : g < 4 := by omega
        refine e_iload (j := 0) C dX3_leaves_108 rfl ?_
        refine e_iconst (v := 4) C dX3_leaves_110 (by decide) ?_
        refine e_icmp_ge (tgt := 162) C dX3_leaves_111 (by decide) (fun c_111 => absurd c_111 (nI_ge (a := g) (b := 4) hg (by omega))) (fun c_111 => ?_)
        refine e_iload_n (j := 4) C dX3_leaves_114 rfl rfl ?_
        refine e_iconst (v := (-1)) C dX3_leaves_115 (by decide) ?_
        refine e_icmp_eq (tgt := 144) C dX3_leaves_116 (by decide) (fun c_116 => absurd c_116 hne) (fun c_116 => ?_)
        refine e_aload_n (j := 2) C dX3_leaves_119 rfl rfl ?_
        refine e_get3 (k := 12) (ref := "ScripHollowModel") C (by decide) rfl rfl mw_65 dX3_leaves_120 ?_
        refine e_iconst (v := 4) C dX3_leaves_123 (by decide) ?_
        refine e_iload_n (j := 4) C dX3_leaves_124 rfl rfl ?_
        refine e_imul C dX3_leaves_125 ?_
        refine e_iload (j := 0) C dX3_leaves_126 rfl ?_
        refine e_iadd C dX3_leaves_128 ?_
        refine e_dup2 C dX3_leaves_129 rfl rfl ?_
        refine e_ialdN (4 * j + g) C (cnt_fix (by decide)) (fun _ => rfl) (ix4k j g) (by omega) (by decide) dX3_leaves_130 ?_
        refine e_aload_n (j := 2) C dX3_leaves_131 rfl rfl ?_
        refine e_get3 (k := 12) (ref := "ScripHollowModel") C (by decide) rfl rfl mw_65 dX3_leaves_132 ?_
        refine e_iconst (v := 4) C dX3_leaves_135 (by decide) ?_
        refine e_iload_n (j := 3) C dX3_leaves_136 rfl rfl ?_
        refine e_imul C dX3_leaves_137 ?_
        refine e_iload (j := 0) C dX3_leaves_138 rfl ?_
        refine e_iadd C dX3_leaves_140 ?_
        refine e_ialdN (4 * k + g) C (cnt_fix (by decide)) (fun _ => rfl) (ix4k k g) (by omega) (by decide) dX3_leaves_141 ?_
        refine e_iadd C dX3_leaves_142 ?_
        refine e_iastN (4 * j + g) C (cnt_fix (by decide)) (fun _ _ => rfl) (ix4k j g) (by omega) (by decide) dX3_leaves_143 ?_
        refine e_aload_n (j := 2) C dX3_leaves_144 rfl rfl ?_
        refine e_get3 (k := 12) (ref := "ScripHollowModel") C (by decide) rfl rfl mw_65 dX3_leaves_145 ?_
        refine e_iconst (v := 4) C dX3_leaves_148 (by decide) ?_
        refine e_iload_n (j := 3) C dX3_leaves_149 rfl rfl ?_
        refine e_imul C dX3_leaves_150 ?_
        refine e_iload (j := 0) C dX3_leaves_151 rfl ?_
        refine e_iadd C dX3_leaves_153 ?_
        refine e_iconst (v := 0) C dX3_leaves_154 (by decide) ?_
        refine e_iastN (4 * k + g) C (cnt_fix (by decide)) (fun _ _ => rfl) (ix4k k g) (by omega) (by decide) dX3_leaves_155 ?_
        obtain ⟨x4_156, ex4_156⟩ : ∃ z : Int32, z = (nI g) + 1 := ⟨_, rfl⟩
        refine e_iinc (j := 0) (v := x4_156) (ls2 := [(4, .int x4_156), (3, .int 0), (0, .ref (ρ 9)), (1, .int (nI k)), (2, .int (nI j))]) C hnL dX3_leaves_156 rfl (by rw [ex4_156]; rfl) (by decide) rfl ?_
        refine e_goto (tgt := 108) C dX3_leaves_159 (by decide) ?_
        subst ex4_156
        rw [nI_1]
        exact e_sub [0, 1, 2, 3, 4] rfl (ih (g + 1) (by omega))
    have loopS : ∀ (f i : Nat), i + f = 40 → E Ξ n ρ J (lhS M k j i) 0 0 23 [(4, .int (nI i)), (3, .int 0), (0, .ref (ρ 9)), (1, .int (nI k)), (2, .int (nI j))] [] := by
      intro f
      induction f with
      | zero =>
        intro i hif
        have hi4 : i = 40 := by omega
        rw [hi4]
        refine e_iload (j := 0) C dX3_leaves_23 rfl ?_
        refine e_bipush (v := 40) C dX3_leaves_25 (by decide) ?_
        refine e_icmp_ge (tgt := 105) C dX3_leaves_27 (by decide) (fun c_27 => ?_) (fun c_27 => absurd (show (40 : Int32) ≤ nI 40 by decide) c_27)
        refine e_iconst (v := 0) C dX3_leaves_105 (by decide) ?_
        refine e_istore (ls2 := [(4, .int 0), (3, .int 0), (0, .ref (ρ 9)), (1, .int (nI k)), (2, .int (nI j))]) C hnL dX3_leaves_106 (by decide) rfl ?_
        exact e_sub [0, 1, 2, 3, 4] rfl (loopG 4 0 rfl)
      | succ f ih =>
        intro i hif
        have hi : i < 40 := by omega
        refine e_iload (j := 0) C dX3_leaves_23 rfl ?_
        refine e_bipush (v := 40) C dX3_leaves_25 (by decide) ?_
        refine e_icmp_ge (tgt := 105) C dX3_leaves_27 (by decide) (fun c_27 => absurd c_27 (nI_ge (a := i) (b := 40) hi (by omega))) (fun c_27 => ?_)
        refine e_iload_n (j := 4) C dX3_leaves_30 rfl rfl ?_
        refine e_iconst (v := (-1)) C dX3_leaves_31 (by decide) ?_
        refine e_icmp_ne (tgt := 59) C dX3_leaves_32 (by decide) (fun c_32 => ?_) (fun c_32 => absurd c_32 hne)
        refine e_aload_n (j := 2) C dX3_leaves_59 rfl rfl ?_
        refine e_get3 (k := 11) (ref := "ScripHollowModel") C (by decide) rfl rfl mw_64 dX3_leaves_60 ?_
        refine e_bipush (v := 40) C dX3_leaves_63 (by decide) ?_
        refine e_iload_n (j := 4) C dX3_leaves_65 rfl rfl ?_
        refine e_imul C dX3_leaves_66 ?_
        refine e_iload (j := 0) C dX3_leaves_67 rfl ?_
        refine e_iadd C dX3_leaves_69 ?_
        refine e_dup2 C dX3_leaves_70 rfl rfl ?_
        refine e_ialdN (40 * j + i) C (cnt_fix (by decide)) (fun _ => rfl) (ix40 j i) (by omega) (by decide) dX3_leaves_71 ?_
        refine e_aload_n (j := 2) C dX3_leaves_72 rfl rfl ?_
        refine e_get3 (k := 11) (ref := "ScripHollowModel") C (by decide) rfl rfl mw_64 dX3_leaves_73 ?_
        refine e_bipush (v := 40) C dX3_leaves_76 (by decide) ?_
        refine e_iload_n (j := 3) C dX3_leaves_78 rfl rfl ?_
        refine e_imul C dX3_leaves_79 ?_
        refine e_iload (j := 0) C dX3_leaves_80 rfl ?_
        refine e_iadd C dX3_leaves_82 ?_
        refine e_ialdN (40 * k + i) C (cnt_fix (by decide)) (fun _ => rfl) (ix40 k i) (by omega) (by decide) dX3_leaves_83 ?_
        refine e_iadd C dX3_leaves_84 ?_
        refine e_iastN (40 * j + i) C (cnt_fix (by decide)) (fun _ _ => rfl) (ix40 j i) (by omega) (by decide) dX3_leaves_85 ?_
        refine e_aload_n (j := 2) C dX3_leaves_86 rfl rfl ?_
        refine e_get3 (k := 11) (ref := "ScripHollowModel") C (by decide) rfl rfl mw_64 dX3_leaves_87 ?_
        refine e_bipush (v := 40) C dX3_leaves_90 (by decide) ?_
        refine e_iload_n (j := 3) C dX3_leaves_92 rfl rfl ?_
        refine e_imul C dX3_leaves_93 ?_
        refine e_iload (j := 0) C dX3_leaves_94 rfl ?_
        refine e_iadd C dX3_leaves_96 ?_
        refine e_iconst (v := 0) C dX3_leaves_97 (by decide) ?_
        refine e_iastN (40 * k + i) C (cnt_fix (by decide)) (fun _ _ => rfl) (ix40 k i) (by omega) (by decide) dX3_leaves_98 ?_
        obtain ⟨x4_99, ex4_99⟩ : ∃ z : Int32, z = (nI i) + 1 := ⟨_, rfl⟩
        refine e_iinc (j := 0) (v := x4_99) (ls2 := [(4, .int x4_99), (3, .int 0), (0, .ref (ρ 9)), (1, .int (nI k)), (2, .int (nI j))]) C hnL dX3_leaves_99 rfl (by rw [ex4_99]; rfl) (by decide) rfl ?_
        refine e_goto (tgt := 23) C dX3_leaves_102 (by decide) ?_
        subst ex4_99
        rw [nI_1]
        exact e_sub [0, 1, 2, 3, 4] rfl (ih (i + 1) (by omega))
    refine e_iload_n (j := 2) C dX3_leaves_0 rfl rfl ?_
    refine e_iconst (v := (-1)) C dX3_leaves_1 (by decide) ?_
    refine e_icmp_eq (tgt := 14) C dX3_leaves_2 (by decide) (fun c_2 => absurd c_2 hne) (fun c_2 => ?_)
    refine e_aload_n (j := 0) C dX3_leaves_5 rfl rfl ?_
    refine e_get3 (k := 16) (ref := "ScripHollowModel") C (by decide) rfl rfl mw_69 dX3_leaves_6 ?_
    refine e_iconst (v := 2) C dX3_leaves_9 (by decide) ?_
    refine e_zaldN 2 C (cnt_fix (by decide)) (fun _ => rfl) rfl (by decide) (by decide) dX3_leaves_10 ?_
    refine e_if_eq (tgt := 18) C dX3_leaves_11 (by decide) (fun c_11 => ?_) (fun c_11 => absurd hl2 c_11)
    refine e_iconst (v := 0) C dX3_leaves_18 (by decide) ?_
    refine e_istore_n (ls2 := [(3, .int 0), (0, .ref (ρ 9)), (1, .int (nI k)), (2, .int (nI j))]) C hnL dX3_leaves_19 rfl (by decide) rfl ?_
    refine e_iconst (v := 0) C dX3_leaves_20 (by decide) ?_
    refine e_istore (ls2 := [(4, .int 0), (3, .int 0), (0, .ref (ρ 9)), (1, .int (nI k)), (2, .int (nI j))]) C hnL dX3_leaves_21 (by decide) rfl ?_
    exact e_sub [0, 1, 2, 3, 4] rfl (loopS 40 0 rfl)
  · skip
    have loopG : ∀ (f g : Nat), g + f = 4 → E Ξ n ρ J (lhG (lhS M k j 40) k j g) 0 0 108 [(4, .int (nI g)), (3, .int 1), (0, .ref (ρ 9)), (1, .int (nI k)), (2, .int (nI j))] [] := by
      intro f
      induction f with
      | zero =>
        intro g hgf
        have hg4 : g = 4 := by omega
        rw [hg4]
        generalize hNN : (lhG (lhS M k j 40) k j 4) = NN
        refine e_iload (j := 0) C dX3_leaves_108 rfl ?_
        refine e_iconst (v := 4) C dX3_leaves_110 (by decide) ?_
        refine e_icmp_ge (tgt := 162) C dX3_leaves_111 (by decide) (fun c_111 => ?_) (fun c_111 => absurd (show (4 : Int32) ≤ nI 4 by decide) c_111)
        refine e_iload_n (j := 4) C dX3_leaves_162 rfl rfl ?_
        refine e_iconst (v := (-1)) C dX3_leaves_163 (by decide) ?_
        refine e_icmp_eq (tgt := 228) C dX3_leaves_164 (by decide) (fun c_164 => absurd c_164 hne) (fun c_164 => ?_)
        refine e_aload_n (j := 2) C dX3_leaves_167 rfl rfl ?_
        refine e_get3 (k := 5) (ref := "ScripHollowModel") C (by decide) rfl rfl mw_58 dX3_leaves_168 ?_
        refine e_iload_n (j := 4) C dX3_leaves_171 rfl rfl ?_
        refine e_dup2 C dX3_leaves_172 rfl rfl ?_
        refine e_ialdN j C (cnt_fix (by decide)) (fun _ => rfl) rfl (by omega) (by decide) dX3_leaves_173 ?_
        refine e_aload_n (j := 2) C dX3_leaves_174 rfl rfl ?_
        refine e_get3 (k := 5) (ref := "ScripHollowModel") C (by decide) rfl rfl mw_58 dX3_leaves_175 ?_
        refine e_iload_n (j := 3) C dX3_leaves_178 rfl rfl ?_
        refine e_ialdN k C (cnt_fix (by decide)) (fun _ => rfl) rfl (by omega) (by decide) dX3_leaves_179 ?_
        refine e_iadd C dX3_leaves_180 ?_
        refine e_iastN j C (cnt_fix (by decide)) (fun _ _ => rfl) rfl (by omega) (by decide) dX3_leaves_181 ?_
        refine e_aload_n (j := 2) C dX3_leaves_182 rfl rfl ?_
        refine e_get3 (k := 6) (ref := "ScripHollowModel") C (by decide) rfl rfl mw_59 dX3_leaves_183 ?_
        refine e_iload_n (j := 4) C dX3_leaves_186 rfl rfl ?_
        refine e_dup2 C dX3_leaves_187 rfl rfl ?_
        refine e_ialdN j C (cnt_fix (by decide)) (fun _ => rfl) rfl (by omega) (by decide) dX3_leaves_188 ?_
        refine e_iload_n (j := 1) C dX3_leaves_189 rfl rfl ?_
        refine e_if_eq (tgt := 197) C dX3_leaves_190 (by decide) (fun c_190 => absurd c_190 (by decide)) (fun c_190 => ?_)
        refine e_iconst (v := 0) C dX3_leaves_193 (by decide) ?_
        refine e_goto (tgt := 203) C dX3_leaves_194 (by decide) ?_
        refine e_iadd C dX3_leaves_203 ?_
        refine e_iastN j C (cnt_fix (by decide)) (fun _ _ => rfl) rfl (by omega) (by decide) dX3_leaves_204 ?_
        refine e_aload_n (j := 2) C dX3_leaves_205 rfl rfl ?_
        refine e_get3 (k := 7) (ref := "ScripHollowModel") C (by decide) rfl rfl mw_60 dX3_leaves_206 ?_
        refine e_iload_n (j := 4) C dX3_leaves_209 rfl rfl ?_
        refine e_dup2 C dX3_leaves_210 rfl rfl ?_
        refine e_ialdN j C (cnt_fix (by decide)) (fun _ => rfl) rfl (by omega) (by decide) dX3_leaves_211 ?_
        refine e_iload_n (j := 1) C dX3_leaves_212 rfl rfl ?_
        refine e_if_eq (tgt := 220) C dX3_leaves_213 (by decide) (fun c_213 => absurd c_213 (by decide)) (fun c_213 => ?_)
        refine e_iconst (v := 0) C dX3_leaves_216 (by decide) ?_
        refine e_goto (tgt := 226) C dX3_leaves_217 (by decide) ?_
        refine e_iadd C dX3_leaves_226 ?_
        refine e_iastN j C (cnt_fix (by decide)) (fun _ _ => rfl) rfl (by omega) (by decide) dX3_leaves_227 ?_
        refine e_aload_n (j := 2) C dX3_leaves_228 rfl rfl ?_
        refine e_get3 (k := 5) (ref := "ScripHollowModel") C (by decide) rfl rfl mw_58 dX3_leaves_229 ?_
        refine e_iload_n (j := 3) C dX3_leaves_232 rfl rfl ?_
        refine e_iconst (v := 0) C dX3_leaves_233 (by decide) ?_
        refine e_iastN k C (cnt_fix (by decide)) (fun _ _ => rfl) rfl (by omega) (by decide) dX3_leaves_234 ?_
        refine e_aload_n (j := 2) C dX3_leaves_235 rfl rfl ?_
        refine e_get3 (k := 6) (ref := "ScripHollowModel") C (by decide) rfl rfl mw_59 dX3_leaves_236 ?_
        refine e_iload_n (j := 3) C dX3_leaves_239 rfl rfl ?_
        refine e_iconst (v := 0) C dX3_leaves_240 (by decide) ?_
        refine e_iastN k C (cnt_fix (by decide)) (fun _ _ => rfl) rfl (by omega) (by decide) dX3_leaves_241 ?_
        refine e_aload_n (j := 2) C dX3_leaves_242 rfl rfl ?_
        refine e_get3 (k := 7) (ref := "ScripHollowModel") C (by decide) rfl rfl mw_60 dX3_leaves_243 ?_
        refine e_iload_n (j := 3) C dX3_leaves_246 rfl rfl ?_
        refine e_iconst (v := 0) C dX3_leaves_247 (by decide) ?_
        refine e_iastN k C (cnt_fix (by decide)) (fun _ _ => rfl) rfl (by omega) (by decide) dX3_leaves_248 ?_
        exact e_vret C rfl (Nat.le_of_ble_eq_true rfl) (Nat.le_of_ble_eq_true rfl) dX3_leaves_249 (pO.mk (by show rV (lhM M k j) = _; unfold lhM; rw [if_neg hl2, hNN]; rfl))
      | succ f ih =>
        intro g hgf
        have hg : g < 4 := by omega
        refine e_iload (j := 0) C dX3_leaves_108 rfl ?_
        refine e_iconst (v := 4) C dX3_leaves_110 (by decide) ?_
        refine e_icmp_ge (tgt := 162) C dX3_leaves_111 (by decide) (fun c_111 => absurd c_111 (nI_ge (a := g) (b := 4) hg (by omega))) (fun c_111 => ?_)
        refine e_iload_n (j := 4) C dX3_leaves_114 rfl rfl ?_
        refine e_iconst (v := (-1)) C dX3_leaves_115 (by decide) ?_
        refine e_icmp_eq (tgt := 144) C dX3_leaves_116 (by decide) (fun c_116 => absurd c_116 hne) (fun c_116 => ?_)
        refine e_aload_n (j := 2) C dX3_leaves_119 rfl rfl ?_
        refine e_get3 (k := 12) (ref := "ScripHollowModel") C (by decide) rfl rfl mw_65 dX3_leaves_120 ?_
        refine e_iconst (v := 4) C dX3_leaves_123 (by decide) ?_
        refine e_iload_n (j := 4) C dX3_leaves_124 rfl rfl ?_
        refine e_imul C dX3_leaves_125 ?_
        refine e_iload (j := 0) C dX3_leaves_126 rfl ?_
        refine e_iadd C dX3_leaves_128 ?_
        refine e_dup2 C dX3_leaves_129 rfl rfl ?_
        refine e_ialdN (4 * j + g) C (cnt_fix (by decide)) (fun _ => rfl) (ix4k j g) (by omega) (by decide) dX3_leaves_130 ?_
        refine e_aload_n (j := 2) C dX3_leaves_131 rfl rfl ?_
        refine e_get3 (k := 12) (ref := "ScripHollowModel") C (by decide) rfl rfl mw_65 dX3_leaves_132 ?_
        refine e_iconst (v := 4) C dX3_leaves_135 (by decide) ?_
        refine e_iload_n (j := 3) C dX3_leaves_136 rfl rfl ?_
        refine e_imul C dX3_leaves_137 ?_
        refine e_iload (j := 0) C dX3_leaves_138 rfl ?_
        refine e_iadd C dX3_leaves_140 ?_
        refine e_ialdN (4 * k + g) C (cnt_fix (by decide)) (fun _ => rfl) (ix4k k g) (by omega) (by decide) dX3_leaves_141 ?_
        refine e_iadd C dX3_leaves_142 ?_
        refine e_iastN (4 * j + g) C (cnt_fix (by decide)) (fun _ _ => rfl) (ix4k j g) (by omega) (by decide) dX3_leaves_143 ?_
        refine e_aload_n (j := 2) C dX3_leaves_144 rfl rfl ?_
        refine e_get3 (k := 12) (ref := "ScripHollowModel") C (by decide) rfl rfl mw_65 dX3_leaves_145 ?_
        refine e_iconst (v := 4) C dX3_leaves_148 (by decide) ?_
        refine e_iload_n (j := 3) C dX3_leaves_149 rfl rfl ?_
        refine e_imul C dX3_leaves_150 ?_
        refine e_iload (j := 0) C dX3_leaves_151 rfl ?_
        refine e_iadd C dX3_leaves_153 ?_
        refine e_iconst (v := 0) C dX3_leaves_154 (by decide) ?_
        refine e_iastN (4 * k + g) C (cnt_fix (by decide)) (fun _ _ => rfl) (ix4k k g) (by omega) (by decide) dX3_leaves_155 ?_
        obtain ⟨x4_156, ex4_156⟩ : ∃ z : Int32, z = (nI g) + 1 := ⟨_, rfl⟩
        refine e_iinc (j := 0) (v := x4_156) (ls2 := [(4, .int x4_156), (3, .int 1), (0, .ref (ρ 9)), (1, .int (nI k)), (2, .int (nI j))]) C hnL dX3_leaves_156 rfl (by rw [ex4_156]; rfl) (by decide) rfl ?_
        refine e_goto (tgt := 108) C dX3_leaves_159 (by decide) ?_
        subst ex4_156
        rw [nI_1]
        exact e_sub [0, 1, 2, 3, 4] rfl (ih (g + 1) (by omega))
    have loopS : ∀ (f i : Nat), i + f = 40 → E Ξ n ρ J (lhS M k j i) 0 0 23 [(4, .int (nI i)), (3, .int 1), (0, .ref (ρ 9)), (1, .int (nI k)), (2, .int (nI j))] [] := by
      intro f
      induction f with
      | zero =>
        intro i hif
        have hi4 : i = 40 := by omega
        rw [hi4]
        refine e_iload (j := 0) C dX3_leaves_23 rfl ?_
        refine e_bipush (v := 40) C dX3_leaves_25 (by decide) ?_
        refine e_icmp_ge (tgt := 105) C dX3_leaves_27 (by decide) (fun c_27 => ?_) (fun c_27 => absurd (show (40 : Int32) ≤ nI 40 by decide) c_27)
        refine e_iconst (v := 0) C dX3_leaves_105 (by decide) ?_
        refine e_istore (ls2 := [(4, .int 0), (3, .int 1), (0, .ref (ρ 9)), (1, .int (nI k)), (2, .int (nI j))]) C hnL dX3_leaves_106 (by decide) rfl ?_
        exact e_sub [0, 1, 2, 3, 4] rfl (loopG 4 0 rfl)
      | succ f ih =>
        intro i hif
        have hi : i < 40 := by omega
        refine e_iload (j := 0) C dX3_leaves_23 rfl ?_
        refine e_bipush (v := 40) C dX3_leaves_25 (by decide) ?_
        refine e_icmp_ge (tgt := 105) C dX3_leaves_27 (by decide) (fun c_27 => absurd c_27 (nI_ge (a := i) (b := 40) hi (by omega))) (fun c_27 => ?_)
        refine e_iload_n (j := 4) C dX3_leaves_30 rfl rfl ?_
        refine e_iconst (v := (-1)) C dX3_leaves_31 (by decide) ?_
        refine e_icmp_ne (tgt := 59) C dX3_leaves_32 (by decide) (fun c_32 => ?_) (fun c_32 => absurd c_32 hne)
        refine e_aload_n (j := 2) C dX3_leaves_59 rfl rfl ?_
        refine e_get3 (k := 11) (ref := "ScripHollowModel") C (by decide) rfl rfl mw_64 dX3_leaves_60 ?_
        refine e_bipush (v := 40) C dX3_leaves_63 (by decide) ?_
        refine e_iload_n (j := 4) C dX3_leaves_65 rfl rfl ?_
        refine e_imul C dX3_leaves_66 ?_
        refine e_iload (j := 0) C dX3_leaves_67 rfl ?_
        refine e_iadd C dX3_leaves_69 ?_
        refine e_dup2 C dX3_leaves_70 rfl rfl ?_
        refine e_ialdN (40 * j + i) C (cnt_fix (by decide)) (fun _ => rfl) (ix40 j i) (by omega) (by decide) dX3_leaves_71 ?_
        refine e_aload_n (j := 2) C dX3_leaves_72 rfl rfl ?_
        refine e_get3 (k := 11) (ref := "ScripHollowModel") C (by decide) rfl rfl mw_64 dX3_leaves_73 ?_
        refine e_bipush (v := 40) C dX3_leaves_76 (by decide) ?_
        refine e_iload_n (j := 3) C dX3_leaves_78 rfl rfl ?_
        refine e_imul C dX3_leaves_79 ?_
        refine e_iload (j := 0) C dX3_leaves_80 rfl ?_
        refine e_iadd C dX3_leaves_82 ?_
        refine e_ialdN (40 * k + i) C (cnt_fix (by decide)) (fun _ => rfl) (ix40 k i) (by omega) (by decide) dX3_leaves_83 ?_
        refine e_iadd C dX3_leaves_84 ?_
        refine e_iastN (40 * j + i) C (cnt_fix (by decide)) (fun _ _ => rfl) (ix40 j i) (by omega) (by decide) dX3_leaves_85 ?_
        refine e_aload_n (j := 2) C dX3_leaves_86 rfl rfl ?_
        refine e_get3 (k := 11) (ref := "ScripHollowModel") C (by decide) rfl rfl mw_64 dX3_leaves_87 ?_
        refine e_bipush (v := 40) C dX3_leaves_90 (by decide) ?_
        refine e_iload_n (j := 3) C dX3_leaves_92 rfl rfl ?_
        refine e_imul C dX3_leaves_93 ?_
        refine e_iload (j := 0) C dX3_leaves_94 rfl ?_
        refine e_iadd C dX3_leaves_96 ?_
        refine e_iconst (v := 0) C dX3_leaves_97 (by decide) ?_
        refine e_iastN (40 * k + i) C (cnt_fix (by decide)) (fun _ _ => rfl) (ix40 k i) (by omega) (by decide) dX3_leaves_98 ?_
        obtain ⟨x4_99, ex4_99⟩ : ∃ z : Int32, z = (nI i) + 1 := ⟨_, rfl⟩
        refine e_iinc (j := 0) (v := x4_99) (ls2 := [(4, .int x4_99), (3, .int 1), (0, .ref (ρ 9)), (1, .int (nI k)), (2, .int (nI j))]) C hnL dX3_leaves_99 rfl (by rw [ex4_99]; rfl) (by decide) rfl ?_
        refine e_goto (tgt := 23) C dX3_leaves_102 (by decide) ?_
        subst ex4_99
        rw [nI_1]
        exact e_sub [0, 1, 2, 3, 4] rfl (ih (i + 1) (by omega))
    refine e_iload_n (j := 2) C dX3_leaves_0 rfl rfl ?_
    refine e_iconst (v := (-1)) C dX3_leaves_1 (by decide) ?_
    refine e_icmp_eq (tgt := 14) C dX3_leaves_2 (by decide) (fun c_2 => absurd c_2 hne) (fun c_2 => ?_)
    refine e_aload_n (j := 0) C dX3_leaves_5 rfl rfl ?_
    refine e_get3 (k := 16) (ref := "ScripHollowModel") C (by decide) rfl rfl mw_69 dX3_leaves_6 ?_
    refine e_iconst (v := 2) C dX3_leaves_9 (by decide) ?_
    refine e_zaldN 2 C (cnt_fix (by decide)) (fun _ => rfl) rfl (by decide) (by decide) dX3_leaves_10 ?_
    refine e_if_eq (tgt := 18) C dX3_leaves_11 (by decide) (fun c_11 => absurd c_11 hl2) (fun c_11 => ?_)
    refine e_iconst (v := 1) C dX3_leaves_14 (by decide) ?_
    refine e_goto (tgt := 19) C dX3_leaves_15 (by decide) ?_
    refine e_istore_n (ls2 := [(3, .int 1), (0, .ref (ρ 9)), (1, .int (nI k)), (2, .int (nI j))]) C hnL dX3_leaves_19 rfl (by decide) rfl ?_
    refine e_iconst (v := 0) C dX3_leaves_20 (by decide) ?_
    refine e_istore (ls2 := [(4, .int 0), (3, .int 1), (0, .ref (ρ 9)), (1, .int (nI k)), (2, .int (nI j))]) C hnL dX3_leaves_21 (by decide) rfl ?_
    exact e_sub [0, 1, 2, 3, 4] rfl (loopS 40 0 rfl)
def dmi (M : Mem) (k : Nat) : Mem := up (up (up (ml M 0) 10 k 0) 13 k 0) 11 k 0
def dmT (M : Mem) (k : Nat) : Mem × Int32 := hmS 10 (mtM (dmi M k) k 10) (dmi M k 19 k)
def dmH (M : Mem) (k : Nat) : Int32 := hmR (dmT M k).1 (dmT M k).2
def omdie (M : Mem) (k : Nat) : Out := if M 10 k = 0 then mo M 2 0 else if dmH M k = -1 then rI (dmH M k) (lnM (dmT M k).1 k) else rI (dmH M k) (lhM (dmT M k).1 k (dmH M k).toNatClampNeg)
theorem hmS_ok {n : Nat} (hn : n ≤ 10) (K : Nat → Int32) (hkin : ∀ j, j < n → kinOk n (K j)) : ∀ (f : Nat) (M : Mem) (x : Int32), M 19 = K → kinOk n x → kinOk n (hmS f M x).2
  | 0, _, _, _, hx => hx
  | f + 1, M, x, hM, hx => by
    rw [hmS_s]
    rcases hx with hx | ⟨j, hj, ej⟩
    · rw [if_pos hx]; exact Or.inl hx
    · subst ej
      rw [nI_clamp (by omega)]
      split
      · rename_i h; exact Or.inl h
      · split
        · split
          · exact hmS_ok hn K hkin f _ _ (by rw [up_ne (by decide)]; exact hM) (by rw [hM]; exact hkin j hj)
          · exact Or.inr ⟨j, hj, rfl⟩
        · exact Or.inr ⟨j, hj, rfl⟩
theorem hmR_ok {n : Nat} {M : Mem} {x : Int32} (hx : kinOk n x) : kinOk n (hmR M x) := by
  unfold hmR
  split
  · exact hx
  · split
    · exact hx
    · exact Or.inl rfl
theorem mt19 (M : Mem) (k : Nat) : ∀ j, mtM M k j 19 = M 19
  | 0 => rfl
  | j + 1 => by
    unfold mtM
    rw [up_ne (by decide)]
    exact mt19 M k j
theorem dmi19 (M : Mem) (k : Nat) : dmi M k 19 = M 19 := by
  unfold dmi
  rw [up_ne (by decide), up_ne (by decide), up_ne (by decide), ml_ne (by decide)]
theorem dmH_ok {n k : Nat} {M : Mem} (hn : n ≤ 10) (hk : k < n) (hkin : ∀ j, j < n → kinOk n (M 19 j)) : kinOk n (dmH M k) :=
  hmR_ok (hmS_ok hn (M 19) hkin 10 _ _ (by rw [mt19, dmi19]) (by rw [dmi19]; exact hkin k hk))
set_option maxRecDepth 100000 in
set_option maxHeartbeats 4000000 in
theorem c_X3_die_x {l : Launch} (hl : l.stackTraces = false) {n : Nat} {ρ : Nat → Nat} {J : Nat → Int64} {M : Mem} {x : Int32} (h : x < 0 ∨ nI n ≤ x) (hn : n ≤ 10) (hm : M 9 0 = nI n) : CtO l yX3_die cX3_die 3 (some .int) 3 0 0 n ρ J M [.ref (ρ 9), .int x] (mo M 1 0) := by
  refine CtO.of hl (by decide +kernel) (Nat.le_of_ble_eq_true rfl) (fun Ξ hnL C => ?_)
  show E Ξ n ρ J M 0 0 0 [(0, .ref (ρ 9)), (1, .int x)] []
  refine e_aload_n (j := 0) C dX3_die_0 rfl rfl ?_
  refine e_aload_n (j := 0) C dX3_die_1 rfl rfl ?_
  refine e_iload_n (j := 1) C dX3_die_2 rfl rfl ?_
  refine e_cV (i := 9) (nA := 1) (Cn := RX3) C (c_X3_isMiner_x hl h hn hm) rfl (cnt_fix (by decide)) (fun _ => rfl) rfl rfl mw_213 mw_210 mw_211 mw_212 mw_5 (by decide +kernel) (by decide) rfl rfl (Nat.le_of_ble_eq_true rfl) dX3_die_3 (Nat.le_of_ble_eq_true rfl) (Nat.le_of_ble_eq_true rfl) ?_
  refine e_aload_n (j := 0) C dX3_die_6 rfl rfl ?_
  refine e_iload_n (j := 1) C dX3_die_7 rfl rfl ?_
  refine e_cV (i := 9) (nA := 1) (Cn := RX3) C (c_X3_isAlive_x hl h hn hm) rfl (cnt_fix (by decide)) (fun _ => rfl) rfl rfl mw_264 mw_261 mw_262 mw_263 mw_5 (by decide +kernel) (by decide) rfl rfl (Nat.le_of_ble_eq_true rfl) dX3_die_8 (Nat.le_of_ble_eq_true rfl) (Nat.le_of_ble_eq_true rfl) ?_
  refine e_iconst (v := 1) C dX3_die_11 (by decide) ?_
  refine e_cV (i := 9) (nA := 3) (Cn := RX3) C (c_X3_g1 hl) rfl (cnt_fix (by decide)) (fun _ => rfl) rfl rfl mw_162 mw_159 mw_160 mw_161 mw_5 (by decide +kernel) (by decide) rfl rfl (Nat.le_of_ble_eq_true rfl) dX3_die_12 (Nat.le_of_ble_eq_true rfl) (Nat.le_of_ble_eq_true rfl) ?_
  refine e_if_ne (tgt := 20) C dX3_die_15 (by decide) (fun c_15 => absurd (by decide) c_15) (fun c_15 => ?_)
  refine e_iconst (v := 0) C dX3_die_18 (by decide) ?_
  exact e_iret C rfl (Nat.le_of_ble_eq_true rfl) (Nat.le_of_ble_eq_true rfl) dX3_die_19 (pO.mk rfl)
set_option maxRecDepth 100000 in
set_option maxHeartbeats 4000000 in
theorem c_X3_die {l : Launch} (hl : l.stackTraces = false) {n : Nat} {ρ : Nat → Nat} {J : Nat → Int64} {M : Mem} {k : Nat} (hk : k < n) (hn : n ≤ 10) (hm : M 9 0 = nI n) (hkin : ∀ j, j < n → kinOk n (M 19 j)) : CtO l yX3_die cX3_die 3 (some .int) 3 0 0 n ρ J M [.ref (ρ 9), .int (nI k)] (omdie M k) := by
  refine CtO.of hl (by decide +kernel) (Nat.le_of_ble_eq_true rfl) (fun Ξ hnL C => ?_)
  show E Ξ n ρ J M 0 0 0 [(0, .ref (ρ 9)), (1, .int (nI k))] []
  by_cases h2 : M 10 k = 0
  · refine e_aload_n (j := 0) C dX3_die_0 rfl rfl ?_
    refine e_aload_n (j := 0) C dX3_die_1 rfl rfl ?_
    refine e_iload_n (j := 1) C dX3_die_2 rfl rfl ?_
    refine e_cV (i := 9) (nA := 1) (Cn := RX3) C (c_X3_isMiner hl hk hn hm) rfl (cnt_fix (by decide)) (fun _ => rfl) rfl rfl mw_213 mw_210 mw_211 mw_212 mw_5 (by decide +kernel) (by decide) rfl rfl (Nat.le_of_ble_eq_true rfl) dX3_die_3 (Nat.le_of_ble_eq_true rfl) (Nat.le_of_ble_eq_true rfl) ?_
    refine e_aload_n (j := 0) C dX3_die_6 rfl rfl ?_
    refine e_iload_n (j := 1) C dX3_die_7 rfl rfl ?_
    refine e_cV (i := 9) (nA := 1) (Cn := RX3) C (c_X3_isAlive_d hl hk hn hm h2) rfl (cnt_fix (by decide)) (fun _ => rfl) rfl rfl mw_264 mw_261 mw_262 mw_263 mw_5 (by decide +kernel) (by decide) rfl rfl (Nat.le_of_ble_eq_true rfl) dX3_die_8 (Nat.le_of_ble_eq_true rfl) (Nat.le_of_ble_eq_true rfl) ?_
    refine e_iconst (v := 1) C dX3_die_11 (by decide) ?_
    refine e_cV (i := 9) (nA := 3) (Cn := RX3) C (c_X3_g2 hl) rfl (cnt_fix (by decide)) (fun _ => rfl) rfl rfl mw_162 mw_159 mw_160 mw_161 mw_5 (by decide +kernel) (by decide) rfl rfl (Nat.le_of_ble_eq_true rfl) dX3_die_12 (Nat.le_of_ble_eq_true rfl) (Nat.le_of_ble_eq_true rfl) ?_
    refine e_if_ne (tgt := 20) C dX3_die_15 (by decide) (fun c_15 => absurd (by decide) c_15) (fun c_15 => ?_)
    refine e_iconst (v := 0) C dX3_die_18 (by decide) ?_
    exact e_iret C rfl (Nat.le_of_ble_eq_true rfl) (Nat.le_of_ble_eq_true rfl) dX3_die_19 (pO.mk (by unfold omdie; rw [if_pos h2]))
  · rcases dmH_ok hn hk hkin with hz | ⟨j, hj, ej⟩
    · refine e_aload_n (j := 0) C dX3_die_0 rfl rfl ?_
      refine e_aload_n (j := 0) C dX3_die_1 rfl rfl ?_
      refine e_iload_n (j := 1) C dX3_die_2 rfl rfl ?_
      refine e_cV (i := 9) (nA := 1) (Cn := RX3) C (c_X3_isMiner hl hk hn hm) rfl (cnt_fix (by decide)) (fun _ => rfl) rfl rfl mw_213 mw_210 mw_211 mw_212 mw_5 (by decide +kernel) (by decide) rfl rfl (Nat.le_of_ble_eq_true rfl) dX3_die_3 (Nat.le_of_ble_eq_true rfl) (Nat.le_of_ble_eq_true rfl) ?_
      refine e_aload_n (j := 0) C dX3_die_6 rfl rfl ?_
      refine e_iload_n (j := 1) C dX3_die_7 rfl rfl ?_
      refine e_cV (i := 9) (nA := 1) (Cn := RX3) C (c_X3_isAlive hl hk hn hm h2) rfl (cnt_fix (by decide)) (fun _ => rfl) rfl rfl mw_264 mw_261 mw_262 mw_263 mw_5 (by decide +kernel) (by decide) rfl rfl (Nat.le_of_ble_eq_true rfl) dX3_die_8 (Nat.le_of_ble_eq_true rfl) (Nat.le_of_ble_eq_true rfl) ?_
      refine e_iconst (v := 1) C dX3_die_11 (by decide) ?_
      refine e_cV (i := 9) (nA := 3) (Cn := RX3) C (c_X3_g0 hl) rfl (cnt_fix (by decide)) (fun _ => rfl) rfl rfl mw_162 mw_159 mw_160 mw_161 mw_5 (by decide +kernel) (by decide) rfl rfl (Nat.le_of_ble_eq_true rfl) dX3_die_12 (Nat.le_of_ble_eq_true rfl) (Nat.le_of_ble_eq_true rfl) ?_
      refine e_if_ne (tgt := 20) C dX3_die_15 (by decide) (fun c_15 => ?_) (fun c_15 => absurd c_15 (by decide))
      refine e_aload_n (j := 0) C dX3_die_20 rfl rfl ?_
      refine e_get3 (k := 1) (ref := "ScripHollowModel") C (by decide) rfl rfl mw_54 dX3_die_21 ?_
      refine e_iload_n (j := 1) C dX3_die_24 rfl rfl ?_
      refine e_iconst (v := 0) C dX3_die_25 (by decide) ?_
      refine e_zastN k C (cnt_fix (by decide)) (fun _ _ => rfl) rfl (by omega) (by decide) (by first | decide | exact isB.nr (by assumption)) dX3_die_26 ?_
      refine e_aload_n (j := 0) C dX3_die_27 rfl rfl ?_
      refine e_get3 (k := 4) (ref := "ScripHollowModel") C (by decide) rfl rfl mw_57 dX3_die_28 ?_
      refine e_iload_n (j := 1) C dX3_die_31 rfl rfl ?_
      refine e_iconst (v := 0) C dX3_die_32 (by decide) ?_
      refine e_iastN k C (cnt_fix (by decide)) (fun _ _ => rfl) rfl (by omega) (by decide) dX3_die_33 ?_
      refine e_aload_n (j := 0) C dX3_die_34 rfl rfl ?_
      refine e_get3 (k := 2) (ref := "ScripHollowModel") C (by decide) rfl rfl mw_55 dX3_die_35 ?_
      refine e_iload_n (j := 1) C dX3_die_38 rfl rfl ?_
      refine e_iconst (v := 0) C dX3_die_39 (by decide) ?_
      refine e_zastN k C (cnt_fix (by decide)) (fun _ _ => rfl) rfl (by omega) (by decide) (by first | decide | exact isB.nr (by assumption)) dX3_die_40 ?_
      refine e_aload_n (j := 0) C dX3_die_41 rfl rfl ?_
      refine e_iload_n (j := 1) C dX3_die_42 rfl rfl ?_
      refine e_cV (i := 9) (nA := 1) (Cn := RX3) C (c_X3_heirOf hl (M := dmi M k) hk hn (by rw [dmi19]; exact hkin)) rfl (cnt_fix (by decide)) (fun _ => rfl) rfl rfl mw_593 mw_590 mw_591 mw_592 mw_5 (by decide +kernel) (by decide) rfl rfl (Nat.le_of_ble_eq_true rfl) dX3_die_43 (Nat.le_of_ble_eq_true rfl) (Nat.le_of_ble_eq_true rfl) ?_
      refine e_mem (M' := (dmT M k).1) rfl ?_
      refine e_topi (fun x2_46 ex2_46 => ?_)
      refine e_istore_n (ls2 := [(2, .int x2_46), (0, .ref (ρ 9)), (1, .int (nI k))]) C hnL dX3_die_46 rfl (by decide) rfl ?_
      refine e_aload_n (j := 1) C dX3_die_47 rfl rfl ?_
      refine e_iload_n (j := 2) C dX3_die_48 rfl rfl ?_
      refine e_iload_n (j := 0) C dX3_die_49 rfl rfl ?_
      rw [show x2_46 = -1 from ex2_46.trans hz]
      refine e_cV (i := 9) (nA := 2) (Cn := RX3) C (c_X3_leaves_n hl (show k < 10 by omega)) rfl (cnt_fix (by decide)) (fun _ => rfl) rfl rfl mw_597 mw_594 mw_595 mw_596 mw_5 (by decide +kernel) (by decide) rfl rfl (Nat.le_of_ble_eq_true rfl) dX3_die_50 (Nat.le_of_ble_eq_true rfl) (Nat.le_of_ble_eq_true rfl) ?_
      refine e_iload_n (j := 0) C dX3_die_53 rfl rfl ?_
      exact e_iret C rfl (Nat.le_of_ble_eq_true rfl) (Nat.le_of_ble_eq_true rfl) dX3_die_54 (pO.mk (by unfold omdie; rw [if_neg h2, if_pos hz, hz]))
    · have hne : ¬ dmH M k = -1 := fun w => nI_pos (n := j) (by omega) (by rw [← ej, w]; decide)
      have hjt : (dmH M k).toNatClampNeg = j := by rw [ej]; exact nI_clamp (by omega)
      refine e_aload_n (j := 0) C dX3_die_0 rfl rfl ?_
      refine e_aload_n (j := 0) C dX3_die_1 rfl rfl ?_
      refine e_iload_n (j := 1) C dX3_die_2 rfl rfl ?_
      refine e_cV (i := 9) (nA := 1) (Cn := RX3) C (c_X3_isMiner hl hk hn hm) rfl (cnt_fix (by decide)) (fun _ => rfl) rfl rfl mw_213 mw_210 mw_211 mw_212 mw_5 (by decide +kernel) (by decide) rfl rfl (Nat.le_of_ble_eq_true rfl) dX3_die_3 (Nat.le_of_ble_eq_true rfl) (Nat.le_of_ble_eq_true rfl) ?_
      refine e_aload_n (j := 0) C dX3_die_6 rfl rfl ?_
      refine e_iload_n (j := 1) C dX3_die_7 rfl rfl ?_
      refine e_cV (i := 9) (nA := 1) (Cn := RX3) C (c_X3_isAlive hl hk hn hm h2) rfl (cnt_fix (by decide)) (fun _ => rfl) rfl rfl mw_264 mw_261 mw_262 mw_263 mw_5 (by decide +kernel) (by decide) rfl rfl (Nat.le_of_ble_eq_true rfl) dX3_die_8 (Nat.le_of_ble_eq_true rfl) (Nat.le_of_ble_eq_true rfl) ?_
      refine e_iconst (v := 1) C dX3_die_11 (by decide) ?_
      refine e_cV (i := 9) (nA := 3) (Cn := RX3) C (c_X3_g0 hl) rfl (cnt_fix (by decide)) (fun _ => rfl) rfl rfl mw_162 mw_159 mw_160 mw_161 mw_5 (by decide +kernel) (by decide) rfl rfl (Nat.le_of_ble_eq_true rfl) dX3_die_12 (Nat.le_of_ble_eq_true rfl) (Nat.le_of_ble_eq_true rfl) ?_
      refine e_if_ne (tgt := 20) C dX3_die_15 (by decide) (fun c_15 => ?_) (fun c_15 => absurd c_15 (by decide))
      refine e_aload_n (j := 0) C dX3_die_20 rfl rfl ?_
      refine e_get3 (k := 1) (ref := "ScripHollowModel") C (by decide) rfl rfl mw_54 dX3_die_21 ?_
      refine e_iload_n (j := 1) C dX3_die_24 rfl rfl ?_
      refine e_iconst (v := 0) C dX3_die_25 (by decide) ?_
      refine e_zastN k C (cnt_fix (by decide)) (fun _ _ => rfl) rfl (by omega) (by decide) (by first | decide | exact isB.nr (by assumption)) dX3_die_26 ?_
      refine e_aload_n (j := 0) C dX3_die_27 rfl rfl ?_
      refine e_get3 (k := 4) (ref := "ScripHollowModel") C (by decide) rfl rfl mw_57 dX3_die_28 ?_
      refine e_iload_n (j := 1) C dX3_die_31 rfl rfl ?_
      refine e_iconst (v := 0) C dX3_die_32 (by decide) ?_
      refine e_iastN k C (cnt_fix (by decide)) (fun _ _ => rfl) rfl (by omega) (by decide) dX3_die_33 ?_
      refine e_aload_n (j := 0) C dX3_die_34 rfl rfl ?_
      refine e_get3 (k := 2) (ref := "ScripHollowModel") C (by decide) rfl rfl mw_55 dX3_die_35 ?_
      refine e_iload_n (j := 1) C dX3_die_38 rfl rfl ?_
      refine e_iconst (v := 0) C dX3_die_39 (by decide) ?_
      refine e_zastN k C (cnt_fix (by decide)) (fun _ _ => rfl) rfl (by omega) (by decide) (by first | decide | exact isB.nr (by assumption)) dX3_die_40 ?_
      refine e_aload_n (j := 0) C dX3_die_41 rfl rfl ?_
      refine e_iload_n (j := 1) C dX3_die_42 rfl rfl ?_
      refine e_cV (i := 9) (nA := 1) (Cn := RX3) C (c_X3_heirOf hl (M := dmi M k) hk hn (by rw [dmi19]; exact hkin)) rfl (cnt_fix (by decide)) (fun _ => rfl) rfl rfl mw_593 mw_590 mw_591 mw_592 mw_5 (by decide +kernel) (by decide) rfl rfl (Nat.le_of_ble_eq_true rfl) dX3_die_43 (Nat.le_of_ble_eq_true rfl) (Nat.le_of_ble_eq_true rfl) ?_
      refine e_mem (M' := (dmT M k).1) rfl ?_
      refine e_topi (fun x2_46 ex2_46 => ?_)
      refine e_istore_n (ls2 := [(2, .int x2_46), (0, .ref (ρ 9)), (1, .int (nI k))]) C hnL dX3_die_46 rfl (by decide) rfl ?_
      refine e_aload_n (j := 1) C dX3_die_47 rfl rfl ?_
      refine e_iload_n (j := 2) C dX3_die_48 rfl rfl ?_
      refine e_iload_n (j := 0) C dX3_die_49 rfl rfl ?_
      rw [show x2_46 = nI j from ex2_46.trans ej]
      refine e_cV (i := 9) (nA := 2) (Cn := RX3) C (c_X3_leaves hl (show k < 10 by omega) (show j < 10 by omega)) rfl (cnt_fix (by decide)) (fun _ => rfl) rfl rfl mw_597 mw_594 mw_595 mw_596 mw_5 (by decide +kernel) (by decide) rfl rfl (Nat.le_of_ble_eq_true rfl) dX3_die_50 (Nat.le_of_ble_eq_true rfl) (Nat.le_of_ble_eq_true rfl) ?_
      refine e_iload_n (j := 0) C dX3_die_53 rfl rfl ?_
      exact e_iret C rfl (Nat.le_of_ble_eq_true rfl) (Nat.le_of_ble_eq_true rfl) dX3_die_54 (pO.mk (by unfold omdie; rw [if_neg h2, if_neg hne, hjt, ej]))
