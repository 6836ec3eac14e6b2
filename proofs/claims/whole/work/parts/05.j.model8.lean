/-! The reference's paydays. -/
def psW (M : Mem) (k : Nat) : Int32 := ((M 13 k).toInt64 * (M 23 0).toInt64 / 10).toInt32
def psR (M : Mem) (k : Nat) : Int32 := M 16 k + (if M 11 k = 0 then 0 else M 23 1)
/-- what is due of a kind -/
def psD (M : Mem) (k : Nat) (rent : Int32) : Nat → Int32
  | 0 => 0
  | 1 => rent
  | 2 => M 23 2
  | 3 => if spM M = 0 then M 23 3 else 0
  | 4 => if spM M = 0 then M 23 4 else 0
  | _ => if spM M = 0 then M 15 k else 0
/-- one kind's turn: arrears, debts, what is left, what 3 to 5 took -/
def psX (due left : Int32) : Int32 := if left ≤ due then left else due
def psA (M : Mem) (k d : Nat) (t : Int32) : Mem := up M 16 k (M 16 k - (if d = 1 then t else 0))
def psB (M : Mem) (k d : Nat) (t : Int32) : Mem := up M 15 k (M 15 k - (if d = 5 then t else 0))
def psM (M : Mem) (k d : Nat) (rent left : Int32) : Mem := psB (psA M k d (psX (psD M k rent d) left)) k d (psX (psD M k rent d) left)
def psL (M : Mem) (k d : Nat) (rent left : Int32) : Int32 := left - psX (psD M k rent d) left
def psT (M : Mem) (k d : Nat) (rent left tk : Int32) : Int32 := tk + (if 2 < d then psX (psD M k rent d) left else 0)
/-- the reference's digit -/
def kdM (M : Mem) (pl : Int32) : Int32 := M 9 20 / pl - M 9 20 / pl / 10 * 10
def ps0 (M : Mem) (k : Nat) : Mem := up (up M 13 k 0) 16 k (psR (up M 13 k 0) k)
set_option maxRecDepth 100000 in
set_option maxHeartbeats 4000000 in
theorem sg_0 {l : Launch} (hl : l.stackTraces = false) {n : Nat} {ρ : Nat → Nat} {J : Nat → Int64} {M : Mem} {k : Nat} (hk : k < 10) {o : Out} {Ξ : CT} (hnL : Ξ.2.2.2.2.2.2 = 11) (C : CxO l 1 0 0 cX3_pays RX3 (some .int) n ρ J o Ξ) {pl tk rent lf : Int32} {wg : Int64}
    (hE : E Ξ n ρ J (psM M k 0 rent lf) 0 0 75 [(7, .int (pl / 10)), (6, .int (psT M k 0 rent lf tk)), (5, .int rent), (4, .int (psL M k 0 rent lf)), (2, .long wg), (0, .ref (ρ 9)), (1, .int (nI k))] []) :
    E Ξ n ρ J M 0 0 92 [(8, .int 0), (7, .int pl), (6, .int tk), (5, .int rent), (4, .int lf), (2, .long wg), (0, .ref (ρ 9)), (1, .int (nI k))] [] := by
  unfold psM psL psT at hE
  refine e_iload (j := 0) C dX3_pays_92 rfl ?_
  refine e_if_eq (tgt := 110) C dX3_pays_94 (by decide) (fun c_94 => ?_) (fun c_94 => absurd (by decide) c_94)
  refine e_iconst (v := 0) C dX3_pays_110 (by decide) ?_
  refine e_goto (tgt := 147) C dX3_pays_111 (by decide) ?_
  refine e_istore (ls2 := [(9, .int 0), (8, .int 0), (7, .int pl), (6, .int tk), (5, .int rent), (4, .int lf), (2, .long wg), (0, .ref (ρ 9)), (1, .int (nI k))]) C hnL dX3_pays_147 (by decide) rfl ?_
  refine e_iload (j := 0) C dX3_pays_149 rfl ?_
  refine e_iload (j := 5) C dX3_pays_151 rfl ?_
  refine e_icmp_ge (tgt := 161) C dX3_pays_153 (by decide) (fun c_153 => ?_) (fun c_153 => ?_)
  · refine e_iload (j := 5) C dX3_pays_161 rfl ?_
    refine e_istore (ls2 := [(10, .int lf), (9, .int 0), (8, .int 0), (7, .int pl), (6, .int tk), (5, .int rent), (4, .int lf), (2, .long wg), (0, .ref (ρ 9)), (1, .int (nI k))]) C hnL dX3_pays_163 (by decide) rfl ?_
    refine e_iload (j := 6) C dX3_pays_165 rfl ?_
    refine e_iload (j := 0) C dX3_pays_167 rfl ?_
    refine e_isub C dX3_pays_169 ?_
    refine e_topi (fun x4_170 ex4_170 => ?_)
    refine e_istore (ls2 := [(4, .int x4_170), (10, .int lf), (9, .int 0), (8, .int 0), (7, .int pl), (6, .int tk), (5, .int rent), (2, .long wg), (0, .ref (ρ 9)), (1, .int (nI k))]) C hnL dX3_pays_170 (by decide) rfl ?_
    refine e_aload_n (j := 8) C dX3_pays_172 rfl rfl ?_
    refine e_get3 (k := 7) (ref := "ScripHollowModel") C (by decide) rfl rfl mw_60 dX3_pays_173 ?_
    refine e_iload_n (j := 9) C dX3_pays_176 rfl rfl ?_
    refine e_dup2 C dX3_pays_177 rfl rfl ?_
    refine e_ialdN k C (cnt_fix (by decide)) (fun _ => rfl) rfl (by omega) (by decide) dX3_pays_178 ?_
    refine e_iload (j := 3) C dX3_pays_179 rfl ?_
    refine e_iconst (v := 1) C dX3_pays_181 (by decide) ?_
    refine e_icmp_ne (tgt := 190) C dX3_pays_182 (by decide) (fun c_182 => ?_) (fun c_182 => absurd c_182 (by decide))
    refine e_iconst (v := 0) C dX3_pays_190 (by decide) ?_
    refine e_isub C dX3_pays_191 ?_
    refine e_iastN k C (cnt_fix (by decide)) (fun _ _ => rfl) rfl (by omega) (by decide) dX3_pays_192 ?_
    refine e_aload_n (j := 8) C dX3_pays_193 rfl rfl ?_
    refine e_get3 (k := 6) (ref := "ScripHollowModel") C (by decide) rfl rfl mw_59 dX3_pays_194 ?_
    refine e_iload_n (j := 9) C dX3_pays_197 rfl rfl ?_
    refine e_dup2 C dX3_pays_198 rfl rfl ?_
    refine e_ialdN k C (cnt_fix (by decide)) (fun _ => rfl) rfl (by omega) (by decide) dX3_pays_199 ?_
    refine e_iload (j := 3) C dX3_pays_200 rfl ?_
    refine e_iconst (v := 5) C dX3_pays_202 (by decide) ?_
    refine e_icmp_ne (tgt := 211) C dX3_pays_203 (by decide) (fun c_203 => ?_) (fun c_203 => absurd c_203 (by decide))
    refine e_iconst (v := 0) C dX3_pays_211 (by decide) ?_
    refine e_isub C dX3_pays_212 ?_
    refine e_iastN k C (cnt_fix (by decide)) (fun _ _ => rfl) rfl (by omega) (by decide) dX3_pays_213 ?_
    refine e_iload (j := 5) C dX3_pays_214 rfl ?_
    refine e_iload (j := 3) C dX3_pays_216 rfl ?_
    refine e_iconst (v := 2) C dX3_pays_218 (by decide) ?_
    refine e_icmp_le (tgt := 227) C dX3_pays_219 (by decide) (fun c_219 => ?_) (fun c_219 => absurd (by decide) c_219)
    refine e_iconst (v := 0) C dX3_pays_227 (by decide) ?_
    refine e_iadd C dX3_pays_228 ?_
    refine e_topi (fun x6_229 ex6_229 => ?_)
    refine e_istore (ls2 := [(6, .int x6_229), (4, .int x4_170), (10, .int lf), (9, .int 0), (8, .int 0), (7, .int pl), (5, .int rent), (2, .long wg), (0, .ref (ρ 9)), (1, .int (nI k))]) C hnL dX3_pays_229 (by decide) rfl ?_
    refine e_iload (j := 5) C dX3_pays_231 rfl ?_
    refine e_bipush (v := 10) C dX3_pays_233 (by decide) ?_
    refine e_idiv C dX3_pays_235 (by decide) ?_
    refine e_topi (fun x7_236 ex7_236 => ?_)
    refine e_istore (ls2 := [(7, .int x7_236), (6, .int x6_229), (4, .int x4_170), (10, .int lf), (9, .int 0), (8, .int 0), (5, .int rent), (2, .long wg), (0, .ref (ρ 9)), (1, .int (nI k))]) C hnL dX3_pays_236 (by decide) rfl ?_
    refine e_goto (tgt := 75) C dX3_pays_238 (by decide) ?_
    have hdue : psD M k rent 0 = 0 := by show (0 : Int32) = _; (repeat (first | rw [if_pos c_94] | rw [if_pos c_153] | rw [if_neg c_182] | rw [if_neg c_203] | rw [if_pos c_219])); (try rfl)
    have htk : psX (psD M k rent 0) lf = lf := by rw [hdue]; unfold psX; (repeat (first | rw [if_pos c_94] | rw [if_pos c_153] | rw [if_neg c_182] | rw [if_neg c_203] | rw [if_pos c_219]))
    rw [htk] at hE
    unfold psB psA at hE
    subst ex7_236 ex6_229 ex4_170
    exact e_sub [0, 1, 6, 2, 7, 8, 9] rfl hE
  · refine e_iload (j := 0) C dX3_pays_156 rfl ?_
    refine e_goto (tgt := 163) C dX3_pays_158 (by decide) ?_
    refine e_istore (ls2 := [(10, .int 0), (9, .int 0), (8, .int 0), (7, .int pl), (6, .int tk), (5, .int rent), (4, .int lf), (2, .long wg), (0, .ref (ρ 9)), (1, .int (nI k))]) C hnL dX3_pays_163 (by decide) rfl ?_
    refine e_iload (j := 6) C dX3_pays_165 rfl ?_
    refine e_iload (j := 0) C dX3_pays_167 rfl ?_
    refine e_isub C dX3_pays_169 ?_
    refine e_topi (fun x4_170 ex4_170 => ?_)
    refine e_istore (ls2 := [(4, .int x4_170), (10, .int 0), (9, .int 0), (8, .int 0), (7, .int pl), (6, .int tk), (5, .int rent), (2, .long wg), (0, .ref (ρ 9)), (1, .int (nI k))]) C hnL dX3_pays_170 (by decide) rfl ?_
    refine e_aload_n (j := 8) C dX3_pays_172 rfl rfl ?_
    refine e_get3 (k := 7) (ref := "ScripHollowModel") C (by decide) rfl rfl mw_60 dX3_pays_173 ?_
    refine e_iload_n (j := 9) C dX3_pays_176 rfl rfl ?_
    refine e_dup2 C dX3_pays_177 rfl rfl ?_
    refine e_ialdN k C (cnt_fix (by decide)) (fun _ => rfl) rfl (by omega) (by decide) dX3_pays_178 ?_
    refine e_iload (j := 3) C dX3_pays_179 rfl ?_
    refine e_iconst (v := 1) C dX3_pays_181 (by decide) ?_
    refine e_icmp_ne (tgt := 190) C dX3_pays_182 (by decide) (fun c_182 => ?_) (fun c_182 => absurd c_182 (by decide))
    refine e_iconst (v := 0) C dX3_pays_190 (by decide) ?_
    refine e_isub C dX3_pays_191 ?_
    refine e_iastN k C (cnt_fix (by decide)) (fun _ _ => rfl) rfl (by omega) (by decide) dX3_pays_192 ?_
    refine e_aload_n (j := 8) C dX3_pays_193 rfl rfl ?_
    refine e_get3 (k := 6) (ref := "ScripHollowModel") C (by decide) rfl rfl mw_59 dX3_pays_194 ?_
    refine e_iload_n (j := 9) C dX3_pays_197 rfl rfl ?_
    refine e_dup2 C dX3_pays_198 rfl rfl ?_
    refine e_ialdN k C (cnt_fix (by decide)) (fun _ => rfl) rfl (by omega) (by decide) dX3_pays_199 ?_
    refine e_iload (j := 3) C dX3_pays_200 rfl ?_
    refine e_iconst (v := 5) C dX3_pays_202 (by decide) ?_
    refine e_icmp_ne (tgt := 211) C dX3_pays_203 (by decide) (fun c_203 => ?_) (fun c_203 => absurd c_203 (by decide))
    refine e_iconst (v := 0) C dX3_pays_211 (by decide) ?_
    refine e_isub C dX3_pays_212 ?_
    refine e_iastN k C (cnt_fix (by decide)) (fun _ _ => rfl) rfl (by omega) (by decide) dX3_pays_213 ?_
    refine e_iload (j := 5) C dX3_pays_214 rfl ?_
    refine e_iload (j := 3) C dX3_pays_216 rfl ?_
    refine e_iconst (v := 2) C dX3_pays_218 (by decide) ?_
    refine e_icmp_le (tgt := 227) C dX3_pays_219 (by decide) (fun c_219 => ?_) (fun c_219 => absurd (by decide) c_219)
    refine e_iconst (v := 0) C dX3_pays_227 (by decide) ?_
    refine e_iadd C dX3_pays_228 ?_
    refine e_topi (fun x6_229 ex6_229 => ?_)
    refine e_istore (ls2 := [(6, .int x6_229), (4, .int x4_170), (10, .int 0), (9, .int 0), (8, .int 0), (7, .int pl), (5, .int rent), (2, .long wg), (0, .ref (ρ 9)), (1, .int (nI k))]) C hnL dX3_pays_229 (by decide) rfl ?_
    refine e_iload (j := 5) C dX3_pays_231 rfl ?_
    refine e_bipush (v := 10) C dX3_pays_233 (by decide) ?_
    refine e_idiv C dX3_pays_235 (by decide) ?_
    refine e_topi (fun x7_236 ex7_236 => ?_)
    refine e_istore (ls2 := [(7, .int x7_236), (6, .int x6_229), (4, .int x4_170), (10, .int 0), (9, .int 0), (8, .int 0), (5, .int rent), (2, .long wg), (0, .ref (ρ 9)), (1, .int (nI k))]) C hnL dX3_pays_236 (by decide) rfl ?_
    refine e_goto (tgt := 75) C dX3_pays_238 (by decide) ?_
    have hdue : psD M k rent 0 = 0 := by show (0 : Int32) = _; (repeat (first | rw [if_pos c_94] | rw [if_neg c_153] | rw [if_neg c_182] | rw [if_neg c_203] | rw [if_pos c_219])); (try rfl)
    have htk : psX (psD M k rent 0) lf = 0 := by rw [hdue]; unfold psX; (repeat (first | rw [if_pos c_94] | rw [if_neg c_153] | rw [if_neg c_182] | rw [if_neg c_203] | rw [if_pos c_219]))
    rw [htk] at hE
    unfold psB psA at hE
    subst ex7_236 ex6_229 ex4_170
    exact e_sub [0, 1, 6, 2, 7, 8, 9] rfl hE
set_option maxRecDepth 100000 in
set_option maxHeartbeats 4000000 in
theorem sg_1 {l : Launch} (hl : l.stackTraces = false) {n : Nat} {ρ : Nat → Nat} {J : Nat → Int64} {M : Mem} {k : Nat} (hk : k < 10) {o : Out} {Ξ : CT} (hnL : Ξ.2.2.2.2.2.2 = 11) (C : CxO l 1 0 0 cX3_pays RX3 (some .int) n ρ J o Ξ) {pl tk rent lf : Int32} {wg : Int64}
    (hE : E Ξ n ρ J (psM M k 1 rent lf) 0 0 75 [(7, .int (pl / 10)), (6, .int (psT M k 1 rent lf tk)), (5, .int rent), (4, .int (psL M k 1 rent lf)), (2, .long wg), (0, .ref (ρ 9)), (1, .int (nI k))] []) :
    E Ξ n ρ J M 0 0 92 [(8, .int 1), (7, .int pl), (6, .int tk), (5, .int rent), (4, .int lf), (2, .long wg), (0, .ref (ρ 9)), (1, .int (nI k))] [] := by
  unfold psM psL psT at hE
  refine e_iload (j := 0) C dX3_pays_92 rfl ?_
  refine e_if_eq (tgt := 110) C dX3_pays_94 (by decide) (fun c_94 => absurd c_94 (by decide)) (fun c_94 => ?_)
  refine e_iload (j := 0) C dX3_pays_97 rfl ?_
  refine e_iconst (v := 2) C dX3_pays_99 (by decide) ?_
  refine e_icmp_le (tgt := 114) C dX3_pays_100 (by decide) (fun c_100 => ?_) (fun c_100 => absurd (by decide) c_100)
  refine e_iload (j := 0) C dX3_pays_114 rfl ?_
  refine e_iconst (v := 1) C dX3_pays_116 (by decide) ?_
  refine e_icmp_ne (tgt := 125) C dX3_pays_117 (by decide) (fun c_117 => absurd (by decide) c_117) (fun c_117 => ?_)
  refine e_iload (j := 3) C dX3_pays_120 rfl ?_
  refine e_goto (tgt := 147) C dX3_pays_122 (by decide) ?_
  refine e_istore (ls2 := [(9, .int rent), (8, .int 1), (7, .int pl), (6, .int tk), (5, .int rent), (4, .int lf), (2, .long wg), (0, .ref (ρ 9)), (1, .int (nI k))]) C hnL dX3_pays_147 (by decide) rfl ?_
  refine e_iload (j := 0) C dX3_pays_149 rfl ?_
  refine e_iload (j := 5) C dX3_pays_151 rfl ?_
  refine e_icmp_ge (tgt := 161) C dX3_pays_153 (by decide) (fun c_153 => ?_) (fun c_153 => ?_)
  · refine e_iload (j := 5) C dX3_pays_161 rfl ?_
    refine e_istore (ls2 := [(10, .int lf), (9, .int rent), (8, .int 1), (7, .int pl), (6, .int tk), (5, .int rent), (4, .int lf), (2, .long wg), (0, .ref (ρ 9)), (1, .int (nI k))]) C hnL dX3_pays_163 (by decide) rfl ?_
    refine e_iload (j := 6) C dX3_pays_165 rfl ?_
    refine e_iload (j := 0) C dX3_pays_167 rfl ?_
    refine e_isub C dX3_pays_169 ?_
    refine e_topi (fun x4_170 ex4_170 => ?_)
    refine e_istore (ls2 := [(4, .int x4_170), (10, .int lf), (9, .int rent), (8, .int 1), (7, .int pl), (6, .int tk), (5, .int rent), (2, .long wg), (0, .ref (ρ 9)), (1, .int (nI k))]) C hnL dX3_pays_170 (by decide) rfl ?_
    refine e_aload_n (j := 8) C dX3_pays_172 rfl rfl ?_
    refine e_get3 (k := 7) (ref := "ScripHollowModel") C (by decide) rfl rfl mw_60 dX3_pays_173 ?_
    refine e_iload_n (j := 9) C dX3_pays_176 rfl rfl ?_
    refine e_dup2 C dX3_pays_177 rfl rfl ?_
    refine e_ialdN k C (cnt_fix (by decide)) (fun _ => rfl) rfl (by omega) (by decide) dX3_pays_178 ?_
    refine e_iload (j := 3) C dX3_pays_179 rfl ?_
    refine e_iconst (v := 1) C dX3_pays_181 (by decide) ?_
    refine e_icmp_ne (tgt := 190) C dX3_pays_182 (by decide) (fun c_182 => absurd (by decide) c_182) (fun c_182 => ?_)
    refine e_iload (j := 1) C dX3_pays_185 rfl ?_
    refine e_goto (tgt := 191) C dX3_pays_187 (by decide) ?_
    refine e_isub C dX3_pays_191 ?_
    refine e_iastN k C (cnt_fix (by decide)) (fun _ _ => rfl) rfl (by omega) (by decide) dX3_pays_192 ?_
    refine e_aload_n (j := 8) C dX3_pays_193 rfl rfl ?_
    refine e_get3 (k := 6) (ref := "ScripHollowModel") C (by decide) rfl rfl mw_59 dX3_pays_194 ?_
    refine e_iload_n (j := 9) C dX3_pays_197 rfl rfl ?_
    refine e_dup2 C dX3_pays_198 rfl rfl ?_
    refine e_ialdN k C (cnt_fix (by decide)) (fun _ => rfl) rfl (by omega) (by decide) dX3_pays_199 ?_
    refine e_iload (j := 3) C dX3_pays_200 rfl ?_
    refine e_iconst (v := 5) C dX3_pays_202 (by decide) ?_
    refine e_icmp_ne (tgt := 211) C dX3_pays_203 (by decide) (fun c_203 => ?_) (fun c_203 => absurd c_203 (by decide))
    refine e_iconst (v := 0) C dX3_pays_211 (by decide) ?_
    refine e_isub C dX3_pays_212 ?_
    refine e_iastN k C (cnt_fix (by decide)) (fun _ _ => rfl) rfl (by omega) (by decide) dX3_pays_213 ?_
    refine e_iload (j := 5) C dX3_pays_214 rfl ?_
    refine e_iload (j := 3) C dX3_pays_216 rfl ?_
    refine e_iconst (v := 2) C dX3_pays_218 (by decide) ?_
    refine e_icmp_le (tgt := 227) C dX3_pays_219 (by decide) (fun c_219 => ?_) (fun c_219 => absurd (by decide) c_219)
    refine e_iconst (v := 0) C dX3_pays_227 (by decide) ?_
    refine e_iadd C dX3_pays_228 ?_
    refine e_topi (fun x6_229 ex6_229 => ?_)
    refine e_istore (ls2 := [(6, .int x6_229), (4, .int x4_170), (10, .int lf), (9, .int rent), (8, .int 1), (7, .int pl), (5, .int rent), (2, .long wg), (0, .ref (ρ 9)), (1, .int (nI k))]) C hnL dX3_pays_229 (by decide) rfl ?_
    refine e_iload (j := 5) C dX3_pays_231 rfl ?_
    refine e_bipush (v := 10) C dX3_pays_233 (by decide) ?_
    refine e_idiv C dX3_pays_235 (by decide) ?_
    refine e_topi (fun x7_236 ex7_236 => ?_)
    refine e_istore (ls2 := [(7, .int x7_236), (6, .int x6_229), (4, .int x4_170), (10, .int lf), (9, .int rent), (8, .int 1), (5, .int rent), (2, .long wg), (0, .ref (ρ 9)), (1, .int (nI k))]) C hnL dX3_pays_236 (by decide) rfl ?_
    refine e_goto (tgt := 75) C dX3_pays_238 (by decide) ?_
    have hdue : psD M k rent 1 = rent := by show (rent : Int32) = _; (repeat (first | rw [if_neg c_94] | rw [if_pos c_100] | rw [if_pos c_117] | rw [if_pos c_153] | rw [if_pos c_182] | rw [if_neg c_203] | rw [if_pos c_219])); (try rfl)
    have htk : psX (psD M k rent 1) lf = lf := by rw [hdue]; unfold psX; (repeat (first | rw [if_neg c_94] | rw [if_pos c_100] | rw [if_pos c_117] | rw [if_pos c_153] | rw [if_pos c_182] | rw [if_neg c_203] | rw [if_pos c_219]))
    rw [htk] at hE
    unfold psB psA at hE
    subst ex7_236 ex6_229 ex4_170
    exact e_sub [0, 1, 6, 2, 7, 8, 9] rfl hE
  · refine e_iload (j := 0) C dX3_pays_156 rfl ?_
    refine e_goto (tgt := 163) C dX3_pays_158 (by decide) ?_
    refine e_istore (ls2 := [(10, .int rent), (9, .int rent), (8, .int 1), (7, .int pl), (6, .int tk), (5, .int rent), (4, .int lf), (2, .long wg), (0, .ref (ρ 9)), (1, .int (nI k))]) C hnL dX3_pays_163 (by decide) rfl ?_
    refine e_iload (j := 6) C dX3_pays_165 rfl ?_
    refine e_iload (j := 0) C dX3_pays_167 rfl ?_
    refine e_isub C dX3_pays_169 ?_
    refine e_topi (fun x4_170 ex4_170 => ?_)
    refine e_istore (ls2 := [(4, .int x4_170), (10, .int rent), (9, .int rent), (8, .int 1), (7, .int pl), (6, .int tk), (5, .int rent), (2, .long wg), (0, .ref (ρ 9)), (1, .int (nI k))]) C hnL dX3_pays_170 (by decide) rfl ?_
    refine e_aload_n (j := 8) C dX3_pays_172 rfl rfl ?_
    refine e_get3 (k := 7) (ref := "ScripHollowModel") C (by decide) rfl rfl mw_60 dX3_pays_173 ?_
    refine e_iload_n (j := 9) C dX3_pays_176 rfl rfl ?_
    refine e_dup2 C dX3_pays_177 rfl rfl ?_
    refine e_ialdN k C (cnt_fix (by decide)) (fun _ => rfl) rfl (by omega) (by decide) dX3_pays_178 ?_
    refine e_iload (j := 3) C dX3_pays_179 rfl ?_
    refine e_iconst (v := 1) C dX3_pays_181 (by decide) ?_
    refine e_icmp_ne (tgt := 190) C dX3_pays_182 (by decide) (fun c_182 => absurd (by decide) c_182) (fun c_182 => ?_)
    refine e_iload (j := 1) C dX3_pays_185 rfl ?_
    refine e_goto (tgt := 191) C dX3_pays_187 (by decide) ?_
    refine e_isub C dX3_pays_191 ?_
    refine e_iastN k C (cnt_fix (by decide)) (fun _ _ => rfl) rfl (by omega) (by decide) dX3_pays_192 ?_
    refine e_aload_n (j := 8) C dX3_pays_193 rfl rfl ?_
    refine e_get3 (k := 6) (ref := "ScripHollowModel") C (by decide) rfl rfl mw_59 dX3_pays_194 ?_
    refine e_iload_n (j := 9) C dX3_pays_197 rfl rfl ?_
    refine e_dup2 C dX3_pays_198 rfl rfl ?_
    refine e_ialdN k C (cnt_fix (by decide)) (fun _ => rfl) rfl (by omega) (by decide) dX3_pays_199 ?_
    refine e_iload (j := 3) C dX3_pays_200 rfl ?_
    refine e_iconst (v := 5) C dX3_pays_202 (by decide) ?_
    refine e_icmp_ne (tgt := 211) C dX3_pays_203 (by decide) (fun c_203 => ?_) (fun c_203 => absurd c_203 (by decide))
    refine e_iconst (v := 0) C dX3_pays_211 (by decide) ?_
    refine e_isub C dX3_pays_212 ?_
    refine e_iastN k C (cnt_fix (by decide)) (fun _ _ => rfl) rfl (by omega) (by decide) dX3_pays_213 ?_
    refine e_iload (j := 5) C dX3_pays_214 rfl ?_
    refine e_iload (j := 3) C dX3_pays_216 rfl ?_
    refine e_iconst (v := 2) C dX3_pays_218 (by decide) ?_
    refine e_icmp_le (tgt := 227) C dX3_pays_219 (by decide) (fun c_219 => ?_) (fun c_219 => absurd (by decide) c_219)
    refine e_iconst (v := 0) C dX3_pays_227 (by decide) ?_
    refine e_iadd C dX3_pays_228 ?_
    refine e_topi (fun x6_229 ex6_229 => ?_)
    refine e_istore (ls2 := [(6, .int x6_229), (4, .int x4_170), (10, .int rent), (9, .int rent), (8, .int 1), (7, .int pl), (5, .int rent), (2, .long wg), (0, .ref (ρ 9)), (1, .int (nI k))]) C hnL dX3_pays_229 (by decide) rfl ?_
    refine e_iload (j := 5) C dX3_pays_231 rfl ?_
    refine e_bipush (v := 10) C dX3_pays_233 (by decide) ?_
    refine e_idiv C dX3_pays_235 (by decide) ?_
    refine e_topi (fun x7_236 ex7_236 => ?_)
    refine e_istore (ls2 := [(7, .int x7_236), (6, .int x6_229), (4, .int x4_170), (10, .int rent), (9, .int rent), (8, .int 1), (5, .int rent), (2, .long wg), (0, .ref (ρ 9)), (1, .int (nI k))]) C hnL dX3_pays_236 (by decide) rfl ?_
    refine e_goto (tgt := 75) C dX3_pays_238 (by decide) ?_
    have hdue : psD M k rent 1 = rent := by show (rent : Int32) = _; (repeat (first | rw [if_neg c_94] | rw [if_pos c_100] | rw [if_pos c_117] | rw [if_neg c_153] | rw [if_pos c_182] | rw [if_neg c_203] | rw [if_pos c_219])); (try rfl)
    have htk : psX (psD M k rent 1) lf = rent := by rw [hdue]; unfold psX; (repeat (first | rw [if_neg c_94] | rw [if_pos c_100] | rw [if_pos c_117] | rw [if_neg c_153] | rw [if_pos c_182] | rw [if_neg c_203] | rw [if_pos c_219]))
    rw [htk] at hE
    unfold psB psA at hE
    subst ex7_236 ex6_229 ex4_170
    exact e_sub [0, 1, 6, 2, 7, 8, 9] rfl hE
set_option maxRecDepth 100000 in
set_option maxHeartbeats 4000000 in
theorem sg_2 {l : Launch} (hl : l.stackTraces = false) {n : Nat} {ρ : Nat → Nat} {J : Nat → Int64} {M : Mem} {k : Nat} (hk : k < 10) {o : Out} {Ξ : CT} (hnL : Ξ.2.2.2.2.2.2 = 11) (C : CxO l 1 0 0 cX3_pays RX3 (some .int) n ρ J o Ξ) {pl tk rent lf : Int32} {wg : Int64}
    (hE : E Ξ n ρ J (psM M k 2 rent lf) 0 0 75 [(7, .int (pl / 10)), (6, .int (psT M k 2 rent lf tk)), (5, .int rent), (4, .int (psL M k 2 rent lf)), (2, .long wg), (0, .ref (ρ 9)), (1, .int (nI k))] []) :
    E Ξ n ρ J M 0 0 92 [(8, .int 2), (7, .int pl), (6, .int tk), (5, .int rent), (4, .int lf), (2, .long wg), (0, .ref (ρ 9)), (1, .int (nI k))] [] := by
  unfold psM psL psT at hE
  refine e_iload (j := 0) C dX3_pays_92 rfl ?_
  refine e_if_eq (tgt := 110) C dX3_pays_94 (by decide) (fun c_94 => absurd c_94 (by decide)) (fun c_94 => ?_)
  refine e_iload (j := 0) C dX3_pays_97 rfl ?_
  refine e_iconst (v := 2) C dX3_pays_99 (by decide) ?_
  refine e_icmp_le (tgt := 114) C dX3_pays_100 (by decide) (fun c_100 => ?_) (fun c_100 => absurd (by decide) c_100)
  refine e_iload (j := 0) C dX3_pays_114 rfl ?_
  refine e_iconst (v := 1) C dX3_pays_116 (by decide) ?_
  refine e_icmp_ne (tgt := 125) C dX3_pays_117 (by decide) (fun c_117 => ?_) (fun c_117 => absurd c_117 (by decide))
  refine e_iload (j := 0) C dX3_pays_125 rfl ?_
  refine e_iconst (v := 5) C dX3_pays_127 (by decide) ?_
  refine e_icmp_ne (tgt := 140) C dX3_pays_128 (by decide) (fun c_128 => ?_) (fun c_128 => absurd c_128 (by decide))
  refine e_aload_n (j := 6) C dX3_pays_140 rfl rfl ?_
  refine e_get3 (k := 14) (ref := "ScripHollowModel") C (by decide) rfl rfl mw_67 dX3_pays_141 ?_
  refine e_iload (j := 0) C dX3_pays_144 rfl ?_
  refine e_ialdN 2 C (cnt_fix (by decide)) (fun _ => rfl) rfl (by decide) (by decide) dX3_pays_146 ?_
  refine e_topi (fun x9_147 ex9_147 => ?_)
  refine e_istore (ls2 := [(9, .int x9_147), (8, .int 2), (7, .int pl), (6, .int tk), (5, .int rent), (4, .int lf), (2, .long wg), (0, .ref (ρ 9)), (1, .int (nI k))]) C hnL dX3_pays_147 (by decide) rfl ?_
  refine e_iload (j := 0) C dX3_pays_149 rfl ?_
  refine e_iload (j := 5) C dX3_pays_151 rfl ?_
  refine e_icmp_ge (tgt := 161) C dX3_pays_153 (by decide) (fun c_153 => ?_) (fun c_153 => ?_)
  · refine e_iload (j := 5) C dX3_pays_161 rfl ?_
    refine e_istore (ls2 := [(10, .int lf), (9, .int x9_147), (8, .int 2), (7, .int pl), (6, .int tk), (5, .int rent), (4, .int lf), (2, .long wg), (0, .ref (ρ 9)), (1, .int (nI k))]) C hnL dX3_pays_163 (by decide) rfl ?_
    refine e_iload (j := 6) C dX3_pays_165 rfl ?_
    refine e_iload (j := 0) C dX3_pays_167 rfl ?_
    refine e_isub C dX3_pays_169 ?_
    refine e_topi (fun x4_170 ex4_170 => ?_)
    refine e_istore (ls2 := [(4, .int x4_170), (10, .int lf), (9, .int x9_147), (8, .int 2), (7, .int pl), (6, .int tk), (5, .int rent), (2, .long wg), (0, .ref (ρ 9)), (1, .int (nI k))]) C hnL dX3_pays_170 (by decide) rfl ?_
    refine e_aload_n (j := 8) C dX3_pays_172 rfl rfl ?_
    refine e_get3 (k := 7) (ref := "ScripHollowModel") C (by decide) rfl rfl mw_60 dX3_pays_173 ?_
    refine e_iload_n (j := 9) C dX3_pays_176 rfl rfl ?_
    refine e_dup2 C dX3_pays_177 rfl rfl ?_
    refine e_ialdN k C (cnt_fix (by decide)) (fun _ => rfl) rfl (by omega) (by decide) dX3_pays_178 ?_
    refine e_iload (j := 3) C dX3_pays_179 rfl ?_
    refine e_iconst (v := 1) C dX3_pays_181 (by decide) ?_
    refine e_icmp_ne (tgt := 190) C dX3_pays_182 (by decide) (fun c_182 => ?_) (fun c_182 => absurd c_182 (by decide))
    refine e_iconst (v := 0) C dX3_pays_190 (by decide) ?_
    refine e_isub C dX3_pays_191 ?_
    refine e_iastN k C (cnt_fix (by decide)) (fun _ _ => rfl) rfl (by omega) (by decide) dX3_pays_192 ?_
    refine e_aload_n (j := 8) C dX3_pays_193 rfl rfl ?_
    refine e_get3 (k := 6) (ref := "ScripHollowModel") C (by decide) rfl rfl mw_59 dX3_pays_194 ?_
    refine e_iload_n (j := 9) C dX3_pays_197 rfl rfl ?_
    refine e_dup2 C dX3_pays_198 rfl rfl ?_
    refine e_ialdN k C (cnt_fix (by decide)) (fun _ => rfl) rfl (by omega) (by decide) dX3_pays_199 ?_
    refine e_iload (j := 3) C dX3_pays_200 rfl ?_
    refine e_iconst (v := 5) C dX3_pays_202 (by decide) ?_
    refine e_icmp_ne (tgt := 211) C dX3_pays_203 (by decide) (fun c_203 => ?_) (fun c_203 => absurd c_203 (by decide))
    refine e_iconst (v := 0) C dX3_pays_211 (by decide) ?_
    refine e_isub C dX3_pays_212 ?_
    refine e_iastN k C (cnt_fix (by decide)) (fun _ _ => rfl) rfl (by omega) (by decide) dX3_pays_213 ?_
    refine e_iload (j := 5) C dX3_pays_214 rfl ?_
    refine e_iload (j := 3) C dX3_pays_216 rfl ?_
    refine e_iconst (v := 2) C dX3_pays_218 (by decide) ?_
    refine e_icmp_le (tgt := 227) C dX3_pays_219 (by decide) (fun c_219 => ?_) (fun c_219 => absurd (by decide) c_219)
    refine e_iconst (v := 0) C dX3_pays_227 (by decide) ?_
    refine e_iadd C dX3_pays_228 ?_
    refine e_topi (fun x6_229 ex6_229 => ?_)
    refine e_istore (ls2 := [(6, .int x6_229), (4, .int x4_170), (10, .int lf), (9, .int x9_147), (8, .int 2), (7, .int pl), (5, .int rent), (2, .long wg), (0, .ref (ρ 9)), (1, .int (nI k))]) C hnL dX3_pays_229 (by decide) rfl ?_
    refine e_iload (j := 5) C dX3_pays_231 rfl ?_
    refine e_bipush (v := 10) C dX3_pays_233 (by decide) ?_
    refine e_idiv C dX3_pays_235 (by decide) ?_
    refine e_topi (fun x7_236 ex7_236 => ?_)
    refine e_istore (ls2 := [(7, .int x7_236), (6, .int x6_229), (4, .int x4_170), (10, .int lf), (9, .int x9_147), (8, .int 2), (5, .int rent), (2, .long wg), (0, .ref (ρ 9)), (1, .int (nI k))]) C hnL dX3_pays_236 (by decide) rfl ?_
    refine e_goto (tgt := 75) C dX3_pays_238 (by decide) ?_
    have hdue : psD M k rent 2 = x9_147 := by (try subst ex9_147); show (M 23 2 : Int32) = _; (repeat (first | rw [if_neg c_94] | rw [if_pos c_100] | rw [if_neg c_117] | rw [if_neg c_128] | rw [if_pos c_153] | rw [if_neg c_182] | rw [if_neg c_203] | rw [if_pos c_219])); (try rfl)
    have htk : psX (psD M k rent 2) lf = lf := by rw [hdue]; unfold psX; (repeat (first | rw [if_neg c_94] | rw [if_pos c_100] | rw [if_neg c_117] | rw [if_neg c_128] | rw [if_pos c_153] | rw [if_neg c_182] | rw [if_neg c_203] | rw [if_pos c_219]))
    rw [htk] at hE
    unfold psB psA at hE
    subst ex7_236 ex6_229 ex4_170
    exact e_sub [0, 1, 6, 2, 7, 8, 9] rfl hE
  · refine e_iload (j := 0) C dX3_pays_156 rfl ?_
    refine e_goto (tgt := 163) C dX3_pays_158 (by decide) ?_
    refine e_istore (ls2 := [(10, .int x9_147), (9, .int x9_147), (8, .int 2), (7, .int pl), (6, .int tk), (5, .int rent), (4, .int lf), (2, .long wg), (0, .ref (ρ 9)), (1, .int (nI k))]) C hnL dX3_pays_163 (by decide) rfl ?_
    refine e_iload (j := 6) C dX3_pays_165 rfl ?_
    refine e_iload (j := 0) C dX3_pays_167 rfl ?_
    refine e_isub C dX3_pays_169 ?_
    refine e_topi (fun x4_170 ex4_170 => ?_)
    refine e_istore (ls2 := [(4, .int x4_170), (10, .int x9_147), (9, .int x9_147), (8, .int 2), (7, .int pl), (6, .int tk), (5, .int rent), (2, .long wg), (0, .ref (ρ 9)), (1, .int (nI k))]) C hnL dX3_pays_170 (by decide) rfl ?_
    refine e_aload_n (j := 8) C dX3_pays_172 rfl rfl ?_
    refine e_get3 (k := 7) (ref := "ScripHollowModel") C (by decide) rfl rfl mw_60 dX3_pays_173 ?_
    refine e_iload_n (j := 9) C dX3_pays_176 rfl rfl ?_
    refine e_dup2 C dX3_pays_177 rfl rfl ?_
    refine e_ialdN k C (cnt_fix (by decide)) (fun _ => rfl) rfl (by omega) (by decide) dX3_pays_178 ?_
    refine e_iload (j := 3) C dX3_pays_179 rfl ?_
    refine e_iconst (v := 1) C dX3_pays_181 (by decide) ?_
    refine e_icmp_ne (tgt := 190) C dX3_pays_182 (by decide) (fun c_182 => ?_) (fun c_182 => absurd c_182 (by decide))
    refine e_iconst (v := 0) C dX3_pays_190 (by decide) ?_
    refine e_isub C dX3_pays_191 ?_
    refine e_iastN k C (cnt_fix (by decide)) (fun _ _ => rfl) rfl (by omega) (by decide) dX3_pays_192 ?_
    refine e_aload_n (j := 8) C dX3_pays_193 rfl rfl ?_
    refine e_get3 (k := 6) (ref := "ScripHollowModel") C (by decide) rfl rfl mw_59 dX3_pays_194 ?_
    refine e_iload_n (j := 9) C dX3_pays_197 rfl rfl ?_
    refine e_dup2 C dX3_pays_198 rfl rfl ?_
    refine e_ialdN k C (cnt_fix (by decide)) (fun _ => rfl) rfl (by omega) (by decide) dX3_pays_199 ?_
    refine e_iload (j := 3) C dX3_pays_200 rfl ?_
    refine e_iconst (v := 5) C dX3_pays_202 (by decide) ?_
    refine e_icmp_ne (tgt := 211) C dX3_pays_203 (by decide) (fun c_203 => ?_) (fun c_203 => absurd c_203 (by decide))
    refine e_iconst (v := 0) C dX3_pays_211 (by decide) ?_
    refine e_isub C dX3_pays_212 ?_
    refine e_iastN k C (cnt_fix (by decide)) (fun _ _ => rfl) rfl (by omega) (by decide) dX3_pays_213 ?_
    refine e_iload (j := 5) C dX3_pays_214 rfl ?_
    refine e_iload (j := 3) C dX3_pays_216 rfl ?_
    refine e_iconst (v := 2) C dX3_pays_218 (by decide) ?_
    refine e_icmp_le (tgt := 227) C dX3_pays_219 (by decide) (fun c_219 => ?_) (fun c_219 => absurd (by decide) c_219)
    refine e_iconst (v := 0) C dX3_pays_227 (by decide) ?_
    refine e_iadd C dX3_pays_228 ?_
    refine e_topi (fun x6_229 ex6_229 => ?_)
    refine e_istore (ls2 := [(6, .int x6_229), (4, .int x4_170), (10, .int x9_147), (9, .int x9_147), (8, .int 2), (7, .int pl), (5, .int rent), (2, .long wg), (0, .ref (ρ 9)), (1, .int (nI k))]) C hnL dX3_pays_229 (by decide) rfl ?_
    refine e_iload (j := 5) C dX3_pays_231 rfl ?_
    refine e_bipush (v := 10) C dX3_pays_233 (by decide) ?_
    refine e_idiv C dX3_pays_235 (by decide) ?_
    refine e_topi (fun x7_236 ex7_236 => ?_)
    refine e_istore (ls2 := [(7, .int x7_236), (6, .int x6_229), (4, .int x4_170), (10, .int x9_147), (9, .int x9_147), (8, .int 2), (5, .int rent), (2, .long wg), (0, .ref (ρ 9)), (1, .int (nI k))]) C hnL dX3_pays_236 (by decide) rfl ?_
    refine e_goto (tgt := 75) C dX3_pays_238 (by decide) ?_
    have hdue : psD M k rent 2 = x9_147 := by (try subst ex9_147); show (M 23 2 : Int32) = _; (repeat (first | rw [if_neg c_94] | rw [if_pos c_100] | rw [if_neg c_117] | rw [if_neg c_128] | rw [if_neg c_153] | rw [if_neg c_182] | rw [if_neg c_203] | rw [if_pos c_219])); (try rfl)
    have htk : psX (psD M k rent 2) lf = x9_147 := by rw [hdue]; unfold psX; (repeat (first | rw [if_neg c_94] | rw [if_pos c_100] | rw [if_neg c_117] | rw [if_neg c_128] | rw [if_neg c_153] | rw [if_neg c_182] | rw [if_neg c_203] | rw [if_pos c_219]))
    rw [htk] at hE
    unfold psB psA at hE
    subst ex7_236 ex6_229 ex4_170
    exact e_sub [0, 1, 6, 2, 7, 8, 9] rfl hE
set_option maxRecDepth 100000 in
set_option maxHeartbeats 4000000 in
theorem sg_3 {l : Launch} (hl : l.stackTraces = false) {n : Nat} {ρ : Nat → Nat} {J : Nat → Int64} {M : Mem} {k : Nat} (hk : k < 10) {o : Out} {Ξ : CT} (hnL : Ξ.2.2.2.2.2.2 = 11) (C : CxO l 1 0 0 cX3_pays RX3 (some .int) n ρ J o Ξ) {pl tk rent lf : Int32} {wg : Int64}
    (hE : E Ξ n ρ J (psM M k 3 rent lf) 0 0 75 [(7, .int (pl / 10)), (6, .int (psT M k 3 rent lf tk)), (5, .int rent), (4, .int (psL M k 3 rent lf)), (2, .long wg), (0, .ref (ρ 9)), (1, .int (nI k))] []) :
    E Ξ n ρ J M 0 0 92 [(8, .int 3), (7, .int pl), (6, .int tk), (5, .int rent), (4, .int lf), (2, .long wg), (0, .ref (ρ 9)), (1, .int (nI k))] [] := by
  unfold psM psL psT at hE
  refine e_iload (j := 0) C dX3_pays_92 rfl ?_
  refine e_if_eq (tgt := 110) C dX3_pays_94 (by decide) (fun c_94 => absurd c_94 (by decide)) (fun c_94 => ?_)
  refine e_iload (j := 0) C dX3_pays_97 rfl ?_
  refine e_iconst (v := 2) C dX3_pays_99 (by decide) ?_
  refine e_icmp_le (tgt := 114) C dX3_pays_100 (by decide) (fun c_100 => absurd c_100 (by decide)) (fun c_100 => ?_)
  refine e_aload_n (j := 6) C dX3_pays_103 rfl rfl ?_
  refine e_cV (i := 9) (nA := 0) (Cn := RX3) C (c_X3_isSpared hl) rfl (cnt_fix (by decide)) (fun _ => rfl) rfl rfl mw_376 mw_373 mw_374 mw_375 mw_5 (by decide +kernel) (by decide) rfl rfl (Nat.le_of_ble_eq_true rfl) dX3_pays_104 (Nat.le_of_ble_eq_true rfl) (Nat.le_of_ble_eq_true rfl) ?_
  refine e_if_eq (tgt := 114) C dX3_pays_107 (by decide) (fun c_107 => ?_) (fun c_107 => ?_)
  · refine e_iload (j := 0) C dX3_pays_114 rfl ?_
    refine e_iconst (v := 1) C dX3_pays_116 (by decide) ?_
    refine e_icmp_ne (tgt := 125) C dX3_pays_117 (by decide) (fun c_117 => ?_) (fun c_117 => absurd c_117 (by decide))
    refine e_iload (j := 0) C dX3_pays_125 rfl ?_
    refine e_iconst (v := 5) C dX3_pays_127 (by decide) ?_
    refine e_icmp_ne (tgt := 140) C dX3_pays_128 (by decide) (fun c_128 => ?_) (fun c_128 => absurd c_128 (by decide))
    refine e_aload_n (j := 6) C dX3_pays_140 rfl rfl ?_
    refine e_get3 (k := 14) (ref := "ScripHollowModel") C (by decide) rfl rfl mw_67 dX3_pays_141 ?_
    refine e_iload (j := 0) C dX3_pays_144 rfl ?_
    refine e_ialdN 3 C (cnt_fix (by decide)) (fun _ => rfl) rfl (by decide) (by decide) dX3_pays_146 ?_
    refine e_topi (fun x9_147 ex9_147 => ?_)
    refine e_istore (ls2 := [(9, .int x9_147), (8, .int 3), (7, .int pl), (6, .int tk), (5, .int rent), (4, .int lf), (2, .long wg), (0, .ref (ρ 9)), (1, .int (nI k))]) C hnL dX3_pays_147 (by decide) rfl ?_
    refine e_iload (j := 0) C dX3_pays_149 rfl ?_
    refine e_iload (j := 5) C dX3_pays_151 rfl ?_
    refine e_icmp_ge (tgt := 161) C dX3_pays_153 (by decide) (fun c_153 => ?_) (fun c_153 => ?_)
    · refine e_iload (j := 5) C dX3_pays_161 rfl ?_
      refine e_istore (ls2 := [(10, .int lf), (9, .int x9_147), (8, .int 3), (7, .int pl), (6, .int tk), (5, .int rent), (4, .int lf), (2, .long wg), (0, .ref (ρ 9)), (1, .int (nI k))]) C hnL dX3_pays_163 (by decide) rfl ?_
      refine e_iload (j := 6) C dX3_pays_165 rfl ?_
      refine e_iload (j := 0) C dX3_pays_167 rfl ?_
      refine e_isub C dX3_pays_169 ?_
      refine e_topi (fun x4_170 ex4_170 => ?_)
      refine e_istore (ls2 := [(4, .int x4_170), (10, .int lf), (9, .int x9_147), (8, .int 3), (7, .int pl), (6, .int tk), (5, .int rent), (2, .long wg), (0, .ref (ρ 9)), (1, .int (nI k))]) C hnL dX3_pays_170 (by decide) rfl ?_
      refine e_aload_n (j := 8) C dX3_pays_172 rfl rfl ?_
      refine e_get3 (k := 7) (ref := "ScripHollowModel") C (by decide) rfl rfl mw_60 dX3_pays_173 ?_
      refine e_iload_n (j := 9) C dX3_pays_176 rfl rfl ?_
      refine e_dup2 C dX3_pays_177 rfl rfl ?_
      refine e_ialdN k C (cnt_fix (by decide)) (fun _ => rfl) rfl (by omega) (by decide) dX3_pays_178 ?_
      refine e_iload (j := 3) C dX3_pays_179 rfl ?_
      refine e_iconst (v := 1) C dX3_pays_181 (by decide) ?_
      refine e_icmp_ne (tgt := 190) C dX3_pays_182 (by decide) (fun c_182 => ?_) (fun c_182 => absurd c_182 (by decide))
      refine e_iconst (v := 0) C dX3_pays_190 (by decide) ?_
      refine e_isub C dX3_pays_191 ?_
      refine e_iastN k C (cnt_fix (by decide)) (fun _ _ => rfl) rfl (by omega) (by decide) dX3_pays_192 ?_
      refine e_aload_n (j := 8) C dX3_pays_193 rfl rfl ?_
      refine e_get3 (k := 6) (ref := "ScripHollowModel") C (by decide) rfl rfl mw_59 dX3_pays_194 ?_
      refine e_iload_n (j := 9) C dX3_pays_197 rfl rfl ?_
      refine e_dup2 C dX3_pays_198 rfl rfl ?_
      refine e_ialdN k C (cnt_fix (by decide)) (fun _ => rfl) rfl (by omega) (by decide) dX3_pays_199 ?_
      refine e_iload (j := 3) C dX3_pays_200 rfl ?_
      refine e_iconst (v := 5) C dX3_pays_202 (by decide) ?_
      refine e_icmp_ne (tgt := 211) C dX3_pays_203 (by decide) (fun c_203 => ?_) (fun c_203 => absurd c_203 (by decide))
      refine e_iconst (v := 0) C dX3_pays_211 (by decide) ?_
      refine e_isub C dX3_pays_212 ?_
      refine e_iastN k C (cnt_fix (by decide)) (fun _ _ => rfl) rfl (by omega) (by decide) dX3_pays_213 ?_
      refine e_iload (j := 5) C dX3_pays_214 rfl ?_
      refine e_iload (j := 3) C dX3_pays_216 rfl ?_
      refine e_iconst (v := 2) C dX3_pays_218 (by decide) ?_
      refine e_icmp_le (tgt := 227) C dX3_pays_219 (by decide) (fun c_219 => absurd c_219 (by decide)) (fun c_219 => ?_)
      refine e_iload (j := 1) C dX3_pays_222 rfl ?_
      refine e_goto (tgt := 228) C dX3_pays_224 (by decide) ?_
      refine e_iadd C dX3_pays_228 ?_
      refine e_topi (fun x6_229 ex6_229 => ?_)
      refine e_istore (ls2 := [(6, .int x6_229), (4, .int x4_170), (10, .int lf), (9, .int x9_147), (8, .int 3), (7, .int pl), (5, .int rent), (2, .long wg), (0, .ref (ρ 9)), (1, .int (nI k))]) C hnL dX3_pays_229 (by decide) rfl ?_
      refine e_iload (j := 5) C dX3_pays_231 rfl ?_
      refine e_bipush (v := 10) C dX3_pays_233 (by decide) ?_
      refine e_idiv C dX3_pays_235 (by decide) ?_
      refine e_topi (fun x7_236 ex7_236 => ?_)
      refine e_istore (ls2 := [(7, .int x7_236), (6, .int x6_229), (4, .int x4_170), (10, .int lf), (9, .int x9_147), (8, .int 3), (5, .int rent), (2, .long wg), (0, .ref (ρ 9)), (1, .int (nI k))]) C hnL dX3_pays_236 (by decide) rfl ?_
      refine e_goto (tgt := 75) C dX3_pays_238 (by decide) ?_
      have hdue : psD M k rent 3 = x9_147 := by (try subst ex9_147); show (if spM M = 0 then M 23 3 else 0 : Int32) = _; (repeat (first | rw [if_neg c_94] | rw [if_neg c_100] | rw [if_pos c_107] | rw [if_neg c_117] | rw [if_neg c_128] | rw [if_pos c_153] | rw [if_neg c_182] | rw [if_neg c_203] | rw [if_neg c_219])); (try rfl)
      have htk : psX (psD M k rent 3) lf = lf := by rw [hdue]; unfold psX; (repeat (first | rw [if_neg c_94] | rw [if_neg c_100] | rw [if_pos c_107] | rw [if_neg c_117] | rw [if_neg c_128] | rw [if_pos c_153] | rw [if_neg c_182] | rw [if_neg c_203] | rw [if_neg c_219]))
      rw [htk] at hE
      unfold psB psA at hE
      subst ex7_236 ex6_229 ex4_170
      exact e_sub [0, 1, 6, 2, 7, 8, 9] rfl hE
    · refine e_iload (j := 0) C dX3_pays_156 rfl ?_
      refine e_goto (tgt := 163) C dX3_pays_158 (by decide) ?_
      refine e_istore (ls2 := [(10, .int x9_147), (9, .int x9_147), (8, .int 3), (7, .int pl), (6, .int tk), (5, .int rent), (4, .int lf), (2, .long wg), (0, .ref (ρ 9)), (1, .int (nI k))]) C hnL dX3_pays_163 (by decide) rfl ?_
      refine e_iload (j := 6) C dX3_pays_165 rfl ?_
      refine e_iload (j := 0) C dX3_pays_167 rfl ?_
      refine e_isub C dX3_pays_169 ?_
      refine e_topi (fun x4_170 ex4_170 => ?_)
      refine e_istore (ls2 := [(4, .int x4_170), (10, .int x9_147), (9, .int x9_147), (8, .int 3), (7, .int pl), (6, .int tk), (5, .int rent), (2, .long wg), (0, .ref (ρ 9)), (1, .int (nI k))]) C hnL dX3_pays_170 (by decide) rfl ?_
      refine e_aload_n (j := 8) C dX3_pays_172 rfl rfl ?_
      refine e_get3 (k := 7) (ref := "ScripHollowModel") C (by decide) rfl rfl mw_60 dX3_pays_173 ?_
      refine e_iload_n (j := 9) C dX3_pays_176 rfl rfl ?_
      refine e_dup2 C dX3_pays_177 rfl rfl ?_
      refine e_ialdN k C (cnt_fix (by decide)) (fun _ => rfl) rfl (by omega) (by decide) dX3_pays_178 ?_
      refine e_iload (j := 3) C dX3_pays_179 rfl ?_
      refine e_iconst (v := 1) C dX3_pays_181 (by decide) ?_
      refine e_icmp_ne (tgt := 190) C dX3_pays_182 (by decide) (fun c_182 => ?_) (fun c_182 => absurd c_182 (by decide))
      refine e_iconst (v := 0) C dX3_pays_190 (by decide) ?_
      refine e_isub C dX3_pays_191 ?_
      refine e_iastN k C (cnt_fix (by decide)) (fun _ _ => rfl) rfl (by omega) (by decide) dX3_pays_192 ?_
      refine e_aload_n (j := 8) C dX3_pays_193 rfl rfl ?_
      refine e_get3 (k := 6) (ref := "ScripHollowModel") C (by decide) rfl rfl mw_59 dX3_pays_194 ?_
      refine e_iload_n (j := 9) C dX3_pays_197 rfl rfl ?_
      refine e_dup2 C dX3_pays_198 rfl rfl ?_
      refine e_ialdN k C (cnt_fix (by decide)) (fun _ => rfl) rfl (by omega) (by decide) dX3_pays_199 ?_
      refine e_iload (j := 3) C dX3_pays_200 rfl ?_
      refine e_iconst (v := 5) C dX3_pays_202 (by decide) ?_
      refine e_icmp_ne (tgt := 211) C dX3_pays_203 (by decide) (fun c_203 => ?_) (fun c_203 => absurd c_203 (by decide))
      refine e_iconst (v := 0) C dX3_pays_211 (by decide) ?_
      refine e_isub C dX3_pays_212 ?_
      refine e_iastN k C (cnt_fix (by decide)) (fun _ _ => rfl) rfl (by omega) (by decide) dX3_pays_213 ?_
      refine e_iload (j := 5) C dX3_pays_214 rfl ?_
      refine e_iload (j := 3) C dX3_pays_216 rfl ?_
      refine e_iconst (v := 2) C dX3_pays_218 (by decide) ?_
      refine e_icmp_le (tgt := 227) C dX3_pays_219 (by decide) (fun c_219 => absurd c_219 (by decide)) (fun c_219 => ?_)
      refine e_iload (j := 1) C dX3_pays_222 rfl ?_
      refine e_goto (tgt := 228) C dX3_pays_224 (by decide) ?_
      refine e_iadd C dX3_pays_228 ?_
      refine e_topi (fun x6_229 ex6_229 => ?_)
      refine e_istore (ls2 := [(6, .int x6_229), (4, .int x4_170), (10, .int x9_147), (9, .int x9_147), (8, .int 3), (7, .int pl), (5, .int rent), (2, .long wg), (0, .ref (ρ 9)), (1, .int (nI k))]) C hnL dX3_pays_229 (by decide) rfl ?_
      refine e_iload (j := 5) C dX3_pays_231 rfl ?_
      refine e_bipush (v := 10) C dX3_pays_233 (by decide) ?_
      refine e_idiv C dX3_pays_235 (by decide) ?_
      refine e_topi (fun x7_236 ex7_236 => ?_)
      refine e_istore (ls2 := [(7, .int x7_236), (6, .int x6_229), (4, .int x4_170), (10, .int x9_147), (9, .int x9_147), (8, .int 3), (5, .int rent), (2, .long wg), (0, .ref (ρ 9)), (1, .int (nI k))]) C hnL dX3_pays_236 (by decide) rfl ?_
      refine e_goto (tgt := 75) C dX3_pays_238 (by decide) ?_
      have hdue : psD M k rent 3 = x9_147 := by (try subst ex9_147); show (if spM M = 0 then M 23 3 else 0 : Int32) = _; (repeat (first | rw [if_neg c_94] | rw [if_neg c_100] | rw [if_pos c_107] | rw [if_neg c_117] | rw [if_neg c_128] | rw [if_neg c_153] | rw [if_neg c_182] | rw [if_neg c_203] | rw [if_neg c_219])); (try rfl)
      have htk : psX (psD M k rent 3) lf = x9_147 := by rw [hdue]; unfold psX; (repeat (first | rw [if_neg c_94] | rw [if_neg c_100] | rw [if_pos c_107] | rw [if_neg c_117] | rw [if_neg c_128] | rw [if_neg c_153] | rw [if_neg c_182] | rw [if_neg c_203] | rw [if_neg c_219]))
      rw [htk] at hE
      unfold psB psA at hE
      subst ex7_236 ex6_229 ex4_170
      exact e_sub [0, 1, 6, 2, 7, 8, 9] rfl hE
  · refine e_iconst (v := 0) C dX3_pays_110 (by decide) ?_
    refine e_goto (tgt := 147) C dX3_pays_111 (by decide) ?_
    refine e_istore (ls2 := [(9, .int 0), (8, .int 3), (7, .int pl), (6, .int tk), (5, .int rent), (4, .int lf), (2, .long wg), (0, .ref (ρ 9)), (1, .int (nI k))]) C hnL dX3_pays_147 (by decide) rfl ?_
    refine e_iload (j := 0) C dX3_pays_149 rfl ?_
    refine e_iload (j := 5) C dX3_pays_151 rfl ?_
    refine e_icmp_ge (tgt := 161) C dX3_pays_153 (by decide) (fun c_153 => ?_) (fun c_153 => ?_)
    · refine e_iload (j := 5) C dX3_pays_161 rfl ?_
      refine e_istore (ls2 := [(10, .int lf), (9, .int 0), (8, .int 3), (7, .int pl), (6, .int tk), (5, .int rent), (4, .int lf), (2, .long wg), (0, .ref (ρ 9)), (1, .int (nI k))]) C hnL dX3_pays_163 (by decide) rfl ?_
      refine e_iload (j := 6) C dX3_pays_165 rfl ?_
      refine e_iload (j := 0) C dX3_pays_167 rfl ?_
      refine e_isub C dX3_pays_169 ?_
      refine e_topi (fun x4_170 ex4_170 => ?_)
      refine e_istore (ls2 := [(4, .int x4_170), (10, .int lf), (9, .int 0), (8, .int 3), (7, .int pl), (6, .int tk), (5, .int rent), (2, .long wg), (0, .ref (ρ 9)), (1, .int (nI k))]) C hnL dX3_pays_170 (by decide) rfl ?_
      refine e_aload_n (j := 8) C dX3_pays_172 rfl rfl ?_
      refine e_get3 (k := 7) (ref := "ScripHollowModel") C (by decide) rfl rfl mw_60 dX3_pays_173 ?_
      refine e_iload_n (j := 9) C dX3_pays_176 rfl rfl ?_
      refine e_dup2 C dX3_pays_177 rfl rfl ?_
      refine e_ialdN k C (cnt_fix (by decide)) (fun _ => rfl) rfl (by omega) (by decide) dX3_pays_178 ?_
      refine e_iload (j := 3) C dX3_pays_179 rfl ?_
      refine e_iconst (v := 1) C dX3_pays_181 (by decide) ?_
      refine e_icmp_ne (tgt := 190) C dX3_pays_182 (by decide) (fun c_182 => ?_) (fun c_182 => absurd c_182 (by decide))
      refine e_iconst (v := 0) C dX3_pays_190 (by decide) ?_
      refine e_isub C dX3_pays_191 ?_
      refine e_iastN k C (cnt_fix (by decide)) (fun _ _ => rfl) rfl (by omega) (by decide) dX3_pays_192 ?_
      refine e_aload_n (j := 8) C dX3_pays_193 rfl rfl ?_
      refine e_get3 (k := 6) (ref := "ScripHollowModel") C (by decide) rfl rfl mw_59 dX3_pays_194 ?_
      refine e_iload_n (j := 9) C dX3_pays_197 rfl rfl ?_
      refine e_dup2 C dX3_pays_198 rfl rfl ?_
      refine e_ialdN k C (cnt_fix (by decide)) (fun _ => rfl) rfl (by omega) (by decide) dX3_pays_199 ?_
      refine e_iload (j := 3) C dX3_pays_200 rfl ?_
      refine e_iconst (v := 5) C dX3_pays_202 (by decide) ?_
      refine e_icmp_ne (tgt := 211) C dX3_pays_203 (by decide) (fun c_203 => ?_) (fun c_203 => absurd c_203 (by decide))
      refine e_iconst (v := 0) C dX3_pays_211 (by decide) ?_
      refine e_isub C dX3_pays_212 ?_
      refine e_iastN k C (cnt_fix (by decide)) (fun _ _ => rfl) rfl (by omega) (by decide) dX3_pays_213 ?_
      refine e_iload (j := 5) C dX3_pays_214 rfl ?_
      refine e_iload (j := 3) C dX3_pays_216 rfl ?_
      refine e_iconst (v := 2) C dX3_pays_218 (by decide) ?_
      refine e_icmp_le (tgt := 227) C dX3_pays_219 (by decide) (fun c_219 => absurd c_219 (by decide)) (fun c_219 => ?_)
      refine e_iload (j := 1) C dX3_pays_222 rfl ?_
      refine e_goto (tgt := 228) C dX3_pays_224 (by decide) ?_
      refine e_iadd C dX3_pays_228 ?_
      refine e_topi (fun x6_229 ex6_229 => ?_)
      refine e_istore (ls2 := [(6, .int x6_229), (4, .int x4_170), (10, .int lf), (9, .int 0), (8, .int 3), (7, .int pl), (5, .int rent), (2, .long wg), (0, .ref (ρ 9)), (1, .int (nI k))]) C hnL dX3_pays_229 (by decide) rfl ?_
      refine e_iload (j := 5) C dX3_pays_231 rfl ?_
      refine e_bipush (v := 10) C dX3_pays_233 (by decide) ?_
      refine e_idiv C dX3_pays_235 (by decide) ?_
      refine e_topi (fun x7_236 ex7_236 => ?_)
      refine e_istore (ls2 := [(7, .int x7_236), (6, .int x6_229), (4, .int x4_170), (10, .int lf), (9, .int 0), (8, .int 3), (5, .int rent), (2, .long wg), (0, .ref (ρ 9)), (1, .int (nI k))]) C hnL dX3_pays_236 (by decide) rfl ?_
      refine e_goto (tgt := 75) C dX3_pays_238 (by decide) ?_
      have hdue : psD M k rent 3 = 0 := by show (if spM M = 0 then M 23 3 else 0 : Int32) = _; (repeat (first | rw [if_neg c_94] | rw [if_neg c_100] | rw [if_neg c_107] | rw [if_pos c_153] | rw [if_neg c_182] | rw [if_neg c_203] | rw [if_neg c_219])); (try rfl)
      have htk : psX (psD M k rent 3) lf = lf := by rw [hdue]; unfold psX; (repeat (first | rw [if_neg c_94] | rw [if_neg c_100] | rw [if_neg c_107] | rw [if_pos c_153] | rw [if_neg c_182] | rw [if_neg c_203] | rw [if_neg c_219]))
      rw [htk] at hE
      unfold psB psA at hE
      subst ex7_236 ex6_229 ex4_170
      exact e_sub [0, 1, 6, 2, 7, 8, 9] rfl hE
    · refine e_iload (j := 0) C dX3_pays_156 rfl ?_
      refine e_goto (tgt := 163) C dX3_pays_158 (by decide) ?_
      refine e_istore (ls2 := [(10, .int 0), (9, .int 0), (8, .int 3), (7, .int pl), (6, .int tk), (5, .int rent), (4, .int lf), (2, .long wg), (0, .ref (ρ 9)), (1, .int (nI k))]) C hnL dX3_pays_163 (by decide) rfl ?_
      refine e_iload (j := 6) C dX3_pays_165 rfl ?_
      refine e_iload (j := 0) C dX3_pays_167 rfl ?_
      refine e_isub C dX3_pays_169 ?_
      refine e_topi (fun x4_170 ex4_170 => ?_)
      refine e_istore (ls2 := [(4, .int x4_170), (10, .int 0), (9, .int 0), (8, .int 3), (7, .int pl), (6, .int tk), (5, .int rent), (2, .long wg), (0, .ref (ρ 9)), (1, .int (nI k))]) C hnL dX3_pays_170 (by decide) rfl ?_
      refine e_aload_n (j := 8) C dX3_pays_172 rfl rfl ?_
      refine e_get3 (k := 7) (ref := "ScripHollowModel") C (by decide) rfl rfl mw_60 dX3_pays_173 ?_
      refine e_iload_n (j := 9) C dX3_pays_176 rfl rfl ?_
      refine e_dup2 C dX3_pays_177 rfl rfl ?_
      refine e_ialdN k C (cnt_fix (by decide)) (fun _ => rfl) rfl (by omega) (by decide) dX3_pays_178 ?_
      refine e_iload (j := 3) C dX3_pays_179 rfl ?_
      refine e_iconst (v := 1) C dX3_pays_181 (by decide) ?_
      refine e_icmp_ne (tgt := 190) C dX3_pays_182 (by decide) (fun c_182 => ?_) (fun c_182 => absurd c_182 (by decide))
      refine e_iconst (v := 0) C dX3_pays_190 (by decide) ?_
      refine e_isub C dX3_pays_191 ?_
      refine e_iastN k C (cnt_fix (by decide)) (fun _ _ => rfl) rfl (by omega) (by decide) dX3_pays_192 ?_
      refine e_aload_n (j := 8) C dX3_pays_193 rfl rfl ?_
      refine e_get3 (k := 6) (ref := "ScripHollowModel") C (by decide) rfl rfl mw_59 dX3_pays_194 ?_
      refine e_iload_n (j := 9) C dX3_pays_197 rfl rfl ?_
      refine e_dup2 C dX3_pays_198 rfl rfl ?_
      refine e_ialdN k C (cnt_fix (by decide)) (fun _ => rfl) rfl (by omega) (by decide) dX3_pays_199 ?_
      refine e_iload (j := 3) C dX3_pays_200 rfl ?_
      refine e_iconst (v := 5) C dX3_pays_202 (by decide) ?_
      refine e_icmp_ne (tgt := 211) C dX3_pays_203 (by decide) (fun c_203 => ?_) (fun c_203 => absurd c_203 (by decide))
      refine e_iconst (v := 0) C dX3_pays_211 (by decide) ?_
      refine e_isub C dX3_pays_212 ?_
      refine e_iastN k C (cnt_fix (by decide)) (fun _ _ => rfl) rfl (by omega) (by decide) dX3_pays_213 ?_
      refine e_iload (j := 5) C dX3_pays_214 rfl ?_
      refine e_iload (j := 3) C dX3_pays_216 rfl ?_
      refine e_iconst (v := 2) C dX3_pays_218 (by decide) ?_
      refine e_icmp_le (tgt := 227) C dX3_pays_219 (by decide) (fun c_219 => absurd c_219 (by decide)) (fun c_219 => ?_)
      refine e_iload (j := 1) C dX3_pays_222 rfl ?_
      refine e_goto (tgt := 228) C dX3_pays_224 (by decide) ?_
      refine e_iadd C dX3_pays_228 ?_
      refine e_topi (fun x6_229 ex6_229 => ?_)
      refine e_istore (ls2 := [(6, .int x6_229), (4, .int x4_170), (10, .int 0), (9, .int 0), (8, .int 3), (7, .int pl), (5, .int rent), (2, .long wg), (0, .ref (ρ 9)), (1, .int (nI k))]) C hnL dX3_pays_229 (by decide) rfl ?_
      refine e_iload (j := 5) C dX3_pays_231 rfl ?_
      refine e_bipush (v := 10) C dX3_pays_233 (by decide) ?_
      refine e_idiv C dX3_pays_235 (by decide) ?_
      refine e_topi (fun x7_236 ex7_236 => ?_)
      refine e_istore (ls2 := [(7, .int x7_236), (6, .int x6_229), (4, .int x4_170), (10, .int 0), (9, .int 0), (8, .int 3), (5, .int rent), (2, .long wg), (0, .ref (ρ 9)), (1, .int (nI k))]) C hnL dX3_pays_236 (by decide) rfl ?_
      refine e_goto (tgt := 75) C dX3_pays_238 (by decide) ?_
      have hdue : psD M k rent 3 = 0 := by show (if spM M = 0 then M 23 3 else 0 : Int32) = _; (repeat (first | rw [if_neg c_94] | rw [if_neg c_100] | rw [if_neg c_107] | rw [if_neg c_153] | rw [if_neg c_182] | rw [if_neg c_203] | rw [if_neg c_219])); (try rfl)
      have htk : psX (psD M k rent 3) lf = 0 := by rw [hdue]; unfold psX; (repeat (first | rw [if_neg c_94] | rw [if_neg c_100] | rw [if_neg c_107] | rw [if_neg c_153] | rw [if_neg c_182] | rw [if_neg c_203] | rw [if_neg c_219]))
      rw [htk] at hE
      unfold psB psA at hE
      subst ex7_236 ex6_229 ex4_170
      exact e_sub [0, 1, 6, 2, 7, 8, 9] rfl hE
set_option maxRecDepth 100000 in
set_option maxHeartbeats 4000000 in
theorem sg_4 {l : Launch} (hl : l.stackTraces = false) {n : Nat} {ρ : Nat → Nat} {J : Nat → Int64} {M : Mem} {k : Nat} (hk : k < 10) {o : Out} {Ξ : CT} (hnL : Ξ.2.2.2.2.2.2 = 11) (C : CxO l 1 0 0 cX3_pays RX3 (some .int) n ρ J o Ξ) {pl tk rent lf : Int32} {wg : Int64}
    (hE : E Ξ n ρ J (psM M k 4 rent lf) 0 0 75 [(7, .int (pl / 10)), (6, .int (psT M k 4 rent lf tk)), (5, .int rent), (4, .int (psL M k 4 rent lf)), (2, .long wg), (0, .ref (ρ 9)), (1, .int (nI k))] []) :
    E Ξ n ρ J M 0 0 92 [(8, .int 4), (7, .int pl), (6, .int tk), (5, .int rent), (4, .int lf), (2, .long wg), (0, .ref (ρ 9)), (1, .int (nI k))] [] := by
  unfold psM psL psT at hE
  refine e_iload (j := 0) C dX3_pays_92 rfl ?_
  refine e_if_eq (tgt := 110) C dX3_pays_94 (by decide) (fun c_94 => absurd c_94 (by decide)) (fun c_94 => ?_)
  refine e_iload (j := 0) C dX3_pays_97 rfl ?_
  refine e_iconst (v := 2) C dX3_pays_99 (by decide) ?_
  refine e_icmp_le (tgt := 114) C dX3_pays_100 (by decide) (fun c_100 => absurd c_100 (by decide)) (fun c_100 => ?_)
  refine e_aload_n (j := 6) C dX3_pays_103 rfl rfl ?_
  refine e_cV (i := 9) (nA := 0) (Cn := RX3) C (c_X3_isSpared hl) rfl (cnt_fix (by decide)) (fun _ => rfl) rfl rfl mw_376 mw_373 mw_374 mw_375 mw_5 (by decide +kernel) (by decide) rfl rfl (Nat.le_of_ble_eq_true rfl) dX3_pays_104 (Nat.le_of_ble_eq_true rfl) (Nat.le_of_ble_eq_true rfl) ?_
  refine e_if_eq (tgt := 114) C dX3_pays_107 (by decide) (fun c_107 => ?_) (fun c_107 => ?_)
  · refine e_iload (j := 0) C dX3_pays_114 rfl ?_
    refine e_iconst (v := 1) C dX3_pays_116 (by decide) ?_
    refine e_icmp_ne (tgt := 125) C dX3_pays_117 (by decide) (fun c_117 => ?_) (fun c_117 => absurd c_117 (by decide))
    refine e_iload (j := 0) C dX3_pays_125 rfl ?_
    refine e_iconst (v := 5) C dX3_pays_127 (by decide) ?_
    refine e_icmp_ne (tgt := 140) C dX3_pays_128 (by decide) (fun c_128 => ?_) (fun c_128 => absurd c_128 (by decide))
    refine e_aload_n (j := 6) C dX3_pays_140 rfl rfl ?_
    refine e_get3 (k := 14) (ref := "ScripHollowModel") C (by decide) rfl rfl mw_67 dX3_pays_141 ?_
    refine e_iload (j := 0) C dX3_pays_144 rfl ?_
    refine e_ialdN 4 C (cnt_fix (by decide)) (fun _ => rfl) rfl (by decide) (by decide) dX3_pays_146 ?_
    refine e_topi (fun x9_147 ex9_147 => ?_)
    refine e_istore (ls2 := [(9, .int x9_147), (8, .int 4), (7, .int pl), (6, .int tk), (5, .int rent), (4, .int lf), (2, .long wg), (0, .ref (ρ 9)), (1, .int (nI k))]) C hnL dX3_pays_147 (by decide) rfl ?_
    refine e_iload (j := 0) C dX3_pays_149 rfl ?_
    refine e_iload (j := 5) C dX3_pays_151 rfl ?_
    refine e_icmp_ge (tgt := 161) C dX3_pays_153 (by decide) (fun c_153 => ?_) (fun c_153 => ?_)
    · refine e_iload (j := 5) C dX3_pays_161 rfl ?_
      refine e_istore (ls2 := [(10, .int lf), (9, .int x9_147), (8, .int 4), (7, .int pl), (6, .int tk), (5, .int rent), (4, .int lf), (2, .long wg), (0, .ref (ρ 9)), (1, .int (nI k))]) C hnL dX3_pays_163 (by decide) rfl ?_
      refine e_iload (j := 6) C dX3_pays_165 rfl ?_
      refine e_iload (j := 0) C dX3_pays_167 rfl ?_
      refine e_isub C dX3_pays_169 ?_
      refine e_topi (fun x4_170 ex4_170 => ?_)
      refine e_istore (ls2 := [(4, .int x4_170), (10, .int lf), (9, .int x9_147), (8, .int 4), (7, .int pl), (6, .int tk), (5, .int rent), (2, .long wg), (0, .ref (ρ 9)), (1, .int (nI k))]) C hnL dX3_pays_170 (by decide) rfl ?_
      refine e_aload_n (j := 8) C dX3_pays_172 rfl rfl ?_
      refine e_get3 (k := 7) (ref := "ScripHollowModel") C (by decide) rfl rfl mw_60 dX3_pays_173 ?_
      refine e_iload_n (j := 9) C dX3_pays_176 rfl rfl ?_
      refine e_dup2 C dX3_pays_177 rfl rfl ?_
      refine e_ialdN k C (cnt_fix (by decide)) (fun _ => rfl) rfl (by omega) (by decide) dX3_pays_178 ?_
      refine e_iload (j := 3) C dX3_pays_179 rfl ?_
      refine e_iconst (v := 1) C dX3_pays_181 (by decide) ?_
      refine e_icmp_ne (tgt := 190) C dX3_pays_182 (by decide) (fun c_182 => ?_) (fun c_182 => absurd c_182 (by decide))
      refine e_iconst (v := 0) C dX3_pays_190 (by decide) ?_
      refine e_isub C dX3_pays_191 ?_
      refine e_iastN k C (cnt_fix (by decide)) (fun _ _ => rfl) rfl (by omega) (by decide) dX3_pays_192 ?_
      refine e_aload_n (j := 8) C dX3_pays_193 rfl rfl ?_
      refine e_get3 (k := 6) (ref := "ScripHollowModel") C (by decide) rfl rfl mw_59 dX3_pays_194 ?_
      refine e_iload_n (j := 9) C dX3_pays_197 rfl rfl ?_
      refine e_dup2 C dX3_pays_198 rfl rfl ?_
      refine e_ialdN k C (cnt_fix (by decide)) (fun _ => rfl) rfl (by omega) (by decide) dX3_pays_199 ?_
      refine e_iload (j := 3) C dX3_pays_200 rfl ?_
      refine e_iconst (v := 5) C dX3_pays_202 (by decide) ?_
      refine e_icmp_ne (tgt := 211) C dX3_pays_203 (by decide) (fun c_203 => ?_) (fun c_203 => absurd c_203 (by decide))
      refine e_iconst (v := 0) C dX3_pays_211 (by decide) ?_
      refine e_isub C dX3_pays_212 ?_
      refine e_iastN k C (cnt_fix (by decide)) (fun _ _ => rfl) rfl (by omega) (by decide) dX3_pays_213 ?_
      refine e_iload (j := 5) C dX3_pays_214 rfl ?_
      refine e_iload (j := 3) C dX3_pays_216 rfl ?_
      refine e_iconst (v := 2) C dX3_pays_218 (by decide) ?_
      refine e_icmp_le (tgt := 227) C dX3_pays_219 (by decide) (fun c_219 => absurd c_219 (by decide)) (fun c_219 => ?_)
      refine e_iload (j := 1) C dX3_pays_222 rfl ?_
      refine e_goto (tgt := 228) C dX3_pays_224 (by decide) ?_
      refine e_iadd C dX3_pays_228 ?_
      refine e_topi (fun x6_229 ex6_229 => ?_)
      refine e_istore (ls2 := [(6, .int x6_229), (4, .int x4_170), (10, .int lf), (9, .int x9_147), (8, .int 4), (7, .int pl), (5, .int rent), (2, .long wg), (0, .ref (ρ 9)), (1, .int (nI k))]) C hnL dX3_pays_229 (by decide) rfl ?_
      refine e_iload (j := 5) C dX3_pays_231 rfl ?_
      refine e_bipush (v := 10) C dX3_pays_233 (by decide) ?_
      refine e_idiv C dX3_pays_235 (by decide) ?_
      refine e_topi (fun x7_236 ex7_236 => ?_)
      refine e_istore (ls2 := [(7, .int x7_236), (6, .int x6_229), (4, .int x4_170), (10, .int lf), (9, .int x9_147), (8, .int 4), (5, .int rent), (2, .long wg), (0, .ref (ρ 9)), (1, .int (nI k))]) C hnL dX3_pays_236 (by decide) rfl ?_
      refine e_goto (tgt := 75) C dX3_pays_238 (by decide) ?_
      have hdue : psD M k rent 4 = x9_147 := by (try subst ex9_147); show (if spM M = 0 then M 23 4 else 0 : Int32) = _; (repeat (first | rw [if_neg c_94] | rw [if_neg c_100] | rw [if_pos c_107] | rw [if_neg c_117] | rw [if_neg c_128] | rw [if_pos c_153] | rw [if_neg c_182] | rw [if_neg c_203] | rw [if_neg c_219])); (try rfl)
      have htk : psX (psD M k rent 4) lf = lf := by rw [hdue]; unfold psX; (repeat (first | rw [if_neg c_94] | rw [if_neg c_100] | rw [if_pos c_107] | rw [if_neg c_117] | rw [if_neg c_128] | rw [if_pos c_153] | rw [if_neg c_182] | rw [if_neg c_203] | rw [if_neg c_219]))
      rw [htk] at hE
      unfold psB psA at hE
      subst ex7_236 ex6_229 ex4_170
      exact e_sub [0, 1, 6, 2, 7, 8, 9] rfl hE
    · refine e_iload (j := 0) C dX3_pays_156 rfl ?_
      refine e_goto (tgt := 163) C dX3_pays_158 (by decide) ?_
      refine e_istore (ls2 := [(10, .int x9_147), (9, .int x9_147), (8, .int 4), (7, .int pl), (6, .int tk), (5, .int rent), (4, .int lf), (2, .long wg), (0, .ref (ρ 9)), (1, .int (nI k))]) C hnL dX3_pays_163 (by decide) rfl ?_
      refine e_iload (j := 6) C dX3_pays_165 rfl ?_
      refine e_iload (j := 0) C dX3_pays_167 rfl ?_
      refine e_isub C dX3_pays_169 ?_
      refine e_topi (fun x4_170 ex4_170 => ?_)
      refine e_istore (ls2 := [(4, .int x4_170), (10, .int x9_147), (9, .int x9_147), (8, .int 4), (7, .int pl), (6, .int tk), (5, .int rent), (2, .long wg), (0, .ref (ρ 9)), (1, .int (nI k))]) C hnL dX3_pays_170 (by decide) rfl ?_
      refine e_aload_n (j := 8) C dX3_pays_172 rfl rfl ?_
      refine e_get3 (k := 7) (ref := "ScripHollowModel") C (by decide) rfl rfl mw_60 dX3_pays_173 ?_
      refine e_iload_n (j := 9) C dX3_pays_176 rfl rfl ?_
      refine e_dup2 C dX3_pays_177 rfl rfl ?_
      refine e_ialdN k C (cnt_fix (by decide)) (fun _ => rfl) rfl (by omega) (by decide) dX3_pays_178 ?_
      refine e_iload (j := 3) C dX3_pays_179 rfl ?_
      refine e_iconst (v := 1) C dX3_pays_181 (by decide) ?_
      refine e_icmp_ne (tgt := 190) C dX3_pays_182 (by decide) (fun c_182 => ?_) (fun c_182 => absurd c_182 (by decide))
      refine e_iconst (v := 0) C dX3_pays_190 (by decide) ?_
      refine e_isub C dX3_pays_191 ?_
      refine e_iastN k C (cnt_fix (by decide)) (fun _ _ => rfl) rfl (by omega) (by decide) dX3_pays_192 ?_
      refine e_aload_n (j := 8) C dX3_pays_193 rfl rfl ?_
      refine e_get3 (k := 6) (ref := "ScripHollowModel") C (by decide) rfl rfl mw_59 dX3_pays_194 ?_
      refine e_iload_n (j := 9) C dX3_pays_197 rfl rfl ?_
      refine e_dup2 C dX3_pays_198 rfl rfl ?_
      refine e_ialdN k C (cnt_fix (by decide)) (fun _ => rfl) rfl (by omega) (by decide) dX3_pays_199 ?_
      refine e_iload (j := 3) C dX3_pays_200 rfl ?_
      refine e_iconst (v := 5) C dX3_pays_202 (by decide) ?_
      refine e_icmp_ne (tgt := 211) C dX3_pays_203 (by decide) (fun c_203 => ?_) (fun c_203 => absurd c_203 (by decide))
      refine e_iconst (v := 0) C dX3_pays_211 (by decide) ?_
      refine e_isub C dX3_pays_212 ?_
      refine e_iastN k C (cnt_fix (by decide)) (fun _ _ => rfl) rfl (by omega) (by decide) dX3_pays_213 ?_
      refine e_iload (j := 5) C dX3_pays_214 rfl ?_
      refine e_iload (j := 3) C dX3_pays_216 rfl ?_
      refine e_iconst (v := 2) C dX3_pays_218 (by decide) ?_
      refine e_icmp_le (tgt := 227) C dX3_pays_219 (by decide) (fun c_219 => absurd c_219 (by decide)) (fun c_219 => ?_)
      refine e_iload (j := 1) C dX3_pays_222 rfl ?_
      refine e_goto (tgt := 228) C dX3_pays_224 (by decide) ?_
      refine e_iadd C dX3_pays_228 ?_
      refine e_topi (fun x6_229 ex6_229 => ?_)
      refine e_istore (ls2 := [(6, .int x6_229), (4, .int x4_170), (10, .int x9_147), (9, .int x9_147), (8, .int 4), (7, .int pl), (5, .int rent), (2, .long wg), (0, .ref (ρ 9)), (1, .int (nI k))]) C hnL dX3_pays_229 (by decide) rfl ?_
      refine e_iload (j := 5) C dX3_pays_231 rfl ?_
      refine e_bipush (v := 10) C dX3_pays_233 (by decide) ?_
      refine e_idiv C dX3_pays_235 (by decide) ?_
      refine e_topi (fun x7_236 ex7_236 => ?_)
      refine e_istore (ls2 := [(7, .int x7_236), (6, .int x6_229), (4, .int x4_170), (10, .int x9_147), (9, .int x9_147), (8, .int 4), (5, .int rent), (2, .long wg), (0, .ref (ρ 9)), (1, .int (nI k))]) C hnL dX3_pays_236 (by decide) rfl ?_
      refine e_goto (tgt := 75) C dX3_pays_238 (by decide) ?_
      have hdue : psD M k rent 4 = x9_147 := by (try subst ex9_147); show (if spM M = 0 then M 23 4 else 0 : Int32) = _; (repeat (first | rw [if_neg c_94] | rw [if_neg c_100] | rw [if_pos c_107] | rw [if_neg c_117] | rw [if_neg c_128] | rw [if_neg c_153] | rw [if_neg c_182] | rw [if_neg c_203] | rw [if_neg c_219])); (try rfl)
      have htk : psX (psD M k rent 4) lf = x9_147 := by rw [hdue]; unfold psX; (repeat (first | rw [if_neg c_94] | rw [if_neg c_100] | rw [if_pos c_107] | rw [if_neg c_117] | rw [if_neg c_128] | rw [if_neg c_153] | rw [if_neg c_182] | rw [if_neg c_203] | rw [if_neg c_219]))
      rw [htk] at hE
      unfold psB psA at hE
      subst ex7_236 ex6_229 ex4_170
      exact e_sub [0, 1, 6, 2, 7, 8, 9] rfl hE
  · refine e_iconst (v := 0) C dX3_pays_110 (by decide) ?_
    refine e_goto (tgt := 147) C dX3_pays_111 (by decide) ?_
    refine e_istore (ls2 := [(9, .int 0), (8, .int 4), (7, .int pl), (6, .int tk), (5, .int rent), (4, .int lf), (2, .long wg), (0, .ref (ρ 9)), (1, .int (nI k))]) C hnL dX3_pays_147 (by decide) rfl ?_
    refine e_iload (j := 0) C dX3_pays_149 rfl ?_
    refine e_iload (j := 5) C dX3_pays_151 rfl ?_
    refine e_icmp_ge (tgt := 161) C dX3_pays_153 (by decide) (fun c_153 => ?_) (fun c_153 => ?_)
    · refine e_iload (j := 5) C dX3_pays_161 rfl ?_
      refine e_istore (ls2 := [(10, .int lf), (9, .int 0), (8, .int 4), (7, .int pl), (6, .int tk), (5, .int rent), (4, .int lf), (2, .long wg), (0, .ref (ρ 9)), (1, .int (nI k))]) C hnL dX3_pays_163 (by decide) rfl ?_
      refine e_iload (j := 6) C dX3_pays_165 rfl ?_
      refine e_iload (j := 0) C dX3_pays_167 rfl ?_
      refine e_isub C dX3_pays_169 ?_
      refine e_topi (fun x4_170 ex4_170 => ?_)
      refine e_istore (ls2 := [(4, .int x4_170), (10, .int lf), (9, .int 0), (8, .int 4), (7, .int pl), (6, .int tk), (5, .int rent), (2, .long wg), (0, .ref (ρ 9)), (1, .int (nI k))]) C hnL dX3_pays_170 (by decide) rfl ?_
      refine e_aload_n (j := 8) C dX3_pays_172 rfl rfl ?_
      refine e_get3 (k := 7) (ref := "ScripHollowModel") C (by decide) rfl rfl mw_60 dX3_pays_173 ?_
      refine e_iload_n (j := 9) C dX3_pays_176 rfl rfl ?_
      refine e_dup2 C dX3_pays_177 rfl rfl ?_
      refine e_ialdN k C (cnt_fix (by decide)) (fun _ => rfl) rfl (by omega) (by decide) dX3_pays_178 ?_
      refine e_iload (j := 3) C dX3_pays_179 rfl ?_
      refine e_iconst (v := 1) C dX3_pays_181 (by decide) ?_
      refine e_icmp_ne (tgt := 190) C dX3_pays_182 (by decide) (fun c_182 => ?_) (fun c_182 => absurd c_182 (by decide))
      refine e_iconst (v := 0) C dX3_pays_190 (by decide) ?_
      refine e_isub C dX3_pays_191 ?_
      refine e_iastN k C (cnt_fix (by decide)) (fun _ _ => rfl) rfl (by omega) (by decide) dX3_pays_192 ?_
      refine e_aload_n (j := 8) C dX3_pays_193 rfl rfl ?_
      refine e_get3 (k := 6) (ref := "ScripHollowModel") C (by decide) rfl rfl mw_59 dX3_pays_194 ?_
      refine e_iload_n (j := 9) C dX3_pays_197 rfl rfl ?_
      refine e_dup2 C dX3_pays_198 rfl rfl ?_
      refine e_ialdN k C (cnt_fix (by decide)) (fun _ => rfl) rfl (by omega) (by decide) dX3_pays_199 ?_
      refine e_iload (j := 3) C dX3_pays_200 rfl ?_
      refine e_iconst (v := 5) C dX3_pays_202 (by decide) ?_
      refine e_icmp_ne (tgt := 211) C dX3_pays_203 (by decide) (fun c_203 => ?_) (fun c_203 => absurd c_203 (by decide))
      refine e_iconst (v := 0) C dX3_pays_211 (by decide) ?_
      refine e_isub C dX3_pays_212 ?_
      refine e_iastN k C (cnt_fix (by decide)) (fun _ _ => rfl) rfl (by omega) (by decide) dX3_pays_213 ?_
      refine e_iload (j := 5) C dX3_pays_214 rfl ?_
      refine e_iload (j := 3) C dX3_pays_216 rfl ?_
      refine e_iconst (v := 2) C dX3_pays_218 (by decide) ?_
      refine e_icmp_le (tgt := 227) C dX3_pays_219 (by decide) (fun c_219 => absurd c_219 (by decide)) (fun c_219 => ?_)
      refine e_iload (j := 1) C dX3_pays_222 rfl ?_
      refine e_goto (tgt := 228) C dX3_pays_224 (by decide) ?_
      refine e_iadd C dX3_pays_228 ?_
      refine e_topi (fun x6_229 ex6_229 => ?_)
      refine e_istore (ls2 := [(6, .int x6_229), (4, .int x4_170), (10, .int lf), (9, .int 0), (8, .int 4), (7, .int pl), (5, .int rent), (2, .long wg), (0, .ref (ρ 9)), (1, .int (nI k))]) C hnL dX3_pays_229 (by decide) rfl ?_
      refine e_iload (j := 5) C dX3_pays_231 rfl ?_
      refine e_bipush (v := 10) C dX3_pays_233 (by decide) ?_
      refine e_idiv C dX3_pays_235 (by decide) ?_
      refine e_topi (fun x7_236 ex7_236 => ?_)
      refine e_istore (ls2 := [(7, .int x7_236), (6, .int x6_229), (4, .int x4_170), (10, .int lf), (9, .int 0), (8, .int 4), (5, .int rent), (2, .long wg), (0, .ref (ρ 9)), (1, .int (nI k))]) C hnL dX3_pays_236 (by decide) rfl ?_
      refine e_goto (tgt := 75) C dX3_pays_238 (by decide) ?_
      have hdue : psD M k rent 4 = 0 := by show (if spM M = 0 then M 23 4 else 0 : Int32) = _; (repeat (first | rw [if_neg c_94] | rw [if_neg c_100] | rw [if_neg c_107] | rw [if_pos c_153] | rw [if_neg c_182] | rw [if_neg c_203] | rw [if_neg c_219])); (try rfl)
      have htk : psX (psD M k rent 4) lf = lf := by rw [hdue]; unfold psX; (repeat (first | rw [if_neg c_94] | rw [if_neg c_100] | rw [if_neg c_107] | rw [if_pos c_153] | rw [if_neg c_182] | rw [if_neg c_203] | rw [if_neg c_219]))
      rw [htk] at hE
      unfold psB psA at hE
      subst ex7_236 ex6_229 ex4_170
      exact e_sub [0, 1, 6, 2, 7, 8, 9] rfl hE
    · refine e_iload (j := 0) C dX3_pays_156 rfl ?_
      refine e_goto (tgt := 163) C dX3_pays_158 (by decide) ?_
      refine e_istore (ls2 := [(10, .int 0), (9, .int 0), (8, .int 4), (7, .int pl), (6, .int tk), (5, .int rent), (4, .int lf), (2, .long wg), (0, .ref (ρ 9)), (1, .int (nI k))]) C hnL dX3_pays_163 (by decide) rfl ?_
      refine e_iload (j := 6) C dX3_pays_165 rfl ?_
      refine e_iload (j := 0) C dX3_pays_167 rfl ?_
      refine e_isub C dX3_pays_169 ?_
      refine e_topi (fun x4_170 ex4_170 => ?_)
      refine e_istore (ls2 := [(4, .int x4_170), (10, .int 0), (9, .int 0), (8, .int 4), (7, .int pl), (6, .int tk), (5, .int rent), (2, .long wg), (0, .ref (ρ 9)), (1, .int (nI k))]) C hnL dX3_pays_170 (by decide) rfl ?_
      refine e_aload_n (j := 8) C dX3_pays_172 rfl rfl ?_
      refine e_get3 (k := 7) (ref := "ScripHollowModel") C (by decide) rfl rfl mw_60 dX3_pays_173 ?_
      refine e_iload_n (j := 9) C dX3_pays_176 rfl rfl ?_
      refine e_dup2 C dX3_pays_177 rfl rfl ?_
      refine e_ialdN k C (cnt_fix (by decide)) (fun _ => rfl) rfl (by omega) (by decide) dX3_pays_178 ?_
      refine e_iload (j := 3) C dX3_pays_179 rfl ?_
      refine e_iconst (v := 1) C dX3_pays_181 (by decide) ?_
      refine e_icmp_ne (tgt := 190) C dX3_pays_182 (by decide) (fun c_182 => ?_) (fun c_182 => absurd c_182 (by decide))
      refine e_iconst (v := 0) C dX3_pays_190 (by decide) ?_
      refine e_isub C dX3_pays_191 ?_
      refine e_iastN k C (cnt_fix (by decide)) (fun _ _ => rfl) rfl (by omega) (by decide) dX3_pays_192 ?_
      refine e_aload_n (j := 8) C dX3_pays_193 rfl rfl ?_
      refine e_get3 (k := 6) (ref := "ScripHollowModel") C (by decide) rfl rfl mw_59 dX3_pays_194 ?_
      refine e_iload_n (j := 9) C dX3_pays_197 rfl rfl ?_
      refine e_dup2 C dX3_pays_198 rfl rfl ?_
      refine e_ialdN k C (cnt_fix (by decide)) (fun _ => rfl) rfl (by omega) (by decide) dX3_pays_199 ?_
      refine e_iload (j := 3) C dX3_pays_200 rfl ?_
      refine e_iconst (v := 5) C dX3_pays_202 (by decide) ?_
      refine e_icmp_ne (tgt := 211) C dX3_pays_203 (by decide) (fun c_203 => ?_) (fun c_203 => absurd c_203 (by decide))
      refine e_iconst (v := 0) C dX3_pays_211 (by decide) ?_
      refine e_isub C dX3_pays_212 ?_
      refine e_iastN k C (cnt_fix (by decide)) (fun _ _ => rfl) rfl (by omega) (by decide) dX3_pays_213 ?_
      refine e_iload (j := 5) C dX3_pays_214 rfl ?_
      refine e_iload (j := 3) C dX3_pays_216 rfl ?_
      refine e_iconst (v := 2) C dX3_pays_218 (by decide) ?_
      refine e_icmp_le (tgt := 227) C dX3_pays_219 (by decide) (fun c_219 => absurd c_219 (by decide)) (fun c_219 => ?_)
      refine e_iload (j := 1) C dX3_pays_222 rfl ?_
      refine e_goto (tgt := 228) C dX3_pays_224 (by decide) ?_
      refine e_iadd C dX3_pays_228 ?_
      refine e_topi (fun x6_229 ex6_229 => ?_)
      refine e_istore (ls2 := [(6, .int x6_229), (4, .int x4_170), (10, .int 0), (9, .int 0), (8, .int 4), (7, .int pl), (5, .int rent), (2, .long wg), (0, .ref (ρ 9)), (1, .int (nI k))]) C hnL dX3_pays_229 (by decide) rfl ?_
      refine e_iload (j := 5) C dX3_pays_231 rfl ?_
      refine e_bipush (v := 10) C dX3_pays_233 (by decide) ?_
      refine e_idiv C dX3_pays_235 (by decide) ?_
      refine e_topi (fun x7_236 ex7_236 => ?_)
      refine e_istore (ls2 := [(7, .int x7_236), (6, .int x6_229), (4, .int x4_170), (10, .int 0), (9, .int 0), (8, .int 4), (5, .int rent), (2, .long wg), (0, .ref (ρ 9)), (1, .int (nI k))]) C hnL dX3_pays_236 (by decide) rfl ?_
      refine e_goto (tgt := 75) C dX3_pays_238 (by decide) ?_
      have hdue : psD M k rent 4 = 0 := by show (if spM M = 0 then M 23 4 else 0 : Int32) = _; (repeat (first | rw [if_neg c_94] | rw [if_neg c_100] | rw [if_neg c_107] | rw [if_neg c_153] | rw [if_neg c_182] | rw [if_neg c_203] | rw [if_neg c_219])); (try rfl)
      have htk : psX (psD M k rent 4) lf = 0 := by rw [hdue]; unfold psX; (repeat (first | rw [if_neg c_94] | rw [if_neg c_100] | rw [if_neg c_107] | rw [if_neg c_153] | rw [if_neg c_182] | rw [if_neg c_203] | rw [if_neg c_219]))
      rw [htk] at hE
      unfold psB psA at hE
      subst ex7_236 ex6_229 ex4_170
      exact e_sub [0, 1, 6, 2, 7, 8, 9] rfl hE
set_option maxRecDepth 100000 in
set_option maxHeartbeats 4000000 in
theorem sg_5 {l : Launch} (hl : l.stackTraces = false) {n : Nat} {ρ : Nat → Nat} {J : Nat → Int64} {M : Mem} {k : Nat} (hk : k < 10) {o : Out} {Ξ : CT} (hnL : Ξ.2.2.2.2.2.2 = 11) (C : CxO l 1 0 0 cX3_pays RX3 (some .int) n ρ J o Ξ) {pl tk rent lf : Int32} {wg : Int64}
    (hE : E Ξ n ρ J (psM M k 5 rent lf) 0 0 75 [(7, .int (pl / 10)), (6, .int (psT M k 5 rent lf tk)), (5, .int rent), (4, .int (psL M k 5 rent lf)), (2, .long wg), (0, .ref (ρ 9)), (1, .int (nI k))] []) :
    E Ξ n ρ J M 0 0 92 [(8, .int 5), (7, .int pl), (6, .int tk), (5, .int rent), (4, .int lf), (2, .long wg), (0, .ref (ρ 9)), (1, .int (nI k))] [] := by
  unfold psM psL psT at hE
  refine e_iload (j := 0) C dX3_pays_92 rfl ?_
  refine e_if_eq (tgt := 110) C dX3_pays_94 (by decide) (fun c_94 => absurd c_94 (by decide)) (fun c_94 => ?_)
  refine e_iload (j := 0) C dX3_pays_97 rfl ?_
  refine e_iconst (v := 2) C dX3_pays_99 (by decide) ?_
  refine e_icmp_le (tgt := 114) C dX3_pays_100 (by decide) (fun c_100 => absurd c_100 (by decide)) (fun c_100 => ?_)
  refine e_aload_n (j := 6) C dX3_pays_103 rfl rfl ?_
  refine e_cV (i := 9) (nA := 0) (Cn := RX3) C (c_X3_isSpared hl) rfl (cnt_fix (by decide)) (fun _ => rfl) rfl rfl mw_376 mw_373 mw_374 mw_375 mw_5 (by decide +kernel) (by decide) rfl rfl (Nat.le_of_ble_eq_true rfl) dX3_pays_104 (Nat.le_of_ble_eq_true rfl) (Nat.le_of_ble_eq_true rfl) ?_
  refine e_if_eq (tgt := 114) C dX3_pays_107 (by decide) (fun c_107 => ?_) (fun c_107 => ?_)
  · refine e_iload (j := 0) C dX3_pays_114 rfl ?_
    refine e_iconst (v := 1) C dX3_pays_116 (by decide) ?_
    refine e_icmp_ne (tgt := 125) C dX3_pays_117 (by decide) (fun c_117 => ?_) (fun c_117 => absurd c_117 (by decide))
    refine e_iload (j := 0) C dX3_pays_125 rfl ?_
    refine e_iconst (v := 5) C dX3_pays_127 (by decide) ?_
    refine e_icmp_ne (tgt := 140) C dX3_pays_128 (by decide) (fun c_128 => absurd (by decide) c_128) (fun c_128 => ?_)
    refine e_aload_n (j := 6) C dX3_pays_131 rfl rfl ?_
    refine e_get3 (k := 6) (ref := "ScripHollowModel") C (by decide) rfl rfl mw_59 dX3_pays_132 ?_
    refine e_iload_n (j := 7) C dX3_pays_135 rfl rfl ?_
    refine e_ialdN k C (cnt_fix (by decide)) (fun _ => rfl) rfl (by omega) (by decide) dX3_pays_136 ?_
    refine e_goto (tgt := 147) C dX3_pays_137 (by decide) ?_
    refine e_topi (fun x9_147 ex9_147 => ?_)
    refine e_istore (ls2 := [(9, .int x9_147), (8, .int 5), (7, .int pl), (6, .int tk), (5, .int rent), (4, .int lf), (2, .long wg), (0, .ref (ρ 9)), (1, .int (nI k))]) C hnL dX3_pays_147 (by decide) rfl ?_
    refine e_iload (j := 0) C dX3_pays_149 rfl ?_
    refine e_iload (j := 5) C dX3_pays_151 rfl ?_
    refine e_icmp_ge (tgt := 161) C dX3_pays_153 (by decide) (fun c_153 => ?_) (fun c_153 => ?_)
    · refine e_iload (j := 5) C dX3_pays_161 rfl ?_
      refine e_istore (ls2 := [(10, .int lf), (9, .int x9_147), (8, .int 5), (7, .int pl), (6, .int tk), (5, .int rent), (4, .int lf), (2, .long wg), (0, .ref (ρ 9)), (1, .int (nI k))]) C hnL dX3_pays_163 (by decide) rfl ?_
      refine e_iload (j := 6) C dX3_pays_165 rfl ?_
      refine e_iload (j := 0) C dX3_pays_167 rfl ?_
      refine e_isub C dX3_pays_169 ?_
      refine e_topi (fun x4_170 ex4_170 => ?_)
      refine e_istore (ls2 := [(4, .int x4_170), (10, .int lf), (9, .int x9_147), (8, .int 5), (7, .int pl), (6, .int tk), (5, .int rent), (2, .long wg), (0, .ref (ρ 9)), (1, .int (nI k))]) C hnL dX3_pays_170 (by decide) rfl ?_
      refine e_aload_n (j := 8) C dX3_pays_172 rfl rfl ?_
      refine e_get3 (k := 7) (ref := "ScripHollowModel") C (by decide) rfl rfl mw_60 dX3_pays_173 ?_
      refine e_iload_n (j := 9) C dX3_pays_176 rfl rfl ?_
      refine e_dup2 C dX3_pays_177 rfl rfl ?_
      refine e_ialdN k C (cnt_fix (by decide)) (fun _ => rfl) rfl (by omega) (by decide) dX3_pays_178 ?_
      refine e_iload (j := 3) C dX3_pays_179 rfl ?_
      refine e_iconst (v := 1) C dX3_pays_181 (by decide) ?_
      refine e_icmp_ne (tgt := 190) C dX3_pays_182 (by decide) (fun c_182 => ?_) (fun c_182 => absurd c_182 (by decide))
      refine e_iconst (v := 0) C dX3_pays_190 (by decide) ?_
      refine e_isub C dX3_pays_191 ?_
      refine e_iastN k C (cnt_fix (by decide)) (fun _ _ => rfl) rfl (by omega) (by decide) dX3_pays_192 ?_
      refine e_aload_n (j := 8) C dX3_pays_193 rfl rfl ?_
      refine e_get3 (k := 6) (ref := "ScripHollowModel") C (by decide) rfl rfl mw_59 dX3_pays_194 ?_
      refine e_iload_n (j := 9) C dX3_pays_197 rfl rfl ?_
      refine e_dup2 C dX3_pays_198 rfl rfl ?_
      refine e_ialdN k C (cnt_fix (by decide)) (fun _ => rfl) rfl (by omega) (by decide) dX3_pays_199 ?_
      refine e_iload (j := 3) C dX3_pays_200 rfl ?_
      refine e_iconst (v := 5) C dX3_pays_202 (by decide) ?_
      refine e_icmp_ne (tgt := 211) C dX3_pays_203 (by decide) (fun c_203 => absurd (by decide) c_203) (fun c_203 => ?_)
      refine e_iload (j := 1) C dX3_pays_206 rfl ?_
      refine e_goto (tgt := 212) C dX3_pays_208 (by decide) ?_
      refine e_isub C dX3_pays_212 ?_
      refine e_iastN k C (cnt_fix (by decide)) (fun _ _ => rfl) rfl (by omega) (by decide) dX3_pays_213 ?_
      refine e_iload (j := 5) C dX3_pays_214 rfl ?_
      refine e_iload (j := 3) C dX3_pays_216 rfl ?_
      refine e_iconst (v := 2) C dX3_pays_218 (by decide) ?_
      refine e_icmp_le (tgt := 227) C dX3_pays_219 (by decide) (fun c_219 => absurd c_219 (by decide)) (fun c_219 => ?_)
      refine e_iload (j := 1) C dX3_pays_222 rfl ?_
      refine e_goto (tgt := 228) C dX3_pays_224 (by decide) ?_
      refine e_iadd C dX3_pays_228 ?_
      refine e_topi (fun x6_229 ex6_229 => ?_)
      refine e_istore (ls2 := [(6, .int x6_229), (4, .int x4_170), (10, .int lf), (9, .int x9_147), (8, .int 5), (7, .int pl), (5, .int rent), (2, .long wg), (0, .ref (ρ 9)), (1, .int (nI k))]) C hnL dX3_pays_229 (by decide) rfl ?_
      refine e_iload (j := 5) C dX3_pays_231 rfl ?_
      refine e_bipush (v := 10) C dX3_pays_233 (by decide) ?_
      refine e_idiv C dX3_pays_235 (by decide) ?_
      refine e_topi (fun x7_236 ex7_236 => ?_)
      refine e_istore (ls2 := [(7, .int x7_236), (6, .int x6_229), (4, .int x4_170), (10, .int lf), (9, .int x9_147), (8, .int 5), (5, .int rent), (2, .long wg), (0, .ref (ρ 9)), (1, .int (nI k))]) C hnL dX3_pays_236 (by decide) rfl ?_
      refine e_goto (tgt := 75) C dX3_pays_238 (by decide) ?_
      have hdue : psD M k rent 5 = x9_147 := by (try subst ex9_147); show (if spM M = 0 then M 15 k else 0 : Int32) = _; (repeat (first | rw [if_neg c_94] | rw [if_neg c_100] | rw [if_pos c_107] | rw [if_neg c_117] | rw [if_pos c_128] | rw [if_pos c_153] | rw [if_neg c_182] | rw [if_pos c_203] | rw [if_neg c_219])); (try rfl)
      have htk : psX (psD M k rent 5) lf = lf := by rw [hdue]; unfold psX; (repeat (first | rw [if_neg c_94] | rw [if_neg c_100] | rw [if_pos c_107] | rw [if_neg c_117] | rw [if_pos c_128] | rw [if_pos c_153] | rw [if_neg c_182] | rw [if_pos c_203] | rw [if_neg c_219]))
      rw [htk] at hE
      unfold psB psA at hE
      subst ex7_236 ex6_229 ex4_170
      exact e_sub [0, 1, 6, 2, 7, 8, 9] rfl hE
    · refine e_iload (j := 0) C dX3_pays_156 rfl ?_
      refine e_goto (tgt := 163) C dX3_pays_158 (by decide) ?_
      refine e_istore (ls2 := [(10, .int x9_147), (9, .int x9_147), (8, .int 5), (7, .int pl), (6, .int tk), (5, .int rent), (4, .int lf), (2, .long wg), (0, .ref (ρ 9)), (1, .int (nI k))]) C hnL dX3_pays_163 (by decide) rfl ?_
      refine e_iload (j := 6) C dX3_pays_165 rfl ?_
      refine e_iload (j := 0) C dX3_pays_167 rfl ?_
      refine e_isub C dX3_pays_169 ?_
      refine e_topi (fun x4_170 ex4_170 => ?_)
      refine e_istore (ls2 := [(4, .int x4_170), (10, .int x9_147), (9, .int x9_147), (8, .int 5), (7, .int pl), (6, .int tk), (5, .int rent), (2, .long wg), (0, .ref (ρ 9)), (1, .int (nI k))]) C hnL dX3_pays_170 (by decide) rfl ?_
      refine e_aload_n (j := 8) C dX3_pays_172 rfl rfl ?_
      refine e_get3 (k := 7) (ref := "ScripHollowModel") C (by decide) rfl rfl mw_60 dX3_pays_173 ?_
      refine e_iload_n (j := 9) C dX3_pays_176 rfl rfl ?_
      refine e_dup2 C dX3_pays_177 rfl rfl ?_
      refine e_ialdN k C (cnt_fix (by decide)) (fun _ => rfl) rfl (by omega) (by decide) dX3_pays_178 ?_
      refine e_iload (j := 3) C dX3_pays_179 rfl ?_
      refine e_iconst (v := 1) C dX3_pays_181 (by decide) ?_
      refine e_icmp_ne (tgt := 190) C dX3_pays_182 (by decide) (fun c_182 => ?_) (fun c_182 => absurd c_182 (by decide))
      refine e_iconst (v := 0) C dX3_pays_190 (by decide) ?_
      refine e_isub C dX3_pays_191 ?_
      refine e_iastN k C (cnt_fix (by decide)) (fun _ _ => rfl) rfl (by omega) (by decide) dX3_pays_192 ?_
      refine e_aload_n (j := 8) C dX3_pays_193 rfl rfl ?_
      refine e_get3 (k := 6) (ref := "ScripHollowModel") C (by decide) rfl rfl mw_59 dX3_pays_194 ?_
      refine e_iload_n (j := 9) C dX3_pays_197 rfl rfl ?_
      refine e_dup2 C dX3_pays_198 rfl rfl ?_
      refine e_ialdN k C (cnt_fix (by decide)) (fun _ => rfl) rfl (by omega) (by decide) dX3_pays_199 ?_
      refine e_iload (j := 3) C dX3_pays_200 rfl ?_
      refine e_iconst (v := 5) C dX3_pays_202 (by decide) ?_
      refine e_icmp_ne (tgt := 211) C dX3_pays_203 (by decide) (fun c_203 => absurd (by decide) c_203) (fun c_203 => ?_)
      refine e_iload (j := 1) C dX3_pays_206 rfl ?_
      refine e_goto (tgt := 212) C dX3_pays_208 (by decide) ?_
      refine e_isub C dX3_pays_212 ?_
      refine e_iastN k C (cnt_fix (by decide)) (fun _ _ => rfl) rfl (by omega) (by decide) dX3_pays_213 ?_
      refine e_iload (j := 5) C dX3_pays_214 rfl ?_
      refine e_iload (j := 3) C dX3_pays_216 rfl ?_
      refine e_iconst (v := 2) C dX3_pays_218 (by decide) ?_
      refine e_icmp_le (tgt := 227) C dX3_pays_219 (by decide) (fun c_219 => absurd c_219 (by decide)) (fun c_219 => ?_)
      refine e_iload (j := 1) C dX3_pays_222 rfl ?_
      refine e_goto (tgt := 228) C dX3_pays_224 (by decide) ?_
      refine e_iadd C dX3_pays_228 ?_
      refine e_topi (fun x6_229 ex6_229 => ?_)
      refine e_istore (ls2 := [(6, .int x6_229), (4, .int x4_170), (10, .int x9_147), (9, .int x9_147), (8, .int 5), (7, .int pl), (5, .int rent), (2, .long wg), (0, .ref (ρ 9)), (1, .int (nI k))]) C hnL dX3_pays_229 (by decide) rfl ?_
      refine e_iload (j := 5) C dX3_pays_231 rfl ?_
      refine e_bipush (v := 10) C dX3_pays_233 (by decide) ?_
      refine e_idiv C dX3_pays_235 (by decide) ?_
      refine e_topi (fun x7_236 ex7_236 => ?_)
      refine e_istore (ls2 := [(7, .int x7_236), (6, .int x6_229), (4, .int x4_170), (10, .int x9_147), (9, .int x9_147), (8, .int 5), (5, .int rent), (2, .long wg), (0, .ref (ρ 9)), (1, .int (nI k))]) C hnL dX3_pays_236 (by decide) rfl ?_
      refine e_goto (tgt := 75) C dX3_pays_238 (by decide) ?_
      have hdue : psD M k rent 5 = x9_147 := by (try subst ex9_147); show (if spM M = 0 then M 15 k else 0 : Int32) = _; (repeat (first | rw [if_neg c_94] | rw [if_neg c_100] | rw [if_pos c_107] | rw [if_neg c_117] | rw [if_pos c_128] | rw [if_neg c_153] | rw [if_neg c_182] | rw [if_pos c_203] | rw [if_neg c_219])); (try rfl)
      have htk : psX (psD M k rent 5) lf = x9_147 := by rw [hdue]; unfold psX; (repeat (first | rw [if_neg c_94] | rw [if_neg c_100] | rw [if_pos c_107] | rw [if_neg c_117] | rw [if_pos c_128] | rw [if_neg c_153] | rw [if_neg c_182] | rw [if_pos c_203] | rw [if_neg c_219]))
      rw [htk] at hE
      unfold psB psA at hE
      subst ex7_236 ex6_229 ex4_170
      exact e_sub [0, 1, 6, 2, 7, 8, 9] rfl hE
  · refine e_iconst (v := 0) C dX3_pays_110 (by decide) ?_
    refine e_goto (tgt := 147) C dX3_pays_111 (by decide) ?_
    refine e_istore (ls2 := [(9, .int 0), (8, .int 5), (7, .int pl), (6, .int tk), (5, .int rent), (4, .int lf), (2, .long wg), (0, .ref (ρ 9)), (1, .int (nI k))]) C hnL dX3_pays_147 (by decide) rfl ?_
    refine e_iload (j := 0) C dX3_pays_149 rfl ?_
    refine e_iload (j := 5) C dX3_pays_151 rfl ?_
    refine e_icmp_ge (tgt := 161) C dX3_pays_153 (by decide) (fun c_153 => ?_) (fun c_153 => ?_)
    · refine e_iload (j := 5) C dX3_pays_161 rfl ?_
      refine e_istore (ls2 := [(10, .int lf), (9, .int 0), (8, .int 5), (7, .int pl), (6, .int tk), (5, .int rent), (4, .int lf), (2, .long wg), (0, .ref (ρ 9)), (1, .int (nI k))]) C hnL dX3_pays_163 (by decide) rfl ?_
      refine e_iload (j := 6) C dX3_pays_165 rfl ?_
      refine e_iload (j := 0) C dX3_pays_167 rfl ?_
      refine e_isub C dX3_pays_169 ?_
      refine e_topi (fun x4_170 ex4_170 => ?_)
      refine e_istore (ls2 := [(4, .int x4_170), (10, .int lf), (9, .int 0), (8, .int 5), (7, .int pl), (6, .int tk), (5, .int rent), (2, .long wg), (0, .ref (ρ 9)), (1, .int (nI k))]) C hnL dX3_pays_170 (by decide) rfl ?_
      refine e_aload_n (j := 8) C dX3_pays_172 rfl rfl ?_
      refine e_get3 (k := 7) (ref := "ScripHollowModel") C (by decide) rfl rfl mw_60 dX3_pays_173 ?_
      refine e_iload_n (j := 9) C dX3_pays_176 rfl rfl ?_
      refine e_dup2 C dX3_pays_177 rfl rfl ?_
      refine e_ialdN k C (cnt_fix (by decide)) (fun _ => rfl) rfl (by omega) (by decide) dX3_pays_178 ?_
      refine e_iload (j := 3) C dX3_pays_179 rfl ?_
      refine e_iconst (v := 1) C dX3_pays_181 (by decide) ?_
      refine e_icmp_ne (tgt := 190) C dX3_pays_182 (by decide) (fun c_182 => ?_) (fun c_182 => absurd c_182 (by decide))
      refine e_iconst (v := 0) C dX3_pays_190 (by decide) ?_
      refine e_isub C dX3_pays_191 ?_
      refine e_iastN k C (cnt_fix (by decide)) (fun _ _ => rfl) rfl (by omega) (by decide) dX3_pays_192 ?_
      refine e_aload_n (j := 8) C dX3_pays_193 rfl rfl ?_
      refine e_get3 (k := 6) (ref := "ScripHollowModel") C (by decide) rfl rfl mw_59 dX3_pays_194 ?_
      refine e_iload_n (j := 9) C dX3_pays_197 rfl rfl ?_
      refine e_dup2 C dX3_pays_198 rfl rfl ?_
      refine e_ialdN k C (cnt_fix (by decide)) (fun _ => rfl) rfl (by omega) (by decide) dX3_pays_199 ?_
      refine e_iload (j := 3) C dX3_pays_200 rfl ?_
      refine e_iconst (v := 5) C dX3_pays_202 (by decide) ?_
      refine e_icmp_ne (tgt := 211) C dX3_pays_203 (by decide) (fun c_203 => absurd (by decide) c_203) (fun c_203 => ?_)
      refine e_iload (j := 1) C dX3_pays_206 rfl ?_
      refine e_goto (tgt := 212) C dX3_pays_208 (by decide) ?_
      refine e_isub C dX3_pays_212 ?_
      refine e_iastN k C (cnt_fix (by decide)) (fun _ _ => rfl) rfl (by omega) (by decide) dX3_pays_213 ?_
      refine e_iload (j := 5) C dX3_pays_214 rfl ?_
      refine e_iload (j := 3) C dX3_pays_216 rfl ?_
      refine e_iconst (v := 2) C dX3_pays_218 (by decide) ?_
      refine e_icmp_le (tgt := 227) C dX3_pays_219 (by decide) (fun c_219 => absurd c_219 (by decide)) (fun c_219 => ?_)
      refine e_iload (j := 1) C dX3_pays_222 rfl ?_
      refine e_goto (tgt := 228) C dX3_pays_224 (by decide) ?_
      refine e_iadd C dX3_pays_228 ?_
      refine e_topi (fun x6_229 ex6_229 => ?_)
      refine e_istore (ls2 := [(6, .int x6_229), (4, .int x4_170), (10, .int lf), (9, .int 0), (8, .int 5), (7, .int pl), (5, .int rent), (2, .long wg), (0, .ref (ρ 9)), (1, .int (nI k))]) C hnL dX3_pays_229 (by decide) rfl ?_
      refine e_iload (j := 5) C dX3_pays_231 rfl ?_
      refine e_bipush (v := 10) C dX3_pays_233 (by decide) ?_
      refine e_idiv C dX3_pays_235 (by decide) ?_
      refine e_topi (fun x7_236 ex7_236 => ?_)
      refine e_istore (ls2 := [(7, .int x7_236), (6, .int x6_229), (4, .int x4_170), (10, .int lf), (9, .int 0), (8, .int 5), (5, .int rent), (2, .long wg), (0, .ref (ρ 9)), (1, .int (nI k))]) C hnL dX3_pays_236 (by decide) rfl ?_
      refine e_goto (tgt := 75) C dX3_pays_238 (by decide) ?_
      have hdue : psD M k rent 5 = 0 := by show (if spM M = 0 then M 15 k else 0 : Int32) = _; (repeat (first | rw [if_neg c_94] | rw [if_neg c_100] | rw [if_neg c_107] | rw [if_pos c_153] | rw [if_neg c_182] | rw [if_pos c_203] | rw [if_neg c_219])); (try rfl)
      have htk : psX (psD M k rent 5) lf = lf := by rw [hdue]; unfold psX; (repeat (first | rw [if_neg c_94] | rw [if_neg c_100] | rw [if_neg c_107] | rw [if_pos c_153] | rw [if_neg c_182] | rw [if_pos c_203] | rw [if_neg c_219]))
      rw [htk] at hE
      unfold psB psA at hE
      subst ex7_236 ex6_229 ex4_170
      exact e_sub [0, 1, 6, 2, 7, 8, 9] rfl hE
    · refine e_iload (j := 0) C dX3_pays_156 rfl ?_
      refine e_goto (tgt := 163) C dX3_pays_158 (by decide) ?_
      refine e_istore (ls2 := [(10, .int 0), (9, .int 0), (8, .int 5), (7, .int pl), (6, .int tk), (5, .int rent), (4, .int lf), (2, .long wg), (0, .ref (ρ 9)), (1, .int (nI k))]) C hnL dX3_pays_163 (by decide) rfl ?_
      refine e_iload (j := 6) C dX3_pays_165 rfl ?_
      refine e_iload (j := 0) C dX3_pays_167 rfl ?_
      refine e_isub C dX3_pays_169 ?_
      refine e_topi (fun x4_170 ex4_170 => ?_)
      refine e_istore (ls2 := [(4, .int x4_170), (10, .int 0), (9, .int 0), (8, .int 5), (7, .int pl), (6, .int tk), (5, .int rent), (2, .long wg), (0, .ref (ρ 9)), (1, .int (nI k))]) C hnL dX3_pays_170 (by decide) rfl ?_
      refine e_aload_n (j := 8) C dX3_pays_172 rfl rfl ?_
      refine e_get3 (k := 7) (ref := "ScripHollowModel") C (by decide) rfl rfl mw_60 dX3_pays_173 ?_
      refine e_iload_n (j := 9) C dX3_pays_176 rfl rfl ?_
      refine e_dup2 C dX3_pays_177 rfl rfl ?_
      refine e_ialdN k C (cnt_fix (by decide)) (fun _ => rfl) rfl (by omega) (by decide) dX3_pays_178 ?_
      refine e_iload (j := 3) C dX3_pays_179 rfl ?_
      refine e_iconst (v := 1) C dX3_pays_181 (by decide) ?_
      refine e_icmp_ne (tgt := 190) C dX3_pays_182 (by decide) (fun c_182 => ?_) (fun c_182 => absurd c_182 (by decide))
      refine e_iconst (v := 0) C dX3_pays_190 (by decide) ?_
      refine e_isub C dX3_pays_191 ?_
      refine e_iastN k C (cnt_fix (by decide)) (fun _ _ => rfl) rfl (by omega) (by decide) dX3_pays_192 ?_
      refine e_aload_n (j := 8) C dX3_pays_193 rfl rfl ?_
      refine e_get3 (k := 6) (ref := "ScripHollowModel") C (by decide) rfl rfl mw_59 dX3_pays_194 ?_
      refine e_iload_n (j := 9) C dX3_pays_197 rfl rfl ?_
      refine e_dup2 C dX3_pays_198 rfl rfl ?_
      refine e_ialdN k C (cnt_fix (by decide)) (fun _ => rfl) rfl (by omega) (by decide) dX3_pays_199 ?_
      refine e_iload (j := 3) C dX3_pays_200 rfl ?_
      refine e_iconst (v := 5) C dX3_pays_202 (by decide) ?_
      refine e_icmp_ne (tgt := 211) C dX3_pays_203 (by decide) (fun c_203 => absurd (by decide) c_203) (fun c_203 => ?_)
      refine e_iload (j := 1) C dX3_pays_206 rfl ?_
      refine e_goto (tgt := 212) C dX3_pays_208 (by decide) ?_
      refine e_isub C dX3_pays_212 ?_
      refine e_iastN k C (cnt_fix (by decide)) (fun _ _ => rfl) rfl (by omega) (by decide) dX3_pays_213 ?_
      refine e_iload (j := 5) C dX3_pays_214 rfl ?_
      refine e_iload (j := 3) C dX3_pays_216 rfl ?_
      refine e_iconst (v := 2) C dX3_pays_218 (by decide) ?_
      refine e_icmp_le (tgt := 227) C dX3_pays_219 (by decide) (fun c_219 => absurd c_219 (by decide)) (fun c_219 => ?_)
      refine e_iload (j := 1) C dX3_pays_222 rfl ?_
      refine e_goto (tgt := 228) C dX3_pays_224 (by decide) ?_
      refine e_iadd C dX3_pays_228 ?_
      refine e_topi (fun x6_229 ex6_229 => ?_)
      refine e_istore (ls2 := [(6, .int x6_229), (4, .int x4_170), (10, .int 0), (9, .int 0), (8, .int 5), (7, .int pl), (5, .int rent), (2, .long wg), (0, .ref (ρ 9)), (1, .int (nI k))]) C hnL dX3_pays_229 (by decide) rfl ?_
      refine e_iload (j := 5) C dX3_pays_231 rfl ?_
      refine e_bipush (v := 10) C dX3_pays_233 (by decide) ?_
      refine e_idiv C dX3_pays_235 (by decide) ?_
      refine e_topi (fun x7_236 ex7_236 => ?_)
      refine e_istore (ls2 := [(7, .int x7_236), (6, .int x6_229), (4, .int x4_170), (10, .int 0), (9, .int 0), (8, .int 5), (5, .int rent), (2, .long wg), (0, .ref (ρ 9)), (1, .int (nI k))]) C hnL dX3_pays_236 (by decide) rfl ?_
      refine e_goto (tgt := 75) C dX3_pays_238 (by decide) ?_
      have hdue : psD M k rent 5 = 0 := by show (if spM M = 0 then M 15 k else 0 : Int32) = _; (repeat (first | rw [if_neg c_94] | rw [if_neg c_100] | rw [if_neg c_107] | rw [if_neg c_153] | rw [if_neg c_182] | rw [if_pos c_203] | rw [if_neg c_219])); (try rfl)
      have htk : psX (psD M k rent 5) lf = 0 := by rw [hdue]; unfold psX; (repeat (first | rw [if_neg c_94] | rw [if_neg c_100] | rw [if_neg c_107] | rw [if_neg c_153] | rw [if_neg c_182] | rw [if_pos c_203] | rw [if_neg c_219]))
      rw [htk] at hE
      unfold psB psA at hE
      subst ex7_236 ex6_229 ex4_170
      exact e_sub [0, 1, 6, 2, 7, 8, 9] rfl hE
