/-! The law's deaths, strikes, closing. -/
def dd0 (M : Mem) (k : Nat) : Mem := up M 9 (12 * k) 0
/-- an issue goes -/
def dh1 (N : Mem) (k i : Nat) : Mem := up N 10 (12 * k + i) 0
def dh2 (N : Mem) (k i : Nat) : Mem := up (dh1 N k i) 9 (12 * k + 11) (dh1 N k i 9 (12 * k + 11) + N 10 (12 * k + i))
def dh3 (N : Mem) (k h i : Nat) : Mem := up (dh2 N k i) 10 (12 * h + i) (dh2 N k i 10 (12 * h + i) + N 10 (12 * k + i))
def dh4 (N : Mem) (k h i : Nat) : Mem := up (dh3 N k h i) 9 (12 * h + 10) (dh3 N k h i 9 (12 * h + 10) + N 10 (12 * k + i))
def dn3 (N : Mem) (k i : Nat) : Mem := up (dh2 N k i) 12 29 (dh2 N k i 12 29 + N 10 (12 * k + i))
def dhS (N : Mem) (k h : Nat) : Nat → Mem
  | 0 => N
  | i + 1 => dh4 (dhS N k h i) k h i
def dnS (N : Mem) (k : Nat) : Nat → Mem
  | 0 => N
  | i + 1 => dn3 (dnS N k i) k i
def dgS (N : Mem) (k h : Nat) : Nat → Mem
  | 0 => N
  | j + 1 => up (dgS N k h j) 11 (4 * h + j) (dgS N k h j 11 (4 * h + j) + dgS N k h j 11 (4 * k + j))
/-- coin, debt, arrears: j from 2 on -/
def dcS (N : Mem) (k h : Nat) : Nat → Mem
  | 0 => N
  | j + 1 => up (dcS N k h j) 9 (12 * h + (j + 2)) (dcS N k h j 9 (12 * h + (j + 2)) + (if nI (j + 2) = 2 then dcS N k h j 9 (12 * k + (j + 2)) else if dcS N k h j 12 19 &&& 4 = 0 then dcS N k h j 9 (12 * k + (j + 2)) else 0))
def dzS (N : Mem) (k : Nat) : Nat → Mem
  | 0 => N
  | j + 1 => up (up (dzS N k j) 9 (12 * k + (j + 1)) 0) 11 (4 * k + (j + 1) % 4) 0
def ddH (M : Mem) (k h : Nat) : Mem := dzS (dcS (dgS (dhS (dd0 M k) k h 12) k h 4) k h 3) k 5
def ddN (M : Mem) (k : Nat) : Mem := dzS (dnS (dd0 M k) k 12) k 5
set_option maxRecDepth 100000 in
set_option maxHeartbeats 1000000 in
theorem L_isDead_0 {l : Launch} (hl : l.stackTraces = false) {ρ : Nat → Nat} {J : Nat → Int64} {M : Mem} {k : Nat} (hk : k < 5) (h : M 9 (12 * k) = 0) : CtO l yL_isDead cL_isDead 10 (some .boolean) 10 13 78 5 ρ J M [.ref (ρ 0), .ref (ρ 9), .ref (ρ 10), .ref (ρ 11), .ref (ρ 12), .int (nI k)] (rI 1 M) := by
  refine CtO.of hl (by decide +kernel) (Nat.le_of_ble_eq_true rfl) (fun Ξ hnL C => ?_)
  show E Ξ 5 ρ J M 0 0 0 [(0, .ref (ρ 0)), (1, .ref (ρ 9)), (2, .ref (ρ 10)), (3, .ref (ρ 11)), (4, .ref (ρ 12)), (5, .int (nI k))] []
  refine e_bipush (v := 12) C dL_isDead_0 (by decide) ?_
  refine e_iload (j := 5) C dL_isDead_2 rfl ?_
  refine e_imulN 12 k (12 * k) C rfl rfl rfl dL_isDead_4 ?_
  refine e_istore (ls2 := [(6, .int (nI (12 * k))), (0, .ref (ρ 0)), (1, .ref (ρ 9)), (2, .ref (ρ 10)), (3, .ref (ρ 11)), (4, .ref (ρ 12)), (5, .int (nI k))]) C hnL dL_isDead_5 (by decide) rfl ?_
  refine e_aload_n (j := 2) C dL_isDead_7 rfl rfl ?_
  refine e_iload (j := 0) C dL_isDead_8 rfl ?_
  refine e_ialdN (12 * k) C (cnt_fix (by decide)) (fun _ => rfl) rfl (by omega) (by decide) dL_isDead_10 ?_
  refine e_if_ne (tgt := 16) C dL_isDead_11 (by decide) (fun c_11 => absurd h c_11) (fun c_11 => ?_)
  refine e_iconst (v := 1) C dL_isDead_14 (by decide) ?_
  exact e_zret C rfl rfl (Nat.le_of_ble_eq_true rfl) (Nat.le_of_ble_eq_true rfl) dL_isDead_15 (pO.mk rfl)
set_option maxRecDepth 100000 in
set_option maxHeartbeats 1000000 in
theorem L_isDead_H {l : Launch} (hl : l.stackTraces = false) {ρ : Nat → Nat} {J : Nat → Int64} {M : Mem} {k : Nat} (hk : k < 5) (h1 : ¬ M 9 (12 * k) = 0) (hkin : kinL (dd0 M k)) {h : Nat} (hh : h < 5) (hhe : heL (dd0 M k) 5 (dd0 M k 9 (12 * k + 8) - 1) = nI h) {K : Mem} (hki : ∀ q, q < 5 → kinOk 5 ((ddH M k h) (mO q) 3)) (hcall : o_die (ddH M k h) 5 k = rI (nI h) K) : CtO l yL_isDead cL_isDead 10 (some .boolean) 10 13 78 5 ρ J M [.ref (ρ 0), .ref (ρ 9), .ref (ρ 10), .ref (ρ 11), .ref (ρ 12), .int (nI k)] (rI 1 K) := by
  refine CtO.of hl (by decide +kernel) (Nat.le_of_ble_eq_true rfl) (fun Ξ hnL C => ?_)
  show E Ξ 5 ρ J M 0 0 0 [(0, .ref (ρ 0)), (1, .ref (ρ 9)), (2, .ref (ρ 10)), (3, .ref (ρ 11)), (4, .ref (ρ 12)), (5, .int (nI k))] []
  have fin : E Ξ 5 ρ J (ddH M k h) 0 0 265 [(8, .int 6), (7, .int (nI h)), (6, .int (nI (12 * k))), (0, .ref (ρ 0)), (1, .ref (ρ 9)), (2, .ref (ρ 10)), (3, .ref (ρ 11)), (4, .ref (ρ 12)), (5, .int (nI k))] [] := by
    refine e_aload_n (j := 3) C dL_isDead_265 rfl rfl ?_
    refine e_iload (j := 8) C dL_isDead_266 rfl ?_
    refine e_cV (i := 0) (nA := 1) (Cn := RX2) C (c_X2_die hl hk (by omega) hki) hcall (cnt_fix (by decide)) (fun _ => rfl) rfl rfl mw_418 mw_415 mw_416 mw_417 mw_12 (by decide +kernel) (by decide) rfl rfl (Nat.le_of_ble_eq_true rfl) dL_isDead_268 (Nat.le_of_ble_eq_true rfl) (Nat.le_of_ble_eq_true rfl) ?_
    refine e_iload (j := 1) C dL_isDead_271 rfl ?_
    refine e_icmp_ne (tgt := 280) C dL_isDead_273 (by decide) (fun c_273 => absurd rfl c_273) (fun c_273 => ?_)
    refine e_iconst (v := 1) C dL_isDead_276 (by decide) ?_
    refine e_goto (tgt := 281) C dL_isDead_277 (by decide) ?_
    exact e_zret C rfl rfl (Nat.le_of_ble_eq_true rfl) (Nat.le_of_ble_eq_true rfl) dL_isDead_281 (pO.mk rfl)
  have lz : ∀ (f j : Nat) (T : Mem), j + f = 5 → T = dzS (dcS (dgS (dhS (dd0 M k) k h 12) k h 4) k h 3) k j → E Ξ 5 ρ J T 0 0 232 [(8, .int (nI (j + 1))), (7, .int (nI h)), (6, .int (nI (12 * k))), (0, .ref (ρ 0)), (1, .ref (ρ 9)), (2, .ref (ρ 10)), (3, .ref (ρ 11)), (4, .ref (ρ 12)), (5, .int (nI k))] [] := by
    intro f
    induction f with
    | zero =>
      intro j T hj hT
      have hj2 : j = 5 := by omega
      subst hj2
      refine e_iload (j := 0) C dL_isDead_232 rfl ?_
      refine e_bipush (v := 6) C dL_isDead_234 (by decide) ?_
      refine e_icmp_ge (tgt := 265) C dL_isDead_236 (by decide) (fun c_236 => ?_) (fun c_236 => absurd ((nI_leI (a := 6) (b := (5 + 1)) (by omega) (by omega)).mpr (by omega)) c_236)
      rw [show T = (ddH M k h) from hT]
      exact fin
    | succ f ih =>
      intro j T hj hT
      refine e_iload (j := 0) C dL_isDead_232 rfl ?_
      refine e_bipush (v := 6) C dL_isDead_234 (by decide) ?_
      refine e_icmp_ge (tgt := 265) C dL_isDead_236 (by decide) (fun c_236 => absurd ((nI_leI (a := 6) (b := (j + 1)) (by omega) (by omega)).mp c_236) (by omega)) (fun c_236 => ?_)
      refine e_aload_n (j := 4) C dL_isDead_239 rfl rfl ?_
      refine e_iload (j := 2) C dL_isDead_240 rfl ?_
      refine e_iload (j := 0) C dL_isDead_242 rfl ?_
      refine e_iaddN (12 * k) (j + 1) (12 * k + (j + 1)) C rfl rfl rfl dL_isDead_244 ?_
      refine e_iconst (v := 0) C dL_isDead_245 (by decide) ?_
      refine e_iastN (12 * k + (j + 1)) C (cnt_fix (by decide)) (fun _ _ => rfl) rfl (by omega) (by decide) dL_isDead_246 ?_
      refine e_topM (fun M_246 hM_246 => ?_)
      refine e_aload_n (j := 6) C dL_isDead_247 rfl rfl ?_
      refine e_iconst (v := 4) C dL_isDead_248 (by decide) ?_
      refine e_iload (j := 8) C dL_isDead_249 rfl ?_
      refine e_imulN 4 k (4 * k) C rfl rfl rfl dL_isDead_251 ?_
      refine e_iload (j := 0) C dL_isDead_252 rfl ?_
      refine e_iconst (v := 4) C dL_isDead_254 (by decide) ?_
      refine e_iremN (j + 1) 4 ((j + 1) % 4) C rfl rfl (by omega) (by omega) (by omega) rfl dL_isDead_255 ?_
      refine e_iaddN (4 * k) ((j + 1) % 4) (4 * k + ((j + 1) % 4)) C rfl rfl rfl dL_isDead_256 ?_
      refine e_iconst (v := 0) C dL_isDead_257 (by decide) ?_
      refine e_iastN (4 * k + ((j + 1) % 4)) C (cnt_fix (by decide)) (fun _ _ => rfl) rfl (by omega) (by decide) dL_isDead_258 ?_
      refine e_topM (fun M_258 hM_258 => ?_)
      refine e_iinc (j := 0) (v := (nI (j + 1 + 1))) (ls2 := [(8, .int (nI (j + 1 + 1))), (7, .int (nI h)), (6, .int (nI (12 * k))), (0, .ref (ρ 0)), (1, .ref (ρ 9)), (2, .ref (ρ 10)), (3, .ref (ρ 11)), (4, .ref (ρ 12)), (5, .int (nI k))]) C hnL dL_isDead_259 rfl (nI_add (j + 1) 1) (by decide) rfl ?_
      refine e_goto (tgt := 232) C dL_isDead_262 (by decide) ?_
      exact e_sub [0, 1, 2, 3, 4, 5, 6, 7, 8] rfl (ih (j + 1) _ (by omega) (by rw [hM_258, hM_246, hT]; rfl))
  have lc : ∀ (f j : Nat) (T : Mem), j + f = 3 → T = dcS (dgS (dhS (dd0 M k) k h 12) k h 4) k h j → E Ξ 5 ρ J T 0 0 172 [(8, .int (nI (j + 2))), (7, .int (nI h)), (6, .int (nI (12 * k))), (0, .ref (ρ 0)), (1, .ref (ρ 9)), (2, .ref (ρ 10)), (3, .ref (ρ 11)), (4, .ref (ρ 12)), (5, .int (nI k))] [] := by
    intro f
    induction f with
    | zero =>
      intro j T hj hT
      have hj2 : j = 3 := by omega
      subst hj2
      refine e_iload (j := 0) C dL_isDead_172 rfl ?_
      refine e_iconst (v := 5) C dL_isDead_174 (by decide) ?_
      refine e_icmp_ge (tgt := 229) C dL_isDead_175 (by decide) (fun c_175 => ?_) (fun c_175 => absurd ((nI_leI (a := 5) (b := (3 + 2)) (by omega) (by omega)).mpr (by omega)) c_175)
      refine e_iconst (v := 1) C dL_isDead_229 (by decide) ?_
      refine e_istore (ls2 := [(8, .int 1), (7, .int (nI h)), (6, .int (nI (12 * k))), (0, .ref (ρ 0)), (1, .ref (ρ 9)), (2, .ref (ρ 10)), (3, .ref (ρ 11)), (4, .ref (ρ 12)), (5, .int (nI k))]) C hnL dL_isDead_230 (by decide) rfl ?_
      exact e_sub [0, 1, 2, 3, 4, 5, 6, 7, 8] rfl (lz 5 0 T (by omega) hT)
    | succ f ih =>
      intro j T hj hT
      refine e_iload (j := 0) C dL_isDead_172 rfl ?_
      refine e_iconst (v := 5) C dL_isDead_174 (by decide) ?_
      refine e_icmp_ge (tgt := 229) C dL_isDead_175 (by decide) (fun c_175 => absurd ((nI_leI (a := 5) (b := (j + 2)) (by omega) (by omega)).mp c_175) (by omega)) (fun c_175 => ?_)
      refine e_iload (j := 1) C dL_isDead_178 rfl ?_
      refine e_if_lt (tgt := 229) C dL_isDead_180 (by decide) (fun c_180 => absurd ((nI_ltI (a := h) (b := 0) (by omega) (by omega)).mp c_180) (by omega)) (fun c_180 => ?_)
      refine e_aload_n (j := 4) C dL_isDead_183 rfl rfl ?_
      refine e_bipush (v := 12) C dL_isDead_184 (by decide) ?_
      refine e_iload (j := 1) C dL_isDead_186 rfl ?_
      refine e_imulN 12 h (12 * h) C rfl rfl rfl dL_isDead_188 ?_
      refine e_iload (j := 0) C dL_isDead_189 rfl ?_
      refine e_iaddN (12 * h) (j + 2) (12 * h + (j + 2)) C rfl rfl rfl dL_isDead_191 ?_
      refine e_dup2 C dL_isDead_192 rfl rfl ?_
      refine e_ialdN (12 * h + (j + 2)) C (cnt_fix (by decide)) (fun _ => rfl) rfl (by omega) (by decide) dL_isDead_193 ?_
      refine e_iload (j := 0) C dL_isDead_194 rfl ?_
      refine e_iconst (v := 2) C dL_isDead_196 (by decide) ?_
      suffices hJ_221 : ∀ v_221 : Int32, v_221 = (if (nI (j + 2)) = 2 then (T 9 (12 * k + (j + 2))) else (if ((T 12 19) &&& 4) = 0 then (T 9 (12 * k + (j + 2))) else 0)) → E Ξ 5 ρ J T 0 0 221 [(8, .int (nI (j + 2))), (7, .int (nI h)), (6, .int (nI (12 * k))), (0, .ref (ρ 0)), (1, .ref (ρ 9)), (2, .ref (ρ 10)), (3, .ref (ρ 11)), (4, .ref (ρ 12)), (5, .int (nI k))] (.int v_221 :: .int (T 9 (12 * h + (j + 2))) :: .int (nI (12 * h + (j + 2))) :: .ref (ρ 9) :: []) by
        refine e_icmp_eq (tgt := 210) C dL_isDead_197 (by decide) (fun c_197 => ?_) (fun c_197 => ?_)
        · have n_197 : (j + 2) = 2 := (nI_eq (a := (j + 2)) (b := 2) (by omega) (by omega)).mp c_197
          refine e_aload_n (j := 4) C dL_isDead_210 rfl rfl ?_
          refine e_iload (j := 2) C dL_isDead_211 rfl ?_
          refine e_iload (j := 0) C dL_isDead_213 rfl ?_
          refine e_iaddN (12 * k) (j + 2) (12 * k + (j + 2)) C rfl rfl rfl dL_isDead_215 ?_
          refine e_ialdN (12 * k + (j + 2)) C (cnt_fix (by decide)) (fun _ => rfl) rfl (by omega) (by decide) dL_isDead_216 ?_
          refine e_goto (tgt := 221) C dL_isDead_217 (by decide) ?_
          exact hJ_221 _ (by rw [if_pos c_197])
        · have n_197 : ¬ ((j + 2) = 2) := fun h => c_197 ((nI_eq (a := (j + 2)) (b := 2) (by omega) (by omega)).mpr h)
          refine e_aload (j := 7) C dL_isDead_200 rfl ?_
          refine e_bipush (v := 19) C dL_isDead_202 (by decide) ?_
          refine e_ialdN 19 C (cnt_fix (by decide)) (fun _ => rfl) rfl (by decide) (by decide) dL_isDead_204 ?_
          refine e_iconst (v := 4) C dL_isDead_205 (by decide) ?_
          refine e_iand C dL_isDead_206 ?_
          refine e_if_ne (tgt := 220) C dL_isDead_207 (by decide) (fun c_207 => ?_) (fun c_207 => ?_)
          · refine e_iconst (v := 0) C dL_isDead_220 (by decide) ?_
            exact hJ_221 _ (by rw [if_neg c_197, if_neg c_207])
          · refine e_aload_n (j := 4) C dL_isDead_210 rfl rfl ?_
            refine e_iload (j := 2) C dL_isDead_211 rfl ?_
            refine e_iload (j := 0) C dL_isDead_213 rfl ?_
            refine e_iaddN (12 * k) (j + 2) (12 * k + (j + 2)) C rfl rfl rfl dL_isDead_215 ?_
            refine e_ialdN (12 * k + (j + 2)) C (cnt_fix (by decide)) (fun _ => rfl) rfl (by omega) (by decide) dL_isDead_216 ?_
            refine e_goto (tgt := 221) C dL_isDead_217 (by decide) ?_
            exact hJ_221 _ (by rw [if_neg c_197, if_pos c_207])
      intro v_221 hv_221
      refine e_iadd C dL_isDead_221 ?_
      refine e_iastN (12 * h + (j + 2)) C (cnt_fix (by decide)) (fun _ _ => rfl) rfl (by omega) (by decide) dL_isDead_222 ?_
      refine e_topM (fun M_222 hM_222 => ?_)
      refine e_iinc (j := 0) (v := (nI (j + 2 + 1))) (ls2 := [(8, .int (nI (j + 2 + 1))), (7, .int (nI h)), (6, .int (nI (12 * k))), (0, .ref (ρ 0)), (1, .ref (ρ 9)), (2, .ref (ρ 10)), (3, .ref (ρ 11)), (4, .ref (ρ 12)), (5, .int (nI k))]) C hnL dL_isDead_223 rfl (nI_add (j + 2) 1) (by decide) rfl ?_
      refine e_goto (tgt := 172) C dL_isDead_226 (by decide) ?_
      exact e_sub [0, 1, 2, 3, 4, 5, 6, 7, 8] rfl (ih (j + 1) _ (by omega) (by rw [hM_222, hv_221, hT]; rfl))
  have lg : ∀ (f j : Nat) (T : Mem), j + f = 4 → T = dgS (dhS (dd0 M k) k h 12) k h j → E Ξ 5 ρ J T 0 0 131 [(8, .int (nI j)), (7, .int (nI h)), (6, .int (nI (12 * k))), (0, .ref (ρ 0)), (1, .ref (ρ 9)), (2, .ref (ρ 10)), (3, .ref (ρ 11)), (4, .ref (ρ 12)), (5, .int (nI k))] [] := by
    intro f
    induction f with
    | zero =>
      intro j T hj hT
      have hj2 : j = 4 := by omega
      subst hj2
      refine e_iload (j := 0) C dL_isDead_131 rfl ?_
      refine e_iconst (v := 4) C dL_isDead_133 (by decide) ?_
      refine e_icmp_ge (tgt := 169) C dL_isDead_134 (by decide) (fun c_134 => ?_) (fun c_134 => absurd ((nI_leI (a := 4) (b := 4) (by omega) (by omega)).mpr (by omega)) c_134)
      refine e_iconst (v := 2) C dL_isDead_169 (by decide) ?_
      refine e_istore (ls2 := [(8, .int 2), (7, .int (nI h)), (6, .int (nI (12 * k))), (0, .ref (ρ 0)), (1, .ref (ρ 9)), (2, .ref (ρ 10)), (3, .ref (ρ 11)), (4, .ref (ρ 12)), (5, .int (nI k))]) C hnL dL_isDead_170 (by decide) rfl ?_
      exact e_sub [0, 1, 2, 3, 4, 5, 6, 7, 8] rfl (lc 3 0 T (by omega) hT)
    | succ f ih =>
      intro j T hj hT
      refine e_iload (j := 0) C dL_isDead_131 rfl ?_
      refine e_iconst (v := 4) C dL_isDead_133 (by decide) ?_
      refine e_icmp_ge (tgt := 169) C dL_isDead_134 (by decide) (fun c_134 => absurd ((nI_leI (a := 4) (b := j) (by omega) (by omega)).mp c_134) (by omega)) (fun c_134 => ?_)
      refine e_iload (j := 1) C dL_isDead_137 rfl ?_
      refine e_if_lt (tgt := 169) C dL_isDead_139 (by decide) (fun c_139 => absurd ((nI_ltI (a := h) (b := 0) (by omega) (by omega)).mp c_139) (by omega)) (fun c_139 => ?_)
      refine e_aload_n (j := 6) C dL_isDead_142 rfl rfl ?_
      refine e_iconst (v := 4) C dL_isDead_143 (by decide) ?_
      refine e_iload (j := 1) C dL_isDead_144 rfl ?_
      refine e_imulN 4 h (4 * h) C rfl rfl rfl dL_isDead_146 ?_
      refine e_iload (j := 0) C dL_isDead_147 rfl ?_
      refine e_iaddN (4 * h) j (4 * h + j) C rfl rfl rfl dL_isDead_149 ?_
      refine e_dup2 C dL_isDead_150 rfl rfl ?_
      refine e_ialdN (4 * h + j) C (cnt_fix (by decide)) (fun _ => rfl) rfl (by omega) (by decide) dL_isDead_151 ?_
      refine e_aload_n (j := 6) C dL_isDead_152 rfl rfl ?_
      refine e_iconst (v := 4) C dL_isDead_153 (by decide) ?_
      refine e_iload (j := 8) C dL_isDead_154 rfl ?_
      refine e_imulN 4 k (4 * k) C rfl rfl rfl dL_isDead_156 ?_
      refine e_iload (j := 0) C dL_isDead_157 rfl ?_
      refine e_iaddN (4 * k) j (4 * k + j) C rfl rfl rfl dL_isDead_159 ?_
      refine e_ialdN (4 * k + j) C (cnt_fix (by decide)) (fun _ => rfl) rfl (by omega) (by decide) dL_isDead_160 ?_
      refine e_iadd C dL_isDead_161 ?_
      refine e_iastN (4 * h + j) C (cnt_fix (by decide)) (fun _ _ => rfl) rfl (by omega) (by decide) dL_isDead_162 ?_
      refine e_topM (fun M_162 hM_162 => ?_)
      refine e_iinc (j := 0) (v := (nI (j + 1))) (ls2 := [(8, .int (nI (j + 1))), (7, .int (nI h)), (6, .int (nI (12 * k))), (0, .ref (ρ 0)), (1, .ref (ρ 9)), (2, .ref (ρ 10)), (3, .ref (ρ 11)), (4, .ref (ρ 12)), (5, .int (nI k))]) C hnL dL_isDead_163 rfl (nI_add (j) 1) (by decide) rfl ?_
      refine e_goto (tgt := 131) C dL_isDead_166 (by decide) ?_
      exact e_sub [0, 1, 2, 3, 4, 5, 6, 7, 8] rfl (ih (j + 1) _ (by omega) (by rw [hM_162, hT]; rfl))
  have li : ∀ (f j : Nat) (T : Mem), j + f = 12 → T = dhS (dd0 M k) k h j → E Ξ 5 ρ J T 0 0 32 [(8, .int (nI j)), (7, .int (nI h)), (6, .int (nI (12 * k))), (0, .ref (ρ 0)), (1, .ref (ρ 9)), (2, .ref (ρ 10)), (3, .ref (ρ 11)), (4, .ref (ρ 12)), (5, .int (nI k))] [] := by
    intro f
    induction f with
    | zero =>
      intro j T hj hT
      have hj2 : j = 12 := by omega
      subst hj2
      refine e_iload (j := 0) C dL_isDead_32 rfl ?_
      refine e_bipush (v := 12) C dL_isDead_34 (by decide) ?_
      refine e_icmp_ge (tgt := 128) C dL_isDead_36 (by decide) (fun c_36 => ?_) (fun c_36 => absurd ((nI_leI (a := 12) (b := 12) (by omega) (by omega)).mpr (by omega)) c_36)
      refine e_iconst (v := 0) C dL_isDead_128 (by decide) ?_
      refine e_istore (ls2 := [(8, .int 0), (7, .int (nI h)), (6, .int (nI (12 * k))), (0, .ref (ρ 0)), (1, .ref (ρ 9)), (2, .ref (ρ 10)), (3, .ref (ρ 11)), (4, .ref (ρ 12)), (5, .int (nI k))]) C hnL dL_isDead_129 (by decide) rfl ?_
      exact e_sub [0, 1, 2, 3, 4, 5, 6, 7, 8] rfl (lg 4 0 T (by omega) hT)
    | succ f ih =>
      intro j T hj hT
      refine e_iload (j := 0) C dL_isDead_32 rfl ?_
      refine e_bipush (v := 12) C dL_isDead_34 (by decide) ?_
      refine e_icmp_ge (tgt := 128) C dL_isDead_36 (by decide) (fun c_36 => absurd ((nI_leI (a := 12) (b := j) (by omega) (by omega)).mp c_36) (by omega)) (fun c_36 => ?_)
      refine e_aload_n (j := 5) C dL_isDead_39 rfl rfl ?_
      refine e_bipush (v := 12) C dL_isDead_40 (by decide) ?_
      refine e_iload (j := 8) C dL_isDead_42 rfl ?_
      refine e_imulN 12 k (12 * k) C rfl rfl rfl dL_isDead_44 ?_
      refine e_iload (j := 0) C dL_isDead_45 rfl ?_
      refine e_iaddN (12 * k) j (12 * k + j) C rfl rfl rfl dL_isDead_47 ?_
      refine e_ialdN (12 * k + j) C (cnt_fix (by decide)) (fun _ => rfl) rfl (by omega) (by decide) dL_isDead_48 ?_
      refine e_topi (fun x9_49 ex9_49 => ?_)
      refine e_istore (ls2 := [(9, .int x9_49), (8, .int (nI j)), (7, .int (nI h)), (6, .int (nI (12 * k))), (0, .ref (ρ 0)), (1, .ref (ρ 9)), (2, .ref (ρ 10)), (3, .ref (ρ 11)), (4, .ref (ρ 12)), (5, .int (nI k))]) C hnL dL_isDead_49 (by decide) rfl ?_
      refine e_aload_n (j := 6) C dL_isDead_51 rfl rfl ?_
      refine e_bipush (v := 12) C dL_isDead_52 (by decide) ?_
      refine e_iload (j := 9) C dL_isDead_54 rfl ?_
      refine e_imulN 12 k (12 * k) C rfl rfl rfl dL_isDead_56 ?_
      refine e_iload (j := 1) C dL_isDead_57 rfl ?_
      refine e_iaddN (12 * k) j (12 * k + j) C rfl rfl rfl dL_isDead_59 ?_
      refine e_iconst (v := 0) C dL_isDead_60 (by decide) ?_
      refine e_iastN (12 * k + j) C (cnt_fix (by decide)) (fun _ _ => rfl) rfl (by omega) (by decide) dL_isDead_61 ?_
      refine e_topM (fun M_61 hM_61 => ?_)
      refine e_aload_n (j := 5) C dL_isDead_62 rfl rfl ?_
      refine e_iload (j := 3) C dL_isDead_63 rfl ?_
      refine e_bipush (v := 11) C dL_isDead_65 (by decide) ?_
      refine e_iaddN (12 * k) 11 (12 * k + 11) C rfl rfl rfl dL_isDead_67 ?_
      refine e_dup2 C dL_isDead_68 rfl rfl ?_
      refine e_ialdN (12 * k + 11) C (cnt_fix (by decide)) (fun _ => rfl) rfl (by omega) (by decide) dL_isDead_69 ?_
      refine e_iload (j := 0) C dL_isDead_70 rfl ?_
      refine e_iadd C dL_isDead_72 ?_
      refine e_iastN (12 * k + 11) C (cnt_fix (by decide)) (fun _ _ => rfl) rfl (by omega) (by decide) dL_isDead_73 ?_
      refine e_topM (fun M_73 hM_73 => ?_)
      refine e_iload (j := 2) C dL_isDead_74 rfl ?_
      refine e_if_lt (tgt := 112) C dL_isDead_76 (by decide) (fun c_76 => absurd ((nI_ltI (a := h) (b := 0) (by omega) (by omega)).mp c_76) (by omega)) (fun c_76 => ?_)
      refine e_aload_n (j := 6) C dL_isDead_79 rfl rfl ?_
      refine e_bipush (v := 12) C dL_isDead_80 (by decide) ?_
      refine e_iload (j := 2) C dL_isDead_82 rfl ?_
      refine e_imulN 12 h (12 * h) C rfl rfl rfl dL_isDead_84 ?_
      refine e_iload (j := 1) C dL_isDead_85 rfl ?_
      refine e_iaddN (12 * h) j (12 * h + j) C rfl rfl rfl dL_isDead_87 ?_
      refine e_dup2 C dL_isDead_88 rfl rfl ?_
      refine e_ialdN (12 * h + j) C (cnt_fix (by decide)) (fun _ => rfl) rfl (by omega) (by decide) dL_isDead_89 ?_
      refine e_iload (j := 0) C dL_isDead_90 rfl ?_
      refine e_iadd C dL_isDead_92 ?_
      refine e_iastN (12 * h + j) C (cnt_fix (by decide)) (fun _ _ => rfl) rfl (by omega) (by decide) dL_isDead_93 ?_
      refine e_topM (fun M_93 hM_93 => ?_)
      refine e_aload_n (j := 5) C dL_isDead_94 rfl rfl ?_
      refine e_bipush (v := 12) C dL_isDead_95 (by decide) ?_
      refine e_iload (j := 2) C dL_isDead_97 rfl ?_
      refine e_imulN 12 h (12 * h) C rfl rfl rfl dL_isDead_99 ?_
      refine e_bipush (v := 10) C dL_isDead_100 (by decide) ?_
      refine e_iaddN (12 * h) 10 (12 * h + 10) C rfl rfl rfl dL_isDead_102 ?_
      refine e_dup2 C dL_isDead_103 rfl rfl ?_
      refine e_ialdN (12 * h + 10) C (cnt_fix (by decide)) (fun _ => rfl) rfl (by omega) (by decide) dL_isDead_104 ?_
      refine e_iload (j := 0) C dL_isDead_105 rfl ?_
      refine e_iadd C dL_isDead_107 ?_
      refine e_iastN (12 * h + 10) C (cnt_fix (by decide)) (fun _ _ => rfl) rfl (by omega) (by decide) dL_isDead_108 ?_
      refine e_topM (fun M_108 hM_108 => ?_)
      refine e_goto (tgt := 122) C dL_isDead_109 (by decide) ?_
      refine e_iinc (j := 1) (v := (nI (j + 1))) (ls2 := [(8, .int (nI (j + 1))), (9, .int x9_49), (7, .int (nI h)), (6, .int (nI (12 * k))), (0, .ref (ρ 0)), (1, .ref (ρ 9)), (2, .ref (ρ 10)), (3, .ref (ρ 11)), (4, .ref (ρ 12)), (5, .int (nI k))]) C hnL dL_isDead_122 rfl (nI_add (j) 1) (by decide) rfl ?_
      refine e_goto (tgt := 32) C dL_isDead_125 (by decide) ?_
      exact e_sub [0, 2, 3, 4, 5, 6, 7, 8, 9] rfl (ih (j + 1) _ (by omega) (by rw [hM_108, hM_93, hM_73, hM_61, ex9_49, hT]; rfl))
  refine e_bipush (v := 12) C dL_isDead_0 (by decide) ?_
  refine e_iload (j := 5) C dL_isDead_2 rfl ?_
  refine e_imulN 12 k (12 * k) C rfl rfl rfl dL_isDead_4 ?_
  refine e_istore (ls2 := [(6, .int (nI (12 * k))), (0, .ref (ρ 0)), (1, .ref (ρ 9)), (2, .ref (ρ 10)), (3, .ref (ρ 11)), (4, .ref (ρ 12)), (5, .int (nI k))]) C hnL dL_isDead_5 (by decide) rfl ?_
  refine e_aload_n (j := 2) C dL_isDead_7 rfl rfl ?_
  refine e_iload (j := 0) C dL_isDead_8 rfl ?_
  refine e_ialdN (12 * k) C (cnt_fix (by decide)) (fun _ => rfl) rfl (by omega) (by decide) dL_isDead_10 ?_
  refine e_if_ne (tgt := 16) C dL_isDead_11 (by decide) (fun c_11 => ?_) (fun c_11 => absurd c_11 h1)
  refine e_aload_n (j := 2) C dL_isDead_16 rfl rfl ?_
  refine e_iload (j := 0) C dL_isDead_17 rfl ?_
  refine e_iconst (v := 0) C dL_isDead_19 (by decide) ?_
  refine e_iastN (12 * k) C (cnt_fix (by decide)) (fun _ _ => rfl) rfl (by omega) (by decide) dL_isDead_20 ?_
  refine e_topM (fun M_20 hM_20 => ?_)
  refine e_aload_n (j := 2) C dL_isDead_21 rfl rfl ?_
  refine e_iload (j := 6) C dL_isDead_22 rfl ?_
  rw [show M_20 = dd0 M k from hM_20]
  refine e_cS (nA := 2) C (L_heir hl hk hkin) rfl mw_414 mw_412 mw_413 mw_2 (by decide +kernel) (by decide) rfl rfl (Nat.le_of_ble_eq_true rfl) dL_isDead_24 (Nat.le_of_ble_eq_true rfl) (Nat.le_of_ble_eq_true rfl) ?_
  rw [hhe]
  refine e_istore (ls2 := [(7, .int (nI h)), (6, .int (nI (12 * k))), (0, .ref (ρ 0)), (1, .ref (ρ 9)), (2, .ref (ρ 10)), (3, .ref (ρ 11)), (4, .ref (ρ 12)), (5, .int (nI k))]) C hnL dL_isDead_27 (by decide) rfl ?_
  refine e_iconst (v := 0) C dL_isDead_29 (by decide) ?_
  refine e_istore (ls2 := [(8, .int 0), (7, .int (nI h)), (6, .int (nI (12 * k))), (0, .ref (ρ 0)), (1, .ref (ρ 9)), (2, .ref (ρ 10)), (3, .ref (ρ 11)), (4, .ref (ρ 12)), (5, .int (nI k))]) C hnL dL_isDead_30 (by decide) rfl ?_
  exact e_sub [0, 1, 2, 3, 4, 5, 6, 7, 8] rfl (li 12 0 _ (by omega) rfl)
set_option maxRecDepth 100000 in
set_option maxHeartbeats 1000000 in
theorem L_isDead_N {l : Launch} (hl : l.stackTraces = false) {ρ : Nat → Nat} {J : Nat → Int64} {M : Mem} {k : Nat} (hk : k < 5) (h1 : ¬ M 9 (12 * k) = 0) (hkin : kinL (dd0 M k)) (hhe : heL (dd0 M k) 5 (dd0 M k 9 (12 * k + 8) - 1) = -1) {K : Mem} (hki : ∀ q, q < 5 → kinOk 5 ((ddN M k) (mO q) 3)) (hcall : o_die (ddN M k) 5 k = rI (-1) K) : CtO l yL_isDead cL_isDead 10 (some .boolean) 10 13 78 5 ρ J M [.ref (ρ 0), .ref (ρ 9), .ref (ρ 10), .ref (ρ 11), .ref (ρ 12), .int (nI k)] (rI 1 K) := by
  refine CtO.of hl (by decide +kernel) (Nat.le_of_ble_eq_true rfl) (fun Ξ hnL C => ?_)
  show E Ξ 5 ρ J M 0 0 0 [(0, .ref (ρ 0)), (1, .ref (ρ 9)), (2, .ref (ρ 10)), (3, .ref (ρ 11)), (4, .ref (ρ 12)), (5, .int (nI k))] []
  have fin : E Ξ 5 ρ J (ddN M k) 0 0 265 [(8, .int 6), (7, .int (-1)), (6, .int (nI (12 * k))), (0, .ref (ρ 0)), (1, .ref (ρ 9)), (2, .ref (ρ 10)), (3, .ref (ρ 11)), (4, .ref (ρ 12)), (5, .int (nI k))] [] := by
    refine e_aload_n (j := 3) C dL_isDead_265 rfl rfl ?_
    refine e_iload (j := 8) C dL_isDead_266 rfl ?_
    refine e_cV (i := 0) (nA := 1) (Cn := RX2) C (c_X2_die hl hk (by omega) hki) hcall (cnt_fix (by decide)) (fun _ => rfl) rfl rfl mw_418 mw_415 mw_416 mw_417 mw_12 (by decide +kernel) (by decide) rfl rfl (Nat.le_of_ble_eq_true rfl) dL_isDead_268 (Nat.le_of_ble_eq_true rfl) (Nat.le_of_ble_eq_true rfl) ?_
    refine e_iload (j := 1) C dL_isDead_271 rfl ?_
    refine e_icmp_ne (tgt := 280) C dL_isDead_273 (by decide) (fun c_273 => absurd rfl c_273) (fun c_273 => ?_)
    refine e_iconst (v := 1) C dL_isDead_276 (by decide) ?_
    refine e_goto (tgt := 281) C dL_isDead_277 (by decide) ?_
    exact e_zret C rfl rfl (Nat.le_of_ble_eq_true rfl) (Nat.le_of_ble_eq_true rfl) dL_isDead_281 (pO.mk rfl)
  have lz : ∀ (f j : Nat) (T : Mem), j + f = 5 → T = dzS (dnS (dd0 M k) k 12) k j → E Ξ 5 ρ J T 0 0 232 [(8, .int (nI (j + 1))), (7, .int (-1)), (6, .int (nI (12 * k))), (0, .ref (ρ 0)), (1, .ref (ρ 9)), (2, .ref (ρ 10)), (3, .ref (ρ 11)), (4, .ref (ρ 12)), (5, .int (nI k))] [] := by
    intro f
    induction f with
    | zero =>
      intro j T hj hT
      have hj2 : j = 5 := by omega
      subst hj2
      refine e_iload (j := 0) C dL_isDead_232 rfl ?_
      refine e_bipush (v := 6) C dL_isDead_234 (by decide) ?_
      refine e_icmp_ge (tgt := 265) C dL_isDead_236 (by decide) (fun c_236 => ?_) (fun c_236 => absurd ((nI_leI (a := 6) (b := (5 + 1)) (by omega) (by omega)).mpr (by omega)) c_236)
      rw [show T = (ddN M k) from hT]
      exact fin
    | succ f ih =>
      intro j T hj hT
      refine e_iload (j := 0) C dL_isDead_232 rfl ?_
      refine e_bipush (v := 6) C dL_isDead_234 (by decide) ?_
      refine e_icmp_ge (tgt := 265) C dL_isDead_236 (by decide) (fun c_236 => absurd ((nI_leI (a := 6) (b := (j + 1)) (by omega) (by omega)).mp c_236) (by omega)) (fun c_236 => ?_)
      refine e_aload_n (j := 4) C dL_isDead_239 rfl rfl ?_
      refine e_iload (j := 2) C dL_isDead_240 rfl ?_
      refine e_iload (j := 0) C dL_isDead_242 rfl ?_
      refine e_iaddN (12 * k) (j + 1) (12 * k + (j + 1)) C rfl rfl rfl dL_isDead_244 ?_
      refine e_iconst (v := 0) C dL_isDead_245 (by decide) ?_
      refine e_iastN (12 * k + (j + 1)) C (cnt_fix (by decide)) (fun _ _ => rfl) rfl (by omega) (by decide) dL_isDead_246 ?_
      refine e_topM (fun M_246 hM_246 => ?_)
      refine e_aload_n (j := 6) C dL_isDead_247 rfl rfl ?_
      refine e_iconst (v := 4) C dL_isDead_248 (by decide) ?_
      refine e_iload (j := 8) C dL_isDead_249 rfl ?_
      refine e_imulN 4 k (4 * k) C rfl rfl rfl dL_isDead_251 ?_
      refine e_iload (j := 0) C dL_isDead_252 rfl ?_
      refine e_iconst (v := 4) C dL_isDead_254 (by decide) ?_
      refine e_iremN (j + 1) 4 ((j + 1) % 4) C rfl rfl (by omega) (by omega) (by omega) rfl dL_isDead_255 ?_
      refine e_iaddN (4 * k) ((j + 1) % 4) (4 * k + ((j + 1) % 4)) C rfl rfl rfl dL_isDead_256 ?_
      refine e_iconst (v := 0) C dL_isDead_257 (by decide) ?_
      refine e_iastN (4 * k + ((j + 1) % 4)) C (cnt_fix (by decide)) (fun _ _ => rfl) rfl (by omega) (by decide) dL_isDead_258 ?_
      refine e_topM (fun M_258 hM_258 => ?_)
      refine e_iinc (j := 0) (v := (nI (j + 1 + 1))) (ls2 := [(8, .int (nI (j + 1 + 1))), (7, .int (-1)), (6, .int (nI (12 * k))), (0, .ref (ρ 0)), (1, .ref (ρ 9)), (2, .ref (ρ 10)), (3, .ref (ρ 11)), (4, .ref (ρ 12)), (5, .int (nI k))]) C hnL dL_isDead_259 rfl (nI_add (j + 1) 1) (by decide) rfl ?_
      refine e_goto (tgt := 232) C dL_isDead_262 (by decide) ?_
      exact e_sub [0, 1, 2, 3, 4, 5, 6, 7, 8] rfl (ih (j + 1) _ (by omega) (by rw [hM_258, hM_246, hT]; rfl))
  have li : ∀ (f j : Nat) (T : Mem), j + f = 12 → T = dnS (dd0 M k) k j → E Ξ 5 ρ J T 0 0 32 [(8, .int (nI j)), (7, .int (-1)), (6, .int (nI (12 * k))), (0, .ref (ρ 0)), (1, .ref (ρ 9)), (2, .ref (ρ 10)), (3, .ref (ρ 11)), (4, .ref (ρ 12)), (5, .int (nI k))] [] := by
    intro f
    induction f with
    | zero =>
      intro j T hj hT
      have hj2 : j = 12 := by omega
      subst hj2
      refine e_iload (j := 0) C dL_isDead_32 rfl ?_
      refine e_bipush (v := 12) C dL_isDead_34 (by decide) ?_
      refine e_icmp_ge (tgt := 128) C dL_isDead_36 (by decide) (fun c_36 => ?_) (fun c_36 => absurd ((nI_leI (a := 12) (b := 12) (by omega) (by omega)).mpr (by omega)) c_36)
      refine e_iconst (v := 0) C dL_isDead_128 (by decide) ?_
      refine e_istore (ls2 := [(8, .int 0), (7, .int (-1)), (6, .int (nI (12 * k))), (0, .ref (ρ 0)), (1, .ref (ρ 9)), (2, .ref (ρ 10)), (3, .ref (ρ 11)), (4, .ref (ρ 12)), (5, .int (nI k))]) C hnL dL_isDead_129 (by decide) rfl ?_
      refine e_iload (j := 0) C dL_isDead_131 rfl ?_
      refine e_iconst (v := 4) C dL_isDead_133 (by decide) ?_
      refine e_icmp_ge (tgt := 169) C dL_isDead_134 (by decide) (fun c_134 => absurd ((nI_leI (a := 4) (b := 0) (by omega) (by omega)).mp c_134) (by omega)) (fun c_134 => ?_)
      refine e_iload (j := 1) C dL_isDead_137 rfl ?_
      refine e_if_lt (tgt := 169) C dL_isDead_139 (by decide) (fun c_139 => ?_) (fun c_139 => absurd (by decide) c_139)
      refine e_iconst (v := 2) C dL_isDead_169 (by decide) ?_
      refine e_istore (ls2 := [(8, .int 2), (7, .int (-1)), (6, .int (nI (12 * k))), (0, .ref (ρ 0)), (1, .ref (ρ 9)), (2, .ref (ρ 10)), (3, .ref (ρ 11)), (4, .ref (ρ 12)), (5, .int (nI k))]) C hnL dL_isDead_170 (by decide) rfl ?_
      refine e_iload (j := 0) C dL_isDead_172 rfl ?_
      refine e_iconst (v := 5) C dL_isDead_174 (by decide) ?_
      refine e_icmp_ge (tgt := 229) C dL_isDead_175 (by decide) (fun c_175 => absurd ((nI_leI (a := 5) (b := 2) (by omega) (by omega)).mp c_175) (by omega)) (fun c_175 => ?_)
      refine e_iload (j := 1) C dL_isDead_178 rfl ?_
      refine e_if_lt (tgt := 229) C dL_isDead_180 (by decide) (fun c_180 => ?_) (fun c_180 => absurd (by decide) c_180)
      refine e_iconst (v := 1) C dL_isDead_229 (by decide) ?_
      refine e_istore (ls2 := [(8, .int 1), (7, .int (-1)), (6, .int (nI (12 * k))), (0, .ref (ρ 0)), (1, .ref (ρ 9)), (2, .ref (ρ 10)), (3, .ref (ρ 11)), (4, .ref (ρ 12)), (5, .int (nI k))]) C hnL dL_isDead_230 (by decide) rfl ?_
      exact e_sub [0, 1, 2, 3, 4, 5, 6, 7, 8] rfl (lz 5 0 T (by omega) hT)
    | succ f ih =>
      intro j T hj hT
      refine e_iload (j := 0) C dL_isDead_32 rfl ?_
      refine e_bipush (v := 12) C dL_isDead_34 (by decide) ?_
      refine e_icmp_ge (tgt := 128) C dL_isDead_36 (by decide) (fun c_36 => absurd ((nI_leI (a := 12) (b := j) (by omega) (by omega)).mp c_36) (by omega)) (fun c_36 => ?_)
      refine e_aload_n (j := 5) C dL_isDead_39 rfl rfl ?_
      refine e_bipush (v := 12) C dL_isDead_40 (by decide) ?_
      refine e_iload (j := 8) C dL_isDead_42 rfl ?_
      refine e_imulN 12 k (12 * k) C rfl rfl rfl dL_isDead_44 ?_
      refine e_iload (j := 0) C dL_isDead_45 rfl ?_
      refine e_iaddN (12 * k) j (12 * k + j) C rfl rfl rfl dL_isDead_47 ?_
      refine e_ialdN (12 * k + j) C (cnt_fix (by decide)) (fun _ => rfl) rfl (by omega) (by decide) dL_isDead_48 ?_
      refine e_topi (fun x9_49 ex9_49 => ?_)
      refine e_istore (ls2 := [(9, .int x9_49), (8, .int (nI j)), (7, .int (-1)), (6, .int (nI (12 * k))), (0, .ref (ρ 0)), (1, .ref (ρ 9)), (2, .ref (ρ 10)), (3, .ref (ρ 11)), (4, .ref (ρ 12)), (5, .int (nI k))]) C hnL dL_isDead_49 (by decide) rfl ?_
      refine e_aload_n (j := 6) C dL_isDead_51 rfl rfl ?_
      refine e_bipush (v := 12) C dL_isDead_52 (by decide) ?_
      refine e_iload (j := 9) C dL_isDead_54 rfl ?_
      refine e_imulN 12 k (12 * k) C rfl rfl rfl dL_isDead_56 ?_
      refine e_iload (j := 1) C dL_isDead_57 rfl ?_
      refine e_iaddN (12 * k) j (12 * k + j) C rfl rfl rfl dL_isDead_59 ?_
      refine e_iconst (v := 0) C dL_isDead_60 (by decide) ?_
      refine e_iastN (12 * k + j) C (cnt_fix (by decide)) (fun _ _ => rfl) rfl (by omega) (by decide) dL_isDead_61 ?_
      refine e_topM (fun M_61 hM_61 => ?_)
      refine e_aload_n (j := 5) C dL_isDead_62 rfl rfl ?_
      refine e_iload (j := 3) C dL_isDead_63 rfl ?_
      refine e_bipush (v := 11) C dL_isDead_65 (by decide) ?_
      refine e_iaddN (12 * k) 11 (12 * k + 11) C rfl rfl rfl dL_isDead_67 ?_
      refine e_dup2 C dL_isDead_68 rfl rfl ?_
      refine e_ialdN (12 * k + 11) C (cnt_fix (by decide)) (fun _ => rfl) rfl (by omega) (by decide) dL_isDead_69 ?_
      refine e_iload (j := 0) C dL_isDead_70 rfl ?_
      refine e_iadd C dL_isDead_72 ?_
      refine e_iastN (12 * k + 11) C (cnt_fix (by decide)) (fun _ _ => rfl) rfl (by omega) (by decide) dL_isDead_73 ?_
      refine e_topM (fun M_73 hM_73 => ?_)
      refine e_iload (j := 2) C dL_isDead_74 rfl ?_
      refine e_if_lt (tgt := 112) C dL_isDead_76 (by decide) (fun c_76 => ?_) (fun c_76 => absurd (by decide) c_76)
      refine e_aload (j := 8) C dL_isDead_112 rfl ?_
      refine e_bipush (v := 29) C dL_isDead_114 (by decide) ?_
      refine e_dup2 C dL_isDead_116 rfl rfl ?_
      refine e_ialdN 29 C (cnt_fix (by decide)) (fun _ => rfl) rfl (by decide) (by decide) dL_isDead_117 ?_
      refine e_iload (j := 0) C dL_isDead_118 rfl ?_
      refine e_iadd C dL_isDead_120 ?_
      refine e_iastN 29 C (cnt_fix (by decide)) (fun _ _ => rfl) rfl (by decide) (by decide) dL_isDead_121 ?_
      refine e_topM (fun M_121 hM_121 => ?_)
      refine e_iinc (j := 1) (v := (nI (j + 1))) (ls2 := [(8, .int (nI (j + 1))), (9, .int x9_49), (7, .int (-1)), (6, .int (nI (12 * k))), (0, .ref (ρ 0)), (1, .ref (ρ 9)), (2, .ref (ρ 10)), (3, .ref (ρ 11)), (4, .ref (ρ 12)), (5, .int (nI k))]) C hnL dL_isDead_122 rfl (nI_add (j) 1) (by decide) rfl ?_
      refine e_goto (tgt := 32) C dL_isDead_125 (by decide) ?_
      exact e_sub [0, 2, 3, 4, 5, 6, 7, 8, 9] rfl (ih (j + 1) _ (by omega) (by rw [hM_121, hM_73, hM_61, ex9_49, hT]; rfl))
  refine e_bipush (v := 12) C dL_isDead_0 (by decide) ?_
  refine e_iload (j := 5) C dL_isDead_2 rfl ?_
  refine e_imulN 12 k (12 * k) C rfl rfl rfl dL_isDead_4 ?_
  refine e_istore (ls2 := [(6, .int (nI (12 * k))), (0, .ref (ρ 0)), (1, .ref (ρ 9)), (2, .ref (ρ 10)), (3, .ref (ρ 11)), (4, .ref (ρ 12)), (5, .int (nI k))]) C hnL dL_isDead_5 (by decide) rfl ?_
  refine e_aload_n (j := 2) C dL_isDead_7 rfl rfl ?_
  refine e_iload (j := 0) C dL_isDead_8 rfl ?_
  refine e_ialdN (12 * k) C (cnt_fix (by decide)) (fun _ => rfl) rfl (by omega) (by decide) dL_isDead_10 ?_
  refine e_if_ne (tgt := 16) C dL_isDead_11 (by decide) (fun c_11 => ?_) (fun c_11 => absurd c_11 h1)
  refine e_aload_n (j := 2) C dL_isDead_16 rfl rfl ?_
  refine e_iload (j := 0) C dL_isDead_17 rfl ?_
  refine e_iconst (v := 0) C dL_isDead_19 (by decide) ?_
  refine e_iastN (12 * k) C (cnt_fix (by decide)) (fun _ _ => rfl) rfl (by omega) (by decide) dL_isDead_20 ?_
  refine e_topM (fun M_20 hM_20 => ?_)
  refine e_aload_n (j := 2) C dL_isDead_21 rfl rfl ?_
  refine e_iload (j := 6) C dL_isDead_22 rfl ?_
  rw [show M_20 = dd0 M k from hM_20]
  refine e_cS (nA := 2) C (L_heir hl hk hkin) rfl mw_414 mw_412 mw_413 mw_2 (by decide +kernel) (by decide) rfl rfl (Nat.le_of_ble_eq_true rfl) dL_isDead_24 (Nat.le_of_ble_eq_true rfl) (Nat.le_of_ble_eq_true rfl) ?_
  rw [hhe]
  refine e_istore (ls2 := [(7, .int (-1)), (6, .int (nI (12 * k))), (0, .ref (ρ 0)), (1, .ref (ρ 9)), (2, .ref (ρ 10)), (3, .ref (ρ 11)), (4, .ref (ρ 12)), (5, .int (nI k))]) C hnL dL_isDead_27 (by decide) rfl ?_
  refine e_iconst (v := 0) C dL_isDead_29 (by decide) ?_
  refine e_istore (ls2 := [(8, .int 0), (7, .int (-1)), (6, .int (nI (12 * k))), (0, .ref (ρ 0)), (1, .ref (ρ 9)), (2, .ref (ρ 10)), (3, .ref (ρ 11)), (4, .ref (ρ 12)), (5, .int (nI k))]) C hnL dL_isDead_30 (by decide) rfl ?_
  exact e_sub [0, 1, 2, 3, 4, 5, 6, 7, 8] rfl (li 12 0 _ (by omega) rfl)
/-- for it, against it -/
def stS (M : Mem) : Nat → Int32 × Int32
  | 0 => (0, 0)
  | j + 1 => ((stS M j).1 + (if M 9 (12 * j) = 1 then (if M 9 (12 * j + 9) = 1 then 1 else 0) else 0), (stS M j).2 + (if M 9 (12 * j) = 1 then (if M 9 (12 * j + 9) = 0 then 1 else 0) else 0))
def stU (M : Mem) : Mem := up M 12 22 (1 - M 12 22)
set_option maxRecDepth 100000 in
set_option maxHeartbeats 1000000 in
theorem L_isStruck_s0 {l : Launch} (hl : l.stackTraces = false) {ρ : Nat → Nat} {J : Nat → Int64} {M : Mem} (h : M 12 23 = 1 ∨ (M 12 22 = 0 ∧ (stS M 5).1 ≤ (stS M 5).2)) : CtO l yL_isStruck cL_isStruck 11 (some .boolean) 10 13 78 5 ρ J M [.ref (ρ 0), .ref (ρ 9), .ref (ρ 10), .ref (ρ 12), .int 0] (rI 1 M) := by
  refine CtO.of hl (by decide +kernel) (Nat.le_of_ble_eq_true rfl) (fun Ξ hnL C => ?_)
  show E Ξ 5 ρ J M 0 0 0 [(0, .ref (ρ 0)), (1, .ref (ρ 9)), (2, .ref (ρ 10)), (3, .ref (ρ 12)), (4, .int 0)] []
  have loop : ∀ (f j : Nat) (a b : Int32), j + f = 5 → (a, b) = stS M j → E Ξ 5 ρ J M 0 0 14 [(7, .int (nI j)), (6, .int b), (5, .int a), (0, .ref (ρ 0)), (1, .ref (ρ 9)), (2, .ref (ρ 10)), (3, .ref (ρ 12)), (4, .int 0)] [] := by
    intro f
    induction f with
    | zero =>
      intro j a b hj hT
      have hj2 : j = 5 := by omega
      subst hj2
      have e1 : a = (stS M 5).1 := congrArg Prod.fst hT
      have e2 : b = (stS M 5).2 := congrArg Prod.snd hT
      subst e1 e2
      by_cases h1 : M 12 23 = 1
      · refine e_iload (j := 0) C dL_isStruck_14 rfl ?_
        refine e_iconst (v := 5) C dL_isStruck_16 (by decide) ?_
        refine e_icmp_ge (tgt := 95) C dL_isStruck_17 (by decide) (fun c_17 => ?_) (fun c_17 => absurd ((nI_leI (a := 5) (b := 5) (by omega) (by omega)).mpr (by omega)) c_17)
        refine e_aload_n (j := 6) C dL_isStruck_95 rfl rfl ?_
        refine e_bipush (v := 23) C dL_isStruck_96 (by decide) ?_
        refine e_ialdN 23 C (cnt_fix (by decide)) (fun _ => rfl) rfl (by decide) (by decide) dL_isStruck_98 ?_
        refine e_iconst (v := 1) C dL_isStruck_99 (by decide) ?_
        refine e_icmp_eq (tgt := 117) C dL_isStruck_100 (by decide) (fun c_100 => ?_) (fun c_100 => absurd h1 c_100)
        refine e_iconst (v := 1) C dL_isStruck_117 (by decide) ?_
        exact e_zret C rfl rfl (Nat.le_of_ble_eq_true rfl) (Nat.le_of_ble_eq_true rfl) dL_isStruck_118 (pO.mk rfl)
      · have h2 := h.resolve_left h1
        refine e_iload (j := 0) C dL_isStruck_14 rfl ?_
        refine e_iconst (v := 5) C dL_isStruck_16 (by decide) ?_
        refine e_icmp_ge (tgt := 95) C dL_isStruck_17 (by decide) (fun c_17 => ?_) (fun c_17 => absurd ((nI_leI (a := 5) (b := 5) (by omega) (by omega)).mpr (by omega)) c_17)
        refine e_aload_n (j := 6) C dL_isStruck_95 rfl rfl ?_
        refine e_bipush (v := 23) C dL_isStruck_96 (by decide) ?_
        refine e_ialdN 23 C (cnt_fix (by decide)) (fun _ => rfl) rfl (by decide) (by decide) dL_isStruck_98 ?_
        refine e_iconst (v := 1) C dL_isStruck_99 (by decide) ?_
        refine e_icmp_eq (tgt := 117) C dL_isStruck_100 (by decide) (fun c_100 => absurd c_100 h1) (fun c_100 => ?_)
        refine e_aload_n (j := 6) C dL_isStruck_103 rfl rfl ?_
        refine e_bipush (v := 22) C dL_isStruck_104 (by decide) ?_
        refine e_ialdN 22 C (cnt_fix (by decide)) (fun _ => rfl) rfl (by decide) (by decide) dL_isStruck_106 ?_
        refine e_if_ne (tgt := 119) C dL_isStruck_107 (by decide) (fun c_107 => absurd h2.1 c_107) (fun c_107 => ?_)
        refine e_iload (j := 2) C dL_isStruck_110 rfl ?_
        refine e_iload (j := 1) C dL_isStruck_112 rfl ?_
        refine e_icmp_gt (tgt := 119) C dL_isStruck_114 (by decide) (fun c_114 => absurd c_114 (Int32.not_lt.mpr h2.2)) (fun c_114 => ?_)
        refine e_iconst (v := 1) C dL_isStruck_117 (by decide) ?_
        exact e_zret C rfl rfl (Nat.le_of_ble_eq_true rfl) (Nat.le_of_ble_eq_true rfl) dL_isStruck_118 (pO.mk rfl)
    | succ f ih =>
      intro j a b hj hT
      have e1 : a = (stS M j).1 := congrArg Prod.fst hT
      have e2 : b = (stS M j).2 := congrArg Prod.snd hT
      refine e_iload (j := 0) C dL_isStruck_14 rfl ?_
      refine e_iconst (v := 5) C dL_isStruck_16 (by decide) ?_
      refine e_icmp_ge (tgt := 95) C dL_isStruck_17 (by decide) (fun c_17 => absurd ((nI_leI (a := 5) (b := j) (by omega) (by omega)).mp c_17) (by omega)) (fun c_17 => ?_)
      refine e_iload (j := 2) C dL_isStruck_20 rfl ?_
      refine e_aload_n (j := 4) C dL_isStruck_22 rfl rfl ?_
      refine e_bipush (v := 12) C dL_isStruck_23 (by decide) ?_
      refine e_iload (j := 0) C dL_isStruck_25 rfl ?_
      refine e_imulN 12 j (12 * j) C rfl rfl rfl dL_isStruck_27 ?_
      refine e_ialdN (12 * j) C (cnt_fix (by decide)) (fun _ => rfl) rfl (by omega) (by decide) dL_isStruck_28 ?_
      refine e_iconst (v := 1) C dL_isStruck_29 (by decide) ?_
      suffices hJ_52 : ∀ v_52 : Int32, v_52 = (if (M 9 (12 * j)) = 1 then (if (M 9 (12 * j + 9)) = 1 then 1 else 0) else 0) → E Ξ 5 ρ J M 0 0 52 [(7, .int (nI j)), (6, .int b), (5, .int a), (0, .ref (ρ 0)), (1, .ref (ρ 9)), (2, .ref (ρ 10)), (3, .ref (ρ 12)), (4, .int 0)] (.int v_52 :: .int a :: []) by
        refine e_icmp_ne (tgt := 51) C dL_isStruck_30 (by decide) (fun c_30 => ?_) (fun c_30 => ?_)
        · refine e_iconst (v := 0) C dL_isStruck_51 (by decide) ?_
          exact hJ_52 _ (by rw [if_neg c_30])
        · refine e_aload_n (j := 4) C dL_isStruck_33 rfl rfl ?_
          refine e_bipush (v := 12) C dL_isStruck_34 (by decide) ?_
          refine e_iload (j := 0) C dL_isStruck_36 rfl ?_
          refine e_imulN 12 j (12 * j) C rfl rfl rfl dL_isStruck_38 ?_
          refine e_bipush (v := 9) C dL_isStruck_39 (by decide) ?_
          refine e_iaddN (12 * j) 9 (12 * j + 9) C rfl rfl rfl dL_isStruck_41 ?_
          refine e_ialdN (12 * j + 9) C (cnt_fix (by decide)) (fun _ => rfl) rfl (by omega) (by decide) dL_isStruck_42 ?_
          refine e_iconst (v := 1) C dL_isStruck_43 (by decide) ?_
          refine e_icmp_ne (tgt := 51) C dL_isStruck_44 (by decide) (fun c_44 => ?_) (fun c_44 => ?_)
          · refine e_iconst (v := 0) C dL_isStruck_51 (by decide) ?_
            exact hJ_52 _ (by rw [if_pos c_30, if_neg c_44])
          · refine e_iconst (v := 1) C dL_isStruck_47 (by decide) ?_
            refine e_goto (tgt := 52) C dL_isStruck_48 (by decide) ?_
            exact hJ_52 _ (by rw [if_pos c_30, if_pos c_44])
      intro v_52 hv_52
      refine e_iadd C dL_isStruck_52 ?_
      refine e_topi (fun x5_53 ex5_53 => ?_)
      refine e_istore (ls2 := [(5, .int x5_53), (7, .int (nI j)), (6, .int b), (0, .ref (ρ 0)), (1, .ref (ρ 9)), (2, .ref (ρ 10)), (3, .ref (ρ 12)), (4, .int 0)]) C hnL dL_isStruck_53 (by decide) rfl ?_
      refine e_iload (j := 2) C dL_isStruck_55 rfl ?_
      refine e_aload_n (j := 4) C dL_isStruck_57 rfl rfl ?_
      refine e_bipush (v := 12) C dL_isStruck_58 (by decide) ?_
      refine e_iload (j := 1) C dL_isStruck_60 rfl ?_
      refine e_imulN 12 j (12 * j) C rfl rfl rfl dL_isStruck_62 ?_
      refine e_ialdN (12 * j) C (cnt_fix (by decide)) (fun _ => rfl) rfl (by omega) (by decide) dL_isStruck_63 ?_
      refine e_iconst (v := 1) C dL_isStruck_64 (by decide) ?_
      suffices hJ_86 : ∀ v_86 : Int32, v_86 = (if (M 9 (12 * j)) = 1 then (if (M 9 (12 * j + 9)) = 0 then 1 else 0) else 0) → E Ξ 5 ρ J M 0 0 86 [(5, .int x5_53), (7, .int (nI j)), (6, .int b), (0, .ref (ρ 0)), (1, .ref (ρ 9)), (2, .ref (ρ 10)), (3, .ref (ρ 12)), (4, .int 0)] (.int v_86 :: .int b :: []) by
        refine e_icmp_ne (tgt := 85) C dL_isStruck_65 (by decide) (fun c_65 => ?_) (fun c_65 => ?_)
        · refine e_iconst (v := 0) C dL_isStruck_85 (by decide) ?_
          exact hJ_86 _ (by rw [if_neg c_65])
        · refine e_aload_n (j := 4) C dL_isStruck_68 rfl rfl ?_
          refine e_bipush (v := 12) C dL_isStruck_69 (by decide) ?_
          refine e_iload (j := 1) C dL_isStruck_71 rfl ?_
          refine e_imulN 12 j (12 * j) C rfl rfl rfl dL_isStruck_73 ?_
          refine e_bipush (v := 9) C dL_isStruck_74 (by decide) ?_
          refine e_iaddN (12 * j) 9 (12 * j + 9) C rfl rfl rfl dL_isStruck_76 ?_
          refine e_ialdN (12 * j + 9) C (cnt_fix (by decide)) (fun _ => rfl) rfl (by omega) (by decide) dL_isStruck_77 ?_
          refine e_if_ne (tgt := 85) C dL_isStruck_78 (by decide) (fun c_78 => ?_) (fun c_78 => ?_)
          · refine e_iconst (v := 0) C dL_isStruck_85 (by decide) ?_
            exact hJ_86 _ (by rw [if_pos c_65, if_neg c_78])
          · refine e_iconst (v := 1) C dL_isStruck_81 (by decide) ?_
            refine e_goto (tgt := 86) C dL_isStruck_82 (by decide) ?_
            exact hJ_86 _ (by rw [if_pos c_65, if_pos c_78])
      intro v_86 hv_86
      refine e_iadd C dL_isStruck_86 ?_
      refine e_topi (fun x6_87 ex6_87 => ?_)
      refine e_istore (ls2 := [(6, .int x6_87), (5, .int x5_53), (7, .int (nI j)), (0, .ref (ρ 0)), (1, .ref (ρ 9)), (2, .ref (ρ 10)), (3, .ref (ρ 12)), (4, .int 0)]) C hnL dL_isStruck_87 (by decide) rfl ?_
      refine e_iinc (j := 2) (v := (nI (j + 1))) (ls2 := [(7, .int (nI (j + 1))), (6, .int x6_87), (5, .int x5_53), (0, .ref (ρ 0)), (1, .ref (ρ 9)), (2, .ref (ρ 10)), (3, .ref (ρ 12)), (4, .int 0)]) C hnL dL_isStruck_89 rfl (nI_add (j) 1) (by decide) rfl ?_
      refine e_goto (tgt := 14) C dL_isStruck_92 (by decide) ?_
      exact e_sub [0, 1, 2, 3, 4, 5, 6, 7] rfl (ih (j + 1) _ _ (by omega) (by rw [ex5_53, ex6_87, hv_52, hv_86, e1, e2]; rfl))
  refine e_iload (j := 4) C dL_isStruck_0 rfl ?_
  refine e_if_ne (tgt := 155) C dL_isStruck_2 (by decide) (fun c_2 => absurd ((nI_eq (a := 0) (b := 0) (by omega) (by omega)).mpr (by omega)) c_2) (fun c_2 => ?_)
  refine e_iconst (v := 0) C dL_isStruck_5 (by decide) ?_
  refine e_istore (ls2 := [(5, .int 0), (0, .ref (ρ 0)), (1, .ref (ρ 9)), (2, .ref (ρ 10)), (3, .ref (ρ 12)), (4, .int 0)]) C hnL dL_isStruck_6 (by decide) rfl ?_
  refine e_iconst (v := 0) C dL_isStruck_8 (by decide) ?_
  refine e_istore (ls2 := [(6, .int 0), (5, .int 0), (0, .ref (ρ 0)), (1, .ref (ρ 9)), (2, .ref (ρ 10)), (3, .ref (ρ 12)), (4, .int 0)]) C hnL dL_isStruck_9 (by decide) rfl ?_
  refine e_iconst (v := 0) C dL_isStruck_11 (by decide) ?_
  refine e_istore (ls2 := [(7, .int 0), (6, .int 0), (5, .int 0), (0, .ref (ρ 0)), (1, .ref (ρ 9)), (2, .ref (ρ 10)), (3, .ref (ρ 12)), (4, .int 0)]) C hnL dL_isStruck_12 (by decide) rfl ?_
  exact e_sub [0, 1, 2, 3, 4, 5, 6, 7] rfl (loop 5 0 0 0 (by omega) rfl)
set_option maxRecDepth 100000 in
set_option maxHeartbeats 1000000 in
theorem L_isStruck_s {l : Launch} (hl : l.stackTraces = false) {ρ : Nat → Nat} {J : Nat → Int64} {M : Mem} (h1 : ¬ M 12 23 = 1) (h : ¬ M 12 22 = 0 ∨ (stS M 5).2 < (stS M 5).1) {x : Int32} {K : Mem} (hcall : o_strike (stU M) 5 = rI x K) (hx : x = if K 12 22 = 1 then 1 else 0) : CtO l yL_isStruck cL_isStruck 11 (some .boolean) 10 13 78 5 ρ J M [.ref (ρ 0), .ref (ρ 9), .ref (ρ 10), .ref (ρ 12), .int 0] (rI 1 K) := by
  refine CtO.of hl (by decide +kernel) (Nat.le_of_ble_eq_true rfl) (fun Ξ hnL C => ?_)
  show E Ξ 5 ρ J M 0 0 0 [(0, .ref (ρ 0)), (1, .ref (ρ 9)), (2, .ref (ρ 10)), (3, .ref (ρ 12)), (4, .int 0)] []
  have loop : ∀ (f j : Nat) (a b : Int32), j + f = 5 → (a, b) = stS M j → E Ξ 5 ρ J M 0 0 14 [(7, .int (nI j)), (6, .int b), (5, .int a), (0, .ref (ρ 0)), (1, .ref (ρ 9)), (2, .ref (ρ 10)), (3, .ref (ρ 12)), (4, .int 0)] [] := by
    intro f
    induction f with
    | zero =>
      intro j a b hj hT
      have hj2 : j = 5 := by omega
      subst hj2
      have e1 : a = (stS M 5).1 := congrArg Prod.fst hT
      have e2 : b = (stS M 5).2 := congrArg Prod.snd hT
      subst e1 e2
      by_cases h2 : M 12 22 = 0
      · have h3 := h.resolve_left (fun q => q h2)
        refine e_iload (j := 0) C dL_isStruck_14 rfl ?_
        refine e_iconst (v := 5) C dL_isStruck_16 (by decide) ?_
        refine e_icmp_ge (tgt := 95) C dL_isStruck_17 (by decide) (fun c_17 => ?_) (fun c_17 => absurd ((nI_leI (a := 5) (b := 5) (by omega) (by omega)).mpr (by omega)) c_17)
        refine e_aload_n (j := 6) C dL_isStruck_95 rfl rfl ?_
        refine e_bipush (v := 23) C dL_isStruck_96 (by decide) ?_
        refine e_ialdN 23 C (cnt_fix (by decide)) (fun _ => rfl) rfl (by decide) (by decide) dL_isStruck_98 ?_
        refine e_iconst (v := 1) C dL_isStruck_99 (by decide) ?_
        refine e_icmp_eq (tgt := 117) C dL_isStruck_100 (by decide) (fun c_100 => absurd c_100 h1) (fun c_100 => ?_)
        refine e_aload_n (j := 6) C dL_isStruck_103 rfl rfl ?_
        refine e_bipush (v := 22) C dL_isStruck_104 (by decide) ?_
        refine e_ialdN 22 C (cnt_fix (by decide)) (fun _ => rfl) rfl (by decide) (by decide) dL_isStruck_106 ?_
        refine e_if_ne (tgt := 119) C dL_isStruck_107 (by decide) (fun c_107 => absurd h2 c_107) (fun c_107 => ?_)
        refine e_iload (j := 2) C dL_isStruck_110 rfl ?_
        refine e_iload (j := 1) C dL_isStruck_112 rfl ?_
        refine e_icmp_gt (tgt := 119) C dL_isStruck_114 (by decide) (fun c_114 => ?_) (fun c_114 => absurd h3 c_114)
        refine e_aload_n (j := 6) C dL_isStruck_119 rfl rfl ?_
        refine e_bipush (v := 22) C dL_isStruck_120 (by decide) ?_
        refine e_iconst (v := 1) C dL_isStruck_122 (by decide) ?_
        refine e_aload_n (j := 6) C dL_isStruck_123 rfl rfl ?_
        refine e_bipush (v := 22) C dL_isStruck_124 (by decide) ?_
        refine e_ialdN 22 C (cnt_fix (by decide)) (fun _ => rfl) rfl (by decide) (by decide) dL_isStruck_126 ?_
        refine e_isub C dL_isStruck_127 ?_
        refine e_iastN 22 C (cnt_fix (by decide)) (fun _ _ => rfl) rfl (by decide) (by decide) dL_isStruck_128 ?_
        refine e_topM (fun M_128 hM_128 => ?_)
        rw [show M_128 = stU M from hM_128]
        refine e_aload_n (j := 3) C dL_isStruck_129 rfl rfl ?_
        refine e_cV (i := 0) (nA := 0) (Cn := RX2) C (c_X2_strike hl (by omega)) hcall (cnt_fix (by decide)) (fun _ => rfl) rfl rfl mw_385 mw_382 mw_383 mw_384 mw_12 (by decide +kernel) (by decide) rfl rfl (Nat.le_of_ble_eq_true rfl) dL_isStruck_130 (Nat.le_of_ble_eq_true rfl) (Nat.le_of_ble_eq_true rfl) ?_
        refine e_aload_n (j := 6) C dL_isStruck_133 rfl rfl ?_
        refine e_bipush (v := 22) C dL_isStruck_134 (by decide) ?_
        refine e_ialdN 22 C (cnt_fix (by decide)) (fun _ => rfl) rfl (by decide) (by decide) dL_isStruck_136 ?_
        refine e_iconst (v := 1) C dL_isStruck_137 (by decide) ?_
        suffices hJ_146 : ∀ v_146 : Int32, v_146 = (if (K 12 22) = 1 then 1 else 0) → E Ξ 5 ρ J K (0 + 1) (0 + 6) 146 [(7, .int 5), (6, .int (stS M 5).2), (5, .int (stS M 5).1), (0, .ref (ρ 0)), (1, .ref (ρ 9)), (2, .ref (ρ 10)), (3, .ref (ρ 12)), (4, .int 0)] (.int v_146 :: .int x :: []) by
          refine e_icmp_ne (tgt := 145) C dL_isStruck_138 (by decide) (fun c_138 => ?_) (fun c_138 => ?_)
          · refine e_iconst (v := 0) C dL_isStruck_145 (by decide) ?_
            exact hJ_146 _ (by rw [if_neg c_138])
          · refine e_iconst (v := 1) C dL_isStruck_141 (by decide) ?_
            refine e_goto (tgt := 146) C dL_isStruck_142 (by decide) ?_
            exact hJ_146 _ (by rw [if_pos c_138])
        intro v_146 hv_146
        refine e_icmp_ne (tgt := 153) C dL_isStruck_146 (by decide) (fun c_146 => absurd (hx.trans hv_146.symm) c_146) (fun c_146 => ?_)
        refine e_iconst (v := 1) C dL_isStruck_149 (by decide) ?_
        refine e_goto (tgt := 154) C dL_isStruck_150 (by decide) ?_
        exact e_zret C rfl rfl (Nat.le_of_ble_eq_true rfl) (Nat.le_of_ble_eq_true rfl) dL_isStruck_154 (pO.mk rfl)
      · refine e_iload (j := 0) C dL_isStruck_14 rfl ?_
        refine e_iconst (v := 5) C dL_isStruck_16 (by decide) ?_
        refine e_icmp_ge (tgt := 95) C dL_isStruck_17 (by decide) (fun c_17 => ?_) (fun c_17 => absurd ((nI_leI (a := 5) (b := 5) (by omega) (by omega)).mpr (by omega)) c_17)
        refine e_aload_n (j := 6) C dL_isStruck_95 rfl rfl ?_
        refine e_bipush (v := 23) C dL_isStruck_96 (by decide) ?_
        refine e_ialdN 23 C (cnt_fix (by decide)) (fun _ => rfl) rfl (by decide) (by decide) dL_isStruck_98 ?_
        refine e_iconst (v := 1) C dL_isStruck_99 (by decide) ?_
        refine e_icmp_eq (tgt := 117) C dL_isStruck_100 (by decide) (fun c_100 => absurd c_100 h1) (fun c_100 => ?_)
        refine e_aload_n (j := 6) C dL_isStruck_103 rfl rfl ?_
        refine e_bipush (v := 22) C dL_isStruck_104 (by decide) ?_
        refine e_ialdN 22 C (cnt_fix (by decide)) (fun _ => rfl) rfl (by decide) (by decide) dL_isStruck_106 ?_
        refine e_if_ne (tgt := 119) C dL_isStruck_107 (by decide) (fun c_107 => ?_) (fun c_107 => absurd c_107 h2)
        refine e_aload_n (j := 6) C dL_isStruck_119 rfl rfl ?_
        refine e_bipush (v := 22) C dL_isStruck_120 (by decide) ?_
        refine e_iconst (v := 1) C dL_isStruck_122 (by decide) ?_
        refine e_aload_n (j := 6) C dL_isStruck_123 rfl rfl ?_
        refine e_bipush (v := 22) C dL_isStruck_124 (by decide) ?_
        refine e_ialdN 22 C (cnt_fix (by decide)) (fun _ => rfl) rfl (by decide) (by decide) dL_isStruck_126 ?_
        refine e_isub C dL_isStruck_127 ?_
        refine e_iastN 22 C (cnt_fix (by decide)) (fun _ _ => rfl) rfl (by decide) (by decide) dL_isStruck_128 ?_
        refine e_topM (fun M_128 hM_128 => ?_)
        rw [show M_128 = stU M from hM_128]
        refine e_aload_n (j := 3) C dL_isStruck_129 rfl rfl ?_
        refine e_cV (i := 0) (nA := 0) (Cn := RX2) C (c_X2_strike hl (by omega)) hcall (cnt_fix (by decide)) (fun _ => rfl) rfl rfl mw_385 mw_382 mw_383 mw_384 mw_12 (by decide +kernel) (by decide) rfl rfl (Nat.le_of_ble_eq_true rfl) dL_isStruck_130 (Nat.le_of_ble_eq_true rfl) (Nat.le_of_ble_eq_true rfl) ?_
        refine e_aload_n (j := 6) C dL_isStruck_133 rfl rfl ?_
        refine e_bipush (v := 22) C dL_isStruck_134 (by decide) ?_
        refine e_ialdN 22 C (cnt_fix (by decide)) (fun _ => rfl) rfl (by decide) (by decide) dL_isStruck_136 ?_
        refine e_iconst (v := 1) C dL_isStruck_137 (by decide) ?_
        suffices hJ_146 : ∀ v_146 : Int32, v_146 = (if (K 12 22) = 1 then 1 else 0) → E Ξ 5 ρ J K (0 + 1) (0 + 6) 146 [(7, .int 5), (6, .int (stS M 5).2), (5, .int (stS M 5).1), (0, .ref (ρ 0)), (1, .ref (ρ 9)), (2, .ref (ρ 10)), (3, .ref (ρ 12)), (4, .int 0)] (.int v_146 :: .int x :: []) by
          refine e_icmp_ne (tgt := 145) C dL_isStruck_138 (by decide) (fun c_138 => ?_) (fun c_138 => ?_)
          · refine e_iconst (v := 0) C dL_isStruck_145 (by decide) ?_
            exact hJ_146 _ (by rw [if_neg c_138])
          · refine e_iconst (v := 1) C dL_isStruck_141 (by decide) ?_
            refine e_goto (tgt := 146) C dL_isStruck_142 (by decide) ?_
            exact hJ_146 _ (by rw [if_pos c_138])
        intro v_146 hv_146
        refine e_icmp_ne (tgt := 153) C dL_isStruck_146 (by decide) (fun c_146 => absurd (hx.trans hv_146.symm) c_146) (fun c_146 => ?_)
        refine e_iconst (v := 1) C dL_isStruck_149 (by decide) ?_
        refine e_goto (tgt := 154) C dL_isStruck_150 (by decide) ?_
        exact e_zret C rfl rfl (Nat.le_of_ble_eq_true rfl) (Nat.le_of_ble_eq_true rfl) dL_isStruck_154 (pO.mk rfl)
    | succ f ih =>
      intro j a b hj hT
      have e1 : a = (stS M j).1 := congrArg Prod.fst hT
      have e2 : b = (stS M j).2 := congrArg Prod.snd hT
      refine e_iload (j := 0) C dL_isStruck_14 rfl ?_
      refine e_iconst (v := 5) C dL_isStruck_16 (by decide) ?_
      refine e_icmp_ge (tgt := 95) C dL_isStruck_17 (by decide) (fun c_17 => absurd ((nI_leI (a := 5) (b := j) (by omega) (by omega)).mp c_17) (by omega)) (fun c_17 => ?_)
      refine e_iload (j := 2) C dL_isStruck_20 rfl ?_
      refine e_aload_n (j := 4) C dL_isStruck_22 rfl rfl ?_
      refine e_bipush (v := 12) C dL_isStruck_23 (by decide) ?_
      refine e_iload (j := 0) C dL_isStruck_25 rfl ?_
      refine e_imulN 12 j (12 * j) C rfl rfl rfl dL_isStruck_27 ?_
      refine e_ialdN (12 * j) C (cnt_fix (by decide)) (fun _ => rfl) rfl (by omega) (by decide) dL_isStruck_28 ?_
      refine e_iconst (v := 1) C dL_isStruck_29 (by decide) ?_
      suffices hJ_52 : ∀ v_52 : Int32, v_52 = (if (M 9 (12 * j)) = 1 then (if (M 9 (12 * j + 9)) = 1 then 1 else 0) else 0) → E Ξ 5 ρ J M 0 0 52 [(7, .int (nI j)), (6, .int b), (5, .int a), (0, .ref (ρ 0)), (1, .ref (ρ 9)), (2, .ref (ρ 10)), (3, .ref (ρ 12)), (4, .int 0)] (.int v_52 :: .int a :: []) by
        refine e_icmp_ne (tgt := 51) C dL_isStruck_30 (by decide) (fun c_30 => ?_) (fun c_30 => ?_)
        · refine e_iconst (v := 0) C dL_isStruck_51 (by decide) ?_
          exact hJ_52 _ (by rw [if_neg c_30])
        · refine e_aload_n (j := 4) C dL_isStruck_33 rfl rfl ?_
          refine e_bipush (v := 12) C dL_isStruck_34 (by decide) ?_
          refine e_iload (j := 0) C dL_isStruck_36 rfl ?_
          refine e_imulN 12 j (12 * j) C rfl rfl rfl dL_isStruck_38 ?_
          refine e_bipush (v := 9) C dL_isStruck_39 (by decide) ?_
          refine e_iaddN (12 * j) 9 (12 * j + 9) C rfl rfl rfl dL_isStruck_41 ?_
          refine e_ialdN (12 * j + 9) C (cnt_fix (by decide)) (fun _ => rfl) rfl (by omega) (by decide) dL_isStruck_42 ?_
          refine e_iconst (v := 1) C dL_isStruck_43 (by decide) ?_
          refine e_icmp_ne (tgt := 51) C dL_isStruck_44 (by decide) (fun c_44 => ?_) (fun c_44 => ?_)
          · refine e_iconst (v := 0) C dL_isStruck_51 (by decide) ?_
            exact hJ_52 _ (by rw [if_pos c_30, if_neg c_44])
          · refine e_iconst (v := 1) C dL_isStruck_47 (by decide) ?_
            refine e_goto (tgt := 52) C dL_isStruck_48 (by decide) ?_
            exact hJ_52 _ (by rw [if_pos c_30, if_pos c_44])
      intro v_52 hv_52
      refine e_iadd C dL_isStruck_52 ?_
      refine e_topi (fun x5_53 ex5_53 => ?_)
      refine e_istore (ls2 := [(5, .int x5_53), (7, .int (nI j)), (6, .int b), (0, .ref (ρ 0)), (1, .ref (ρ 9)), (2, .ref (ρ 10)), (3, .ref (ρ 12)), (4, .int 0)]) C hnL dL_isStruck_53 (by decide) rfl ?_
      refine e_iload (j := 2) C dL_isStruck_55 rfl ?_
      refine e_aload_n (j := 4) C dL_isStruck_57 rfl rfl ?_
      refine e_bipush (v := 12) C dL_isStruck_58 (by decide) ?_
      refine e_iload (j := 1) C dL_isStruck_60 rfl ?_
      refine e_imulN 12 j (12 * j) C rfl rfl rfl dL_isStruck_62 ?_
      refine e_ialdN (12 * j) C (cnt_fix (by decide)) (fun _ => rfl) rfl (by omega) (by decide) dL_isStruck_63 ?_
      refine e_iconst (v := 1) C dL_isStruck_64 (by decide) ?_
      suffices hJ_86 : ∀ v_86 : Int32, v_86 = (if (M 9 (12 * j)) = 1 then (if (M 9 (12 * j + 9)) = 0 then 1 else 0) else 0) → E Ξ 5 ρ J M 0 0 86 [(5, .int x5_53), (7, .int (nI j)), (6, .int b), (0, .ref (ρ 0)), (1, .ref (ρ 9)), (2, .ref (ρ 10)), (3, .ref (ρ 12)), (4, .int 0)] (.int v_86 :: .int b :: []) by
        refine e_icmp_ne (tgt := 85) C dL_isStruck_65 (by decide) (fun c_65 => ?_) (fun c_65 => ?_)
        · refine e_iconst (v := 0) C dL_isStruck_85 (by decide) ?_
          exact hJ_86 _ (by rw [if_neg c_65])
        · refine e_aload_n (j := 4) C dL_isStruck_68 rfl rfl ?_
          refine e_bipush (v := 12) C dL_isStruck_69 (by decide) ?_
          refine e_iload (j := 1) C dL_isStruck_71 rfl ?_
          refine e_imulN 12 j (12 * j) C rfl rfl rfl dL_isStruck_73 ?_
          refine e_bipush (v := 9) C dL_isStruck_74 (by decide) ?_
          refine e_iaddN (12 * j) 9 (12 * j + 9) C rfl rfl rfl dL_isStruck_76 ?_
          refine e_ialdN (12 * j + 9) C (cnt_fix (by decide)) (fun _ => rfl) rfl (by omega) (by decide) dL_isStruck_77 ?_
          refine e_if_ne (tgt := 85) C dL_isStruck_78 (by decide) (fun c_78 => ?_) (fun c_78 => ?_)
          · refine e_iconst (v := 0) C dL_isStruck_85 (by decide) ?_
            exact hJ_86 _ (by rw [if_pos c_65, if_neg c_78])
          · refine e_iconst (v := 1) C dL_isStruck_81 (by decide) ?_
            refine e_goto (tgt := 86) C dL_isStruck_82 (by decide) ?_
            exact hJ_86 _ (by rw [if_pos c_65, if_pos c_78])
      intro v_86 hv_86
      refine e_iadd C dL_isStruck_86 ?_
      refine e_topi (fun x6_87 ex6_87 => ?_)
      refine e_istore (ls2 := [(6, .int x6_87), (5, .int x5_53), (7, .int (nI j)), (0, .ref (ρ 0)), (1, .ref (ρ 9)), (2, .ref (ρ 10)), (3, .ref (ρ 12)), (4, .int 0)]) C hnL dL_isStruck_87 (by decide) rfl ?_
      refine e_iinc (j := 2) (v := (nI (j + 1))) (ls2 := [(7, .int (nI (j + 1))), (6, .int x6_87), (5, .int x5_53), (0, .ref (ρ 0)), (1, .ref (ρ 9)), (2, .ref (ρ 10)), (3, .ref (ρ 12)), (4, .int 0)]) C hnL dL_isStruck_89 rfl (nI_add (j) 1) (by decide) rfl ?_
      refine e_goto (tgt := 14) C dL_isStruck_92 (by decide) ?_
      exact e_sub [0, 1, 2, 3, 4, 5, 6, 7] rfl (ih (j + 1) _ _ (by omega) (by rw [ex5_53, ex6_87, hv_52, hv_86, e1, e2]; rfl))
  refine e_iload (j := 4) C dL_isStruck_0 rfl ?_
  refine e_if_ne (tgt := 155) C dL_isStruck_2 (by decide) (fun c_2 => absurd ((nI_eq (a := 0) (b := 0) (by omega) (by omega)).mpr (by omega)) c_2) (fun c_2 => ?_)
  refine e_iconst (v := 0) C dL_isStruck_5 (by decide) ?_
  refine e_istore (ls2 := [(5, .int 0), (0, .ref (ρ 0)), (1, .ref (ρ 9)), (2, .ref (ρ 10)), (3, .ref (ρ 12)), (4, .int 0)]) C hnL dL_isStruck_6 (by decide) rfl ?_
  refine e_iconst (v := 0) C dL_isStruck_8 (by decide) ?_
  refine e_istore (ls2 := [(6, .int 0), (5, .int 0), (0, .ref (ρ 0)), (1, .ref (ρ 9)), (2, .ref (ρ 10)), (3, .ref (ρ 12)), (4, .int 0)]) C hnL dL_isStruck_9 (by decide) rfl ?_
  refine e_iconst (v := 0) C dL_isStruck_11 (by decide) ?_
  refine e_istore (ls2 := [(7, .int 0), (6, .int 0), (5, .int 0), (0, .ref (ρ 0)), (1, .ref (ρ 9)), (2, .ref (ρ 10)), (3, .ref (ρ 12)), (4, .int 0)]) C hnL dL_isStruck_12 (by decide) rfl ?_
  exact e_sub [0, 1, 2, 3, 4, 5, 6, 7] rfl (loop 5 0 0 0 (by omega) rfl)
def byL (M : Mem) (k j : Nat) : Int32 := M 9 (12 * j + 2) + hasF M j - M 9 (12 * k + 2) - hasF M k
def akS (M : Mem) (k : Nat) : Nat → Int32
  | 0 => 0
  | j + 1 => akS M k j + (if M 9 (12 * j) = 1 then (if byL M k j < 0 then 1 else if byL M k j = 0 then (if nI k ≤ nI j then 0 else 1) else 0) else 0)
theorem akS_s (M : Mem) (k j : Nat) : akS M k (j + 1) = akS M k j + (if M 9 (12 * j) = 1 then (if byL M k j < 0 then 1 else if byL M k j = 0 then (if nI k ≤ nI j then 0 else 1) else 0) else 0) := rfl
def skS (M : Mem) : Nat → Int32
  | 0 => 0
  | k + 1 => skS M k ||| (if M 9 (12 * k) = 1 then (if M 12 24 / 2 ≤ akS M k 5 then 0 else (1 : Int32) <<< (nI k &&& 31)) else 0)
def scS (M : Mem) (s : Int32) : Nat → Mem
  | 0 => M
  | k + 1 => up (scS M s k) 12 24 (scS M s k 12 24 - 2 * (s >>> (nI k &&& 31) &&& 1))
def suL (M : Mem) : Mem := scS M (skS M 5) 5
set_option maxRecDepth 100000 in
set_option maxHeartbeats 1000000 in
theorem L_isStruck_u0 {l : Launch} (hl : l.stackTraces = false) {ρ : Nat → Nat} {J : Nat → Int64} {M : Mem} (h : M 12 22 = 0) : CtO l yL_isStruck cL_isStruck 11 (some .boolean) 10 13 78 5 ρ J M [.ref (ρ 0), .ref (ρ 9), .ref (ρ 10), .ref (ρ 12), .int 1] (rI 1 M) := by
  refine CtO.of hl (by decide +kernel) (Nat.le_of_ble_eq_true rfl) (fun Ξ hnL C => ?_)
  show E Ξ 5 ρ J M 0 0 0 [(0, .ref (ρ 0)), (1, .ref (ρ 9)), (2, .ref (ρ 10)), (3, .ref (ρ 12)), (4, .int 1)] []
  refine e_iload (j := 4) C dL_isStruck_0 rfl ?_
  refine e_if_ne (tgt := 155) C dL_isStruck_2 (by decide) (fun c_2 => ?_) (fun c_2 => absurd ((nI_eq (a := 1) (b := 0) (by omega) (by omega)).mp c_2) (by omega))
  refine e_aload_n (j := 3) C dL_isStruck_155 rfl rfl ?_
  refine e_bipush (v := 22) C dL_isStruck_156 (by decide) ?_
  refine e_ialdN 22 C (cnt_fix (by decide)) (fun _ => rfl) rfl (by decide) (by decide) dL_isStruck_158 ?_
  refine e_if_ne (tgt := 164) C dL_isStruck_159 (by decide) (fun c_159 => absurd h c_159) (fun c_159 => ?_)
  refine e_iconst (v := 1) C dL_isStruck_162 (by decide) ?_
  exact e_zret C rfl rfl (Nat.le_of_ble_eq_true rfl) (Nat.le_of_ble_eq_true rfl) dL_isStruck_163 (pO.mk rfl)
set_option maxRecDepth 100000 in
set_option maxHeartbeats 1000000 in
theorem L_isStruck_u {l : Launch} (hl : l.stackTraces = false) {ρ : Nat → Nat} {J : Nat → Int64} {M : Mem} (h : ¬ M 12 22 = 0) {K : Mem} (hcall : o_soup (suL M) 5 = rI (skS M 5) K) : CtO l yL_isStruck cL_isStruck 11 (some .boolean) 10 13 78 5 ρ J M [.ref (ρ 0), .ref (ρ 9), .ref (ρ 10), .ref (ρ 12), .int 1] (rI 1 K) := by
  refine CtO.of hl (by decide +kernel) (Nat.le_of_ble_eq_true rfl) (fun Ξ hnL C => ?_)
  show E Ξ 5 ρ J M 0 0 0 [(0, .ref (ρ 0)), (1, .ref (ρ 9)), (2, .ref (ρ 10)), (3, .ref (ρ 12)), (4, .int 1)] []
  have lc : ∀ (f j : Nat) (T : Mem), j + f = 5 → T = scS M (skS M 5) j → E Ξ 5 ρ J T 0 0 315 [(7, .int (nI j)), (6, .int (M 12 24 / 2)), (5, .int (skS M 5)), (0, .ref (ρ 0)), (1, .ref (ρ 9)), (2, .ref (ρ 10)), (3, .ref (ρ 12)), (4, .int 1)] [] := by
    intro f
    induction f with
    | zero =>
      intro j T hj hT
      have hj2 : j = 5 := by omega
      subst hj2
      rw [show T = suL M from hT]
      refine e_iload (j := 0) C dL_isStruck_315 rfl ?_
      refine e_iconst (v := 5) C dL_isStruck_317 (by decide) ?_
      refine e_icmp_ge (tgt := 343) C dL_isStruck_318 (by decide) (fun c_318 => ?_) (fun c_318 => absurd ((nI_leI (a := 5) (b := 5) (by omega) (by omega)).mpr (by omega)) c_318)
      refine e_aload_n (j := 3) C dL_isStruck_343 rfl rfl ?_
      refine e_cV (i := 0) (nA := 0) (Cn := RX2) C (c_X2_soup hl (by omega)) hcall (cnt_fix (by decide)) (fun _ => rfl) rfl rfl mw_393 mw_390 mw_391 mw_392 mw_12 (by decide +kernel) (by decide) rfl rfl (Nat.le_of_ble_eq_true rfl) dL_isStruck_344 (Nat.le_of_ble_eq_true rfl) (Nat.le_of_ble_eq_true rfl) ?_
      refine e_iload (j := 2) C dL_isStruck_347 rfl ?_
      refine e_icmp_ne (tgt := 356) C dL_isStruck_349 (by decide) (fun c_349 => absurd rfl c_349) (fun c_349 => ?_)
      refine e_iconst (v := 1) C dL_isStruck_352 (by decide) ?_
      refine e_goto (tgt := 357) C dL_isStruck_353 (by decide) ?_
      exact e_zret C rfl rfl (Nat.le_of_ble_eq_true rfl) (Nat.le_of_ble_eq_true rfl) dL_isStruck_357 (pO.mk rfl)
    | succ f ih =>
      intro j T hj hT
      refine e_iload (j := 0) C dL_isStruck_315 rfl ?_
      refine e_iconst (v := 5) C dL_isStruck_317 (by decide) ?_
      refine e_icmp_ge (tgt := 343) C dL_isStruck_318 (by decide) (fun c_318 => absurd ((nI_leI (a := 5) (b := j) (by omega) (by omega)).mp c_318) (by omega)) (fun c_318 => ?_)
      refine e_aload_n (j := 6) C dL_isStruck_321 rfl rfl ?_
      refine e_bipush (v := 24) C dL_isStruck_322 (by decide) ?_
      refine e_dup2 C dL_isStruck_324 rfl rfl ?_
      refine e_ialdN 24 C (cnt_fix (by decide)) (fun _ => rfl) rfl (by decide) (by decide) dL_isStruck_325 ?_
      refine e_iconst (v := 2) C dL_isStruck_326 (by decide) ?_
      refine e_iload (j := 2) C dL_isStruck_327 rfl ?_
      refine e_iload (j := 0) C dL_isStruck_329 rfl ?_
      refine e_ishr C dL_isStruck_331 ?_
      refine e_iconst (v := 1) C dL_isStruck_332 (by decide) ?_
      refine e_iand C dL_isStruck_333 ?_
      refine e_imul C dL_isStruck_334 ?_
      refine e_isub C dL_isStruck_335 ?_
      refine e_iastN 24 C (cnt_fix (by decide)) (fun _ _ => rfl) rfl (by decide) (by decide) dL_isStruck_336 ?_
      refine e_topM (fun M_336 hM_336 => ?_)
      refine e_iinc (j := 0) (v := (nI (j + 1))) (ls2 := [(7, .int (nI (j + 1))), (6, .int (M 12 24 / 2)), (5, .int (skS M 5)), (0, .ref (ρ 0)), (1, .ref (ρ 9)), (2, .ref (ρ 10)), (3, .ref (ρ 12)), (4, .int 1)]) C hnL dL_isStruck_337 rfl (nI_add (j) 1) (by decide) rfl ?_
      refine e_goto (tgt := 315) C dL_isStruck_340 (by decide) ?_
      exact e_sub [0, 1, 2, 3, 4, 5, 6, 7] rfl (ih (j + 1) _ (by omega) (by rw [hM_336, hT]; rfl))
  have lj : ∀ (q : Nat) (s : Int32), q < 5 → E Ξ 5 ρ J M 0 0 178 [(7, .int (nI (q + 1))), (6, .int (M 12 24 / 2)), (5, .int (s ||| (if M 9 (12 * q) = 1 then (if M 12 24 / 2 ≤ akS M q 5 then 0 else (1 : Int32) <<< (nI q &&& 31)) else 0))), (0, .ref (ρ 0)), (1, .ref (ρ 9)), (2, .ref (ρ 10)), (3, .ref (ρ 12)), (4, .int 1)] [] → ∀ (f j : Nat) (a : Int32), j + f = 5 → a = akS M q j → E Ξ 5 ρ J M 0 0 190 [(9, .int (nI j)), (8, .int a), (7, .int (nI q)), (6, .int (M 12 24 / 2)), (5, .int s), (0, .ref (ρ 0)), (1, .ref (ρ 9)), (2, .ref (ρ 10)), (3, .ref (ρ 12)), (4, .int 1)] [] := by
    intro q s hq hE f
    induction f with
    | zero =>
      intro j a hj hT
      have hj2 : j = 5 := by omega
      subst hj2
      refine e_iload (j := 0) C dL_isStruck_190 rfl ?_
      refine e_iconst (v := 5) C dL_isStruck_192 (by decide) ?_
      refine e_icmp_ge (tgt := 275) C dL_isStruck_193 (by decide) (fun c_193 => ?_) (fun c_193 => absurd ((nI_leI (a := 5) (b := 5) (by omega) (by omega)).mpr (by omega)) c_193)
      refine e_iload (j := 4) C dL_isStruck_275 rfl ?_
      refine e_aload_n (j := 6) C dL_isStruck_277 rfl rfl ?_
      refine e_bipush (v := 12) C dL_isStruck_278 (by decide) ?_
      refine e_iload (j := 2) C dL_isStruck_280 rfl ?_
      refine e_imulN 12 q (12 * q) C rfl rfl rfl dL_isStruck_282 ?_
      refine e_ialdN (12 * q) C (cnt_fix (by decide)) (fun _ => rfl) rfl (by omega) (by decide) dL_isStruck_283 ?_
      refine e_iconst (v := 1) C dL_isStruck_284 (by decide) ?_
      suffices hJ_303 : ∀ v_303 : Int32, v_303 = (if (M 9 (12 * q)) = 1 then (if (M 12 24 / 2) ≤ a then 0 else ((1 : Int32) <<< ((nI q) &&& 31))) else 0) → E Ξ 5 ρ J M 0 0 303 [(9, .int 5), (8, .int a), (7, .int (nI q)), (6, .int (M 12 24 / 2)), (5, .int s), (0, .ref (ρ 0)), (1, .ref (ρ 9)), (2, .ref (ρ 10)), (3, .ref (ρ 12)), (4, .int 1)] (.int v_303 :: .int s :: []) by
        refine e_icmp_ne (tgt := 302) C dL_isStruck_285 (by decide) (fun c_285 => ?_) (fun c_285 => ?_)
        · refine e_iconst (v := 0) C dL_isStruck_302 (by decide) ?_
          exact hJ_303 _ (by rw [if_neg c_285])
        · refine e_iload (j := 1) C dL_isStruck_288 rfl ?_
          refine e_iload (j := 3) C dL_isStruck_290 rfl ?_
          refine e_icmp_ge (tgt := 302) C dL_isStruck_292 (by decide) (fun c_292 => ?_) (fun c_292 => ?_)
          · refine e_iconst (v := 0) C dL_isStruck_302 (by decide) ?_
            exact hJ_303 _ (by rw [if_pos c_285, if_pos c_292])
          · refine e_iconst (v := 1) C dL_isStruck_295 (by decide) ?_
            refine e_iload (j := 2) C dL_isStruck_296 rfl ?_
            refine e_ishl C dL_isStruck_298 ?_
            refine e_goto (tgt := 303) C dL_isStruck_299 (by decide) ?_
            exact hJ_303 _ (by rw [if_pos c_285, if_neg c_292])
      intro v_303 hv_303
      refine e_ior C dL_isStruck_303 ?_
      refine e_topi (fun x5_304 ex5_304 => ?_)
      refine e_istore (ls2 := [(5, .int x5_304), (9, .int 5), (8, .int a), (7, .int (nI q)), (6, .int (M 12 24 / 2)), (0, .ref (ρ 0)), (1, .ref (ρ 9)), (2, .ref (ρ 10)), (3, .ref (ρ 12)), (4, .int 1)]) C hnL dL_isStruck_304 (by decide) rfl ?_
      refine e_iinc (j := 3) (v := (nI (q + 1))) (ls2 := [(7, .int (nI (q + 1))), (5, .int x5_304), (9, .int 5), (8, .int a), (6, .int (M 12 24 / 2)), (0, .ref (ρ 0)), (1, .ref (ρ 9)), (2, .ref (ρ 10)), (3, .ref (ρ 12)), (4, .int 1)]) C hnL dL_isStruck_306 rfl (nI_add (q) 1) (by decide) rfl ?_
      refine e_goto (tgt := 178) C dL_isStruck_309 (by decide) ?_
      rw [ex5_304, hv_303, hT]
      exact e_sub [0, 4, 1, 5, 6, 7, 8, 9] rfl hE
    | succ f ih =>
      intro j a hj hT
      refine e_iload (j := 0) C dL_isStruck_190 rfl ?_
      refine e_iconst (v := 5) C dL_isStruck_192 (by decide) ?_
      refine e_icmp_ge (tgt := 275) C dL_isStruck_193 (by decide) (fun c_193 => absurd ((nI_leI (a := 5) (b := j) (by omega) (by omega)).mp c_193) (by omega)) (fun c_193 => ?_)
      refine e_aload_n (j := 6) C dL_isStruck_196 rfl rfl ?_
      refine e_bipush (v := 12) C dL_isStruck_197 (by decide) ?_
      refine e_iload (j := 0) C dL_isStruck_199 rfl ?_
      refine e_imulN 12 j (12 * j) C rfl rfl rfl dL_isStruck_201 ?_
      refine e_iconst (v := 2) C dL_isStruck_202 (by decide) ?_
      refine e_iaddN (12 * j) 2 (12 * j + 2) C rfl rfl rfl dL_isStruck_203 ?_
      refine e_ialdN (12 * j + 2) C (cnt_fix (by decide)) (fun _ => rfl) rfl (by omega) (by decide) dL_isStruck_204 ?_
      refine e_aload_n (j := 7) C dL_isStruck_205 rfl rfl ?_
      refine e_iload (j := 0) C dL_isStruck_206 rfl ?_
      refine e_cS (nA := 2) C (L_has hl (k := j) (by omega)) rfl mw_276 mw_274 mw_275 mw_2 (by decide +kernel) (by decide) rfl rfl (Nat.le_of_ble_eq_true rfl) dL_isStruck_208 (Nat.le_of_ble_eq_true rfl) (Nat.le_of_ble_eq_true rfl) ?_
      refine e_iadd C dL_isStruck_211 ?_
      refine e_aload_n (j := 6) C dL_isStruck_212 rfl rfl ?_
      refine e_bipush (v := 12) C dL_isStruck_213 (by decide) ?_
      refine e_iload (j := 2) C dL_isStruck_215 rfl ?_
      refine e_imulN 12 q (12 * q) C rfl rfl rfl dL_isStruck_217 ?_
      refine e_iconst (v := 2) C dL_isStruck_218 (by decide) ?_
      refine e_iaddN (12 * q) 2 (12 * q + 2) C rfl rfl rfl dL_isStruck_219 ?_
      refine e_ialdN (12 * q + 2) C (cnt_fix (by decide)) (fun _ => rfl) rfl (by omega) (by decide) dL_isStruck_220 ?_
      refine e_isub C dL_isStruck_221 ?_
      refine e_aload_n (j := 7) C dL_isStruck_222 rfl rfl ?_
      refine e_iload (j := 2) C dL_isStruck_223 rfl ?_
      refine e_cS (nA := 2) C (L_has hl (k := q) (by omega)) rfl mw_276 mw_274 mw_275 mw_2 (by decide +kernel) (by decide) rfl rfl (Nat.le_of_ble_eq_true rfl) dL_isStruck_225 (Nat.le_of_ble_eq_true rfl) (Nat.le_of_ble_eq_true rfl) ?_
      refine e_isub C dL_isStruck_228 ?_
      refine e_topi (fun x10_229 ex10_229 => ?_)
      refine e_istore (ls2 := [(10, .int x10_229), (9, .int (nI j)), (8, .int a), (7, .int (nI q)), (6, .int (M 12 24 / 2)), (5, .int s), (0, .ref (ρ 0)), (1, .ref (ρ 9)), (2, .ref (ρ 10)), (3, .ref (ρ 12)), (4, .int 1)]) C hnL dL_isStruck_229 (by decide) rfl ?_
      refine e_iload (j := 2) C dL_isStruck_231 rfl ?_
      refine e_aload_n (j := 7) C dL_isStruck_233 rfl rfl ?_
      refine e_bipush (v := 12) C dL_isStruck_234 (by decide) ?_
      refine e_iload (j := 1) C dL_isStruck_236 rfl ?_
      refine e_imulN 12 j (12 * j) C rfl rfl rfl dL_isStruck_238 ?_
      refine e_ialdN (12 * j) C (cnt_fix (by decide)) (fun _ => rfl) rfl (by omega) (by decide) dL_isStruck_239 ?_
      refine e_iconst (v := 1) C dL_isStruck_240 (by decide) ?_
      suffices hJ_266 : ∀ v_266 : Int32, v_266 = (if (M 9 (12 * j)) = 1 then (if x10_229 < 0 then 1 else (if x10_229 = 0 then (if (nI q) ≤ (nI j) then 0 else 1) else 0)) else 0) → E Ξ 5 ρ J M ((0 + 0) + 0) ((0 + 0) + 0) 266 [(10, .int x10_229), (9, .int (nI j)), (8, .int a), (7, .int (nI q)), (6, .int (M 12 24 / 2)), (5, .int s), (0, .ref (ρ 0)), (1, .ref (ρ 9)), (2, .ref (ρ 10)), (3, .ref (ρ 12)), (4, .int 1)] (.int v_266 :: .int a :: []) by
        refine e_icmp_ne (tgt := 265) C dL_isStruck_241 (by decide) (fun c_241 => ?_) (fun c_241 => ?_)
        · refine e_iconst (v := 0) C dL_isStruck_265 (by decide) ?_
          exact hJ_266 _ (by rw [if_neg c_241])
        · refine e_iload (j := 0) C dL_isStruck_244 rfl ?_
          refine e_if_lt (tgt := 261) C dL_isStruck_246 (by decide) (fun c_246 => ?_) (fun c_246 => ?_)
          · refine e_iconst (v := 1) C dL_isStruck_261 (by decide) ?_
            refine e_goto (tgt := 266) C dL_isStruck_262 (by decide) ?_
            exact hJ_266 _ (by rw [if_pos c_241, if_pos c_246])
          · refine e_iload (j := 0) C dL_isStruck_249 rfl ?_
            refine e_if_ne (tgt := 265) C dL_isStruck_251 (by decide) (fun c_251 => ?_) (fun c_251 => ?_)
            · refine e_iconst (v := 0) C dL_isStruck_265 (by decide) ?_
              exact hJ_266 _ (by rw [if_pos c_241, if_neg c_246, if_neg c_251])
            · refine e_iload (j := 1) C dL_isStruck_254 rfl ?_
              refine e_iload (j := 3) C dL_isStruck_256 rfl ?_
              refine e_icmp_ge (tgt := 265) C dL_isStruck_258 (by decide) (fun c_258 => ?_) (fun c_258 => ?_)
              · have n_258 : q ≤ j := (nI_leI (a := q) (b := j) (by omega) (by omega)).mp c_258
                refine e_iconst (v := 0) C dL_isStruck_265 (by decide) ?_
                exact hJ_266 _ (by rw [if_pos c_241, if_neg c_246, if_pos c_251, if_pos c_258])
              · have n_258 : ¬ (q ≤ j) := fun h => c_258 ((nI_leI (a := q) (b := j) (by omega) (by omega)).mpr h)
                refine e_iconst (v := 1) C dL_isStruck_261 (by decide) ?_
                refine e_goto (tgt := 266) C dL_isStruck_262 (by decide) ?_
                exact hJ_266 _ (by rw [if_pos c_241, if_neg c_246, if_pos c_251, if_neg c_258])
      intro v_266 hv_266
      refine e_iadd C dL_isStruck_266 ?_
      refine e_topi (fun x8_267 ex8_267 => ?_)
      refine e_istore (ls2 := [(8, .int x8_267), (10, .int x10_229), (9, .int (nI j)), (7, .int (nI q)), (6, .int (M 12 24 / 2)), (5, .int s), (0, .ref (ρ 0)), (1, .ref (ρ 9)), (2, .ref (ρ 10)), (3, .ref (ρ 12)), (4, .int 1)]) C hnL dL_isStruck_267 (by decide) rfl ?_
      refine e_iinc (j := 2) (v := (nI (j + 1))) (ls2 := [(9, .int (nI (j + 1))), (8, .int x8_267), (10, .int x10_229), (7, .int (nI q)), (6, .int (M 12 24 / 2)), (5, .int s), (0, .ref (ρ 0)), (1, .ref (ρ 9)), (2, .ref (ρ 10)), (3, .ref (ρ 12)), (4, .int 1)]) C hnL dL_isStruck_269 rfl (nI_add (j) 1) (by decide) rfl ?_
      refine e_goto (tgt := 190) C dL_isStruck_272 (by decide) ?_
      exact e_sub [0, 1, 3, 4, 5, 6, 7, 8, 9, 10] rfl (ih (j + 1) _ (by omega) (by rw [ex8_267, hv_266, hT, akS_s, show byL M q j = x10_229 from ex10_229.symm]))
  have lk : ∀ (f j : Nat) (s : Int32), j + f = 5 → s = skS M j → E Ξ 5 ρ J M 0 0 178 [(7, .int (nI j)), (6, .int (M 12 24 / 2)), (5, .int s), (0, .ref (ρ 0)), (1, .ref (ρ 9)), (2, .ref (ρ 10)), (3, .ref (ρ 12)), (4, .int 1)] [] := by
    intro f
    induction f with
    | zero =>
      intro j s hj hT
      have hj2 : j = 5 := by omega
      subst hj2 hT
      refine e_iload (j := 0) C dL_isStruck_178 rfl ?_
      refine e_iconst (v := 5) C dL_isStruck_180 (by decide) ?_
      refine e_icmp_ge (tgt := 312) C dL_isStruck_181 (by decide) (fun c_181 => ?_) (fun c_181 => absurd ((nI_leI (a := 5) (b := 5) (by omega) (by omega)).mpr (by omega)) c_181)
      refine e_iconst (v := 0) C dL_isStruck_312 (by decide) ?_
      refine e_istore (ls2 := [(7, .int 0), (6, .int (M 12 24 / 2)), (5, .int (skS M 5)), (0, .ref (ρ 0)), (1, .ref (ρ 9)), (2, .ref (ρ 10)), (3, .ref (ρ 12)), (4, .int 1)]) C hnL dL_isStruck_313 (by decide) rfl ?_
      exact e_sub [0, 1, 2, 3, 4, 5, 6, 7] rfl (lc 5 0 M (by omega) rfl)
    | succ f ih =>
      intro j s hj hT
      refine e_iload (j := 0) C dL_isStruck_178 rfl ?_
      refine e_iconst (v := 5) C dL_isStruck_180 (by decide) ?_
      refine e_icmp_ge (tgt := 312) C dL_isStruck_181 (by decide) (fun c_181 => absurd ((nI_leI (a := 5) (b := j) (by omega) (by omega)).mp c_181) (by omega)) (fun c_181 => ?_)
      refine e_iconst (v := 0) C dL_isStruck_184 (by decide) ?_
      refine e_istore (ls2 := [(8, .int 0), (7, .int (nI j)), (6, .int (M 12 24 / 2)), (5, .int s), (0, .ref (ρ 0)), (1, .ref (ρ 9)), (2, .ref (ρ 10)), (3, .ref (ρ 12)), (4, .int 1)]) C hnL dL_isStruck_185 (by decide) rfl ?_
      refine e_iconst (v := 0) C dL_isStruck_187 (by decide) ?_
      refine e_istore (ls2 := [(9, .int 0), (8, .int 0), (7, .int (nI j)), (6, .int (M 12 24 / 2)), (5, .int s), (0, .ref (ρ 0)), (1, .ref (ρ 9)), (2, .ref (ρ 10)), (3, .ref (ρ 12)), (4, .int 1)]) C hnL dL_isStruck_188 (by decide) rfl ?_
      exact e_sub [0, 1, 2, 3, 4, 5, 6, 7, 8, 9] rfl (lj j s (by omega) (ih (j + 1) _ (by omega) (by rw [hT]; rfl)) 5 0 0 (by omega) rfl)
  refine e_iload (j := 4) C dL_isStruck_0 rfl ?_
  refine e_if_ne (tgt := 155) C dL_isStruck_2 (by decide) (fun c_2 => ?_) (fun c_2 => absurd ((nI_eq (a := 1) (b := 0) (by omega) (by omega)).mp c_2) (by omega))
  refine e_aload_n (j := 3) C dL_isStruck_155 rfl rfl ?_
  refine e_bipush (v := 22) C dL_isStruck_156 (by decide) ?_
  refine e_ialdN 22 C (cnt_fix (by decide)) (fun _ => rfl) rfl (by decide) (by decide) dL_isStruck_158 ?_
  refine e_if_ne (tgt := 164) C dL_isStruck_159 (by decide) (fun c_159 => ?_) (fun c_159 => absurd c_159 h)
  refine e_iconst (v := 0) C dL_isStruck_164 (by decide) ?_
  refine e_istore (ls2 := [(5, .int 0), (0, .ref (ρ 0)), (1, .ref (ρ 9)), (2, .ref (ρ 10)), (3, .ref (ρ 12)), (4, .int 1)]) C hnL dL_isStruck_165 (by decide) rfl ?_
  refine e_aload_n (j := 4) C dL_isStruck_167 rfl rfl ?_
  refine e_bipush (v := 24) C dL_isStruck_168 (by decide) ?_
  refine e_ialdN 24 C (cnt_fix (by decide)) (fun _ => rfl) rfl (by decide) (by decide) dL_isStruck_170 ?_
  refine e_iconst (v := 2) C dL_isStruck_171 (by decide) ?_
  refine e_idiv C dL_isStruck_172 (by decide) ?_
  refine e_topi (fun x6_173 ex6_173 => ?_)
  refine e_istore (ls2 := [(6, .int x6_173), (5, .int 0), (0, .ref (ρ 0)), (1, .ref (ρ 9)), (2, .ref (ρ 10)), (3, .ref (ρ 12)), (4, .int 1)]) C hnL dL_isStruck_173 (by decide) rfl ?_
  refine e_iconst (v := 0) C dL_isStruck_175 (by decide) ?_
  refine e_istore (ls2 := [(7, .int 0), (6, .int x6_173), (5, .int 0), (0, .ref (ρ 0)), (1, .ref (ρ 9)), (2, .ref (ρ 10)), (3, .ref (ρ 12)), (4, .int 1)]) C hnL dL_isStruck_176 (by decide) rfl ?_
  subst ex6_173
  exact e_sub [0, 1, 2, 3, 4, 5, 6, 7] rfl (lk 5 0 0 (by omega) rfl)
def clT (N : Mem) (i : Nat) : Nat → Int64
  | 0 => 0
  | j + 1 => clT N i j + (N 10 (12 * j + i)).toInt64
def gtL (u h : Int64) (p : Int32) : Int64 := if 0 < lg_cmp u h then p.toInt64 * h / u else p.toInt64
def cr1 (N : Mem) (j : Nat) (v : Int32) : Mem := up N 9 (12 * j + 2) (N 9 (12 * j + 2) + v)
def cr2 (N : Mem) (j i : Nat) : Mem := up N 9 (12 * j + 11) (N 9 (12 * j + 11) + N 10 (12 * j + i))
def cr3 (N : Mem) (j i : Nat) : Mem := up N 12 30 (N 12 30 + N 10 (12 * j + i))
def cr4 (N : Mem) (j i : Nat) (v : Int32) : Mem := up (cr3 (cr2 (cr1 N j v) j i) j i) 10 (12 * j + i) 0
def clI (N : Mem) (i : Nat) (u h : Int64) (l : Int32) : Nat → Mem × Int32
  | 0 => (N, l)
  | j + 1 => (cr4 (clI N i u h l j).1 j i (gtL u h ((clI N i u h l j).1 10 (12 * j + i))).toInt32, (clI N i u h l j).2 - (gtL u h ((clI N i u h l j).1 10 (12 * j + i))).toInt32)
theorem clI_s (N : Mem) (i : Nat) (u h : Int64) (l : Int32) (j : Nat) : clI N i u h l (j + 1) = (cr4 (clI N i u h l j).1 j i (gtL u h ((clI N i u h l j).1 10 (12 * j + i))).toInt32, (clI N i u h l j).2 - (gtL u h ((clI N i u h l j).1 10 (12 * j + i))).toInt32) := rfl
def ccS (M : Mem) (m : Int32) : Nat → Mem × Int32
  | 0 => (M, m)
  | i + 1 => clI (ccS M m i).1 i (clT (ccS M m i).1 i 5) (ccS M m i).2.toInt64 (ccS M m i).2 5
theorem ccS_s (M : Mem) (m : Int32) (i : Nat) : ccS M m (i + 1) = clI (ccS M m i).1 i (clT (ccS M m i).1 i 5) (ccS M m i).2.toInt64 (ccS M m i).2 5 := rfl
def ccF (N : Mem) : Mem := up (up N 12 23 1) 12 22 0
theorem lgt0 {x : Int64} {l : Int32} (h : 0 < lg_cmp x l.toInt64) (hl : 0 ≤ l.toInt) : ¬ x = 0 := by
  intro e
  subst e
  have h1 : (l.toInt64).toInt = l.toInt := Int32.toInt_toInt64 l
  unfold lg_cmp at h
  split at h
  · rename_i h2
    have h3 := Int64.lt_iff_toInt_lt.mp h2
    rw [h1] at h3
    have h4 : (0 : Int64).toInt = 0 := rfl
    omega
  · split at h
    · exact absurd h (by decide)
    · exact absurd h (by decide)
set_option maxRecDepth 100000 in
set_option maxHeartbeats 1000000 in
theorem L_isClosed_0 {l : Launch} (hl : l.stackTraces = false) {ρ : Nat → Nat} {J : Nat → Int64} {M : Mem} {z : Nat} (hz : z < 1000000000) (h : M 12 23 = 1) : CtO l yL_isClosed cL_isClosed 15 (some .boolean) 10 13 78 5 ρ J M [.ref (ρ 0), .ref (ρ 9), .ref (ρ 10), .ref (ρ 12), .int (nI z)] (rI 1 M) := by
  refine CtO.of hl (by decide +kernel) (Nat.le_of_ble_eq_true rfl) (fun Ξ hnL C => ?_)
  show E Ξ 5 ρ J M 0 0 0 [(0, .ref (ρ 0)), (1, .ref (ρ 9)), (2, .ref (ρ 10)), (3, .ref (ρ 12)), (4, .int (nI z))] []
  refine e_aload_n (j := 3) C dL_isClosed_0 rfl rfl ?_
  refine e_bipush (v := 23) C dL_isClosed_1 (by decide) ?_
  refine e_ialdN 23 C (cnt_fix (by decide)) (fun _ => rfl) rfl (by decide) (by decide) dL_isClosed_3 ?_
  refine e_iconst (v := 1) C dL_isClosed_4 (by decide) ?_
  refine e_icmp_ne (tgt := 10) C dL_isClosed_5 (by decide) (fun c_5 => absurd h c_5) (fun c_5 => ?_)
  refine e_iconst (v := 1) C dL_isClosed_8 (by decide) ?_
  exact e_zret C rfl rfl (Nat.le_of_ble_eq_true rfl) (Nat.le_of_ble_eq_true rfl) dL_isClosed_9 (pO.mk rfl)
set_option maxRecDepth 100000 in
set_option maxHeartbeats 1000000 in
theorem L_isClosed {l : Launch} (hl : l.stackTraces = false) {ρ : Nat → Nat} {J : Nat → Int64} {M : Mem} {z : Nat} (hz : z < 1000000000) {m q : Nat} (hq : (if z / 7 % 2 = 0 then 600 else 100001) = q) (hq2 : q = 600 ∨ q = 100001) (hm : z % q = m) (h : ¬ M 12 23 = 1) (hnn : ∀ i, i < 12 → 0 ≤ (ccS M (nI m) i).2.toInt) {K : Mem} (hcall : o_close (ccF (ccS M (nI m) 12).1) 5 (nI m) = rI (ccS M (nI m) 12).2 K) : CtO l yL_isClosed cL_isClosed 15 (some .boolean) 10 13 78 5 ρ J M [.ref (ρ 0), .ref (ρ 9), .ref (ρ 10), .ref (ρ 12), .int (nI z)] (rI 1 K) := by
  refine CtO.of hl (by decide +kernel) (Nat.le_of_ble_eq_true rfl) (fun Ξ hnL C => ?_)
  show E Ξ 5 ρ J M 0 0 0 [(0, .ref (ρ 0)), (1, .ref (ρ 9)), (2, .ref (ρ 10)), (3, .ref (ρ 12)), (4, .int (nI z))] []
  have li : ∀ (i : Nat) (N0 : Mem) (u : Int64) (l0 : Int32), i < 12 → 0 ≤ l0.toInt → ∀ h : Int64, h = l0.toInt64 → (∀ S : Mem × Int32, S = clI N0 i u h l0 5 → E Ξ 5 ρ J S.1 0 0 40 [(7, .int (nI (i + 1))), (6, .int S.2), (5, .int (nI m)), (0, .ref (ρ 0)), (1, .ref (ρ 9)), (2, .ref (ρ 10)), (3, .ref (ρ 12)), (4, .int (nI z))] []) → ∀ (f j : Nat) (S : Mem × Int32), j + f = 5 → S = clI N0 i u h l0 j → E Ξ 5 ρ J S.1 0 0 89 [(12, .int (nI j)), (10, .long h), (8, .long u), (7, .int (nI i)), (6, .int S.2), (5, .int (nI m)), (0, .ref (ρ 0)), (1, .ref (ρ 9)), (2, .ref (ρ 10)), (3, .ref (ρ 12)), (4, .int (nI z))] [] := by
    intro i N0 u l0 hi hl0 h hh hE f
    induction f with
    | zero =>
      intro j S hj hS
      have hj2 : j = 5 := by omega
      subst hj2
      refine e_iload (j := 0) C dL_isClosed_89 rfl ?_
      refine e_iconst (v := 5) C dL_isClosed_91 (by decide) ?_
      refine e_icmp_ge (tgt := 216) C dL_isClosed_92 (by decide) (fun c_92 => ?_) (fun c_92 => absurd ((nI_leI (a := 5) (b := 5) (by omega) (by omega)).mpr (by omega)) c_92)
      refine e_iinc (j := 3) (v := (nI (i + 1))) (ls2 := [(7, .int (nI (i + 1))), (12, .int 5), (10, .long h), (8, .long u), (6, .int S.2), (5, .int (nI m)), (0, .ref (ρ 0)), (1, .ref (ρ 9)), (2, .ref (ρ 10)), (3, .ref (ρ 12)), (4, .int (nI z))]) C hnL dL_isClosed_216 rfl (nI_add (i) 1) (by decide) rfl ?_
      refine e_goto (tgt := 40) C dL_isClosed_219 (by decide) ?_
      exact e_sub [0, 4, 5, 6, 7, 8, 9, 10] rfl (hE S hS)
    | succ f ih =>
      intro j S hj hS
      have hps := clI_s N0 i u h l0 j
      rw [← hS] at hps
      refine e_iload (j := 0) C dL_isClosed_89 rfl ?_
      refine e_iconst (v := 5) C dL_isClosed_91 (by decide) ?_
      refine e_icmp_ge (tgt := 216) C dL_isClosed_92 (by decide) (fun c_92 => absurd ((nI_leI (a := 5) (b := j) (by omega) (by omega)).mp c_92) (by omega)) (fun c_92 => ?_)
      refine e_lload (j := 2) C dL_isClosed_95 rfl ?_
      refine e_lload (j := 1) C dL_isClosed_97 rfl ?_
      refine e_lcmp C dL_isClosed_99 ?_
      suffices hJ_134 : ∀ v_134 : Int64, v_134 = (if 0 < (lg_cmp u h) then ((((S.1 10 (12 * j + i))).toInt64 * h) / u) else ((S.1 10 (12 * j + i))).toInt64) → E Ξ 5 ρ J S.1 0 0 134 [(12, .int (nI j)), (10, .long h), (8, .long u), (7, .int (nI i)), (6, .int S.2), (5, .int (nI m)), (0, .ref (ρ 0)), (1, .ref (ρ 9)), (2, .ref (ρ 10)), (3, .ref (ρ 12)), (4, .int (nI z))] (.long v_134 :: []) by
        refine e_if_gt (tgt := 117) C dL_isClosed_100 (by decide) (fun c_100 => ?_) (fun c_100 => ?_)
        · refine e_aload_n (j := 8) C dL_isClosed_117 rfl rfl ?_
          refine e_bipush (v := 12) C dL_isClosed_118 (by decide) ?_
          refine e_iload (j := 0) C dL_isClosed_120 rfl ?_
          refine e_imulN 12 j (12 * j) C rfl rfl rfl dL_isClosed_122 ?_
          refine e_iload (j := 3) C dL_isClosed_123 rfl ?_
          refine e_iaddN (12 * j) i (12 * j + i) C rfl rfl rfl dL_isClosed_125 ?_
          refine e_ialdN (12 * j + i) C (cnt_fix (by decide)) (fun _ => rfl) rfl (by omega) (by decide) dL_isClosed_126 ?_
          refine e_i2l C dL_isClosed_127 ?_
          refine e_lload (j := 1) C dL_isClosed_128 rfl ?_
          refine e_lmul C dL_isClosed_130 ?_
          refine e_lload (j := 2) C dL_isClosed_131 rfl ?_
          refine e_ldiv C dL_isClosed_133 (lgt0 (hh ▸ c_100) hl0) ?_
          exact hJ_134 _ (by rw [if_pos c_100])
        · refine e_aload_n (j := 8) C dL_isClosed_103 rfl rfl ?_
          refine e_bipush (v := 12) C dL_isClosed_104 (by decide) ?_
          refine e_iload (j := 0) C dL_isClosed_106 rfl ?_
          refine e_imulN 12 j (12 * j) C rfl rfl rfl dL_isClosed_108 ?_
          refine e_iload (j := 3) C dL_isClosed_109 rfl ?_
          refine e_iaddN (12 * j) i (12 * j + i) C rfl rfl rfl dL_isClosed_111 ?_
          refine e_ialdN (12 * j + i) C (cnt_fix (by decide)) (fun _ => rfl) rfl (by omega) (by decide) dL_isClosed_112 ?_
          refine e_i2l C dL_isClosed_113 ?_
          refine e_goto (tgt := 134) C dL_isClosed_114 (by decide) ?_
          exact hJ_134 _ (by rw [if_neg c_100])
      intro v_134 hv_134
      refine e_lstore (ls2 := [(13, .long v_134), (12, .int (nI j)), (10, .long h), (8, .long u), (7, .int (nI i)), (6, .int S.2), (5, .int (nI m)), (0, .ref (ρ 0)), (1, .ref (ρ 9)), (2, .ref (ρ 10)), (3, .ref (ρ 12)), (4, .int (nI z))]) C hnL dL_isClosed_134 (by decide) rfl ?_
      refine e_aload_n (j := 8) C dL_isClosed_136 rfl rfl ?_
      refine e_bipush (v := 12) C dL_isClosed_137 (by decide) ?_
      refine e_iload (j := 1) C dL_isClosed_139 rfl ?_
      refine e_imulN 12 j (12 * j) C rfl rfl rfl dL_isClosed_141 ?_
      refine e_iconst (v := 2) C dL_isClosed_142 (by decide) ?_
      refine e_iaddN (12 * j) 2 (12 * j + 2) C rfl rfl rfl dL_isClosed_143 ?_
      refine e_dup2 C dL_isClosed_144 rfl rfl ?_
      refine e_ialdN (12 * j + 2) C (cnt_fix (by decide)) (fun _ => rfl) rfl (by omega) (by decide) dL_isClosed_145 ?_
      refine e_lload (j := 0) C dL_isClosed_146 rfl ?_
      refine e_l2i C dL_isClosed_148 ?_
      refine e_iadd C dL_isClosed_149 ?_
      refine e_iastN (12 * j + 2) C (cnt_fix (by decide)) (fun _ _ => rfl) rfl (by omega) (by decide) dL_isClosed_150 ?_
      refine e_topM (fun M_150 hM_150 => ?_)
      refine e_iload (j := 5) C dL_isClosed_151 rfl ?_
      refine e_lload (j := 0) C dL_isClosed_153 rfl ?_
      refine e_l2i C dL_isClosed_155 ?_
      refine e_isub C dL_isClosed_156 ?_
      refine e_topi (fun x6_157 ex6_157 => ?_)
      refine e_istore (ls2 := [(6, .int x6_157), (13, .long v_134), (12, .int (nI j)), (10, .long h), (8, .long u), (7, .int (nI i)), (5, .int (nI m)), (0, .ref (ρ 0)), (1, .ref (ρ 9)), (2, .ref (ρ 10)), (3, .ref (ρ 12)), (4, .int (nI z))]) C hnL dL_isClosed_157 (by decide) rfl ?_
      refine e_aload_n (j := 8) C dL_isClosed_159 rfl rfl ?_
      refine e_bipush (v := 12) C dL_isClosed_160 (by decide) ?_
      refine e_iload (j := 2) C dL_isClosed_162 rfl ?_
      refine e_imulN 12 j (12 * j) C rfl rfl rfl dL_isClosed_164 ?_
      refine e_bipush (v := 11) C dL_isClosed_165 (by decide) ?_
      refine e_iaddN (12 * j) 11 (12 * j + 11) C rfl rfl rfl dL_isClosed_167 ?_
      refine e_dup2 C dL_isClosed_168 rfl rfl ?_
      refine e_ialdN (12 * j + 11) C (cnt_fix (by decide)) (fun _ => rfl) rfl (by omega) (by decide) dL_isClosed_169 ?_
      refine e_aload_n (j := 9) C dL_isClosed_170 rfl rfl ?_
      refine e_bipush (v := 12) C dL_isClosed_171 (by decide) ?_
      refine e_iload (j := 2) C dL_isClosed_173 rfl ?_
      refine e_imulN 12 j (12 * j) C rfl rfl rfl dL_isClosed_175 ?_
      refine e_iload (j := 5) C dL_isClosed_176 rfl ?_
      refine e_iaddN (12 * j) i (12 * j + i) C rfl rfl rfl dL_isClosed_178 ?_
      refine e_ialdN (12 * j + i) C (cnt_fix (by decide)) (fun _ => rfl) rfl (by omega) (by decide) dL_isClosed_179 ?_
      refine e_iadd C dL_isClosed_180 ?_
      refine e_iastN (12 * j + 11) C (cnt_fix (by decide)) (fun _ _ => rfl) rfl (by omega) (by decide) dL_isClosed_181 ?_
      refine e_topM (fun M_181 hM_181 => ?_)
      refine e_aload_n (j := 10) C dL_isClosed_182 rfl rfl ?_
      refine e_bipush (v := 30) C dL_isClosed_183 (by decide) ?_
      refine e_dup2 C dL_isClosed_185 rfl rfl ?_
      refine e_ialdN 30 C (cnt_fix (by decide)) (fun _ => rfl) rfl (by decide) (by decide) dL_isClosed_186 ?_
      refine e_aload_n (j := 9) C dL_isClosed_187 rfl rfl ?_
      refine e_bipush (v := 12) C dL_isClosed_188 (by decide) ?_
      refine e_iload (j := 2) C dL_isClosed_190 rfl ?_
      refine e_imulN 12 j (12 * j) C rfl rfl rfl dL_isClosed_192 ?_
      refine e_iload (j := 5) C dL_isClosed_193 rfl ?_
      refine e_iaddN (12 * j) i (12 * j + i) C rfl rfl rfl dL_isClosed_195 ?_
      refine e_ialdN (12 * j + i) C (cnt_fix (by decide)) (fun _ => rfl) rfl (by omega) (by decide) dL_isClosed_196 ?_
      refine e_iadd C dL_isClosed_197 ?_
      refine e_iastN 30 C (cnt_fix (by decide)) (fun _ _ => rfl) rfl (by decide) (by decide) dL_isClosed_198 ?_
      refine e_topM (fun M_198 hM_198 => ?_)
      refine e_aload_n (j := 9) C dL_isClosed_199 rfl rfl ?_
      refine e_bipush (v := 12) C dL_isClosed_200 (by decide) ?_
      refine e_iload (j := 2) C dL_isClosed_202 rfl ?_
      refine e_imulN 12 j (12 * j) C rfl rfl rfl dL_isClosed_204 ?_
      refine e_iload (j := 5) C dL_isClosed_205 rfl ?_
      refine e_iaddN (12 * j) i (12 * j + i) C rfl rfl rfl dL_isClosed_207 ?_
      refine e_iconst (v := 0) C dL_isClosed_208 (by decide) ?_
      refine e_iastN (12 * j + i) C (cnt_fix (by decide)) (fun _ _ => rfl) rfl (by omega) (by decide) dL_isClosed_209 ?_
      refine e_topM (fun M_209 hM_209 => ?_)
      refine e_iinc (j := 2) (v := (nI (j + 1))) (ls2 := [(12, .int (nI (j + 1))), (6, .int x6_157), (13, .long v_134), (10, .long h), (8, .long u), (7, .int (nI i)), (5, .int (nI m)), (0, .ref (ρ 0)), (1, .ref (ρ 9)), (2, .ref (ρ 10)), (3, .ref (ρ 12)), (4, .int (nI z))]) C hnL dL_isClosed_210 rfl (nI_add (j) 1) (by decide) rfl ?_
      refine e_goto (tgt := 89) C dL_isClosed_213 (by decide) ?_
      exact e_sub [0, 3, 4, 5, 1, 6, 7, 8, 9, 10, 11] rfl (ih (j + 1) (_, _) (by omega) (by rw [hps, hM_209, hM_198, hM_181, hM_150, ex6_157, hv_134]; rfl))
  have lt : ∀ (i : Nat) (S : Mem × Int32), i < 12 → 0 ≤ S.2.toInt → (∀ S2 : Mem × Int32, S2 = clI S.1 i (clT S.1 i 5) S.2.toInt64 S.2 5 → E Ξ 5 ρ J S2.1 0 0 40 [(7, .int (nI (i + 1))), (6, .int S2.2), (5, .int (nI m)), (0, .ref (ρ 0)), (1, .ref (ρ 9)), (2, .ref (ρ 10)), (3, .ref (ρ 12)), (4, .int (nI z))] []) → ∀ (f j : Nat) (u : Int64), j + f = 5 → u = clT S.1 i j → E Ξ 5 ρ J S.1 0 0 53 [(10, .int (nI j)), (8, .long u), (7, .int (nI i)), (6, .int S.2), (5, .int (nI m)), (0, .ref (ρ 0)), (1, .ref (ρ 9)), (2, .ref (ρ 10)), (3, .ref (ρ 12)), (4, .int (nI z))] [] := by
    intro i S hi hl0 hE f
    induction f with
    | zero =>
      intro j u hj hu
      have hj2 : j = 5 := by omega
      subst hj2 hu
      refine e_iload (j := 0) C dL_isClosed_53 rfl ?_
      refine e_iconst (v := 5) C dL_isClosed_55 (by decide) ?_
      refine e_icmp_ge (tgt := 81) C dL_isClosed_56 (by decide) (fun c_56 => ?_) (fun c_56 => absurd ((nI_leI (a := 5) (b := 5) (by omega) (by omega)).mpr (by omega)) c_56)
      refine e_iload (j := 3) C dL_isClosed_81 rfl ?_
      refine e_i2l C dL_isClosed_83 ?_
      refine e_topl (fun x10_84 ex10_84 => ?_)
      refine e_lstore (ls2 := [(10, .long x10_84), (8, .long (clT S.1 i 5)), (7, .int (nI i)), (6, .int S.2), (5, .int (nI m)), (0, .ref (ρ 0)), (1, .ref (ρ 9)), (2, .ref (ρ 10)), (3, .ref (ρ 12)), (4, .int (nI z))]) C hnL dL_isClosed_84 (by decide) rfl ?_
      refine e_iconst (v := 0) C dL_isClosed_86 (by decide) ?_
      refine e_istore (ls2 := [(12, .int 0), (10, .long x10_84), (8, .long (clT S.1 i 5)), (7, .int (nI i)), (6, .int S.2), (5, .int (nI m)), (0, .ref (ρ 0)), (1, .ref (ρ 9)), (2, .ref (ρ 10)), (3, .ref (ρ 12)), (4, .int (nI z))]) C hnL dL_isClosed_87 (by decide) rfl ?_
      exact e_sub [0, 1, 2, 3, 4, 5, 6, 7, 8, 9, 10] rfl (li i S.1 _ S.2 hi hl0 _ ex10_84 (by rw [ex10_84]; exact hE) 5 0 (S.1, S.2) (by omega) rfl)
    | succ f ih =>
      intro j u hj hu
      refine e_iload (j := 0) C dL_isClosed_53 rfl ?_
      refine e_iconst (v := 5) C dL_isClosed_55 (by decide) ?_
      refine e_icmp_ge (tgt := 81) C dL_isClosed_56 (by decide) (fun c_56 => absurd ((nI_leI (a := 5) (b := j) (by omega) (by omega)).mp c_56) (by omega)) (fun c_56 => ?_)
      refine e_lload (j := 1) C dL_isClosed_59 rfl ?_
      refine e_aload_n (j := 7) C dL_isClosed_61 rfl rfl ?_
      refine e_bipush (v := 12) C dL_isClosed_62 (by decide) ?_
      refine e_iload (j := 0) C dL_isClosed_64 rfl ?_
      refine e_imulN 12 j (12 * j) C rfl rfl rfl dL_isClosed_66 ?_
      refine e_iload (j := 2) C dL_isClosed_67 rfl ?_
      refine e_iaddN (12 * j) i (12 * j + i) C rfl rfl rfl dL_isClosed_69 ?_
      refine e_ialdN (12 * j + i) C (cnt_fix (by decide)) (fun _ => rfl) rfl (by omega) (by decide) dL_isClosed_70 ?_
      refine e_i2l C dL_isClosed_71 ?_
      refine e_ladd C dL_isClosed_72 ?_
      refine e_topl (fun x8_73 ex8_73 => ?_)
      refine e_lstore (ls2 := [(8, .long x8_73), (10, .int (nI j)), (7, .int (nI i)), (6, .int S.2), (5, .int (nI m)), (0, .ref (ρ 0)), (1, .ref (ρ 9)), (2, .ref (ρ 10)), (3, .ref (ρ 12)), (4, .int (nI z))]) C hnL dL_isClosed_73 (by decide) rfl ?_
      refine e_iinc (j := 1) (v := (nI (j + 1))) (ls2 := [(10, .int (nI (j + 1))), (8, .long x8_73), (7, .int (nI i)), (6, .int S.2), (5, .int (nI m)), (0, .ref (ρ 0)), (1, .ref (ρ 9)), (2, .ref (ρ 10)), (3, .ref (ρ 12)), (4, .int (nI z))]) C hnL dL_isClosed_75 rfl (nI_add (j) 1) (by decide) rfl ?_
      refine e_goto (tgt := 53) C dL_isClosed_78 (by decide) ?_
      exact e_sub [0, 1, 2, 3, 4, 5, 6, 7, 8, 9] rfl (ih (j + 1) _ (by omega) (by rw [ex8_73, hu]; rfl))
  have lo : ∀ (f i : Nat) (S : Mem × Int32), i + f = 12 → S = ccS M (nI m) i → E Ξ 5 ρ J S.1 0 0 40 [(7, .int (nI i)), (6, .int S.2), (5, .int (nI m)), (0, .ref (ρ 0)), (1, .ref (ρ 9)), (2, .ref (ρ 10)), (3, .ref (ρ 12)), (4, .int (nI z))] [] := by
    intro f
    induction f with
    | zero =>
      intro i S hi hS
      have hi2 : i = 12 := by omega
      subst hi2 hS
      refine e_iload (j := 0) C dL_isClosed_40 rfl ?_
      refine e_bipush (v := 12) C dL_isClosed_42 (by decide) ?_
      refine e_icmp_ge (tgt := 222) C dL_isClosed_44 (by decide) (fun c_44 => ?_) (fun c_44 => absurd ((nI_leI (a := 12) (b := 12) (by omega) (by omega)).mpr (by omega)) c_44)
      refine e_aload_n (j := 6) C dL_isClosed_222 rfl rfl ?_
      refine e_bipush (v := 23) C dL_isClosed_223 (by decide) ?_
      refine e_iconst (v := 1) C dL_isClosed_225 (by decide) ?_
      refine e_iastN 23 C (cnt_fix (by decide)) (fun _ _ => rfl) rfl (by decide) (by decide) dL_isClosed_226 ?_
      refine e_topM (fun M_226 hM_226 => ?_)
      refine e_aload_n (j := 6) C dL_isClosed_227 rfl rfl ?_
      refine e_bipush (v := 22) C dL_isClosed_228 (by decide) ?_
      refine e_iconst (v := 0) C dL_isClosed_230 (by decide) ?_
      refine e_iastN 22 C (cnt_fix (by decide)) (fun _ _ => rfl) rfl (by decide) (by decide) dL_isClosed_231 ?_
      refine e_topM (fun M_231 hM_231 => ?_)
      rw [show M_231 = ccF (ccS M (nI m) 12).1 by rw [hM_231, hM_226]; rfl]
      refine e_aload_n (j := 3) C dL_isClosed_232 rfl rfl ?_
      refine e_iload (j := 2) C dL_isClosed_233 rfl ?_
      refine e_cV (i := 0) (nA := 1) (Cn := RX2) C (c_X2_close hl (by omega)) hcall (cnt_fix (by decide)) (fun _ => rfl) rfl rfl mw_443 mw_440 mw_441 mw_442 mw_12 (by decide +kernel) (by decide) rfl rfl (Nat.le_of_ble_eq_true rfl) dL_isClosed_235 (Nat.le_of_ble_eq_true rfl) (Nat.le_of_ble_eq_true rfl) ?_
      refine e_iload (j := 1) C dL_isClosed_238 rfl ?_
      refine e_icmp_ne (tgt := 247) C dL_isClosed_240 (by decide) (fun c_240 => absurd rfl c_240) (fun c_240 => ?_)
      refine e_iconst (v := 1) C dL_isClosed_243 (by decide) ?_
      refine e_goto (tgt := 248) C dL_isClosed_244 (by decide) ?_
      exact e_zret C rfl rfl (Nat.le_of_ble_eq_true rfl) (Nat.le_of_ble_eq_true rfl) dL_isClosed_248 (pO.mk rfl)
    | succ f ih =>
      intro i S hi hS
      have hps := ccS_s M (nI m) i
      rw [← hS] at hps
      have hn := hnn i (by omega)
      rw [← hS] at hn
      refine e_iload (j := 0) C dL_isClosed_40 rfl ?_
      refine e_bipush (v := 12) C dL_isClosed_42 (by decide) ?_
      refine e_icmp_ge (tgt := 222) C dL_isClosed_44 (by decide) (fun c_44 => absurd ((nI_leI (a := 12) (b := i) (by omega) (by omega)).mp c_44) (by omega)) (fun c_44 => ?_)
      refine e_lconst (v := 0) C dL_isClosed_47 (by decide) ?_
      refine e_lstore (ls2 := [(8, .long 0), (7, .int (nI i)), (6, .int S.2), (5, .int (nI m)), (0, .ref (ρ 0)), (1, .ref (ρ 9)), (2, .ref (ρ 10)), (3, .ref (ρ 12)), (4, .int (nI z))]) C hnL dL_isClosed_48 (by decide) rfl ?_
      refine e_iconst (v := 0) C dL_isClosed_50 (by decide) ?_
      refine e_istore (ls2 := [(10, .int 0), (8, .long 0), (7, .int (nI i)), (6, .int S.2), (5, .int (nI m)), (0, .ref (ρ 0)), (1, .ref (ρ 9)), (2, .ref (ρ 10)), (3, .ref (ρ 12)), (4, .int (nI z))]) C hnL dL_isClosed_51 (by decide) rfl ?_
      exact e_sub [0, 1, 2, 3, 4, 5, 6, 7, 8, 9] rfl (lt i S (by omega) hn (fun S2 h2 => ih (i + 1) S2 (by omega) (h2.trans hps.symm)) 5 0 0 (by omega) rfl)
  refine e_aload_n (j := 3) C dL_isClosed_0 rfl rfl ?_
  refine e_bipush (v := 23) C dL_isClosed_1 (by decide) ?_
  refine e_ialdN 23 C (cnt_fix (by decide)) (fun _ => rfl) rfl (by decide) (by decide) dL_isClosed_3 ?_
  refine e_iconst (v := 1) C dL_isClosed_4 (by decide) ?_
  refine e_icmp_ne (tgt := 10) C dL_isClosed_5 (by decide) (fun c_5 => ?_) (fun c_5 => absurd c_5 h)
  refine e_iload (j := 4) C dL_isClosed_10 rfl ?_
  refine e_iload (j := 4) C dL_isClosed_12 rfl ?_
  refine e_bipush (v := 7) C dL_isClosed_14 (by decide) ?_
  refine e_idivN z 7 (z / 7) C rfl rfl (by omega) (by omega) (by omega) rfl dL_isClosed_16 ?_
  refine e_iconst (v := 2) C dL_isClosed_17 (by decide) ?_
  refine e_iremN (z / 7) 2 ((z / 7) % 2) C rfl rfl (by omega) (by omega) (by omega) rfl dL_isClosed_18 ?_
  suffices hJ_30 : ∀ v : Int32, v = nI q → E Ξ 5 ρ J M 0 0 30 [(0, .ref (ρ 0)), (1, .ref (ρ 9)), (2, .ref (ρ 10)), (3, .ref (ρ 12)), (4, .int (nI z))] (.int v :: .int (nI z) :: []) by
    refine e_if_ne (tgt := 28) C dL_isClosed_19 (by decide) (fun c_19 => ?_) (fun c_19 => ?_)
    · have n_19 : ¬ (((z / 7) % 2) = 0) := fun h => c_19 ((nI_eq (a := ((z / 7) % 2)) (b := 0) (by omega) (by omega)).mpr h)
      refine e_ldc (v := 100001) C dL_isClosed_28 mw_439 ?_
      exact hJ_30 _ (by rw [← hq]; first | (rw [if_pos n_19]; rfl) | (rw [if_neg n_19]; rfl) | rw [if_pos n_19] | rw [if_neg n_19])
    · have n_19 : ((z / 7) % 2) = 0 := (nI_eq (a := ((z / 7) % 2)) (b := 0) (by omega) (by omega)).mp c_19
      refine e_sipush (v := 600) C dL_isClosed_22 (by decide) ?_
      refine e_goto (tgt := 30) C dL_isClosed_25 (by decide) ?_
      exact hJ_30 _ (by rw [← hq]; first | (rw [if_pos n_19]; rfl) | (rw [if_neg n_19]; rfl) | rw [if_pos n_19] | rw [if_neg n_19])
  intro v_30 hv_30
  subst hv_30
  refine e_iremV z q C rfl rfl (by omega) (by omega) (by omega) dL_isClosed_30 (fun r_30 er_30 hr_30 => ?_)
  rw [show r_30 = m by rw [er_30]; exact hm]
  refine e_istore (ls2 := [(5, .int (nI m)), (0, .ref (ρ 0)), (1, .ref (ρ 9)), (2, .ref (ρ 10)), (3, .ref (ρ 12)), (4, .int (nI z))]) C hnL dL_isClosed_31 (by decide) rfl ?_
  refine e_iload (j := 0) C dL_isClosed_33 rfl ?_
  refine e_istore (ls2 := [(6, .int (nI m)), (5, .int (nI m)), (0, .ref (ρ 0)), (1, .ref (ρ 9)), (2, .ref (ρ 10)), (3, .ref (ρ 12)), (4, .int (nI z))]) C hnL dL_isClosed_35 (by decide) rfl ?_
  refine e_iconst (v := 0) C dL_isClosed_37 (by decide) ?_
  refine e_istore (ls2 := [(7, .int 0), (6, .int (nI m)), (5, .int (nI m)), (0, .ref (ρ 0)), (1, .ref (ρ 9)), (2, .ref (ρ 10)), (3, .ref (ρ 12)), (4, .int (nI z))]) C hnL dL_isClosed_38 (by decide) rfl ?_
  exact e_sub [0, 1, 2, 3, 4, 5, 6, 7] rfl (lo 12 0 (M, nI m) (by omega) rfl)
