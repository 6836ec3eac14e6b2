/-! The reference's payday. -/
def pdC (N : Mem) (j : Nat) : Mem := up N 14 j (N 14 j + N 18 j)
def pdB (N : Mem) (j p : Nat) : Mem := up (up N 20 (40 * j + p) (N 20 (40 * j + p) + N 18 j)) 26 0 (up N 20 (40 * j + p) (N 20 (40 * j + p) + N 18 j) 26 0 + up N 20 (40 * j + p) (N 20 (40 * j + p) + N 18 j) 18 j)
def pdH (N : Mem) (j p : Nat) : Mem := if N 9 24 = 0 then pdB N j p else if N 25 0 = 0 then pdB N j p else pdC N j
def pdP (N : Mem) (j : Nat) : Mem := up (psE N j) 18 j (psV N j)
def pd1 (S : Mem × Int32) (j p : Nat) : Mem × Int32 := (pdH (pdP S.1 j) j p, S.2 + pdP S.1 j 18 j)
def pdS (M : Mem) (p : Nat) : Nat → Mem × Int32
  | 0 => (M, 0)
  | j + 1 => if (pdS M p j).1 10 j = 0 then pdS M p j else pd1 (pdS M p j) j p
theorem pdS_s (M : Mem) (p j : Nat) : pdS M p (j + 1) = if (pdS M p j).1 10 j = 0 then pdS M p j else pd1 (pdS M p j) j p := rfl
def xp1 (N : Mem) (q : Nat) : Mem := up (up N 26 3 (N 26 3 + N 20 q)) 20 q 0
def xpS (N : Mem) : Nat → Mem
  | 0 => N
  | q + 1 => if N 9 21 - 4 < nI (q % 40) then xpS N q else xp1 (xpS N q) q
theorem xpS_9 (N : Mem) : ∀ q, xpS N q 9 = N 9
  | 0 => rfl
  | q + 1 => by
    unfold xpS
    split
    · exact xpS_9 N q
    · unfold xp1
      rw [up_ne (by decide), up_ne (by decide)]
      exact xpS_9 N q
def pdZ (M : Mem) (n p : Nat) : Mem := xpS (pdS (ml M 0) p n).1 (40 * n)
def pdF (M : Mem) (n p : Nat) : Mem := up (pdZ M n p) 9 21 (pdZ M n p 9 21 + 1)
def ompayday (M : Mem) (n p : Nat) : Out := if 40 ≤ M 9 21 then mo M 1 0 else if M 9 27 = 0 then rI (pdS (ml M 0) p n).2 (pdF M n p) else mo M 1 0
theorem brkM_9 {M : Mem} {k s : Nat} {v : Int32} (h : s ≠ 25) : brkM M k v 9 s = M 9 s := by
  unfold brkM
  split
  · split
    · rfl
    · rw [up_ne (by decide), up_at, if_neg h]
  · rfl
theorem psF_9 {M : Mem} {k : Nat} : (psF M k).1 9 = M 9 := by
  have h : ∀ (ds : List Nat) (r : Int32) (S : Mem × Int32 × Int32), (ds.foldl (psN k r) S).1 9 = S.1 9 := by
    intro ds
    induction ds with
    | nil => intro r S; rfl
    | cons d ds ih => intro r S; rw [List.foldl_cons, ih]; exact (show psM S.1 k d r S.2.1 9 = S.1 9 from psM_9)
  unfold psF
  rw [h]
  show ps0 M k 9 = M 9
  unfold ps0
  rw [up_ne (by decide), up_ne (by decide)]
theorem psE_9 {M : Mem} {k s : Nat} (h : s ≠ 25) : psE M k 9 s = M 9 s := by
  unfold psE ps2 ps1
  rw [brkM_9 h, brkM_9 h]
  unfold psH
  rw [up_ne (by decide), psF_9]
theorem pdP_9 {M : Mem} {k s : Nat} (h : s ≠ 25) : pdP M k 9 s = M 9 s := by
  unfold pdP
  rw [up_ne (by decide), psE_9 h]
theorem pdH_9 {N : Mem} {j p : Nat} : pdH N j p 9 = N 9 := by
  have h : pdB N j p 9 = N 9 := by unfold pdB; rw [up_ne (by decide), up_ne (by decide)]
  unfold pdH
  split
  · exact h
  · split
    · exact h
    · unfold pdC; rw [up_ne (by decide)]
theorem pdS_9 {M : Mem} {p s : Nat} (h : s ≠ 25) : ∀ j, (pdS M p j).1 9 s = M 9 s
  | 0 => rfl
  | j + 1 => by
    rw [pdS_s]
    split
    · exact pdS_9 h j
    · show pdH (pdP (pdS M p j).1 j) j p 9 s = M 9 s
      rw [pdH_9, pdP_9 h]
      exact pdS_9 h j
set_option maxRecDepth 100000 in
set_option maxHeartbeats 4000000 in
theorem c_X3_payday {l : Launch} (hl : l.stackTraces = false) {n : Nat} {ρ : Nat → Nat} {J : Nat → Int64} {M : Mem} {p : Nat} (hp : p ≤ 40) (hpd : M 9 21 = nI p) (he : edOk (M 9 20)) (hn : n ≤ 10) (hm : M 9 0 = nI n) : CtO l yX3_payday cX3_payday 3 (some .int) 3 0 0 n ρ J M [.ref (ρ 9)] (ompayday M n p) := by
  refine CtO.of hl (by decide +kernel) (Nat.le_of_ble_eq_true rfl) (fun Ξ hnL C => ?_)
  show E Ξ n ρ J M 0 0 0 [(0, .ref (ρ 9))] []
  by_cases hz4 : 40 ≤ M 9 21
  · refine e_aload_n (j := 0) C dX3_payday_0 rfl rfl ?_
    refine e_aload_n (j := 0) C dX3_payday_1 rfl rfl ?_
    refine e_get3 (k := 21) (ref := "ScripHollowModel") C (by decide) rfl rfl mw_366 dX3_payday_2 ?_
    refine e_bipush (v := 40) C dX3_payday_5 (by decide) ?_
    refine e_icmp_ge (tgt := 21) C dX3_payday_7 (by decide) (fun c_7 => ?_) (fun c_7 => absurd hz4 c_7)
    refine e_iconst (v := 0) C dX3_payday_21 (by decide) ?_
    refine e_iconst (v := 1) C dX3_payday_22 (by decide) ?_
    refine e_iconst (v := 1) C dX3_payday_23 (by decide) ?_
    refine e_cV (i := 9) (nA := 3) (Cn := RX3) C (c_X3_g1 hl) rfl (cnt_fix (by decide)) (fun _ => rfl) rfl rfl mw_162 mw_159 mw_160 mw_161 mw_5 (by decide +kernel) (by decide) rfl rfl (Nat.le_of_ble_eq_true rfl) dX3_payday_24 (Nat.le_of_ble_eq_true rfl) (Nat.le_of_ble_eq_true rfl) ?_
    refine e_if_ne (tgt := 32) C dX3_payday_27 (by decide) (fun c_27 => absurd (by decide) c_27) (fun c_27 => ?_)
    refine e_iconst (v := 0) C dX3_payday_30 (by decide) ?_
    exact e_iret C rfl (Nat.le_of_ble_eq_true rfl) (Nat.le_of_ble_eq_true rfl) dX3_payday_31 (pO.mk (by unfold ompayday; rw [if_pos hz4]))
  · have hp40 : p < 40 := by
      rcases Nat.lt_or_ge p 40 with z | z
      · exact z
      · exact absurd (by rw [hpd, show p = 40 by omega]; decide) hz4
    by_cases hz7 : M 9 27 = 0
    · rw [show ompayday M n p = rI (pdS (ml M 0) p n).2 (pdF M n p) by unfold ompayday; rw [if_neg hz4, if_pos hz7]] at C
      have hm0 : ∀ s, s ≠ 29 → ml M 0 9 s = M 9 s := fun s hs => ml_at hs
      have loop2 : ∀ (f q : Nat) (t : Int32), q + f = 40 * n → (pdS (ml M 0) p n).2 = t → E Ξ n ρ J (xpS (pdS (ml M 0) p n).1 q) 0 0 153 [(2, .int (nI q)), (1, .int t), (0, .ref (ρ 9))] [] := by
        intro f
        induction f with
        | zero =>
          intro q t hqf ht
          have hq : q = 40 * n := by omega
          have hW9 : xpS (pdS (ml M 0) p n).1 q 9 0 = nI n := by rw [xpS_9, pdS_9 (by decide), hm0 0 (by decide)]; exact hm
          have hF : pdF M n p = up (xpS (pdS (ml M 0) p n).1 q) 9 21 (xpS (pdS (ml M 0) p n).1 q 9 21 + 1) := by unfold pdF pdZ; rw [hq]
          rw [hF, ht] at C
          clear hF
          generalize hW : xpS (pdS (ml M 0) p n).1 q = Wm at C hW9 ⊢
          refine e_iload_n (j := 0) C dX3_payday_153 rfl rfl ?_
          refine e_bipush (v := 40) C dX3_payday_154 (by decide) ?_
          refine e_aload_n (j := 2) C dX3_payday_156 rfl rfl ?_
          refine e_get3 (k := 0) (ref := "ScripHollowModel") C (by decide) rfl rfl mw_158 dX3_payday_157 ?_
          refine e_imul C dX3_payday_160 ?_
          refine e_icmp_ge (tgt := 205) C dX3_payday_161 (by decide) (fun c_161 => ?_) (fun c_161 => absurd (by rw [hW9, ix40z]; exact nI_le (by omega) (by omega)) c_161)
          refine e_aload_n (j := 2) C dX3_payday_205 rfl rfl ?_
          refine e_dup C dX3_payday_206 rfl ?_
          refine e_get3 (k := 21) (ref := "ScripHollowModel") C (by decide) rfl rfl mw_366 dX3_payday_207 ?_
          refine e_iconst (v := 1) C dX3_payday_210 (by decide) ?_
          refine e_iadd C dX3_payday_211 ?_
          refine e_put3 (k := 21) (ref := "ScripHollowModel") (ty := .int) C (by decide) rfl rfl (by decide +kernel) rfl rfl rfl mw_366 dX3_payday_212 ?_
          refine e_iload_n (j := 1) C dX3_payday_215 rfl rfl ?_
          exact e_iret C rfl (Nat.le_of_ble_eq_true rfl) (Nat.le_of_ble_eq_true rfl) dX3_payday_216 (pO.mk rfl)
        | succ f ih =>
          intro q t hqf ht
          have hq : q < 40 * n := by omega
          have hW9 : xpS (pdS (ml M 0) p n).1 q 9 0 = nI n := by rw [xpS_9, pdS_9 (by decide), hm0 0 (by decide)]; exact hm
          have hW21 : (pdS (ml M 0) p n).1 9 21 = xpS (pdS (ml M 0) p n).1 q 9 21 := by rw [xpS_9]
          have ih2 := ih (q + 1) t (by omega) ht
          unfold xpS at ih2
          rw [hW21] at ih2
          unfold xp1 at ih2
          have hrem : nI q - nI q / 40 * 40 = nI (q % 40) := pk_rem (a := q) (d := 40) (by omega) (by omega) (by omega)
          generalize hW : xpS (pdS (ml M 0) p n).1 q = Wm at ih2 hW9 hW21 ⊢
          refine e_iload_n (j := 0) C dX3_payday_153 rfl rfl ?_
          refine e_bipush (v := 40) C dX3_payday_154 (by decide) ?_
          refine e_aload_n (j := 2) C dX3_payday_156 rfl rfl ?_
          refine e_get3 (k := 0) (ref := "ScripHollowModel") C (by decide) rfl rfl mw_158 dX3_payday_157 ?_
          refine e_imul C dX3_payday_160 ?_
          refine e_icmp_ge (tgt := 205) C dX3_payday_161 (by decide) (fun c_161 => absurd c_161 (by rw [hW9, ix40z]; exact nI_ge hq (by omega))) (fun c_161 => ?_)
          refine e_iload_n (j := 0) C dX3_payday_164 rfl rfl ?_
          refine e_bipush (v := 40) C dX3_payday_165 (by decide) ?_
          refine e_irem C dX3_payday_167 (by decide) ?_
          refine e_aload_n (j := 2) C dX3_payday_168 rfl rfl ?_
          refine e_get3 (k := 21) (ref := "ScripHollowModel") C (by decide) rfl rfl mw_366 dX3_payday_169 ?_
          refine e_iconst (v := 4) C dX3_payday_172 (by decide) ?_
          refine e_isub C dX3_payday_173 ?_
          refine e_icmp_gt (tgt := 199) C dX3_payday_174 (by decide) (fun c_174 => ?_) (fun c_174 => ?_)
          · obtain ⟨x2_199, ex2_199⟩ : ∃ z : Int32, z = (nI q) + 1 := ⟨_, rfl⟩
            refine e_iinc (j := 0) (v := x2_199) (ls2 := [(2, .int x2_199), (1, .int t), (0, .ref (ρ 9))]) C hnL dX3_payday_199 rfl (by rw [ex2_199]; rfl) (by decide) rfl ?_
            refine e_goto (tgt := 153) C dX3_payday_202 (by decide) ?_
            subst ex2_199
            rw [nI_1]
            rw [hrem] at c_174
            (repeat (first | rw [if_pos c_174] at ih2 | rw [if_neg c_174] at ih2))
            exact e_sub [0, 1, 2] rfl ih2
          · refine e_aload_n (j := 2) C dX3_payday_177 rfl rfl ?_
            refine e_get3 (k := 17) (ref := "ScripHollowModel") C (by decide) rfl rfl mw_70 dX3_payday_178 ?_
            refine e_iconst (v := 3) C dX3_payday_181 (by decide) ?_
            refine e_dup2 C dX3_payday_182 rfl rfl ?_
            refine e_ialdN 3 C (cnt_fix (by decide)) (fun _ => rfl) rfl (by decide) (by decide) dX3_payday_183 ?_
            refine e_aload_n (j := 2) C dX3_payday_184 rfl rfl ?_
            refine e_get3 (k := 11) (ref := "ScripHollowModel") C (by decide) rfl rfl mw_64 dX3_payday_185 ?_
            refine e_iload_n (j := 0) C dX3_payday_188 rfl rfl ?_
            refine e_ialdN q C (cnt_fix (by decide)) (fun _ => rfl) rfl (by omega) (by decide) dX3_payday_189 ?_
            refine e_iadd C dX3_payday_190 ?_
            refine e_iastN 3 C (cnt_fix (by decide)) (fun _ _ => rfl) rfl (by decide) (by decide) dX3_payday_191 ?_
            refine e_aload_n (j := 2) C dX3_payday_192 rfl rfl ?_
            refine e_get3 (k := 11) (ref := "ScripHollowModel") C (by decide) rfl rfl mw_64 dX3_payday_193 ?_
            refine e_iload_n (j := 0) C dX3_payday_196 rfl rfl ?_
            refine e_iconst (v := 0) C dX3_payday_197 (by decide) ?_
            refine e_iastN q C (cnt_fix (by decide)) (fun _ _ => rfl) rfl (by omega) (by decide) dX3_payday_198 ?_
            obtain ⟨x2_199, ex2_199⟩ : ∃ z : Int32, z = (nI q) + 1 := ⟨_, rfl⟩
            refine e_iinc (j := 0) (v := x2_199) (ls2 := [(2, .int x2_199), (1, .int t), (0, .ref (ρ 9))]) C hnL dX3_payday_199 rfl (by rw [ex2_199]; rfl) (by decide) rfl ?_
            refine e_goto (tgt := 153) C dX3_payday_202 (by decide) ?_
            subst ex2_199
            rw [nI_1]
            rw [hrem] at c_174
            (repeat (first | rw [if_pos c_174] at ih2 | rw [if_neg c_174] at ih2))
            exact e_sub [0, 1, 2] rfl ih2
      have loop : ∀ (f j : Nat) (N : Mem) (t : Int32), j + f = n → pdS (ml M 0) p j = (N, t) → E Ξ n ρ J N 0 0 36 [(2, .int (nI j)), (1, .int t), (0, .ref (ρ 9))] [] := by
        intro f
        induction f with
        | zero =>
          intro j N t hjf hN
          have hjn : j = n := by omega
          subst hjn
          have hN9 : N 9 0 = nI j := by rw [show N = (pdS (ml M 0) p j).1 by rw [hN], pdS_9 (by decide), hm0 0 (by decide)]; exact hm
          refine e_iload_n (j := 0) C dX3_payday_36 rfl rfl ?_
          refine e_aload_n (j := 2) C dX3_payday_37 rfl rfl ?_
          refine e_get3 (k := 0) (ref := "ScripHollowModel") C (by decide) rfl rfl mw_158 dX3_payday_38 ?_
          refine e_icmp_ge (tgt := 151) C dX3_payday_41 (by decide) (fun c_41 => ?_) (fun c_41 => absurd (by rw [hN9]; exact nI_le (by omega) (by omega)) c_41)
          refine e_iconst (v := 0) C dX3_payday_151 (by decide) ?_
          refine e_istore_n (ls2 := [(2, .int 0), (1, .int t), (0, .ref (ρ 9))]) C hnL dX3_payday_152 rfl (by decide) rfl ?_
          refine e_mem (M' := xpS (pdS (ml M 0) p j).1 0) (by rw [hN]; rfl) ?_
          exact e_sub [0, 1, 2] rfl (loop2 (40 * j) 0 t (by omega) (by rw [hN]))
        | succ f ih =>
          intro j N t hjf hN
          have hj : j < n := by omega
          have hNN : ∀ s, s ≠ 25 → s ≠ 29 → N 9 s = M 9 s := fun s h1 h2 => by rw [show N = (pdS (ml M 0) p j).1 by rw [hN], pdS_9 h1, hm0 s h2]
          have hN9 : N 9 0 = nI n := (hNN 0 (by decide) (by decide)).trans hm
          have hps := pdS_s (ml M 0) p j
          rw [hN] at hps
          dsimp only at hps
          by_cases hal : N 10 j = 0
          · rw [if_pos hal] at hps
            refine e_iload_n (j := 0) C dX3_payday_36 rfl rfl ?_
            refine e_aload_n (j := 2) C dX3_payday_37 rfl rfl ?_
            refine e_get3 (k := 0) (ref := "ScripHollowModel") C (by decide) rfl rfl mw_158 dX3_payday_38 ?_
            refine e_icmp_ge (tgt := 151) C dX3_payday_41 (by decide) (fun c_41 => absurd c_41 (by rw [hN9]; exact nI_ge hj (by omega))) (fun c_41 => ?_)
            refine e_aload_n (j := 2) C dX3_payday_44 rfl rfl ?_
            refine e_get3 (k := 1) (ref := "ScripHollowModel") C (by decide) rfl rfl mw_54 dX3_payday_45 ?_
            refine e_iload_n (j := 0) C dX3_payday_48 rfl rfl ?_
            refine e_zaldN j C (cnt_fix (by decide)) (fun _ => rfl) rfl (by omega) (by decide) dX3_payday_49 ?_
            refine e_if_eq (tgt := 145) C dX3_payday_50 (by decide) (fun c_50 => ?_) (fun c_50 => absurd hal c_50)
            obtain ⟨x2_145, ex2_145⟩ : ∃ z : Int32, z = (nI j) + 1 := ⟨_, rfl⟩
            refine e_iinc (j := 0) (v := x2_145) (ls2 := [(2, .int x2_145), (1, .int t), (0, .ref (ρ 9))]) C hnL dX3_payday_145 rfl (by rw [ex2_145]; rfl) (by decide) rfl ?_
            refine e_goto (tgt := 36) C dX3_payday_148 (by decide) ?_
            subst ex2_145
            rw [nI_1]
            exact e_sub [0, 1, 2] rfl (ih (j + 1) N t (by omega) hps)
          · rw [if_neg hal] at hps
            unfold pd1 at hps
            dsimp only at hps
            have hPs : ∀ s, s ≠ 25 → s ≠ 29 → pdP N j 9 s = M 9 s := fun s h1 h2 => by rw [pdP_9 h1, hNN s h1 h2]
            have hP21 : pdP N j 9 21 = nI p := (hPs 21 (by decide) (by decide)).trans hpd
            have heN : edOk (N 9 20) := by rw [hNN 20 (by decide) (by decide)]; exact he
            generalize hQ : pdP N j = Q at hps hP21
            refine e_iload_n (j := 0) C dX3_payday_36 rfl rfl ?_
            refine e_aload_n (j := 2) C dX3_payday_37 rfl rfl ?_
            refine e_get3 (k := 0) (ref := "ScripHollowModel") C (by decide) rfl rfl mw_158 dX3_payday_38 ?_
            refine e_icmp_ge (tgt := 151) C dX3_payday_41 (by decide) (fun c_41 => absurd c_41 (by rw [hN9]; exact nI_ge hj (by omega))) (fun c_41 => ?_)
            refine e_aload_n (j := 2) C dX3_payday_44 rfl rfl ?_
            refine e_get3 (k := 1) (ref := "ScripHollowModel") C (by decide) rfl rfl mw_54 dX3_payday_45 ?_
            refine e_iload_n (j := 0) C dX3_payday_48 rfl rfl ?_
            refine e_zaldN j C (cnt_fix (by decide)) (fun _ => rfl) rfl (by omega) (by decide) dX3_payday_49 ?_
            refine e_if_eq (tgt := 145) C dX3_payday_50 (by decide) (fun c_50 => absurd c_50 hal) (fun c_50 => ?_)
            refine e_aload_n (j := 2) C dX3_payday_53 rfl rfl ?_
            refine e_get3 (k := 9) (ref := "ScripHollowModel") C (by decide) rfl rfl mw_62 dX3_payday_54 ?_
            refine e_iload_n (j := 0) C dX3_payday_57 rfl rfl ?_
            refine e_aload_n (j := 2) C dX3_payday_58 rfl rfl ?_
            refine e_iload_n (j := 0) C dX3_payday_59 rfl rfl ?_
            refine e_cV (i := 9) (nA := 1) (Cn := RX3) C (c_X3_pays hl (show j < 10 by omega) heN) rfl (cnt_fix (by decide)) (fun _ => rfl) rfl rfl mw_371 mw_368 mw_369 mw_370 mw_5 (by decide +kernel) (by decide) rfl rfl (Nat.le_of_ble_eq_true rfl) dX3_payday_60 (Nat.le_of_ble_eq_true rfl) (Nat.le_of_ble_eq_true rfl) ?_
            refine e_iastN j C (cnt_fix (by decide)) (fun _ _ => rfl) rfl (by omega) (by decide) dX3_payday_63 ?_
            refine e_mem (M' := Q) hQ ?_
            refine e_iload_n (j := 1) C dX3_payday_64 rfl rfl ?_
            refine e_aload_n (j := 2) C dX3_payday_65 rfl rfl ?_
            refine e_get3 (k := 9) (ref := "ScripHollowModel") C (by decide) rfl rfl mw_62 dX3_payday_66 ?_
            refine e_iload_n (j := 0) C dX3_payday_69 rfl rfl ?_
            refine e_ialdN j C (cnt_fix (by decide)) (fun _ => rfl) rfl (by omega) (by decide) dX3_payday_70 ?_
            refine e_iadd C dX3_payday_71 ?_
            refine e_topi (fun x1_72 ex1_72 => ?_)
            refine e_istore_n (ls2 := [(1, .int x1_72), (2, .int (nI j)), (0, .ref (ρ 9))]) C hnL dX3_payday_72 rfl (by decide) rfl ?_
            refine e_aload_n (j := 2) C dX3_payday_73 rfl rfl ?_
            refine e_get3 (k := 24) (ref := "ScripHollowModel") C (by decide) rfl rfl mw_367 dX3_payday_74 ?_
            refine e_if_eq (tgt := 107) C dX3_payday_77 (by decide) (fun c_77 => ?_) (fun c_77 => ?_)
            · refine e_aload_n (j := 2) C dX3_payday_107 rfl rfl ?_
              refine e_get3 (k := 11) (ref := "ScripHollowModel") C (by decide) rfl rfl mw_64 dX3_payday_108 ?_
              refine e_bipush (v := 40) C dX3_payday_111 (by decide) ?_
              refine e_iload_n (j := 1) C dX3_payday_113 rfl rfl ?_
              refine e_imul C dX3_payday_114 ?_
              refine e_aload_n (j := 2) C dX3_payday_115 rfl rfl ?_
              refine e_get3 (k := 21) (ref := "ScripHollowModel") C (by decide) rfl rfl mw_366 dX3_payday_116 ?_
              refine e_iadd C dX3_payday_119 ?_
              refine e_dup2 C dX3_payday_120 rfl rfl ?_
              refine e_ialdN (40 * j + p) C (cnt_fix (by decide)) (fun _ => rfl) (by rw [hP21]; exact ix40 j p) (by omega) (by decide) dX3_payday_121 ?_
              refine e_aload_n (j := 2) C dX3_payday_122 rfl rfl ?_
              refine e_get3 (k := 9) (ref := "ScripHollowModel") C (by decide) rfl rfl mw_62 dX3_payday_123 ?_
              refine e_iload_n (j := 1) C dX3_payday_126 rfl rfl ?_
              refine e_ialdN j C (cnt_fix (by decide)) (fun _ => rfl) rfl (by omega) (by decide) dX3_payday_127 ?_
              refine e_iadd C dX3_payday_128 ?_
              refine e_iastN (40 * j + p) C (cnt_fix (by decide)) (fun _ _ => rfl) (by rw [hP21]; exact ix40 j p) (by omega) (by decide) dX3_payday_129 ?_
              refine e_aload_n (j := 2) C dX3_payday_130 rfl rfl ?_
              refine e_get3 (k := 17) (ref := "ScripHollowModel") C (by decide) rfl rfl mw_70 dX3_payday_131 ?_
              refine e_iconst (v := 0) C dX3_payday_134 (by decide) ?_
              refine e_dup2 C dX3_payday_135 rfl rfl ?_
              refine e_ialdN 0 C (cnt_fix (by decide)) (fun _ => rfl) rfl (by decide) (by decide) dX3_payday_136 ?_
              refine e_aload_n (j := 2) C dX3_payday_137 rfl rfl ?_
              refine e_get3 (k := 9) (ref := "ScripHollowModel") C (by decide) rfl rfl mw_62 dX3_payday_138 ?_
              refine e_iload_n (j := 1) C dX3_payday_141 rfl rfl ?_
              refine e_ialdN j C (cnt_fix (by decide)) (fun _ => rfl) rfl (by omega) (by decide) dX3_payday_142 ?_
              refine e_iadd C dX3_payday_143 ?_
              refine e_iastN 0 C (cnt_fix (by decide)) (fun _ _ => rfl) rfl (by decide) (by decide) dX3_payday_144 ?_
              obtain ⟨x2_145, ex2_145⟩ : ∃ z : Int32, z = (nI j) + 1 := ⟨_, rfl⟩
              refine e_iinc (j := 1) (v := x2_145) (ls2 := [(2, .int x2_145), (1, .int x1_72), (0, .ref (ρ 9))]) C hnL dX3_payday_145 rfl (by rw [ex2_145]; rfl) (by decide) rfl ?_
              refine e_goto (tgt := 36) C dX3_payday_148 (by decide) ?_
              subst ex2_145 ex1_72
              rw [nI_1]
              unfold pdH at hps
              (repeat (first | rw [if_pos c_77] at hps | rw [if_neg c_77] at hps | rw [if_pos c_86] at hps | rw [if_neg c_86] at hps))
              (first | unfold pdB at hps | unfold pdC at hps)
              exact e_sub [0, 1, 2] rfl (ih (j + 1) _ _ (by omega) hps)
            · refine e_aload_n (j := 2) C dX3_payday_80 rfl rfl ?_
              refine e_get3 (k := 16) (ref := "ScripHollowModel") C (by decide) rfl rfl mw_69 dX3_payday_81 ?_
              refine e_iconst (v := 0) C dX3_payday_84 (by decide) ?_
              refine e_zaldN 0 C (cnt_fix (by decide)) (fun _ => rfl) rfl (by decide) (by decide) dX3_payday_85 ?_
              refine e_if_eq (tgt := 107) C dX3_payday_86 (by decide) (fun c_86 => ?_) (fun c_86 => ?_)
              · refine e_aload_n (j := 2) C dX3_payday_107 rfl rfl ?_
                refine e_get3 (k := 11) (ref := "ScripHollowModel") C (by decide) rfl rfl mw_64 dX3_payday_108 ?_
                refine e_bipush (v := 40) C dX3_payday_111 (by decide) ?_
                refine e_iload_n (j := 1) C dX3_payday_113 rfl rfl ?_
                refine e_imul C dX3_payday_114 ?_
                refine e_aload_n (j := 2) C dX3_payday_115 rfl rfl ?_
                refine e_get3 (k := 21) (ref := "ScripHollowModel") C (by decide) rfl rfl mw_366 dX3_payday_116 ?_
                refine e_iadd C dX3_payday_119 ?_
                refine e_dup2 C dX3_payday_120 rfl rfl ?_
                refine e_ialdN (40 * j + p) C (cnt_fix (by decide)) (fun _ => rfl) (by rw [hP21]; exact ix40 j p) (by omega) (by decide) dX3_payday_121 ?_
                refine e_aload_n (j := 2) C dX3_payday_122 rfl rfl ?_
                refine e_get3 (k := 9) (ref := "ScripHollowModel") C (by decide) rfl rfl mw_62 dX3_payday_123 ?_
                refine e_iload_n (j := 1) C dX3_payday_126 rfl rfl ?_
                refine e_ialdN j C (cnt_fix (by decide)) (fun _ => rfl) rfl (by omega) (by decide) dX3_payday_127 ?_
                refine e_iadd C dX3_payday_128 ?_
                refine e_iastN (40 * j + p) C (cnt_fix (by decide)) (fun _ _ => rfl) (by rw [hP21]; exact ix40 j p) (by omega) (by decide) dX3_payday_129 ?_
                refine e_aload_n (j := 2) C dX3_payday_130 rfl rfl ?_
                refine e_get3 (k := 17) (ref := "ScripHollowModel") C (by decide) rfl rfl mw_70 dX3_payday_131 ?_
                refine e_iconst (v := 0) C dX3_payday_134 (by decide) ?_
                refine e_dup2 C dX3_payday_135 rfl rfl ?_
                refine e_ialdN 0 C (cnt_fix (by decide)) (fun _ => rfl) rfl (by decide) (by decide) dX3_payday_136 ?_
                refine e_aload_n (j := 2) C dX3_payday_137 rfl rfl ?_
                refine e_get3 (k := 9) (ref := "ScripHollowModel") C (by decide) rfl rfl mw_62 dX3_payday_138 ?_
                refine e_iload_n (j := 1) C dX3_payday_141 rfl rfl ?_
                refine e_ialdN j C (cnt_fix (by decide)) (fun _ => rfl) rfl (by omega) (by decide) dX3_payday_142 ?_
                refine e_iadd C dX3_payday_143 ?_
                refine e_iastN 0 C (cnt_fix (by decide)) (fun _ _ => rfl) rfl (by decide) (by decide) dX3_payday_144 ?_
                obtain ⟨x2_145, ex2_145⟩ : ∃ z : Int32, z = (nI j) + 1 := ⟨_, rfl⟩
                refine e_iinc (j := 1) (v := x2_145) (ls2 := [(2, .int x2_145), (1, .int x1_72), (0, .ref (ρ 9))]) C hnL dX3_payday_145 rfl (by rw [ex2_145]; rfl) (by decide) rfl ?_
                refine e_goto (tgt := 36) C dX3_payday_148 (by decide) ?_
                subst ex2_145 ex1_72
                rw [nI_1]
                unfold pdH at hps
                (repeat (first | rw [if_pos c_77] at hps | rw [if_neg c_77] at hps | rw [if_pos c_86] at hps | rw [if_neg c_86] at hps))
                (first | unfold pdB at hps | unfold pdC at hps)
                exact e_sub [0, 1, 2] rfl (ih (j + 1) _ _ (by omega) hps)
              · refine e_aload_n (j := 2) C dX3_payday_89 rfl rfl ?_
                refine e_get3 (k := 5) (ref := "ScripHollowModel") C (by decide) rfl rfl mw_58 dX3_payday_90 ?_
                refine e_iload_n (j := 1) C dX3_payday_93 rfl rfl ?_
                refine e_dup2 C dX3_payday_94 rfl rfl ?_
                refine e_ialdN j C (cnt_fix (by decide)) (fun _ => rfl) rfl (by omega) (by decide) dX3_payday_95 ?_
                refine e_aload_n (j := 2) C dX3_payday_96 rfl rfl ?_
                refine e_get3 (k := 9) (ref := "ScripHollowModel") C (by decide) rfl rfl mw_62 dX3_payday_97 ?_
                refine e_iload_n (j := 1) C dX3_payday_100 rfl rfl ?_
                refine e_ialdN j C (cnt_fix (by decide)) (fun _ => rfl) rfl (by omega) (by decide) dX3_payday_101 ?_
                refine e_iadd C dX3_payday_102 ?_
                refine e_iastN j C (cnt_fix (by decide)) (fun _ _ => rfl) rfl (by omega) (by decide) dX3_payday_103 ?_
                refine e_goto (tgt := 145) C dX3_payday_104 (by decide) ?_
                obtain ⟨x2_145, ex2_145⟩ : ∃ z : Int32, z = (nI j) + 1 := ⟨_, rfl⟩
                refine e_iinc (j := 1) (v := x2_145) (ls2 := [(2, .int x2_145), (1, .int x1_72), (0, .ref (ρ 9))]) C hnL dX3_payday_145 rfl (by rw [ex2_145]; rfl) (by decide) rfl ?_
                refine e_goto (tgt := 36) C dX3_payday_148 (by decide) ?_
                subst ex2_145 ex1_72
                rw [nI_1]
                unfold pdH at hps
                (repeat (first | rw [if_pos c_77] at hps | rw [if_neg c_77] at hps | rw [if_pos c_86] at hps | rw [if_neg c_86] at hps))
                (first | unfold pdB at hps | unfold pdC at hps)
                exact e_sub [0, 1, 2] rfl (ih (j + 1) _ _ (by omega) hps)
      refine e_aload_n (j := 0) C dX3_payday_0 rfl rfl ?_
      refine e_aload_n (j := 0) C dX3_payday_1 rfl rfl ?_
      refine e_get3 (k := 21) (ref := "ScripHollowModel") C (by decide) rfl rfl mw_366 dX3_payday_2 ?_
      refine e_bipush (v := 40) C dX3_payday_5 (by decide) ?_
      refine e_icmp_ge (tgt := 21) C dX3_payday_7 (by decide) (fun c_7 => absurd c_7 hz4) (fun c_7 => ?_)
      refine e_aload_n (j := 0) C dX3_payday_10 rfl rfl ?_
      refine e_get3 (k := 27) (ref := "ScripHollowModel") C (by decide) rfl rfl mw_260 dX3_payday_11 ?_
      refine e_if_ne (tgt := 21) C dX3_payday_14 (by decide) (fun c_14 => absurd hz7 c_14) (fun c_14 => ?_)
      refine e_iconst (v := 1) C dX3_payday_17 (by decide) ?_
      refine e_goto (tgt := 22) C dX3_payday_18 (by decide) ?_
      refine e_iconst (v := 1) C dX3_payday_22 (by decide) ?_
      refine e_iconst (v := 1) C dX3_payday_23 (by decide) ?_
      refine e_cV (i := 9) (nA := 3) (Cn := RX3) C (c_X3_g0 hl) rfl (cnt_fix (by decide)) (fun _ => rfl) rfl rfl mw_162 mw_159 mw_160 mw_161 mw_5 (by decide +kernel) (by decide) rfl rfl (Nat.le_of_ble_eq_true rfl) dX3_payday_24 (Nat.le_of_ble_eq_true rfl) (Nat.le_of_ble_eq_true rfl) ?_
      refine e_if_ne (tgt := 32) C dX3_payday_27 (by decide) (fun c_27 => ?_) (fun c_27 => absurd c_27 (by decide))
      refine e_iconst (v := 0) C dX3_payday_32 (by decide) ?_
      refine e_istore_n (ls2 := [(1, .int 0), (0, .ref (ρ 9))]) C hnL dX3_payday_33 rfl (by decide) rfl ?_
      refine e_iconst (v := 0) C dX3_payday_34 (by decide) ?_
      refine e_istore_n (ls2 := [(2, .int 0), (1, .int 0), (0, .ref (ρ 9))]) C hnL dX3_payday_35 rfl (by decide) rfl ?_
      exact e_sub [0, 1, 2] rfl (loop n 0 _ 0 (by omega) rfl)
    · skip
      refine e_aload_n (j := 0) C dX3_payday_0 rfl rfl ?_
      refine e_aload_n (j := 0) C dX3_payday_1 rfl rfl ?_
      refine e_get3 (k := 21) (ref := "ScripHollowModel") C (by decide) rfl rfl mw_366 dX3_payday_2 ?_
      refine e_bipush (v := 40) C dX3_payday_5 (by decide) ?_
      refine e_icmp_ge (tgt := 21) C dX3_payday_7 (by decide) (fun c_7 => absurd c_7 hz4) (fun c_7 => ?_)
      refine e_aload_n (j := 0) C dX3_payday_10 rfl rfl ?_
      refine e_get3 (k := 27) (ref := "ScripHollowModel") C (by decide) rfl rfl mw_260 dX3_payday_11 ?_
      refine e_if_ne (tgt := 21) C dX3_payday_14 (by decide) (fun c_14 => ?_) (fun c_14 => absurd c_14 hz7)
      refine e_iconst (v := 0) C dX3_payday_21 (by decide) ?_
      refine e_iconst (v := 1) C dX3_payday_22 (by decide) ?_
      refine e_iconst (v := 1) C dX3_payday_23 (by decide) ?_
      refine e_cV (i := 9) (nA := 3) (Cn := RX3) C (c_X3_g1 hl) rfl (cnt_fix (by decide)) (fun _ => rfl) rfl rfl mw_162 mw_159 mw_160 mw_161 mw_5 (by decide +kernel) (by decide) rfl rfl (Nat.le_of_ble_eq_true rfl) dX3_payday_24 (Nat.le_of_ble_eq_true rfl) (Nat.le_of_ble_eq_true rfl) ?_
      refine e_if_ne (tgt := 32) C dX3_payday_27 (by decide) (fun c_27 => absurd (by decide) c_27) (fun c_27 => ?_)
      refine e_iconst (v := 0) C dX3_payday_30 (by decide) ?_
      exact e_iret C rfl (Nat.le_of_ble_eq_true rfl) (Nat.le_of_ble_eq_true rfl) dX3_payday_31 (pO.mk (by unfold ompayday; rw [if_neg hz4, if_neg hz7]))
