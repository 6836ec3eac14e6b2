/-! The whole of a miner's payday. -/
section LawM
theorem ql_init {c : Nat} {A L : Mem} (h : SRP A L) (lc : LC L) (I : Iv c 5 A) {k : Nat} (hk : k < 5) : QL A k (set0 A k) (py1 L k, pyW L k, 0) := by
  obtain ⟨p0, -⟩ := ps_init (mir_R A) I hk
  have m := I.m.mi k hk
  have w1 : set0 A k 3 1 = 0 := p0.s1 (by intro q; cases q)
  have w2 : set0 A k 3 2 = 0 := p0.s5 (by intro q; cases q)
  have w3 : set0 A k 3 3 = 0 := p0.tk
  have w0 : set0 A k 3 0 = A (mO k) 4 * A 2 0 / 10 := by unfold set0 sl0; rw [up_row (by unfold mO; omega), up_oth (by decide), up_oth (by decide), up_oth (by decide), up_same]
  refine ⟨?_, ?_, w3, ?_⟩
  · rw [w1, w2, Int32.sub_zero, Int32.sub_zero]
    have k1 := h.pw (pqO hk (s := 4) (o := 1) (by decide)) (v := 0) (v' := 0) rfl
    have k2 := k1.pw (pqO hk (s := 7) (o := 4) (by decide)) (v := rent A k) (v' := py0 L k 9 (12 * k + 4) + (if py0 L k 9 (12 * k + 5) = 1 then py0 L k 12 1 else 0)) (by
      unfold py0 rent
      rw [up12 (by omega), up12 (by omega), up_row (by decide), h.mi (s := 7) (o := 4) hk (by decide), h.mi (s := 1) (o := 5) hk (by decide), h.te (by decide)]
      rcases m.b1 with q | q
      · rw [q, if_neg (by decide), if_pos rfl]
      · rw [q, if_pos rfl, if_neg (by decide)])
    have e : Zb A k (rent A k) (A (mO k) 6) = up (up A (mO k) 4 0) (mO k) 7 (rent A k) := by
      unfold Zb
      have q : A (mO k) 6 = up (up A (mO k) 4 0) (mO k) 7 (rent A k) (mO k) 6 := by rw [up_oth (by decide), up_oth (by decide)]
      rw [q, up_id]
    rw [e]
    exact k2
  · rw [w0]
    show _ = pyW L k
    unfold pyW
    rw [h.mi (s := 4) (o := 1) hk (by decide), h.te (by decide)]
  · show LC (py1 L k)
    unfold py1 py0
    exact (lc.up_ (by decide) (fun _ j => by omega)).up_ (by decide) (fun _ j => by omega)
def nxD (k : Nat) (T : Mem × Int32 × Int32) (d : Nat) : Mem × Int32 × Int32 := if d = 0 then T else pyD T.1 k d T.2.1 T.2.2
theorem ql_one {c : Nat} {P Q : Mem} {z : Int32} {A : Mem} (I : Iv c 5 A) {k : Nat} (hk : k < 5) {N : Mem} {S : Mem × Int32 × Int32} {seen : List Nat} (p : PS 5 P Q z A k N S seen) {pl : Int32} {d : Nat} (hd : A 0 3 / pl - A 0 3 / pl / 10 * 10 = nI d) (h5 : d ≤ 5) (hs : d ∈ seen → d = 0) {T : Mem × Int32 × Int32} (q : QL A k N T) : PS 5 P Q z A k (stepM N k pl) (psN k (rent A k) S d) (d :: seen) ∧ QL A k (stepM N k pl) (nxD k T d) := by
  refine ⟨ps_step I hk p hd h5 hs (rent_bd I hk).2.2, ?_⟩
  unfold nxD
  by_cases e : d = 0
  · rw [if_pos e]; subst e; exact ql_zero I hk p hd q
  · rw [if_neg e]; exact ql_step I hk p hd (by omega) h5 (fun w => e (hs w)) q
theorem ql_all {c : Nat} {A L : Mem} (h : SRP A L) (lc : LC L) (I : Iv c 5 A) {k : Nat} (hk : k < 5) {r d1 d2 d3 d4 d5 : Nat} (hr : A 0 3 = nI r) (g : nI r / 10000 - nI r / 10000 / 10 * 10 = nI d1 ∧ nI r / 1000 - nI r / 1000 / 10 * 10 = nI d2 ∧ nI r / 100 - nI r / 100 / 10 * 10 = nI d3 ∧ nI r / 10 - nI r / 10 / 10 * 10 = nI d4 ∧ nI r / 1 - nI r / 1 / 10 * 10 = nI d5) (b : d1 ≤ 5 ∧ d2 ≤ 5 ∧ d3 ≤ 5 ∧ d4 ≤ 5 ∧ d5 ≤ 5) (u : (d2 = d1 → d2 = 0) ∧ (d3 = d2 ∨ d3 = d1 → d3 = 0) ∧ (d4 = d3 ∨ d4 = d2 ∨ d4 = d1 → d4 = 0) ∧ (d5 = d4 ∨ d5 = d3 ∨ d5 = d2 ∨ d5 = d1 → d5 = 0)) : ∃ S seen, PS 5 A (mir A) (mir A 9 29) A k (set5 A k) S seen ∧ QL A k (set5 A k) (nxD k (nxD k (nxD k (nxD k (nxD k (py1 L k, pyW L k, 0) d1) d2) d3) d4) d5) := by
  obtain ⟨p0, -⟩ := ps_init (mir_R A) I hk
  have q0 := ql_init h lc I hk
  obtain ⟨p1, q1⟩ := ql_one I hk p0 (by rw [hr]; exact g.1) b.1 (by intro q; cases q) q0
  obtain ⟨p2, q2⟩ := ql_one I hk p1 (by rw [hr]; exact g.2.1) b.2.1 (by intro q; simp only [List.mem_cons, List.not_mem_nil, or_false] at q; exact u.1 q) q1
  obtain ⟨p3, q3⟩ := ql_one I hk p2 (by rw [hr]; exact g.2.2.1) b.2.2.1 (by intro q; simp only [List.mem_cons, List.not_mem_nil, or_false] at q; exact u.2.1 q) q2
  obtain ⟨p4, q4⟩ := ql_one I hk p3 (by rw [hr]; exact g.2.2.2.1) b.2.2.2.1 (by intro q; simp only [List.mem_cons, List.not_mem_nil, or_false] at q; exact u.2.2.1 q) q3
  obtain ⟨p5, q5⟩ := ql_one I hk p4 (by rw [hr]; exact g.2.2.2.2) b.2.2.2.2 (by intro q; simp only [List.mem_cons, List.not_mem_nil, or_false] at q; exact u.2.2.2 q) q4
  exact ⟨_, _, p5, q5⟩
theorem pyS_n1 {M : Mem} {k r : Nat} {l : Int32} {d : Nat} (i : Nat) (h : dgl r i = d + 1) : pyS M k r l (i + 1) = nxD k (pyS M k r l i) (d + 1) := by
  rw [pyS_s, h]; rfl
theorem pyG_12345 (L : Mem) (k : Nat) : pyG L k 12345 = nxD k (nxD k (nxD k (nxD k (nxD k (py1 L k, pyW L k, 0) 1) 2) 3) 4) 5 := by
  have hp : plen 12345 = 5 := by decide +kernel
  unfold pyG
  rw [hp]
  have h0 := pyS_n1 (M := py1 L k) (k := k) (r := 12345) (l := pyW L k) (d := 0) 0 (by decide +kernel)
  have h1 := pyS_n1 (M := py1 L k) (k := k) (r := 12345) (l := pyW L k) (d := 1) 1 (by decide +kernel)
  have h2 := pyS_n1 (M := py1 L k) (k := k) (r := 12345) (l := pyW L k) (d := 2) 2 (by decide +kernel)
  have h3 := pyS_n1 (M := py1 L k) (k := k) (r := 12345) (l := pyW L k) (d := 3) 3 (by decide +kernel)
  have h4 := pyS_n1 (M := py1 L k) (k := k) (r := 12345) (l := pyW L k) (d := 4) 4 (by decide +kernel)
  refine h4.trans ?_
  rw [h3]
  rw [h2]
  rw [h1]
  rw [h0]
  rfl
theorem pyG_54321 (L : Mem) (k : Nat) : pyG L k 54321 = nxD k (nxD k (nxD k (nxD k (nxD k (py1 L k, pyW L k, 0) 5) 4) 3) 2) 1 := by
  have hp : plen 54321 = 5 := by decide +kernel
  unfold pyG
  rw [hp]
  have h0 := pyS_n1 (M := py1 L k) (k := k) (r := 54321) (l := pyW L k) (d := 4) 0 (by decide +kernel)
  have h1 := pyS_n1 (M := py1 L k) (k := k) (r := 54321) (l := pyW L k) (d := 3) 1 (by decide +kernel)
  have h2 := pyS_n1 (M := py1 L k) (k := k) (r := 54321) (l := pyW L k) (d := 2) 2 (by decide +kernel)
  have h3 := pyS_n1 (M := py1 L k) (k := k) (r := 54321) (l := pyW L k) (d := 1) 3 (by decide +kernel)
  have h4 := pyS_n1 (M := py1 L k) (k := k) (r := 54321) (l := pyW L k) (d := 0) 4 (by decide +kernel)
  refine h4.trans ?_
  rw [h3]
  rw [h2]
  rw [h1]
  rw [h0]
  rfl
theorem pyG_0 (L : Mem) (k : Nat) : pyG L k 0 = nxD k (nxD k (nxD k (nxD k (nxD k (py1 L k, pyW L k, 0) 0) 0) 0) 0) 0 := by
  have hp : plen 0 = 0 := by decide +kernel
  unfold pyG
  rw [hp]
  rfl
theorem pyG_5 (L : Mem) (k : Nat) : pyG L k 5 = nxD k (nxD k (nxD k (nxD k (nxD k (py1 L k, pyW L k, 0) 0) 0) 0) 0) 5 := by
  have hp : plen 5 = 1 := by decide +kernel
  unfold pyG
  rw [hp]
  have h0 := pyS_n1 (M := py1 L k) (k := k) (r := 5) (l := pyW L k) (d := 4) 0 (by decide +kernel)
  refine h0.trans ?_
  rfl
theorem pyG_2413 (L : Mem) (k : Nat) : pyG L k 2413 = nxD k (nxD k (nxD k (nxD k (nxD k (py1 L k, pyW L k, 0) 0) 2) 4) 1) 3 := by
  have hp : plen 2413 = 4 := by decide +kernel
  unfold pyG
  rw [hp]
  have h0 := pyS_n1 (M := py1 L k) (k := k) (r := 2413) (l := pyW L k) (d := 1) 0 (by decide +kernel)
  have h1 := pyS_n1 (M := py1 L k) (k := k) (r := 2413) (l := pyW L k) (d := 3) 1 (by decide +kernel)
  have h2 := pyS_n1 (M := py1 L k) (k := k) (r := 2413) (l := pyW L k) (d := 0) 2 (by decide +kernel)
  have h3 := pyS_n1 (M := py1 L k) (k := k) (r := 2413) (l := pyW L k) (d := 2) 3 (by decide +kernel)
  refine h3.trans ?_
  rw [h2]
  rw [h1]
  rw [h0]
  rfl
theorem pyG_31 (L : Mem) (k : Nat) : pyG L k 31 = nxD k (nxD k (nxD k (nxD k (nxD k (py1 L k, pyW L k, 0) 0) 0) 0) 3) 1 := by
  have hp : plen 31 = 2 := by decide +kernel
  unfold pyG
  rw [hp]
  have h0 := pyS_n1 (M := py1 L k) (k := k) (r := 31) (l := pyW L k) (d := 2) 0 (by decide +kernel)
  have h1 := pyS_n1 (M := py1 L k) (k := k) (r := 31) (l := pyW L k) (d := 0) 1 (by decide +kernel)
  refine h1.trans ?_
  rw [h0]
  rfl
theorem ql_ed {c : Nat} {A L : Mem} (h : SRP A L) (lc : LC L) (I : Iv c 5 A) {k : Nat} (hk : k < 5) {r : Nat} (hr : A 0 3 = nI r) (hE : r ∈ ED) : ∃ S seen, PS 5 A (mir A) (mir A 9 29) A k (set5 A k) S seen ∧ QL A k (set5 A k) (pyG L k r) := by
  unfold ED at hE
  simp only [List.mem_cons, List.not_mem_nil, or_false] at hE
  rcases hE with rfl | rfl | rfl | rfl | rfl | rfl
  · rw [pyG_12345]; exact ql_all h lc I hk hr (by decide +kernel) (by decide) (by decide)
  · rw [pyG_54321]; exact ql_all h lc I hk hr (by decide +kernel) (by decide) (by decide)
  · rw [pyG_0]; exact ql_all h lc I hk hr (by decide +kernel) (by decide) (by decide)
  · rw [pyG_5]; exact ql_all h lc I hk hr (by decide +kernel) (by decide) (by decide)
  · rw [pyG_2413]; exact ql_all h lc I hk hr (by decide +kernel) (by decide) (by decide)
  · rw [pyG_31]; exact ql_all h lc I hk hr (by decide +kernel) (by decide) (by decide)
end LawM
