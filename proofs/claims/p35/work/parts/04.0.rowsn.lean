/-! Rows for places that are known. -/
section RowsN
variable {l : Launch} {R : Room} {cc : ByteArray} {own : String} {ret : Option FieldType} {mc ms : Nat} {tb : List ExceptionTableEntry} {post : Option Value → St → Prop} {exc : String → St → Prop} {Ξ : CT}
variable {n : Nat} {ρ : Nat → Nat} {J : Nat → Int64} {M : Mem} {a b pc : Nat} {ls : List (Nat × Value)} {st : List Value}
theorem in_of {x : Int32} {j N : Nat} (hx : x = nI j) (hj : j < N) (hN : N < 2 ^ 31) : vp_in x N ∧ x.toNatClampNeg = j := by
  subst hx
  exact ⟨vp_in_nI hj hN, nI_clamp (by omega)⟩
theorem e_ialdN (j : Nat) {i N : Nat} {x : Int32} (C : Cx l R cc own ret mc ms tb post exc Ξ) (hi : Ok n i) (hcell : ∀ cA : Nat → ClassId, cellOf cA n ρ J i (M i) = .inl (cA 0, N, .inl (M i))) (hx : x = nI j) (hj : j < N) (hN : N < 2 ^ 31) (d : decode cc pc = .ok (.iaload, 1)) (kk : E Ξ n ρ J M a b (pc + 1) ls (.int (M i j) :: st)) : E Ξ n ρ J M a b pc ls (.int x :: .ref (ρ i) :: st) := by
  obtain ⟨h1, h2⟩ := in_of hx hj hN
  exact e_iald C hi hcell h1 d (by rw [h2]; exact kk)
theorem e_zaldN (j : Nat) {i N : Nat} {x : Int32} (C : Cx l R cc own ret mc ms tb post exc Ξ) (hi : Ok n i) (hcell : ∀ cA : Nat → ClassId, cellOf cA n ρ J i (M i) = .inl (cA 1, N, .inl (M i))) (hx : x = nI j) (hj : j < N) (hN : N < 2 ^ 31) (d : decode cc pc = .ok (.baload, 1)) (kk : E Ξ n ρ J M a b (pc + 1) ls (.int (M i j) :: st)) : E Ξ n ρ J M a b pc ls (.int x :: .ref (ρ i) :: st) := by
  obtain ⟨h1, h2⟩ := in_of hx hj hN
  exact e_zald C hi hcell h1 d (by rw [h2]; exact kk)
theorem e_iastN (j : Nat) {i N : Nat} {x v : Int32} (C : Cx l R cc own ret mc ms tb post exc Ξ) (hi : Ok n i) (hcell : ∀ (cA : Nat → ClassId) (f : Nat → Int32), cellOf cA n ρ J i f = .inl (cA 0, N, .inl f)) (hx : x = nI j) (hj : j < N) (hN : N < 2 ^ 31) (d : decode cc pc = .ok (.iastore, 1)) (kk : E Ξ n ρ J (up M i j v) a b (pc + 1) ls st) : E Ξ n ρ J M a b pc ls (.int v :: .int x :: .ref (ρ i) :: st) := by
  obtain ⟨h1, h2⟩ := in_of hx hj hN
  exact e_iast C hi hcell h1 d (by rw [h2]; exact kk)
theorem e_zastN (j : Nat) {i N : Nat} {x v : Int32} (C : Cx l R cc own ret mc ms tb post exc Ξ) (hi : Ok n i) (hcell : ∀ (cA : Nat → ClassId) (f : Nat → Int32), cellOf cA n ρ J i f = .inl (cA 1, N, .inl f)) (hx : x = nI j) (hj : j < N) (hN : N < 2 ^ 31) (hv : vp_nar .boolean v = v) (d : decode cc pc = .ok (.bastore, 1)) (kk : E Ξ n ρ J (up M i j v) a b (pc + 1) ls st) : E Ξ n ρ J M a b pc ls (.int v :: .int x :: .ref (ρ i) :: st) := by
  obtain ⟨h1, h2⟩ := in_of hx hj hN
  exact e_zast C hi hcell h1 hv d (by rw [h2]; exact kk)
/-- an index of a row: too low, too high, or a place -/
theorem idx3 (x : Int32) {n : Nat} (hn : n < 2 ^ 31) : (x < 0 ∨ nI n ≤ x) ∨ ∃ j : Nat, j < n ∧ x = nI j := by
  rcases pk_ix x hn with h | h | h
  · exact Or.inl (Or.inl h)
  · exact Or.inl (Or.inr h)
  · exact Or.inr h
theorem rng_ok {v lo hi : Int32} (h : ¬ (v < lo ∨ hi < v)) : ¬ v < lo ∧ v ≤ hi := ⟨fun q => h (Or.inl q), Int32.not_lt.mp (fun q => h (Or.inr q))⟩
theorem isB.fit {x : Int32} (h : isB x) : fits .boolean (.int x) = true := by rcases h with rfl | rfl <;> rfl
end RowsN
