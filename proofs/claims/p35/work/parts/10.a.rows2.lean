/-! Rows for the law's methods. -/
section Rows2
variable {l : Launch} {R : Room} {cc : ByteArray} {own : String} {ret : Option FieldType} {mc ms : Nat} {tb : List ExceptionTableEntry} {post : Option Value → St → Prop} {exc : String → St → Prop} {Ξ : CT}
variable {n : Nat} {ρ : Nat → Nat} {J : Nat → Int64} {M : Mem} {a b pc : Nat} {ls : List (Nat × Value)} {st : List Value}
theorem e_topM (h : ∀ M' : Mem, M' = M → E Ξ n ρ J M' a b pc ls st) : E Ξ n ρ J M a b pc ls st := h M rfl
theorem e_iaddN (p q r : Nat) {x y : Int32} (C : Cx l R cc own ret mc ms tb post exc Ξ) (hx : x = nI p) (hy : y = nI q) (hr : p + q = r) (d : decode cc pc = .ok (.iadd, 1)) (kk : E Ξ n ρ J M a b (pc + 1) ls (.int (nI r) :: st)) : E Ξ n ρ J M a b pc ls (.int y :: .int x :: st) := by
  subst hx hy hr
  exact e_iadd C d (by rw [nI_add]; exact kk)
theorem e_isubN (p q r : Nat) {x y : Int32} (C : Cx l R cc own ret mc ms tb post exc Ξ) (hx : x = nI p) (hy : y = nI q) (h : q ≤ p) (hr : p - q = r) (d : decode cc pc = .ok (.isub, 1)) (kk : E Ξ n ρ J M a b (pc + 1) ls (.int (nI r) :: st)) : E Ξ n ρ J M a b pc ls (.int y :: .int x :: st) := by
  subst hx hy hr
  exact e_isub C d (by rw [pk_sub h]; exact kk)
theorem e_imulN (p q r : Nat) {x y : Int32} (C : Cx l R cc own ret mc ms tb post exc Ξ) (hx : x = nI p) (hy : y = nI q) (hr : p * q = r) (d : decode cc pc = .ok (.imul, 1)) (kk : E Ξ n ρ J M a b (pc + 1) ls (.int (nI r) :: st)) : E Ξ n ρ J M a b pc ls (.int y :: .int x :: st) := by
  subst hx hy hr
  exact e_imul C d (by rw [pk_mul]; exact kk)
theorem e_idivN (p q r : Nat) {x y : Int32} (C : Cx l R cc own ret mc ms tb post exc Ξ) (hx : x = nI p) (hy : y = nI q) (hp : p < 2 ^ 31) (h0 : 0 < q) (hq : q < 2 ^ 31) (hr : p / q = r) (d : decode cc pc = .ok (.idiv, 1)) (kk : E Ξ n ρ J M a b (pc + 1) ls (.int (nI r) :: st)) : E Ξ n ρ J M a b pc ls (.int y :: .int x :: st) := by
  subst hx hy hr
  exact e_idiv C d (nI_ne0 h0 hq) (by rw [pk_div hp h0 hq]; exact kk)
theorem e_iremN (p q r : Nat) {x y : Int32} (C : Cx l R cc own ret mc ms tb post exc Ξ) (hx : x = nI p) (hy : y = nI q) (hp : p < 2 ^ 31) (h0 : 0 < q) (hq : q < 2 ^ 31) (hr : p % q = r) (d : decode cc pc = .ok (.irem, 1)) (kk : E Ξ n ρ J M a b (pc + 1) ls (.int (nI r) :: st)) : E Ξ n ρ J M a b pc ls (.int y :: .int x :: st) := by
  subst hx hy hr
  exact e_irem C d (nI_ne0 h0 hq) (by rw [pk_rem hp h0 hq]; exact kk)
theorem e_iremV (p q : Nat) {x y : Int32} (C : Cx l R cc own ret mc ms tb post exc Ξ) (hx : x = nI p) (hy : y = nI q) (hp : p < 2 ^ 31) (h0 : 0 < q) (hq : q < 2 ^ 31) (d : decode cc pc = .ok (.irem, 1)) (kk : ∀ r : Nat, r = p % q → r < q → E Ξ n ρ J M a b (pc + 1) ls (.int (nI r) :: st)) : E Ξ n ρ J M a b pc ls (.int y :: .int x :: st) :=
  e_iremN p q _ C hx hy hp h0 hq rfl d (kk _ rfl (Nat.mod_lt _ h0))
theorem e_ixor {x y : Int32} (C : Cx l R cc own ret mc ms tb post exc Ξ) (d : decode cc pc = .ok (.ixor, 1)) (kk : E Ξ n ρ J M a b (pc + 1) ls (.int (x ^^^ y) :: st)) : E Ξ n ρ J M a b pc ls (.int y :: .int x :: st) := by
  obtain ⟨p, e, s, m, args, below, meth, c, D, cA, A, nL, rfl, hx, hb, hml, hown, hts, hK, hG, hr, hlk, htb, hA, hst⟩ := C
  intro H locs lsA hP hD hS hl
  exact lv_ixor hx hb d (kk H locs lsA hP hD hS hl)
end Rows2
