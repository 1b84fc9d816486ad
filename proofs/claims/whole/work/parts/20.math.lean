/-! ===== the class's own numbers ===== -/
def fld (r : Nat → Nat) (c p f : Nat) : Nat := r ((c * 3 + p) * 4 + f)
def lossN (k w y : Nat) : Nat := if k = 1 ∨ k = 3 then (w + 1) / 2 else if k = 2 then w + 1 else if k = 4 then (if y % 3 = 0 then w + 1 else 2 * (w + 1)) else w
theorem lossN_le (k w y : Nat) : lossN k w y ≤ 2 * (w + 1) := by
  unfold lossN
  repeat' split
  all_goals omega
def rowOK (r : Nat → Nat) : Prop := (∀ j, r j < 1048576) ∧ ∀ c, c < 9 → r (108 + c) ≤ 3
def weOK (we : Nat → Nat) : Prop := ∀ j, we j < 1048576
/-- a sock's cells: the object, its rows of wears, darns, claims -/
def zSock (G : zG) (M : List va_E) (k i1 i2 i3 : Nat) (we r cl : Nat → Nat) : Prop :=
  M[k]? = some (.inr (0, [.ref (zad (zb G) i1), .ref (zad (zb G) i2), .ref (zad (zb G) i3)])) ∧ M[i1]? = some (zIN G 9 we) ∧ M[i2]? = some (zIN G 118 r) ∧ M[i3]? = some (zIN G 3 cl)
theorem zIN_inj {G : zG} {n m : Nat} {r r' : Nat → Nat} {M : List va_E} {i j : Nat} (h1 : M[i]? = some (zIN G n r)) (h2 : M[j]? = some (zIN G m r')) (hne : n ≠ m) : i ≠ j := by
  intro h
  subst h
  rw [h1] at h2
  have := Option.some.inj h2
  simp only [zIN, zI, Sum.inl.injEq, Prod.mk.injEq] at this
  exact hne this.2.1
theorem zIN_obj {G : zG} {n : Nat} {r : Nat → Nat} {M : List va_E} {i j : Nat} {o : Nat × List Value} (h1 : M[i]? = some (zIN G n r)) (h2 : M[j]? = some (.inr o)) : i ≠ j := by
  intro h
  subst h
  rw [h1] at h2
  cases h2
theorem zSock.row {G : zG} {M : List va_E} {k i1 i2 i3 : Nat} {we r cl : Nat → Nat} (h : zSock G M k i1 i2 i3 we r cl) (r' : Nat → Nat) : zSock G (M.set i2 (zIN G 118 r')) k i1 i2 i3 we r' cl := by
  obtain ⟨h0, h1, h2, h3⟩ := h
  exact ⟨zgn (zIN_obj h2 h0) h0, zgn (zIN_inj h2 h1 (by decide)) h1, zgs h2, zgn (zIN_inj h2 h3 (by decide)) h3⟩
theorem zSock.wear {G : zG} {M : List va_E} {k i1 i2 i3 : Nat} {we r cl : Nat → Nat} (h : zSock G M k i1 i2 i3 we r cl) (we' : Nat → Nat) : zSock G (M.set i1 (zIN G 9 we')) k i1 i2 i3 we' r cl := by
  obtain ⟨h0, h1, h2, h3⟩ := h
  exact ⟨zgn (zIN_obj h1 h0) h0, zgs h1, zgn (zIN_inj h1 h2 (by decide)) h2, zgn (zIN_inj h1 h3 (by decide)) h3⟩
theorem zSock.clm {G : zG} {M : List va_E} {k i1 i2 i3 : Nat} {we r cl : Nat → Nat} (h : zSock G M k i1 i2 i3 we r cl) (cl' : Nat → Nat) : zSock G (M.set i3 (zIN G 3 cl')) k i1 i2 i3 we r cl' := by
  obtain ⟨h0, h1, h2, h3⟩ := h
  exact ⟨zgn (zIN_obj h3 h0) h0, zgn (zIN_inj h3 h1 (by decide)) h1, zgn (zIN_inj h3 h2 (by decide)) h2, zgs h3⟩
theorem zIN_self {G : zG} {n i : Nat} {r : Nat → Nat} {M : List va_E} (h : M[i]? = some (zIN G n r)) : M.set i (zIN G n r) = M := by
  apply List.ext_getElem?
  intro j
  by_cases hj : j = i
  · subst hj
    rw [zgs h, h]
  · rw [List.getElem?_set_ne (Ne.symm hj)]
