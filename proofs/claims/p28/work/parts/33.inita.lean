theorem oq_size {D : va_G} {a : Nat} {e e' : va_E} {H H1 : Heap} (h : va_at D vwCl (a, e) H) (h1 : va_at D vwCl (a, e') H1) (oq : ∀ q : Nat, q ≠ a → H1[q]? = H[q]?) : H1.size = H.size := by
  have l0 : a < H.size := va_at.lt h
  have l1 : a < H1.size := va_at.lt h1
  have key : ∀ q, q ≠ a → (q < H1.size ↔ q < H.size) := fun q hq => by
    have e := oq q hq
    constructor
    · intro z
      rw [Array.getElem?_eq_getElem z] at e
      exact (Array.getElem?_eq_some_iff.mp e.symm).1
    · intro z
      rw [Array.getElem?_eq_getElem z] at e
      exact (Array.getElem?_eq_some_iff.mp e).1
  have k1 := key H.size (by omega)
  have k2 := key H1.size (by omega)
  omega
abbrev Is (i : Nat) (x : Nat) : Prop := x = 0 ∨ x = 1 ∨ (4 ≤ x ∧ x < 4 + 2 * i)
abbrev Iz (i : Nat) (x : Nat) : Prop := x = 0 ∨ x = 1 ∨ (6 ≤ x ∧ x < 22 + 16 * i)
