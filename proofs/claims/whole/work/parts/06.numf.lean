/-! what the words of an object of Numbers are as a set -/
def bitL (f : Nat → Int64) (x : Nat) : Bool := (f (x / 64)).toBitVec.getLsbD (x % 64)
/-- how many of p are there from a on, n places long -/
def ct (p : Nat → Bool) (a n : Nat) : Nat := fb_ct (fun j => p (a + j)) n
theorem ct_0 (p : Nat → Bool) (a : Nat) : ct p a 0 = 0 := rfl
theorem ct_le (p : Nat → Bool) (a n : Nat) : ct p a n ≤ n := fb_ct_le _ _
theorem ct_add (p : Nat → Bool) (a m n : Nat) : ct p a (m + n) = ct p a m + ct p (a + m) n := by
  unfold ct
  rw [fb_ct_split]
  congr 1
  exact fb_ct_cong (fun k _ => by rw [Nat.add_assoc])
theorem ct_cong {p q : Nat → Bool} {a n : Nat} (h : ∀ x, a ≤ x → x < a + n → p x = q x) : ct p a n = ct q a n := fb_ct_cong (fun k hk => h _ (by omega) (by omega))
theorem bitL_at (f : Nat → Int64) (w : Nat) {j : Nat} (hj : j < 64) : bitL f (64 * w + j) = (f w).toBitVec.getLsbD j := by
  unfold bitL
  rw [show (64 * w + j) / 64 = w by omega, show (64 * w + j) % 64 = j by omega]
theorem pop_ct (f : Nat → Int64) (w : Nat) : pop (f w) = ct (bitL f) (64 * w) 64 := fb_ct_cong (fun j hj => (bitL_at f w hj).symm)
def wAt (f : Nat → Int64) (x : Int32) : Int64 := if ¬ x < 0 ∧ x < nI 64 then f x.toNatClampNeg else 0
theorem wAt_n (f : Nat → Int64) {j : Nat} (h : j < 64) : wAt f (nI j) = f j := by
  unfold wAt
  rw [if_pos ⟨nI_pos (by omega), (nI_ltI (by omega) (by omega)).mpr h⟩, nI_clamp (by omega)]
theorem wAt_neg (f : Nat → Int64) {x : Int32} (h : x < 0 ∨ ¬ x < nI 64) : wAt f x = 0 := if_neg (fun q => h.elim q.1 (fun z => z q.2))
theorem nI_cl {x : Int32} (h : ¬ x < 0) : x = nI x.toNatClampNeg := by
  obtain ⟨j, hj, rfl⟩ := nI_of h
  rw [nI_clamp hj]
theorem cl_lt {x : Int32} {n : Nat} (hn : n < 2 ^ 31) (h0 : ¬ x < 0) (h : x < nI n) : x.toNatClampNeg < n := by
  obtain ⟨j, hj, rfl⟩ := nI_of h0
  rw [nI_clamp hj]
  exact (nI_ltI hj hn).mp h
theorem r1 {b : Bool} (h : b = true) : nI 1 = b2i b := by subst h; rfl
theorem r0 {b : Bool} (h : b = false) : nI 0 = b2i b := by subst h; rfl
