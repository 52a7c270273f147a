/-! what the words of an object of Numbers are as a set -/
def bitL (f : Nat → Int64) (x : Nat) : Bool := (f (x / 64)).toBitVec.getLsbD (x % 64)
/-- how many of p are there from a on, n places long -/
def ct (p : Nat → Bool) (a n : Nat) : Nat := fb_ct (fun j => p (a + j)) n
theorem ct_0 (p : Nat → Bool) (a : Nat) : ct p a 0 = 0 := rfl
theorem ct_le (p : Nat → Bool) (a n : Nat) : ct p a n ≤ n := fb_ct_le _ _
theorem ct_add (p : Nat → Bool) (a m n : Nat) : ct p a (m + n) = ct p a m + ct p (a + m) n := by
  unfold ct
  rw [fb_ct_split]
  congr 1
  exact fb_ct_cong (fun k _ => by rw [Nat.add_assoc])
theorem ct_cong {p q : Nat → Bool} {a n : Nat} (h : ∀ x, a ≤ x → x < a + n → p x = q x) : ct p a n = ct q a n := fb_ct_cong (fun k hk => h _ (by omega) (by omega))
theorem bitL_at (f : Nat → Int64) (w : Nat) {j : Nat} (hj : j < 64) : bitL f (64 * w + j) = (f w).toBitVec.getLsbD j := by
  unfold bitL
  rw [show (64 * w + j) / 64 = w by omega, show (64 * w + j) % 64 = j by omega]
theorem pop_ct (f : Nat → Int64) (w : Nat) : pop (f w) = ct (bitL f) (64 * w) 64 := fb_ct_cong (fun j hj => (bitL_at f w hj).symm)
def wAt (f : Nat → Int64) (x : Int32) : Int64 := if ¬ x < 0 ∧ x < nI 64 then f x.toNatClampNeg else 0
theorem wAt_n (f : Nat → Int64) {j : Nat} (h : j < 64) : wAt f (nI j) = f j := by
  unfold wAt
  rw [if_pos ⟨nI_pos (by omega), (nI_ltI (by omega) (by omega)).mpr h⟩, nI_clamp (by omega)]
theorem wAt_neg (f : Nat → Int64) {x : Int32} (h : x < 0 ∨ ¬ x < nI 64) : wAt f x = 0 := if_neg (fun q => h.elim q.1 (fun z => z q.2))
theorem nI_cl {x : Int32} (h : ¬ x < 0) : x = nI x.toNatClampNeg := by
  obtain ⟨j, hj, rfl⟩ := nI_of h
  rw [nI_clamp hj]
theorem cl_lt {x : Int32} {n : Nat} (hn : n < 2 ^ 31) (h0 : ¬ x < 0) (h : x < nI n) : x.toNatClampNeg < n := by
  obtain ⟨j, hj, rfl⟩ := nI_of h0
  rw [nI_clamp hj]
  exact (nI_ltI hj hn).mp h
theorem r1 {b : Bool} (h : b = true) : nI 1 = b2i b := by subst h; rfl
theorem r0 {b : Bool} (h : b = false) : nI 0 = b2i b := by subst h; rfl
/-! bits of longs under Java's shifts -/
def lb (x : Int64) (j : Nat) : Bool := x.toBitVec.getLsbD j
theorem lb_and (x y : Int64) (j : Nat) : lb (x &&& y) j = (lb x j && lb y j) := by unfold lb; rw [Int64.toBitVec_and, BitVec.getLsbD_and]
theorem lb_or (x y : Int64) (j : Nat) : lb (x ||| y) j = (lb x j || lb y j) := by unfold lb; rw [Int64.toBitVec_or, BitVec.getLsbD_or]
theorem lb_xor (x y : Int64) (j : Nat) : lb (x ^^^ y) j = (lb x j ^^ lb y j) := by unfold lb; rw [Int64.toBitVec_xor, BitVec.getLsbD_xor]
theorem lb_0 (j : Nat) : lb 0 j = false := BitVec.getLsbD_zero
theorem lb_m1 : ∀ j, j < 64 → lb (-1) j = true := by decide +kernel
theorem lb_big {x : Int64} {j : Nat} (h : 64 ≤ j) : lb x j = false := BitVec.getLsbD_of_ge _ _ h
theorem lb_not (x : Int64) {j : Nat} (h : j < 64) : lb (x ^^^ (-1)) j = !lb x j := by rw [lb_xor, lb_m1 j h, Bool.xor_true]
theorem lb_ushr (x : Int64) {k : Nat} (hk : k < 64) (j : Nat) : lb (ushrL x (nI k)) j = lb x (k + j) := by
  unfold lb ushrL
  rw [wb_cu k hk]
  show (x.toUInt64 >>> UInt64.ofNat k).toBitVec.getLsbD j = _
  rw [UInt64.toBitVec_shiftRight]
  have e : ((UInt64.ofNat k).toBitVec % 64).toNat = k := by
    have h64 : ∀ k, k < 64 → (BitVec.ofNat 64 k % 64#64).toNat = k := by decide +kernel
    exact h64 k hk
  show (x.toBitVec >>> ((UInt64.ofNat k).toBitVec % 64).toNat).getLsbD j = _
  rw [e, BitVec.getLsbD_ushiftRight]
theorem lb_shl (x : Int64) {k j : Nat} (hk : k < 64) (hj : j < 64) : lb (shlL x (nI k)) j = (decide (k ≤ j) && lb x (j - k)) := by
  unfold lb shlL
  rw [wb_c k hk, Int64.toBitVec_shiftLeft, wb_tb, wb_sm k hk]
  show (x.toBitVec <<< (BitVec.ofNat 64 k).toNat).getLsbD j = _
  rw [BitVec.toNat_ofNat, Nat.mod_eq_of_lt (by omega), BitVec.getLsbD_shiftLeft]
  rcases Nat.lt_or_ge j k with h | h
  · simp [h, Nat.not_le.mpr h]
  · simp [hj, h, Nat.not_lt.mpr h]
theorem lb_ext {x y : Int64} (h : ∀ j, j < 64 → lb x j = lb y j) : x = y := Int64.toBitVec_inj.mp (BitVec.eq_of_getLsbD_eq (fun i hi => h i hi))
theorem bitL_lb (f : Nat → Int64) (w : Nat) {j : Nat} (hj : j < 64) : bitL f (64 * w + j) = lb (f w) j := bitL_at f w hj
theorem bitL_dm (f : Nat → Int64) (x : Nat) : bitL f x = lb (f (x / 64)) (x % 64) := rfl
theorem lb_1 : ∀ j, j < 64 → lb 1 j = decide (j = 0) := by decide +kernel
theorem n_63 (a : Nat) : nI a &&& nI 63 = nI (a % 64) := fa_mask a 6
theorem nI_shr {a k : Nat} (ha : a < 2 ^ 31) (hk : k < 32) : shrI (nI a) (nI k) = nI (a / 2 ^ k) := pk_shrN ha _ k (s_l k hk)
/-- joins -/
def jn (o : Nat) (a b : Int64) : Int64 := if o = 0 then a &&& b else if o = 1 then a ||| b else if o = 2 then a ^^^ b else a &&& (b ^^^ (-1))
def jb (o : Nat) (a b : Bool) : Bool := if o = 0 then a && b else if o = 1 then a || b else if o = 2 then a ^^ b else a && !b
theorem lb_jn (o : Nat) (a b : Int64) {j : Nat} (hj : j < 64) : lb (jn o a b) j = jb o (lb a j) (lb b j) := by
  unfold jn jb
  by_cases h0 : o = 0
  · rw [if_pos h0, if_pos h0, lb_and]
  · by_cases h1 : o = 1
    · rw [if_neg h0, if_neg h0, if_pos h1, if_pos h1, lb_or]
    · by_cases h2 : o = 2
      · rw [if_neg h0, if_neg h0, if_neg h1, if_neg h1, if_pos h2, if_pos h2, lb_xor]
      · rw [if_neg h0, if_neg h0, if_neg h1, if_neg h1, if_neg h2, if_neg h2, lb_and, lb_not b hj]
theorem tab_out {x : Int32} (n : Nat) (hn : n < 2 ^ 31) (h : ∀ k, k ≤ n → ¬ x = nI k) : x.toInt < (0 : Int) ∨ (n : Int) < x.toInt := by
  by_cases h0 : x < 0
  · exact Or.inl (by rw [Int32.lt_iff_toInt_lt] at h0; exact h0)
  · obtain ⟨j, hj, rfl⟩ := nI_of h0
    rw [nI_toInt hj]
    rcases Nat.lt_or_ge n j with q | q
    · exact Or.inr (by omega)
    · exact absurd rfl (h j q)
/-- masks of the numbers from x to y in word k -/
def mlo (k : Nat) (x : Int32) : Int32 := if x < nI (64 * k) then nI (64 * k) else x
def mhi (k : Nat) (y : Int32) : Int32 := if nI (64 * k + 63) < y then nI (64 * k + 63) else y
def mk (k : Nat) (x y : Int32) : Int64 := if mlo k x ≤ mhi k y then shlL (-1) (mlo k x &&& nI 63) &&& ushrL (-1) (nI 63 - (mhi k y &&& nI 63)) else 0
def inr (x y : Int32) (j : Nat) : Bool := decide (x ≤ nI j ∧ nI j ≤ y)
theorem lb_mk {k j : Nat} (hk : k < 64) (hj : j < 64) (x y : Int32) : lb (mk k x y) j = inr x y (64 * k + j) := by
  have hx : x ≤ nI (64 * k + j) ↔ x.toInt ≤ ((64 * k + j : Nat) : Int) := by rw [Int32.le_iff_toInt_le, nI_toInt (by omega)]
  have hy : nI (64 * k + j) ≤ y ↔ ((64 * k + j : Nat) : Int) ≤ y.toInt := by rw [Int32.le_iff_toInt_le, nI_toInt (by omega)]
  have e1 : (x < nI (64 * k)) ↔ x.toInt < ((64 * k : Nat) : Int) := by rw [Int32.lt_iff_toInt_lt, nI_toInt (by omega)]
  have e2 : (nI (64 * k + 63) < y) ↔ ((64 * k + 63 : Nat) : Int) < y.toInt := by rw [Int32.lt_iff_toInt_lt, nI_toInt (by omega)]
  unfold inr
  by_cases hle : mlo k x ≤ mhi k y
  · have hlo0 : ¬ mlo k x < 0 := by
      unfold mlo
      split
      · exact nI_pos (by omega)
      · rename_i h
        rw [e1] at h
        rw [Int32.lt_iff_toInt_lt, Int32.toInt_zero]
        omega
    obtain ⟨a, ha, ea⟩ := nI_of hlo0
    have hhi0 : ¬ mhi k y < 0 := by
      rw [ea, Int32.le_iff_toInt_le, nI_toInt ha] at hle
      rw [Int32.lt_iff_toInt_lt, Int32.toInt_zero]
      omega
    obtain ⟨b, hb, eb⟩ := nI_of hhi0
    have ha2 : ((a : Int) = if x.toInt < ((64 * k : Nat) : Int) then ((64 * k : Nat) : Int) else x.toInt) := by
      have h := congrArg Int32.toInt ea
      rw [nI_toInt ha] at h
      unfold mlo at h
      by_cases q : x < nI (64 * k)
      · rw [if_pos q, nI_toInt (by omega)] at h
        rw [if_pos (e1.mp q)]
        omega
      · rw [if_neg q] at h
        rw [if_neg (fun z => q (e1.mpr z))]
        omega
    have hb2 : ((b : Int) = if ((64 * k + 63 : Nat) : Int) < y.toInt then ((64 * k + 63 : Nat) : Int) else y.toInt) := by
      have h := congrArg Int32.toInt eb
      rw [nI_toInt hb] at h
      unfold mhi at h
      by_cases q : nI (64 * k + 63) < y
      · rw [if_pos q, nI_toInt (by omega)] at h
        rw [if_pos (e2.mp q)]
        omega
      · rw [if_neg q] at h
        rw [if_neg (fun z => q (e2.mpr z))]
        omega
    have hab : a ≤ b := by
      rw [ea, eb, nI_leI ha hb] at hle
      exact hle
    have hak : 64 * k ≤ a := by split at ha2 <;> omega
    have hbk : b ≤ 64 * k + 63 := by split at hb2 <;> omega
    unfold mk
    rw [if_pos hle, ea, eb, n_63, n_63, pk_sub (by omega), lb_and, lb_shl _ (by omega) hj, lb_ushr _ (by omega)]
    rw [show decide (x ≤ nI (64 * k + j) ∧ nI (64 * k + j) ≤ y) = decide (a % 64 ≤ j ∧ 63 - b % 64 + j < 64) from decide_eq_decide.mpr (by
      rw [hx, hy]
      split at ha2 <;> split at hb2 <;> omega)]
    by_cases q1 : a % 64 ≤ j
    · by_cases q2 : 63 - b % 64 + j < 64
      · rw [lb_m1 _ (by omega), lb_m1 _ q2, decide_eq_true q1, decide_eq_true ⟨q1, q2⟩]; rfl
      · rw [lb_big (x := -1) (j := 63 - b % 64 + j) (by omega), Bool.and_false, decide_eq_false (fun z => q2 z.2)]
    · rw [decide_eq_false q1, Bool.false_and, Bool.false_and, decide_eq_false (fun z => q1 z.1)]
  · unfold mk
    rw [if_neg hle, lb_0]
    refine (decide_eq_false (fun z => hle ?_)).symm
    rw [hx, hy] at z
    rw [Int32.le_iff_toInt_le]
    unfold mlo mhi
    split <;> split <;> (try rw [nI_toInt (by omega)]) <;> (try rw [nI_toInt (by omega)]) <;> (rename_i q1 q2; (try rw [e1] at q1); (try rw [e2] at q2); (try omega))
/-- how many of a set are from x to y -/
def ctr (b : Nat → Bool) (x y : Int32) : Nat := ct (fun j => b j && inr x y j) 0 4096
/-- where runs begin, of the numbers from a on -/
def rsG (b : Nat → Bool) (a x : Nat) : Bool := b x && (decide (x = a) || !b (x - 1))
def hlt (b : Nat → Bool) (x : Int32) : Bool := decide (¬ x < 0 ∧ x < nI 4096) && b x.toNatClampNeg
theorem hlt_n (b : Nat → Bool) {j : Nat} (h : j < 4096) : hlt b (nI j) = b j := by
  unfold hlt
  rw [decide_eq_true ⟨nI_pos (by omega), (nI_ltI (by omega) (by omega)).mpr h⟩, nI_clamp (by omega), Bool.true_and]
/-- the n-th of them from x on, k places are looked at -/
def nthF (b : Nat → Bool) : Nat → Nat → Nat → Int32
  | 0, _, _ => -9
  | k + 1, x, n => if b x = true then (if n = 0 then nI x else nthF b k (x + 1) (n - 1)) else nthF b k (x + 1) n
def nthA (b : Nat → Bool) (i : Int32) : Int32 := if i < 0 then -9 else nthF b 4096 0 i.toNatClampNeg
theorem ct_1 (b : Nat → Bool) (x k : Nat) : ct b x (k + 1) = (if b x = true then 1 else 0) + ct b (x + 1) k := by
  rw [show k + 1 = 1 + k by omega, ct_add]
  congr 1
  show 0 + (if b (x + 0) = true then 1 else 0) = _
  rw [Nat.zero_add, Nat.add_zero]
theorem nthF_add (b : Nat → Bool) : ∀ (m k x n : Nat), nthF b (m + k) x n = if n < ct b x m then nthF b m x n else nthF b k (x + m) (n - ct b x m)
  | 0, k, x, n => by rw [ct_0, if_neg (by omega), Nat.zero_add, Nat.add_zero, Nat.sub_zero]
  | m + 1, k, x, n => by
    rw [show m + 1 + k = (m + k) + 1 by omega, ct_1]
    show (if b x = true then (if n = 0 then nI x else nthF b (m + k) (x + 1) (n - 1)) else nthF b (m + k) (x + 1) n) = if _ then (if b x = true then (if n = 0 then nI x else nthF b m (x + 1) (n - 1)) else nthF b m (x + 1) n) else _
    by_cases hb : b x = true
    · rw [if_pos hb, if_pos hb, if_pos hb]
      by_cases hn : n = 0
      · rw [if_pos hn, if_pos hn, if_pos (by omega)]
      · rw [if_neg hn, if_neg hn, nthF_add b m k (x + 1) (n - 1)]
        by_cases hc : n - 1 < ct b (x + 1) m
        · rw [if_pos hc, if_pos (by omega)]
        · rw [if_neg hc, if_neg (by omega), show x + 1 + m = x + (m + 1) by omega, show n - 1 - ct b (x + 1) m = n - (1 + ct b (x + 1) m) by omega]
    · rw [if_neg hb, if_neg hb, if_neg hb, nthF_add b m k (x + 1) n]
      by_cases hc : n < ct b (x + 1) m
      · rw [if_pos hc, if_pos (by omega)]
      · rw [if_neg hc, if_neg (by omega), show x + 1 + m = x + (m + 1) by omega, show n - ct b (x + 1) m = n - (0 + ct b (x + 1) m) by omega]
theorem nthF_shift {b c : Nat → Bool} {a : Nat} : ∀ (k x n : Nat), (∀ j, x ≤ j → j < x + k → c (a + j) = b j) → nthF b k x n = -9 ∧ nthF c k (a + x) n = -9 ∨ ∃ j, x ≤ j ∧ j < x + k ∧ nthF b k x n = nI j ∧ nthF c k (a + x) n = nI (a + j)
  | 0, x, n, _ => Or.inl ⟨rfl, rfl⟩
  | k + 1, x, n, h => by
    have ih := fun n => nthF_shift k (x + 1) n (fun j h1 h2 => h j (by omega) (by omega))
    have h0 := h x (Nat.le_refl _) (by omega)
    simp only [nthF, h0]
    by_cases hb : b x = true
    · by_cases hn : n = 0
      · exact Or.inr ⟨x, Nat.le_refl _, by omega, by simp [hb, hn], by simp [hb, hn]⟩
      · rcases ih (n - 1) with h1 | ⟨j, h1, h2, h3, h4⟩
        · exact Or.inl (by simp only [hb, hn, if_true, if_false]; exact h1)
        · exact Or.inr ⟨j, by omega, by omega, by simp only [hb, hn, if_true, if_false]; exact h3, by simp only [hb, hn, if_true, if_false]; exact h4⟩
    · rcases ih n with h1 | ⟨j, h1, h2, h3, h4⟩
      · exact Or.inl (by simp only [hb, if_false]; exact h1)
      · exact Or.inr ⟨j, by omega, by omega, by simp only [hb, if_false]; exact h3, by simp only [hb, if_false]; exact h4⟩
/-- in the first m places there are more than n: the search ends there -/
theorem nthF_in {b : Nat → Bool} : ∀ (k x n : Nat), n < ct b x k → ∃ j, x ≤ j ∧ j < x + k ∧ nthF b k x n = nI j
  | 0, x, n, h => by rw [ct_0] at h; omega
  | k + 1, x, n, h => by
    rw [ct_1] at h
    simp only [nthF]
    by_cases hb : b x = true
    · by_cases hn : n = 0
      · exact ⟨x, Nat.le_refl _, by omega, by simp [hb, hn]⟩
      · rw [if_pos hb] at h
        obtain ⟨j, h1, h2, h3⟩ := nthF_in (b := b) k (x + 1) (n - 1) (by omega)
        exact ⟨j, by omega, by omega, by simp only [hb, hn, if_true, if_false]; exact h3⟩
    · rw [if_neg hb] at h
      obtain ⟨j, h1, h2, h3⟩ := nthF_in (b := b) k (x + 1) n (by omega)
      exact ⟨j, by omega, by omega, by simp only [hb, if_false]; exact h3⟩
/-- kinds and bytes of a piece with n numbers in r runs -/
def kdN (n r : Nat) : Nat := if 2 + n ≤ 2 + 2 * r ∧ 2 + n ≤ 33 then 0 else if 2 + 2 * r ≤ 33 then 1 else 2
def kd (n r : Nat) : Int32 := if n = 0 then -9 else nI (kdN n r)
def cst (n r : Nat) : Nat := if n = 0 then 0 else if kdN n r = 0 then 2 + n else if kdN n r = 1 then 2 + 2 * r else 33
theorem kdN_lt (n r : Nat) : kdN n r < 3 := by unfold kdN; split; omega; split <;> omega
def pn (b : Nat → Bool) (k : Nat) : Nat := ct b (256 * k) 256
def pr (b : Nat → Bool) (k : Nat) : Nat := ct (rsG b (256 * k)) (256 * k) (256 * 1)
def pkd (b : Nat → Bool) (k : Nat) : Int32 := kd (pn b k) (pr b k)
def det (b : Nat → Bool) (k : Nat) (q : Int32) : Int32 := if q = nI 0 then pkd b k else if q = nI 1 then nI (pn b k) else if q = nI 2 then nI (pr b k) else if q = nI 3 then nI (cst (pn b k) (pr b k)) else -1
