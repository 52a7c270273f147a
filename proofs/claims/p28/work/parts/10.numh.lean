/-! bytes of a piece -/
def byN (b : Nat → Bool) (a : Nat) : Nat := fb_sm (fun i => if b (a + i) = true then 2 ^ i else 0) 8
theorem bits_sum (c : Nat → Bool) : ∀ n, fb_sm (fun i => if c i = true then 2 ^ i else 0) n < 2 ^ n ∧ ∀ j, (fb_sm (fun i => if c i = true then 2 ^ i else 0) n).testBit j = (decide (j < n) && c j)
  | 0 => ⟨Nat.zero_lt_one, fun j => by simp [fb_sm]⟩
  | n + 1 => by
    obtain ⟨h1, h2⟩ := bits_sum c n
    have e : fb_sm (fun i => if c i = true then 2 ^ i else 0) (n + 1) = 2 ^ n * (c n).toNat + fb_sm (fun i => if c i = true then 2 ^ i else 0) n := by
      rw [fb_sm_succ]
      cases c n <;> simp <;> omega
    refine ⟨?_, fun j => ?_⟩
    · rw [e, Nat.pow_succ]
      cases c n <;> simp <;> omega
    · rw [e, Nat.testBit_two_pow_mul_add _ h1]
      by_cases h : j < n
      · rw [if_pos h, h2, decide_eq_true h, decide_eq_true (by omega)]
      · rw [if_neg h]
        by_cases h3 : j = n
        · subst h3
          rw [Nat.sub_self, decide_eq_true (by omega)]
          cases c j <;> rfl
        · rw [decide_eq_false (by omega), Bool.false_and]
          cases c n
          · exact Nat.zero_testBit _
          · have h4 : j - n = (j - n - 1) + 1 := by omega
            rw [h4]
            show Nat.testBit 1 (j - n - 1 + 1) = false
            rw [Nat.testBit_succ]
            exact Nat.zero_testBit _
theorem byN_lt (b : Nat → Bool) (a : Nat) : byN b a < 256 := (bits_sum (fun i => b (a + i)) 8).1
theorem bt_nI {n j : Nat} (hj : j < 32) : bt (nI n) j = n.testBit j := by
  show (BitVec.ofNat 32 n).getLsbD j = _
  rw [BitVec.getLsbD_ofNat, decide_eq_true hj, Bool.true_and]
theorem byte_at (f : Nat → Int64) {p k : Nat} (hk : k < 32) : (ushrL (f (4 * p + k / 8)) (nI (8 * (k % 8))) &&& 255).toInt32 = nI (byN (bitL f) (256 * p + 8 * k)) := by
  refine b_ext (fun j hj => ?_)
  rw [bt_nI hj]
  unfold byN
  rw [(bits_sum (fun i => bitL f (256 * p + 8 * k + i)) 8).2 j]
  unfold bt
  rw [Int64.toBitVec_toInt32, BitVec.signExtend_eq_setWidth_of_le _ (by decide), BitVec.getLsbD_setWidth, decide_eq_true hj, Bool.true_and]
  show lb (ushrL (f (4 * p + k / 8)) (nI (8 * (k % 8))) &&& 255) j = _
  rw [lb_and, lb_ushr _ (by omega)]
  have h255 : ∀ j, j < 64 → lb 255 j = decide (j < 8) := by decide +kernel
  rw [h255 j (by omega), Bool.and_comm]
  by_cases h8 : j < 8
  · rw [decide_eq_true h8, Bool.true_and, Bool.true_and, show 256 * p + 8 * k + j = 64 * (4 * p + k / 8) + (8 * (k % 8) + j) by omega, bitL_lb f _ (by omega)]
  · rw [decide_eq_false h8, Bool.false_and, Bool.false_and]
/-- the place of the i-th number of piece p -/
def plc (b : Nat → Bool) (p i : Nat) : Int32 := nthF (fun x => b (256 * p + x)) 256 0 i
theorem ctr_lo (b : Nat → Bool) {p : Nat} (hp : p < 16) : ctr b (nI 0) (nI (256 * p) - nI 1) = ct b 0 (256 * p) := by
  unfold ctr
  rw [show 4096 = 256 * p + (4096 - 256 * p) by omega, ct_add]
  have h1 : ct (fun j => b j && inr (nI 0) (nI (256 * p) - nI 1) j) 0 (256 * p) = ct b 0 (256 * p) := ct_cong (fun x h1 h2 => by
    have : inr (nI 0) (nI (256 * p) - nI 1) x = true := by
      rw [pk_sub (by omega)]
      exact decide_eq_true ⟨(nI_leI (by omega) (by omega)).mpr (by omega), (nI_leI (by omega) (by omega)).mpr (by omega)⟩
    rw [this, Bool.and_true])
  have h2 : ct (fun j => b j && inr (nI 0) (nI (256 * p) - nI 1) j) (0 + 256 * p) (4096 - 256 * p) = 0 := by
    refine fb_ct_zero.mpr (fun k hk => ?_)
    have : inr (nI 0) (nI (256 * p) - nI 1) (0 + 256 * p + k) = false := by
      refine decide_eq_false (fun z => ?_)
      have z2 := z.2
      rw [Int32.le_iff_toInt_le, nI_toInt (by omega), pk_sub_toInt (by omega) (by omega)] at z2
      omega
    show (b (0 + 256 * p + k) && inr (nI 0) (nI (256 * p) - nI 1) (0 + 256 * p + k)) = false
    rw [this, Bool.and_false]
  rw [h1, h2, Nat.add_zero]
theorem place_nth (b : Nat → Bool) {p i : Nat} (hp : p < 16) (hi : i < pn b p) : nthA b (nI (ctr b (nI 0) (nI (256 * p) - nI 1)) + nI i) - nI (256 * p) = plc b p i := by
  have hb1 := ct_le b 0 (256 * p)
  have hb2 := ct_le b (256 * p) 256
  unfold pn at hi
  rw [ctr_lo b hp, nI_add]
  unfold nthA
  rw [if_neg (nI_pos (by omega)), nI_clamp (by omega)]
  have e1 : nthF b 4096 0 (ct b 0 (256 * p) + i) = nthF b 256 (256 * p) i := by
    rw [show 4096 = 256 * p + (256 + (4096 - 256 * p - 256)) by omega, nthF_add, if_neg (by omega), Nat.zero_add, nthF_add, show ct b 0 (256 * p) + i - ct b 0 (256 * p) = i by omega, if_pos hi]
  rw [e1]
  obtain ⟨y, -, hy, he⟩ := nthF_in (b := b) 256 (256 * p) i hi
  unfold plc
  rcases nthF_shift (b := fun x => b (256 * p + x)) (c := b) (a := 256 * p) 256 0 i (fun z _ _ => rfl) with ⟨g1, g2⟩ | ⟨z, -, -, g1, g2⟩
  · rw [Nat.add_zero, he] at g2
    exact absurd g2 (nI_ne9 (by omega))
  · rw [Nat.add_zero] at g2
    rw [g1, g2, pk_sub (by omega)]
    congr 1
    omega
/-- the borders of the runs of a piece, its places are c 0 to c 255 -/
def stA (c : Nat → Bool) (x : Nat) : Bool := decide (x = 0) || !c (x - 1)
def enA (c : Nat → Bool) (x : Nat) : Bool := decide (x = 255) || !c (x + 1)
def brF (c : Nat → Bool) : Nat → Nat → Nat → Int32
  | 0, _, _ => -9
  | k + 1, x, n => if c x = true then (if stA c x = true ∧ n = 0 then nI x else if enA c x = true then (if (if stA c x = true then n - 1 else n) = 0 then nI x else brF c k (x + 1) ((if stA c x = true then n - 1 else n) - 1)) else brF c k (x + 1) (if stA c x = true then n - 1 else n)) else brF c k (x + 1) n
def pcb (b : Nat → Bool) (p x : Nat) : Bool := b (256 * p + x)
def brd (b : Nat → Bool) (p i : Nat) : Int32 := brF (pcb b p) 256 0 i
theorem brF_0 {c : Nat → Bool} {k x n : Nat} (h : c x = false) : brF c (k + 1) x n = brF c k (x + 1) n := if_neg (by rw [h]; exact Bool.false_ne_true)
theorem brF_1 {c : Nat → Bool} {k x n : Nat} (h : c x = true) (h1 : stA c x = true) (h2 : n = 0) : brF c (k + 1) x n = nI x := (if_pos h).trans (if_pos ⟨h1, h2⟩)
theorem brF_2 {c : Nat → Bool} {k x n : Nat} (h : c x = true) (h1 : stA c x = true) (h2 : ¬ n = 0) (h3 : enA c x = true) (h4 : n - 1 = 0) : brF c (k + 1) x n = nI x := by
  show (if c x = true then _ else _) = _
  rw [if_pos h, if_neg (fun z => h2 z.2), if_pos h3, if_pos h1, if_pos h4]
theorem brF_3 {c : Nat → Bool} {k x n : Nat} (h : c x = true) (h1 : stA c x = true) (h2 : ¬ n = 0) (h3 : enA c x = true) (h4 : ¬ n - 1 = 0) : brF c (k + 1) x n = brF c k (x + 1) (n - 1 - 1) := by
  show (if c x = true then _ else _) = _
  rw [if_pos h, if_neg (fun z => h2 z.2), if_pos h3, if_pos h1, if_neg h4]
theorem brF_4 {c : Nat → Bool} {k x n : Nat} (h : c x = true) (h1 : stA c x = true) (h2 : ¬ n = 0) (h3 : enA c x = false) : brF c (k + 1) x n = brF c k (x + 1) (n - 1) := by
  show (if c x = true then _ else _) = _
  rw [if_pos h, if_neg (fun z => h2 z.2), if_neg (by rw [h3]; exact Bool.false_ne_true), if_pos h1]
theorem brF_5 {c : Nat → Bool} {k x n : Nat} (h : c x = true) (h1 : stA c x = false) (h3 : enA c x = true) (h4 : n = 0) : brF c (k + 1) x n = nI x := by
  have q : ¬ (stA c x = true) := by rw [h1]; exact Bool.false_ne_true
  show (if c x = true then _ else _) = _
  rw [if_pos h, if_neg (fun z => q z.1), if_pos h3, if_neg q, if_pos h4]
theorem brF_6 {c : Nat → Bool} {k x n : Nat} (h : c x = true) (h1 : stA c x = false) (h3 : enA c x = true) (h4 : ¬ n = 0) : brF c (k + 1) x n = brF c k (x + 1) (n - 1) := by
  have q : ¬ (stA c x = true) := by rw [h1]; exact Bool.false_ne_true
  show (if c x = true then _ else _) = _
  rw [if_pos h, if_neg (fun z => q z.1), if_pos h3, if_neg q, if_neg h4]
theorem brF_7 {c : Nat → Bool} {k x n : Nat} (h : c x = true) (h1 : stA c x = false) (h3 : enA c x = false) : brF c (k + 1) x n = brF c k (x + 1) n := by
  have q : ¬ (stA c x = true) := by rw [h1]; exact Bool.false_ne_true
  show (if c x = true then _ else _) = _
  rw [if_pos h, if_neg (fun z => q z.1), if_neg (by rw [h3]; exact Bool.false_ne_true), if_neg q]
theorem stA_0 (c : Nat → Bool) {x : Nat} (h : x = 0) : stA c x = true := by unfold stA; rw [decide_eq_true h]; rfl
theorem stA_p {c : Nat → Bool} {x : Nat} {v : Bool} (h : ¬ x = 0) (h2 : c (x - 1) = v) : stA c x = !v := by unfold stA; rw [decide_eq_false h, h2]; rfl
theorem enA_0 (c : Nat → Bool) {x : Nat} (h : x = 255) : enA c x = true := by unfold enA; rw [decide_eq_true h]; rfl
theorem enA_p {c : Nat → Bool} {x : Nat} {v : Bool} (h : ¬ x = 255) (h2 : c (x + 1) = v) : enA c x = !v := by unfold enA; rw [decide_eq_false h, h2]; rfl
/-- a byte with which a piece is written -/
def wb (b : Nat → Bool) (p k : Nat) : Int32 := if k = 0 then nI (4 * p) + pkd b p else if pkd b p = nI 2 then nI (byN b (256 * p + 8 * (k - 1))) else if k = 1 then (if pkd b p = nI 0 then nI (pn b p) else nI (pr b p)) else if pkd b p = nI 0 then plc b p (k - 2) else brd b p (k - 2)
theorem cst_le (n r : Nat) : cst n r ≤ 33 := by
  unfold cst
  by_cases h : n = 0
  · rw [if_pos h]; omega
  · rw [if_neg h]
    by_cases h1 : 2 + n ≤ 2 + 2 * r ∧ 2 + n ≤ 33
    · rw [if_pos (by unfold kdN; rw [if_pos h1])]; omega
    · by_cases h2 : 2 + 2 * r ≤ 33
      · have e : kdN n r = 1 := by unfold kdN; rw [if_neg h1, if_pos h2]
        rw [e, if_neg (by omega), if_pos rfl]; exact h2
      · have e : kdN n r = 2 := by unfold kdN; rw [if_neg h1, if_neg h2]
        rw [e, if_neg (by omega), if_neg (by omega)]; omega
