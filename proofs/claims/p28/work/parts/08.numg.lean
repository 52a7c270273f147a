/-! what the writers and readers of an object of Numbers do to its bits -/
def stepJ (F f : Nat → Int64) (k : Nat) : Nat → Int64 := fun j => if j < k then F j else f j
theorem stepJ_0 (F f : Nat → Int64) (j : Nat) : stepJ F f 0 j = f j := if_neg (Nat.not_lt_zero _)
theorem stepJ_at (F f : Nat → Int64) (k : Nat) : stepJ F f k k = f k := if_neg (Nat.lt_irrefl _)
theorem stepJ_upd {F f : Nat → Int64} {k : Nat} {v : Int64} (h : v = F k) (n : Nat) : ∀ j, j < n → vp_updL (stepJ F f k) k v j = stepJ F f (k + 1) j := fun j _ => by
  unfold vp_updL stepJ
  by_cases h1 : j = k
  · subst h1; rw [if_pos rfl, if_pos (by omega), h]
  · rw [if_neg h1]
    by_cases h2 : j < k
    · rw [if_pos h2, if_pos (by omega)]
    · rw [if_neg h2, if_neg (by omega)]
theorem stepJ_end {F f : Nat → Int64} {n : Nat} : ∀ j, j < n → stepJ F f n j = F j := fun j h => if_pos h
theorem Num.keep {D : va_G} {T : Nat → ClassId} {H H1 : Heap} {o w o' w' : Nat} {f g : Nat → Int64} (h : Num D T H o w f) (h' : Num D T H o' w' g) (hne : w ≠ w') (oq : ∀ q, q ≠ w' → H1[q]? = H[q]?) : Num D T H1 o w f :=
  h.kept (oq _ (ne_oJ (q := (RX1, TX1, 1)) rfl (by decide) h.1 h'.2)) (oq _ hne)
theorem bit_incl (f : Nat → Int64) {x : Nat} (hx : x < 4096) (y : Nat) (hy : y < 4096) : bitL (vp_updL f (x / 64) (f (x / 64) ||| shlL 1 (nI (x % 64)))) y = (bitL f y || decide (y = x)) := by
  rw [bitL_dm, bitL_dm]
  by_cases h : y / 64 = x / 64
  · rw [h, pk_uLs, lb_or, lb_shl _ (by omega) (by omega)]
    congr 1
    by_cases h2 : x % 64 ≤ y % 64
    · rw [decide_eq_true h2, Bool.true_and, lb_1 _ (by omega)]
      exact decide_eq_decide.mpr (by omega)
    · rw [decide_eq_false h2, Bool.false_and]
      exact (decide_eq_false (by omega)).symm
  · rw [pk_uLn h, decide_eq_false (by intro z; subst z; exact h rfl), Bool.or_false]
theorem bit_all {f : Nat → Int64} {G : Nat → Int64} {t : Bool → Bool → Bool} {x y : Int32} (h : ∀ k, k < 64 → ∀ j, j < 64 → lb (G k) j = t (lb (f k) j) (lb (mk k x y) j)) (q : Nat) (hq : q < 4096) : bitL G q = t (bitL f q) (inr x y q) := by
  have e := h (q / 64) (by omega) (q % 64) (by omega)
  rw [lb_mk (by omega) (by omega), show 64 * (q / 64) + q % 64 = q by omega] at e
  exact e
theorem pop_mk (f : Nat → Int64) (x y : Int32) {k : Nat} (hk : k < 64) : pop (f k &&& mk k x y) = ct (fun j => bitL f j && inr x y j) (64 * k) 64 := by
  refine fb_ct_cong (fun j hj => ?_)
  show lb (f k &&& mk k x y) j = (bitL f (64 * k + j) && inr x y (64 * k + j))
  rw [lb_and, lb_mk hk hj, bitL_lb f k hj]
def cy (f : Nat → Int64) (a i : Nat) : Int64 := if i = 0 then 0 else ushrL (f (a + i - 1)) (nI 63)
theorem cy_0 (f : Nat → Int64) (a : Nat) : 0 = cy f a 0 := (if_pos rfl).symm
theorem cy_s (f : Nat → Int64) (a i : Nat) : ushrL (f (a + i)) (nI 63) = cy f a (i + 1) := by
  unfold cy
  rw [if_neg (by omega), show a + (i + 1) - 1 = a + i by omega]
theorem pop_runs (f : Nat → Int64) (a i : Nat) : pop (f (a + i) &&& ((shlL (f (a + i)) (nI 1) ||| cy f a i) ^^^ (-1))) = ct (rsG (bitL f) (64 * a)) (64 * a + 64 * i) 64 := by
  refine fb_ct_cong (fun j hj => ?_)
  show lb (f (a + i) &&& ((shlL (f (a + i)) (nI 1) ||| cy f a i) ^^^ (-1))) j = rsG (bitL f) (64 * a) (64 * a + 64 * i + j)
  unfold rsG
  rw [lb_and, lb_not _ hj, lb_or, lb_shl _ (by omega) hj, show 64 * a + 64 * i + j = 64 * (a + i) + j by omega, bitL_lb f _ hj]
  congr 1
  by_cases h0 : j = 0
  · subst h0
    rw [decide_eq_false (by omega), Bool.false_and, Bool.false_or]
    unfold cy
    by_cases hi : i = 0
    · subst hi
      rw [if_pos rfl, lb_0, decide_eq_true (by omega)]; rfl
    · rw [if_neg hi, lb_ushr _ (by omega), decide_eq_false (by omega), Bool.false_or, show 64 * (a + i) + 0 - 1 = 64 * (a + i - 1) + 63 by omega, bitL_lb f _ (by omega)]
  · have hc : lb (cy f a i) j = false := by
      unfold cy
      by_cases hi : i = 0
      · rw [if_pos hi, lb_0]
      · rw [if_neg hi, lb_ushr _ (by omega), lb_big (by omega)]
    rw [hc, decide_eq_true (by omega), Bool.true_and, Bool.or_false, decide_eq_false (by omega), Bool.false_or, show 64 * (a + i) + j - 1 = 64 * (a + i) + (j - 1) by omega, bitL_lb f _ (by omega)]
theorem lcmp_bit (w : Int64) {j : Nat} (hj : j < 64) : lg_cmp (ushrL w (nI j) &&& 1) 0 = b2i (lb w j) := by
  have e : ushrL w (nI j) &&& 1 = if lb w j = true then 1 else 0 := by
    refine lb_ext (fun i hi => ?_)
    rw [lb_and, lb_ushr _ hj, lb_1 i hi]
    by_cases h : i = 0
    · subst h
      rw [Nat.add_zero]
      cases lb w j <;> decide +kernel
    · rw [decide_eq_false h, Bool.and_false]
      split
      · rw [lb_1 i hi, decide_eq_false h]
      · rw [lb_0]
  rw [e]
  cases lb w j <;> decide +kernel
theorem cl_b (x : Int32) : x.toNatClampNeg < 2 ^ 31 := by
  have := x.toInt_lt
  unfold Int32.toNatClampNeg
  omega
theorem kd_0 {n r : Nat} (h : n = 0) : kd n r = -9 := if_pos h
theorem kd_a {n r : Nat} (h : ¬ n = 0) (h1 : ¬ 2 + 2 * r < 2 + n) (h2 : ¬ 33 < 2 + n) : kd n r = nI 0 := by
  unfold kd kdN
  rw [if_neg h, if_pos ⟨by omega, by omega⟩]
theorem kd_r {n r : Nat} (h : ¬ n = 0) (h1 : 2 + 2 * r < 2 + n ∨ 33 < 2 + n) (h2 : ¬ 33 < 2 + 2 * r) : kd n r = nI 1 := by
  unfold kd kdN
  rw [if_neg h, if_neg (by omega), if_pos (by omega)]
theorem kd_b {n r : Nat} (h : ¬ n = 0) (h1 : 2 + 2 * r < 2 + n ∨ 33 < 2 + n) (h2 : 33 < 2 + 2 * r) : kd n r = nI 2 := by
  unfold kd kdN
  rw [if_neg h, if_neg (by omega), if_neg (by omega)]
theorem kd_inv (n r : Nat) : (n = 0 ∧ kd n r = -9) ∨ (n ≠ 0 ∧ kdN n r = 0 ∧ kd n r = nI 0) ∨ (n ≠ 0 ∧ kdN n r = 1 ∧ kd n r = nI 1) ∨ (n ≠ 0 ∧ kdN n r = 2 ∧ kd n r = nI 2) := by
  by_cases h : n = 0
  · exact Or.inl ⟨h, kd_0 h⟩
  · have h3 := kdN_lt n r
    rcases (show kdN n r = 0 ∨ kdN n r = 1 ∨ kdN n r = 2 by omega) with e | e | e
    · exact Or.inr (Or.inl ⟨h, e, by unfold kd; rw [if_neg h, e]⟩)
    · exact Or.inr (Or.inr (Or.inl ⟨h, e, by unfold kd; rw [if_neg h, e]⟩))
    · exact Or.inr (Or.inr (Or.inr ⟨h, e, by unfold kd; rw [if_neg h, e]⟩))
theorem cst_0 {n r : Nat} (h : kd n r = nI 0) : cst n r = 2 + n := by
  rcases kd_inv n r with ⟨h1, h2⟩ | ⟨h1, h2, h3⟩ | ⟨h1, h2, h3⟩ | ⟨h1, h2, h3⟩
  · rw [h2] at h; exact absurd h (by decide)
  · unfold cst; rw [if_neg h1, if_pos h2]
  · rw [h3] at h; exact absurd h (by decide)
  · rw [h3] at h; exact absurd h (by decide)
theorem cst_1 {n r : Nat} (h : kd n r = nI 1) : cst n r = 2 + 2 * r := by
  rcases kd_inv n r with ⟨h1, h2⟩ | ⟨h1, h2, h3⟩ | ⟨h1, h2, h3⟩ | ⟨h1, h2, h3⟩
  · rw [h2] at h; exact absurd h (by decide)
  · rw [h3] at h; exact absurd h (by decide)
  · unfold cst; rw [if_neg h1, if_neg (by omega), if_pos h2]
  · rw [h3] at h; exact absurd h (by decide)
theorem cst_2 {n r : Nat} (h : kd n r = nI 2) : cst n r = 33 := by
  rcases kd_inv n r with ⟨h1, h2⟩ | ⟨h1, h2, h3⟩ | ⟨h1, h2, h3⟩ | ⟨h1, h2, h3⟩
  · rw [h2] at h; exact absurd h (by decide)
  · rw [h3] at h; exact absurd h (by decide)
  · rw [h3] at h; exact absurd h (by decide)
  · unfold cst; rw [if_neg h1, if_neg (by omega), if_neg (by omega)]
theorem cst_n {n r : Nat} (h0 : ¬ kd n r = nI 0) (h1 : ¬ kd n r = nI 1) (h2 : ¬ kd n r = nI 2) : cst n r = 0 := by
  rcases kd_inv n r with ⟨e, -⟩ | ⟨-, -, e⟩ | ⟨-, -, e⟩ | ⟨-, -, e⟩
  · unfold cst; rw [if_pos e]
  · exact absurd e h0
  · exact absurd e h1
  · exact absurd e h2
/-- a set moved -/
def bz (b : Nat → Bool) (X : Int) : Bool := decide (0 ≤ X ∧ X < 4096) && b X.toNat
theorem lb_wAt (f : Nat → Int64) (q : Int32) {i : Nat} (hi : i < 64) : lb (wAt f q) i = bz (bitL f) (64 * q.toInt + i) := by
  unfold wAt bz
  by_cases h : ¬ q < 0 ∧ q < nI 64
  · rw [if_pos h]
    obtain ⟨j, hj, rfl⟩ := nI_of h.1
    have h2 : j < 64 := (nI_ltI hj (by decide)).mp h.2
    rw [nI_clamp hj, nI_toInt hj, decide_eq_true (by omega), Bool.true_and, show (64 * (j : Int) + (i : Int)).toNat = 64 * j + i by omega, bitL_lb f j hi]
  · rw [if_neg h, lb_0, decide_eq_false, Bool.false_and]
    intro z
    refine h ⟨fun z2 => ?_, ?_⟩
    · rw [Int32.lt_iff_toInt_lt, Int32.toInt_zero] at z2
      omega
    · rw [Int32.lt_iff_toInt_lt, nI_toInt (by decide)]
      omega
theorem shr6 (x : Int32) : (shrI x (nI 6)).toInt = x.toInt / 64 := by
  have h := pk_shr x (nI 6 &&& 31) 6 (s_l 6 (by decide))
  show (x >>> (nI 6 &&& 31)).toInt = _
  rw [h, Int.shiftRight_eq_div_pow]
  rfl
theorem and63 (x : Int32) : x &&& nI 63 = nI (x.toInt % 64).toNat := by
  rw [pk_and x 6 (by decide +kernel)]
  congr 1
  have h : x.toInt = x.toBitVec.toInt := rfl
  rw [h, BitVec.toInt_eq_toNat_cond]
  have := x.toBitVec.isLt
  split <;> omega
/-- a word of the set moved by y, from the words that it lies in -/
theorem moved_word (f : Nat → Int64) (x : Int32) (hx : -100000 ≤ x.toInt ∧ x.toInt ≤ 100000) {a : Nat} (ha : x &&& nI 63 = nI a) (ha64 : a < 64) {hi : Int64} (hh : hi = if a = 0 then 0 else shlL (wAt f (shrI x (nI 6) + nI 1)) (nI (64 - a))) {j : Nat} (hj : j < 64) : lb (ushrL (wAt f (shrI x (nI 6))) (nI a) ||| hi) j = bz (bitL f) (x.toInt + j) := by
  have e := and63 x
  rw [ha, nI_eq (by omega) (by omega)] at e
  have hq := shr6 x
  have hS : x.toInt = 64 * (x.toInt / 64) + (a : Int) := by omega
  have hq1 : (shrI x (nI 6) + nI 1).toInt = x.toInt / 64 + 1 := by
    rw [Int32.toInt_add, hq, nI_toInt (by decide)]
    exact Int.bmod_eq_of_le (by omega) (by omega)
  rw [lb_or, lb_ushr _ ha64, hh]
  rcases Nat.lt_or_ge (a + j) 64 with h | h
  · rw [lb_wAt f _ h, hq]
    have hz : lb (if a = 0 then 0 else shlL (wAt f (shrI x (nI 6) + nI 1)) (nI (64 - a))) j = false := by
      split
      · exact lb_0 _
      · rw [lb_shl _ (by omega) hj, decide_eq_false (by omega), Bool.false_and]
    rw [hz, Bool.or_false]
    congr 1
    omega
  · rw [lb_big h, Bool.false_or, if_neg (by omega), lb_shl _ (by omega) hj, decide_eq_true (by omega), Bool.true_and, lb_wAt f _ (by omega), hq1]
    congr 1
    omega
theorem nthF_s (b : Nat → Bool) (k x n : Nat) : nthF b (k + 1) x n = if b x = true then (if n = 0 then nI x else nthF b k (x + 1) (n - 1)) else nthF b k (x + 1) n := rfl
theorem nI_ne9 {y : Nat} (h : y < 2 ^ 31) : ¬ nI y = -9 := fun z => by
  have h1 := congrArg Int32.toInt z
  rw [nI_toInt h, show (-9 : Int32).toInt = -9 by decide] at h1
  omega
theorem nth_word (f : Nat → Int64) {j q : Nat} (hj : j < 64) (h : q < pop (f j)) : nI (64 * j) + nthF (lb (f j)) 64 0 q = nthF (bitL f) 64 (64 * j) q := by
  rw [pop_ct] at h
  obtain ⟨y, -, hy, he⟩ := nthF_in (b := bitL f) 64 (64 * j) q h
  rcases nthF_shift (b := lb (f j)) (c := bitL f) (a := 64 * j) 64 0 q (fun z _ hz => bitL_lb f j (by omega)) with ⟨g1, g2⟩ | ⟨z, -, -, g1, g2⟩
  · rw [Nat.add_zero, he] at g2
    exact absurd g2 (nI_ne9 (by omega))
  · rw [Nat.add_zero] at g2
    rw [g1, g2, nI_add]
