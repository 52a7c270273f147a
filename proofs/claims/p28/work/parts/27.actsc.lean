/-! what is asked of two sets, and the fingerprint -/
theorem jct_cong {o : Nat} {a b c e : Nat → Bool} (h1 : Eq4 a b) (h2 : Eq4 c e) : jct o a c = jct o b e := ct_cong (fun z _ hz => by rw [h1 z (by omega), h2 z (by omega)])
theorem jct_le (o : Nat) (a b : Nat → Bool) : jct o a b ≤ 4096 := ct_le _ _ _
theorem smP_cong {a b c e : Nat → Bool} (h1 : Eq4 a b) (h2 : Eq4 c e) : smP a c = smP b e := fb_ct_cong (fun k hk => by rw [ct_cong (fun z h1' hz => by rw [h1 z (by omega), h2 z (by omega)])])
theorem gcd_lt {x y : Nat} (hx : x < 5000) (hy : y < 5000) : Nat.gcd x y < 5000 := by
  by_cases h : x = 0
  · rw [h, Nat.gcd_zero_left]; exact hy
  · exact Nat.lt_of_le_of_lt (Nat.gcd_le_left y (by omega)) hx
theorem jb_cong {o : Nat} {a b c e : Nat → Bool} (h1 : Eq4 a b) (h2 : Eq4 c e) : Eq4 (fun z => jb o (a z) (c z)) (fun z => jb o (b z) (e z)) := fun z hz => by
  show jb o (a z) (c z) = jb o (b z) (e z)
  rw [h1 z hz, h2 z hz]
theorem fp4_cong {b c : Nat → Bool} (h : Eq4 b c) {k : Nat} (hk : k < 16) (x : Int64) : ∀ n, fp4 b k x n = fp4 c k x n
  | 0 => rfl
  | n + 1 => by
    show mx (fp4 b k x n) _ = mx (fp4 c k x n) _
    rw [fp4_cong h hk x n, det_cong h hk]
theorem fpP_cong {b c : Nat → Bool} (h : Eq4 b c) (x : Int64) : ∀ n, n ≤ 16 → fpP b x n = fpP c x n
  | 0, _ => by
    show mx x (nI (ct b 0 4096)).toInt64 = mx x (nI (ct c 0 4096)).toInt64
    rw [ct_cong (fun z _ hz => h z (by omega))]
  | n + 1, hn => by
    show (if 0 < pn b n then fp4 b n (mx (fpP b x n) _) 4 else fpP b x n) = if 0 < pn c n then fp4 c n (mx (fpP c x n) _) 4 else fpP c x n
    rw [fpP_cong h x n (by omega), fp4_cong h (show n < 16 by omega), pn_cong (b := b) (c := c) (fun z _ hz => h z (by omega))]
theorem fpX_cong {b c : Nat → Bool} (h : Eq4 b c) (x : Int64) : ∀ n, n ≤ 4096 → fpX b x n = fpX c x n
  | 0, _ => rfl
  | n + 1, hn => by
    show (if b n = true then mx (fpX b x n) _ else fpX b x n) = if c n = true then mx (fpX c x n) _ else fpX c x n
    rw [fpX_cong h x n (by omega), h n (by omega)]
theorem fpX_skip {b : Nat → Bool} {x : Int64} {a : Nat} : ∀ n, (∀ j, j < n → b (a + j) = false) → fpX b x (a + n) = fpX b x a
  | 0, _ => rfl
  | n + 1, h => by
    show (if b (a + n) = true then mx (fpX b x (a + n)) _ else fpX b x (a + n)) = _
    rw [h n (by omega), if_neg Bool.false_ne_true, fpX_skip n (fun j hj => h j (by omega))]
theorem nI_toInt64_add {a b : Nat} (h : a + b < 2 ^ 31) : (nI a).toInt64 + (nI b).toInt64 = (nI (a + b)).toInt64 := by
  apply Int64.toInt_inj.mp
  rw [Int64.toInt_add, Int32.toInt_toInt64, Int32.toInt_toInt64, Int32.toInt_toInt64, nI_toInt (by omega), nI_toInt (by omega), nI_toInt h]
  rw [show ((a : Int) + (b : Int)) = ((a + b : Nat) : Int) by omega]
  exact Int.bmod_eq_of_le (by omega) (by omega)
theorem mx_add {h : Int64} {a b : Nat} (hab : a + b < 2 ^ 31) : 31 * h + (nI a).toInt64 + (nI b).toInt64 = mx h (nI (a + b)).toInt64 := by
  unfold mx
  rw [Int64.add_assoc, nI_toInt64_add hab]
theorem lcmp_00 {w : Int64} (h : lg_cmp w 0 = 0) : w = 0 := by
  unfold lg_cmp at h
  by_cases h1 : w = 0
  · exact h1
  · simp [h1] at h
    split at h <;> simp_all
theorem pn_le (b : Nat → Bool) (k : Nat) : pn b k ≤ 256 := ct_le _ _ _
