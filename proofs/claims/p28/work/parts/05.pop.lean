/-! how many bits are set: the JDK's own steps, byte by byte -/
/-- a number by its bytes, the lowest first -/
def by_val (b : Nat → Nat) : Nat → Nat
  | 0 => 0
  | k + 1 => b 0 + 256 * by_val (fun i => b (i + 1)) k
def by_m (m : Nat) : Nat → Nat
  | 0 => 0
  | k + 1 => m + 256 * by_m m k
theorem by_and {a A m B : Nat} (ha : a < 256) (hm : m < 256) : (a + 256 * A) &&& (m + 256 * B) = (a &&& m) + 256 * (A &&& B) := by
  have h1 := Nat.and_mod_two_pow (a := a + 256 * A) (b := m + 256 * B) (n := 8)
  have h2 := Nat.and_div_two_pow (a := a + 256 * A) (b := m + 256 * B) (n := 8)
  rw [show (2 : Nat) ^ 8 = 256 from rfl] at h1 h2
  rw [show (a + 256 * A) % 256 = a by omega, show (m + 256 * B) % 256 = m by omega] at h1
  rw [show (a + 256 * A) / 256 = A by omega, show (m + 256 * B) / 256 = B by omega] at h2
  omega
theorem by_step2 : ∀ (k : Nat) (b : Nat → Nat), (∀ i, b i < 256) → (by_val b k / 2) &&& by_m 85 k = by_val (fun i => (b i / 2) &&& 85) k
  | 0, _, _ => by simp [by_val, by_m]
  | k + 1, b, h => by
    have ih := by_step2 k (fun i => b (i + 1)) (fun i => h (i + 1))
    have hb := h 0
    simp only [by_val, by_m]
    have e : (b 0 + 256 * by_val (fun i => b (i + 1)) k) / 2 = (b 0 / 2 + 128 * (by_val (fun i => b (i + 1)) k % 2)) + 256 * (by_val (fun i => b (i + 1)) k / 2) := by omega
    rw [e, by_and (by omega) (by omega), ih]
    have key : ∀ t, t < 128 → ∀ z, z < 2 → (t + 128 * z) &&& 85 = t &&& 85 := by decide +kernel
    rw [key _ (by omega) _ (by omega)]
theorem by_step4 : ∀ (k : Nat) (b : Nat → Nat), (∀ i, b i < 256) → (by_val b k / 4) &&& by_m 51 k = by_val (fun i => (b i / 4) &&& 51) k
  | 0, _, _ => by simp [by_val, by_m]
  | k + 1, b, h => by
    have ih := by_step4 k (fun i => b (i + 1)) (fun i => h (i + 1))
    have hb := h 0
    simp only [by_val, by_m]
    have e : (b 0 + 256 * by_val (fun i => b (i + 1)) k) / 4 = (b 0 / 4 + 64 * (by_val (fun i => b (i + 1)) k % 4)) + 256 * (by_val (fun i => b (i + 1)) k / 4) := by omega
    rw [e, by_and (by omega) (by omega), ih]
    have key : ∀ t, t < 64 → ∀ z, z < 4 → (t + 64 * z) &&& 51 = t &&& 51 := by decide +kernel
    rw [key _ (by omega) _ (by omega)]
theorem by_mask {m : Nat} (hm : m < 256) : ∀ (k : Nat) (b : Nat → Nat), (∀ i, b i < 256) → by_val b k &&& by_m m k = by_val (fun i => b i &&& m) k
  | 0, _, _ => by simp [by_val, by_m]
  | k + 1, b, h => by
    have ih := by_mask hm k (fun i => b (i + 1)) (fun i => h (i + 1))
    simp only [by_val, by_m]
    rw [by_and (h 0) hm, ih]
theorem by_add : ∀ (k : Nat) (b c : Nat → Nat), by_val b k + by_val c k = by_val (fun i => b i + c i) k
  | 0, _, _ => rfl
  | k + 1, b, c => by
    have ih := by_add k (fun i => b (i + 1)) (fun i => c (i + 1))
    simp only [by_val]
    omega
theorem by_sub : ∀ (k : Nat) (b c : Nat → Nat), (∀ i, c i ≤ b i) → by_val b k - by_val c k = by_val (fun i => b i - c i) k ∧ by_val c k ≤ by_val b k
  | 0, _, _, _ => ⟨rfl, Nat.le_refl _⟩
  | k + 1, b, c, h => by
    have ih := by_sub k (fun i => b (i + 1)) (fun i => c (i + 1)) (fun i => h (i + 1))
    have h0 := h 0
    simp only [by_val]
    omega
theorem by_step16 : ∀ (k : Nat) (b : Nat → Nat), (∀ i, b i ≤ 68 ∧ b i % 16 ≤ 4) → (by_val b k + by_val b k / 16) &&& by_m 15 k = by_val (fun i => (b i + b i / 16) % 16) k
  | 0, _, _ => by simp [by_val, by_m]
  | k + 1, b, h => by
    have ih := by_step16 k (fun i => b (i + 1)) (fun i => h (i + 1))
    have hb := h 0
    have hv : by_val (fun i => b (i + 1)) k % 16 ≤ 4 := by
      cases k with
      | zero => simp [by_val]
      | succ k => simp only [by_val, Nat.zero_add]; have := (h 1).2; omega
    simp only [by_val, by_m]
    have e : (b 0 + 256 * by_val (fun i => b (i + 1)) k) + (b 0 + 256 * by_val (fun i => b (i + 1)) k) / 16 = (b 0 + b 0 / 16 + 16 * (by_val (fun i => b (i + 1)) k % 16)) + 256 * (by_val (fun i => b (i + 1)) k + by_val (fun i => b (i + 1)) k / 16) := by omega
    rw [e, by_and (by omega) (by omega), ih]
    have key : ∀ t, t < 256 → t &&& 15 = t % 16 := by decide +kernel
    rw [key _ (by omega)]
    omega
theorem by_lt : ∀ (k : Nat) (b : Nat → Nat), (∀ i, b i < 256) → by_val b k < 256 ^ k
  | 0, _, _ => by simp [by_val]
  | k + 1, b, h => by
    have ih := by_lt k (fun i => b (i + 1)) (fun i => h (i + 1))
    have h0 := h 0
    simp only [by_val, Nat.pow_succ]
    omega
theorem by_of : ∀ (k X : Nat), X < 256 ^ k → X = by_val (fun i => X / 256 ^ i % 256) k
  | 0, X, h => by simp at h; simp [by_val, h]
  | k + 1, X, h => by
    have ih := by_of k (X / 256) (by rw [Nat.pow_succ] at h; omega)
    simp only [by_val, Nat.pow_zero, Nat.div_one]
    have e : (fun i => X / 256 / 256 ^ i % 256) = (fun i => X / 256 ^ (i + 1) % 256) := by
      funext i
      rw [Nat.div_div_eq_div_mul, Nat.pow_succ, Nat.mul_comm]
    rw [e] at ih
    omega
theorem by_ct : ∀ (k : Nat) (b : Nat → Nat), (∀ i, b i < 256) → fb_ct (fun j => (by_val b k).testBit j) (8 * k) = fb_sm (fun i => fb_ct (fun j => (b i).testBit j) 8) k
  | 0, _, _ => rfl
  | k + 1, b, h => by
    have ih := by_ct k (fun i => b (i + 1)) (fun i => h (i + 1))
    rw [show 8 * (k + 1) = 8 + 8 * k by omega, fb_ct_split]
    have h0 := h 0
    have e1 : fb_ct (fun j => (by_val b (k + 1)).testBit j) 8 = fb_ct (fun j => (b 0).testBit j) 8 := fb_ct_cong (fun j hj => by
      simp only [by_val]
      have := Nat.testBit_two_pow_mul_add (by_val (fun i => b (i + 1)) k) (b := b 0) (i := 8) (by omega) j
      rw [show 2 ^ 8 * by_val (fun i => b (i + 1)) k + b 0 = b 0 + 256 * by_val (fun i => b (i + 1)) k by omega] at this
      rw [this, if_pos hj])
    have e2 : fb_ct (fun j => (by_val b (k + 1)).testBit (8 + j)) (8 * k) = fb_ct (fun j => (by_val (fun i => b (i + 1)) k).testBit j) (8 * k) := fb_ct_cong (fun j _ => by
      simp only [by_val]
      have := Nat.testBit_two_pow_mul_add (by_val (fun i => b (i + 1)) k) (b := b 0) (i := 8) (by omega) (8 + j)
      rw [show 2 ^ 8 * by_val (fun i => b (i + 1)) k + b 0 = b 0 + 256 * by_val (fun i => b (i + 1)) k by omega] at this
      rw [this, if_neg (by omega), show 8 + j - 8 = j by omega])
    rw [e1, e2, ih]
    have e3 : ∀ (n : Nat) (g : Nat → Nat), fb_sm g (n + 1) = g 0 + fb_sm (fun i => g (i + 1)) n := by
      intro n
      induction n with
      | zero => intro g; simp [fb_sm]
      | succ n ihn => intro g; rw [fb_sm_succ, ihn, fb_sm_succ]; omega
    rw [e3]
/-- what becomes of one byte -/
def by_f (b : Nat) : Nat := (((b - (b / 2 &&& 85)) &&& 51) + ((b - (b / 2 &&& 85)) / 4 &&& 51))
theorem by_f_ok : ∀ b, b < 256 → (b / 2 &&& 85) ≤ b ∧ by_f b ≤ 68 ∧ by_f b % 16 ≤ 4 ∧ (by_f b + by_f b / 16) % 16 = fb_ct (fun j => b.testBit j) 8 := by decide +kernel
theorem by_last {p : Nat → Nat} (h : ∀ i, p i ≤ 8) {Z Z1 Z2 Z3 : Nat} (hZ : Z = by_val p 8) (h1 : Z1 = Z + Z / 256) (h2 : Z2 = Z1 + Z1 / 65536) (h3 : Z3 = Z2 + Z2 / 4294967296) : Z3 % 128 = fb_sm p 8 ∧ Z3 < 2 ^ 64 ∧ Z2 < 2 ^ 64 ∧ Z1 < 2 ^ 64 := by
  have a0 := h 0
  have a1 := h 1
  have a2 := h 2
  have a3 := h 3
  have a4 := h 4
  have a5 := h 5
  have a6 := h 6
  have a7 := h 7
  simp only [by_val] at hZ
  simp only [fb_sm]
  generalize p 0 = q0 at *
  generalize p 1 = q1 at *
  generalize p 2 = q2 at *
  generalize p 3 = q3 at *
  generalize p 4 = q4 at *
  generalize p 5 = q5 at *
  generalize p 6 = q6 at *
  generalize p 7 = q7 at *
  have e1 : Z / 256 = q1 + 256 * (q2 + 256 * (q3 + 256 * (q4 + 256 * (q5 + 256 * (q6 + 256 * q7))))) := by omega
  have f1 : Z1 = (q0 + q1) + 256 * ((q1 + q2) + 256 * ((q2 + q3) + 256 * ((q3 + q4) + 256 * ((q4 + q5) + 256 * ((q5 + q6) + 256 * ((q6 + q7) + 256 * q7)))))) := by omega
  have e2 : Z1 / 65536 = (q2 + q3) + 256 * ((q3 + q4) + 256 * ((q4 + q5) + 256 * ((q5 + q6) + 256 * ((q6 + q7) + 256 * q7)))) := by omega
  have f2 : Z2 = (q0 + q1 + q2 + q3) + 256 * ((q1 + q2 + q3 + q4) + 256 * ((q2 + q3 + q4 + q5) + 256 * ((q3 + q4 + q5 + q6) + 256 * ((q4 + q5 + q6 + q7) + 256 * ((q5 + q6 + q7) + 256 * ((q6 + q7) + 256 * q7)))))) := by omega
  have e3 : Z2 / 4294967296 = (q4 + q5 + q6 + q7) + 256 * ((q5 + q6 + q7) + 256 * ((q6 + q7) + 256 * q7)) := by omega
  omega
/-- the bits of a long that are set -/
def pop (x : Int64) : Nat := fb_ct (fun j => x.toBitVec.getLsbD j) 64
theorem pop_le (x : Int64) : pop x ≤ 64 := fb_ct_le _ _
theorem pop_uN (x : Int64) : pop x = fb_ct (fun j => (uN x).testBit j) 64 := fb_ct_cong (fun _ _ => rfl)
theorem uN_and (x y : Int64) : uN (x &&& y) = uN x &&& uN y := by
  show (x.toBitVec &&& y.toBitVec).toNat = _
  rw [BitVec.toNat_and]; rfl
theorem uN_sub' {x y : Int64} (h : uN y ≤ uN x) : uN (x - y) = uN x - uN y := by
  show (x.toBitVec - y.toBitVec).toNat = _
  rw [BitVec.toNat_sub]
  have h1 : x.toBitVec.toNat = uN x := rfl
  have h2 : y.toBitVec.toNat = uN y := rfl
  have := uN_lt x
  have := uN_lt y
  omega
theorem uN_ushr (x : Int64) {k : Nat} (hk : k < 64) : uN (ushrL x (nI k)) = uN x / 2 ^ k := uN_sk x hk
theorem uN_i32 (x : Int64) : x.toInt32 &&& 127 = nI (uN x % 128) := by
  rw [show (127 : Int32) = nI 127 by decide]
  have e : x.toInt32 = nI (uN x) := by
    apply Int32.toBitVec_inj.mp
    rw [Int64.toBitVec_toInt32, BitVec.signExtend_eq_setWidth_of_le _ (by decide)]
    show x.toBitVec.setWidth 32 = BitVec.ofNat 32 x.toBitVec.toNat
    apply BitVec.eq_of_toNat_eq
    simp
  rw [e, fa_and, show (127 : Nat) = 2 ^ 7 - 1 by decide, Nat.and_two_pow_sub_one_eq_mod]
theorem pop_steps (x y1 y2 y3 y4 y5 y6 : Int64) (h1 : y1 = x - (ushrL x (nI 1) &&& 6148914691236517205)) (h2 : y2 = (y1 &&& 3689348814741910323) + (ushrL y1 (nI 2) &&& 3689348814741910323)) (h3 : y3 = (y2 + ushrL y2 (nI 4)) &&& 1085102592571150095) (h4 : y4 = y3 + ushrL y3 (nI 8)) (h5 : y5 = y4 + ushrL y4 (nI 16)) (h6 : y6 = y5 + ushrL y5 (nI 32)) : y6.toInt32 &&& 127 = nI (pop x) := by
  have hX := by_of 8 (uN x) (by have := uN_lt x; omega)
  generalize hb : (fun i => uN x / 256 ^ i % 256) = b at hX
  have hb8 : ∀ i, b i < 256 := fun i => by rw [← hb]; exact Nat.mod_lt _ (by decide)
  have m5 : uN 6148914691236517205 = by_m 85 8 := by decide +kernel
  have m3 : uN 3689348814741910323 = by_m 51 8 := by decide +kernel
  have m0 : uN 1085102592571150095 = by_m 15 8 := by decide +kernel
  have s1 := by_sub 8 b (fun i => b i / 2 &&& 85) (fun i => (by_f_ok _ (hb8 i)).1)
  have u1 : uN y1 = by_val (fun i => b i - (b i / 2 &&& 85)) 8 := by
    have e : uN (ushrL x (nI 1) &&& 6148914691236517205) = by_val (fun i => b i / 2 &&& 85) 8 := by
      rw [uN_and, uN_ushr x (by decide), m5, hX, Nat.pow_one, by_step2 8 b hb8]
    rw [h1, uN_sub' (by rw [e, hX]; exact s1.2), e, hX, s1.1]
  have hc : ∀ i, b i - (b i / 2 &&& 85) < 256 := fun i => by have := hb8 i; omega
  have u2 : uN y2 = by_val (fun i => by_f (b i)) 8 := by
    have e1 : uN (y1 &&& 3689348814741910323) = by_val (fun i => (b i - (b i / 2 &&& 85)) &&& 51) 8 := by rw [uN_and, u1, m3, by_mask (by decide) 8 _ hc]
    have e2 : uN (ushrL y1 (nI 2) &&& 3689348814741910323) = by_val (fun i => (b i - (b i / 2 &&& 85)) / 4 &&& 51) 8 := by
      rw [uN_and, uN_ushr y1 (by decide), u1, m3, show 2 ^ 2 = 4 from rfl, by_step4 8 _ hc]
    have e3 := by_add 8 (fun i => (b i - (b i / 2 &&& 85)) &&& 51) (fun i => (b i - (b i / 2 &&& 85)) / 4 &&& 51)
    have hl := by_lt 8 (fun i => by_f (b i)) (fun i => by have := (by_f_ok _ (hb8 i)).2.1; omega)
    have e4 : (fun i => (b i - (b i / 2 &&& 85)) &&& 51) = (fun i => (b i - (b i / 2 &&& 85)) &&& 51) := rfl
    rw [h2, uN_add, e1, e2, e3]
    show by_val (fun i => by_f (b i)) 8 % 18446744073709551616 = _
    exact Nat.mod_eq_of_lt hl
  have u3 : uN y3 = by_val (fun i => (by_f (b i) + by_f (b i) / 16) % 16) 8 := by
    have hl := by_lt 8 (fun i => by_f (b i)) (fun i => by have := (by_f_ok _ (hb8 i)).2.1; omega)
    have hf : ∀ i, by_f (b i) ≤ 68 ∧ by_f (b i) % 16 ≤ 4 := fun i => ⟨(by_f_ok _ (hb8 i)).2.1, (by_f_ok _ (hb8 i)).2.2.1⟩
    have hv : by_val (fun i => by_f (b i)) 8 ≤ 68 * 72340172838076673 := by
      simp only [by_val, Nat.zero_add, Nat.reduceAdd]
      have a0 := (hf 0).1
      have a1 := (hf 1).1
      have a2 := (hf 2).1
      have a3 := (hf 3).1
      have a4 := (hf 4).1
      have a5 := (hf 5).1
      have a6 := (hf 6).1
      have a7 := (hf 7).1
      omega
    have e : uN (y2 + ushrL y2 (nI 4)) = by_val (fun i => by_f (b i)) 8 + by_val (fun i => by_f (b i)) 8 / 16 := by
      rw [uN_add, uN_ushr y2 (by decide), u2, show 2 ^ 4 = 16 from rfl]
      exact Nat.mod_eq_of_lt (by omega)
    rw [h3, uN_and, e, m0, by_step16 8 _ hf]
  have hp : ∀ i, (by_f (b i) + by_f (b i) / 16) % 16 ≤ 8 := fun i => by
    rw [(by_f_ok _ (hb8 i)).2.2.2]
    exact fb_ct_le _ _
  obtain ⟨l1, l2, l3, l4⟩ := by_last hp u3 rfl rfl rfl
  have u4 : uN y4 = uN y3 + uN y3 / 256 := by
    rw [h4, uN_add, uN_ushr y3 (by decide), show 2 ^ 8 = 256 from rfl]
    exact Nat.mod_eq_of_lt l4
  have u5 : uN y5 = uN y4 + uN y4 / 65536 := by
    rw [h5, uN_add, uN_ushr y4 (by decide), u4, show 2 ^ 16 = 65536 from rfl]
    exact Nat.mod_eq_of_lt l3
  have u6 : uN y6 = uN y5 + uN y5 / 4294967296 := by
    rw [h6, uN_add, uN_ushr y5 (by decide), u5, u4, show 2 ^ 32 = 4294967296 from rfl]
    exact Nat.mod_eq_of_lt l2
  rw [uN_i32, u6, u5, u4, l1, pop_uN, hX]
  have hct := by_ct 8 b hb8
  rw [show 8 * 8 = 64 from rfl] at hct
  rw [hct]
  congr 1
  exact fb_sm_cong (fun i _ => (by_f_ok _ (hb8 i)).2.2.2)
