/-- how the model holds a state -/
def MRp (v : Nat → Int32) (a : AS) : Prop := (∀ s, s < 6 → Eq4 (bI v s) (a.1 s)) ∧ (∀ j, j < 9 → v (768 + j) = a.2.1 j) ∧ ∀ j, j < 9 → v (777 + j) = a.2.2 j
abbrev buF (p : FS) : Nat → Int32 := fun i => nI (p.2.2.2.1 i)
def MSE (D : va_G) (T : Nat → ClassId) (H : Heap) (M : Nat → Nat) (Sy : Nat → Prop) (p : FS) : Prop :=
  ∃ (v as pa bi : Nat → Int32) (at0 : Nat), MO D T H M v as pa p.2.2.1 (buF p) p.2.2.2.2 bi at0 ∧ (∀ i, i < 6 → Sy (M i)) ∧ (∀ i, p.2.2.2.1 i < 256) ∧ p.2.2.2.2 ≤ 200 ∧ p.2.2.1 ≤ 5 ∧ MRp v p.1 ∧ ∀ i, i < p.2.2.1 → MRp (fun j => pa (790 * i + j)) (p.2.1 i)
theorem inr_0 {x : Int32} {i : Nat} (h : nI i ≤ x) (hi : i < 4096) : inr (nI 0) x i = true := decide_eq_true ⟨(nI_leI (by omega) (by omega)).mpr (Nat.zero_le _), h⟩
theorem rank_end {b : Nat → Bool} {x : Int32} {i : Nat} (h : x < nI i) (hi : i ≤ 4096) : ctr b (nI 0) x = ct (fun j => b j && inr (nI 0) x j) 0 i := by
  unfold ctr
  rw [show 4096 = i + (4096 - i) by omega, ct_add, ct_false (a := 0 + i) (fun z h1 h2 => by
    have : inr (nI 0) x z = false := decide_eq_false (fun q => by
      have q2 := q.2
      rw [Int32.le_iff_toInt_le, nI_toInt (by omega)] at q2
      rw [Int32.lt_iff_toInt_lt, nI_toInt (by omega)] at h
      omega)
    rw [this, Bool.and_false]), Nat.add_zero]
/-- the model's search for the nearest -/
def nrF (b : Nat → Bool) (x y : Int32) (n : Nat) : Int32 := if y = 0 then dnF b x n else upF b x n 0
theorem upF_snoc (b : Nat → Bool) (x : Int32) : ∀ (n z : Nat), z + n < 2 ^ 31 → upF b x (n + 1) z = if upF b x n z < 0 then (if b (z + n) = true ∧ x ≤ nI (z + n) then nI (z + n) else -9) else upF b x n z
  | 0, z, _ => by
    show (if b z = true ∧ x ≤ nI z then nI z else -9) = if (-9 : Int32) < 0 then (if b (z + 0) = true ∧ x ≤ nI (z + 0) then nI (z + 0) else -9) else -9
    rw [if_pos (show (-9 : Int32) < 0 by decide), Nat.add_zero]
  | n + 1, z, h => by
    have ih := upF_snoc b x n (z + 1) (by omega)
    show (if b z = true ∧ x ≤ nI z then nI z else upF b x (n + 1) (z + 1)) = if (if b z = true ∧ x ≤ nI z then nI z else upF b x n (z + 1)) < 0 then _ else (if b z = true ∧ x ≤ nI z then nI z else upF b x n (z + 1))
    by_cases c : b z = true ∧ x ≤ nI z
    · rw [if_pos c, if_pos c, if_neg (nI_pos (by omega))]
    · rw [if_neg c, if_neg c, ih, show z + 1 + n = z + (n + 1) by omega]
theorem upF_9 (b : Nat → Bool) (x : Int32) : ∀ (n z : Nat), z + n < 2 ^ 31 → upF b x n z < 0 → upF b x n z = -9
  | 0, _, _, _ => rfl
  | n + 1, z, h, hl => by
    have e : upF b x (n + 1) z = if b z = true ∧ x ≤ nI z then nI z else upF b x n (z + 1) := rfl
    rw [e] at hl ⊢
    by_cases c : b z = true ∧ x ≤ nI z
    · rw [if_pos c] at hl; exact absurd hl (nI_pos (by omega))
    · rw [if_neg c] at hl ⊢; exact upF_9 b x n (z + 1) (by omega) hl
section NR
variable {b : Nat → Bool} {x y : Int32} {i : Nat}
theorem nr_skip (hi : i < 4096) (h : b i = false) : nrF b x y (i + 1) = nrF b x y i := by
  have q : ¬ (b i = true) := by rw [h]; exact Bool.false_ne_true
  unfold nrF
  by_cases hy : y = 0
  · rw [if_pos hy, if_pos hy]; exact if_neg (fun z => q z.1)
  · rw [if_neg hy, if_neg hy, upF_snoc b x i 0 (by omega), Nat.zero_add]
    by_cases c : upF b x i 0 < 0
    · rw [if_pos c, if_neg (fun z => q z.1)]; exact (upF_9 b x i 0 (by omega) c).symm
    · rw [if_neg c]
theorem nr_d1 (hy : y = 0) (h : b i = true) (c : nI i ≤ x) : nrF b x y (i + 1) = nI i := by
  unfold nrF
  rw [if_pos hy]; exact if_pos ⟨h, c⟩
theorem nr_d2 (hy : y = 0) (c : ¬ nI i ≤ x) : nrF b x y (i + 1) = nrF b x y i := by
  unfold nrF
  rw [if_pos hy, if_pos hy]; exact if_neg (fun z => c z.2)
theorem nr_u1 (hi : i < 4096) (hy : ¬ y = 0) (h : b i = true) (c : x ≤ nI i) (d : nrF b x y i < 0) : nrF b x y (i + 1) = nI i := by
  unfold nrF at d ⊢
  rw [if_neg hy] at d ⊢
  rw [upF_snoc b x i 0 (by omega), if_pos d, Nat.zero_add, if_pos ⟨h, c⟩]
theorem nr_u2 (hi : i < 4096) (hy : ¬ y = 0) (c : ¬ x ≤ nI i) : nrF b x y (i + 1) = nrF b x y i := by
  unfold nrF
  rw [if_neg hy, if_neg hy, upF_snoc b x i 0 (by omega), Nat.zero_add]
  by_cases d : upF b x i 0 < 0
  · rw [if_pos d, if_neg (fun z => c z.2)]; exact (upF_9 b x i 0 (by omega) d).symm
  · rw [if_neg d]
theorem nr_u3 (hi : i < 4096) (hy : ¬ y = 0) (d : ¬ nrF b x y i < 0) : nrF b x y (i + 1) = nrF b x y i := by
  unfold nrF at d ⊢
  rw [if_neg hy] at d
  rw [if_neg hy, if_neg hy, upF_snoc b x i 0 (by omega), if_neg d]
end NR
theorem nrF_cong {b c : Nat → Bool} (h : Eq4 b c) (x y : Int32) : nrF b x y 4096 = if y = 0 then dnF c x 4096 else upF c x 4096 0 := by
  unfold nrF
  rw [dnF_cong h x 4096 (Nat.le_refl _), upF_cong h x 4096 0 (by omega)]
/-- a begun run: as many have ended before it as have begun -/
theorem beg_end (b : Nat → Bool) : ∀ n, n ≤ 4096 → ct (rsG b 0) 0 n = ct (reG b) 0 n + (if 0 < n ∧ n < 4096 ∧ b (n - 1) = true ∧ b n = true then 1 else 0)
  | 0, _ => by rw [ct_0, ct_0, if_neg (by omega)]
  | n + 1, h => by
    have ih := beg_end b n (by omega)
    rw [ct_end, ct_end, ih, Nat.zero_add, Nat.add_sub_cancel]
    have e1 : rsG b 0 n = (b n && (decide (n = 0) || !b (n - 1))) := rfl
    have e2 : reG b n = (b n && (decide (n = 4095) || !b (n + 1))) := rfl
    rw [e1, e2]
    cases hb : b n
    · simp
    · by_cases h0 : n = 0
      · subst h0
        cases hc : b (0 + 1) <;> simp_all
      · by_cases h9 : n = 4095
        · subst h9
          cases hd : b (4095 - 1) <;> simp_all
        · cases hd : b (n - 1) <;> cases hc : b (n + 1) <;> simp [h0, h9, show 0 < n by omega, show n < 4096 by omega, show n + 1 < 4096 by omega]
theorem nthF_hit {b : Nat → Bool} {n i k : Nat} (hc : ct b 0 n = i) (hb : b n = true) : nthF b (n + (k + 1)) 0 i = nI n := by
  rw [nthF_add, if_neg (by omega), hc, Nat.sub_self, Nat.zero_add, nthF_s, if_pos hb, if_pos rfl]
theorem run_end {b : Nat → Bool} {x e i : Nat} (hx : rsG b 0 x = true) (hc : ct (rsG b 0) 0 x = i) (he : e < 4096) (hxe : x ≤ e) (hall : ∀ z, x ≤ z → z ≤ e → b z = true) (hl : e = 4095 ∨ b (e + 1) = false) : nthF (rsG b 0) 4096 0 i = nI x ∧ nthF (reG b) 4096 0 i = nI e := by
  constructor
  · rw [show 4096 = x + ((4095 - x) + 1) by omega]
    exact nthF_hit hc hx
  · have hre : reG b e = true := by
      unfold reG
      rw [hall e hxe (Nat.le_refl _)]
      rcases hl with h | h
      · rw [decide_eq_true h]; rfl
      · rw [h]; simp
    have h0 := beg_end b x (by omega)
    have hx2 : ¬ (0 < x ∧ x < 4096 ∧ b (x - 1) = true ∧ b x = true) := fun z => by
      unfold rsG at hx
      rw [z.2.2.1, decide_eq_false (show ¬ x = 0 by omega)] at hx
      simp at hx
    rw [if_neg hx2] at h0
    have hct : ct (reG b) 0 e = i := by
      rw [show e = x + (e - x) by omega, ct_add, ct_false (a := 0 + x) (fun z h1 h2 => by
        unfold reG
        rw [hall (z + 1) (by omega) (by omega), decide_eq_false (show ¬ z = 4095 by omega)]
        simp)]
      omega
    rw [show 4096 = e + ((4095 - e) + 1) by omega]
    exact nthF_hit hct hre
def finV (v : Nat → Int32) : Int64 := fpN (bI v) (fpC (fun j => v (777 + j)) (fpM (fun j => v (768 + j)) (fpS (bI v) 6) 9) 9) 6
theorem fpS_cong {f g : Nat → Nat → Bool} : ∀ n, (∀ s, s < n → Eq4 (f s) (g s)) → fpS f n = fpS g n
  | 0, _ => rfl
  | n + 1, h => by
    show fpP (f n) (fpS f n) 16 = fpP (g n) (fpS g n) 16
    rw [fpS_cong n (fun s hs => h s (by omega)), fpP_cong (h n (by omega)) _ 16 (Nat.le_refl _)]
theorem fpM_cong {m m' : Nat → Int32} (x : Int64) : ∀ n, (∀ j, j < n → m j = m' j) → fpM m x n = fpM m' x n
  | 0, _ => rfl
  | n + 1, h => by
    show mx (fpM m x n) (m n).toInt64 = mx (fpM m' x n) (m' n).toInt64
    rw [fpM_cong x n (fun j hj => h j (by omega)), h n (by omega)]
theorem fpC_cong {m m' : Nat → Int32} (x : Int64) : ∀ n, (∀ j, j < n → m j = m' j) → fpC m x n = fpC m' x n
  | 0, _ => rfl
  | n + 1, h => by
    show (if n / 3 = n % 3 then fpC m x n else mx (fpC m x n) (m n).toInt64) = if n / 3 = n % 3 then fpC m' x n else mx (fpC m' x n) (m' n).toInt64
    rw [fpC_cong x n (fun j hj => h j (by omega)), h n (by omega)]
theorem fpN_cong {f g : Nat → Nat → Bool} (x : Int64) : ∀ n, (∀ s, s < n → Eq4 (f s) (g s)) → fpN f x n = fpN g x n
  | 0, _ => rfl
  | n + 1, h => by
    show fpX (f n) (fpN f x n) 4096 = fpX (g n) (fpN g x n) 4096
    rw [fpN_cong x n (fun s hs => h s (by omega)), fpX_cong (h n (by omega)) _ 4096 (Nat.le_refl _)]
theorem finV_R {v : Nat → Int32} {p : FS} (h : MRp v p.1) : finV v = finR p := by
  unfold finV finR
  rw [fpS_cong 6 h.1, fpM_cong _ 9 h.2.1, fpC_cong _ 9 h.2.2, fpN_cong _ 6 h.1]
theorem tol_cong {b c : Nat → Bool} (h : Eq4 b c) {k : Nat} (hk : k < 16) (q : Int32) : tol b k q = tol c k q := by
  unfold tol
  rw [pkd_cong (in4 h hk), pn_cong (in4 h hk), pr_cong (in4 h hk)]
