/-! what is computed of a set looks at its 4096 places alone -/
abbrev Eq4 (b c : Nat → Bool) : Prop := ∀ x, x < 4096 → b x = c x
theorem ctr_cong {b c : Nat → Bool} (h : Eq4 b c) (x y : Int32) : ctr b x y = ctr c x y := ct_cong (fun z _ hz => by rw [h z (by omega)])
theorem hlt_cong {b c : Nat → Bool} (h : Eq4 b c) (x : Int32) : hlt b x = hlt c x := by
  unfold hlt
  by_cases z : ¬ x < 0 ∧ x < nI 4096
  · rw [h _ (cl_lt (by decide) z.1 z.2)]
  · rw [decide_eq_false z]; rfl
theorem nthF_cong {b c : Nat → Bool} : ∀ (k x n : Nat), (∀ j, x ≤ j → j < x + k → b j = c j) → nthF b k x n = nthF c k x n
  | 0, _, _, _ => rfl
  | k + 1, x, n, h => by
    have ih := fun n => nthF_cong k (x + 1) n (fun j h1 h2 => h j (by omega) (by omega))
    rw [nthF_s, nthF_s, h x (Nat.le_refl _) (by omega), ih, ih]
theorem nthA_cong {b c : Nat → Bool} (h : Eq4 b c) (i : Int32) : nthA b i = nthA c i := by
  unfold nthA
  rw [nthF_cong 4096 0 _ (fun j _ hj => h j (by omega))]
theorem rsG_cong {b c : Nat → Bool} (h : Eq4 b c) : Eq4 (rsG b 0) (rsG c 0) := fun x hx => by
  unfold rsG
  rw [h x hx, h (x - 1) (by omega)]
theorem reG_cong {b c : Nat → Bool} (h : Eq4 b c) : Eq4 (reG b) (reG c) := fun x hx => by
  unfold reG
  rw [h x hx]
  by_cases z : x = 4095
  · rw [decide_eq_true z]; rfl
  · rw [h (x + 1) (by omega)]
theorem in4 {p : Nat} {b c : Nat → Bool} (h : Eq4 b c) (hp : p < 16) : ∀ x, 256 * p ≤ x → x < 256 * p + 256 → b x = c x := fun x _ h2 => h x (by omega)
theorem det_cong {b c : Nat → Bool} (h : Eq4 b c) {p : Nat} (hp : p < 16) (q : Int32) : det b p q = det c p q := by
  unfold det
  rw [pkd_cong (in4 h hp), pn_cong (in4 h hp), pr_cong (in4 h hp)]
theorem pcst_cong {b c : Nat → Bool} (h : Eq4 b c) {p : Nat} (hp : p < 16) : pcst b p = pcst c p := by
  unfold pcst
  rw [pn_cong (in4 h hp), pr_cong (in4 h hp)]
theorem byN_cong {b c : Nat → Bool} {a : Nat} (h : ∀ i, i < 8 → b (a + i) = c (a + i)) : byN b a = byN c a := fb_sm_cong (fun i hi => by rw [h i hi])
theorem brF_cong {b c : Nat → Bool} (h : ∀ x, x < 256 → b x = c x) : ∀ (k x n : Nat), x + k ≤ 256 → brF b k x n = brF c k x n
  | 0, _, _, _ => rfl
  | k + 1, x, n, hk => by
    have ih := fun n => brF_cong h k (x + 1) n (by omega)
    have e1 : stA b x = stA c x := by
      unfold stA
      rw [h (x - 1) (by omega)]
    have e2 : enA b x = enA c x := by
      unfold enA
      by_cases z : x = 255
      · rw [decide_eq_true z]; rfl
      · rw [h (x + 1) (by omega)]
    simp only [brF]
    rw [h x (by omega), e1, e2, ih, ih, ih]
theorem wb_cong {b c : Nat → Bool} (h : Eq4 b c) {p : Nat} (hp : p < 16) (k : Nat) (hk : k < 33) : wb b p k = wb c p k := by
  unfold wb
  rw [pkd_cong (in4 h hp), pn_cong (in4 h hp), pr_cong (in4 h hp)]
  have e1 : plc b p (k - 2) = plc c p (k - 2) := nthF_cong _ _ _ (fun j _ hj => h _ (by omega))
  have e2 : brd b p (k - 2) = brd c p (k - 2) := brF_cong (fun x hx => h _ (by omega)) _ _ _ (by omega)
  rw [e1, e2]
  by_cases h0 : k = 0
  · rw [if_pos h0, if_pos h0]
  · rw [if_neg h0, if_neg h0]
    by_cases h2 : pkd c p = nI 2
    · rw [if_pos h2, if_pos h2]
      rw [byN_cong (fun i hi => h _ (by omega))]
    · rw [if_neg h2, if_neg h2]
theorem bfF_cong {b c : Nat → Bool} (h : Eq4 b c) : ∀ (n k l : Nat), n + k ≤ 16 → bfF b n k l = bfF c n k l
  | 0, _, _, _ => rfl
  | n + 1, k, l, hk => by
    have ih := fun l => bfF_cong h n (k + 1) l (by omega)
    simp only [bfF]
    rw [pcst_cong h (by omega), ih]
    by_cases z : l < pcst c k
    · rw [if_pos z, if_pos z]
      have := cst_le (pn c k) (pr c k)
      unfold pcst at z
      exact wb_cong h (by omega) l (by omega)
    · rw [if_neg z, if_neg z]
theorem upF_cong {b c : Nat → Bool} (h : Eq4 b c) (x : Int32) : ∀ (k z : Nat), k + z ≤ 4096 → upF b x k z = upF c x k z
  | 0, _, _ => rfl
  | k + 1, z, hk => by
    simp only [upF]
    rw [h z (by omega), upF_cong h x k (z + 1) (by omega)]
theorem dnF_cong {b c : Nat → Bool} (h : Eq4 b c) (x : Int32) : ∀ n, n ≤ 4096 → dnF b x n = dnF c x n
  | 0, _ => rfl
  | n + 1, hn => by
    simp only [dnF]
    rw [h n (by omega), dnF_cong h x n (by omega)]
theorem upF_lo {b : Nat → Bool} {x : Int32} : ∀ (k z r : Nat), (∀ j, z ≤ j → j < z + k → ¬ x ≤ nI j) → upF b x (k + r) z = upF b x r (z + k)
  | 0, z, r, _ => by rw [Nat.zero_add, Nat.add_zero]
  | k + 1, z, r, h => by
    rw [show k + 1 + r = (k + r) + 1 by omega]
    simp only [upF]
    rw [if_neg (fun q => h z (Nat.le_refl _) (by omega) q.2), upF_lo k (z + 1) r (fun j h1 h2 => h j (by omega) (by omega)), show z + 1 + k = z + (k + 1) by omega]
theorem upF_hi {b : Nat → Bool} {x : Int32} : ∀ (k z : Nat), (∀ j, z ≤ j → j < z + k → x ≤ nI j) → upF b x k z = nthF b k z 0
  | 0, _, _ => rfl
  | k + 1, z, h => by
    rw [nthF_s]
    simp only [upF]
    by_cases hb : b z = true
    · rw [if_pos ⟨hb, h z (Nat.le_refl _) (by omega)⟩, if_pos hb, if_pos trivial]
    · rw [if_neg (fun q => hb q.1), if_neg hb, upF_hi k (z + 1) (fun j h1 h2 => h j (by omega) (by omega))]
theorem near_up (b : Nat → Bool) {x : Int32} {m : Nat} (hm : m ≤ 4096) (h1 : ∀ z, z < m → ¬ x ≤ nI z) (h2 : ∀ z, m ≤ z → z < 4096 → x ≤ nI z) : nthA b (nI (ct b 0 m)) = upF b x 4096 0 := by
  have hc := ct_le b 0 m
  unfold nthA
  rw [if_neg (nI_pos (by omega)), nI_clamp (by omega)]
  rw [show 4096 = m + (4096 - m) by omega, nthF_add, if_neg (Nat.lt_irrefl _), Nat.sub_self, upF_lo m 0 (4096 - m) (fun j _ hj => h1 j (by omega)), upF_hi _ _ (fun j g1 g2 => h2 j (by omega) (by omega))]
theorem near_dn (b : Nat → Bool) (x : Int32) : ∀ m, m ≤ 4096 → (∀ z, z < m → nI z ≤ x) → (ct b 0 m = 0 ∧ dnF b x m = -9) ∨ (∃ j, j < m ∧ b j = true ∧ dnF b x m = nI j ∧ ct b 0 m = ct b 0 j + 1)
  | 0, _, _ => Or.inl ⟨rfl, rfl⟩
  | m + 1, hm, h => by
    have e : ct b 0 (m + 1) = ct b 0 m + (if b m = true then 1 else 0) := by
      show fb_ct _ (m + 1) = _
      rw [fb_ct_succ]
      show fb_ct _ m + (if b (0 + m) = true then 1 else 0) = _
      rw [Nat.zero_add]; rfl
    simp only [dnF]
    by_cases hb : b m = true
    · rw [if_pos ⟨hb, h m (by omega)⟩, e, if_pos hb]
      exact Or.inr ⟨m, by omega, hb, rfl, rfl⟩
    · rw [if_neg (fun q => hb q.1), e, if_neg hb, Nat.add_zero]
      rcases near_dn b x m (by omega) (fun z hz => h z (by omega)) with q | ⟨j, g1, g2, g3, g4⟩
      · exact Or.inl q
      · exact Or.inr ⟨j, by omega, g2, g3, g4⟩
theorem dnF_skip (b : Nat → Bool) {x : Int32} {m : Nat} : ∀ n, m ≤ n → (∀ z, m ≤ z → z < n → ¬ nI z ≤ x) → dnF b x n = dnF b x m
  | 0, h, _ => by rw [show m = 0 by omega]
  | n + 1, h, g => by
    by_cases e : m = n + 1
    · rw [e]
    · simp only [dnF]
      rw [if_neg (fun q => g n (by omega) (by omega) q.2)]
      exact dnF_skip b n (by omega) (fun z h1 h2 => g z h1 (by omega))
theorem nth_at (b : Nat → Bool) {j : Nat} (hj : j < 4096) (hb : b j = true) : nthA b (nI (ct b 0 j)) = nI j := by
  have hc := ct_le b 0 j
  unfold nthA
  rw [if_neg (nI_pos (by omega)), nI_clamp (by omega), show 4096 = j + ((4096 - j - 1) + 1) by omega, nthF_add, if_neg (Nat.lt_irrefl _), Nat.sub_self, nthF_s, Nat.zero_add, if_pos hb, if_pos rfl]
/-- the least of the numbers that an int is at most, and below it -/
theorem int_cut (x : Int32) : ∃ m, m ≤ 4096 ∧ (∀ z, z < m → nI z ≤ x) ∧ ∀ z, m ≤ z → z < 4096 → ¬ nI z ≤ x := by
  by_cases h : x < 0
  · refine ⟨0, by omega, fun z hz => absurd hz (Nat.not_lt_zero _), fun z _ hz q => ?_⟩
    rw [Int32.le_iff_toInt_le, nI_toInt (by omega)] at q
    rw [Int32.lt_iff_toInt_lt, Int32.toInt_zero] at h
    omega
  · obtain ⟨j, hj, rfl⟩ := nI_of h
    refine ⟨if j < 4096 then j + 1 else 4096, by split <;> omega, fun z hz => (nI_leI (by split at hz <;> omega) hj).mpr (by split at hz <;> omega), fun z h1 h2 q => ?_⟩
    rw [nI_leI (by omega) hj] at q
    split at h1 <;> omega
theorem ctr_cut (b : Nat → Bool) {x : Int32} {m : Nat} (hm : m ≤ 4096) (h1 : ∀ z, z < m → nI z ≤ x) (h2 : ∀ z, m ≤ z → z < 4096 → ¬ nI z ≤ x) : ctr b (nI 0) x = ct b 0 m := by
  unfold ctr
  rw [show 4096 = m + (4096 - m) by omega, ct_add]
  have e1 : ct (fun j => b j && inr (nI 0) x j) 0 m = ct b 0 m := ct_cong (fun z _ hz => by
    rw [show inr (nI 0) x z = true from decide_eq_true ⟨(nI_leI (by omega) (by omega)).mpr (Nat.zero_le _), h1 z (by omega)⟩, Bool.and_true])
  have e2 : ct (fun j => b j && inr (nI 0) x j) (0 + m) (4096 - m) = 0 := fb_ct_zero.mpr (fun k hk => by
    show (b (0 + m + k) && inr (nI 0) x (0 + m + k)) = false
    rw [show inr (nI 0) x (0 + m + k) = false from decide_eq_false (fun q => h2 (0 + m + k) (by omega) (by omega) q.2), Bool.and_false])
  rw [e1, e2, Nat.add_zero]
theorem near_down (b : Nat → Bool) (x : Int32) : nthA b (nI (ctr b (nI 0) x) - nI 1) = dnF b x 4096 := by
  obtain ⟨m, hm, h1, h2⟩ := int_cut x
  rw [ctr_cut b hm h1 h2, dnF_skip b 4096 hm h2]
  rcases near_dn b x m hm h1 with ⟨g1, g2⟩ | ⟨j, g1, g2, g3, g4⟩
  · rw [g1, g2]
    exact if_pos (by decide)
  · rw [g4, g3, show nI (ct b 0 j + 1) - nI 1 = nI (ct b 0 j) from nI_pred _]
    exact nth_at b (by omega) g2
theorem near_up0 (b : Nat → Bool) {x : Int32} (h : ¬ 0 < x) : nthA b (nI 0) = upF b x 4096 0 := by
  have e := near_up b (x := x) (m := 0) (by omega) (fun z hz => absurd hz (Nat.not_lt_zero _)) (fun z _ hz => by
    rw [Int32.lt_iff_toInt_lt, Int32.toInt_zero] at h
    rw [Int32.le_iff_toInt_le, nI_toInt (by omega)]
    omega)
  exact e
theorem near_up1 (b : Nat → Bool) {x : Int32} (h : 0 < x) : nthA b (nI (ctr b (nI 0) (x - nI 1))) = upF b x 4096 0 := by
  obtain ⟨m, hm, h1, h2⟩ := int_cut (x - nI 1)
  rw [ctr_cut b hm h1 h2]
  rw [Int32.lt_iff_toInt_lt, Int32.toInt_zero] at h
  have hx := x.toInt_lt
  have e : (x - nI 1).toInt = x.toInt - 1 := by
    rw [Int32.toInt_sub, nI_toInt (by decide)]
    exact Int.bmod_eq_of_le (by omega) (by omega)
  refine near_up b hm (fun z hz q => ?_) (fun z g1 g2 => ?_)
  · have g := h1 z hz
    rw [Int32.le_iff_toInt_le, nI_toInt (by omega), e] at g
    rw [Int32.le_iff_toInt_le, nI_toInt (by omega)] at q
    omega
  · have g := h2 z g1 g2
    rw [Int32.le_iff_toInt_le, nI_toInt (by omega), e] at g
    rw [Int32.le_iff_toInt_le, nI_toInt (by omega)]
    omega
theorem bfF_s (b : Nat → Bool) (n k l : Nat) : bfF b (n + 1) k l = if l < pcst b k then wb b k l else bfF b n (k + 1) (l - pcst b k) := rfl
