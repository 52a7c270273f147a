/-! a set that is written is read as the same -/
theorem brF_step {c : Nat → Bool} {k x n : Nat} {v : Int32} (h : brF c k (x + 1) n = v) : brF c (k + 1) x ((if rsG c 0 x = true then 1 else 0) + (if sE 255 c x = true then 1 else 0) + n) = v := by
  have er : rsG c 0 x = (c x && stA c x) := rfl
  have ee : sE 255 c x = (c x && enA c x) := rfl
  rw [er, ee]
  cases hc : c x with
  | false =>
    show brF c (k + 1) x (0 + 0 + n) = v
    rw [brF_0 hc, show 0 + 0 + n = n by omega]; exact h
  | true =>
    rw [Bool.true_and, Bool.true_and]
    cases h1 : stA c x <;> cases h2 : enA c x
    · show brF c (k + 1) x (0 + 0 + n) = v
      rw [brF_7 hc h1 h2, show 0 + 0 + n = n by omega]; exact h
    · show brF c (k + 1) x (0 + 1 + n) = v
      rw [brF_6 hc h1 h2 (by omega), show 0 + 1 + n - 1 = n by omega]; exact h
    · show brF c (k + 1) x (1 + 0 + n) = v
      rw [brF_4 hc h1 (by omega) h2, show 1 + 0 + n - 1 = n by omega]; exact h
    · show brF c (k + 1) x (1 + 1 + n) = v
      rw [brF_3 hc h1 (by omega) h2 (by omega), show 1 + 1 + n - 1 - 1 = n by omega]; exact h
theorem brF_ix {c : Nat → Bool} : ∀ (k x j : Nat), x ≤ j → j < x + k → (rsG c 0 j = true → brF c k x (ct (rsG c 0) x (j - x) + ct (sE 255 c) x (j - x)) = nI j) ∧ (sE 255 c j = true → brF c k x (ct (rsG c 0) x (j - x) + ct (sE 255 c) x (j - x) + (if rsG c 0 j = true then 1 else 0)) = nI j)
  | 0, x, j, h1, h2 => by omega
  | k + 1, x, j, h1, h2 => by
    by_cases hx : x = j
    · subst hx
      rw [Nat.sub_self, ct_0, ct_0]
      refine ⟨fun hr => ?_, fun he => ?_⟩
      · have h3 : (c x && stA c x) = true := hr
        rw [Bool.and_eq_true] at h3
        exact brF_1 h3.1 h3.2 rfl
      · have h3 : (c x && enA c x) = true := he
        rw [Bool.and_eq_true] at h3
        have er : rsG c 0 x = (c x && stA c x) := rfl
        rw [er, h3.1, Bool.true_and]
        cases h4 : stA c x with
        | true => rw [if_pos rfl]; exact brF_2 h3.1 h4 (by decide) h3.2 rfl
        | false => rw [if_neg (by simp)]; exact brF_5 h3.1 h4 h3.2 rfl
    · obtain ⟨i1, i2⟩ := brF_ix (c := c) k (x + 1) j (by omega) (by omega)
      have e1 : ct (rsG c 0) x (j - x) = (if rsG c 0 x = true then 1 else 0) + ct (rsG c 0) (x + 1) (j - (x + 1)) := by
        rw [← ct_1]; congr 1; omega
      have e2 : ct (sE 255 c) x (j - x) = (if sE 255 c x = true then 1 else 0) + ct (sE 255 c) (x + 1) (j - (x + 1)) := by
        rw [← ct_1]; congr 1; omega
      refine ⟨fun hr => ?_, fun he => ?_⟩
      · have h3 := brF_step (i1 hr)
        rw [e1, e2]
        rw [show ∀ a b c d : Nat, a + b + (c + d) = a + c + (b + d) from fun a b c d => by omega]
        exact h3
      · have h3 := brF_step (i2 he)
        rw [e1, e2]
        rw [show ∀ a b c d e : Nat, a + b + (c + d) + e = a + c + (b + d + e) from fun a b c d e => by omega]
        exact h3
/-- the borders of the run with index i -/
theorem brF_run {c : Nat → Bool} {i f t : Nat} (hft : f ≤ t) (ht : t ≤ 255) (hfs : rsG c 0 f = true) (hte : sE 255 c t = true) (h1 : fb_ct (rsG c 0) f = i) (h2 : fb_ct (sE 255 c) f = i) (h3 : fb_ct (sE 255 c) t = i) (h4 : fb_ct (rsG c 0) (t + 1) = i + 1) : brF c 256 0 (2 * i) = nI f ∧ brF c 256 0 (2 * i + 1) = nI t := by
  have g1 := (brF_ix (c := c) 256 0 f (Nat.zero_le _) (by omega)).1 hfs
  have g2 := (brF_ix (c := c) 256 0 t (Nat.zero_le _) (by omega)).2 hte
  rw [Nat.sub_zero, ct0, ct0] at g1 g2
  rw [fb_ct_succ] at h4
  refine ⟨?_, ?_⟩
  · rw [← g1]; congr 1; omega
  · rw [← g2]; congr 1; omega
/-- places of an array -/
theorem pAr_ok {c : Nat → Bool} {rb : Nat → Nat} {bl base : Nat} : ∀ (n at_ l : Nat) (b : Nat → Bool), at_ + n ≤ bl → l ≤ 256 → n = ct c l (256 - l) → (∀ j, j < n → rb (at_ + j) < 256 ∧ nI (rb (at_ + j)) = nthF c (256 - l) l j) → ∃ b', pAr rb bl base n at_ l b = (true, at_ + n, b') ∧ ∀ x, b' x = (b x || (decide (base + l ≤ x ∧ x < base + 256) && c (x - base)))
  | 0, at_, l, b, h1, h2, h3, h4 => ⟨b, rfl, fun x => by
    by_cases z : base + l ≤ x ∧ x < base + 256
    · have := (fb_ct_zero.mp h3.symm) (x - base - l) (by omega)
      rw [show l + (x - base - l) = x - base by omega] at this
      rw [this, Bool.and_false, Bool.or_false]
    · rw [decide_eq_false z, Bool.false_and, Bool.or_false]⟩
  | n + 1, at_, l, b, h1, h2, h3, h4 => by
    obtain ⟨v, hv, hcv, hvi⟩ := fb_ct_kth (p := fun j => c (l + j)) (k := 0) (n := 256 - l) (by show 0 < ct c l (256 - l); omega)
    have hcv : c (l + v) = true := hcv
    have hv0 : ct c l v = 0 := hvi
    have e0 : nthF c (256 - l) l 0 = nI (l + v) := by
      have h9 := nthF_ix (b := c) (256 - l) l (l + v) (by omega) (by omega) hcv
      rw [Nat.add_sub_cancel_left, hv0] at h9
      exact h9
    obtain ⟨r1, r2⟩ := h4 0 (by omega)
    rw [e0, Nat.add_zero] at r2
    have er : rb at_ = l + v := (nI_eq (by rw [Nat.add_zero] at r1; omega) (by omega)).mp r2
    have hone : ct c l (v + 1) = 1 := by
      rw [ct_add, hv0, Nat.zero_add]
      show 0 + (if c (l + v + 0) = true then 1 else 0) = 1
      rw [Nat.add_zero, if_pos hcv]
    have hrest : n = ct c (l + v + 1) (256 - (l + v + 1)) := by
      have h9 : ct c l (256 - l) = ct c l (v + 1) + ct c (l + (v + 1)) (256 - (l + v + 1)) := by
        rw [← ct_add]; congr 1; omega
      rw [hone, show l + (v + 1) = l + v + 1 by omega] at h9
      omega
    obtain ⟨b', g1, g2⟩ := pAr_ok (c := c) (rb := rb) (bl := bl) (base := base) n (at_ + 1) (l + v + 1) (fun x => b x || decide (x = base + rb at_)) (by omega) (by omega) hrest (fun j hj => by
      obtain ⟨q1, q2⟩ := h4 (j + 1) (by omega)
      rw [show at_ + 1 + j = at_ + (j + 1) by omega]
      refine ⟨q1, q2.trans ?_⟩
      rw [show 256 - l = (v + 1) + (256 - (l + v + 1)) by omega, nthF_add, hone, if_neg (by omega), show l + (v + 1) = l + v + 1 by omega, Nat.add_sub_cancel])
    refine ⟨b', ?_, fun x => ?_⟩
    · rw [pAr_s, if_neg (by omega), show rb at_ + 1 = l + v + 1 by omega, g1]
      congr 2
      omega
    · rw [g2 x, er]
      by_cases z : x = base + (l + v)
      · subst z
        rw [decide_eq_true rfl, decide_eq_true (show base + l ≤ base + (l + v) ∧ base + (l + v) < base + 256 by omega), Nat.add_sub_cancel_left, hcv]
        simp
      · rw [decide_eq_false z, Bool.or_false]
        congr 1
        by_cases z2 : base + l ≤ x ∧ x < base + (l + v)
        · have := (fb_ct_zero.mp hvi) (x - base - l) (by omega)
          have h9 : c (l + (x - base - l)) = false := this
          rw [show l + (x - base - l) = x - base by omega] at h9
          rw [h9, Bool.and_false, Bool.and_false]
        · congr 1
          exact decide_eq_decide.mpr (by omega)
theorem pRs_ok {c : Nat → Bool} {rb : Nat → Nat} {bl base : Nat} : ∀ (r i at_ l P : Nat) (b : Nat → Bool), at_ + 2 * r ≤ bl → P ≤ 256 → fb_ct (rsG c 0) P = i → fb_ct (sE 255 c) P = i → (∀ y, P ≤ y → y < 256 → c y = true → l ≤ y) → i + r = fb_ct (rsG c 0) 256 → (∀ j, j < 2 * r → rb (at_ + j) < 256 ∧ nI (rb (at_ + j)) = brF c 256 0 (2 * i + j)) → ∃ b', pRs rb bl base (2 * r) at_ false l b = (true, at_ + 2 * r, b') ∧ ∀ x, b' x = (b x || (decide (base + P ≤ x ∧ x < base + 256) && c (x - base)))
  | 0, i, at_, l, P, b, h1, hP, hS, hE, hl, hr, h4 => ⟨b, rfl, fun x => by
    by_cases z : base + P ≤ x ∧ x < base + 256
    · have := run_gap (c := c) (M := 255) (P := P) (Q := 256) (i := i) (by omega) (by omega) (by omega) (x - base) (by omega) (by omega)
      rw [this, Bool.and_false, Bool.or_false]
    · rw [decide_eq_false z, Bool.false_and, Bool.or_false]⟩
  | r + 1, i, at_, l, P, b, h1, hP, hS, hE, hl, hr, h4 => by
    obtain ⟨f, t, hPf, hft, htM, hfs, hte, hfi, hti, hfe, -, hall, hgap, e2, e1⟩ := run_next (c := c) (M := 255) hP hS hE (by show i < fb_ct (rsG c 0) 256; omega)
    obtain ⟨k1, k2⟩ := brF_run hft htM hfs hte hfi hfe hti e2
    obtain ⟨a1, a2⟩ := h4 0 (by omega)
    obtain ⟨b1, b2⟩ := h4 1 (by omega)
    rw [Nat.add_zero] at a1 a2
    rw [Nat.add_zero, k1] at a2
    rw [k2] at b2
    have ea : rb at_ = f := (nI_eq (by omega) (by omega)).mp a2
    have eb : rb (at_ + 1) = t := (nI_eq (by omega) (by omega)).mp b2
    have hlf := hl f hPf (by omega) (rs_in hfs)
    obtain ⟨b', g1, g2⟩ := pRs_ok (c := c) (rb := rb) (bl := bl) (base := base) r (i + 1) (at_ + 1 + 1) (t + 2) (t + 1) (fun x => b x || decide (base + rb (at_ + 1 - 1) ≤ x ∧ x ≤ base + rb (at_ + 1))) (by omega) (by omega) e2 e1 (fun y q1 q2 q3 => by
      by_cases z : y = t + 1
      · rw [z, se_next hte (by omega)] at q3
        exact Bool.noConfusion q3
      · omega) (by omega) (fun j hj => by
      rw [show at_ + 1 + 1 + j = at_ + (j + 2) by omega, show 2 * (i + 1) + j = 2 * i + (j + 2) by omega]
      exact h4 (j + 2) (by omega))
    refine ⟨b', ?_, fun x => ?_⟩
    · rw [show 2 * (r + 1) = 2 * r + 1 + 1 by omega, pRs_s, if_neg (by omega), if_neg (by decide), pRs_s, if_neg (by omega), if_pos rfl, show rb (at_ + 1) + 2 = t + 2 by omega, g1]
      congr 2
      omega
    · rw [g2 x, Nat.add_sub_cancel, ea, eb, Bool.or_assoc]
      congr 1
      by_cases z : base + f ≤ x ∧ x ≤ base + t
      · rw [decide_eq_true z, Bool.true_or, decide_eq_true (by omega), hall (x - base) (by omega) (by omega)]; rfl
      · rw [decide_eq_false z, Bool.false_or]
        by_cases z2 : base + P ≤ x ∧ x < base + f
        · rw [hgap (x - base) (by omega) (by omega), Bool.and_false, Bool.and_false]
        · congr 1
          exact decide_eq_decide.mpr (by omega)
theorem byN_bit (b : Nat → Bool) (a : Nat) {j : Nat} (hj : j < 8) : (byN b a).testBit j = b (a + j) := by
  unfold byN
  rw [(bits_sum (fun i => b (a + i)) 8).2 j, decide_eq_true hj, Bool.true_and]
theorem pBm_ok {b0 : Nat → Bool} {rb : Nat → Nat} {bl : Nat} : ∀ (n at_ B : Nat) (b : Nat → Bool), at_ + n ≤ bl → (∀ j, j < n → rb (at_ + j) = byN b0 (B + 8 * j)) → ∃ b', pBm rb bl n at_ B b = (true, at_ + n, b') ∧ ∀ x, b' x = (b x || (decide (B ≤ x ∧ x < B + 8 * n) && b0 x))
  | 0, at_, B, b, _, _ => ⟨b, rfl, fun x => by rw [decide_eq_false (by omega), Bool.false_and, Bool.or_false]⟩
  | n + 1, at_, B, b, h1, h2 => by
    obtain ⟨b', g1, g2⟩ := pBm_ok (b0 := b0) (rb := rb) (bl := bl) n (at_ + 1) (B + 8) (bset b B (rb at_) 8) (by omega) (fun j hj => by
      rw [show at_ + 1 + j = at_ + (j + 1) by omega, show B + 8 + 8 * j = B + 8 * (j + 1) by omega]
      exact h2 (j + 1) (by omega))
    refine ⟨b', ?_, fun x => ?_⟩
    · rw [pBm_s, if_neg (by omega), g1]
      congr 2
      omega
    · rw [g2 x]
      unfold bset
      rw [Bool.or_assoc]
      congr 1
      by_cases z : B ≤ x ∧ x < B + 8
      · have h0 := h2 0 (by omega)
        rw [Nat.add_zero, Nat.mul_zero, Nat.add_zero] at h0
        rw [decide_eq_true z, Bool.true_and, h0, byN_bit b0 B (by omega), show B + (x - B) = x by omega, decide_eq_true (show B ≤ x ∧ x < B + 8 * (n + 1) by omega), Bool.true_and, decide_eq_false (by omega), Bool.false_and, Bool.or_false]
      · rw [decide_eq_false z, Bool.false_and, Bool.false_or]
        congr 1
        exact decide_eq_decide.mpr (by omega)
theorem rs_piece (b : Nat → Bool) (p x : Nat) : rsG b (256 * p) (256 * p + x) = rsG (pcb b p) 0 x := by
  unfold rsG pcb
  congr 1
  by_cases h : x = 0
  · rw [decide_eq_true h, decide_eq_true (by omega)]; rfl
  · rw [decide_eq_false h, decide_eq_false (by omega), show 256 * p + x - 1 = 256 * p + (x - 1) by omega]
theorem pr_ct (b : Nat → Bool) (p : Nat) : pr b p = fb_ct (rsG (pcb b p) 0) 256 := fb_ct_cong (fun k _ => rs_piece b p k)
theorem pn_ct (b : Nat → Bool) (p : Nat) : pn b p = fb_ct (pcb b p) 256 := rfl
theorem pr_le (b : Nat → Bool) (p : Nat) : pr b p ≤ pn b p := by
  rw [pr_ct, pn_ct]
  exact fb_ct_sub (fun k _ h => rs_in h)
theorem pr_0 (b : Nat → Bool) (p : Nat) : pr b p = 0 ↔ pn b p = 0 := by
  refine ⟨fun h => ?_, fun h => by have := pr_le b p; omega⟩
  rw [pr_ct] at h
  rw [pn_ct]
  exact fb_ct_zero.mpr (fun k hk => run_gap (c := pcb b p) (M := 255) (P := 0) (Q := 256) (i := 0) (Nat.le_refl _) (Nat.zero_le _) (by omega) k (Nat.zero_le _) hk)
/-- what the bytes of a piece are -/
theorem wb_0 {b : Nat → Bool} {p : Nat} (h : pn b p ≠ 0) : wb b p 0 = nI (4 * p + kk b p) := by
  unfold wb
  rw [if_pos rfl, pkd_n h, nI_add]
theorem pk_kk {b : Nat → Bool} {p k : Nat} (h : pn b p ≠ 0) (hk : k < 3) : pkd b p = nI k ↔ kk b p = k := by
  rw [pkd_n h, nI_eq (by have := kk_lt b p; omega) (by omega)]
theorem wb_bm {b : Nat → Bool} {p k : Nat} (h : pn b p ≠ 0) (hk : kk b p = 2) (h0 : k ≠ 0) : wb b p k = nI (byN b (256 * p + 8 * (k - 1))) := by
  unfold wb
  rw [if_neg h0, if_pos ((pk_kk h (by decide)).mpr hk)]
theorem wb_1 {b : Nat → Bool} {p : Nat} (h : pn b p ≠ 0) (hk : kk b p ≠ 2) : wb b p 1 = nI (if kk b p = 0 then pn b p else pr b p) := by
  unfold wb
  rw [if_neg (by decide), if_neg (fun z => hk ((pk_kk h (by decide)).mp z)), if_pos rfl]
  by_cases z : kk b p = 0
  · rw [if_pos ((pk_kk h (by decide)).mpr z), if_pos z]
  · rw [if_neg (fun y => z ((pk_kk h (by decide)).mp y)), if_neg z]
theorem wb_ar {b : Nat → Bool} {p k : Nat} (h : pn b p ≠ 0) (hk : kk b p = 0) (h0 : 2 ≤ k) : wb b p k = nthF (pcb b p) 256 0 (k - 2) := by
  unfold wb
  rw [if_neg (by omega), if_neg (fun z => by have := (pk_kk h (by decide)).mp z; omega), if_neg (by omega), if_pos ((pk_kk h (by decide)).mpr hk)]
  rfl
theorem wb_ru {b : Nat → Bool} {p k : Nat} (h : pn b p ≠ 0) (hk : kk b p = 1) (h0 : 2 ≤ k) : wb b p k = brF (pcb b p) 256 0 (k - 2) := by
  unfold wb
  rw [if_neg (by omega), if_neg (fun z => by have := (pk_kk h (by decide)).mp z; omega), if_neg (by omega), if_neg (fun z => by have := (pk_kk h (by decide)).mp z; omega)]
  rfl
theorem pcst_kk {b : Nat → Bool} {p : Nat} (h : pn b p ≠ 0) : pcst b p = if kk b p = 0 then 2 + pn b p else if kk b p = 1 then 2 + 2 * pr b p else 33 := if_neg h
theorem pcst_0 {b : Nat → Bool} {p : Nat} (h : pn b p = 0) : pcst b p = 0 := if_pos h
theorem kk_case (b : Nat → Bool) (p : Nat) : (kk b p = 0 ∧ 2 + pn b p ≤ 33) ∨ (kk b p = 1 ∧ 2 + 2 * pr b p ≤ 33) ∨ kk b p = 2 := by
  unfold kk kdN
  by_cases h1 : 2 + pn b p ≤ 2 + 2 * pr b p ∧ 2 + pn b p ≤ 33
  · rw [if_pos h1]; exact Or.inl ⟨rfl, h1.2⟩
  · rw [if_neg h1]
    by_cases h2 : 2 + 2 * pr b p ≤ 33
    · rw [if_pos h2]; exact Or.inr (Or.inl ⟨rfl, h2⟩)
    · rw [if_neg h2]; exact Or.inr (Or.inr rfl)
theorem brF_in {c : Nat → Bool} {n : Nat} (h : n < 2 * fb_ct (rsG c 0) 256) : ∃ j, j < 256 ∧ brF c 256 0 n = nI j := by
  obtain ⟨f, t, hft, htM, hfs, hte, hfi, hti, hall⟩ := run_at (c := c) (M := 255) (i := n / 2) (by show n / 2 < fb_ct (rsG c 0) 256; omega)
  have e2 : fb_ct (rsG c 0) (t + 1) = n / 2 + 1 := by
    rw [bal c 255 (t + 1) (by omega), fb_ct_1 hte, hti, if_neg (fun z => by
      have h1 := z.2.1
      have h2 := z.2.2.2
      rw [se_next hte (by omega)] at h2
      exact Bool.false_ne_true h2)]
  have e3 : fb_ct (sE 255 c) f = n / 2 := by
    have h1 := bal c 255 f (by omega)
    have h3 : (c f && (decide (f = 0) || !c (f - 1))) = true := hfs
    rw [if_neg (fun z => by
      have z1 := z.1
      have z3 := z.2.2.1
      rw [z3, decide_eq_false (by omega)] at h3
      simp at h3)] at h1
    omega
  obtain ⟨k1, k2⟩ := brF_run hft htM hfs hte hfi e3 hti e2
  by_cases hn : n % 2 = 0
  · exact ⟨f, by omega, by rw [← k1]; congr 1; omega⟩
  · exact ⟨t, by omega, by rw [← k2]; congr 1; omega⟩
theorem wb_in {b : Nat → Bool} {p i : Nat} (hp : p < 16) (hi : i < pcst b p) : ∃ v, v < 256 ∧ wb b p i = nI v := by
  have h : pn b p ≠ 0 := fun z => by rw [pcst_0 z] at hi; exact absurd hi (Nat.not_lt_zero _)
  rw [pcst_kk h] at hi
  have hk := kk_lt b p
  have hpr := pr_le b p
  by_cases h0 : i = 0
  · exact ⟨4 * p + kk b p, by omega, by rw [h0, wb_0 h]⟩
  · rcases kk_case b p with ⟨h1, h2⟩ | ⟨h1, h2⟩ | h1
    · rw [if_pos h1] at hi
      by_cases h3 : i = 1
      · exact ⟨pn b p, by omega, by rw [h3, wb_1 h (by omega), if_pos h1]⟩
      · obtain ⟨j, -, g2, g3⟩ := nthF_in (b := pcb b p) 256 0 (i - 2) (by rw [ct0, ← pn_ct]; omega)
        exact ⟨j, by omega, by rw [wb_ar h h1 (by omega)]; exact g3⟩
    · rw [if_neg (by omega), if_pos h1] at hi
      by_cases h3 : i = 1
      · exact ⟨pr b p, by omega, by rw [h3, wb_1 h (by omega), if_neg (by omega)]⟩
      · obtain ⟨j, g2, g3⟩ := brF_in (c := pcb b p) (n := i - 2) (by rw [← pr_ct]; omega)
        exact ⟨j, g2, by rw [wb_ru h h1 (by omega)]; exact g3⟩
    · exact ⟨_, byN_lt _ _, wb_bm h h1 h0⟩
theorem pPc_ok {b : Nat → Bool} {rb : Nat → Nat} {bl o p : Nat} {bits : Nat → Bool} (hp : p < 16) (h : pn b p ≠ 0) (hb : o + pcst b p ≤ bl) (hr : ∀ i, i < pcst b p → rb (o + i) < 256 ∧ nI (rb (o + i)) = wb b p i) : ∃ b', pPc rb bl p (kk b p) (o + 1) bits = (true, o + pcst b p, b') ∧ ∀ x, b' x = (bits x || (decide (256 * p ≤ x ∧ x < 256 * p + 256) && b x)) := by
  have hpc := pcst_kk h
  have hpr := pr_le b p
  have hpr0 := pr_0 b p
  have hpn := pn_le b p
  unfold pPc
  rcases kk_case b p with ⟨h1, h2⟩ | ⟨h1, h2⟩ | h1
  · rw [if_pos h1] at hpc
    obtain ⟨q1, q2⟩ := hr 1 (by omega)
    rw [wb_1 h (by omega), if_pos h1] at q2
    have e1 : rb (o + 1) = pn b p := (nI_eq (by omega) (by omega)).mp q2
    rw [if_neg (by omega), if_neg (by omega), if_pos h1, e1]
    obtain ⟨b', g1, g2⟩ := pAr_ok (c := pcb b p) (rb := rb) (bl := bl) (base := 256 * p) (pn b p) (o + 1 + 1) 0 bits (by omega) (by omega) (by rw [Nat.sub_zero, ct0]; exact pn_ct b p) (fun j hj => by
      obtain ⟨r1, r2⟩ := hr (j + 2) (by omega)
      rw [wb_ar h h1 (by omega), Nat.add_sub_cancel] at r2
      rw [show o + 1 + 1 + j = o + (j + 2) by omega]
      exact ⟨r1, r2⟩)
    refine ⟨b', by rw [g1]; congr 2; omega, fun x => ?_⟩
    rw [g2 x, Nat.add_zero]
    by_cases z : 256 * p ≤ x ∧ x < 256 * p + 256
    · rw [decide_eq_true z, Bool.true_and, Bool.true_and]
      unfold pcb
      rw [show 256 * p + (x - 256 * p) = x by omega]
    · rw [decide_eq_false z, Bool.false_and, Bool.false_and]
  · rw [if_neg (by omega), if_pos h1] at hpc
    obtain ⟨q1, q2⟩ := hr 1 (by omega)
    rw [wb_1 h (by omega), if_neg (by omega)] at q2
    have e1 : rb (o + 1) = pr b p := (nI_eq (by omega) (by omega)).mp q2
    rw [if_neg (by omega), if_neg (by omega), if_neg (by omega), e1]
    obtain ⟨b', g1, g2⟩ := pRs_ok (c := pcb b p) (rb := rb) (bl := bl) (base := 256 * p) (pr b p) 0 (o + 1 + 1) 0 0 bits (by omega) (by omega) rfl rfl (fun _ _ _ _ => Nat.zero_le _) (by rw [Nat.zero_add]; exact pr_ct b p) (fun j hj => by
      obtain ⟨r1, r2⟩ := hr (j + 2) (by omega)
      rw [wb_ru h h1 (by omega), Nat.add_sub_cancel] at r2
      rw [show o + 1 + 1 + j = o + (j + 2) by omega, Nat.mul_zero, Nat.zero_add]
      exact ⟨r1, r2⟩)
    refine ⟨b', by rw [g1]; congr 2; omega, fun x => ?_⟩
    rw [g2 x, Nat.add_zero]
    by_cases z : 256 * p ≤ x ∧ x < 256 * p + 256
    · rw [decide_eq_true z, Bool.true_and, Bool.true_and]
      unfold pcb
      rw [show 256 * p + (x - 256 * p) = x by omega]
    · rw [decide_eq_false z, Bool.false_and, Bool.false_and]
  · rw [if_neg (by omega), if_neg (by omega)] at hpc
    rw [if_pos h1]
    obtain ⟨b', g1, g2⟩ := pBm_ok (b0 := b) (rb := rb) (bl := bl) 32 (o + 1) (256 * p) bits (by omega) (fun j hj => by
      obtain ⟨r1, r2⟩ := hr (j + 1) (by omega)
      rw [wb_bm h h1 (by omega), Nat.add_sub_cancel] at r2
      rw [show o + 1 + j = o + (j + 1) by omega]
      exact (nI_eq (by omega) (by have := byN_lt b (256 * p + 8 * j); omega)).mp r2)
    refine ⟨b', by rw [g1]; congr 2; omega, fun x => ?_⟩
    rw [g2 x]
theorem pAll_ok {b : Nat → Bool} {rb : Nat → Nat} {bl : Nat} (hr : ∀ p i, p < 16 → i < pcst b p → rb (fb_sm (pcst b) p + i) < 256 ∧ nI (rb (fb_sm (pcst b) p + i)) = wb b p i) (hbl : bl = fb_sm (pcst b) 16) : ∀ (m n k bf : Nat) (bits : Nat → Bool), k + m = 16 → m < n → bf ≤ k → (∀ x, bits x = (decide (x < 256 * k) && b x)) → ∃ b', pAll rb bl n (fb_sm (pcst b) k) bf bits = (true, bl, b') ∧ ∀ x, x < 4096 → b' x = b x
  | 0, 0, _, _, _, _, h2, _, _ => by omega
  | 0, n + 1, k, bf, bits, h1, h2, h3, h4 => by
    have hk : k = 16 := by omega
    subst hk
    refine ⟨bits, ?_, fun x hx => ?_⟩
    · rw [pAll_s, if_neg (by omega), hbl]
    · rw [h4 x, decide_eq_true (by omega), Bool.true_and]
  | m + 1, n, k, bf, bits, h1, h2, h3, h4 => by
    by_cases h : pn b k = 0
    · have e : fb_sm (pcst b) k = fb_sm (pcst b) (k + 1) := by rw [fb_sm_succ, pcst_0 h, Nat.add_zero]
      rw [e]
      refine pAll_ok hr hbl m n (k + 1) bf bits (by omega) (by omega) (by omega) (fun x => ?_)
      rw [h4 x]
      by_cases z : 256 * k ≤ x ∧ x < 256 * k + 256
      · have h9 : b (256 * k + (x - 256 * k)) = false := fb_ct_zero.mp h (x - 256 * k) (by omega)
        rw [show 256 * k + (x - 256 * k) = x by omega] at h9
        rw [h9, Bool.and_false, Bool.and_false]
      · congr 1
        exact decide_eq_decide.mpr (by omega)
    · match n, h2 with
      | n + 1, h2 =>
      have hk16 : k < 16 := by omega
      have hmono := fb_sm_mono (pcst b) (k + 1) (16 - (k + 1))
      rw [show k + 1 + (16 - (k + 1)) = 16 by omega, fb_sm_succ, ← hbl] at hmono
      have hpc := pcst_kk h
      have hpr := pr_le b k
      have hkk := kk_lt b k
      have hpos : 0 < pcst b k := by
        rw [hpc]
        split
        · omega
        · split <;> omega
      obtain ⟨q1, q2⟩ := hr k 0 hk16 hpos
      rw [Nat.add_zero] at q1 q2
      rw [wb_0 h] at q2
      have e0 : rb (fb_sm (pcst b) k) = 4 * k + kk b k := (nI_eq (by omega) (by omega)).mp q2
      obtain ⟨b', g1, g2⟩ := pPc_ok (bits := bits) (bl := bl) hk16 h hmono (fun i hi => hr k i hk16 hi)
      have e1 : ∀ x, b' x = (decide (x < 256 * (k + 1)) && b x) := fun x => by
        rw [g2 x, h4 x]
        by_cases z : x < 256 * k
        · rw [decide_eq_true z, decide_eq_true (show x < 256 * (k + 1) by omega), decide_eq_false (by omega)]; simp
        · rw [decide_eq_false z, Bool.false_and, Bool.false_or]
          congr 1
          exact decide_eq_decide.mpr (by omega)
      have e2 : pkd b' k = nI (kk b k) := by
        rw [← pkd_n h]
        exact pkd_cong (fun x z1 z2 => by rw [e1 x, decide_eq_true (by omega), Bool.true_and])
      rw [pAll_s, if_pos (by omega), e0, show (4 * k + kk b k) / 4 = k by omega, show (4 * k + kk b k) % 4 = kk b k by omega, if_neg (by omega), g1, if_neg (show ¬ (true = false) from Bool.noConfusion), if_pos e2]
      show ∃ b'', pAll rb bl n (fb_sm (pcst b) k + pcst b k) (k + 1) b' = (true, bl, b'') ∧ _
      rw [← fb_sm_succ]
      exact pAll_ok hr hbl m n (k + 1) (k + 1) b' (by omega) (by omega) (Nat.le_refl _) e1
theorem bfF_skip (b : Nat → Bool) : ∀ k, k ≤ 16 → ∀ l, bfF b 16 0 (fb_sm (pcst b) k + l) = bfF b (16 - k) k l
  | 0, _, l => by rw [show fb_sm (pcst b) 0 = 0 from rfl, Nat.zero_add]
  | k + 1, h, l => by
    rw [fb_sm_succ, Nat.add_assoc, bfF_skip b k (by omega), show 16 - k = (16 - (k + 1)) + 1 by omega, bfF_s, if_neg (by omega), Nat.add_sub_cancel_left]
theorem bfF_at {b : Nat → Bool} {p i : Nat} (hp : p < 16) (hi : i < pcst b p) : bfF b 16 0 (fb_sm (pcst b) p + i) = wb b p i := by
  rw [bfF_skip b p (by omega), show 16 - p = (15 - p) + 1 by omega, bfF_s, if_pos hi]
theorem sm_find {f : Nat → Nat} {j : Nat} : ∀ n, j < fb_sm f n → ∃ p, p < n ∧ ∃ i, i < f p ∧ j = fb_sm f p + i
  | 0, h => absurd h (Nat.not_lt_zero _)
  | n + 1, h => by
    by_cases z : j < fb_sm f n
    · obtain ⟨p, h1, h2⟩ := sm_find n z
      exact ⟨p, by omega, h2⟩
    · rw [fb_sm_succ] at h
      exact ⟨n, by omega, j - fb_sm f n, by omega, by omega⟩
theorem bfF_in {b : Nat → Bool} {j : Nat} (h : j < fb_sm (pcst b) 16) : ∃ v, v < 256 ∧ bfF b 16 0 j = nI v := by
  obtain ⟨p, hp, i, hi, e⟩ := sm_find 16 h
  rw [e, bfF_at hp hi]
  exact wb_in hp hi
theorem rea_ok {p : FS} {b : Nat → Bool} (hl : p.2.2.2.2 = fb_sm (pcst b) 16) (hr : ∀ j, j < p.2.2.2.2 → p.2.2.2.1 j < 256 ∧ nI (p.2.2.2.1 j) = bfF b 16 0 j) : (reaP p).1 = true ∧ Eq4 (reaP p).2.2 b := by
  obtain ⟨b', h1, h2⟩ := pAll_ok (b := b) (rb := p.2.2.2.1) (bl := p.2.2.2.2) (fun q i hq hi => by
    have hm := fb_sm_mono (pcst b) (q + 1) (16 - (q + 1))
    rw [show q + 1 + (16 - (q + 1)) = 16 by omega, fb_sm_succ] at hm
    have h9 := hr (fb_sm (pcst b) q + i) (by omega)
    rw [bfF_at hq hi] at h9
    exact h9) hl 16 17 0 0 (fun _ => false) rfl (by decide) (Nat.le_refl _) (fun x => by rw [decide_eq_false (by omega), Bool.false_and])
  have e : reaP p = (true, p.2.2.2.2, b') := h1
  rw [e]
  exact ⟨rfl, h2⟩
