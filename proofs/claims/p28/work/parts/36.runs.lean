/-! where the runs of a set begin and end: as many ends as starts, one behind the other -/
def sE (M : Nat) (c : Nat → Bool) (x : Nat) : Bool := c x && (decide (x = M) || !c (x + 1))
theorem ct0 (b : Nat → Bool) (n : Nat) : ct b 0 n = fb_ct b n := fb_ct_cong (fun k _ => by rw [Nat.zero_add])
theorem bal_b (p q r d e : Bool) (u : Nat) : u + (if (!d && p && q) = true then 1 else 0) + (if (q && (d || !p)) = true then 1 else 0) = u + (if (q && (e || !r)) = true then 1 else 0) + (if (!e && q && r) = true then 1 else 0) := by
  cases p <;> cases q <;> cases r <;> cases d <;> cases e <;> rfl
theorem bal_s (p q r : Bool) (x M u : Nat) (hx : x ≤ M) : u + (if 0 < x ∧ x ≤ M ∧ p = true ∧ q = true then 1 else 0) + (if (q && (decide (x = 0) || !p)) = true then 1 else 0) = u + (if (q && (decide (x = M) || !r)) = true then 1 else 0) + (if 0 < x + 1 ∧ x + 1 ≤ M ∧ q = true ∧ r = true then 1 else 0) := by
  have k1 : (0 < x ∧ x ≤ M ∧ p = true ∧ q = true) ↔ (!decide (x = 0) && p && q) = true := by
    rw [Bool.and_eq_true, Bool.and_eq_true, Bool.not_eq_true', decide_eq_false_iff_not]
    exact ⟨fun z => ⟨⟨by have := z.1; omega, z.2.2.1⟩, z.2.2.2⟩, fun z => ⟨by have := z.1.1; omega, hx, z.1.2, z.2⟩⟩
  have k2 : (0 < x + 1 ∧ x + 1 ≤ M ∧ q = true ∧ r = true) ↔ (!decide (x = M) && q && r) = true := by
    rw [Bool.and_eq_true, Bool.and_eq_true, Bool.not_eq_true', decide_eq_false_iff_not]
    exact ⟨fun z => ⟨⟨by have := z.2.1; omega, z.2.2.1⟩, z.2.2.2⟩, fun z => ⟨by omega, by have := z.1.1; omega, z.1.2, z.2⟩⟩
  simp only [k1, k2]
  exact bal_b p q r (decide (x = 0)) (decide (x = M)) u
theorem bal (c : Nat → Bool) (M : Nat) : ∀ x, x ≤ M + 1 → fb_ct (rsG c 0) x = fb_ct (sE M c) x + (if 0 < x ∧ x ≤ M ∧ c (x - 1) = true ∧ c x = true then 1 else 0)
  | 0, _ => by rw [if_neg (fun z => absurd z.1 (Nat.lt_irrefl 0))]; rfl
  | x + 1, h => by
    have ih := bal c M x (by omega)
    rw [fb_ct_succ, fb_ct_succ, ih, Nat.add_sub_cancel]
    exact bal_s (c (x - 1)) (c x) (c (x + 1)) x M _ (by omega)
theorem bal_ge {c : Nat → Bool} {M x : Nat} (h : x ≤ M + 1) : fb_ct (sE M c) x ≤ fb_ct (rsG c 0) x := by
  rw [bal c M x h]; exact Nat.le_add_right _ _
theorem fb_ct_1 {p : Nat → Bool} {x : Nat} (h : p x = true) : fb_ct p (x + 1) = fb_ct p x + 1 := by rw [fb_ct_succ, if_pos h]
theorem fb_ct_n {p : Nat → Bool} {x : Nat} (h : p x = false) : fb_ct p (x + 1) = fb_ct p x := by rw [fb_ct_succ, if_neg (by rw [h]; exact Bool.false_ne_true)]; rfl
theorem rs_in {c : Nat → Bool} {x : Nat} (h : rsG c 0 x = true) : c x = true := (Bool.and_eq_true _ _ ▸ h : c x = true ∧ _).1
theorem se_in {M : Nat} {c : Nat → Bool} {x : Nat} (h : sE M c x = true) : c x = true := (Bool.and_eq_true _ _ ▸ h : c x = true ∧ _).1
theorem se_next {M : Nat} {c : Nat → Bool} {x : Nat} (h : sE M c x = true) (hx : x < M) : c (x + 1) = false := by
  unfold sE at h
  rw [decide_eq_false (by omega)] at h
  cases hc : c (x + 1) with
  | false => rfl
  | true => rw [hc] at h; simp at h
theorem rs_prev {c : Nat → Bool} {x : Nat} (hc : c x = true) (h : rsG c 0 x = false) : 0 < x ∧ c (x - 1) = true := by
  unfold rsG at h
  rw [hc] at h
  by_cases h0 : x = 0
  · rw [decide_eq_true h0] at h; simp at h
  · refine ⟨by omega, ?_⟩
    rw [decide_eq_false h0] at h
    simpa using h
theorem ends_eq (c : Nat → Bool) (M : Nat) : fb_ct (sE M c) (M + 1) = fb_ct (rsG c 0) (M + 1) := by
  rw [bal c M (M + 1) (Nat.le_refl _), if_neg (fun z => by have := z.2.1; omega)]; rfl
/-- the run with index i -/
theorem run_at {c : Nat → Bool} {M i : Nat} (hi : i < fb_ct (rsG c 0) (M + 1)) : ∃ f t, f ≤ t ∧ t ≤ M ∧ rsG c 0 f = true ∧ sE M c t = true ∧ fb_ct (rsG c 0) f = i ∧ fb_ct (sE M c) t = i ∧ ∀ x, f ≤ x → x ≤ t → c x = true := by
  obtain ⟨f, hf, hfs, hfi⟩ := fb_ct_kth hi
  rw [← ends_eq] at hi
  obtain ⟨t, ht, hte, hti⟩ := fb_ct_kth hi
  have hft : f ≤ t := by
    refine Classical.byContradiction fun z => ?_
    have h1 := fb_ct_mono (sE M c) (show t + 1 ≤ f by omega)
    rw [fb_ct_1 hte] at h1
    have h2 := bal_ge (c := c) (M := M) (x := f) (by omega)
    omega
  refine ⟨f, t, hft, by omega, hfs, hte, hfi, hti, fun x h1 h2 => ?_⟩
  by_cases hx : x = f
  · rw [hx]; exact rs_in hfs
  · have g1 := fb_ct_mono (rsG c 0) (show f + 1 ≤ x by omega)
    rw [fb_ct_1 hfs] at g1
    have g2 := fb_ct_mono (sE M c) h2
    have g3 := bal c M x (by omega)
    refine Classical.byContradiction fun z => ?_
    rw [if_neg (fun y => z y.2.2.2)] at g3
    omega
/-- no number between the end of one run and the start of the next -/
theorem run_gap {c : Nat → Bool} {M P Q i : Nat} (hQ : Q ≤ M + 1) (hE : i ≤ fb_ct (sE M c) P) (hS : fb_ct (rsG c 0) Q ≤ i) (x : Nat) (h1 : P ≤ x) (h2 : x < Q) : c x = false := by
  cases hc : c x with
  | false => rfl
  | true =>
    exfalso
    have g1 := fb_ct_mono (sE M c) h1
    have g2 := fb_ct_mono (rsG c 0) (show x + 1 ≤ Q from h2)
    have g3 := bal c M x (by omega)
    cases hr : rsG c 0 x with
    | true =>
      rw [fb_ct_1 hr] at g2
      omega
    | false =>
      obtain ⟨q1, q2⟩ := rs_prev hc hr
      rw [if_pos ⟨q1, by omega, q2, hc⟩] at g3
      rw [fb_ct_n hr] at g2
      omega
/-- the next run behind P, where i runs have ended -/
theorem run_next {c : Nat → Bool} {M P i : Nat} (hP : P ≤ M + 1) (hS : fb_ct (rsG c 0) P = i) (hE : fb_ct (sE M c) P = i) (hi : i < fb_ct (rsG c 0) (M + 1)) : ∃ f t, P ≤ f ∧ f ≤ t ∧ t ≤ M ∧ rsG c 0 f = true ∧ sE M c t = true ∧ fb_ct (rsG c 0) f = i ∧ fb_ct (sE M c) t = i ∧ fb_ct (sE M c) f = i ∧ fb_ct (rsG c 0) t + (if f = t then 0 else 1) = i + (if f = t then 0 else 2) ∧ (∀ x, f ≤ x → x ≤ t → c x = true) ∧ (∀ x, P ≤ x → x < f → c x = false) ∧ fb_ct (rsG c 0) (t + 1) = i + 1 ∧ fb_ct (sE M c) (t + 1) = i + 1 := by
  obtain ⟨f, t, hft, htM, hfs, hte, hfi, hti, hall⟩ := run_at hi
  have hPf : P ≤ f := by
    refine Classical.byContradiction fun z => ?_
    have h1 := fb_ct_mono (rsG c 0) (show f + 1 ≤ P by omega)
    rw [fb_ct_1 hfs] at h1
    omega
  have e1 : fb_ct (sE M c) (t + 1) = i + 1 := by rw [fb_ct_1 hte, hti]
  have e2 : fb_ct (rsG c 0) (t + 1) = i + 1 := by
    rw [bal c M (t + 1) (by omega), e1, if_neg (fun z => by
      have h1 := z.2.1
      have h2 := z.2.2.2
      rw [se_next hte (by omega)] at h2
      exact Bool.false_ne_true h2)]
  have e3 : fb_ct (sE M c) f = i := by
    have h1 := fb_ct_mono (sE M c) hft
    have h2 := fb_ct_mono (sE M c) hPf
    omega
  refine ⟨f, t, hPf, hft, htM, hfs, hte, hfi, hti, e3, ?_, hall, run_gap (M := M) (i := i) (by omega) (by omega) (by omega), e2, e1⟩
  by_cases z : f = t
  · rw [if_pos z, if_pos z, ← z]; exact hfi
  · rw [if_neg z, if_neg z]
    have h1 := fb_ct_mono (rsG c 0) (show f + 1 ≤ t by omega)
    rw [fb_ct_1 hfs] at h1
    have h2 := fb_ct_mono (rsG c 0) (show t ≤ t + 1 by omega)
    omega
/-! the number with an index -/
theorem nthF_ix {b : Nat → Bool} : ∀ (k x j : Nat), x ≤ j → j < x + k → b j = true → nthF b k x (ct b x (j - x)) = nI j
  | 0, x, j, h1, h2, _ => by omega
  | k + 1, x, j, h1, h2, h3 => by
    rw [nthF_s]
    by_cases hx : x = j
    · subst hx
      rw [if_pos h3, Nat.sub_self, ct_0, if_pos rfl]
    · have e : ct b x (j - x) = (if b x = true then 1 else 0) + ct b (x + 1) (j - (x + 1)) := by
        rw [← ct_1]
        congr 1
        omega
      have ih := nthF_ix (b := b) k (x + 1) j (by omega) (by omega) h3
      rw [e]
      by_cases hb : b x = true
      · rw [if_pos hb, if_pos hb, if_neg (by omega), show 1 + ct b (x + 1) (j - (x + 1)) - 1 = ct b (x + 1) (j - (x + 1)) by omega]; exact ih
      · rw [if_neg hb, if_neg hb, Nat.zero_add]; exact ih
theorem nthF_out {b : Nat → Bool} : ∀ (k x n : Nat), ct b x k ≤ n → nthF b k x n = -9
  | 0, _, _, _ => rfl
  | k + 1, x, n, h => by
    rw [ct_1] at h
    rw [nthF_s]
    by_cases hb : b x = true
    · rw [if_pos hb] at h
      rw [if_pos hb, if_neg (by omega)]
      exact nthF_out k (x + 1) (n - 1) (by omega)
    · rw [if_neg hb] at h
      rw [if_neg hb]
      exact nthF_out k (x + 1) n (by omega)
theorem nth_ix {b : Nat → Bool} {j n : Nat} (hj : j < 4096) (h : b j = true) (hn : fb_ct b j = n) : nthA b (nI n) = nI j := by
  have hl := fb_ct_le b j
  unfold nthA
  rw [if_neg (nI_pos (by omega)), nI_clamp (by omega), ← hn, ← ct0]
  exact nthF_ix 4096 0 j (Nat.zero_le _) (by omega) h
theorem nth_out {b : Nat → Bool} {n : Nat} (h : ct b 0 4096 ≤ n) (hn : n < 2 ^ 31) : nthA b (nI n) = -9 := by
  unfold nthA
  rw [if_neg (nI_pos hn), nI_clamp hn]
  exact nthF_out 4096 0 n h
theorem up_ix {b : Nat → Bool} {x : Int32} {f : Nat} (hb : b f = true) (hx : x ≤ nI f) : ∀ (k z : Nat), z ≤ f → f < z + k → (∀ y, z ≤ y → y < f → ¬ (b y = true ∧ x ≤ nI y)) → upF b x k z = nI f
  | 0, z, h1, h2, _ => by omega
  | k + 1, z, h1, h2, h3 => by
    show (if b z = true ∧ x ≤ nI z then nI z else upF b x k (z + 1)) = _
    by_cases e : z = f
    · rw [e, if_pos ⟨hb, hx⟩]
    · rw [if_neg (h3 z (Nat.le_refl _) (by omega))]
      exact up_ix hb hx k (z + 1) (by omega) (by omega) (fun y g1 g2 => h3 y (by omega) g2)
theorem up_none {b : Nat → Bool} {x : Int32} : ∀ (k z : Nat), (∀ y, z ≤ y → y < z + k → ¬ (b y = true ∧ x ≤ nI y)) → upF b x k z = -9
  | 0, _, _ => rfl
  | k + 1, z, h => by
    show (if b z = true ∧ x ≤ nI z then nI z else upF b x k (z + 1)) = _
    rw [if_neg (h z (Nat.le_refl _) (by omega))]
    exact up_none k (z + 1) (fun y g1 g2 => h y (by omega) (by omega))
theorem dn_ix {b : Nat → Bool} {x : Int32} {t : Nat} (hb : b t = true) (hx : nI t ≤ x) : ∀ n, t < n → (∀ y, t < y → y < n → ¬ (b y = true ∧ nI y ≤ x)) → dnF b x n = nI t
  | 0, h, _ => by omega
  | n + 1, h, h3 => by
    show (if b n = true ∧ nI n ≤ x then nI n else dnF b x n) = _
    by_cases e : n = t
    · rw [e, if_pos ⟨hb, hx⟩]
    · rw [if_neg (h3 n (by omega) (by omega))]
      exact dn_ix hb hx n (by omega) (fun y g1 g2 => h3 y g1 (by omega))
theorem dn_none {b : Nat → Bool} {x : Int32} : ∀ n, (∀ y, y < n → ¬ (b y = true ∧ nI y ≤ x)) → dnF b x n = -9
  | 0, _ => rfl
  | n + 1, h => by
    show (if b n = true ∧ nI n ≤ x then nI n else dnF b x n) = _
    rw [if_neg (h n (by omega))]
    exact dn_none n (fun y g => h y (by omega))
theorem ctr_n (b : Nat → Bool) {x : Nat} (hx : x < 4096) : ctr b (nI 0) (nI x) = ct b 0 (x + 1) := by
  unfold ctr
  rw [show 4096 = (x + 1) + (4095 - x) by omega, ct_add]
  rw [ct_cong (q := b) (a := 0) (fun z _ hz => by rw [inr_n (by omega) (by omega) (by omega), decide_eq_true (by omega), Bool.and_true])]
  rw [ct_false (a := 0 + (x + 1)) (fun z _ hz => by rw [inr_n (by omega) (by omega) (by omega), decide_eq_false (by omega), Bool.and_false]), Nat.add_zero]
theorem ctr_neg (b : Nat → Bool) {x : Int32} (hx : x < 0) : ctr b (nI 0) x = 0 := by
  unfold ctr
  refine ct_false (fun z _ hz => ?_)
  have : inr (nI 0) x z = false := by
    refine decide_eq_false (fun y => ?_)
    have h2 := y.2
    rw [Int32.le_iff_toInt_le, nI_toInt (by omega)] at h2
    rw [Int32.lt_iff_toInt_lt] at hx
    have : (0 : Int32).toInt = 0 := by decide
    omega
  rw [this, Bool.and_false]
theorem ctr_big (b : Nat → Bool) {x : Int32} (hx : nI 4095 ≤ x) : ctr b (nI 0) x = ct b 0 4096 := by
  unfold ctr
  refine ct_cong (fun z _ hz => ?_)
  have : inr (nI 0) x z = true := by
    refine decide_eq_true ⟨?_, ?_⟩
    · rw [nI_leI (by omega) (by omega)]; omega
    · rw [Int32.le_iff_toInt_le, nI_toInt (by omega)] at hx ⊢
      omega
  rw [this, Bool.and_true]
