/-! what ranks, selections, neighbors and runs of one set say of one another -/
theorem re_se (b : Nat → Bool) : reG b = sE 4095 b := rfl
theorem ct0_mono {b : Nat → Bool} {m n : Nat} (h : m ≤ n) : ct b 0 m ≤ ct b 0 n := by rw [ct0, ct0]; exact fb_ct_mono b h
theorem ct0_gap {b : Nat → Bool} {m n : Nat} (h : m ≤ n) (hg : ∀ x, m ≤ x → x < n → b x = false) : ct b 0 n = ct b 0 m := by
  rw [show n = m + (n - m) by omega, ct_add, Nat.zero_add, ct_false (fun x h1 h2 => hg x h1 (by omega)), Nat.add_zero]
theorem ct0_full {b : Nat → Bool} {f n : Nat} (hg : ∀ x, f ≤ x → x < f + n → b x = true) : ct b 0 (f + n) = ct b 0 f + n := by
  rw [ct_add, Nat.zero_add, ct_true hg]
theorem hlt_out (b : Nat → Bool) {x : Int32} (h : nI 4096 ≤ x) : hlt b x = false := by
  unfold hlt
  rw [decide_eq_false (fun z => absurd z.2 (Int32.not_lt.mpr h))]; rfl
theorem hlt_neg (b : Nat → Bool) {x : Int32} (h : x < 0) : hlt b x = false := by
  unfold hlt
  rw [decide_eq_false (fun z => z.1 h)]; rfl
/-- where the i-th run is looked for: behind P, the place behind the run before (last = P - 1), at the start last is -2 -/
def nuB (b : Nat → Bool) (i P : Nat) (lz : Int32) : Prop := P ≤ 4096 ∧ fb_ct (rsG b 0) P = i ∧ fb_ct (sE 4095 b) P = i ∧ (P < 4096 → 0 < P → b P = false) ∧ (P = 0 ∧ lz = -2 ∨ 0 < P ∧ lz = nI (P - 1))
/-- what is said of a run -/
def nuR (b : Nat → Bool) (i P f t : Nat) (lz : Int32) : Prop := f ≤ t ∧ t < 4096 ∧ nthA (rsG b 0) (nI i) = nI f ∧ nthA (reG b) (nI i) = nI t ∧ ¬ nI f < lz + nI 2 ∧ hlt b (nI f) = true ∧ hlt b (nI t) = true ∧ hlt b (nI (t + 1)) = false ∧ ctr b (nI 0) (nI f) = ct b 0 P + 1 ∧ ctr b (nI 0) (nI t) = ct b 0 P + (t - f) + 1 ∧ ct b 0 (t + 1) = ct b 0 P + (t - f) + 1 ∧ nthA b (nI (ct b 0 P)) = nI f ∧ upF b (lz + nI 1) 4096 0 = nI f ∧ dnF b (nI (t + 1)) 4096 = nI t ∧ nuB b (i + 1) (t + 1) (nI t)
theorem nu_0 (b : Nat → Bool) : nuB b 0 0 (-2) := ⟨by omega, rfl, rfl, fun _ h => absurd h (Nat.lt_irrefl 0), Or.inl ⟨rfl, rfl⟩⟩
theorem m2_toInt : (-2 : Int32).toInt = -2 := by decide
theorem nu_last {b : Nat → Bool} {i P : Nat} {lz : Int32} (h : nuB b i P lz) : lz.toInt = (P : Int) - 1 ∧ 0 < P ∨ P = 0 ∧ lz.toInt = -2 := by
  rcases h.2.2.2.2 with ⟨h1, h2⟩ | ⟨h1, h2⟩
  · exact Or.inr ⟨h1, by rw [h2]; exact m2_toInt⟩
  · refine Or.inl ⟨?_, h1⟩
    have := h.1
    rw [h2, nI_toInt (by omega)]
    omega
theorem addI_toInt {x : Int32} {k : Nat} (h1 : -100000 ≤ x.toInt) (h2 : x.toInt ≤ 100000) (hk : k < 100000) : (x + nI k).toInt = x.toInt + k := by
  rw [Int32.toInt_add, nI_toInt (by omega), Int.bmod_eq_of_le (by omega) (by omega)]
theorem nu_step {b : Nat → Bool} {i P : Nat} {lz : Int32} (h : nuB b i P lz) (hi : i < ct (rsG b 0) 0 4096) : ∃ f t, nuR b i P f t lz := by
  obtain ⟨hP, hS, hE, hB, hL⟩ := id h
  have hz := nu_last h
  rw [ct0] at hi
  obtain ⟨f, t, hPf, hft, htM, hfs, hte, hfi, hti, -, -, hall, hgap, e2, e1⟩ := run_next (M := 4095) hP hS hE hi
  have hbf := rs_in hfs
  have hbt := se_in hte
  have hfP : 0 < P → P < f := fun h0 => by
    refine Nat.lt_of_le_of_ne hPf (fun e => ?_)
    have h9 := hB (by omega) h0
    rw [e, hbf] at h9
    exact Bool.noConfusion h9
  have hnx : t < 4095 → b (t + 1) = false := fun h9 => se_next hte h9
  have c1 : ct b 0 f = ct b 0 P := ct0_gap hPf hgap
  have c2 : ct b 0 (t + 1) = ct b 0 P + (t - f) + 1 := by
    rw [show t + 1 = f + (t - f + 1) by omega, ct0_full (fun x h1 h2 => hall x h1 (by omega)), c1]
    omega
  have c3 : ct b 0 (f + 1) = ct b 0 P + 1 := by rw [ct0_full (fun x h1 h2 => hall x h1 (by omega)), c1]
  refine ⟨f, t, hft, by omega, nth_ix (by omega) hfs hfi, nth_ix (by omega) hte hti, ?_, ?_, ?_, ?_, ?_, ?_, c2, ?_, ?_, ?_, ?_⟩
  · intro z
    rw [Int32.lt_iff_toInt_lt, nI_toInt (by omega), addI_toInt (by omega) (by omega) (by omega)] at z
    rcases hz with ⟨g1, g2⟩ | ⟨g1, g2⟩
    · have := hfP g2
      omega
    · omega
  · rw [hlt_n b (by omega)]; exact hbf
  · rw [hlt_n b (by omega)]; exact hbt
  · by_cases g : t = 4095
    · exact hlt_out b (by rw [g]; exact (nI_leI (by decide) (by decide)).mpr (by decide))
    · rw [hlt_n b (by omega)]; exact hnx (by omega)
  · rw [ctr_n b (by omega)]; exact c3
  · rw [ctr_n b (by omega)]; exact c2
  · rw [← c1]; exact nth_ix (by omega) hbf (ct0 b f).symm
  · refine up_ix hbf ?_ 4096 0 (Nat.zero_le _) (by omega) (fun y _ hy z => ?_)
    · rw [Int32.le_iff_toInt_le, nI_toInt (by omega), addI_toInt (by omega) (by omega) (by omega)]
      omega
    · have z2 := z.2
      rw [Int32.le_iff_toInt_le, nI_toInt (by omega), addI_toInt (by omega) (by omega) (by omega)] at z2
      have hPy : P ≤ y := by omega
      have := hgap y hPy hy
      rw [z.1] at this
      exact Bool.noConfusion this
  · refine dn_ix hbt ((nI_leI (by omega) (by omega)).mpr (by omega)) 4096 (by omega) (fun y h1 h2 z => ?_)
    have z2 := (nI_leI (by omega) (by omega)).mp z.2
    have : y = t + 1 := by omega
    have z1 := z.1
    rw [this, hnx (by omega)] at z1
    exact Bool.noConfusion z1
  · exact ⟨by omega, e2, e1, fun h1 _ => hnx (by omega), Or.inr ⟨by omega, by rw [Nat.add_sub_cancel]⟩⟩
theorem nu_end {b : Nat → Bool} {i P : Nat} {lz : Int32} (h : nuB b i P lz) (hi : i = ct (rsG b 0) 0 4096) : ct b 0 P = ct b 0 4096 := by
  obtain ⟨hP, hS, hE, hB, hL⟩ := id h
  refine (ct0_gap hP (run_gap (M := 4095) (i := i) (by omega) (by omega) ?_)).symm
  rw [hi, ct0]
  exact Nat.le_refl _
theorem nu_none (b : Nat → Bool) : nthA (rsG b 0) (nI (ct (rsG b 0) 0 4096)) = -9 := nth_out (Nat.le_refl _) (by have := ct_le (rsG b 0) 0 4096; omega)
theorem rs_half {b : Nat → Bool} : ∀ n, 2 * fb_ct (rsG b 0) n ≤ n + 1 := fun n => by
  have key : ∀ n, 2 * fb_ct (rsG b 0) n + (if 0 < n ∧ b (n - 1) = false then 1 else 0) ≤ n + 1 := by
    intro n
    induction n with
    | zero => rw [if_neg (fun z => absurd z.1 (Nat.lt_irrefl 0))]; exact Nat.zero_le _
    | succ n ih =>
      rw [Nat.add_sub_cancel]
      cases hr : rsG b 0 n with
      | false =>
        rw [fb_ct_n hr]
        split
        · have h1 : 2 * fb_ct (rsG b 0) n ≤ n + 1 := by omega
          omega
        · omega
      | true =>
        rw [fb_ct_1 hr]
        have hbn := rs_in hr
        rw [if_neg (fun z => by rw [hbn] at z; exact Bool.noConfusion z.2)]
        by_cases h0 : n = 0
        · subst h0
          have : fb_ct (rsG b 0) 0 = 0 := rfl
          omega
        · have hp : b (n - 1) = false := by
            unfold rsG at hr
            rw [decide_eq_false h0, hbn] at hr
            simpa using hr
          rw [if_pos ⟨by omega, hp⟩] at ih
          omega
  have := key n
  omega
theorem run_far (b : Nat → Bool) : nthA (rsG b 0) (nI 2049) = -9 := nth_out (by rw [ct0]; have := rs_half (b := b) 4096; omega) (by decide)
theorem size_far (b : Nat → Bool) : nthA b (nI 4096) = -9 := nth_out (ct_le _ _ _) (by decide)
theorem sm_front (f : Nat → Nat) : ∀ n, fb_sm f (n + 1) = f 0 + fb_sm (fun j => f (j + 1)) n
  | 0 => by rw [fb_sm_succ]; show 0 + f 0 = f 0 + 0; omega
  | n + 1 => by
    rw [fb_sm_succ, sm_front f n, fb_sm_succ (fun j => f (j + 1)) n, Nat.add_assoc]
theorem bf_0 (b : Nat → Bool) (k l : Nat) : bfF b 0 k l = -9 := by simp only [bfF]
theorem bf_none (b : Nat → Bool) (n : Nat) : ∀ k l, fb_sm (fun j => pcst b (k + j)) n ≤ l → bfF b n k l = -9 := by
  induction n with
  | zero => intro k l _; exact bf_0 b k l
  | succ n ih =>
    intro k l h
    rw [sm_front, Nat.add_zero, fb_sm_cong (g := fun j => pcst b (k + 1 + j)) (fun j _ => by rw [show k + (j + 1) = k + 1 + j by omega])] at h
    rw [bfF_s, if_neg (by omega)]
    exact ih (k + 1) (l - pcst b k) (by omega)
theorem pcst_le (b : Nat → Bool) (k : Nat) : pcst b k ≤ 33 := cst_le _ _
theorem by_far (b : Nat → Bool) : bfF b 16 0 529 = -9 := bf_none b 16 0 529 (by
  have := fb_sm_bound (f := fun j => pcst b (0 + j)) (c := 33) (n := 16) (fun k _ => pcst_le b _)
  omega)
