theorem act_rep2 {W V : Nat → Nat → Int64} {me co : Nat → Int32} {a : AS} {s : Nat} {u : Nat → Int64} {b : Nat → Bool} (h : RepS W me co a) (hs : s < 6) (e1 : V s = u) (e2 : ∀ s', s' ≠ s → V s' = W s') (hu : Eq4 (bitL u) b) : RepS V me (cvF (bitL (W s)) (bitL u) 16 co) (va_up a.1 s b, a.2.1, cvF (a.1 s) b 16 a.2.2) :=
  ⟨fun s' hs' x hx => by
    show bitL (V s') x = (if s' = s then b else a.1 s') x
    by_cases e : s' = s
    · rw [if_pos e, e, e1]; exact hu x hx
    · rw [if_neg e, e2 s' e]; exact h.1 s' hs' x hx, h.2.1, fun j hj => cvF_cong (h.1 s hs) hu h.2.2 16 (Nat.le_refl _) j hj⟩
theorem okMn {m : Int32} (h1 : ¬ m < nI 1) (h2 : m ≤ nI 300) : ∃ n, 1 ≤ n ∧ n ≤ 300 ∧ m = nI n := by
  have h0 : ¬ m < 0 := by
    rw [Int32.lt_iff_toInt_lt, nI_toInt (by decide)] at h1
    rw [Int32.lt_iff_toInt_lt, Int32.toInt_zero]
    omega
  obtain ⟨j, hj, rfl⟩ := nI_of h0
  exact ⟨j, by rw [nI_ltI hj (by decide)] at h1; omega, (nI_leI hj (by decide)).mp h2, rfl⟩
theorem okOn {m : Int32} (h1 : ¬ m < 0) (h2 : ¬ nI 3 < m) : ∃ n, n ≤ 3 ∧ m = nI n := by
  obtain ⟨j, hj, rfl⟩ := nI_of h1
  exact ⟨j, by rw [nI_ltI (by decide) hj] at h2; omega, rfl⟩
theorem okVn {m : Int32} (h1 : ¬ m < 0) (h2 : m ≤ nI 255) : ∃ n, n < 256 ∧ m = nI n := by
  obtain ⟨j, hj, rfl⟩ := nI_of h1
  exact ⟨j, by rw [nI_leI hj (by decide)] at h2; omega, rfl⟩
theorem okSn {y : Int32} (h1 : ¬ y ≤ (-4096)) (h2 : y < nI 4096) : -4095 ≤ y.toInt ∧ y.toInt ≤ 4095 := by
  rw [Int32.le_iff_toInt_le, show (-4096 : Int32).toInt = -4096 by decide] at h1
  rw [Int32.lt_iff_toInt_lt, nI_toInt (by decide)] at h2
  omega
theorem bit_jn (o : Nat) (g h : Nat → Int64) (x : Nat) (hx : x < 4096) : bitL (fun j => jn o (g j) (h j)) x = jb o (bitL g x) (bitL h x) := bit_join o _ g h (fun _ _ => rfl) x hx
theorem com_rep {W V : Nat → Nat → Int64} {me co : Nat → Int32} {a : AS} {s t u : Nat} {w : Nat → Int64} {b : Nat → Bool} (h : RepS W me co a) (hs : s < 6) (ht : t < 6) (hu6 : u < 6) (e1 : V u = w) (e2 : ∀ s', s' ≠ u → V s' = W s') (hu : Eq4 (bitL w) b) : RepS V (mtF (bitL (W s)) (bitL (W t)) 16 me) (cvF (bitL (W u)) (bitL w) 16 co) (va_up a.1 u b, mtF (a.1 s) (a.1 t) 16 a.2.1, cvF (a.1 u) b 16 a.2.2) :=
  ⟨fun s' hs' x hx => by
    show bitL (V s') x = (if s' = u then b else a.1 s') x
    by_cases e : s' = u
    · rw [if_pos e, e, e1]; exact hu x hx
    · rw [if_neg e, e2 s' e]; exact h.1 s' hs' x hx, fun j hj => mtF_cong (h.1 s hs) (h.1 t ht) h.2.1 16 (Nat.le_refl _) j hj, fun j hj => cvF_cong (h.1 u hu6) hu h.2.2 16 (Nat.le_refl _) j hj⟩
/-- two States change places: the present one and that in slot k -/
def swI (k n : Nat) : Nat := if n = 0 then k else if n = k then 0 else n
def swA (A : Nat → Nat) (k : Nat) : Nat → Nat := fun j => if j < 6 then A j else A (6 + 16 * swI k ((j - 6) / 16) + (j - 6) % 16)
def swW {α : Type} (W : Nat → α) (k : Nat) : Nat → α := fun n => W (swI k n)
theorem swI_lt {k n : Nat} (hk : k < 6) (hn : n < 6) : swI k n < 6 := by
  unfold swI
  split
  · exact hk
  · split <;> omega
theorem swI_inj {k n m : Nat} (e : swI k n = swI k m) : n = m := by
  unfold swI at e
  split at e <;> split at e <;> (try split at e) <;> (try split at e) <;> omega
theorem slA_sw (A : Nat → Nat) (k : Nat) {n i : Nat} (hi : i < 16) : slA (swA A k) n i = slA A (swI k n) i := by
  unfold slA swA
  rw [if_neg (by omega), show (6 + 16 * n + i - 6) / 16 = n by omega, show (6 + 16 * n + i - 6) % 16 = i by omega]
theorem swA_lo (A : Nat → Nat) (k : Nat) {j : Nat} (hj : j < 6) : swA A k j = A j := if_pos hj
theorem swA_in {A : Nat → Nat} {k : Nat} (hk : k < 6) {j : Nat} (hj : j < 102) : ∃ i, i < 102 ∧ swA A k j = A i := by
  by_cases h : j < 6
  · exact ⟨j, hj, if_pos h⟩
  · exact ⟨6 + 16 * swI k ((j - 6) / 16) + (j - 6) % 16, by have := swI_lt hk (n := (j - 6) / 16) (by omega); omega, if_neg h⟩
theorem swA_inj {A : Nat → Nat} (h : inj A 102) {k : Nat} (hk : k < 6) : inj (swA A k) 102 := by
  intro i j hi hj e
  unfold swA at e
  by_cases h1 : i < 6
  · by_cases h2 : j < 6
    · rw [if_pos h1, if_pos h2] at e; exact h i j hi hj e
    · rw [if_pos h1, if_neg h2] at e
      have r2 := swI_lt hk (n := (j - 6) / 16) (by omega)
      have e2 := h _ _ hi (by omega) e
      omega
  · have r1 := swI_lt hk (n := (i - 6) / 16) (by omega)
    by_cases h2 : j < 6
    · rw [if_neg h1, if_pos h2] at e
      have e2 := h _ _ (by omega) hj e
      omega
    · have r2 := swI_lt hk (n := (j - 6) / 16) (by omega)
      rw [if_neg h1, if_neg h2] at e
      have e2 := h _ _ (by omega) (by omega) e
      have e3 : swI k ((i - 6) / 16) = swI k ((j - 6) / 16) := by omega
      have e4 := swI_inj e3
      omega
theorem PSr.swap {D : va_G} {T : Nat → ClassId} {H : Heap} {A : Nat → Nat} {k k' : Nat} {rb : Nat → Nat} {bl : Nat} {sc : Nat → Int64} {W : Nat → Nat → Nat → Int64} {me co : Nat → Nat → Int32} (hk : k < 6) (hk0 : 1 ≤ k) (hi : inj A 102) (hO : va_at D vwCl (A 0, .inr (3, [.ref (slA A k 0), .ref (A 1), .int (nI k'), .ref (A 2), .ref (A 4)])) H) (hP : va_at D vwCl (A 1, eR T 3 5 (va_up (fun i => some (slA A (1 + i) 0)) (k - 1) (some (slA A 0 0)))) H) (hX : PSx D T H A rb bl sc W me co) : PSr D T H (swA A k) k' rb bl sc (swW W k) (swW me k) (swW co k) := by
  refine ⟨swA_inj hi hk, ?_, ?_, ?_, ?_, fun n hn => ?_⟩
  · rw [swA_lo A k (by decide), swA_lo A k (by decide), swA_lo A k (by decide), swA_lo A k (by decide), slA_sw A k (by decide), show swI k 0 = k from if_pos rfl]
    exact hO
  · rw [swA_lo A k (by decide)]
    refine at_congR hP (fun j hj => ?_)
    rw [slA_sw A k (by decide)]
    unfold va_up swI
    rw [if_neg (show ¬ 1 + j = 0 by omega)]
    by_cases e : j = k - 1
    · rw [if_pos e, if_pos (by omega)]
    · rw [if_neg e, if_neg (by omega)]
  · rw [swA_lo A k (by decide), swA_lo A k (by decide)]; exact hX.1
  · rw [swA_lo A k (by decide), swA_lo A k (by decide)]; exact hX.2.1
  · exact (hX.2.2 (swI k n) (swI_lt hk hn)).eqa (fun i h16 => slA_sw A k h16)
theorem PSE.undo {D : va_G} {T : Nat → ClassId} {H : Heap} {A : Nat → Nat} {Sx : Nat → Prop} {p : FS} {W : Nat → Nat → Nat → Int64} {me co : Nat → Nat → Int32} {sc : Nat → Int64} (h0 : p.2.2.1 ≠ 0) (hSx : ∀ i, i < 102 → Sx (A i)) (hrb : ∀ i, p.2.2.2.1 i < 256) (hbl : p.2.2.2.2 ≤ 200) (hk5 : p.2.2.1 ≤ 5) (hRh : ∀ i, i < p.2.2.1 → RepS (W (1 + i)) (me (1 + i)) (co (1 + i)) (p.2.1 i)) (hP : PSr D T H (swA A p.2.2.1) (p.2.2.1 - 1) p.2.2.2.1 p.2.2.2.2 sc (swW W p.2.2.1) (swW me p.2.2.1) (swW co p.2.2.1)) : PSE D T H (swA A p.2.2.1) Sx (undN p) := by
  have e : undN p = (p.2.1 (p.2.2.1 - 1), p.2.1, p.2.2.1 - 1, p.2.2.2.1, p.2.2.2.2) := if_neg h0
  rw [e]
  refine ⟨_, _, _, sc, hP, fun i hi => ?_, hrb, hbl, by show p.2.2.1 - 1 ≤ 5; omega, ?_, fun i hi => ?_⟩
  · obtain ⟨j, h1, h2⟩ := swA_in (A := A) (k := p.2.2.1) (by omega) hi
    rw [h2]; exact hSx j h1
  · have h := hRh (p.2.2.1 - 1) (by omega)
    rw [show 1 + (p.2.2.1 - 1) = p.2.2.1 by omega] at h
    exact h
  · have h2 : i < p.2.2.1 - 1 := hi
    have es : swI p.2.2.1 (1 + i) = 1 + i := by
      unfold swI
      rw [if_neg (by omega), if_neg (by omega)]
    show RepS (W (swI p.2.2.1 (1 + i))) (me (swI p.2.2.1 (1 + i))) (co (swI p.2.2.1 (1 + i))) (p.2.1 i)
    rw [es]
    exact hRh i (by omega)
theorem apR_lt {rb : Nat → Nat} {bl v : Nat} (h : ∀ i, rb i < 256) (hv : v < 256) (i : Nat) : apR rb bl v i < 256 := by
  unfold apR
  split
  · show (if i = bl then v else rb i) < 256
    split
    · exact hv
    · exact h i
  · exact h i
theorem apL_le {bl : Nat} (h : bl ≤ 200) : apL bl ≤ 200 := by unfold apL; split <;> omega
/-- how many a set moved has: those that stay in -/
theorem mvb_ct (b : Nat → Bool) (y : Int) : ∀ n, n ≤ 4096 → ct (mvb b y) 0 n = ct (fun z => b z && decide (0 ≤ (z : Int) + y ∧ (z : Int) + y < n)) 0 4096
  | 0, _ => by
    rw [ct_0, ct_false (fun x _ _ => by rw [decide_eq_false (by omega), Bool.and_false])]
  | n + 1, h => by
    have ih := mvb_ct b y n (by omega)
    have e : ct (mvb b y) 0 (n + 1) = ct (mvb b y) 0 n + (if mvb b y n = true then 1 else 0) := by
      show fb_ct _ (n + 1) = _
      rw [fb_ct_succ]
      show fb_ct _ n + (if mvb b y (0 + n) = true then 1 else 0) = _
      rw [Nat.zero_add]; rfl
    rw [e, ih]
    unfold mvb bz
    by_cases z : 0 ≤ (n : Int) - y ∧ (n : Int) - y < 4096
    · rw [decide_eq_true z, Bool.true_and]
      have hj : ((n : Int) - y).toNat < 4096 := by omega
      have hu := fb_ct_upd (fun k => b (0 + k) && decide (0 ≤ ((0 + k : Nat) : Int) + y ∧ ((0 + k : Nat) : Int) + y < n)) (b ((n : Int) - y).toNat) (i := ((n : Int) - y).toNat) (n := 4096) hj
      have h0 : (b (0 + ((n : Int) - y).toNat) && decide (0 ≤ ((0 + ((n : Int) - y).toNat : Nat) : Int) + y ∧ ((0 + ((n : Int) - y).toNat : Nat) : Int) + y < n)) = false := by
        rw [decide_eq_false (by omega), Bool.and_false]
      rw [h0] at hu
      simp only [Bool.false_eq_true, if_false, Nat.add_zero] at hu
      have e2 : ct (fun z => b z && decide (0 ≤ (z : Int) + y ∧ (z : Int) + y < ((n + 1 : Nat) : Int))) 0 4096 = fb_ct (fun k => if k = ((n : Int) - y).toNat then b ((n : Int) - y).toNat else (b (0 + k) && decide (0 ≤ ((0 + k : Nat) : Int) + y ∧ ((0 + k : Nat) : Int) + y < n))) 4096 := fb_ct_cong (fun k hk => by
        show (b (0 + k) && decide (0 ≤ ((0 + k : Nat) : Int) + y ∧ ((0 + k : Nat) : Int) + y < ((n + 1 : Nat) : Int))) = _
        by_cases hkk : k = ((n : Int) - y).toNat
        · rw [if_pos hkk, decide_eq_true (by omega), Bool.and_true, Nat.zero_add, hkk]
        · rw [if_neg hkk]
          refine congrArg (fun v => b (0 + k) && v) (decide_eq_decide.mpr (by omega)))
      rw [e2, hu]
      rfl
    · rw [decide_eq_false z]
      show _ + 0 = _
      rw [Nat.add_zero]
      exact ct_cong (fun k _ hk => congrArg (fun v => b k && v) (decide_eq_decide.mpr (by omega)))
theorem mvb_le (b : Nat → Bool) (y : Int) : ct (mvb b y) 0 4096 ≤ ct b 0 4096 := by
  rw [mvb_ct b y 4096 (Nat.le_refl _)]
  exact fb_ct_sub (fun k _ h => by
    have : (b (0 + k) && decide (0 ≤ ((0 + k : Nat) : Int) + y ∧ ((0 + k : Nat) : Int) + y < ((4096 : Nat) : Int))) = true := h
    rw [Bool.and_eq_true] at this
    exact this.1)
