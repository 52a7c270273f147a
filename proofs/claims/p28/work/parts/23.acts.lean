/-! what acts leave, and what they answer -/
theorem split3 (p : Nat → Bool) {f t : Nat} (h : f ≤ t) (ht : t < 4096) : ct p 0 4096 = ct p 0 f + ct p f (t - f + 1) + ct p (t + 1) (4095 - t) := by
  rw [show 4096 = f + ((t - f + 1) + (4095 - t)) by omega, ct_add, ct_add, Nat.zero_add, show f + (t - f + 1) = t + 1 by omega, Nat.add_assoc]
theorem rg_in {f t z : Nat} (h1 : f ≤ z) (h2 : z ≤ t) : rg f t z = true := decide_eq_true ⟨h1, h2⟩
theorem rg_out {f t z : Nat} (h : z < f ∨ t < z) : rg f t z = false := decide_eq_false (by omega)
theorem ct_not (p : Nat → Bool) (a n : Nat) : ct (fun z => !p z) a n = n - ct p a n := by
  have := fb_ct_not (fun j => p (a + j)) n
  show fb_ct (fun k => !p (a + k)) n = n - fb_ct (fun j => p (a + j)) n
  omega
theorem ct_true {p : Nat → Bool} {a n : Nat} (h : ∀ x, a ≤ x → x < a + n → p x = true) : ct p a n = n := fb_ct_all.mpr (fun k hk => h _ (by omega) (by omega))
theorem ct_false {p : Nat → Bool} {a n : Nat} (h : ∀ x, a ≤ x → x < a + n → p x = false) : ct p a n = 0 := fb_ct_zero.mpr (fun k hk => h _ (by omega) (by omega))
theorem cnt_add {b c : Nat → Bool} {f t : Nat} (h : f ≤ t) (ht : t < 4096) (hc : Eq4 c (addB b f t)) : ct c 0 4096 = ct b 0 4096 + (t - f + 1 - ct b f (t - f + 1)) := by
  have hl := ct_le b f (t - f + 1)
  rw [split3 c h ht, split3 b h ht, ct_cong (q := b) (a := 0) (fun x _ hx => by rw [hc x (by omega)]; unfold addB; rw [rg_out (by omega), Bool.or_false]), ct_true (p := c) (a := f) (fun x h1 h2 => by rw [hc x (by omega)]; unfold addB; rw [rg_in (by omega) (by omega), Bool.or_true]), ct_cong (p := c) (q := b) (a := t + 1) (fun x h1 h2 => by rw [hc x (by omega)]; unfold addB; rw [rg_out (by omega), Bool.or_false])]
  omega
theorem cnt_rem {b c : Nat → Bool} {f t : Nat} (h : f ≤ t) (ht : t < 4096) (hc : Eq4 c (remB b f t)) : ct b 0 4096 = ct c 0 4096 + ct b f (t - f + 1) := by
  rw [split3 c h ht, split3 b h ht, ct_cong (q := b) (p := c) (a := 0) (fun x _ hx => by rw [hc x (by omega)]; unfold remB; rw [rg_out (by omega)]; exact Bool.and_true _), ct_false (p := c) (a := f) (fun x h1 h2 => by rw [hc x (by omega)]; unfold remB; rw [rg_in (by omega) (by omega)]; exact Bool.and_false _), ct_cong (p := c) (q := b) (a := t + 1) (fun x h1 h2 => by rw [hc x (by omega)]; unfold remB; rw [rg_out (by omega)]; exact Bool.and_true _)]
  omega
theorem cnt_flp {b c : Nat → Bool} {f t : Nat} (h : f ≤ t) (ht : t < 4096) (hc : Eq4 c (flpB b f t)) : ctr c (nI f) (nI t) = t - f + 1 - ct b f (t - f + 1) := by
  unfold ctr
  rw [split3 _ h ht, ct_false (a := 0) (fun x _ hx => by rw [inr_n (by omega) (by omega) (by omega), decide_eq_false (by omega), Bool.and_false]), ct_false (a := t + 1) (fun x h1 h2 => by rw [inr_n (by omega) (by omega) (by omega), decide_eq_false (by omega), Bool.and_false]), ct_cong (q := fun z => !b z) (a := f) (fun x h1 h2 => by rw [inr_n (by omega) (by omega) (by omega), decide_eq_true (by omega), Bool.and_true, hc x (by omega)]; unfold flpB; rw [rg_in (by omega) (by omega), Bool.xor_true]), ct_not]
  omega
theorem act_rep {W : Nat → Nat → Int64} {me co : Nat → Int32} {a : AS} {s : Nat} {u : Nat → Int64} {b : Nat → Bool} (h : RepS W me co a) (hs : s < 6) (hu : Eq4 (bitL u) b) : RepS (va_up W s u) me (cvF (bitL (W s)) (bitL u) 16 co) (va_up a.1 s b, a.2.1, cvF (a.1 s) b 16 a.2.2) :=
  ⟨fun s' hs' x hx => by
    show bitL (if s' = s then u else W s') x = (if s' = s then b else a.1 s') x
    by_cases e : s' = s
    · rw [if_pos e, if_pos e]; exact hu x hx
    · rw [if_neg e, if_neg e]; exact h.1 s' hs' x hx, h.2.1, fun j hj => cvF_cong (h.1 s hs) hu h.2.2 16 (Nat.le_refl _) j hj⟩
theorem PSE.mk {D : va_G} {T : Nat → ClassId} {H : Heap} {A : Nat → Nat} {Sx : Nat → Prop} {p : FS} {W0 W' : Nat → Nat → Nat → Int64} {me co me' co' : Nat → Nat → Int32} {sc : Nat → Int64} {rb : Nat → Nat} {bl : Nat} {a : AS} (hSx : ∀ i, i < 102 → Sx (A i)) (hrb : ∀ i, rb i < 256) (hbl : bl ≤ 200) (hk5 : p.2.2.1 ≤ 5) (hR0 : RepS (W0 0) (me 0) (co 0) p.1) (hRh : ∀ i, i < p.2.2.1 → RepS (W0 (1 + i)) (me (1 + i)) (co (1 + i)) (p.2.1 i)) (hP : PSr D T H (rotA A p.2.2.1) (kpt p.2.2.1) rb bl sc W' me' co') (e1 : ∀ n, n ≠ 0 → W' n = rotW W0 p.2.2.1 n) (e2 : ∀ n, n ≠ 0 → me' n = rotW me p.2.2.1 n) (e3 : ∀ n, n ≠ 0 → co' n = rotW co p.2.2.1 n) (ha : RepS (W' 0) (me' 0) (co' 0) a) : PSE D T H (rotA A p.2.2.1) Sx (a, pushH p.2.1 p.2.2.1 p.1, kpt p.2.2.1, rb, bl) :=
  ⟨W', me', co', sc, hP, fun i hi => by
    obtain ⟨j, h1, h2⟩ := rotA_in p.2.2.1 hi (A := A)
    rw [h2]; exact hSx j h1, hrb, hbl, kpt_lt.2.2, ha, fun i hi => by
    rw [e1 _ (by omega), e2 _ (by omega), e3 _ (by omega)]
    exact push_rep hk5 hR0 hRh i hi⟩
theorem up_0 {α : Type} (f : Nat → α) (v : α) : va_up f 0 v 0 = v := if_pos rfl
theorem up_n {α : Type} {f : Nat → α} {v : α} {n : Nat} (h : n ≠ 0) : va_up f 0 v n = f n := if_neg h
theorem Sx_rot {A : Nat → Nat} {Sx : Nat → Prop} (h : ∀ i, i < 102 → Sx (A i)) (k : Nat) (i : Nat) (hi : i < 102) : Sx (rotA A k i) := by
  obtain ⟨j, h1, h2⟩ := rotA_in k hi (A := A)
  rw [h2]; exact h j h1
theorem rem_ix (y : Int32) : remI (ushrI y (nI 16)) (nI 4096) = nI (ixN y) := by
  have e : ushrI y (nI 16) = nI (y.toBitVec.toNat / 65536) := by
    apply Int32.toBitVec_inj.mp
    apply BitVec.eq_of_toNat_eq
    have h := pk_ushr y (nI 16) 16 (s_u 16 (by decide))
    show (ushrI y (nI 16)).toBitVec.toNat = _
    unfold ushrI
    rw [h]
    have := y.toBitVec.isLt
    rw [pk_tn (by omega)]
  have hlt := y.toBitVec.isLt
  rw [e]
  exact pk_rem (by omega) (by decide) (by decide)
theorem ixN_lt (y : Int32) : ixN y < 4096 := Nat.mod_lt _ (by decide)
theorem scF_s (n : Nat) (x : Int32) (b : Nat → Bool) : scF (n + 1) x b = scF n (nxI x) (fun z => b z || decide (z = ixN (nxI x))) := rfl
theorem scF_cong : ∀ (n : Nat) (x : Int32) {b c : Nat → Bool}, Eq4 b c → Eq4 (scF n x b) (scF n x c)
  | 0, _, _, _, h => h
  | n + 1, x, b, c, h => scF_cong n (nxI x) (fun z hz => by rw [h z hz])
theorem mvb_cong {b c : Nat → Bool} (h : Eq4 b c) (y : Int) : ∀ x, mvb b y x = mvb c y x := fun x => by
  unfold mvb bz
  by_cases z : 0 ≤ (x : Int) - y ∧ (x : Int) - y < 4096
  · rw [h _ (by omega)]
  · rw [decide_eq_false z]; rfl
theorem jb_edge1 (b : Nat → Bool) : Eq4 (fun z => jb 3 (b z) (mvb b 1 z)) (rsG b 0) := fun x hx => by
  show (b x && !mvb b 1 x) = (b x && (decide (x = 0) || !b (x - 1)))
  refine congrArg (fun v => b x && v) ?_
  unfold mvb bz
  by_cases h : x = 0
  · rw [decide_eq_true h, decide_eq_false (by omega)]; rfl
  · rw [decide_eq_false h, decide_eq_true (by omega), Bool.true_and, Bool.false_or, show ((x : Int) - 1).toNat = x - 1 by omega]
theorem jb_edge2 (b : Nat → Bool) : Eq4 (fun z => jb 3 (b z) (mvb b (-1) z)) (reG b) := fun x hx => by
  show (b x && !mvb b (-1) x) = (b x && (decide (x = 4095) || !b (x + 1)))
  refine congrArg (fun v => b x && v) ?_
  unfold mvb bz
  by_cases h : x = 4095
  · rw [decide_eq_true h, decide_eq_false (by omega)]; rfl
  · rw [decide_eq_false h, decide_eq_true (by omega), Bool.true_and, Bool.false_or, show ((x : Int) - -1).toNat = x + 1 by omega]
theorem exB {D : va_G} {T : Nat → ClassId} {H : Heap} {A B : Nat → Nat} {Sx : Nat → Prop} {p : FS} (h0 : B 0 = A 0) (h : PSE D T H B Sx p) : ∃ B, B 0 = A 0 ∧ PSE D T H B Sx p := ⟨B, h0, h⟩
