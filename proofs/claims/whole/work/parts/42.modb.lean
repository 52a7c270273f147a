/-! the model's other acts -/
theorem put_or {c : Bool} {s k y : Nat} : (if s = s ∧ y = k then true else c) = (c || decide (y = k)) := by
  by_cases h : y = k
  · rw [if_pos ⟨rfl, h⟩, decide_eq_true h, Bool.or_true]
  · rw [if_neg (fun z => h z.2), decide_eq_false h, Bool.or_false]
def jw (o : Nat) (a b : Int32) : Int32 := if o = 0 then a &&& b else if o = 1 then a ||| b else if o = 2 then a ^^^ b else a &&& (b ^^^ (-1))
theorem bt_jw (o : Nat) (a b : Int32) {i : Nat} (hi : i < 32) : bt (jw o a b) i = jb o (bt a i) (bt b i) := by
  unfold jw jb
  by_cases h0 : o = 0
  · rw [if_pos h0, if_pos h0, b_and]
  · rw [if_neg h0, if_neg h0]
    by_cases h1 : o = 1
    · rw [if_pos h1, if_pos h1, b_or]
    · rw [if_neg h1, if_neg h1]
      by_cases h2 : o = 2
      · rw [if_pos h2, if_pos h2, b_xor]
      · rw [if_neg h2, if_neg h2, b_and, bt_not _ hi]
abbrev jwF (v : Nat → Int32) (o s t : Nat) : Nat → Int32 := fun k => jw o (v (128 * s + k)) (v (128 * t + k))
theorem com_w {v : Nat → Int32} {o s t u : Nat} (hu : u < 6) : ∀ t', t' < 6 → ∀ y, y < 4096 → bI (cpF (mtU v s t 16) (128 * u) (jwF v o s t) 128) t' y = if t' = u then jb o (bI v s y) (bI v t y) else bI v t' y := fun t' ht y hy => by
  unfold bI
  by_cases e : t' = u
  · rw [if_pos e, cpF_i (by omega), show 128 * t' + y / 32 - 128 * u = y / 32 by omega]
    exact bt_jw o _ _ (by omega)
  · rw [if_neg e, cpF_o (by omega), mtU_out (by omega)]
theorem com_m {v : Nat → Int32} {o s t u j : Nat} (hu : u < 6) (hj : j < 9) : cpF (mtU v s t 16) (128 * u) (jwF v o s t) 128 (768 + j) = mtF (bI v s) (bI v t) 16 (fun j => v (768 + j)) j := by
  rw [cpF_o (by omega)]
  unfold mtU
  rw [if_pos (by omega), Nat.add_sub_cancel_left]
theorem com_c {v : Nat → Int32} {o s t u j : Nat} (hu : u < 6) (hj : j < 9) : cpF (mtU v s t 16) (128 * u) (jwF v o s t) 128 (777 + j) = v (777 + j) := by
  rw [cpF_o (by omega), mtU_out (by omega)]
/-- a set moved, number by number -/
theorem shr_rng {y : Int32} : ((-4095 : Int32) ≤ y ∧ y ≤ nI 4095) ↔ okS y := by
  unfold okS
  rw [Int32.le_iff_toInt_le, Int32.le_iff_toInt_le, Int32.le_iff_toInt_le, Int32.le_iff_toInt_le, nI_toInt (by omega), nI_toInt (by omega), show (-4095 : Int32).toInt = -4095 by decide, show (-4096 : Int32).toInt = -4096 by decide]
  omega
theorem add_int {x : Nat} (hx : x < 4096) {y : Int32} (hy : -4095 ≤ y.toInt ∧ y.toInt ≤ 4095) : (nI x + y).toInt = (x : Int) + y.toInt := by
  rw [Int32.toInt_add, nI_toInt (by omega), Int.bmod_eq_of_le (by omega) (by omega)]
theorem add_rng {x : Nat} (hx : x < 4096) {y : Int32} (hy : -4095 ≤ y.toInt ∧ y.toInt ≤ 4095) : (nI 0 ≤ nI x + y ∧ nI x + y ≤ nI 4095) ↔ (0 ≤ (x : Int) + y.toInt ∧ (x : Int) + y.toInt < 4096) := by
  rw [Int32.le_iff_toInt_le, Int32.le_iff_toInt_le, add_int hx hy, nI_toInt (by omega), nI_toInt (by omega)]
  omega
theorem add_nat {x : Nat} (hx : x < 4096) {y : Int32} (hy : -4095 ≤ y.toInt ∧ y.toInt ≤ 4095) (h : nI 0 ≤ nI x + y ∧ nI x + y ≤ nI 4095) : ∃ m, m < 4096 ∧ nI x + y = nI m ∧ (m : Int) = (x : Int) + y.toInt := by
  have h2 := (add_rng hx hy).mp h
  refine ⟨((x : Int) + y.toInt).toNat, by omega, ?_, by omega⟩
  rw [← Int32.toInt_inj, add_int hx hy, nI_toInt (by omega)]
  omega
abbrev shI (v w : Nat → Int32) (s x : Nat) (y : Int) : Prop := ∀ t, t < 6 → ∀ z, z < 4096 → bI w t z = if t = s then (mvb (bI v s) y z && decide ((z : Int) - y < x)) else bI v t z
theorem mvb_at {b : Nat → Bool} {y : Int} {z x : Nat} (hx : x < 4096) (h : (z : Int) - y = x) : mvb b y z = b x := by
  unfold mvb bz
  rw [h, decide_eq_true (by omega), Bool.true_and]
  rfl
theorem shf_s {v w u : Nat → Int32} {s x : Nat} {y : Int} (hx : x < 4096) (hv9 : shI v w s x y) (h : ∀ t, t < 6 → ∀ z, z < 4096 → bI u t z = if t = s ∧ (z : Int) - y = x then bI v s x else bI w t z) : shI v u s (x + 1) y := fun t ht z hz => by
  rw [h t ht z hz]
  by_cases e : t = s
  · rw [if_pos e]
    by_cases e2 : (z : Int) - y = x
    · rw [if_pos ⟨e, e2⟩, mvb_at hx e2, decide_eq_true (by omega), Bool.and_true]
    · rw [if_neg (fun q => e2 q.2), hv9 t ht z hz, if_pos e, show decide ((z : Int) - y < (x : Int)) = decide ((z : Int) - y < ((x + 1 : Nat) : Int)) from decide_eq_decide.mpr (by omega)]
  · rw [if_neg e, if_neg (fun q => e q.1), hv9 t ht z hz, if_neg e]
theorem shf_put {v w u : Nat → Int32} {s x m : Nat} {y : Int} (hx : x < 4096) (hv9 : shI v w s x y) (hu : ∀ t z, z < 4096 → bI u t z = if t = s ∧ z = m then true else bI w t z) (hm : (m : Int) = (x : Int) + y) (hb : bI v s x = true) : shI v u s (x + 1) y :=
  shf_s hx hv9 (fun t _ z hz => by
    rw [hu t z hz]
    by_cases e : t = s ∧ z = m
    · rw [if_pos e, if_pos ⟨e.1, by omega⟩, hb]
    · rw [if_neg e, if_neg (fun q => e ⟨q.1, by omega⟩)])
theorem shf_no {v w : Nat → Int32} {s x : Nat} {y : Int} (hx : x < 4096) (hv9 : shI v w s x y) (h : bI v s x = false ∨ ¬ (0 ≤ (x : Int) + y ∧ (x : Int) + y < 4096)) : shI v w s (x + 1) y :=
  shf_s hx hv9 (fun t ht z hz => by
    by_cases e : t = s ∧ (z : Int) - y = x
    · rw [if_pos e]
      rcases h with h | h
      · rw [h, hv9 t ht z hz, if_pos e.1, decide_eq_false (by omega), Bool.and_false]
      · exact absurd ⟨by omega, by omega⟩ h
    · rw [if_neg e])
theorem shf_0 {v : Nat → Int32} {s : Nat} {y : Int} (hs : s < 6) (hy : -4095 ≤ y ∧ y ≤ 4095) : shI v (cpF v (128 * s) (fun _ => nI 0) 128) s 0 y := fun t ht z hz => by
  by_cases e : t = s
  · rw [if_pos e]
    unfold bI
    rw [cpF_i (by omega)]
    have e0 : bt (nI 0) (z % 32) = false := b_0 _
    rw [e0]
    by_cases h2 : (z : Int) - y < ((0 : Nat) : Int)
    · unfold mvb bz
      rw [decide_eq_false (show ¬ (0 ≤ (z : Int) - y ∧ (z : Int) - y < 4096) by omega), Bool.false_and, Bool.false_and]
    · rw [decide_eq_false h2, Bool.and_false]
  · rw [if_neg e]
    unfold bI
    rw [cpF_o (by omega)]
theorem ct_split (b c : Nat → Bool) : ∀ n, ct (fun z => b z && c z) 0 n + ct (fun z => b z && !c z) 0 n = ct b 0 n
  | 0 => rfl
  | n + 1 => by
    have ih := ct_split b c n
    rw [ct_end, ct_end, ct_end]
    cases hb : b (0 + n) <;> cases hc : c (0 + n) <;> simp <;> omega
abbrev loF (b : Nat → Bool) (y : Int) : Nat → Bool := fun z => b z && !decide (0 ≤ (z : Int) + y ∧ (z : Int) + y < 4096)
theorem lost_ct (b : Nat → Bool) (y : Int) : ct (loF b y) 0 4096 = ct b 0 4096 - ct (mvb b y) 0 4096 := by
  have h : ct (fun z => b z && decide (0 ≤ (z : Int) + y ∧ (z : Int) + y < 4096)) 0 4096 + ct (loF b y) 0 4096 = ct b 0 4096 := ct_split b (fun z => decide (0 ≤ (z : Int) + y ∧ (z : Int) + y < 4096)) 4096
  have h2 : ct (mvb b y) 0 4096 = ct (fun z => b z && decide (0 ≤ (z : Int) + y ∧ (z : Int) + y < 4096)) 0 4096 := mvb_ct b y 4096 (Nat.le_refl _)
  omega
theorem shI_end {v w : Nat → Int32} {s : Nat} {y : Int} {b : Nat → Bool} (hv9 : shI v w s 4096 y) (hy : -4095 ≤ y ∧ y ≤ 4095) (hb : Eq4 (bI v s) b) : ∀ t, t < 6 → ∀ z, z < 4096 → bI w t z = if t = s then mvb b y z else bI v t z := fun t ht z hz => by
  rw [hv9 t ht z hz]
  by_cases e : t = s
  · rw [if_pos e, if_pos e, mvb_cong hb]
    by_cases h2 : (z : Int) - y < ((4096 : Nat) : Int)
    · rw [decide_eq_true h2, Bool.and_true]
    · rw [decide_eq_false h2, Bool.and_false]
      unfold mvb bz
      rw [decide_eq_false (show ¬ (0 ≤ (z : Int) - y ∧ (z : Int) - y < 4096) by omega), Bool.false_and]
  · rw [if_neg e, if_neg e]
theorem lo_f {b : Nat → Bool} {y : Int} {x : Nat} (h : b x = false) : loF b y x = false := by
  show (b x && _) = false
  rw [h, Bool.false_and]
theorem lo_in {b : Nat → Bool} {y : Int} {x : Nat} (h : 0 ≤ (x : Int) + y ∧ (x : Int) + y < 4096) : loF b y x = false := by
  show (b x && !decide _) = false
  rw [decide_eq_true h]
  exact Bool.and_false _
theorem lo_out {b : Nat → Bool} {y : Int} {x : Nat} (hb : b x = true) (h : ¬ (0 ≤ (x : Int) + y ∧ (x : Int) + y < 4096)) : loF b y x = true := by
  show (b x && !decide _) = true
  rw [decide_eq_false h, hb]
  rfl
theorem lo_cong {b c : Nat → Bool} (h : Eq4 b c) (y : Int) : ct (loF b y) 0 4096 = ct (loF c y) 0 4096 := ct_cong (fun z _ hz => by
  show (b z && _) = (c z && _)
  rw [h z (by omega)])
