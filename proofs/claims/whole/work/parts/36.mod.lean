/-! the model in the law: its object and five rows; the bits of its rows -/
def bI (f : Nat → Int32) (s x : Nat) : Bool := bt (f (128 * s + x / 32)) (x % 32)
def MO (D : va_G) (T : Nat → ClassId) (H : Heap) (M : Nat → Nat) (v as pa : Nat → Int32) (pk : Nat) (bu : Nat → Int32) (bm : Nat) (bi : Nat → Int32) (at0 : Nat) : Prop :=
  inj M 6 ∧ va_at D vwCl (M 0, .inr (4, [.ref (M 1), .ref (M 2), .ref (M 3), .int (nI pk), .ref (M 4), .int (nI bm), .ref (M 5), .int (nI at0)])) H ∧ va_at D vwCl (M 1, eI T 790 v) H ∧ va_at D vwCl (M 2, eI T 790 as) H ∧ va_at D vwCl (M 3, eI T 3950 pa) H ∧ va_at D vwCl (M 4, eI T 200 bu) H ∧ va_at D vwCl (M 5, eI T 128 bi) H
section MOS
variable {D : va_G} {T : Nat → ClassId} {H H1 : Heap} {M : Nat → Nat} {v as pa : Nat → Int32} {pk : Nat} {bu : Nat → Int32} {bm : Nat} {bi : Nat → Int32} {at0 : Nat} {f : Nat → Int32}
theorem MO.set1 (h : MO D T H M v as pa pk bu bm bi at0) (hN : va_at D vwCl (M 1, eI T 790 f) H1) (hF : Fr (fun q => q = M 1) H H1) : MO D T H1 M f as pa pk bu bm bi at0 :=
  ⟨h.1, hF.at h.2.1 (h.1.ne 0 1 (by decide) (by decide) (by decide)), hN, hF.at h.2.2.2.1 (h.1.ne 2 1 (by decide) (by decide) (by decide)), hF.at h.2.2.2.2.1 (h.1.ne 3 1 (by decide) (by decide) (by decide)), hF.at h.2.2.2.2.2.1 (h.1.ne 4 1 (by decide) (by decide) (by decide)), hF.at h.2.2.2.2.2.2 (h.1.ne 5 1 (by decide) (by decide) (by decide))⟩
theorem MO.set2 (h : MO D T H M v as pa pk bu bm bi at0) (hN : va_at D vwCl (M 2, eI T 790 f) H1) (hF : Fr (fun q => q = M 2) H H1) : MO D T H1 M v f pa pk bu bm bi at0 :=
  ⟨h.1, hF.at h.2.1 (h.1.ne 0 2 (by decide) (by decide) (by decide)), hF.at h.2.2.1 (h.1.ne 1 2 (by decide) (by decide) (by decide)), hN, hF.at h.2.2.2.2.1 (h.1.ne 3 2 (by decide) (by decide) (by decide)), hF.at h.2.2.2.2.2.1 (h.1.ne 4 2 (by decide) (by decide) (by decide)), hF.at h.2.2.2.2.2.2 (h.1.ne 5 2 (by decide) (by decide) (by decide))⟩
theorem MO.set3 (h : MO D T H M v as pa pk bu bm bi at0) (hN : va_at D vwCl (M 3, eI T 3950 f) H1) (hF : Fr (fun q => q = M 3) H H1) : MO D T H1 M v as f pk bu bm bi at0 :=
  ⟨h.1, hF.at h.2.1 (h.1.ne 0 3 (by decide) (by decide) (by decide)), hF.at h.2.2.1 (h.1.ne 1 3 (by decide) (by decide) (by decide)), hF.at h.2.2.2.1 (h.1.ne 2 3 (by decide) (by decide) (by decide)), hN, hF.at h.2.2.2.2.2.1 (h.1.ne 4 3 (by decide) (by decide) (by decide)), hF.at h.2.2.2.2.2.2 (h.1.ne 5 3 (by decide) (by decide) (by decide))⟩
theorem MO.set4 (h : MO D T H M v as pa pk bu bm bi at0) (hN : va_at D vwCl (M 4, eI T 200 f) H1) (hF : Fr (fun q => q = M 4) H H1) : MO D T H1 M v as pa pk f bm bi at0 :=
  ⟨h.1, hF.at h.2.1 (h.1.ne 0 4 (by decide) (by decide) (by decide)), hF.at h.2.2.1 (h.1.ne 1 4 (by decide) (by decide) (by decide)), hF.at h.2.2.2.1 (h.1.ne 2 4 (by decide) (by decide) (by decide)), hF.at h.2.2.2.2.1 (h.1.ne 3 4 (by decide) (by decide) (by decide)), hN, hF.at h.2.2.2.2.2.2 (h.1.ne 5 4 (by decide) (by decide) (by decide))⟩
theorem MO.set5 (h : MO D T H M v as pa pk bu bm bi at0) (hN : va_at D vwCl (M 5, eI T 128 f) H1) (hF : Fr (fun q => q = M 5) H H1) : MO D T H1 M v as pa pk bu bm f at0 :=
  ⟨h.1, hF.at h.2.1 (h.1.ne 0 5 (by decide) (by decide) (by decide)), hF.at h.2.2.1 (h.1.ne 1 5 (by decide) (by decide) (by decide)), hF.at h.2.2.2.1 (h.1.ne 2 5 (by decide) (by decide) (by decide)), hF.at h.2.2.2.2.1 (h.1.ne 3 5 (by decide) (by decide) (by decide)), hF.at h.2.2.2.2.2.1 (h.1.ne 4 5 (by decide) (by decide) (by decide)), hN⟩
theorem MO.set0 {pk' bm' at' : Nat} (h : MO D T H M v as pa pk bu bm bi at0) (hN : va_at D vwCl (M 0, .inr (4, [.ref (M 1), .ref (M 2), .ref (M 3), .int (nI pk'), .ref (M 4), .int (nI bm'), .ref (M 5), .int (nI at')])) H1) (hF : Fr (fun q => q = M 0) H H1) : MO D T H1 M v as pa pk' bu bm' bi at' :=
  ⟨h.1, hN, hF.at h.2.2.1 (h.1.ne 1 0 (by decide) (by decide) (by decide)), hF.at h.2.2.2.1 (h.1.ne 2 0 (by decide) (by decide) (by decide)), hF.at h.2.2.2.2.1 (h.1.ne 3 0 (by decide) (by decide) (by decide)), hF.at h.2.2.2.2.2.1 (h.1.ne 4 0 (by decide) (by decide) (by decide)), hF.at h.2.2.2.2.2.2 (h.1.ne 5 0 (by decide) (by decide) (by decide))⟩
theorem MO.fr {B : Nat → Prop} (h : MO D T H M v as pa pk bu bm bi at0) (hF : Fr B H H1) (hB : ∀ i, i < 6 → ¬ B (M i)) : MO D T H1 M v as pa pk bu bm bi at0 :=
  ⟨h.1, hF.at h.2.1 (hB 0 (by decide)), hF.at h.2.2.1 (hB 1 (by decide)), hF.at h.2.2.2.1 (hB 2 (by decide)), hF.at h.2.2.2.2.1 (hB 3 (by decide)), hF.at h.2.2.2.2.2.1 (hB 4 (by decide)), hF.at h.2.2.2.2.2.2 (hB 5 (by decide))⟩
theorem MO.eqv {g : Nat → Int32} (h : MO D T H M v as pa pk bu bm bi at0) (e : ∀ j, j < 790 → v j = g j) : MO D T H M g as pa pk bu bm bi at0 := ⟨h.1, h.2.1, at_congI h.2.2.1 e, h.2.2.2⟩
theorem MO.eqb {g : Nat → Int32} (h : MO D T H M v as pa pk bu bm bi at0) (e : ∀ j, j < 128 → bi j = g j) : MO D T H M v as pa pk bu bm g at0 := ⟨h.1, h.2.1, h.2.2.1, h.2.2.2.1, h.2.2.2.2.1, h.2.2.2.2.2.1, at_congI h.2.2.2.2.2.2 e⟩
end MOS
theorem bt_1 : ∀ j, j < 32 → bt (nI 1) j = decide (j = 0) := by decide +kernel
theorem sh_bit (w : Int32) {j : Nat} (hj : j < 32) : shrI w (nI j) &&& nI 1 = b2i (bt w j) := by
  refine b_ext (fun i hi => ?_)
  rw [b_and, bt_1 i hi]
  show (bt (shrI w (nI j)) i && _) = _
  unfold shrI
  rw [b_sshr j hj w hi]
  by_cases h : i = 0
  · subst h
    rw [Nat.add_zero, if_pos hj]
    cases bt w j <;> decide +kernel
  · rw [decide_eq_false h, Bool.and_false]
    cases bt w j
    · exact (b_0 i).symm
    · show false = bt 1 i
      exact ((bt_1 i hi).trans (decide_eq_false h)).symm
theorem bt_m1 : ∀ j, j < 32 → bt (-1) j = true := by decide +kernel
theorem bt_sh {j i : Nat} (hj : j < 32) (hi : i < 32) : bt (shlI (nI 1) (nI j)) i = decide (i = j) := by
  unfold shlI
  rw [b_shl j hj (nI 1) hi]
  by_cases h : j ≤ i
  · rw [decide_eq_true h, Bool.true_and, bt_1 _ (by omega)]
    exact decide_eq_decide.mpr (by omega)
  · rw [decide_eq_false h, Bool.false_and, decide_eq_false (by omega)]
theorem bt_not (w : Int32) {i : Nat} (hi : i < 32) : bt (w ^^^ (-1)) i = !bt w i := by rw [b_xor, bt_m1 i hi, Bool.xor_true]
/-- a bit put -/
theorem bI_put {f : Nat → Int32} {w : Int32} {s x : Nat} {b : Bool} (hx : x < 4096) (hw : ∀ i, i < 32 → bt w i = if i = x % 32 then b else bt (f (128 * s + x / 32)) i) (t y : Nat) (hy : y < 4096) : bI (upd f (128 * s + x / 32) w) t y = if t = s ∧ y = x then b else bI f t y := by
  unfold bI upd
  by_cases h : 128 * t + y / 32 = 128 * s + x / 32
  · rw [if_pos h, hw _ (by omega), ← h]
    by_cases h2 : y % 32 = x % 32
    · rw [if_pos h2, if_pos (by omega)]
    · rw [if_neg h2, if_neg (by omega)]
  · rw [if_neg h, if_neg (fun z => h (by rw [z.1, z.2]))]
theorem upd_o {f : Nat → Int32} {k : Nat} {w : Int32} {j : Nat} (h : j ≠ k) : upd f k w j = f j := if_neg h
theorem in_set {n : Nat} (h : n + 1 < 2 ^ 31) (x : Int32) : (nI 0 ≤ x ∧ x ≤ nI n) ↔ (¬ x < 0 ∧ x < nI (n + 1)) := by
  rw [Int32.le_iff_toInt_le, Int32.le_iff_toInt_le, Int32.lt_iff_toInt_lt, Int32.lt_iff_toInt_lt, nI_toInt (by omega), nI_toInt (by omega), nI_toInt (by omega), Int32.toInt_zero]
  omega
theorem b2i_e1 {b : Bool} : b2i b = nI 1 ↔ b = true := by cases b <;> decide
theorem in_rng (x y : Int32) : ((¬ x < 0 ∧ x < nI 4096) ∧ x ≤ y ∧ y ≤ nI 4095) ↔ okR x y := by
  unfold okR
  rw [Int32.le_iff_toInt_le, Int32.le_iff_toInt_le, Int32.lt_iff_toInt_lt, Int32.lt_iff_toInt_lt, Int32.lt_iff_toInt_lt, Int32.lt_iff_toInt_lt, nI_toInt (by omega), nI_toInt (by omega), Int32.toInt_zero]
  omega
/-- a piece told, as the model tells it -/
def tol (b : Nat → Bool) (k : Nat) (q : Int32) : Int32 := if q = nI 0 then pkd b k else if q = nI 1 then nI (pn b k) else if q = nI 2 then nI (pr b k) else nI (cst (pn b k) (pr b k))
theorem tol_det (b : Nat → Bool) (k : Nat) {q : Int32} (h : nI 0 ≤ q ∧ q ≤ nI 3) : tol b k q = det b k q := by
  unfold tol det
  by_cases h0 : q = nI 0
  · rw [if_pos h0, if_pos h0]
  · by_cases h1 : q = nI 1
    · rw [if_neg h0, if_pos h1, if_neg h0, if_pos h1]
    · by_cases h2 : q = nI 2
      · rw [if_neg h0, if_neg h1, if_pos h2, if_neg h0, if_neg h1, if_pos h2]
      · have h3 : q = nI 3 := by
          obtain ⟨j, hj, rfl⟩ := okX (N := 4) (by decide) ((in_set (n := 3) (by decide) q).mp h)
          rcases (show j = 0 ∨ j = 1 ∨ j = 2 ∨ j = 3 by omega) with rfl | rfl | rfl | rfl
          · exact absurd rfl h0
          · exact absurd rfl h1
          · exact absurd rfl h2
          · rfl
        rw [if_neg h0, if_neg h1, if_neg h2, if_neg h0, if_neg h1, if_neg h2, if_pos h3]
theorem det_out (b : Nat → Bool) (k : Nat) {q : Int32} (h : ¬ (nI 0 ≤ q ∧ q ≤ nI 3)) : det b k q = -1 := by
  unfold det
  rw [if_neg (fun z => h (by rw [z]; decide)), if_neg (fun z => h (by rw [z]; decide)), if_neg (fun z => h (by rw [z]; decide)), if_neg (fun z => h (by rw [z]; decide))]
theorem rsG_m {b : Nat → Bool} {p x : Nat} (h1 : 256 * p ≤ x) (h2 : x < 256 * p + 256) : rsG b (256 * p) x = (b x && (decide (x % 256 = 0) || !b (x - 1))) := by
  unfold rsG
  rw [show decide (x = 256 * p) = decide (x % 256 = 0) from decide_eq_decide.mpr (by omega)]
theorem ct_end (b : Nat → Bool) (a n : Nat) : ct b a (n + 1) = ct b a n + (if b (a + n) = true then 1 else 0) := rfl
