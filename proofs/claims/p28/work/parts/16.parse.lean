/-! a set read from bytes, as both sides read it: whether it went well, where it stands, what is in it -/
abbrev PR : Type := Bool × Nat × (Nat → Bool)
def pAr (rb : Nat → Nat) (bl base : Nat) : Nat → Nat → Nat → (Nat → Bool) → PR
  | 0, at_, _, b => (true, at_, b)
  | n + 1, at_, l, b => if bl ≤ at_ ∨ rb at_ < l then (false, at_, b) else pAr rb bl base n (at_ + 1) (rb at_ + 1) (fun x => b x || decide (x = base + rb at_))
def pRs (rb : Nat → Nat) (bl base : Nat) : Nat → Nat → Bool → Nat → (Nat → Bool) → PR
  | 0, at_, _, _, b => (true, at_, b)
  | n + 1, at_, s, l, b => if bl ≤ at_ ∨ rb at_ < l then (false, at_, b) else if s = true then pRs rb bl base n (at_ + 1) false (rb at_ + 2) (fun x => b x || decide (base + rb (at_ - 1) ≤ x ∧ x ≤ base + rb at_)) else pRs rb bl base n (at_ + 1) true (rb at_) b
def bset (b : Nat → Bool) (B v j : Nat) : Nat → Bool := fun x => b x || (decide (B ≤ x ∧ x < B + j) && v.testBit (x - B))
def pBm (rb : Nat → Nat) (bl : Nat) : Nat → Nat → Nat → (Nat → Bool) → PR
  | 0, at_, _, b => (true, at_, b)
  | n + 1, at_, B, b => if bl ≤ at_ then (false, at_, b) else pBm rb bl n (at_ + 1) (B + 8) (bset b B (rb at_) 8)
def pPc (rb : Nat → Nat) (bl p kd at_ : Nat) (b : Nat → Bool) : PR := if kd = 2 then pBm rb bl 32 at_ (256 * p) b else if bl ≤ at_ ∨ rb at_ < 1 then (false, at_, b) else if kd = 0 then pAr rb bl (256 * p) (rb at_) (at_ + 1) 0 b else pRs rb bl (256 * p) (2 * rb at_) (at_ + 1) false 0 b
def pAll (rb : Nat → Nat) (bl : Nat) : Nat → Nat → Nat → (Nat → Bool) → PR
  | 0, at_, _, b => (true, at_, b)
  | n + 1, at_, bf, b => if at_ < bl then (if 16 ≤ rb at_ / 4 ∨ rb at_ % 4 = 3 ∨ rb at_ / 4 < bf then (false, at_, b) else if (pPc rb bl (rb at_ / 4) (rb at_ % 4) (at_ + 1) b).1 = false then pPc rb bl (rb at_ / 4) (rb at_ % 4) (at_ + 1) b else if pkd (pPc rb bl (rb at_ / 4) (rb at_ % 4) (at_ + 1) b).2.2 (rb at_ / 4) = nI (rb at_ % 4) then pAll rb bl n (pPc rb bl (rb at_ / 4) (rb at_ % 4) (at_ + 1) b).2.1 (rb at_ / 4 + 1) (pPc rb bl (rb at_ / 4) (rb at_ % 4) (at_ + 1) b).2.2 else (false, at_, (pPc rb bl (rb at_ / 4) (rb at_ % 4) (at_ + 1) b).2.2)) else (true, at_, b)
theorem pAr_s (rb : Nat → Nat) (bl base n at_ l : Nat) (b : Nat → Bool) : pAr rb bl base (n + 1) at_ l b = if bl ≤ at_ ∨ rb at_ < l then (false, at_, b) else pAr rb bl base n (at_ + 1) (rb at_ + 1) (fun x => b x || decide (x = base + rb at_)) := rfl
theorem pRs_s (rb : Nat → Nat) (bl base n at_ : Nat) (s : Bool) (l : Nat) (b : Nat → Bool) : pRs rb bl base (n + 1) at_ s l b = if bl ≤ at_ ∨ rb at_ < l then (false, at_, b) else if s = true then pRs rb bl base n (at_ + 1) false (rb at_ + 2) (fun x => b x || decide (base + rb (at_ - 1) ≤ x ∧ x ≤ base + rb at_)) else pRs rb bl base n (at_ + 1) true (rb at_) b := rfl
theorem pBm_s (rb : Nat → Nat) (bl n at_ B : Nat) (b : Nat → Bool) : pBm rb bl (n + 1) at_ B b = if bl ≤ at_ then (false, at_, b) else pBm rb bl n (at_ + 1) (B + 8) (bset b B (rb at_) 8) := rfl
theorem pAll_s (rb : Nat → Nat) (bl n at_ bf : Nat) (b : Nat → Bool) : pAll rb bl (n + 1) at_ bf b = if at_ < bl then (if 16 ≤ rb at_ / 4 ∨ rb at_ % 4 = 3 ∨ rb at_ / 4 < bf then (false, at_, b) else if (pPc rb bl (rb at_ / 4) (rb at_ % 4) (at_ + 1) b).1 = false then pPc rb bl (rb at_ / 4) (rb at_ % 4) (at_ + 1) b else if pkd (pPc rb bl (rb at_ / 4) (rb at_ % 4) (at_ + 1) b).2.2 (rb at_ / 4) = nI (rb at_ % 4) then pAll rb bl n (pPc rb bl (rb at_ / 4) (rb at_ % 4) (at_ + 1) b).2.1 (rb at_ / 4 + 1) (pPc rb bl (rb at_ / 4) (rb at_ % 4) (at_ + 1) b).2.2 else (false, at_, (pPc rb bl (rb at_ / 4) (rb at_ % 4) (at_ + 1) b).2.2)) else (true, at_, b) := rfl
/-- the index stays in the buffer, or just behind it -/
theorem pAr_at (rb : Nat → Nat) (bl base : Nat) : ∀ (n at_ l : Nat) (b : Nat → Bool), at_ ≤ bl → (pAr rb bl base n at_ l b).2.1 ≤ bl
  | 0, at_, l, b, h => h
  | n + 1, at_, l, b, h => by
    rw [pAr_s]
    by_cases c : bl ≤ at_ ∨ rb at_ < l
    · rw [if_pos c]; exact h
    · rw [if_neg c]; exact pAr_at rb bl base n _ _ _ (by omega)
theorem pRs_at (rb : Nat → Nat) (bl base : Nat) : ∀ (n at_ : Nat) (s : Bool) (l : Nat) (b : Nat → Bool), at_ ≤ bl → (pRs rb bl base n at_ s l b).2.1 ≤ bl
  | 0, at_, s, l, b, h => h
  | n + 1, at_, s, l, b, h => by
    rw [pRs_s]
    by_cases c : bl ≤ at_ ∨ rb at_ < l
    · rw [if_pos c]; exact h
    · rw [if_neg c]
      by_cases hs : s = true
      · rw [if_pos hs]; exact pRs_at rb bl base n _ _ _ _ (by omega)
      · rw [if_neg hs]; exact pRs_at rb bl base n _ _ _ _ (by omega)
theorem pBm_at (rb : Nat → Nat) (bl : Nat) : ∀ (n at_ B : Nat) (b : Nat → Bool), at_ ≤ bl → (pBm rb bl n at_ B b).2.1 ≤ bl
  | 0, at_, B, b, h => h
  | n + 1, at_, B, b, h => by
    rw [pBm_s]
    by_cases c : bl ≤ at_
    · rw [if_pos c]; exact h
    · rw [if_neg c]; exact pBm_at rb bl n _ _ _ (by omega)
theorem pPc_at (rb : Nat → Nat) (bl p kd at_ : Nat) (b : Nat → Bool) (h : at_ ≤ bl) : (pPc rb bl p kd at_ b).2.1 ≤ bl := by
  unfold pPc
  by_cases h1 : kd = 2
  · rw [if_pos h1]; exact pBm_at _ _ _ _ _ _ h
  · rw [if_neg h1]
    by_cases h2 : bl ≤ at_ ∨ rb at_ < 1
    · rw [if_pos h2]; exact h
    · rw [if_neg h2]
      by_cases h3 : kd = 0
      · rw [if_pos h3]; exact pAr_at _ _ _ _ _ _ _ (by omega)
      · rw [if_neg h3]; exact pRs_at _ _ _ _ _ _ _ _ (by omega)
theorem inr_n {a b q : Nat} (ha : a < 2 ^ 31) (hb : b < 2 ^ 31) (hq : q < 2 ^ 31) : inr (nI a) (nI b) q = decide (a ≤ q ∧ q ≤ b) := by
  unfold inr
  exact decide_eq_decide.mpr (by rw [nI_leI ha hq, nI_leI hq hb])
theorem shr_bit {v j : Nat} (hv : v < 256) (hj : j < 8) : shrI (nI v) (nI j) &&& nI 1 = b2i (v.testBit j) := by
  have key : ∀ v, v < 256 → ∀ j, j < 8 → v / 2 ^ j % 2 = (v.testBit j).toNat := by decide +kernel
  have h2 : v / 2 ^ j < 2 ^ 31 := Nat.lt_of_le_of_lt (Nat.div_le_self _ _) (by omega)
  rw [nI_shr (by omega) (by omega), fa_mask (v / 2 ^ j) 1, show 2 ^ 1 = 2 from rfl, key v hv j hj]
  cases v.testBit j <;> rfl
def PRes (R : PR) (r : Int32) (u : Nat → Int64) : Prop := (R.1 = true → r = nI R.2.1 ∧ ∀ x, x < 4096 → bitL u x = R.2.2 x) ∧ (R.1 = false → r = (-1) - nI R.2.1)
theorem PRes_e {R : PR} {a : Nat} {b : Nat → Bool} {r : Int32} {u : Nat → Int64} (h : R = (false, a, b)) (hr : r = (-1) - nI a) : PRes R r u := by
  subst h
  exact ⟨fun z => absurd z Bool.false_ne_true, fun _ => hr⟩
theorem PRes_t {R : PR} {a : Nat} {b : Nat → Bool} {r : Int32} {u : Nat → Int64} (h : R = (true, a, b)) (hr : r = nI a) (hu : ∀ x, x < 4096 → bitL u x = b x) : PRes R r u := by
  subst h
  exact ⟨fun _ => ⟨hr, hu⟩, fun z => absurd z.symm Bool.false_ne_true⟩
/-- an object of Buffer with its row of bytes, of which bl are in use -/
def Buf (D : va_G) (T : Nat → ClassId) (H : Heap) (o r : Nat) (rb : Nat → Nat) (bl : Nat) : Prop := va_at D vwCl (o, .inr (0, [.ref r, .int (nI bl)])) H ∧ va_at D vwCl (r, eI T 200 (fun i => nI (rb i))) H
theorem Buf.keep {D : va_G} {T : Nat → ClassId} {H H1 : Heap} {o r : Nat} {rb : Nat → Nat} {bl : Nat} {o' w' : Nat} {g : Nat → Int64} (h : Buf D T H o r rb bl) (hN : Num D T H o' w' g) (hF : Fr (fun q => q = w') H H1) : Buf D T H1 o r rb bl :=
  ⟨hF.at h.1 (ne_oJ (q := (RX0, TX0, 2)) rfl (by decide) h.1 hN.2), hF.at h.2 (ne_IJ (by decide) h.2 hN.2)⟩
theorem Buf.fr {D : va_G} {T : Nat → ClassId} {H H1 : Heap} {o r : Nat} {rb : Nat → Nat} {bl : Nat} {A : Nat → Prop} (h : Buf D T H o r rb bl) (hF : Fr A H H1) (h1 : ¬ A o) (h2 : ¬ A r) : Buf D T H1 o r rb bl := ⟨hF.at h.1 h1, hF.at h.2 h2⟩
theorem bset_0 (b : Nat → Bool) (B v x : Nat) : bset b B v 0 x = b x := by
  unfold bset
  rw [decide_eq_false (by omega), Bool.false_and, Bool.or_false]
theorem bset_s1 (b : Nat → Bool) (B v j x : Nat) (h : v.testBit j = true) : bset b B v (j + 1) x = (bset b B v j x || decide (x = B + j)) := by
  unfold bset
  rw [Bool.or_assoc]
  congr 1
  by_cases h1 : x = B + j
  · subst h1
    rw [decide_eq_true (show B ≤ B + j ∧ B + j < B + (j + 1) by omega), decide_eq_true rfl, Nat.add_sub_cancel_left, h, Bool.or_true]; rfl
  · rw [show decide (B ≤ x ∧ x < B + (j + 1)) = decide (B ≤ x ∧ x < B + j) from decide_eq_decide.mpr (by omega), decide_eq_false h1, Bool.or_false]
theorem bset_s0 (b : Nat → Bool) (B v j x : Nat) (h : v.testBit j = false) : bset b B v (j + 1) x = bset b B v j x := by
  unfold bset
  congr 1
  by_cases h1 : x = B + j
  · subst h1
    rw [Nat.add_sub_cancel_left, h, Bool.and_false, Bool.and_false]
  · rw [show decide (B ≤ x ∧ x < B + (j + 1)) = decide (B ≤ x ∧ x < B + j) from decide_eq_decide.mpr (by omega)]
def apR (rb : Nat → Nat) (bl v : Nat) : Nat → Nat := if bl < 200 then fun i => if i = bl then v else rb i else rb
def apL (bl : Nat) : Nat := if bl < 200 then bl + 1 else bl
theorem PRes_pos {R : PR} {r : Int32} {u : Nat → Int64} (h : PRes R r u) (hb : R.2.1 ≤ 200) (h0 : 0 ≤ r) : R.1 = true ∧ r = nI R.2.1 ∧ ∀ x, x < 4096 → bitL u x = R.2.2 x := by
  cases hR : R.1 with
  | true => exact ⟨rfl, h.1 hR⟩
  | false =>
    have e := h.2 hR
    rw [e, Int32.le_iff_toInt_le, Int32.toInt_sub, nI_toInt (by omega), show (-1 : Int32).toInt = -1 by decide, Int.bmod_eq_of_le (by omega) (by omega), Int32.toInt_zero] at h0
    omega
theorem PRes_neg {R : PR} {r : Int32} {u : Nat → Int64} (h : PRes R r u) (hb : R.2.1 ≤ 200) (h0 : ¬ 0 ≤ r) : R.1 = false ∧ (-1) - r = nI R.2.1 := by
  cases hR : R.1 with
  | true =>
    rw [(h.1 hR).1] at h0
    exact absurd (nI_pos' (by omega)) h0
  | false =>
    refine ⟨rfl, ?_⟩
    rw [h.2 hR]
    grind
theorem pr_cong {b c : Nat → Bool} {p : Nat} (h : ∀ x, 256 * p ≤ x → x < 256 * p + 256 → b x = c x) : pr b p = pr c p := ct_cong (fun x h1 h2 => by
  unfold rsG
  rw [h x h1 (by omega)]
  congr 1
  by_cases e : x = 256 * p
  · rw [decide_eq_true e]; rfl
  · rw [decide_eq_false e, h (x - 1) (by omega) (by omega)])
theorem pn_cong {b c : Nat → Bool} {p : Nat} (h : ∀ x, 256 * p ≤ x → x < 256 * p + 256 → b x = c x) : pn b p = pn c p := ct_cong h
theorem pkd_cong {b c : Nat → Bool} {p : Nat} (h : ∀ x, 256 * p ≤ x → x < 256 * p + 256 → b x = c x) : pkd b p = pkd c p := by
  unfold pkd
  rw [pn_cong h, pr_cong h]
def bfI (k : Nat) : Int32 := if k = 0 then -1 else nI (k - 1)
theorem bfI_lt {k p : Nat} (hk : k < 1000) (hp : p < 1000) : bfI k < nI p ↔ k ≤ p := by
  unfold bfI
  by_cases h : k = 0
  · subst h
    rw [if_pos rfl, Int32.lt_iff_toInt_lt, nI_toInt (by omega), show (-1 : Int32).toInt = -1 by decide]
    omega
  · rw [if_neg h, nI_ltI (by omega) (by omega)]
    omega
def PAllR (R : PR) (r : Int32) (u : Nat → Int64) : Prop := (R.1 = true → r = -9 ∧ ∀ x, x < 4096 → bitL u x = R.2.2 x) ∧ (R.1 = false → r = nI R.2.1)
theorem PAll_e {R : PR} {a : Nat} {b : Nat → Bool} {r : Int32} {u : Nat → Int64} (h : R = (false, a, b)) (hr : r = nI a) : PAllR R r u := by
  subst h
  exact ⟨fun z => absurd z Bool.false_ne_true, fun _ => hr⟩
theorem PAll_f {R : PR} {r : Int32} {u : Nat → Int64} (h : R.1 = false) (hr : r = nI R.2.1) : PAllR R r u := ⟨fun z => absurd (h.symm.trans z) Bool.false_ne_true, fun _ => hr⟩
theorem PAll_t {R : PR} {a : Nat} {b : Nat → Bool} {u : Nat → Int64} (h : R = (true, a, b)) (hu : ∀ x, x < 4096 → bitL u x = b x) : PAllR R (-9) u := by
  subst h
  exact ⟨fun _ => ⟨rfl, hu⟩, fun z => absurd z.symm Bool.false_ne_true⟩
