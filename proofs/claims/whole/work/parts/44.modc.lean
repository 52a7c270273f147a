/-! the model reads bytes, tells bytes, compares -/
/-- bits of the row that is read into -/
def bB (f : Nat → Int32) (x : Nat) : Bool := bt (f (x / 32)) (x % 32)
theorem bB_put {f : Nat → Int32} {x : Nat} (y : Nat) : bB (upd f (x / 32) (f (x / 32) ||| shlI (nI 1) (nI (x % 32)))) y = (bB f y || decide (y = x)) := by
  unfold bB upd
  by_cases h : y / 32 = x / 32
  · rw [if_pos h, b_or, bt_sh (by omega) (by omega), ← h]
    congr 1
    exact decide_eq_decide.mpr (by omega)
  · rw [if_neg h, decide_eq_false (fun z => h (by rw [z])), Bool.or_false]
def nxt (rb : Nat → Nat) (bm a : Nat) : Int32 := if a < bm then nI (rb a) else -9
theorem nxt_lt {rb : Nat → Nat} (hrb : ∀ i, rb i < 256) {bm a k : Nat} (hk : k < 2 ^ 31) : nxt rb bm a < nI k ↔ (bm ≤ a ∨ rb a < k) := by
  have h := hrb a
  unfold nxt
  by_cases c : a < bm
  · rw [if_pos c, nI_ltI (by omega) hk]
    omega
  · rw [if_neg c, Int32.lt_iff_toInt_lt, nI_toInt hk, show (-9 : Int32).toInt = -9 by decide]
    omega
theorem nxt_lt0 {rb : Nat → Nat} (hrb : ∀ i, rb i < 256) {bm a : Nat} : nxt rb bm a < 0 ↔ bm ≤ a := by
  have h := nxt_lt hrb (bm := bm) (a := a) (k := 0) (by decide)
  rw [nI_0] at h
  rw [h]
  omega
theorem nxt_n {rb : Nat → Nat} {bm a : Nat} (h : ¬ bm ≤ a) : nxt rb bm a = nI (rb a) := if_pos (by omega)
/-- the place before, as the model has it -/
def lsI (q l : Nat) : Int32 := nI l - nI q
theorem ls_add (q l : Nat) : lsI q l + nI q = nI l := by unfold lsI; exact Int32.sub_add_cancel _ _
theorem ls_n {q l : Nat} : nI l = lsI q (l + q) := by
  unfold lsI
  rw [pk_sub (by omega), Nat.add_sub_cancel]
/-- how a read of places ended -/
def PMod (R : PR) (r : Bool) (g : Nat → Int32) (a : Nat) : Prop := r = R.1 ∧ a = R.2.1 ∧ (R.1 = true → ∀ x, x < 4096 → bB g x = R.2.2 x)
theorem PMod_e {R : PR} {g : Nat → Int32} {a : Nat} {b : Nat → Bool} (h : R = (false, a, b)) : PMod R false g a := by
  subst h
  exact ⟨rfl, rfl, fun z => absurd z Bool.false_ne_true⟩
theorem PMod_t {R : PR} {g : Nat → Int32} {a : Nat} {b : Nat → Bool} (h : R = (true, a, b)) (hg : ∀ x, x < 4096 → bB g x = b x) : PMod R true g a := by
  subst h
  exact ⟨rfl, rfl, fun _ => hg⟩
theorem pPc_b (rb : Nat → Nat) (bl p at_ : Nat) (b : Nat → Bool) : pPc rb bl p 2 at_ b = pBm rb bl 32 at_ (256 * p) b := if_pos rfl
theorem pPc_e {rb : Nat → Nat} {bl p kd at_ : Nat} {b : Nat → Bool} (hk : kd ≠ 2) (h : bl ≤ at_ ∨ rb at_ < 1) : pPc rb bl p kd at_ b = (false, at_, b) := by
  unfold pPc
  rw [if_neg hk, if_pos h]
theorem pPc_a {rb : Nat → Nat} {bl p at_ : Nat} {b : Nat → Bool} (h : ¬ (bl ≤ at_ ∨ rb at_ < 1)) : pPc rb bl p 0 at_ b = pAr rb bl (256 * p) (rb at_) (at_ + 1) 0 b := by
  unfold pPc
  rw [if_neg (by decide), if_neg h, if_pos rfl]
theorem pPc_r {rb : Nat → Nat} {bl p at_ : Nat} {b : Nat → Bool} (h : ¬ (bl ≤ at_ ∨ rb at_ < 1)) : pPc rb bl p 1 at_ b = pRs rb bl (256 * p) (2 * rb at_) (at_ + 1) false 0 b := by
  unfold pPc
  rw [if_neg (by decide), if_neg h, if_neg (by decide)]
theorem pAr_0 (rb : Nat → Nat) (bl base at_ l : Nat) (b : Nat → Bool) : pAr rb bl base 0 at_ l b = (true, at_, b) := rfl
theorem pRs_0 (rb : Nat → Nat) (bl base at_ l : Nat) (s : Bool) (b : Nat → Bool) : pRs rb bl base 0 at_ s l b = (true, at_, b) := rfl
theorem pBm_0 (rb : Nat → Nat) (bl at_ B : Nat) (b : Nat → Bool) : pBm rb bl 0 at_ B b = (true, at_, b) := rfl
/-- a run of numbers, put one by one -/
def rnB (b : Nat → Bool) (a n : Nat) : Nat → Bool := fun x => b x || decide (a ≤ x ∧ x < a + n)
theorem rnB_0 (b : Nat → Bool) (a x : Nat) : rnB b a 0 x = b x := by
  unfold rnB
  rw [decide_eq_false (by omega), Bool.or_false]
theorem rnB_s (b : Nat → Bool) (a n x : Nat) : rnB b a (n + 1) x = (rnB b a n x || decide (x = a + n)) := by
  unfold rnB
  rw [Bool.or_assoc]
  congr 1
  rw [← Bool.decide_or]
  exact decide_eq_decide.mpr (by omega)
theorem rnB_1 (b : Nat → Bool) (a x : Nat) : rnB b a 1 x = (b x || decide (x = a)) := by rw [rnB_s, rnB_0, Nat.add_zero]
theorem rnB_r (b : Nat → Bool) {a c n : Nat} (h : a + n = c + 1) (x : Nat) : rnB b a n x = (b x || decide (a ≤ x ∧ x ≤ c)) := by
  unfold rnB
  congr 1
  exact decide_eq_decide.mpr (by omega)
/-- whether the number before, in its piece, is in -/
def wsB (b : Nat → Bool) (a i : Nat) : Bool := decide (0 < i) && b (a + i - 1)
theorem wsB_s (b : Nat → Bool) (a i : Nat) : wsB b a (i + 1) = b (a + i) := by
  unfold wsB
  rw [decide_eq_true (Nat.succ_pos i), Bool.true_and]
  rfl
theorem rsG_w {b : Nat → Bool} {a i : Nat} : rsG b a (a + i) = (b (a + i) && !wsB b a i) := by
  unfold rsG wsB
  by_cases h : i = 0
  · subst h
    rw [decide_eq_true (show a + 0 = a by omega), decide_eq_false (by omega)]
    rfl
  · rw [decide_eq_false (show ¬ a + i = a by omega), decide_eq_true (show 0 < i by omega), Bool.true_and, Bool.false_or]
theorem kdI (k : Nat) (h : k < 3) : k = 0 ∨ k = 1 ∨ k = 2 := by omega
/-- how the whole read ended -/
def PAllM (R : PR) (r : Int32) (g : Nat → Int32) : Prop := (R.1 = true → r = -1 ∧ ∀ x, x < 4096 → bB g x = R.2.2 x) ∧ (R.1 = false → r = nI R.2.1)
theorem PAllM_e {R : PR} {a : Nat} {b : Nat → Bool} {r : Int32} {g : Nat → Int32} (h : R = (false, a, b)) (hr : r = nI a) : PAllM R r g := by
  subst h
  exact ⟨fun z => absurd z Bool.false_ne_true, fun _ => hr⟩
theorem PAllM_f {R : PR} {r : Int32} {g : Nat → Int32} (h : R.1 = false) (hr : r = nI R.2.1) : PAllM R r g := ⟨fun z => absurd (h.symm.trans z) Bool.false_ne_true, fun _ => hr⟩
theorem PAllM_t {R : PR} {a : Nat} {b : Nat → Bool} {g : Nat → Int32} (h : R = (true, a, b)) (hu : ∀ x, x < 4096 → bB g x = b x) : PAllM R (-1) g := by
  subst h
  exact ⟨fun _ => ⟨rfl, hu⟩, fun z => absurd z.symm Bool.false_ne_true⟩
theorem PAllM_neg {R : PR} {r : Int32} {g : Nat → Int32} (h : PAllM R r g) (hb : R.2.1 ≤ 200) (hr : r < 0) : R.1 = true := by
  cases hR : R.1 with
  | true => rfl
  | false =>
    rw [h.2 hR] at hr
    exact absurd hr (nI_pos (by omega))
theorem PAllM_pos {R : PR} {r : Int32} {g : Nat → Int32} (h : PAllM R r g) (hr : ¬ r < 0) : R.1 = false := by
  cases hR : R.1 with
  | false => rfl
  | true =>
    rw [(h.1 hR).1] at hr
    exact absurd (show (-1 : Int32) < 0 by decide) hr
theorem zero_bB (x : Nat) : bB (fun _ => nI 0) x = false := b_0 _
/-- the row that was read is a set's -/
theorem read_w {v bi : Nat → Int32} {s : Nat} {b : Nat → Bool} (hs : s < 6) (hb : ∀ x, x < 4096 → bB bi x = b x) : ∀ t', t' < 6 → ∀ y, y < 4096 → bI (cpF v (128 * s) bi 128) t' y = if t' = s then b y else bI v t' y := fun t' ht y hy => by
  by_cases e : t' = s
  · rw [if_pos e, ← hb y hy]
    unfold bI bB
    rw [cpF_i (by omega), show 128 * t' + y / 32 - 128 * s = y / 32 by omega]
  · rw [if_neg e]
    unfold bI
    rw [cpF_o (by omega)]
/-- a byte of a bitmap, bit by bit -/
def bySum (c : Nat → Bool) (n : Nat) : Nat := fb_sm (fun i => if c i = true then 2 ^ i else 0) n
theorem bySum_0 (c : Nat → Bool) : bySum c 0 = 0 := rfl
theorem bySum_t {c : Nat → Bool} {n : Nat} (hn : n < 8) (h : c n = true) : nI (bySum c n) ||| shlI (nI 1) (nI n) = nI (bySum c (n + 1)) := b_ext (fun i hi => by
  rw [b_or, bt_nI hi, bt_nI hi, bt_sh (by omega) hi]
  unfold bySum
  rw [(bits_sum c n).2 i, (bits_sum c (n + 1)).2 i]
  by_cases e : i = n
  · rw [decide_eq_true e, Bool.or_true, decide_eq_true (by omega), e, h]
    rfl
  · rw [decide_eq_false e, Bool.or_false, show decide (i < n) = decide (i < n + 1) from decide_eq_decide.mpr (by omega)])
theorem bySum_f {c : Nat → Bool} {n : Nat} (h : c n = false) : nI (bySum c n) ||| nI 0 = nI (bySum c (n + 1)) := by
  have e : bySum c (n + 1) = bySum c n + (if c n = true then 2 ^ n else 0) := rfl
  rw [e, h, if_neg Bool.false_ne_true, Nat.add_zero]
  exact b_ext (fun i hi => by
    rw [b_or, show bt (nI 0) i = false from b_0 i, Bool.or_false])
theorem bySum_N (b : Nat → Bool) (a : Nat) : bySum (fun i => b (a + i)) 8 = byN b a := rfl
theorem wb_0 (b : Nat → Bool) (p : Nat) : wb b p 0 = nI (4 * p) + pkd b p := if_pos rfl
theorem wb_b {b : Nat → Bool} {p k : Nat} (h0 : ¬ k = 0) (h : pkd b p = nI 2) : wb b p k = nI (byN b (256 * p + 8 * (k - 1))) := by
  unfold wb
  rw [if_neg h0, if_pos h]
theorem wb_1a {b : Nat → Bool} {p k : Nat} (h0 : ¬ k = 0) (h : pkd b p = nI 0) (h1 : k = 1) : wb b p k = nI (pn b p) := by
  unfold wb
  rw [if_neg h0, if_neg (by rw [h]; decide), if_pos h1, if_pos h]
theorem wb_1r {b : Nat → Bool} {p k : Nat} (h0 : ¬ k = 0) (h : pkd b p = nI 1) (h1 : k = 1) : wb b p k = nI (pr b p) := by
  unfold wb
  rw [if_neg h0, if_neg (by rw [h]; decide), if_pos h1, if_neg (by rw [h]; decide)]
theorem wb_a {b : Nat → Bool} {p k : Nat} (h0 : ¬ k = 0) (h : pkd b p = nI 0) (h1 : ¬ k = 1) : wb b p k = nthF (pcb b p) 256 0 (k - 2) := by
  unfold wb
  rw [if_neg h0, if_neg (by rw [h]; decide), if_neg h1, if_pos h]
  rfl
theorem wb_r {b : Nat → Bool} {p k : Nat} (h0 : ¬ k = 0) (h : pkd b p = nI 1) (h1 : ¬ k = 1) : wb b p k = brF (pcb b p) 256 0 (k - 2) := by
  unfold wb
  rw [if_neg h0, if_neg (by rw [h]; decide), if_neg h1, if_neg (by rw [h]; decide)]
  rfl
theorem pkd_cases {b : Nat → Bool} {p k : Nat} (h : k < pcst b p) : (pkd b p = nI 0 ∧ pcst b p = 2 + pn b p) ∨ (pkd b p = nI 1 ∧ pcst b p = 2 + 2 * pr b p) ∨ (pkd b p = nI 2 ∧ pcst b p = 33) := by
  rcases kd_inv (pn b p) (pr b p) with ⟨h1, h2⟩ | ⟨h1, h2, h3⟩ | ⟨h1, h2, h3⟩ | ⟨h1, h2, h3⟩
  · have : pcst b p = 0 := if_pos h1
    omega
  · exact Or.inl ⟨h3, cst_0 h3⟩
  · exact Or.inr (Or.inl ⟨h3, cst_1 h3⟩)
  · exact Or.inr (Or.inr ⟨h3, cst_2 h3⟩)
/-- a comparison -/
abbrev Jb (o : Nat) (a b : Nat → Bool) : Nat → Bool := fun z => jb o (a z) (b z)
def cmM (a b : Nat → Bool) (q : Int32) : Int32 := if q = nI 0 then nI (jct 0 a b) else if q = nI 1 then nI (jct 2 a b) else if q = nI 2 then (if jct 3 a b = 0 then 1 else 0) else if q = nI 3 then nI (smP a b) else nthA (Jb 2 a b) (nI 0)
theorem cmM_V (a b : Nat → Bool) {q : Int32} (h : nI 0 ≤ q ∧ q ≤ nI 4) : cmM a b q = cmpV a b q := by
  unfold cmM cmpV
  by_cases h0 : q = nI 0
  · rw [if_pos h0, if_pos h0]
  · rw [if_neg h0, if_neg h0]
    by_cases h1 : q = nI 1
    · rw [if_pos h1, if_pos h1]
    · rw [if_neg h1, if_neg h1]
      by_cases h2 : q = nI 2
      · rw [if_pos h2, if_pos h2]
      · rw [if_neg h2, if_neg h2]
        by_cases h3 : q = nI 3
        · rw [if_pos h3, if_pos h3]
        · rw [if_neg h3, if_neg h3, if_pos]
          obtain ⟨j, hj, rfl⟩ := okX (N := 5) (by decide) ((in_set (n := 4) (by decide) q).mp h)
          rcases (show j = 0 ∨ j = 1 ∨ j = 2 ∨ j = 3 ∨ j = 4 by omega) with rfl | rfl | rfl | rfl | rfl
          · exact absurd rfl h0
          · exact absurd rfl h1
          · exact absurd rfl h2
          · exact absurd rfl h3
          · rfl
theorem cmpV_out (a b : Nat → Bool) {q : Int32} (h : ¬ (nI 0 ≤ q ∧ q ≤ nI 4)) : cmpV a b q = -1 := by
  unfold cmpV
  rw [if_neg (fun z => h (by rw [z]; decide)), if_neg (fun z => h (by rw [z]; decide)), if_neg (fun z => h (by rw [z]; decide)), if_neg (fun z => h (by rw [z]; decide)), if_neg (fun z => h (by rw [z]; decide))]
theorem cmM_cong {a b c e : Nat → Bool} (h1 : Eq4 a b) (h2 : Eq4 c e) (q : Int32) : cmM a c q = cmM b e q := by
  unfold cmM
  rw [jct_cong h1 h2, jct_cong h1 h2, jct_cong h1 h2, smP_cong h1 h2, nthA_cong (jb_cong h1 h2)]
theorem J1 {J : Nat → Bool} {n : Nat} (h : J n = true) : ct J 0 (n + 1) = ct J 0 n + 1 := by rw [ct_end, Nat.zero_add, if_pos h]
theorem J0 {J : Nat → Bool} {n : Nat} (h : J n = false) : ct J 0 (n + 1) = ct J 0 n := by rw [ct_end, Nat.zero_add, h, if_neg Bool.false_ne_true, Nat.add_zero]
theorem ls_first {J : Nat → Bool} {n : Nat} (h : J n = true) (hc : ct J 0 n = 0) : nthF J (n + 1) 0 0 = nI n := by
  rw [nthF_add, if_neg (by omega), hc, Nat.zero_add, nthF_s, if_pos h, if_pos rfl]
theorem ls_more {J : Nat → Bool} {n : Nat} (hc : ¬ ct J 0 n = 0) : nthF J (n + 1) 0 0 = nthF J n 0 0 := by
  rw [nthF_add, if_pos (by omega)]
theorem nthF_none {J : Nat → Bool} : ∀ (n x i : Nat), ct J x n ≤ i → nthF J n x i = -9
  | 0, _, _, _ => rfl
  | n + 1, x, i, h => by
    rw [ct_1] at h
    rw [nthF_s]
    by_cases c : J x = true
    · rw [if_pos c] at h
      rw [if_pos c, if_neg (by omega)]
      exact nthF_none n (x + 1) (i - 1) (by omega)
    · rw [if_neg c] at h
      rw [if_neg c]
      exact nthF_none n (x + 1) i (by omega)
theorem ls_none {J : Nat → Bool} {n : Nat} (h : J n = false) : nthF J (n + 1) 0 0 = nthF J n 0 0 := by
  by_cases c : ct J 0 n = 0
  · rw [nthF_none (n + 1) 0 0 (by rw [J0 h]; omega), nthF_none n 0 0 (by omega)]
  · exact ls_more c
theorem sm_step (J : Nat → Bool) (p : Nat) : ct J 0 (256 * p + 256) = ct J 0 (256 * p) ↔ ct J (256 * p) 256 = 0 := by
  rw [ct_add, Nat.zero_add]
  omega
theorem all_both (a b : Nat → Bool) : jct 0 a b + jct 2 a b = jct 1 a b := by
  have key : ∀ n, ct (Jb 0 a b) 0 n + ct (Jb 2 a b) 0 n = ct (Jb 1 a b) 0 n := fun n => by
    induction n with
    | zero => rfl
    | succ n ih =>
      rw [ct_end, ct_end, ct_end]
      have e0 : Jb 0 a b (0 + n) = (a (0 + n) && b (0 + n)) := rfl
      have e2 : Jb 2 a b (0 + n) = (a (0 + n) ^^ b (0 + n)) := rfl
      have e1 : Jb 1 a b (0 + n) = (a (0 + n) || b (0 + n)) := rfl
      rw [e0, e1, e2]
      cases a (0 + n) <;> cases b (0 + n) <;> simp <;> omega
  exact key 4096
theorem nxt_ge {rb : Nat → Nat} (hrb : ∀ i, rb i < 256) {bm a : Nat} (h : 0 ≤ nxt rb bm a) : ¬ bm ≤ a := fun z => Int32.not_lt.mpr h ((nxt_lt0 hrb).mpr z)
theorem nxt_nge {rb : Nat → Nat} (hrb : ∀ i, rb i < 256) {bm a : Nat} (h : ¬ 0 ≤ nxt rb bm a) : bm ≤ a := (nxt_lt0 hrb).mp (Int32.not_le.mp h)
theorem nxt_i {rb : Nat → Nat} (hrb : ∀ i, rb i < 256) {bm a k : Nat} (hk : k < 2 ^ 31) (h : nI k ≤ nxt rb bm a) : ¬ (bm ≤ a ∨ rb a < k) := fun z => Int32.not_lt.mpr h ((nxt_lt hrb hk).mpr z)
theorem nxt_ni {rb : Nat → Nat} (hrb : ∀ i, rb i < 256) {bm a k : Nat} (hk : k < 2 ^ 31) (h : ¬ nI k ≤ nxt rb bm a) : bm ≤ a ∨ rb a < k := (nxt_lt hrb hk).mp (Int32.not_le.mp h)
def PMo (R : PR) (r : Int32) (g : Nat → Int32) (a : Nat) : Prop := r = b2i R.1 ∧ a = R.2.1 ∧ (R.1 = true → ∀ x, x < 4096 → bB g x = R.2.2 x)
theorem PMo_e {R : PR} {g : Nat → Int32} {a : Nat} {b : Nat → Bool} (h : R = (false, a, b)) : PMo R (nI 0) g a := by
  subst h
  exact ⟨rfl, rfl, fun z => absurd z Bool.false_ne_true⟩
theorem PMo_t {R : PR} {g : Nat → Int32} {a : Nat} {b : Nat → Bool} (h : R = (true, a, b)) (hg : ∀ x, x < 4096 → bB g x = b x) : PMo R (nI 1) g a := by
  subst h
  exact ⟨rfl, rfl, fun _ => hg⟩
theorem sm_1 {J : Nat → Bool} {p n : Nat} (hn : n = 256 * p + 256) (h : ct J 0 n = ct J 0 (256 * p)) : fb_ct (fun k => decide (ct J (256 * k) 256 = 0)) (p + 1) = fb_ct (fun k => decide (ct J (256 * k) 256 = 0)) p + 1 := by
  subst hn
  have e : fb_ct (fun k => decide (ct J (256 * k) 256 = 0)) (p + 1) = fb_ct (fun k => decide (ct J (256 * k) 256 = 0)) p + (if decide (ct J (256 * p) 256 = 0) = true then 1 else 0) := rfl
  rw [e, if_pos (decide_eq_true ((sm_step J p).mp h))]
theorem sm_0 {J : Nat → Bool} {p n : Nat} (hn : n = 256 * p + 256) (h : ¬ ct J 0 n = ct J 0 (256 * p)) : fb_ct (fun k => decide (ct J (256 * k) 256 = 0)) (p + 1) = fb_ct (fun k => decide (ct J (256 * k) 256 = 0)) p := by
  subst hn
  have e : fb_ct (fun k => decide (ct J (256 * k) 256 = 0)) (p + 1) = fb_ct (fun k => decide (ct J (256 * k) 256 = 0)) p + (if decide (ct J (256 * p) 256 = 0) = true then 1 else 0) := rfl
  rw [e, if_neg (by rw [decide_eq_false (fun z => h ((sm_step J p).mpr z))]; exact Bool.false_ne_true), Nat.add_zero]
theorem cmM_4 (J : Nat → Bool) : nthA J (nI 0) = nthF J 4096 0 0 := by
  unfold nthA
  rw [if_neg (by decide), show (nI 0).toNatClampNeg = 0 by decide]
