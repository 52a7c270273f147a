/-! the model's acts: what is converted, what is kept, what a range becomes -/
section MOQ
variable {D : va_G} {T : Nat → ClassId} {H H1 : Heap} {M : Nat → Nat} {v as pa : Nat → Int32} {pk : Nat} {bu : Nat → Int32} {bm : Nat} {bi : Nat → Int32} {at0 : Nat} {f g : Nat → Int32}
theorem MO.eqa (h : MO D T H M v as pa pk bu bm bi at0) (e : ∀ j, j < 790 → as j = g j) : MO D T H M v g pa pk bu bm bi at0 := ⟨h.1, h.2.1, h.2.2.1, at_congI h.2.2.2.1 e, h.2.2.2.2⟩
theorem MO.eqp (h : MO D T H M v as pa pk bu bm bi at0) (e : ∀ j, j < 3950 → pa j = g j) : MO D T H M v as g pk bu bm bi at0 := ⟨h.1, h.2.1, h.2.2.1, h.2.2.2.1, at_congI h.2.2.2.2.1 e, h.2.2.2.2.2⟩
theorem MO.equ (h : MO D T H M v as pa pk bu bm bi at0) (e : ∀ j, j < 200 → bu j = g j) : MO D T H M v as pa pk g bm bi at0 := ⟨h.1, h.2.1, h.2.2.1, h.2.2.2.1, h.2.2.2.2.1, at_congI h.2.2.2.2.2.1 e, h.2.2.2.2.2.2⟩
end MOQ
theorem b2i_inj {a b : Bool} : b2i a = b2i b ↔ a = b := by cases a <;> cases b <;> decide
theorem pkd_neg {b : Nat → Bool} {p : Nat} (h : pkd b p < 0) : pn b p = 0 := by
  by_cases e : pn b p = 0
  · exact e
  · rw [pkd_n e] at h
    exact absurd h (nI_pos (by have := kk_lt b p; omega))
theorem pkd_pos {b : Nat → Bool} {p : Nat} (h : ¬ pkd b p < 0) : pn b p ≠ 0 := fun e => h (by
  unfold pkd
  rw [kd_0 e]
  decide)
theorem bI_low {f g : Nat → Int32} (h : ∀ j, j < 768 → f j = g j) {s : Nat} (hs : s < 6) : Eq4 (bI f s) (bI g s) := fun x hx => by
  unfold bI
  rw [h _ (by omega)]
/-- the counts of conversions of set s, after n pieces -/
def cvU (as v : Nat → Int32) (s n : Nat) : Nat → Int32 := fun j => if 777 ≤ j then cvF (bI as s) (bI v s) n (fun j => v (777 + j)) (j - 777) else v j
theorem cvU_low {as v : Nat → Int32} {s n j : Nat} (h : j < 777) : cvU as v s n j = v j := if_neg (by omega)
theorem cvU_0 {as v : Nat → Int32} {s : Nat} (j : Nat) : v j = cvU as v s 0 j := by
  unfold cvU
  by_cases h : 777 ≤ j
  · rw [if_pos h]
    show v j = v (777 + (j - 777))
    rw [show 777 + (j - 777) = j by omega]
  · rw [if_neg h]
theorem bI_cvU {as v : Nat → Int32} {s n t : Nat} (ht : t < 6) : Eq4 (bI (cvU as v s n) t) (bI v t) := bI_low (fun j hj => cvU_low (by omega)) ht
theorem cvU_s0 {as v : Nat → Int32} {s n : Nat} (h : ¬ (pn (bI as s) n ≠ 0 ∧ pn (bI v s) n ≠ 0 ∧ kk (bI as s) n ≠ kk (bI v s) n)) (j : Nat) : cvU as v s n j = cvU as v s (n + 1) j := by
  unfold cvU
  by_cases c : 777 ≤ j
  · rw [if_pos c, if_pos c]
    simp only [cvF]
    rw [if_neg h]
  · rw [if_neg c, if_neg c]
theorem cvU_s1 {as v : Nat → Int32} {s n : Nat} (h : pn (bI as s) n ≠ 0 ∧ pn (bI v s) n ≠ 0 ∧ kk (bI as s) n ≠ kk (bI v s) n) (j : Nat) : upd (cvU as v s n) (777 + 3 * kk (bI as s) n + kk (bI v s) n) (cvU as v s n (777 + 3 * kk (bI as s) n + kk (bI v s) n) + nI 1) j = cvU as v s (n + 1) j := by
  have e0 : cvF (bI as s) (bI v s) (n + 1) (fun j => v (777 + j)) = upd (cvF (bI as s) (bI v s) n (fun j => v (777 + j))) (3 * kk (bI as s) n + kk (bI v s) n) (cvF (bI as s) (bI v s) n (fun j => v (777 + j)) (3 * kk (bI as s) n + kk (bI v s) n) + nI 1) := if_pos h
  unfold upd
  by_cases e : j = 777 + 3 * kk (bI as s) n + kk (bI v s) n
  · rw [if_pos e]
    unfold cvU
    rw [if_pos (by omega), if_pos (by omega), e0, e]
    unfold upd
    rw [show 777 + 3 * kk (bI as s) n + kk (bI v s) n - 777 = 3 * kk (bI as s) n + kk (bI v s) n by omega, if_pos rfl]
  · rw [if_neg e]
    unfold cvU
    by_cases c : 777 ≤ j
    · rw [if_pos c, if_pos c, e0]
      unfold upd
      rw [if_neg (by omega)]
    · rw [if_neg c, if_neg c]
/-- the counts of meetings of sets s and t, after n pieces -/
def mtU (v : Nat → Int32) (s t n : Nat) : Nat → Int32 := fun j => if 768 ≤ j ∧ j < 777 then mtF (bI v s) (bI v t) n (fun j => v (768 + j)) (j - 768) else v j
theorem mtU_out {v : Nat → Int32} {s t n j : Nat} (h : ¬ (768 ≤ j ∧ j < 777)) : mtU v s t n j = v j := if_neg h
theorem mtU_0 {v : Nat → Int32} {s t : Nat} (j : Nat) : v j = mtU v s t 0 j := by
  unfold mtU
  by_cases h : 768 ≤ j ∧ j < 777
  · rw [if_pos h]
    show v j = v (768 + (j - 768))
    rw [show 768 + (j - 768) = j by omega]
  · rw [if_neg h]
theorem mtU_s0 {v : Nat → Int32} {s t n : Nat} (h : ¬ (pn (bI v s) n ≠ 0 ∧ pn (bI v t) n ≠ 0)) (j : Nat) : mtU v s t n j = mtU v s t (n + 1) j := by
  unfold mtU
  by_cases c : 768 ≤ j ∧ j < 777
  · rw [if_pos c, if_pos c]
    simp only [mtF]
    rw [if_neg h]
  · rw [if_neg c, if_neg c]
theorem mtU_s1 {v : Nat → Int32} {s t n : Nat} (h : pn (bI v s) n ≠ 0 ∧ pn (bI v t) n ≠ 0) (j : Nat) : upd (mtU v s t n) (768 + 3 * kk (bI v s) n + kk (bI v t) n) (mtU v s t n (768 + 3 * kk (bI v s) n + kk (bI v t) n) + nI 1) j = mtU v s t (n + 1) j := by
  have e0 : mtF (bI v s) (bI v t) (n + 1) (fun j => v (768 + j)) = upd (mtF (bI v s) (bI v t) n (fun j => v (768 + j))) (3 * kk (bI v s) n + kk (bI v t) n) (mtF (bI v s) (bI v t) n (fun j => v (768 + j)) (3 * kk (bI v s) n + kk (bI v t) n) + nI 1) := if_pos h
  have l1 := kk_lt (bI v s) n
  have l2 := kk_lt (bI v t) n
  unfold upd
  by_cases e : j = 768 + 3 * kk (bI v s) n + kk (bI v t) n
  · rw [if_pos e]
    unfold mtU
    rw [if_pos (by omega), if_pos (by omega), e0, e]
    unfold upd
    rw [show 768 + 3 * kk (bI v s) n + kk (bI v t) n - 768 = 3 * kk (bI v s) n + kk (bI v t) n by omega, if_pos rfl]
  · rw [if_neg e]
    unfold mtU
    by_cases c : 768 ≤ j ∧ j < 777
    · rw [if_pos c, if_pos c, e0]
      unfold upd
      rw [if_neg (by omega)]
    · rw [if_neg c, if_neg c]
/-- what is kept of the past -/
def shF (pa : Nat → Int32) (n : Nat) : Nat → Int32 := fun j => if j < n then pa (j + 790) else pa j
def cpF (b : Nat → Int32) (o : Nat) (v : Nat → Int32) (n : Nat) : Nat → Int32 := fun j => if o ≤ j ∧ j < o + n then v (j - o) else b j
def acF (v pa : Nat → Int32) (k : Nat) : Nat → Int32 := cpF (if k < 5 then pa else shF pa 3160) (790 * (kpt k - 1)) v 790
theorem shF_0 (pa : Nat → Int32) (j : Nat) : pa j = shF pa 0 j := (if_neg (Nat.not_lt_zero _)).symm
theorem shF_s (pa : Nat → Int32) (i j : Nat) : upd (shF pa i) i (shF pa i (i + 790)) j = shF pa (i + 1) j := by
  unfold upd shF
  by_cases e : j = i
  · rw [if_pos e, if_neg (by omega), if_pos (by omega), e]
  · rw [if_neg e]
    by_cases c : j < i
    · rw [if_pos c, if_pos (by omega)]
    · rw [if_neg c, if_neg (by omega)]
theorem cpF_0 (b : Nat → Int32) (o : Nat) (v : Nat → Int32) (j : Nat) : b j = cpF b o v 0 j := (if_neg (by omega)).symm
theorem cpF_s (b : Nat → Int32) (o : Nat) (v : Nat → Int32) (i j : Nat) : upd (cpF b o v i) (o + i) (v i) j = cpF b o v (i + 1) j := by
  unfold upd cpF
  by_cases e : j = o + i
  · rw [if_pos e, if_pos (by omega), e, Nat.add_sub_cancel_left]
  · rw [if_neg e]
    by_cases c : o ≤ j ∧ j < o + i
    · rw [if_pos c, if_pos (by omega)]
    · rw [if_neg c, if_neg (by omega)]
theorem cpF_o {b : Nat → Int32} {o : Nat} {v : Nat → Int32} {i j : Nat} (h : ¬ (o ≤ j ∧ j < o + i)) : cpF b o v i j = b j := if_neg h
theorem cpF_i {b : Nat → Int32} {o : Nat} {v : Nat → Int32} {i j : Nat} (h : o ≤ j ∧ j < o + i) : cpF b o v i j = v (j - o) := if_pos h
theorem MRp.cong {f g : Nat → Int32} {a : AS} (h : MRp f a) (e : ∀ j, j < 790 → g j = f j) : MRp g a :=
  ⟨fun s hs x hx => (bI_low (fun j hj => e j (by omega)) hs x hx).trans (h.1 s hs x hx), fun j hj => (e _ (by omega)).trans (h.2.1 j hj), fun j hj => (e _ (by omega)).trans (h.2.2 j hj)⟩
theorem MRp_push {v pa : Nat → Int32} {a : AS} {h : Nat → AS} {k : Nat} (hk : k ≤ 5) (h0 : MRp v a) (hh : ∀ i, i < k → MRp (fun j => pa (790 * i + j)) (h i)) (i : Nat) (hi : i < kpt k) : MRp (fun j => acF v pa k (790 * i + j)) (pushH h k a i) := by
  unfold pushH
  by_cases h5 : k < 5
  · have e : kpt k = k + 1 := if_pos h5
    rw [e] at hi
    rw [if_pos h5]
    by_cases hik : i = k
    · rw [if_pos hik]
      refine h0.cong (fun j hj => ?_)
      unfold acF
      rw [e, cpF_i (by omega)]
      congr 1
      omega
    · rw [if_neg hik]
      refine (hh i (by omega)).cong (fun j hj => ?_)
      unfold acF
      rw [e, cpF_o (by omega), if_pos h5]
  · have e : kpt k = 5 := if_neg h5
    rw [e] at hi
    rw [if_neg h5]
    by_cases hik : i = 4
    · rw [if_pos hik]
      refine h0.cong (fun j hj => ?_)
      unfold acF
      rw [e, cpF_i (by omega)]
      rw [show 790 * i + j - 790 * (5 - 1) = j by omega]
    · rw [if_neg hik]
      refine (hh (i + 1) (by omega)).cong (fun j hj => ?_)
      unfold acF
      rw [e, cpF_o (by omega), if_neg h5]
      unfold shF
      rw [if_pos (by omega)]
      congr 1
      omega
theorem kpt_5 {k : Nat} : kpt k ≤ 5 := kpt_lt.2.2
theorem kpt_a {k : Nat} (h : k < 5) : kpt k = k + 1 := if_pos h
theorem kpt_b {k : Nat} (h : ¬ k < 5) : kpt k = 5 := if_neg h
/-- behind an act -/
theorem MRp_act {v w : Nat → Int32} {a : AS} {s : Nat} {b : Nat → Bool} {me' : Nat → Int32} (hs : s < 6) (h : MRp v a) (hw : ∀ t, t < 6 → ∀ y, y < 4096 → bI w t y = if t = s then b y else bI v t y) (hme : ∀ j, j < 9 → w (768 + j) = me' j) (hco : ∀ j, j < 9 → w (777 + j) = v (777 + j)) : MRp (cvU v w s 16) (va_up a.1 s b, me', cvF (a.1 s) b 16 a.2.2) :=
  ⟨fun t ht y hy => by
    rw [bI_cvU ht y hy, hw t ht y hy]
    by_cases e : t = s
    · rw [if_pos e]
      exact (congrFun (show va_up a.1 s b t = b from if_pos e) y).symm
    · rw [if_neg e, h.1 t ht y hy]
      exact (congrFun (show va_up a.1 s b t = a.1 t from if_neg e) y).symm,
  fun j hj => (cvU_low (by omega)).trans (hme j hj),
  fun j hj => by
    unfold cvU
    rw [if_pos (by omega), Nat.add_sub_cancel_left]
    exact cvF_cong (h.1 s hs) (fun y hy => (hw s hs y hy).trans (if_pos rfl)) (fun j hj => (hco j hj).trans (h.2.2 j hj)) 16 (Nat.le_refl _) j hj⟩
/-- a range, number by number -/
def tbv (how : Nat) (b : Bool) : Bool := if how = 2 then !b else decide (how = 1)
def tnB (how : Nat) (b : Nat → Bool) (f t : Nat) : Nat → Bool := if how = 2 then flpB b f t else if how = 1 then addB b f t else remB b f t
theorem tnB_at {how : Nat} {b : Nat → Bool} {f t y : Nat} : tnB how b f t y = if f ≤ y ∧ y ≤ t then tbv how (b y) else b y := by
  unfold tnB tbv
  by_cases h : f ≤ y ∧ y ≤ t
  · rw [if_pos h]
    have e : rg f t y = true := decide_eq_true h
    by_cases h2 : how = 2
    · rw [if_pos h2, if_pos h2]; unfold flpB; rw [e, Bool.xor_true]
    · rw [if_neg h2, if_neg h2]
      by_cases h1 : how = 1
      · rw [if_pos h1, decide_eq_true h1]; unfold addB; rw [e, Bool.or_true]
      · rw [if_neg h1, decide_eq_false h1]; unfold remB; rw [e]; exact Bool.and_false _
  · rw [if_neg h]
    have e : rg f t y = false := decide_eq_false h
    by_cases h2 : how = 2
    · rw [if_pos h2]; unfold flpB; rw [e, Bool.xor_false]
    · rw [if_neg h2]
      by_cases h1 : how = 1
      · rw [if_pos h1]; unfold addB; rw [e, Bool.or_false]
      · rw [if_neg h1]; unfold remB; rw [e]; exact Bool.and_true _
theorem turn_s {v w u : Nat → Int32} {ss f x how : Nat} {b : Bool} (hv9 : ∀ t', t' < 6 → ∀ y, y < 4096 → bI w t' y = if t' = ss ∧ f ≤ y ∧ y < x then tbv how (bI v ss y) else bI v t' y) (hu : ∀ t y, y < 4096 → bI u t y = if t = ss ∧ y = x then b else bI w t y) (hfx : f ≤ x) (hb : b = tbv how (bI v ss x)) : ∀ t', t' < 6 → ∀ y, y < 4096 → bI u t' y = if t' = ss ∧ f ≤ y ∧ y < x + 1 then tbv how (bI v ss y) else bI v t' y := fun t' ht y hy => by
  rw [hu t' y hy]
  by_cases e : t' = ss ∧ y = x
  · rw [if_pos e, if_pos ⟨e.1, by omega, by omega⟩, hb, e.2]
  · rw [if_neg e, hv9 t' ht y hy]
    by_cases e2 : t' = ss ∧ f ≤ y ∧ y < x
    · rw [if_pos e2, if_pos ⟨e2.1, e2.2.1, by omega⟩]
    · rw [if_neg e2, if_neg (fun z => by
        rcases (show y = x ∨ y < x by omega) with h | h
        · exact e ⟨z.1, h⟩
        · exact e2 ⟨z.1, z.2.1, h⟩)]
theorem turn_e {v w : Nat → Int32} {ss f t x how : Nat} {b : Nat → Bool} (hv9 : ∀ t', t' < 6 → ∀ y, y < 4096 → bI w t' y = if t' = ss ∧ f ≤ y ∧ y < x then tbv how (bI v ss y) else bI v t' y) (hx : x = t + 1) (hs : ss < 6) (hb : Eq4 (bI v ss) b) : ∀ t', t' < 6 → ∀ y, y < 4096 → bI w t' y = if t' = ss then tnB how b f t y else bI v t' y := fun t' ht y hy => by
  rw [hv9 t' ht y hy]
  by_cases e : t' = ss
  · rw [if_pos e, tnB_at, ← hb y hy]
    by_cases e2 : f ≤ y ∧ y ≤ t
    · rw [if_pos e2, if_pos ⟨e, by omega, by omega⟩]
    · rw [if_neg e2, if_neg (fun z => e2 ⟨z.2.1, by omega⟩), e]
  · rw [if_neg e, if_neg (fun z => e z.1)]
theorem ct_end2 (b : Nat → Bool) {f x : Nat} (h : f ≤ x) : ct b f (x + 1 - f) = ct b f (x - f) + (if b x = true then 1 else 0) := by
  rw [show x + 1 - f = (x - f) + 1 by omega, ct_end, show f + (x - f) = x by omega]
