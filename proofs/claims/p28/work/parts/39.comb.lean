/-! how many numbers combined, changed, moved and scattered sets have; what is counted; what is undone -/
theorem fb_ct_two {p q r : Nat → Bool} (h : ∀ x, (if r x = true then 1 else 0) = (if p x = true then 1 else 0) + (if q x = true then 1 else 0)) : ∀ n, fb_ct r n = fb_ct p n + fb_ct q n
  | 0 => rfl
  | n + 1 => by
    have ih := fb_ct_two h n
    have hx := h n
    rw [fb_ct_succ, fb_ct_succ, fb_ct_succ, ih, hx]
    omega
theorem jct_or (a b : Nat → Bool) : jct 1 a b = jct 0 a b + jct 2 a b := fb_ct_two (fun x => by
  show (if jb 1 (a (0 + x)) (b (0 + x)) = true then 1 else 0) = (if jb 0 (a (0 + x)) (b (0 + x)) = true then 1 else 0) + (if jb 2 (a (0 + x)) (b (0 + x)) = true then 1 else 0)
  cases a (0 + x) <;> cases b (0 + x) <;> rfl) 4096
theorem jct_un (a b : Nat → Bool) : ct a 0 4096 = jct 0 a b + jct 3 a b := fb_ct_two (fun x => by
  show (if a (0 + x) = true then 1 else 0) = (if jb 0 (a (0 + x)) (b (0 + x)) = true then 1 else 0) + (if jb 3 (a (0 + x)) (b (0 + x)) = true then 1 else 0)
  cases a (0 + x) <;> cases b (0 + x) <;> rfl) 4096
/-- two sets that are the same -/
theorem jct0_same {a b : Nat → Bool} (h : Eq4 a b) : jct 0 a b = ct b 0 4096 := ct_cong (fun x _ hx => by rw [h x (by omega)]; cases b x <;> rfl)
theorem jct1_same {a b : Nat → Bool} (h : Eq4 a b) : jct 1 a b = ct b 0 4096 := ct_cong (fun x _ hx => by rw [h x (by omega)]; cases b x <;> rfl)
theorem jb2_same {a b : Nat → Bool} (h : Eq4 a b) : Eq4 (fun z => jb 2 (a z) (b z)) (fun _ => false) := fun x hx => by
  show jb 2 (a x) (b x) = false
  rw [h x hx]; cases b x <;> rfl
theorem jct2_same {a b : Nat → Bool} (h : Eq4 a b) : jct 2 a b = 0 := ct_false (fun x _ hx => jb2_same h x (by omega))
theorem smP_same {a b : Nat → Bool} (h : Eq4 a b) : smP a b = 16 := fb_ct_all.mpr (fun k hk => decide_eq_true (ct_false (fun x _ hx => jb2_same h x (by omega))))
theorem nth_same {a b : Nat → Bool} (h : Eq4 a b) : nthA (fun z => jb 2 (a z) (b z)) (nI 0) = -9 := nth_out (n := 0) (by
  have := jct2_same h
  unfold jct at this
  omega) (by decide)
theorem alk_same (n : Nat) (u : Int32) : alkV n n u = 1 := by
  unfold alkV
  rw [Nat.gcd_self]
  by_cases h : n = 0
  · rw [if_pos h]
  · rw [if_neg h]
    have e : (if u = 0 then n else n) / n = 1 := by rw [ite_self]; exact Nat.div_self (by omega)
    rw [e]; rfl
/-- kinds that met -/
def siF (m : Nat → Int32) : Nat → Int32
  | 0 => 0
  | n + 1 => siF m n + m n
theorem siF_s (m : Nat → Int32) (n : Nat) : siF m (n + 1) = siF m n + m n := rfl
theorem siF_upd {m : Nat → Int32} {i : Nat} (v : Int32) : ∀ n, siF (upd m i (m i + v)) n = siF m n + (if i < n then v else 0)
  | 0 => by rw [if_neg (Nat.not_lt_zero _)]; show (0 : Int32) = 0 + 0; rw [Int32.add_zero]
  | n + 1 => by
    rw [siF_s, siF_upd v n, siF_s]
    unfold upd
    by_cases h : n = i
    · subst h
      rw [if_pos rfl, if_neg (Nat.lt_irrefl _), if_pos (Nat.lt_succ_self _), Int32.add_zero, Int32.add_assoc]
    · rw [if_neg h]
      by_cases h2 : i < n
      · rw [if_pos h2, if_pos (by omega), Int32.add_assoc, Int32.add_assoc, Int32.add_comm v]
      · rw [if_neg h2, if_neg (by omega), Int32.add_zero, Int32.add_zero]
def prC (a b : Nat → Bool) (n : Nat) : Nat := fb_ct (fun k => decide (pn a k ≠ 0 ∧ pn b k ≠ 0)) n
theorem mt_sum (a b : Nat → Bool) (m : Nat → Int32) : ∀ n, siF (mtF a b n m) 9 = siF m 9 + nI (prC a b n)
  | 0 => by show siF m 9 = siF m 9 + nI 0; rw [show nI 0 = 0 from rfl, Int32.add_zero]
  | n + 1 => by
    have ih := mt_sum a b m n
    have h1 := kk_lt a n
    have h2 := kk_lt b n
    unfold prC at ih ⊢
    simp only [mtF]
    rw [fb_ct_succ]
    by_cases h : pn a n ≠ 0 ∧ pn b n ≠ 0
    · rw [if_pos h, if_pos (decide_eq_true h), siF_upd, if_pos (by omega), ih, Int32.add_assoc, nI_add]
    · rw [if_neg h, if_neg (by rw [decide_eq_false h]; exact Bool.false_ne_true), Nat.add_zero, ih]
theorem met_diff (x : Int32) (y : Int32) : x - (x + y) = -y := by
  apply Int32.toBitVec_inj.mp
  rw [Int32.toBitVec_sub, Int32.toBitVec_add, Int32.toBitVec_neg]
  generalize x.toBitVec = u
  generalize y.toBitVec = v
  rw [BitVec.sub_eq_add_neg, BitVec.neg_add, BitVec.sub_eq_add_neg (-u) v, ← BitVec.add_assoc, ← BitVec.sub_eq_add_neg u u, BitVec.sub_self, BitVec.zero_add]
/-- scattered numbers -/
def scI : Nat → Int32 → Nat → Bool
  | 0, _, _ => false
  | n + 1, x, z => decide (z = ixN (nxI x)) || scI n (nxI x) z
theorem scF_eq : ∀ (n : Nat) (x : Int32) (b : Nat → Bool) (z : Nat), scF n x b z = (b z || scI n x z)
  | 0, _, b, z => (Bool.or_false _).symm
  | n + 1, x, b, z => by
    rw [scF_s, scF_eq n (nxI x) _ z]
    show ((b z || decide (z = ixN (nxI x))) || scI n (nxI x) z) = (b z || (decide (z = ixN (nxI x)) || scI n (nxI x) z))
    rw [Bool.or_assoc]
theorem sca_twice (n : Nat) (x : Int32) (b : Nat → Bool) : ct (scF n x (scF n x b)) 0 4096 = ct (scF n x b) 0 4096 := ct_cong (fun z _ _ => by
  rw [scF_eq, scF_eq, Bool.or_assoc, Bool.or_self])
theorem sca_ge (n : Nat) (x : Int32) (b : Nat → Bool) : ct b 0 4096 ≤ ct (scF n x b) 0 4096 := fb_ct_sub (fun k _ h => by
  show scF n x b (0 + k) = true
  rw [scF_eq]
  have h' : b (0 + k) = true := h
  rw [h']; rfl)
theorem ct_one (b : Nat → Bool) (i n : Nat) : fb_ct (fun z => b z || decide (z = i)) n ≤ fb_ct b n + 1 := by
  have h : fb_ct (fun z => decide (z = i)) n ≤ 1 := by
    induction n with
    | zero => exact Nat.zero_le _
    | succ n ih =>
      rw [fb_ct_succ]
      by_cases z : n = i
      · subst z
        have h0 : fb_ct (fun z => decide (z = n)) n = 0 := fb_ct_zero.mpr (fun k hk => decide_eq_false (by omega))
        rw [h0]
        split <;> omega
      · rw [if_neg (by rw [decide_eq_false z]; exact Bool.false_ne_true)]
        omega
  have key : ∀ n, fb_ct (fun z => b z || decide (z = i)) n ≤ fb_ct b n + fb_ct (fun z => decide (z = i)) n := by
    intro n
    induction n with
    | zero => exact Nat.le_refl _
    | succ n ih =>
      rw [fb_ct_succ, fb_ct_succ, fb_ct_succ]
      cases b n <;> cases decide (n = i) <;> simp <;> omega
  have := key n
  omega
theorem sca_le : ∀ (n : Nat) (x : Int32) (b : Nat → Bool), ct (scF n x b) 0 4096 ≤ ct b 0 4096 + n
  | 0, x, b => by
    show ct b 0 4096 ≤ ct b 0 4096 + 0
    rw [Nat.add_zero]
    exact Nat.le_refl (ct b 0 4096)
  | n + 1, x, b => by
    have h1 := sca_le n (nxI x) (fun z => b z || decide (z = ixN (nxI x)))
    have h2 := ct_one b (ixN (nxI x)) 4096
    rw [← ct0, ← ct0] at h2
    rw [scF_s]
    omega
/-- numbers moved -/
theorem mv_dn (b : Nat → Bool) {u : Nat} {y : Int} (hu : u ≤ 4096) (hy : y = -(u : Int)) : ct b 0 4096 = ct (mvb b y) 0 4096 + ct b 0 u := by
  rw [mvb_ct b y 4096 (Nat.le_refl _), show 4096 = u + (4096 - u) by omega, ct_add, ct_add, Nat.zero_add]
  rw [ct_false (p := fun z => b z && _) (a := 0) (fun x _ hx => by rw [decide_eq_false (by omega), Bool.and_false])]
  rw [ct_cong (p := fun z => b z && _) (q := b) (a := u) (fun x h1 h2 => by rw [decide_eq_true (by omega), Bool.and_true])]
  omega
theorem mv_up (b : Nat → Bool) {u : Nat} {y : Int} (hu : u ≤ 4096) (hy : y = (u : Int)) : ct (mvb b y) 0 4096 = ct b 0 (4096 - u) := by
  rw [mvb_ct b y 4096 (Nat.le_refl _)]
  rw [show ct (fun z => b z && decide (0 ≤ (z : Int) + y ∧ (z : Int) + y < ((4096 : Nat) : Int))) 0 4096 = ct (fun z => b z && decide (0 ≤ (z : Int) + y ∧ (z : Int) + y < ((4096 : Nat) : Int))) 0 ((4096 - u) + u) by rw [show 4096 - u + u = 4096 by omega], ct_add, Nat.zero_add]
  rw [ct_false (p := fun z => b z && _) (a := 4096 - u) (fun x h1 h2 => by rw [decide_eq_false (by omega), Bool.and_false])]
  rw [ct_cong (p := fun z => b z && _) (q := b) (a := 0) (fun x h1 h2 => by rw [decide_eq_true (by omega), Bool.and_true]), Nat.add_zero]
/-- numbers turned twice -/
theorem flp_in {b : Nat → Bool} {f t : Nat} (h : f ≤ t) : ct (flpB b f t) f (t - f + 1) = t - f + 1 - ct b f (t - f + 1) := by
  rw [← ct_not]
  exact ct_cong (fun x h1 h2 => by unfold flpB; rw [rg_in (by omega) (by omega), Bool.xor_true])
theorem flp_two (b : Nat → Bool) (f t x : Nat) : flpB (flpB b f t) f t x = b x := by
  unfold flpB
  rw [Bool.xor_assoc, Bool.xor_self, Bool.xor_false]
/-- what is undone -/
theorem fin_eq {p q : FS} (h : p.1 = q.1) : finR p = finR q := by unfold finR; rw [h]
theorem kpt_pos (k : Nat) : kpt k ≠ 0 := by have := (kpt_lt (k := k)).2.1; omega
theorem push_top (h : Nat → AS) (k : Nat) (a : AS) : pushH h k a (kpt k - 1) = a := by
  unfold pushH kpt
  by_cases z : k < 5
  · rw [if_pos z, if_pos z, Nat.add_sub_cancel, if_pos rfl]
  · rw [if_neg z, if_neg z, if_pos rfl]
theorem und_1 {p : FS} {a : AS} {rb : Nat → Nat} {bl : Nat} : undN (a, pushH p.2.1 p.2.2.1 p.1, kpt p.2.2.1, rb, bl) = (p.1, pushH p.2.1 p.2.2.1 p.1, kpt p.2.2.1 - 1, rb, bl) := by
  unfold undN
  show (if kpt p.2.2.1 = 0 then _ else (pushH p.2.1 p.2.2.1 p.1 (kpt p.2.2.1 - 1), pushH p.2.1 p.2.2.1 p.1, kpt p.2.2.1 - 1, rb, bl)) = _
  rw [if_neg (kpt_pos _), push_top]
theorem kpt_2 (k : Nat) : 2 ≤ kpt (kpt k) := by
  by_cases h : k < 5
  · rw [show kpt k = k + 1 from if_pos h]
    by_cases h2 : k + 1 < 5
    · rw [show kpt (k + 1) = k + 1 + 1 from if_pos h2]; omega
    · rw [show kpt (k + 1) = 5 from if_neg h2]; omega
  · rw [show kpt k = 5 from if_neg h]; decide
theorem und_2 {p : FS} {s s' : Nat} {b b' : Nat → Bool} : (undN (undN (actF (actF p s b) s' b'))).1 = p.1 ∧ (undN (undN (actF (actF p s b) s' b'))).2.2.2 = p.2.2.2 ∧ undR (actF (actF p s b) s' b') = nI (kpt (kpt p.2.2.1) - 1) ∧ undR (undN (actF (actF p s b) s' b')) = nI (kpt (kpt p.2.2.1) - 1 - 1) := by
  have e1 : undN (actF (actF p s b) s' b') = ((actF p s b).1, pushH (actF p s b).2.1 (actF p s b).2.2.1 (actF p s b).1, kpt (actF p s b).2.2.1 - 1, (actF p s b).2.2.2.1, (actF p s b).2.2.2.2) := und_1
  have hk : kpt (kpt p.2.2.1) - 1 ≠ 0 := by
    have := kpt_2 p.2.2.1
    omega
  have e2 : kpt (actF p s b).2.2.1 = kpt (kpt p.2.2.1) := rfl
  refine ⟨?_, ?_, ?_, ?_⟩
  · rw [e1]
    unfold undN
    show (if kpt (kpt p.2.2.1) - 1 = 0 then _ else (pushH (pushH p.2.1 p.2.2.1 p.1) (kpt p.2.2.1) (actF p s b).1 (kpt (kpt p.2.2.1) - 1 - 1), _, _, _, _)).1 = p.1
    rw [if_neg hk]
    show pushH (pushH p.2.1 p.2.2.1 p.1) (kpt p.2.2.1) (actF p s b).1 (kpt (kpt p.2.2.1) - 1 - 1) = p.1
    by_cases h4 : kpt p.2.2.1 < 5
    · have hk5 : p.2.2.1 < 4 := by unfold kpt at h4; split at h4 <;> omega
      have q1 : kpt p.2.2.1 = p.2.2.1 + 1 := if_pos (by omega)
      have q2 : kpt (kpt p.2.2.1) = p.2.2.1 + 2 := by rw [q1]; exact if_pos (by omega)
      rw [q2]
      unfold pushH
      rw [if_pos h4, q1, if_neg (by omega), if_pos (by omega), if_pos (by omega)]
    · have q1 : kpt p.2.2.1 = 5 := by have := kpt_lt (k := p.2.2.1); omega
      have q2 : kpt (kpt p.2.2.1) = 5 := by rw [q1]; rfl
      rw [q2, q1]
      unfold pushH
      rw [if_neg (by omega), if_neg (by omega)]
      show (if p.2.2.1 < 5 then (if 4 = p.2.2.1 then p.1 else _) else (if 4 = 4 then p.1 else _)) = p.1
      by_cases h5 : p.2.2.1 < 5
      · rw [if_pos h5, if_pos (by unfold kpt at q1; rw [if_pos h5] at q1; omega)]
      · rw [if_neg h5, if_pos rfl]
  · rw [e1]
    unfold undN
    rw [if_neg (show ¬ ((actF p s b).1, pushH (actF p s b).2.1 (actF p s b).2.2.1 (actF p s b).1, kpt (actF p s b).2.2.1 - 1, (actF p s b).2.2.2.1, (actF p s b).2.2.2.2).2.2.1 = 0 from hk)]
    rfl
  · unfold undR
    rw [if_neg (show ¬ (actF (actF p s b) s' b').2.2.1 = 0 from kpt_pos _)]
    rfl
  · rw [e1]
    unfold undR
    rw [if_neg (show ¬ ((actF p s b).1, pushH (actF p s b).2.1 (actF p s b).2.2.1 (actF p s b).1, kpt (actF p s b).2.2.1 - 1, (actF p s b).2.2.2.1, (actF p s b).2.2.2.2).2.2.1 = 0 from hk)]
    rfl
