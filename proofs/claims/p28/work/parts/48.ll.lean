/-! the law's own numbers: what its calls answer -/
section LL
variable {p : FS} {a f t : Nat}
theorem okR_n (hft : f ≤ t) (ht : t < 4096) : okR (nI f) (nI t) := ⟨nI_pos (by omega), (nI_ltI (by omega) (by decide)).mpr (by omega), nI_pos (by omega), (nI_ltI (by omega) (by decide)).mpr ht, (nI_leI (by omega) (by omega)).mpr hft⟩
theorem o_rank1 (b : Nat → Bool) (hf : f < 4096) : ctr b (nI 0) (nI f - nI 1) = ct b 0 f := by
  by_cases h : f = 0
  · subst h
    rw [ct_0]
    exact ctr_neg b (by decide)
  · rw [pk_sub (by omega), ctr_n b (by omega), show f - 1 + 1 = f by omega]
theorem rank_diff (b : Nat → Bool) (hft : f ≤ t) : ct b 0 (t + 1) = ct b 0 f + ct b f (t - f + 1) := by
  rw [show t + 1 = f + (t - f + 1) by omega, ct_add, Nat.zero_add]
theorem o_add (h : a < 6) (hft : f ≤ t) (ht : t < 4096) : addR p (nI a) (nI f) (nI t) = nI (t - f + 1 - ct (p.1.1 a) f (t - f + 1)) := by
  unfold addR
  rw [if_pos ⟨okN h (by decide), okR_n hft ht⟩, cl_n (by omega), cl_n (by omega), cl_n (by omega)]
theorem o_rem (h : a < 6) (hft : f ≤ t) (ht : t < 4096) : remR p (nI a) (nI f) (nI t) = nI (ct (p.1.1 a) f (t - f + 1)) := by
  unfold remR
  rw [if_pos ⟨okN h (by decide), okR_n hft ht⟩, cl_n (by omega), cl_n (by omega), cl_n (by omega)]
theorem o_addN (h : a < 6) (hft : f ≤ t) (ht : t < 4096) : addN p (nI a) (nI f) (nI t) = actF p a (addB (p.1.1 a) f t) := by
  unfold addN
  rw [if_pos ⟨okN h (by decide), okR_n hft ht⟩, cl_n (by omega), cl_n (by omega), cl_n (by omega)]
theorem o_remN (h : a < 6) (hft : f ≤ t) (ht : t < 4096) : remN p (nI a) (nI f) (nI t) = actF p a (remB (p.1.1 a) f t) := by
  unfold remN
  rw [if_pos ⟨okN h (by decide), okR_n hft ht⟩, cl_n (by omega), cl_n (by omega), cl_n (by omega)]
theorem o_flpN (h : a < 6) (hft : f ≤ t) (ht : t < 4096) : flpN p (nI a) (nI f) (nI t) = actF p a (flpB (p.1.1 a) f t) := by
  unfold flpN
  rw [if_pos ⟨okN h (by decide), okR_n hft ht⟩, cl_n (by omega), cl_n (by omega), cl_n (by omega)]
theorem act_set (p : FS) (a : Nat) (b : Nat → Bool) : (actF p a b).1.1 a = b := if_pos rfl
theorem act_len (p : FS) (a : Nat) (b : Nat → Bool) : (actF p a b).2.2.2.2 = p.2.2.2.2 := rfl
/-- add -/
theorem add_step (h : a < 6) (hft : f ≤ t) (ht : t < 4096) : ct ((addN p (nI a) (nI f) (nI t)).1.1 a) 0 4096 = ct (p.1.1 a) 0 4096 + (t - f + 1 - ct (p.1.1 a) f (t - f + 1)) ∧ (addN p (nI a) (nI f) (nI t)).2.2.2.2 = p.2.2.2.2 := by
  rw [o_addN h hft ht, act_set]
  exact ⟨cnt_add hft ht (fun _ _ => rfl), rfl⟩
theorem rem_step (h : a < 6) (hft : f ≤ t) (ht : t < 4096) : ct (p.1.1 a) 0 4096 = ct ((remN p (nI a) (nI f) (nI t)).1.1 a) 0 4096 + ct (p.1.1 a) f (t - f + 1) ∧ (remN p (nI a) (nI f) (nI t)).2.2.2.2 = p.2.2.2.2 := by
  rw [o_remN h hft ht, act_set]
  exact ⟨cnt_rem hft ht (fun _ _ => rfl), rfl⟩
/-- flip, and flip again -/
theorem flp_step (h : a < 6) (hft : f ≤ t) (ht : t < 4096) : addR (flpN p (nI a) (nI f) (nI t)) (nI a) (nI f) (nI t) = nI (ct (p.1.1 a) f (t - f + 1)) ∧ ct ((flpN (flpN p (nI a) (nI f) (nI t)) (nI a) (nI f) (nI t)).1.1 a) 0 4096 = ct (p.1.1 a) 0 4096 ∧ undR (flpN (flpN p (nI a) (nI f) (nI t)) (nI a) (nI f) (nI t)) = nI (kpt (kpt p.2.2.1) - 1) ∧ undR (undN (flpN (flpN p (nI a) (nI f) (nI t)) (nI a) (nI f) (nI t))) = nI (kpt (kpt p.2.2.1) - 1 - 1) ∧ (undN (undN (flpN (flpN p (nI a) (nI f) (nI t)) (nI a) (nI f) (nI t)))).1 = p.1 ∧ (flpN (undN (undN (flpN (flpN p (nI a) (nI f) (nI t)) (nI a) (nI f) (nI t)))) (nI a) (nI f) (nI t)).2.2.2.2 = p.2.2.2.2 := by
  have hl := ct_le (p.1.1 a) f (t - f + 1)
  rw [o_flpN (p := undN (undN (flpN (flpN p (nI a) (nI f) (nI t)) (nI a) (nI f) (nI t)))) h hft ht, o_flpN (p := flpN p (nI a) (nI f) (nI t)) h hft ht, o_flpN (p := p) h hft ht, act_set p, act_set (actF p a _), act_len, o_add h hft ht, act_set, flp_in hft]
  obtain ⟨u1, u2, u3, u4⟩ := und_2 (p := p) (s := a) (s' := a) (b := flpB (p.1.1 a) f t) (b' := flpB (flpB (p.1.1 a) f t) f t)
  refine ⟨congrArg nI (by omega), ct_cong (fun x _ _ => flp_two _ f t x), u3, u4, u1, ?_⟩
  rw [show (undN (undN (actF (actF p a (flpB (p.1.1 a) f t)) a (flpB (flpB (p.1.1 a) f t) f t)))).2.2.2.2 = p.2.2.2.2 from congrArg Prod.snd u2]
theorem o_addE {q : FS} (h : a < 6) (hft : f ≤ t) (ht : t < 4096) (e : q.1 = p.1) : addR q (nI a) (nI f) (nI t) = nI (t - f + 1 - ct (p.1.1 a) f (t - f + 1)) := by
  rw [o_add h hft ht, e]
/-- scatter, and scatter again -/
theorem okM_n {m : Nat} (h1 : 1 ≤ m) (h2 : m ≤ 300) : okM (nI m) := ⟨fun z => by have := (nI_ltI (by omega) (by decide)).mp z; omega, fun z => by have := (nI_ltI (by decide) (by omega)).mp z; omega⟩
theorem o_sca (h : a < 6) {m : Nat} (h1 : 1 ≤ m) (h2 : m ≤ 300) (x : Int32) : scaR p (nI a) x (nI m) = nI (ct (scF m x (p.1.1 a)) 0 4096) := by
  unfold scaR
  rw [if_pos ⟨okN h (by decide), okM_n h1 h2⟩, cl_n (by omega), cl_n (by omega)]
theorem o_scaN (h : a < 6) {m : Nat} (h1 : 1 ≤ m) (h2 : m ≤ 300) (x : Int32) : scaN p (nI a) x (nI m) = actF p a (scF m x (p.1.1 a)) := by
  unfold scaN
  rw [if_pos ⟨okN h (by decide), okM_n h1 h2⟩, cl_n (by omega), cl_n (by omega)]
theorem sca_step (h : a < 6) {m : Nat} (h1 : 1 ≤ m) (h2 : m ≤ 300) (x : Int32) : ct ((scaN p (nI a) x (nI m)).1.1 a) 0 4096 = ct (scF m x (p.1.1 a)) 0 4096 ∧ scaR (scaN p (nI a) x (nI m)) (nI a) x (nI m) = nI (ct (scF m x (p.1.1 a)) 0 4096) ∧ (scaN (scaN p (nI a) x (nI m)) (nI a) x (nI m)).2.2.2.2 = p.2.2.2.2 := by
  rw [o_sca h h1 h2, o_scaN (p := scaN p (nI a) x (nI m)) h h1 h2, o_scaN (p := p) h h1 h2, act_set, act_len, act_len, sca_twice]
  exact ⟨rfl, rfl, rfl⟩
/-- shift -/
theorem neg_toInt {u : Nat} (h : u < 4096) : (-(nI u)).toInt = -(u : Int) := by
  rw [Int32.toInt_neg, nI_toInt (by omega), Int.bmod_eq_of_le (by omega) (by omega)]
theorem neg_lt0 {u : Nat} (h0 : 0 < u) (h : u < 4096) : -(nI u) < 0 := by
  rw [Int32.lt_iff_toInt_lt, neg_toInt h]
  have : (0 : Int32).toInt = 0 := by decide
  omega
theorem sub_neg {g m : Nat} (h : g < m) : nI g - nI m = -(nI (m - g)) := by
  have e := met_diff (nI g) (nI (m - g))
  rw [nI_add, show g + (m - g) = m by omega] at e
  exact e
theorem okS_of {y : Int32} (h1 : -4096 < y.toInt) (h2 : y.toInt < 4096) : okS y := by
  refine ⟨fun z => ?_, fun z => ?_⟩
  · rw [Int32.le_iff_toInt_le, show (-4096 : Int32).toInt = -4096 by decide] at z
    omega
  · rw [Int32.le_iff_toInt_le, nI_toInt (by decide)] at z
    omega
theorem shi_dn (h : a < 6) {u : Nat} (hu : u < 4096) : shiR p (nI a) (-(nI u)) = nI (ct (p.1.1 a) 0 u) ∧ ct (p.1.1 a) 0 4096 = ct ((shiN p (nI a) (-(nI u))).1.1 a) 0 4096 + ct (p.1.1 a) 0 u ∧ (shiN p (nI a) (-(nI u))).2.2.2.2 = p.2.2.2.2 := by
  have hok : ok6 (nI a) ∧ okS (-(nI u)) := ⟨okN h (by decide), okS_of (by rw [neg_toInt hu]; omega) (by rw [neg_toInt hu]; omega)⟩
  have hm := mv_dn (p.1.1 a) (u := u) (y := (-(nI u)).toInt) (by omega) (neg_toInt hu)
  unfold shiR shiN
  rw [if_pos hok, if_pos hok, cl_n (by omega)]
  refine ⟨congrArg nI (by omega), ?_, rfl⟩
  rw [act_set]
  exact hm
theorem shi_up (h : a < 6) {u : Nat} (hu : u < 4096) : shiR p (nI a) (nI u) = nI (ct (p.1.1 a) 0 4096 - ct (p.1.1 a) 0 (4096 - u)) ∧ ct ((shiN p (nI a) (nI u)).1.1 a) 0 4096 = ct (p.1.1 a) 0 (4096 - u) ∧ (shiN p (nI a) (nI u)).2.2.2.2 = p.2.2.2.2 := by
  have hok : ok6 (nI a) ∧ okS (nI u) := ⟨okN h (by decide), okS_of (by rw [nI_toInt (by omega)]; omega) (by rw [nI_toInt (by omega)]; omega)⟩
  have hm := mv_up (p.1.1 a) (u := u) (y := (nI u).toInt) (by omega) (nI_toInt (by omega))
  unfold shiR shiN
  rw [if_pos hok, if_pos hok, cl_n (by omega)]
  refine ⟨congrArg nI (by omega), ?_, rfl⟩
  rw [act_set]
  exact hm
end LL
/-! the start -/
abbrev a0S : AS := (fun _ _ => false, fun _ => 0, fun _ => 0)
abbrev fi0 : FS := (a0S, fun _ => a0S, 0, fun _ => 0, 0)
theorem PSE_0 {D : va_G} {T : Nat → ClassId} {H : Heap} {A : Nat → Nat} {Sx : Nat → Prop} (h : PSr D T H A 0 (fun _ => 0) 0 (fun _ => 0) (fun _ _ _ => 0) (fun _ _ => 0) (fun _ _ => 0)) (hSx : ∀ i, i < 102 → Sx (A i)) : PSE D T H A Sx fi0 :=
  ⟨_, _, _, _, h, hSx, fun _ => (show 0 < 256 by decide), by decide, by decide, ⟨fun s _ x _ => (bitL_dm _ x).trans (lb_0 _), fun _ _ => rfl, fun _ _ => rfl⟩, fun i hi => absurd hi (Nat.not_lt_zero _)⟩
abbrev bE : Nat → Bool := fun _ => false
theorem e_ct (n : Nat) : ct bE 0 n = 0 := ct_false (fun _ _ _ => rfl)
theorem e_pc (k : Nat) : pcst bE k = 0 := pcst_0 (ct_false (fun _ _ _ => rfl))
theorem e_sm : fb_sm (pcst bE) 16 = 0 := by
  have := fb_sm_bound (f := pcst bE) (c := 0) (n := 16) (fun k _ => by rw [e_pc]; exact Nat.le_refl 0)
  omega
theorem s0_siz : sizR fi0 (nI 0) = nI 0 := (o_siz (by decide)).trans (congrArg nI (e_ct 4096))
theorem s0_byt : bytR fi0 (nI 5) = nI 0 := (o_byt (by decide)).trans (congrArg nI e_sm)
theorem s0_rus : rusR fi0 (nI 1) = nI 0 := (o_rus (by decide)).trans (congrArg nI (ct_false (fun _ _ _ => rfl)))
theorem s0_alk (q : Int32) : alkR fi0 (nI 0) (nI 1) q = nI 1 := o_alk (by decide) (by decide) q (fun _ _ => rfl)
theorem s0_und : undR fi0 = -9 := if_pos rfl
theorem s0_undN : undN fi0 = fi0 := if_pos rfl
theorem s0_rea : reaR fi0 (nI 2) = nI 0 ∧ undR (reaN fi0 (nI 2)) = nI 0 ∧ (undN (reaN fi0 (nI 2))).2.2.2.2 = 0 := by
  obtain ⟨r1, r2⟩ := rea_ok (p := fi0) (b := bE) e_sm.symm (fun j hj => absurd hj (Nat.not_lt_zero _))
  have e : reaN fi0 (nI 2) = ((va_up fi0.1.1 2 (reaP fi0).2.2, fi0.1.2.1, cvF (fi0.1.1 2) (reaP fi0).2.2 16 fi0.1.2.2), pushH fi0.2.1 fi0.2.2.1 fi0.1, kpt fi0.2.2.1, fi0.2.2.2.1, 0) := by
    unfold reaN
    rw [if_pos ⟨okN (by decide) (by decide), r1⟩, cl_n (by decide)]
  refine ⟨?_, ?_, ?_⟩
  · unfold reaR
    rw [if_pos (okN (by decide) (by decide)), if_pos r1]
    exact congrArg nI ((ct_cong (fun x _ hx => r2 x (by omega))).trans (e_ct 4096))
  · rw [e]
    show (if kpt 0 = 0 then (-9 : Int32) else nI (kpt 0 - 1)) = nI 0
    rw [if_neg (kpt_pos 0)]
    rfl
  · rw [e, und_1]
