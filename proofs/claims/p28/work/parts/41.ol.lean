/-! the answers, where the arguments are good -/
section OL
variable {p : FS} {s t u : Nat}
theorem o_siz (h : s < 6) : sizR p (nI s) = nI (ct (p.1.1 s) 0 4096) := by unfold sizR; rw [if_pos (okN h (by decide)), cl_n (by omega)]
theorem o_con (h : s < 6) (x : Int32) : conR p (nI s) x = b2i (hlt (p.1.1 s) x) := by unfold conR; rw [if_pos (okN h (by decide)), cl_n (by omega)]
theorem o_ran (h : s < 6) (x : Int32) : ranR p (nI s) x = nI (ctr (p.1.1 s) (nI 0) x) := by unfold ranR; rw [if_pos (okN h (by decide)), cl_n (by omega)]
theorem o_rann (h : s < 6) {x : Nat} (hx : x < 4096) : ranR p (nI s) (nI x) = nI (ct (p.1.1 s) 0 (x + 1)) := by rw [o_ran h, ctr_n _ hx]
theorem o_sel (h : s < 6) {x : Nat} (hx : x < 2 ^ 31) : selR p (nI s) (nI x) = nthA (p.1.1 s) (nI x) := by unfold selR; rw [if_pos ⟨okN h (by decide), nI_pos hx⟩, cl_n (by omega)]
theorem o_neu (h : s < 6) (x : Int32) : neaR p (nI s) x (nI 1) = upF (p.1.1 s) x 4096 0 := by unfold neaR; rw [if_pos (okN h (by decide)), if_neg (by decide), cl_n (by omega)]
theorem o_ned (h : s < 6) (x : Int32) : neaR p (nI s) x (nI 0) = dnF (p.1.1 s) x 4096 := by unfold neaR; rw [if_pos (okN h (by decide)), if_pos (by decide), cl_n (by omega)]
theorem o_rus (h : s < 6) : rusR p (nI s) = nI (ct (rsG (p.1.1 s) 0) 0 4096) := by unfold rusR; rw [if_pos (okN h (by decide)), cl_n (by omega)]
theorem o_run (h : s < 6) {i f q : Nat} (hi : i < 2 ^ 31) (hf : f < 4096) (hq : q < 4096) (h1 : nthA (rsG (p.1.1 s) 0) (nI i) = nI f) (h2 : nthA (reG (p.1.1 s)) (nI i) = nI q) : runR p (nI s) (nI i) = nI (4096 * f + q) := by
  unfold runR
  rw [if_pos ⟨okN h (by decide), nI_pos hi⟩, cl_n (by omega), h1, h2, if_neg (fun z => z.elim (nI_ne9 (by omega)) (nI_ne9 (by omega))), pk_mul, nI_add]
theorem o_run9 (h : s < 6) {i : Nat} (hi : i < 2 ^ 31) (h1 : nthA (rsG (p.1.1 s) 0) (nI i) = -9) : runR p (nI s) (nI i) = -9 := by
  unfold runR
  rw [if_pos ⟨okN h (by decide), nI_pos hi⟩, cl_n (by omega), if_pos (Or.inl h1)]
theorem o_pie (h : s < 6) {k : Nat} (hk : k < 16) (q : Int32) : pieR p (nI s) (nI k) q = det (p.1.1 s) k q := by
  unfold pieR
  rw [if_pos ⟨okN h (by decide), (okN hk (by decide)).1, (okN hk (by decide)).2⟩, cl_n (by omega), cl_n (by omega)]
theorem o_pie0 (h : s < 6) {k : Nat} (hk : k < 16) : pieR p (nI s) (nI k) (nI 0) = pkd (p.1.1 s) k := by rw [o_pie h hk]; unfold det; rw [if_pos rfl]
theorem o_pie1 (h : s < 6) {k : Nat} (hk : k < 16) : pieR p (nI s) (nI k) (nI 1) = nI (pn (p.1.1 s) k) := by rw [o_pie h hk]; unfold det; rw [if_neg (by decide), if_pos rfl]
theorem o_pie2 (h : s < 6) {k : Nat} (hk : k < 16) : pieR p (nI s) (nI k) (nI 2) = nI (pr (p.1.1 s) k) := by rw [o_pie h hk]; unfold det; rw [if_neg (by decide), if_neg (by decide), if_pos rfl]
theorem o_pie3 (h : s < 6) {k : Nat} (hk : k < 16) : pieR p (nI s) (nI k) (nI 3) = nI (pcst (p.1.1 s) k) := by rw [o_pie h hk]; unfold det; rw [if_neg (by decide), if_neg (by decide), if_neg (by decide), if_pos rfl]; rfl
theorem o_byt (h : s < 6) : bytR p (nI s) = nI (fb_sm (pcst (p.1.1 s)) 16) := by unfold bytR; rw [if_pos (okN h (by decide)), cl_n (by omega)]
theorem o_bya (h : s < 6) {x : Nat} (hx : x < 2 ^ 31) : byaR p (nI s) (nI x) = bfF (p.1.1 s) 16 0 x := by unfold byaR; rw [if_pos ⟨okN h (by decide), nI_pos hx⟩, cl_n (by omega), cl_n hx]
theorem okV_n {v : Nat} (hv : v < 256) : okV (nI v) := ⟨nI_pos (by omega), fun z => by have := (nI_ltI (by decide) (by omega)).mp z; omega⟩
theorem o_put {v k : Nat} (hv : v < 256) (hl : p.2.2.2.2 = k) (hk : k < 200) : putR p (nI v) = nI (k + 1) := by unfold putR; rw [if_pos (okV_n hv), hl, if_pos hk]
theorem put_step {fk : FS} {n k v : Nat} {b : Nat → Bool} (hv : v < 256) (hb : bfF b 16 0 k = nI v) (hk : k < 200) (h1 : fk.1 = p.1) (hl : fk.2.2.2.2 = k) (hr : ∀ j, j < k → fk.2.2.2.1 j < 256 ∧ nI (fk.2.2.2.1 j) = bfF b 16 0 j) : (putN fk (nI v)).1 = p.1 ∧ (putN fk (nI v)).2.2.2.2 = k + 1 ∧ ∀ j, j < k + 1 → (putN fk (nI v)).2.2.2.1 j < 256 ∧ nI ((putN fk (nI v)).2.2.2.1 j) = bfF b 16 0 j := by
  have e : putN fk (nI v) = (fk.1, fk.2.1, fk.2.2.1, apR fk.2.2.2.1 k v, apL k) := by
    unfold putN
    rw [if_pos (okV_n hv), cl_n (by omega), hl]
  rw [e]
  refine ⟨h1, if_pos hk, fun j hj => ?_⟩
  show apR fk.2.2.2.1 k v j < 256 ∧ nI (apR fk.2.2.2.1 k v j) = bfF b 16 0 j
  unfold apR
  rw [if_pos hk]
  by_cases z : j = k
  · subst z
    show (if j = j then v else _) < 256 ∧ nI (if j = j then v else _) = _
    rw [if_pos rfl]
    exact ⟨hv, hb.symm⟩
  · show (if j = k then v else fk.2.2.2.1 j) < 256 ∧ nI (if j = k then v else fk.2.2.2.1 j) = _
    rw [if_neg z]
    exact hr j (by omega)
/-- what was written is read as the set t -/
theorem rea_step {fk : FS} {b : Nat → Bool} (hs : s < 6) (ht : t < 6) (hb : fk.1.1 s = b) (hl : fk.2.2.2.2 = fb_sm (pcst b) 16) (hr : ∀ j, j < fk.2.2.2.2 → fk.2.2.2.1 j < 256 ∧ nI (fk.2.2.2.1 j) = bfF b 16 0 j) : reaR fk (nI t) = nI (ct b 0 4096) ∧ Eq4 ((reaN fk (nI t)).1.1 s) b ∧ Eq4 ((reaN fk (nI t)).1.1 t) b ∧ (reaN fk (nI t)).2.2.2.2 = 0 := by
  obtain ⟨r1, r2⟩ := rea_ok hl hr
  have e : reaN fk (nI t) = ((va_up fk.1.1 t (reaP fk).2.2, fk.1.2.1, cvF (fk.1.1 t) (reaP fk).2.2 16 fk.1.2.2), pushH fk.2.1 fk.2.2.1 fk.1, kpt fk.2.2.1, fk.2.2.2.1, 0) := by
    unfold reaN
    rw [if_pos ⟨okN ht (by decide), r1⟩, cl_n (by omega)]
  rw [e]
  refine ⟨?_, ?_, ?_, rfl⟩
  · unfold reaR
    rw [if_pos (okN ht (by decide)), if_pos r1]
    exact congrArg nI (ct_cong (fun x _ hx => r2 x (by omega)))
  · show Eq4 (if s = t then (reaP fk).2.2 else fk.1.1 s) b
    by_cases z : s = t
    · rw [if_pos z]; exact r2
    · rw [if_neg z, hb]; exact fun _ _ => rfl
  · show Eq4 (if t = t then (reaP fk).2.2 else fk.1.1 t) b
    rw [if_pos rfl]; exact r2
theorem o_cmp (hs : s < 6) (ht : t < 6) (q : Int32) : cmpR p (nI s) (nI t) q = cmpV (p.1.1 s) (p.1.1 t) q := by
  unfold cmpR
  rw [if_pos ⟨okN hs (by decide), okN ht (by decide)⟩, cl_n (by omega), cl_n (by omega)]
theorem o_cmp0 (hs : s < 6) (ht : t < 6) : cmpR p (nI s) (nI t) (nI 0) = nI (jct 0 (p.1.1 s) (p.1.1 t)) := by rw [o_cmp hs ht]; unfold cmpV; rw [if_pos rfl]
theorem o_cmp1 (hs : s < 6) (ht : t < 6) : cmpR p (nI s) (nI t) (nI 1) = nI (jct 2 (p.1.1 s) (p.1.1 t)) := by rw [o_cmp hs ht]; unfold cmpV; rw [if_neg (by decide), if_pos rfl]
theorem o_cmp3 (hs : s < 6) (ht : t < 6) : cmpR p (nI s) (nI t) (nI 3) = nI (smP (p.1.1 s) (p.1.1 t)) := by rw [o_cmp hs ht]; unfold cmpV; rw [if_neg (by decide), if_neg (by decide), if_neg (by decide), if_pos rfl]
theorem o_cmp4 (hs : s < 6) (ht : t < 6) : cmpR p (nI s) (nI t) (nI 4) = nthA (fun z => jb 2 (p.1.1 s z) (p.1.1 t z)) (nI 0) := by rw [o_cmp hs ht]; unfold cmpV; rw [if_neg (by decide), if_neg (by decide), if_neg (by decide), if_neg (by decide), if_pos rfl]
theorem o_alk (hs : s < 6) (ht : t < 6) (q : Int32) (h : Eq4 (p.1.1 s) (p.1.1 t)) : alkR p (nI s) (nI t) q = nI 1 := by
  unfold alkR
  rw [if_pos ⟨okN hs (by decide), okN ht (by decide)⟩, cl_n (by omega), cl_n (by omega), jct0_same h, jct1_same h]
  exact alk_same _ q
theorem o_met {i : Nat} (h : i < 9) : metR p (nI (i / 3)) (nI (i % 3)) = p.1.2.1 i := by
  unfold metR
  rw [if_pos ⟨okN (by omega) (by decide), okN (by omega) (by decide)⟩, cl_n (by omega), cl_n (by omega), show 3 * (i / 3) + i % 3 = i by omega]
theorem okC_n {o : Nat} (ho : o < 4) (hs : s < 6) (ht : t < 6) (hu : u < 6) : okC (nI o) (nI s) (nI t) (nI u) := ⟨nI_pos (by omega), fun z => by have := (nI_ltI (by decide) (by omega)).mp z; omega, okN hs (by decide), okN ht (by decide), okN hu (by decide)⟩
theorem o_com {o : Nat} (ho : o < 4) (hs : s < 6) (ht : t < 6) (hu : u < 6) : comR p (nI o) (nI s) (nI t) (nI u) = nI (jct o (p.1.1 s) (p.1.1 t)) := by
  unfold comR
  rw [if_pos (okC_n ho hs ht hu)]
  unfold comB
  rw [cl_n (by omega), cl_n (by omega), cl_n (by omega)]; rfl
theorem o_comN {o : Nat} (ho : o < 4) (hs : s < 6) (ht : t < 6) (hu : u < 6) : comN p (nI o) (nI s) (nI t) (nI u) = ((va_up p.1.1 u (fun z => jb o (p.1.1 s z) (p.1.1 t z)), mtF (p.1.1 s) (p.1.1 t) 16 p.1.2.1, cvF (p.1.1 u) (fun z => jb o (p.1.1 s z) (p.1.1 t z)) 16 p.1.2.2), pushH p.2.1 p.2.2.1 p.1, kpt p.2.2.1, p.2.2.2.1, p.2.2.2.2) := by
  unfold comN
  rw [if_pos (okC_n ho hs ht hu)]
  unfold comB
  rw [cl_n (by omega), cl_n (by omega), cl_n (by omega), cl_n (by omega)]
/-- what is known of the state behind combine -/
theorem com_step {o : Nat} (ho : o < 4) (hs : s < 6) (ht : t < 6) (hu : u < 6) : (comN p (nI o) (nI s) (nI t) (nI u)).1.1 u = (fun z => jb o (p.1.1 s z) (p.1.1 t z)) ∧ siF (comN p (nI o) (nI s) (nI t) (nI u)).1.2.1 9 = siF p.1.2.1 9 + nI (prC (p.1.1 s) (p.1.1 t) 16) ∧ (comN p (nI o) (nI s) (nI t) (nI u)).2.2.2.2 = p.2.2.2.2 ∧ undR (comN p (nI o) (nI s) (nI t) (nI u)) = nI (kpt p.2.2.1 - 1) ∧ (undN (comN p (nI o) (nI s) (nI t) (nI u))).1 = p.1 ∧ (undN (comN p (nI o) (nI s) (nI t) (nI u))).2.2.2.2 = p.2.2.2.2 := by
  rw [o_comN ho hs ht hu]
  refine ⟨if_pos rfl, mt_sum _ _ _ 16, rfl, if_neg (kpt_pos _), ?_, ?_⟩
  · rw [und_1]
  · rw [und_1]
theorem prC_1 {a b : Nat → Bool} {n : Nat} (h : pn a n ≠ 0 ∧ pn b n ≠ 0) : prC a b (n + 1) = prC a b n + 1 := by unfold prC; rw [fb_ct_succ, if_pos (decide_eq_true h)]
theorem prC_0 {a b : Nat → Bool} {n : Nat} (h : ¬ (pn a n ≠ 0 ∧ pn b n ≠ 0)) : prC a b (n + 1) = prC a b n + 0 := by unfold prC; rw [fb_ct_succ, if_neg (by rw [decide_eq_false h]; exact Bool.false_ne_true)]
theorem i_sub0 (x : Int32) : x = x - 0 := by rw [Int32.sub_zero]
theorem i_subsub (x y z : Int32) : x - y - z = x - (y + z) := by
  apply Int32.toBitVec_inj.mp
  rw [Int32.toBitVec_sub, Int32.toBitVec_sub, Int32.toBitVec_sub, Int32.toBitVec_add]
  generalize x.toBitVec = u
  generalize y.toBitVec = v
  generalize z.toBitVec = w
  rw [BitVec.sub_eq_add_neg u (v + w), BitVec.neg_add, BitVec.sub_eq_add_neg (-v) w, ← BitVec.add_assoc, ← BitVec.sub_eq_add_neg u v, ← BitVec.sub_eq_add_neg]
/-- the kinds of a piece, one by one -/
theorem pc_cases (b : Nat → Bool) (i : Nat) : (pn b i = 0 ∧ pr b i = 0 ∧ pkd b i = -9 ∧ pcst b i = 0) ∨ (0 < pn b i ∧ 0 < pr b i ∧ pr b i ≤ pn b i ∧ (2 + pn b i ≤ 2 + 2 * pr b i ∧ 2 + pn b i ≤ 33) ∧ pkd b i = nI 0 ∧ pcst b i = 2 + pn b i ∧ wb b i 0 = nI (4 * i + 0) ∧ wb b i 1 = nI (pn b i)) ∨ (0 < pn b i ∧ 0 < pr b i ∧ pr b i ≤ pn b i ∧ (¬ (2 + pn b i ≤ 2 + 2 * pr b i ∧ 2 + pn b i ≤ 33) ∧ 2 + 2 * pr b i ≤ 33) ∧ pkd b i = nI 1 ∧ pcst b i = 2 + 2 * pr b i ∧ wb b i 0 = nI (4 * i + 1) ∧ wb b i 1 = nI (pr b i)) ∨ (0 < pn b i ∧ 0 < pr b i ∧ pr b i ≤ pn b i ∧ (¬ (2 + pn b i ≤ 2 + 2 * pr b i ∧ 2 + pn b i ≤ 33) ∧ ¬ 2 + 2 * pr b i ≤ 33) ∧ pkd b i = nI 2 ∧ pcst b i = 33 ∧ wb b i 0 = nI (4 * i + 2)) := by
  by_cases h : pn b i = 0
  · exact Or.inl ⟨h, (pr_0 b i).mpr h, kd_0 h, pcst_0 h⟩
  · have hr : pr b i ≠ 0 := fun z => h ((pr_0 b i).mp z)
    have hp := pr_le b i
    have hc := pcst_kk h
    have hk := pkd_n h
    have hw := wb_0 h
    have hw1 := wb_1 (b := b) (p := i) h
    by_cases h1 : 2 + pn b i ≤ 2 + 2 * pr b i ∧ 2 + pn b i ≤ 33
    · have e : kk b i = 0 := by unfold kk kdN; rw [if_pos h1]
      rw [e] at hc hk hw hw1
      exact Or.inr (Or.inl ⟨by omega, by omega, hp, h1, hk, hc.trans (if_pos rfl), hw, (hw1 (by decide)).trans (congrArg nI (if_pos rfl))⟩)
    · by_cases h2 : 2 + 2 * pr b i ≤ 33
      · have e : kk b i = 1 := by unfold kk kdN; rw [if_neg h1, if_pos h2]
        rw [e] at hc hk hw hw1
        exact Or.inr (Or.inr (Or.inl ⟨by omega, by omega, hp, ⟨h1, h2⟩, hk, hc.trans ((if_neg (by decide)).trans (if_pos rfl)), hw, (hw1 (by decide)).trans (congrArg nI (if_neg (by decide)))⟩))
      · have e : kk b i = 2 := by unfold kk kdN; rw [if_neg h1, if_neg h2]
        rw [e] at hc hk hw
        exact Or.inr (Or.inr (Or.inr ⟨by omega, by omega, hp, ⟨h1, h2⟩, hk, hc.trans ((if_neg (by decide)).trans (if_neg (by decide))), hw⟩))
theorem up_ok (x : Int32) {m : Nat} (h0 : 0 < m) (hm : m < 2 ^ 31) : ∃ n, n < m ∧ remI (x &&& 2147483647) (nI m) = nI n := by
  have ex : x = nI x.toBitVec.toNat := by
    apply Int32.toBitVec_inj.mp
    apply BitVec.eq_of_toNat_eq
    show _ = x.toBitVec.toNat % 2 ^ 32
    exact (Nat.mod_eq_of_lt x.toBitVec.isLt).symm
  have ea : x &&& 2147483647 = nI (x.toBitVec.toNat % 2147483648) := by
    have h9 := fa_mask x.toBitVec.toNat 31
    rw [← ex] at h9
    exact h9
  rw [ea]
  refine ⟨x.toBitVec.toNat % 2147483648 % m, Nat.mod_lt _ h0, ?_⟩
  exact pk_rem (Nat.mod_lt _ (by decide)) h0 hm
theorem lcmp_self (x : Int64) : lg_cmp x x = 0 := by
  unfold lg_cmp
  rw [if_neg (fun z : x > x => by rw [gt_iff_lt, Int64.lt_iff_toInt_lt] at z; omega), if_pos rfl]
theorem pre_X {s : State} {H : Heap} {D : va_G} {T : Nat → ClassId} {As : List Value} {b L : Nat} {xs : Nat → Int32} (hK : KS D T s) (hX : va_X b L xs s H) : PreS s H (va_Pc As (fun U => KS D T U ∧ va_X b L xs U U.heap)) As :=
  ⟨fun a _ g mk q => ⟨q.1, q.2.1.call g mk a, q.2.2⟩, fun U hU hW => ⟨rfl, hK.warm hW, by rw [hU]; exact hX.moved hW.alike⟩⟩
end OL
