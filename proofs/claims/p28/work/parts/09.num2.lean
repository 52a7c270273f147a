set_option maxHeartbeats 4000000 in
set_option maxRecDepth 100000 in
theorem k_X1_include (l : Launch) (D : va_G) (T : Nat → ClassId) (h0 : Nat) (w0 : Nat) (f : Nat → Int64) (x : Nat) (hx1 : x < 4096) : Met l yX1_include wsX1_include ({ frames := 1, cells := 0, slots := 0, locals := 20 }) (va_Pc [.ref h0, .int (nI x)] (fun U => KS D T U ∧ Num D T U.heap h0 w0 f)) (va_Qv (fun (u : Nat → Int64) => ∀ y, y < 4096 → bitL u y = (bitL f y || decide (y = x))) (fun u t => Num D T t.heap h0 w0 u) (fun q => q = w0)) 0 0 (fun q => q = w0) := by
  refine Met.ofW (cc := cX1_include) (maxL := 2) (ret := none) (by decide) rfl ?_
  intro pg ev s m args below meth c s₁ B hml hv
  obtain ⟨rfl, hK, hH⟩ := hv
  have hx := B.exec
  have hb := B.bytes
  have hr := B.returns
  have hts := atoms_spec (ws := wsX1_include) B.pre
  have hown : s.vm.findClass RX1 = some m.cls := findClass_of_methodNamed B.named
  have hlocks := B.notSynchronized
  have in_wsX10 : ∀ w ∈ wsX10, w ∈ wsX1_include := fun w h => List.mem_cons_of_mem _ (List.mem_append_right _ h)
  have hS : va_S (fun q => q = w0) s.heap s.heap [] := va_S.rf
  have hl := lv_entry ([.ref h0, .int (nI x)]) (n := 2) (Nat.le_of_ble_eq_true rfl)
  rw [lg_entry_eq]
  generalize (lg_sl ([.ref h0, .int (nI x)]) ++ List.replicate (2 - (lg_sl ([.ref h0, .int (nI x)])).length) Slot.unset).toArray = ls at hl ⊢
  have hl : lv_has ls 2 [(0, .ref h0), (1, .int (nI x))] := hl
  refine W_gen (fun Q hQ => ?_)
  have hN := hH
  refine lv_iload_n hx hb dX1_include_0 rfl (lv_at hl 1 rfl) ?_
  refine vp_callSi (va_Run.run (va_runSN (As := [.int (nI x)]) (rest := []) ⟨hx, hb, hml, hown, hts⟩ (k_X3_isNumber l D T (nI x) ) (⟨va_cnB 1 hts ggX1_include_X3_isNumber rfl rfl rfl (hK.2.m (args := ([.ref h0, .int (nI x)] : List Value).toArray) 20 rfl) (hts (.initialized RX3) (by decide +kernel)) (by decide +kernel) ⟨Nat.le_of_ble_eq_true rfl, Nat.le_of_ble_eq_true rfl⟩, hts (.static yX3_isNumber) (by decide +kernel), trivial⟩) (pre_S (Φ := fun X => True) hK trivial) rfl rfl hl.1 rfl (lv_room (Nat.le_of_ble_eq_true rfl)) dX1_include_1 ⟨Nat.le_of_ble_eq_true rfl, Nat.le_of_ble_eq_true rfl⟩)) (fun r_1 hr_1 => ?_)
  subst hr_1
  refine lv_if_eq (tgt := 25) hx hb dX1_include_4 (by decide) (fun c_1 => ?_) (fun c_1 => ?_)
  · skip
    have c_1 : (decide (¬ (nI x) < 0 ∧ (nI x) < nI 4096)) = false := b2i_0.mp c_1
    have c_1 : ¬ (¬ (nI x) < 0 ∧ (nI x) < nI 4096) := of_decide_eq_false c_1
    exact absurd ⟨nI_pos (by omega), (nI_ltI (by omega) (by omega)).mpr hx1⟩ c_1
  · skip
    have c_1 : (decide (¬ (nI x) < 0 ∧ (nI x) < nI 4096)) = true := b2i_n0.mp c_1
    have c_1 : ¬ (nI x) < 0 ∧ (nI x) < nI 4096 := of_decide_eq_true c_1
    refine lv_aload_n hx hb dX1_include_7 rfl (lv_at hl 0 rfl) ?_
    refine r_get (C := RX1) (Tb := TX1) (N := 1) hx hb hts in_wsX10 hown hK (hN.1) rfl 0 (by decide) (hts (.fieldLink RX1 9 "PieceSets$Numbers" "words" "[J") (by decide +kernel)) rfl (v := .ref w0) rfl dX1_include_8 ?_
    refine lv_iload_n hx hb dX1_include_11 rfl (lv_at hl 1 rfl) ?_
    refine lv_bipush (v := (nI 6)) hx hb dX1_include_12 (by decide) ?_
    refine lv_ishr hx hb dX1_include_14 ?_
    refine top_i (x' := (shrI (nI x) (nI 6))) rfl ?_
    refine top_i (x' := (nI (x / 64))) (nI_shr (by omega) (by decide)) ?_
    refine lv_dup2_11 hx hb dX1_include_15 rfl rfl ?_
    refine r_lald hx hb hK (hN.2) (i := x / 64) (by omega) (by decide) dX1_include_16 ?_
    refine lv_lconst (v := 1) hx hb dX1_include_17 rfl ?_
    refine lv_iload_n hx hb dX1_include_18 rfl (lv_at hl 1 rfl) ?_
    refine lv_bipush (v := (nI 63)) hx hb dX1_include_19 (by decide) ?_
    refine lv_iand hx hb dX1_include_21 ?_
    refine top_i (x' := (nI (x % 64))) (n_63 x) ?_
    refine lv_lshl (v := (shlL 1 (nI (x % 64)))) hx hb dX1_include_22 rfl ?_
    refine lv_lor hx hb dX1_include_23 ?_
    refine r_last hx hb hK hS (rfl) (hN.2) (i := x / 64) (by omega) (by decide) dX1_include_24 (fun H_1 locs hat oq hS => ?_)
    have hN := hN.set hat oq
    subst hQ
    exact W.vret hx hb hr (fun t ht hW => ⟨⟨_, rfl, bit_incl f hx1, by have h9 := hN; rw [← ht] at h9; exact h9⟩, hS.F ht⟩) hS.2.2 dX1_include_25
set_option maxHeartbeats 4000000 in
set_option maxRecDepth 100000 in
theorem k_X1_holds (l : Launch) (D : va_G) (T : Nat → ClassId) (h0 : Nat) (w0 : Nat) (f : Nat → Int64) (x : Int32) : Met l yX1_holds wsX1_holds ({ frames := 1, cells := 0, slots := 0, locals := 20 }) (va_Pc [.ref h0, .int x] (fun U => KS D T U ∧ Num D T U.heap h0 w0 f)) (vp_Si (fun r => r = (b2i (hlt (bitL f) x)))) 0 0 (fun _ => False) := by
  refine Met.ofW (cc := cX1_holds) (maxL := 2) (ret := (some .boolean)) (by decide) rfl ?_
  intro pg ev s m args below meth c s₁ B hml hv
  obtain ⟨rfl, hK, hH⟩ := hv
  have hx := B.exec
  have hb := B.bytes
  have hr := B.returns
  have hts := atoms_spec (ws := wsX1_holds) B.pre
  have hown : s.vm.findClass RX1 = some m.cls := findClass_of_methodNamed B.named
  have hlocks := B.notSynchronized
  have in_wsX10 : ∀ w ∈ wsX10, w ∈ wsX1_holds := fun w h => List.mem_cons_of_mem _ (List.mem_append_right _ h)
  have hl := lv_entry ([.ref h0, .int x]) (n := 2) (Nat.le_of_ble_eq_true rfl)
  rw [lg_entry_eq]
  generalize (lg_sl ([.ref h0, .int x]) ++ List.replicate (2 - (lg_sl ([.ref h0, .int x])).length) Slot.unset).toArray = ls at hl ⊢
  have hl : lv_has ls 2 [(0, .ref h0), (1, .int x)] := hl
  refine W_gen (fun Q hQ => ?_)
  have hN := hH
  refine lv_iload_n hx hb dX1_holds_0 rfl (lv_at hl 1 rfl) ?_
  refine vp_callSi (va_Run.run (va_runSN (As := [.int x]) (rest := []) ⟨hx, hb, hml, hown, hts⟩ (k_X3_isNumber l D T x ) (⟨va_cnB 1 hts ggX1_holds_X3_isNumber rfl rfl rfl (hK.2.m (args := ([.ref h0, .int x] : List Value).toArray) 20 rfl) (hts (.initialized RX3) (by decide +kernel)) (by decide +kernel) ⟨Nat.le_of_ble_eq_true rfl, Nat.le_of_ble_eq_true rfl⟩, hts (.static yX3_isNumber) (by decide +kernel), trivial⟩) (pre_S (Φ := fun X => True) hK trivial) rfl rfl hl.1 rfl (lv_room (Nat.le_of_ble_eq_true rfl)) dX1_holds_1 ⟨Nat.le_of_ble_eq_true rfl, Nat.le_of_ble_eq_true rfl⟩)) (fun r_1 hr_1 => ?_)
  subst hr_1
  refine lv_if_eq (tgt := 32) hx hb dX1_holds_4 (by decide) (fun c_1 => ?_) (fun c_1 => ?_)
  · skip
    have c_1 : (decide (¬ x < 0 ∧ x < nI 4096)) = false := b2i_0.mp c_1
    have c_1 : ¬ (¬ x < 0 ∧ x < nI 4096) := of_decide_eq_false c_1
    refine lv_iconst (v := (nI 0)) hx hb dX1_holds_32 (by decide) ?_
    subst hQ
    refine W.zret (v := (nI 0)) hx hb hr nb0 (fun t ht hW => ⟨(nI 0), rfl, ?_, ht⟩) (fun q h => absurd h List.not_mem_nil) dX1_holds_33
    first | exact r0 (by unfold hlt; rw [decide_eq_false c_1]; rfl) | exact r0 (by unfold hlt; rw [decide_eq_true c_1, c_2]; rfl)
  · skip
    have c_1 : (decide (¬ x < 0 ∧ x < nI 4096)) = true := b2i_n0.mp c_1
    have c_1 : ¬ x < 0 ∧ x < nI 4096 := of_decide_eq_true c_1
    refine lv_aload_n hx hb dX1_holds_7 rfl (lv_at hl 0 rfl) ?_
    refine r_get (C := RX1) (Tb := TX1) (N := 1) hx hb hts in_wsX10 hown hK (hN.1) rfl 0 (by decide) (hts (.fieldLink RX1 9 "PieceSets$Numbers" "words" "[J") (by decide +kernel)) rfl (v := .ref w0) rfl dX1_holds_8 ?_
    have hcl : x.toNatClampNeg < 4096 := cl_lt (by decide) c_1.1 c_1.2
    refine lv_iload_n hx hb dX1_holds_11 rfl (lv_at hl 1 rfl) ?_
    refine top_i (x' := (nI x.toNatClampNeg)) (nI_cl c_1.1) ?_
    refine lv_bipush (v := (nI 6)) hx hb dX1_holds_12 (by decide) ?_
    refine lv_ishr hx hb dX1_holds_14 ?_
    refine top_i (x' := (shrI (nI x.toNatClampNeg) (nI 6))) rfl ?_
    refine top_i (x' := (nI (x.toNatClampNeg / 64))) (nI_shr (cl_b x) (by decide)) ?_
    refine r_lald hx hb hK (hN.2) (i := x.toNatClampNeg / 64) (by omega) (by decide) dX1_holds_15 ?_
    refine lv_iload_n hx hb dX1_holds_16 rfl (lv_at hl 1 rfl) ?_
    refine top_i (x' := (nI x.toNatClampNeg)) (nI_cl c_1.1) ?_
    refine lv_bipush (v := (nI 63)) hx hb dX1_holds_17 (by decide) ?_
    refine lv_iand hx hb dX1_holds_19 ?_
    refine top_i (x' := (nI (x.toNatClampNeg % 64))) (n_63 _) ?_
    refine lv_lushr (v := (ushrL (f (x.toNatClampNeg / 64)) (nI (x.toNatClampNeg % 64)))) hx hb dX1_holds_20 rfl ?_
    refine lv_lconst (v := 1) hx hb dX1_holds_21 rfl ?_
    refine lv_land hx hb dX1_holds_22 ?_
    refine lv_lconst (v := 0) hx hb dX1_holds_23 rfl ?_
    refine W.lcmp hx hb dX1_holds_24 ?_
    refine top_i (x' := (b2i (bitL f x.toNatClampNeg))) (lcmp_bit _ (by omega)) ?_
    refine lv_if_eq (tgt := 32) hx hb dX1_holds_25 (by decide) (fun c_2 => ?_) (fun c_2 => ?_)
    · skip
      have c_2 : bitL f x.toNatClampNeg = false := b2i_0.mp c_2
      refine lv_iconst (v := (nI 0)) hx hb dX1_holds_32 (by decide) ?_
      subst hQ
      refine W.zret (v := (nI 0)) hx hb hr nb0 (fun t ht hW => ⟨(nI 0), rfl, ?_, ht⟩) (fun q h => absurd h List.not_mem_nil) dX1_holds_33
      first | exact r0 (by unfold hlt; rw [decide_eq_false c_1]; rfl) | exact r0 (by unfold hlt; rw [decide_eq_true c_1, c_2]; rfl)
    · skip
      have c_2 : bitL f x.toNatClampNeg = true := b2i_n0.mp c_2
      refine lv_iconst (v := (nI 1)) hx hb dX1_holds_28 (by decide) ?_
      refine lv_goto (tgt := 33) hx hb dX1_holds_29 (by decide) ?_
      subst hQ
      refine W.zret (v := (nI 1)) hx hb hr nb1 (fun t ht hW => ⟨(nI 1), rfl, ?_, ht⟩) (fun q h => absurd h List.not_mem_nil) dX1_holds_33
      exact r1 (by unfold hlt; rw [decide_eq_true c_1, c_2]; rfl)
set_option maxHeartbeats 4000000 in
set_option maxRecDepth 100000 in
theorem k_X1_includeAll (l : Launch) (D : va_G) (T : Nat → ClassId) (h0 : Nat) (w0 : Nat) (f : Nat → Int64) (x : Int32) (y : Int32) : Met l yX1_includeAll wsX1_includeAll ({ frames := 2, cells := 0, slots := 0, locals := 64 }) (va_Pc [.ref h0, .int x, .int y] (fun U => KS D T U ∧ Num D T U.heap h0 w0 f)) (va_Qv (fun (u : Nat → Int64) => ∀ q, q < 4096 → bitL u q = (bitL f q || inr x y q)) (fun u t => Num D T t.heap h0 w0 u) (fun q => q = w0)) 0 0 (fun q => q = w0) := by
  refine Met.ofW (cc := cX1_includeAll) (maxL := 4) (ret := none) (by decide) rfl ?_
  intro pg ev s m args below meth c s₁ B hml hv
  obtain ⟨rfl, hK, hH⟩ := hv
  have hx := B.exec
  have hb := B.bytes
  have hr := B.returns
  have hts := atoms_spec (ws := wsX1_includeAll) B.pre
  have hown : s.vm.findClass RX1 = some m.cls := findClass_of_methodNamed B.named
  have hlocks := B.notSynchronized
  have in_wsX10 : ∀ w ∈ wsX10, w ∈ wsX1_includeAll := fun w h => List.mem_cons_of_mem _ (List.mem_append_right _ h)
  have hS : va_S (fun q => q = w0) s.heap s.heap [] := va_S.rf
  have hl := lv_entry ([.ref h0, .int x, .int y]) (n := 4) (Nat.le_of_ble_eq_true rfl)
  rw [lg_entry_eq]
  generalize (lg_sl ([.ref h0, .int x, .int y]) ++ List.replicate (4 - (lg_sl ([.ref h0, .int x, .int y])).length) Slot.unset).toArray = ls at hl ⊢
  have hl : lv_has ls 4 [(0, .ref h0), (1, .int x), (2, .int y)] := hl
  refine W_gen (fun Q hQ => ?_)
  have hN := hH
  refine lv_iconst (v := (nI 0)) hx hb dX1_includeAll_0 (by decide) ?_
  refine lv_istore_n (lv' := [(3, .int (nI 0)), (0, .ref h0), (1, .int x), (2, .int y)]) hx hb dX1_includeAll_1 rfl hl (by decide) rfl (fun ls hl => ?_)
  have loop2 : ∀ (n2 : Nat) (k : Nat) (hk : k ≤ 64) (H : Heap) (locs : List Loc) (hN : Num D T H h0 w0 (stepJ (fun j => f j ||| mk j x y) f k)) (hS : va_S (fun q => q = w0) s.heap H locs) (ls : Array Slot) (hl : lv_has ls 4 [(0, .ref h0), (1, .int x), (2, .int y), (3, .int (nI k))]) (hn2 : 64 - k < n2), W pg l ev (headSpec wsX1_includeAll ({ frames := 2, cells := 0, slots := 0, locals := 64 })).room s m ([.ref h0, .int x, .int y] : List Value).toArray below meth c H locs 0 0 Q (F0 m 2 ls []) := by
    intro n2
    induction n2 with
    | zero =>
      intro k hk H locs hN hS ls hl hn2
      exact absurd hn2 (Nat.not_lt_zero _)
    | succ n2 ih2 =>
      intro k hk H locs hN hS ls hl hn2
      refine lv_iload_n hx hb dX1_includeAll_2 rfl (lv_at hl 3 rfl) ?_
      refine lv_bipush (v := (nI 64)) hx hb dX1_includeAll_3 (by decide) ?_
      refine lv_icmp_ge (tgt := 29) hx hb dX1_includeAll_5 (by decide) (fun c_1 => ?_) (fun c_1 => ?_)
      · skip
        have c_1 : 64 ≤ k := (nI_leI (a := 64) (b := k) (by omega) (by omega)).mp c_1
        subst hQ
        exact W.vret hx hb hr (fun t ht hW => ⟨⟨(fun j => f j ||| mk j x y), rfl, bit_all (t := fun a b => (a || b)) (fun k _ j hj => lb_or _ _ _), by have h9 := (hN.cong (by rw [show k = 64 by omega]; exact stepJ_end)); rw [← ht] at h9; exact h9⟩, hS.F ht⟩) hS.2.2 dX1_includeAll_29
      · skip
        have c_1 : ¬ (64 ≤ k) := fun z => c_1 ((nI_leI (a := 64) (b := k) (by omega) (by omega)).mpr z)
        refine lv_aload_n hx hb dX1_includeAll_8 rfl (lv_at hl 0 rfl) ?_
        refine r_get (C := RX1) (Tb := TX1) (N := 1) hx hb hts in_wsX10 hown hK (hN.1) rfl 0 (by decide) (hts (.fieldLink RX1 9 "PieceSets$Numbers" "words" "[J") (by decide +kernel)) rfl (v := .ref w0) rfl dX1_includeAll_9 ?_
        refine lv_iload_n hx hb dX1_includeAll_12 rfl (lv_at hl 3 rfl) ?_
        refine lv_dup2_11 hx hb dX1_includeAll_13 rfl rfl ?_
        refine r_lald hx hb hK (hN.2) (i := k) (by omega) (by decide) dX1_includeAll_14 ?_
        refine lv_iload_n hx hb dX1_includeAll_15 rfl (lv_at hl 3 rfl) ?_
        refine lv_iload_n hx hb dX1_includeAll_16 rfl (lv_at hl 1 rfl) ?_
        refine lv_iload_n hx hb dX1_includeAll_17 rfl (lv_at hl 2 rfl) ?_
        refine vp_callSl (va_Run.run (va_runS (As := [.int (nI k), .int x, .int y]) (rest := [.long ((stepJ (fun j => f j ||| mk j x y) f k) k), .int (nI k), .ref w0]) ⟨hx, hb, hml, hown, hts⟩ (k_X1_mask l D T k x y (by omega)) (va_cwS 3 hts gX1_includeAll_X1_mask rfl rfl rfl (by decide +kernel) ⟨Nat.le_of_ble_eq_true rfl, Nat.le_of_ble_eq_true rfl⟩) (pre_S (Φ := fun X => True) hK trivial) rfl rfl hl.1 rfl (lv_room (Nat.le_of_ble_eq_true rfl)) dX1_includeAll_18 ⟨Nat.le_of_ble_eq_true rfl, Nat.le_of_ble_eq_true rfl⟩)) (fun r_1 hr_1 => ?_)
        subst hr_1
        refine lv_lor hx hb dX1_includeAll_21 ?_
        refine r_last hx hb hK hS (rfl) (hN.2) (i := k) (by omega) (by decide) dX1_includeAll_22 (fun H_1 locs hat oq hS => ?_)
        have hN := (hN.set hat oq).cong (stepJ_upd (by rw [stepJ_at]) 64)
        refine lv_iinc (v := (nI (k + 1))) (lv' := [(3, .int (nI (k + 1))), (0, .ref h0), (1, .int x), (2, .int y)]) hx hb dX1_includeAll_23 hl (k := 3) rfl (iinc_n k 1) (by decide) rfl (fun ls hl => ?_)
        refine lv_goto (tgt := 2) hx hb dX1_includeAll_26 (by decide) ?_
        have hl := lv_sub hl (l' := [(0, .ref h0), (1, .int x), (2, .int y), (3, .int (nI (k + 1)))]) [1, 2, 3, 0] rfl
        exact ih2 (k + 1) (by omega) H_1 _ hN hS ls hl (by omega)
  have hN := hN.cong (g := stepJ (fun j => f j ||| mk j x y) f 0) (fun j _ => (stepJ_0 _ _ j).symm)
  have hl := lv_sub hl (l' := [(0, .ref h0), (1, .int x), (2, .int y), (3, .int (nI 0))]) [1, 2, 3, 0] rfl
  exact loop2 (64 - 0 + 1) 0 (Nat.zero_le _) s.heap _ hN hS ls hl (Nat.lt_succ_self _)
set_option maxHeartbeats 4000000 in
set_option maxRecDepth 100000 in
theorem k_X1_excludeAll (l : Launch) (D : va_G) (T : Nat → ClassId) (h0 : Nat) (w0 : Nat) (f : Nat → Int64) (x : Int32) (y : Int32) : Met l yX1_excludeAll wsX1_excludeAll ({ frames := 2, cells := 0, slots := 0, locals := 64 }) (va_Pc [.ref h0, .int x, .int y] (fun U => KS D T U ∧ Num D T U.heap h0 w0 f)) (va_Qv (fun (u : Nat → Int64) => ∀ q, q < 4096 → bitL u q = (bitL f q && !inr x y q)) (fun u t => Num D T t.heap h0 w0 u) (fun q => q = w0)) 0 0 (fun q => q = w0) := by
  refine Met.ofW (cc := cX1_excludeAll) (maxL := 4) (ret := none) (by decide) rfl ?_
  intro pg ev s m args below meth c s₁ B hml hv
  obtain ⟨rfl, hK, hH⟩ := hv
  have hx := B.exec
  have hb := B.bytes
  have hr := B.returns
  have hts := atoms_spec (ws := wsX1_excludeAll) B.pre
  have hown : s.vm.findClass RX1 = some m.cls := findClass_of_methodNamed B.named
  have hlocks := B.notSynchronized
  have in_wsX10 : ∀ w ∈ wsX10, w ∈ wsX1_excludeAll := fun w h => List.mem_cons_of_mem _ (List.mem_append_right _ h)
  have hS : va_S (fun q => q = w0) s.heap s.heap [] := va_S.rf
  have hl := lv_entry ([.ref h0, .int x, .int y]) (n := 4) (Nat.le_of_ble_eq_true rfl)
  rw [lg_entry_eq]
  generalize (lg_sl ([.ref h0, .int x, .int y]) ++ List.replicate (4 - (lg_sl ([.ref h0, .int x, .int y])).length) Slot.unset).toArray = ls at hl ⊢
  have hl : lv_has ls 4 [(0, .ref h0), (1, .int x), (2, .int y)] := hl
  refine W_gen (fun Q hQ => ?_)
  have hN := hH
  refine lv_iconst (v := (nI 0)) hx hb dX1_excludeAll_0 (by decide) ?_
  refine lv_istore_n (lv' := [(3, .int (nI 0)), (0, .ref h0), (1, .int x), (2, .int y)]) hx hb dX1_excludeAll_1 rfl hl (by decide) rfl (fun ls hl => ?_)
  have loop2 : ∀ (n2 : Nat) (k : Nat) (hk : k ≤ 64) (H : Heap) (locs : List Loc) (hN : Num D T H h0 w0 (stepJ (fun j => f j &&& (mk j x y ^^^ (-1))) f k)) (hS : va_S (fun q => q = w0) s.heap H locs) (ls : Array Slot) (hl : lv_has ls 4 [(0, .ref h0), (1, .int x), (2, .int y), (3, .int (nI k))]) (hn2 : 64 - k < n2), W pg l ev (headSpec wsX1_excludeAll ({ frames := 2, cells := 0, slots := 0, locals := 64 })).room s m ([.ref h0, .int x, .int y] : List Value).toArray below meth c H locs 0 0 Q (F0 m 2 ls []) := by
    intro n2
    induction n2 with
    | zero =>
      intro k hk H locs hN hS ls hl hn2
      exact absurd hn2 (Nat.not_lt_zero _)
    | succ n2 ih2 =>
      intro k hk H locs hN hS ls hl hn2
      refine lv_iload_n hx hb dX1_excludeAll_2 rfl (lv_at hl 3 rfl) ?_
      refine lv_bipush (v := (nI 64)) hx hb dX1_excludeAll_3 (by decide) ?_
      refine lv_icmp_ge (tgt := 33) hx hb dX1_excludeAll_5 (by decide) (fun c_1 => ?_) (fun c_1 => ?_)
      · skip
        have c_1 : 64 ≤ k := (nI_leI (a := 64) (b := k) (by omega) (by omega)).mp c_1
        subst hQ
        exact W.vret hx hb hr (fun t ht hW => ⟨⟨(fun j => f j &&& (mk j x y ^^^ (-1))), rfl, bit_all (t := fun a b => (a && !b)) (fun k _ j hj => by rw [lb_and, lb_not _ hj]), by have h9 := (hN.cong (by rw [show k = 64 by omega]; exact stepJ_end)); rw [← ht] at h9; exact h9⟩, hS.F ht⟩) hS.2.2 dX1_excludeAll_33
      · skip
        have c_1 : ¬ (64 ≤ k) := fun z => c_1 ((nI_leI (a := 64) (b := k) (by omega) (by omega)).mpr z)
        refine lv_aload_n hx hb dX1_excludeAll_8 rfl (lv_at hl 0 rfl) ?_
        refine r_get (C := RX1) (Tb := TX1) (N := 1) hx hb hts in_wsX10 hown hK (hN.1) rfl 0 (by decide) (hts (.fieldLink RX1 9 "PieceSets$Numbers" "words" "[J") (by decide +kernel)) rfl (v := .ref w0) rfl dX1_excludeAll_9 ?_
        refine lv_iload_n hx hb dX1_excludeAll_12 rfl (lv_at hl 3 rfl) ?_
        refine lv_dup2_11 hx hb dX1_excludeAll_13 rfl rfl ?_
        refine r_lald hx hb hK (hN.2) (i := k) (by omega) (by decide) dX1_excludeAll_14 ?_
        refine lv_iload_n hx hb dX1_excludeAll_15 rfl (lv_at hl 3 rfl) ?_
        refine lv_iload_n hx hb dX1_excludeAll_16 rfl (lv_at hl 1 rfl) ?_
        refine lv_iload_n hx hb dX1_excludeAll_17 rfl (lv_at hl 2 rfl) ?_
        refine vp_callSl (va_Run.run (va_runS (As := [.int (nI k), .int x, .int y]) (rest := [.long ((stepJ (fun j => f j &&& (mk j x y ^^^ (-1))) f k) k), .int (nI k), .ref w0]) ⟨hx, hb, hml, hown, hts⟩ (k_X1_mask l D T k x y (by omega)) (va_cwS 3 hts gX1_excludeAll_X1_mask rfl rfl rfl (by decide +kernel) ⟨Nat.le_of_ble_eq_true rfl, Nat.le_of_ble_eq_true rfl⟩) (pre_S (Φ := fun X => True) hK trivial) rfl rfl hl.1 rfl (lv_room (Nat.le_of_ble_eq_true rfl)) dX1_excludeAll_18 ⟨Nat.le_of_ble_eq_true rfl, Nat.le_of_ble_eq_true rfl⟩)) (fun r_1 hr_1 => ?_)
        subst hr_1
        refine lv_ldc2 hx hb hown (hts (.constantLong RX1 31 (-1)) (by decide +kernel)) dX1_excludeAll_21 ?_
        refine lv_lxor hx hb dX1_excludeAll_24 ?_
        refine lv_land hx hb dX1_excludeAll_25 ?_
        refine r_last hx hb hK hS (rfl) (hN.2) (i := k) (by omega) (by decide) dX1_excludeAll_26 (fun H_1 locs hat oq hS => ?_)
        have hN := (hN.set hat oq).cong (stepJ_upd (by rw [stepJ_at]) 64)
        refine lv_iinc (v := (nI (k + 1))) (lv' := [(3, .int (nI (k + 1))), (0, .ref h0), (1, .int x), (2, .int y)]) hx hb dX1_excludeAll_27 hl (k := 3) rfl (iinc_n k 1) (by decide) rfl (fun ls hl => ?_)
        refine lv_goto (tgt := 2) hx hb dX1_excludeAll_30 (by decide) ?_
        have hl := lv_sub hl (l' := [(0, .ref h0), (1, .int x), (2, .int y), (3, .int (nI (k + 1)))]) [1, 2, 3, 0] rfl
        exact ih2 (k + 1) (by omega) H_1 _ hN hS ls hl (by omega)
  have hN := hN.cong (g := stepJ (fun j => f j &&& (mk j x y ^^^ (-1))) f 0) (fun j _ => (stepJ_0 _ _ j).symm)
  have hl := lv_sub hl (l' := [(0, .ref h0), (1, .int x), (2, .int y), (3, .int (nI 0))]) [1, 2, 3, 0] rfl
  exact loop2 (64 - 0 + 1) 0 (Nat.zero_le _) s.heap _ hN hS ls hl (Nat.lt_succ_self _)
set_option maxHeartbeats 4000000 in
set_option maxRecDepth 100000 in
theorem k_X1_turnAll (l : Launch) (D : va_G) (T : Nat → ClassId) (h0 : Nat) (w0 : Nat) (f : Nat → Int64) (x : Int32) (y : Int32) : Met l yX1_turnAll wsX1_turnAll ({ frames := 2, cells := 0, slots := 0, locals := 64 }) (va_Pc [.ref h0, .int x, .int y] (fun U => KS D T U ∧ Num D T U.heap h0 w0 f)) (va_Qv (fun (u : Nat → Int64) => ∀ q, q < 4096 → bitL u q = (bitL f q ^^ inr x y q)) (fun u t => Num D T t.heap h0 w0 u) (fun q => q = w0)) 0 0 (fun q => q = w0) := by
  refine Met.ofW (cc := cX1_turnAll) (maxL := 4) (ret := none) (by decide) rfl ?_
  intro pg ev s m args below meth c s₁ B hml hv
  obtain ⟨rfl, hK, hH⟩ := hv
  have hx := B.exec
  have hb := B.bytes
  have hr := B.returns
  have hts := atoms_spec (ws := wsX1_turnAll) B.pre
  have hown : s.vm.findClass RX1 = some m.cls := findClass_of_methodNamed B.named
  have hlocks := B.notSynchronized
  have in_wsX10 : ∀ w ∈ wsX10, w ∈ wsX1_turnAll := fun w h => List.mem_cons_of_mem _ (List.mem_append_right _ h)
  have hS : va_S (fun q => q = w0) s.heap s.heap [] := va_S.rf
  have hl := lv_entry ([.ref h0, .int x, .int y]) (n := 4) (Nat.le_of_ble_eq_true rfl)
  rw [lg_entry_eq]
  generalize (lg_sl ([.ref h0, .int x, .int y]) ++ List.replicate (4 - (lg_sl ([.ref h0, .int x, .int y])).length) Slot.unset).toArray = ls at hl ⊢
  have hl : lv_has ls 4 [(0, .ref h0), (1, .int x), (2, .int y)] := hl
  refine W_gen (fun Q hQ => ?_)
  have hN := hH
  refine lv_iconst (v := (nI 0)) hx hb dX1_turnAll_0 (by decide) ?_
  refine lv_istore_n (lv' := [(3, .int (nI 0)), (0, .ref h0), (1, .int x), (2, .int y)]) hx hb dX1_turnAll_1 rfl hl (by decide) rfl (fun ls hl => ?_)
  have loop2 : ∀ (n2 : Nat) (k : Nat) (hk : k ≤ 64) (H : Heap) (locs : List Loc) (hN : Num D T H h0 w0 (stepJ (fun j => f j ^^^ mk j x y) f k)) (hS : va_S (fun q => q = w0) s.heap H locs) (ls : Array Slot) (hl : lv_has ls 4 [(0, .ref h0), (1, .int x), (2, .int y), (3, .int (nI k))]) (hn2 : 64 - k < n2), W pg l ev (headSpec wsX1_turnAll ({ frames := 2, cells := 0, slots := 0, locals := 64 })).room s m ([.ref h0, .int x, .int y] : List Value).toArray below meth c H locs 0 0 Q (F0 m 2 ls []) := by
    intro n2
    induction n2 with
    | zero =>
      intro k hk H locs hN hS ls hl hn2
      exact absurd hn2 (Nat.not_lt_zero _)
    | succ n2 ih2 =>
      intro k hk H locs hN hS ls hl hn2
      refine lv_iload_n hx hb dX1_turnAll_2 rfl (lv_at hl 3 rfl) ?_
      refine lv_bipush (v := (nI 64)) hx hb dX1_turnAll_3 (by decide) ?_
      refine lv_icmp_ge (tgt := 29) hx hb dX1_turnAll_5 (by decide) (fun c_1 => ?_) (fun c_1 => ?_)
      · skip
        have c_1 : 64 ≤ k := (nI_leI (a := 64) (b := k) (by omega) (by omega)).mp c_1
        subst hQ
        exact W.vret hx hb hr (fun t ht hW => ⟨⟨(fun j => f j ^^^ mk j x y), rfl, bit_all (t := fun a b => (a ^^ b)) (fun k _ j hj => lb_xor _ _ _), by have h9 := (hN.cong (by rw [show k = 64 by omega]; exact stepJ_end)); rw [← ht] at h9; exact h9⟩, hS.F ht⟩) hS.2.2 dX1_turnAll_29
      · skip
        have c_1 : ¬ (64 ≤ k) := fun z => c_1 ((nI_leI (a := 64) (b := k) (by omega) (by omega)).mpr z)
        refine lv_aload_n hx hb dX1_turnAll_8 rfl (lv_at hl 0 rfl) ?_
        refine r_get (C := RX1) (Tb := TX1) (N := 1) hx hb hts in_wsX10 hown hK (hN.1) rfl 0 (by decide) (hts (.fieldLink RX1 9 "PieceSets$Numbers" "words" "[J") (by decide +kernel)) rfl (v := .ref w0) rfl dX1_turnAll_9 ?_
        refine lv_iload_n hx hb dX1_turnAll_12 rfl (lv_at hl 3 rfl) ?_
        refine lv_dup2_11 hx hb dX1_turnAll_13 rfl rfl ?_
        refine r_lald hx hb hK (hN.2) (i := k) (by omega) (by decide) dX1_turnAll_14 ?_
        refine lv_iload_n hx hb dX1_turnAll_15 rfl (lv_at hl 3 rfl) ?_
        refine lv_iload_n hx hb dX1_turnAll_16 rfl (lv_at hl 1 rfl) ?_
        refine lv_iload_n hx hb dX1_turnAll_17 rfl (lv_at hl 2 rfl) ?_
        refine vp_callSl (va_Run.run (va_runS (As := [.int (nI k), .int x, .int y]) (rest := [.long ((stepJ (fun j => f j ^^^ mk j x y) f k) k), .int (nI k), .ref w0]) ⟨hx, hb, hml, hown, hts⟩ (k_X1_mask l D T k x y (by omega)) (va_cwS 3 hts gX1_turnAll_X1_mask rfl rfl rfl (by decide +kernel) ⟨Nat.le_of_ble_eq_true rfl, Nat.le_of_ble_eq_true rfl⟩) (pre_S (Φ := fun X => True) hK trivial) rfl rfl hl.1 rfl (lv_room (Nat.le_of_ble_eq_true rfl)) dX1_turnAll_18 ⟨Nat.le_of_ble_eq_true rfl, Nat.le_of_ble_eq_true rfl⟩)) (fun r_1 hr_1 => ?_)
        subst hr_1
        refine lv_lxor hx hb dX1_turnAll_21 ?_
        refine r_last hx hb hK hS (rfl) (hN.2) (i := k) (by omega) (by decide) dX1_turnAll_22 (fun H_1 locs hat oq hS => ?_)
        have hN := (hN.set hat oq).cong (stepJ_upd (by rw [stepJ_at]) 64)
        refine lv_iinc (v := (nI (k + 1))) (lv' := [(3, .int (nI (k + 1))), (0, .ref h0), (1, .int x), (2, .int y)]) hx hb dX1_turnAll_23 hl (k := 3) rfl (iinc_n k 1) (by decide) rfl (fun ls hl => ?_)
        refine lv_goto (tgt := 2) hx hb dX1_turnAll_26 (by decide) ?_
        have hl := lv_sub hl (l' := [(0, .ref h0), (1, .int x), (2, .int y), (3, .int (nI (k + 1)))]) [1, 2, 3, 0] rfl
        exact ih2 (k + 1) (by omega) H_1 _ hN hS ls hl (by omega)
  have hN := hN.cong (g := stepJ (fun j => f j ^^^ mk j x y) f 0) (fun j _ => (stepJ_0 _ _ j).symm)
  have hl := lv_sub hl (l' := [(0, .ref h0), (1, .int x), (2, .int y), (3, .int (nI 0))]) [1, 2, 3, 0] rfl
  exact loop2 (64 - 0 + 1) 0 (Nat.zero_le _) s.heap _ hN hS ls hl (Nat.lt_succ_self _)
set_option maxHeartbeats 4000000 in
set_option maxRecDepth 100000 in
theorem k_X1_count (l : Launch) (D : va_G) (T : Nat → ClassId) (h0 : Nat) (w0 : Nat) (f : Nat → Int64) : Met l yX1_count wsX1_count ({ frames := 2, cells := 0, slots := 0, locals := 44 }) (va_Pc [.ref h0] (fun U => KS D T U ∧ Num D T U.heap h0 w0 f)) (vp_Si (fun r => r = (nI (ct (bitL f) 0 4096)))) 0 0 (fun _ => False) := by
  refine Met.ofW (cc := cX1_count) (maxL := 3) (ret := (some .int)) (by decide) rfl ?_
  intro pg ev s m args below meth c s₁ B hml hv
  obtain ⟨rfl, hK, hH⟩ := hv
  have hx := B.exec
  have hb := B.bytes
  have hr := B.returns
  have hts := atoms_spec (ws := wsX1_count) B.pre
  have hown : s.vm.findClass RX1 = some m.cls := findClass_of_methodNamed B.named
  have hlocks := B.notSynchronized
  have in_wsX10 : ∀ w ∈ wsX10, w ∈ wsX1_count := fun w h => List.mem_cons_of_mem _ (List.mem_append_right _ h)
  have hl := lv_entry ([.ref h0]) (n := 3) (Nat.le_of_ble_eq_true rfl)
  rw [lg_entry_eq]
  generalize (lg_sl ([.ref h0]) ++ List.replicate (3 - (lg_sl ([.ref h0])).length) Slot.unset).toArray = ls at hl ⊢
  have hl : lv_has ls 3 [(0, .ref h0)] := hl
  refine W_gen (fun Q hQ => ?_)
  have hN := hH
  refine lv_iconst (v := (nI 0)) hx hb dX1_count_0 (by decide) ?_
  refine lv_istore_n (lv' := [(1, .int (nI 0)), (0, .ref h0)]) hx hb dX1_count_1 rfl hl (by decide) rfl (fun ls hl => ?_)
  refine lv_iconst (v := (nI 0)) hx hb dX1_count_2 (by decide) ?_
  refine lv_istore_n (lv' := [(2, .int (nI 0)), (1, .int (nI 0)), (0, .ref h0)]) hx hb dX1_count_3 rfl hl (by decide) rfl (fun ls hl => ?_)
  have loop4 : ∀ (n4 : Nat) (i : Nat) (hi : i ≤ 16) (ls : Array Slot) (hl : lv_has ls 3 [(0, .ref h0), (1, .int (nI (ct (bitL f) 0 (256 * i)))), (2, .int (nI i))]) (hn4 : 16 - i < n4), W pg l ev (headSpec wsX1_count ({ frames := 2, cells := 0, slots := 0, locals := 44 })).room s m ([.ref h0] : List Value).toArray below meth c s.heap [] 0 0 Q (F0 m 4 ls []) := by
    intro n4
    induction n4 with
    | zero =>
      intro i hi ls hl hn4
      exact absurd hn4 (Nat.not_lt_zero _)
    | succ n4 ih4 =>
      intro i hi ls hl hn4
      refine lv_iload_n hx hb dX1_count_4 rfl (lv_at hl 2 rfl) ?_
      refine lv_bipush (v := (nI 16)) hx hb dX1_count_5 (by decide) ?_
      refine lv_icmp_ge (tgt := 24) hx hb dX1_count_7 (by decide) (fun c_1 => ?_) (fun c_1 => ?_)
      · skip
        have c_1 : 16 ≤ i := (nI_leI (a := 16) (b := i) (by omega) (by omega)).mp c_1
        refine lv_iload_n hx hb dX1_count_24 rfl (lv_at hl 1 rfl) ?_
        subst hQ
        refine W.iret (v := (nI (ct (bitL f) 0 (256 * i)))) hx hb hr (fun t ht hW => ⟨(nI (ct (bitL f) 0 (256 * i))), rfl, ?_, ht⟩) (fun q h => absurd h List.not_mem_nil) dX1_count_25
        rw [show 4096 = 256 * i by omega]
      · skip
        have c_1 : ¬ (16 ≤ i) := fun z => c_1 ((nI_leI (a := 16) (b := i) (by omega) (by omega)).mpr z)
        refine lv_iload_n hx hb dX1_count_10 rfl (lv_at hl 1 rfl) ?_
        refine lv_aload_n hx hb dX1_count_11 rfl (lv_at hl 0 rfl) ?_
        refine lv_iload_n hx hb dX1_count_12 rfl (lv_at hl 2 rfl) ?_
        refine vp_callSi (va_Run.run (va_runV (As := [.int (nI i)]) (rest := [.int (nI (ct (bitL f) 0 (256 * i)))]) ⟨hx, hb, hml, hown, hts⟩ (k_X1_countInPiece l D T h0 w0 f i (by omega)) (cwV 1 hts gX1_count_X1_countInPiece rfl rfl rfl (by decide +kernel) ⟨Nat.le_of_ble_eq_true rfl, Nat.le_of_ble_eq_true rfl⟩) (pre_V (Φ := fun X => Num D T X h0 w0 f) hK (hN.1) rfl hN) rfl rfl hl.1 rfl (lv_room (Nat.le_of_ble_eq_true rfl)) dX1_count_13 ⟨Nat.le_of_ble_eq_true rfl, Nat.le_of_ble_eq_true rfl⟩)) (fun r_1 hr_1 => ?_)
        subst hr_1
        refine lv_iadd hx hb dX1_count_16 ?_
        refine top_i (nI_add (ct (bitL f) 0 (256 * i)) (ct (bitL f) (256 * i) 256)) ?_
        refine lv_istore_n (lv' := [(1, .int (nI ((ct (bitL f) 0 (256 * i)) + (ct (bitL f) (256 * i) 256)))), (0, .ref h0), (2, .int (nI i))]) hx hb dX1_count_17 rfl hl (by decide) rfl (fun ls hl => ?_)
        refine lv_iinc (v := (nI (i + 1))) (lv' := [(2, .int (nI (i + 1))), (1, .int (nI ((ct (bitL f) 0 (256 * i)) + (ct (bitL f) (256 * i) 256)))), (0, .ref h0)]) hx hb dX1_count_18 hl (k := 2) rfl (iinc_n i 1) (by decide) rfl (fun ls hl => ?_)
        refine lv_goto (tgt := 4) hx hb dX1_count_21 (by decide) ?_
        have hl := lv_sub hl (l' := [(0, .ref h0), (1, .int (nI ((ct (bitL f) 0 (256 * i)) + (ct (bitL f) (256 * i) 256)))), (2, .int (nI (i + 1)))]) [2, 1, 0] rfl
        have q_1 : (nI ((ct (bitL f) 0 (256 * i)) + (ct (bitL f) (256 * i) 256))) = (nI (ct (bitL f) 0 (256 * (i + 1)))) := by rw [show 256 * (i + 1) = 256 * i + 256 by omega, ct_add, Nat.zero_add]
        have hl : lv_has ls 3 [(0, .ref h0), (1, .int (nI (ct (bitL f) 0 (256 * (i + 1))))), (2, .int (nI (i + 1)))] := by
          have h := hl
          rw [q_1] at h
          exact h
        exact ih4 (i + 1) (by omega) ls hl (by omega)
  have hl := lv_sub hl (l' := [(0, .ref h0), (1, .int (nI 0)), (2, .int (nI 0))]) [2, 1, 0] rfl
  have q_1 : (nI 0) = (nI (ct (bitL f) 0 (256 * 0))) := rfl
  have hl : lv_has ls 3 [(0, .ref h0), (1, .int (nI (ct (bitL f) 0 (256 * 0)))), (2, .int (nI 0))] := by
    have h := hl
    rw [q_1] at h
    exact h
  exact loop4 (16 - 0 + 1) 0 (Nat.zero_le _) ls hl (Nat.lt_succ_self _)
set_option maxHeartbeats 4000000 in
set_option maxRecDepth 100000 in
theorem k_X1_countIn (l : Launch) (D : va_G) (T : Nat → ClassId) (h0 : Nat) (w0 : Nat) (f : Nat → Int64) (x : Int32) (y : Int32) : Met l yX1_countIn wsX1_countIn ({ frames := 2, cells := 0, slots := 0, locals := 64 }) (va_Pc [.ref h0, .int x, .int y] (fun U => KS D T U ∧ Num D T U.heap h0 w0 f)) (vp_Si (fun r => r = (nI (ctr (bitL f) x y)))) 0 0 (fun _ => False) := by
  refine Met.ofW (cc := cX1_countIn) (maxL := 5) (ret := (some .int)) (by decide) rfl ?_
  intro pg ev s m args below meth c s₁ B hml hv
  obtain ⟨rfl, hK, hH⟩ := hv
  have hx := B.exec
  have hb := B.bytes
  have hr := B.returns
  have hts := atoms_spec (ws := wsX1_countIn) B.pre
  have hown : s.vm.findClass RX1 = some m.cls := findClass_of_methodNamed B.named
  have hlocks := B.notSynchronized
  have in_wsX10 : ∀ w ∈ wsX10, w ∈ wsX1_countIn := fun w h => List.mem_cons_of_mem _ (List.mem_append_right _ h)
  have hl := lv_entry ([.ref h0, .int x, .int y]) (n := 5) (Nat.le_of_ble_eq_true rfl)
  rw [lg_entry_eq]
  generalize (lg_sl ([.ref h0, .int x, .int y]) ++ List.replicate (5 - (lg_sl ([.ref h0, .int x, .int y])).length) Slot.unset).toArray = ls at hl ⊢
  have hl : lv_has ls 5 [(0, .ref h0), (1, .int x), (2, .int y)] := hl
  refine W_gen (fun Q hQ => ?_)
  have hN := hH
  refine lv_iconst (v := (nI 0)) hx hb dX1_countIn_0 (by decide) ?_
  refine lv_istore_n (lv' := [(3, .int (nI 0)), (0, .ref h0), (1, .int x), (2, .int y)]) hx hb dX1_countIn_1 rfl hl (by decide) rfl (fun ls hl => ?_)
  refine lv_iconst (v := (nI 0)) hx hb dX1_countIn_2 (by decide) ?_
  refine lv_istore (lv' := [(4, .int (nI 0)), (3, .int (nI 0)), (0, .ref h0), (1, .int x), (2, .int y)]) hx hb dX1_countIn_3 hl (by decide) rfl (fun ls hl => ?_)
  have loop5 : ∀ (n5 : Nat) (i : Nat) (hi : i ≤ 64) (ls : Array Slot) (hl : lv_has ls 5 [(0, .ref h0), (1, .int x), (2, .int y), (3, .int (nI (ct (fun j => bitL f j && inr x y j) 0 (64 * i)))), (4, .int (nI i))]) (hn5 : 64 - i < n5), W pg l ev (headSpec wsX1_countIn ({ frames := 2, cells := 0, slots := 0, locals := 64 })).room s m ([.ref h0, .int x, .int y] : List Value).toArray below meth c s.heap [] 0 0 Q (F0 m 5 ls []) := by
    intro n5
    induction n5 with
    | zero =>
      intro i hi ls hl hn5
      exact absurd hn5 (Nat.not_lt_zero _)
    | succ n5 ih5 =>
      intro i hi ls hl hn5
      refine lv_iload hx hb dX1_countIn_5 (lv_at hl 4 rfl) ?_
      refine lv_bipush (v := (nI 64)) hx hb dX1_countIn_7 (by decide) ?_
      refine lv_icmp_ge (tgt := 39) hx hb dX1_countIn_9 (by decide) (fun c_1 => ?_) (fun c_1 => ?_)
      · skip
        have c_1 : 64 ≤ i := (nI_leI (a := 64) (b := i) (by omega) (by omega)).mp c_1
        refine lv_iload_n hx hb dX1_countIn_39 rfl (lv_at hl 3 rfl) ?_
        subst hQ
        refine W.iret (v := (nI (ct (fun j => bitL f j && inr x y j) 0 (64 * i)))) hx hb hr (fun t ht hW => ⟨(nI (ct (fun j => bitL f j && inr x y j) 0 (64 * i))), rfl, ?_, ht⟩) (fun q h => absurd h List.not_mem_nil) dX1_countIn_40
        unfold ctr
        rw [show 4096 = 64 * i by omega]
      · skip
        have c_1 : ¬ (64 ≤ i) := fun z => c_1 ((nI_leI (a := 64) (b := i) (by omega) (by omega)).mpr z)
        refine lv_iload_n hx hb dX1_countIn_12 rfl (lv_at hl 3 rfl) ?_
        refine lv_aload_n hx hb dX1_countIn_13 rfl (lv_at hl 0 rfl) ?_
        refine r_get (C := RX1) (Tb := TX1) (N := 1) hx hb hts in_wsX10 hown hK (hN.1) rfl 0 (by decide) (hts (.fieldLink RX1 9 "PieceSets$Numbers" "words" "[J") (by decide +kernel)) rfl (v := .ref w0) rfl dX1_countIn_14 ?_
        refine lv_iload hx hb dX1_countIn_17 (lv_at hl 4 rfl) ?_
        refine r_lald hx hb hK (hN.2) (i := i) (by omega) (by decide) dX1_countIn_19 ?_
        refine lv_iload hx hb dX1_countIn_20 (lv_at hl 4 rfl) ?_
        refine lv_iload_n hx hb dX1_countIn_22 rfl (lv_at hl 1 rfl) ?_
        refine lv_iload_n hx hb dX1_countIn_23 rfl (lv_at hl 2 rfl) ?_
        refine vp_callSl (va_Run.run (va_runS (As := [.int (nI i), .int x, .int y]) (rest := [.long (f i), .int (nI (ct (fun j => bitL f j && inr x y j) 0 (64 * i)))]) ⟨hx, hb, hml, hown, hts⟩ (k_X1_mask l D T i x y (by omega)) (va_cwS 3 hts gX1_countIn_X1_mask rfl rfl rfl (by decide +kernel) ⟨Nat.le_of_ble_eq_true rfl, Nat.le_of_ble_eq_true rfl⟩) (pre_S (Φ := fun X => True) hK trivial) rfl rfl hl.1 rfl (lv_room (Nat.le_of_ble_eq_true rfl)) dX1_countIn_24 ⟨Nat.le_of_ble_eq_true rfl, Nat.le_of_ble_eq_true rfl⟩)) (fun r_1 hr_1 => ?_)
        subst hr_1
        refine lv_land hx hb dX1_countIn_27 ?_
        refine vp_callSi (va_Run.run (va_runS (As := [.long ((f i) &&& (mk i x y))]) (rest := [.int (nI (ct (fun j => bitL f j && inr x y j) 0 (64 * i)))]) ⟨hx, hb, hml, hown, hts⟩ (k_J13_bitCount_95d88 l D T ((f i) &&& (mk i x y)) ) (va_cwS 1 hts gX1_countIn_J13_bitCount_95d88 rfl rfl rfl (by decide +kernel) ⟨Nat.le_of_ble_eq_true rfl, Nat.le_of_ble_eq_true rfl⟩) (pre_S (Φ := fun X => True) hK trivial) rfl rfl hl.1 rfl (lv_room (Nat.le_of_ble_eq_true rfl)) dX1_countIn_28 ⟨Nat.le_of_ble_eq_true rfl, Nat.le_of_ble_eq_true rfl⟩)) (fun r_2 hr_2 => ?_)
        subst hr_2
        refine lv_iadd hx hb dX1_countIn_31 ?_
        refine top_i (nI_add (ct (fun j => bitL f j && inr x y j) 0 (64 * i)) (pop ((f i) &&& (mk i x y)))) ?_
        refine lv_istore_n (lv' := [(3, .int (nI ((ct (fun j => bitL f j && inr x y j) 0 (64 * i)) + (pop ((f i) &&& (mk i x y)))))), (0, .ref h0), (1, .int x), (2, .int y), (4, .int (nI i))]) hx hb dX1_countIn_32 rfl hl (by decide) rfl (fun ls hl => ?_)
        refine lv_iinc (v := (nI (i + 1))) (lv' := [(4, .int (nI (i + 1))), (3, .int (nI ((ct (fun j => bitL f j && inr x y j) 0 (64 * i)) + (pop ((f i) &&& (mk i x y)))))), (0, .ref h0), (1, .int x), (2, .int y)]) hx hb dX1_countIn_33 hl (k := 4) rfl (iinc_n i 1) (by decide) rfl (fun ls hl => ?_)
        refine lv_goto (tgt := 5) hx hb dX1_countIn_36 (by decide) ?_
        have hl := lv_sub hl (l' := [(0, .ref h0), (1, .int x), (2, .int y), (3, .int (nI ((ct (fun j => bitL f j && inr x y j) 0 (64 * i)) + (pop ((f i) &&& (mk i x y)))))), (4, .int (nI (i + 1)))]) [2, 3, 4, 1, 0] rfl
        have q_1 : (nI ((ct (fun j => bitL f j && inr x y j) 0 (64 * i)) + (pop ((f i) &&& (mk i x y))))) = (nI (ct (fun j => bitL f j && inr x y j) 0 (64 * (i + 1)))) := by rw [pop_mk f x y (by omega), show 64 * (i + 1) = 64 * i + 64 by omega, ct_add, Nat.zero_add]
        have hl : lv_has ls 5 [(0, .ref h0), (1, .int x), (2, .int y), (3, .int (nI (ct (fun j => bitL f j && inr x y j) 0 (64 * (i + 1))))), (4, .int (nI (i + 1)))] := by
          have h := hl
          rw [q_1] at h
          exact h
        exact ih5 (i + 1) (by omega) ls hl (by omega)
  have hl := lv_sub hl (l' := [(0, .ref h0), (1, .int x), (2, .int y), (3, .int (nI 0)), (4, .int (nI 0))]) [2, 3, 4, 1, 0] rfl
  have q_1 : (nI 0) = (nI (ct (fun j => bitL f j && inr x y j) 0 (64 * 0))) := rfl
  have hl : lv_has ls 5 [(0, .ref h0), (1, .int x), (2, .int y), (3, .int (nI (ct (fun j => bitL f j && inr x y j) 0 (64 * 0)))), (4, .int (nI 0))] := by
    have h := hl
    rw [q_1] at h
    exact h
  exact loop5 (64 - 0 + 1) 0 (Nat.zero_le _) ls hl (Nat.lt_succ_self _)
set_option maxHeartbeats 4000000 in
set_option maxRecDepth 100000 in
theorem k_X1_countRuns (l : Launch) (D : va_G) (T : Nat → ClassId) (h0 : Nat) (w0 : Nat) (f : Nat → Int64) (k : Nat) (m1 : Nat) (hkm : k + m1 ≤ 16) : Met l yX1_countRuns wsX1_countRuns ({ frames := 1, cells := 0, slots := 0, locals := 21 }) (va_Pc [.ref h0, .int (nI k), .int (nI m1)] (fun U => KS D T U ∧ Num D T U.heap h0 w0 f)) (vp_Si (fun r => r = (nI (ct (rsG (bitL f) (256 * k)) (256 * k) (256 * m1))))) 0 0 (fun _ => False) := by
  refine Met.ofW (cc := cX1_countRuns) (maxL := 9) (ret := (some .int)) (by decide) rfl ?_
  intro pg ev s m args below meth c s₁ B hml hv
  obtain ⟨rfl, hK, hH⟩ := hv
  have hx := B.exec
  have hb := B.bytes
  have hr := B.returns
  have hts := atoms_spec (ws := wsX1_countRuns) B.pre
  have hown : s.vm.findClass RX1 = some m.cls := findClass_of_methodNamed B.named
  have hlocks := B.notSynchronized
  have in_wsX10 : ∀ w ∈ wsX10, w ∈ wsX1_countRuns := fun w h => List.mem_cons_of_mem _ (List.mem_append_right _ h)
  have hl := lv_entry ([.ref h0, .int (nI k), .int (nI m1)]) (n := 9) (Nat.le_of_ble_eq_true rfl)
  rw [lg_entry_eq]
  generalize (lg_sl ([.ref h0, .int (nI k), .int (nI m1)]) ++ List.replicate (9 - (lg_sl ([.ref h0, .int (nI k), .int (nI m1)])).length) Slot.unset).toArray = ls at hl ⊢
  have hl : lv_has ls 9 [(0, .ref h0), (1, .int (nI k)), (2, .int (nI m1))] := hl
  refine W_gen (fun Q hQ => ?_)
  have hN := hH
  refine lv_iconst (v := (nI 0)) hx hb dX1_countRuns_0 (by decide) ?_
  refine lv_istore_n (lv' := [(3, .int (nI 0)), (0, .ref h0), (1, .int (nI k)), (2, .int (nI m1))]) hx hb dX1_countRuns_1 rfl hl (by decide) rfl (fun ls hl => ?_)
  refine lv_lconst (v := 0) hx hb dX1_countRuns_2 rfl ?_
  refine lv_lstore (lv' := [(4, .long 0), (3, .int (nI 0)), (0, .ref h0), (1, .int (nI k)), (2, .int (nI m1))]) hx hb dX1_countRuns_3 hl (by decide) rfl (fun ls hl => ?_)
  refine lv_iconst (v := (nI 0)) hx hb dX1_countRuns_5 (by decide) ?_
  refine lv_istore (lv' := [(6, .int (nI 0)), (4, .long 0), (3, .int (nI 0)), (0, .ref h0), (1, .int (nI k)), (2, .int (nI m1))]) hx hb dX1_countRuns_6 hl (by decide) rfl (fun ls hl => ?_)
  have loop8 : ∀ (n8 : Nat) (i : Nat) (hi : i ≤ 4 * m1) (ls : Array Slot) (hl : lv_has ls 9 [(0, .ref h0), (1, .int (nI k)), (2, .int (nI m1)), (3, .int (nI (ct (rsG (bitL f) (256 * k)) (256 * k) (64 * i)))), (4, .long (cy f (4 * k) i)), (6, .int (nI i))]) (hn8 : 64 - i < n8), W pg l ev (headSpec wsX1_countRuns ({ frames := 1, cells := 0, slots := 0, locals := 21 })).room s m ([.ref h0, .int (nI k), .int (nI m1)] : List Value).toArray below meth c s.heap [] 0 0 Q (F0 m 8 ls []) := by
    intro n8
    induction n8 with
    | zero =>
      intro i hi ls hl hn8
      exact absurd hn8 (Nat.not_lt_zero _)
    | succ n8 ih8 =>
      intro i hi ls hl hn8
      have hct := ct_le (rsG (bitL f) (256 * k)) (256 * k) (64 * i)
      refine lv_iload hx hb dX1_countRuns_8 (lv_at hl 5 rfl) ?_
      refine lv_iconst (v := (nI 4)) hx hb dX1_countRuns_10 (by decide) ?_
      refine lv_iload_n hx hb dX1_countRuns_11 rfl (lv_at hl 2 rfl) ?_
      refine lv_imul hx hb dX1_countRuns_12 ?_
      refine top_i (pk_mul 4 m1) ?_
      refine lv_icmp_ge (tgt := 61) hx hb dX1_countRuns_13 (by decide) (fun c_1 => ?_) (fun c_1 => ?_)
      · skip
        have c_1 : (4 * m1) ≤ i := (nI_leI (a := (4 * m1)) (b := i) (by omega) (by omega)).mp c_1
        refine lv_iload_n hx hb dX1_countRuns_61 rfl (lv_at hl 3 rfl) ?_
        subst hQ
        refine W.iret (v := (nI (ct (rsG (bitL f) (256 * k)) (256 * k) (64 * i)))) hx hb hr (fun t ht hW => ⟨(nI (ct (rsG (bitL f) (256 * k)) (256 * k) (64 * i))), rfl, ?_, ht⟩) (fun q h => absurd h List.not_mem_nil) dX1_countRuns_62
        rw [show 256 * m1 = 64 * i by omega]
      · skip
        have c_1 : ¬ ((4 * m1) ≤ i) := fun z => c_1 ((nI_leI (a := (4 * m1)) (b := i) (by omega) (by omega)).mpr z)
        refine lv_aload_n hx hb dX1_countRuns_16 rfl (lv_at hl 0 rfl) ?_
        refine lv_iconst (v := (nI 4)) hx hb dX1_countRuns_17 (by decide) ?_
        refine lv_iload_n hx hb dX1_countRuns_18 rfl (lv_at hl 1 rfl) ?_
        refine lv_imul hx hb dX1_countRuns_19 ?_
        refine top_i (pk_mul 4 k) ?_
        refine lv_iload hx hb dX1_countRuns_20 (lv_at hl 5 rfl) ?_
        refine lv_iadd hx hb dX1_countRuns_22 ?_
        refine top_i (nI_add (4 * k) i) ?_
        refine vp_callSl (va_Run.run (va_runV (As := [.int (nI ((4 * k) + i))]) (rest := []) ⟨hx, hb, hml, hown, hts⟩ (k_X1_wordAt l D T h0 w0 f (nI ((4 * k) + i)) ) (cwV 1 hts gX1_countRuns_X1_wordAt rfl rfl rfl (by decide +kernel) ⟨Nat.le_of_ble_eq_true rfl, Nat.le_of_ble_eq_true rfl⟩) (pre_V (Φ := fun X => Num D T X h0 w0 f) hK (hN.1) rfl hN) rfl rfl hl.1 rfl (lv_room (Nat.le_of_ble_eq_true rfl)) dX1_countRuns_23 ⟨Nat.le_of_ble_eq_true rfl, Nat.le_of_ble_eq_true rfl⟩)) (fun r_1 hr_1 => ?_)
        subst hr_1
        refine top_l (x' := (f (4 * k + i))) (wAt_n f (by omega)) ?_
        refine lv_lstore (lv' := [(7, .long (f (4 * k + i))), (0, .ref h0), (1, .int (nI k)), (2, .int (nI m1)), (3, .int (nI (ct (rsG (bitL f) (256 * k)) (256 * k) (64 * i)))), (4, .long (cy f (4 * k) i)), (6, .int (nI i))]) hx hb dX1_countRuns_26 hl (by decide) rfl (fun ls hl => ?_)
        refine lv_iload_n hx hb dX1_countRuns_28 rfl (lv_at hl 4 rfl) ?_
        refine lv_lload hx hb dX1_countRuns_29 (lv_at hl 0 rfl) ?_
        refine lv_lload hx hb dX1_countRuns_31 (lv_at hl 0 rfl) ?_
        refine lv_iconst (v := (nI 1)) hx hb dX1_countRuns_33 (by decide) ?_
        refine lv_lshl (v := (shlL (f (4 * k + i)) (nI 1))) hx hb dX1_countRuns_34 rfl ?_
        refine lv_lload hx hb dX1_countRuns_35 (lv_at hl 5 rfl) ?_
        refine lv_lor hx hb dX1_countRuns_37 ?_
        refine lv_ldc2 hx hb hown (hts (.constantLong RX1 31 (-1)) (by decide +kernel)) dX1_countRuns_38 ?_
        refine lv_lxor hx hb dX1_countRuns_41 ?_
        refine lv_land hx hb dX1_countRuns_42 ?_
        refine vp_callSi (va_Run.run (va_runS (As := [.long ((f (4 * k + i)) &&& (((shlL (f (4 * k + i)) (nI 1)) ||| (cy f (4 * k) i)) ^^^ (-1)))]) (rest := [.int (nI (ct (rsG (bitL f) (256 * k)) (256 * k) (64 * i)))]) ⟨hx, hb, hml, hown, hts⟩ (k_J13_bitCount_95d88 l D T ((f (4 * k + i)) &&& (((shlL (f (4 * k + i)) (nI 1)) ||| (cy f (4 * k) i)) ^^^ (-1))) ) (va_cwS 1 hts gX1_countRuns_J13_bitCount_95d88 rfl rfl rfl (by decide +kernel) ⟨Nat.le_of_ble_eq_true rfl, Nat.le_of_ble_eq_true rfl⟩) (pre_S (Φ := fun X => True) hK trivial) rfl rfl hl.1 rfl (lv_room (Nat.le_of_ble_eq_true rfl)) dX1_countRuns_43 ⟨Nat.le_of_ble_eq_true rfl, Nat.le_of_ble_eq_true rfl⟩)) (fun r_2 hr_2 => ?_)
        subst hr_2
        refine lv_iadd hx hb dX1_countRuns_46 ?_
        refine top_i (nI_add (ct (rsG (bitL f) (256 * k)) (256 * k) (64 * i)) (pop ((f (4 * k + i)) &&& (((shlL (f (4 * k + i)) (nI 1)) ||| (cy f (4 * k) i)) ^^^ (-1))))) ?_
        refine lv_istore_n (lv' := [(3, .int (nI ((ct (rsG (bitL f) (256 * k)) (256 * k) (64 * i)) + (pop ((f (4 * k + i)) &&& (((shlL (f (4 * k + i)) (nI 1)) ||| (cy f (4 * k) i)) ^^^ (-1))))))), (7, .long (f (4 * k + i))), (0, .ref h0), (1, .int (nI k)), (2, .int (nI m1)), (4, .long (cy f (4 * k) i)), (6, .int (nI i))]) hx hb dX1_countRuns_47 rfl hl (by decide) rfl (fun ls hl => ?_)
        refine lv_lload hx hb dX1_countRuns_48 (lv_at hl 1 rfl) ?_
        refine lv_bipush (v := (nI 63)) hx hb dX1_countRuns_50 (by decide) ?_
        refine lv_lushr (v := (ushrL (f (4 * k + i)) (nI 63))) hx hb dX1_countRuns_52 rfl ?_
        refine lv_lstore (lv' := [(4, .long (ushrL (f (4 * k + i)) (nI 63))), (3, .int (nI ((ct (rsG (bitL f) (256 * k)) (256 * k) (64 * i)) + (pop ((f (4 * k + i)) &&& (((shlL (f (4 * k + i)) (nI 1)) ||| (cy f (4 * k) i)) ^^^ (-1))))))), (7, .long (f (4 * k + i))), (0, .ref h0), (1, .int (nI k)), (2, .int (nI m1)), (6, .int (nI i))]) hx hb dX1_countRuns_53 hl (by decide) rfl (fun ls hl => ?_)
        refine lv_iinc (v := (nI (i + 1))) (lv' := [(6, .int (nI (i + 1))), (4, .long (ushrL (f (4 * k + i)) (nI 63))), (3, .int (nI ((ct (rsG (bitL f) (256 * k)) (256 * k) (64 * i)) + (pop ((f (4 * k + i)) &&& (((shlL (f (4 * k + i)) (nI 1)) ||| (cy f (4 * k) i)) ^^^ (-1))))))), (7, .long (f (4 * k + i))), (0, .ref h0), (1, .int (nI k)), (2, .int (nI m1))]) hx hb dX1_countRuns_55 hl (k := 6) rfl (iinc_n i 1) (by decide) rfl (fun ls hl => ?_)
        refine lv_goto (tgt := 8) hx hb dX1_countRuns_58 (by decide) ?_
        have hl := lv_sub hl (l' := [(0, .ref h0), (1, .int (nI k)), (2, .int (nI m1)), (3, .int (nI ((ct (rsG (bitL f) (256 * k)) (256 * k) (64 * i)) + (pop ((f (4 * k + i)) &&& (((shlL (f (4 * k + i)) (nI 1)) ||| (cy f (4 * k) i)) ^^^ (-1))))))), (4, .long (ushrL (f (4 * k + i)) (nI 63))), (6, .int (nI (i + 1)))]) [4, 5, 6, 2, 1, 0] rfl
        have q_1 : (nI ((ct (rsG (bitL f) (256 * k)) (256 * k) (64 * i)) + (pop ((f (4 * k + i)) &&& (((shlL (f (4 * k + i)) (nI 1)) ||| (cy f (4 * k) i)) ^^^ (-1)))))) = (nI (ct (rsG (bitL f) (256 * k)) (256 * k) (64 * (i + 1)))) := by rw [pop_runs, show 64 * (4 * k) = 256 * k by omega, show 64 * (i + 1) = 64 * i + 64 by omega, ct_add]
        have q_2 : (ushrL (f (4 * k + i)) (nI 63)) = (cy f (4 * k) (i + 1)) := cy_s _ _ _
        have hl : lv_has ls 9 [(0, .ref h0), (1, .int (nI k)), (2, .int (nI m1)), (3, .int (nI (ct (rsG (bitL f) (256 * k)) (256 * k) (64 * (i + 1))))), (4, .long (cy f (4 * k) (i + 1))), (6, .int (nI (i + 1)))] := by
          have h := hl
          rw [q_1] at h
          rw [q_2] at h
          exact h
        exact ih8 (i + 1) (by omega) ls hl (by omega)
  have hl := lv_sub hl (l' := [(0, .ref h0), (1, .int (nI k)), (2, .int (nI m1)), (3, .int (nI 0)), (4, .long 0), (6, .int (nI 0))]) [3, 4, 5, 2, 1, 0] rfl
  have q_1 : (nI 0) = (nI (ct (rsG (bitL f) (256 * k)) (256 * k) (64 * 0))) := rfl
  have q_2 : 0 = (cy f (4 * k) 0) := cy_0 _ _
  have hl : lv_has ls 9 [(0, .ref h0), (1, .int (nI k)), (2, .int (nI m1)), (3, .int (nI (ct (rsG (bitL f) (256 * k)) (256 * k) (64 * 0)))), (4, .long (cy f (4 * k) 0)), (6, .int (nI 0))] := by
    have h := hl
    rw [q_1] at h
    rw [q_2] at h
    exact h
  exact loop8 (64 - 0 + 1) 0 (Nat.zero_le _) ls hl (Nat.lt_succ_self _)
set_option maxHeartbeats 4000000 in
set_option maxRecDepth 100000 in
theorem k_X1_nthBit (l : Launch) (D : va_G) (T : Nat → ClassId) (w : Int64) (i : Nat) (hi : i < 2 ^ 31) : Met l yX1_nthBit wsX1_nthBit ({ frames := 0, cells := 0, slots := 0, locals := 0 }) (va_Pc [.long w, .int (nI i)] (fun U => KS D T U ∧ True)) (vp_Si (fun r => r = (nthF (lb w) 64 0 i))) 0 0 (fun _ => False) := by
  refine Met.ofW (cc := cX1_nthBit) (maxL := 5) (ret := (some .int)) (by decide) rfl ?_
  intro pg ev s m args below meth c s₁ B hml hv
  obtain ⟨rfl, hK, hH⟩ := hv
  have hx := B.exec
  have hb := B.bytes
  have hr := B.returns
  have hts := atoms_spec (ws := wsX1_nthBit) B.pre
  have hown : s.vm.findClass RX1 = some m.cls := findClass_of_methodNamed B.named
  have hlocks := B.notSynchronized
  have hl := lv_entry ([.long w, .int (nI i)]) (n := 5) (Nat.le_of_ble_eq_true rfl)
  rw [lg_entry_eq]
  generalize (lg_sl ([.long w, .int (nI i)]) ++ List.replicate (5 - (lg_sl ([.long w, .int (nI i)])).length) Slot.unset).toArray = ls at hl ⊢
  have hl : lv_has ls 5 [(0, .long w), (2, .int (nI i))] := hl
  refine W_gen (fun Q hQ => ?_)
  refine lv_iload_n hx hb dX1_nthBit_0 rfl (lv_at hl 1 rfl) ?_
  refine lv_istore_n (lv' := [(3, .int (nI i)), (0, .long w), (2, .int (nI i))]) hx hb dX1_nthBit_1 rfl hl (by decide) rfl (fun ls hl => ?_)
  refine lv_iconst (v := (nI 0)) hx hb dX1_nthBit_2 (by decide) ?_
  refine lv_istore (lv' := [(4, .int (nI 0)), (3, .int (nI i)), (0, .long w), (2, .int (nI i))]) hx hb dX1_nthBit_3 hl (by decide) rfl (fun ls hl => ?_)
  have loop5 : ∀ (n5 : Nat) (j : Nat) (q : Nat) (hj : j ≤ 64) (hq : q < 2 ^ 31) (hv : nthF (lb w) (64 - j) j q = nthF (lb w) 64 0 i) (ls : Array Slot) (hl : lv_has ls 5 [(0, .long w), (2, .int (nI i)), (3, .int (nI q)), (4, .int (nI j))]) (hn5 : 64 - j < n5), W pg l ev (headSpec wsX1_nthBit ({ frames := 0, cells := 0, slots := 0, locals := 0 })).room s m ([.long w, .int (nI i)] : List Value).toArray below meth c s.heap [] 0 0 Q (F0 m 5 ls []) := by
    intro n5
    induction n5 with
    | zero =>
      intro j q hj hq hv ls hl hn5
      exact absurd hn5 (Nat.not_lt_zero _)
    | succ n5 ih5 =>
      intro j q hj hq hv ls hl hn5
      refine lv_iload hx hb dX1_nthBit_5 (lv_at hl 3 rfl) ?_
      refine lv_bipush (v := (nI 64)) hx hb dX1_nthBit_7 (by decide) ?_
      refine lv_icmp_ge (tgt := 39) hx hb dX1_nthBit_9 (by decide) (fun c_1 => ?_) (fun c_1 => ?_)
      · skip
        have c_1 : 64 ≤ j := (nI_leI (a := 64) (b := j) (by omega) (by omega)).mp c_1
        refine lv_bipush (v := (-9)) hx hb dX1_nthBit_39 (by decide) ?_
        subst hQ
        refine W.iret (v := (-9)) hx hb hr (fun t ht hW => ⟨(-9), rfl, ?_, ht⟩) (fun q h => absurd h List.not_mem_nil) dX1_nthBit_41
        rw [← hv, show 64 - j = 0 by omega]
        exact rfl
      · skip
        have c_1 : ¬ (64 ≤ j) := fun z => c_1 ((nI_leI (a := 64) (b := j) (by omega) (by omega)).mpr z)
        refine lv_lload_n hx hb dX1_nthBit_12 rfl (lv_at hl 0 rfl) ?_
        refine lv_iload hx hb dX1_nthBit_13 (lv_at hl 3 rfl) ?_
        refine lv_lushr (v := (ushrL w (nI j))) hx hb dX1_nthBit_15 rfl ?_
        refine lv_lconst (v := 1) hx hb dX1_nthBit_16 rfl ?_
        refine lv_land hx hb dX1_nthBit_17 ?_
        refine lv_lconst (v := 0) hx hb dX1_nthBit_18 rfl ?_
        refine W.lcmp hx hb dX1_nthBit_19 ?_
        refine top_i (x' := (b2i (lb w j))) (lcmp_bit _ (by omega)) ?_
        refine lv_if_eq (tgt := 33) hx hb dX1_nthBit_20 (by decide) (fun c_2 => ?_) (fun c_2 => ?_)
        · skip
          have c_2 : lb w j = false := b2i_0.mp c_2
          refine lv_iinc (v := (nI (j + 1))) (lv' := [(4, .int (nI (j + 1))), (0, .long w), (2, .int (nI i)), (3, .int (nI q))]) hx hb dX1_nthBit_33 hl (k := 3) rfl (iinc_n j 1) (by decide) rfl (fun ls hl => ?_)
          refine lv_goto (tgt := 5) hx hb dX1_nthBit_36 (by decide) ?_
          have hl := lv_sub hl (l' := [(0, .long w), (2, .int (nI i)), (3, .int (nI q)), (4, .int (nI (j + 1)))]) [1, 2, 3, 0] rfl
          exact ih5 (j + 1) q (by omega) (by omega) (by rw [show 64 - j = (64 - (j + 1)) + 1 by omega, nthF_s (lb w) (64 - (j + 1)) j q] at hv; rw [if_neg (show ¬ (lb w j = true) by rw [c_2]; exact Bool.false_ne_true)] at hv; exact hv) ls hl (by omega)
        · skip
          have c_2 : lb w j = true := b2i_n0.mp c_2
          refine lv_iload_n hx hb dX1_nthBit_23 rfl (lv_at hl 2 rfl) ?_
          refine lv_if_ne (tgt := 30) hx hb dX1_nthBit_24 (by decide) (fun c_3 => ?_) (fun c_3 => ?_)
          · skip
            have c_3 : ¬ (q = 0) := fun z => c_3 ((nI_e0 (a := q) (by omega)).mpr z)
            refine lv_iinc (v := (nI (q - 1))) (lv' := [(3, .int (nI (q - 1))), (0, .long w), (2, .int (nI i)), (4, .int (nI j))]) hx hb dX1_nthBit_30 hl (k := 2) rfl (iinc_m (a := q) (by omega)) (by decide) rfl (fun ls hl => ?_)
            refine lv_iinc (v := (nI (j + 1))) (lv' := [(4, .int (nI (j + 1))), (3, .int (nI (q - 1))), (0, .long w), (2, .int (nI i))]) hx hb dX1_nthBit_33 hl (k := 3) rfl (iinc_n j 1) (by decide) rfl (fun ls hl => ?_)
            refine lv_goto (tgt := 5) hx hb dX1_nthBit_36 (by decide) ?_
            have hl := lv_sub hl (l' := [(0, .long w), (2, .int (nI i)), (3, .int (nI (q - 1))), (4, .int (nI (j + 1)))]) [2, 3, 1, 0] rfl
            exact ih5 (j + 1) (q - 1) (by omega) (by omega) (by rw [show 64 - j = (64 - (j + 1)) + 1 by omega, nthF_s (lb w) (64 - (j + 1)) j q] at hv; rw [if_pos c_2, if_neg c_3] at hv; exact hv) ls hl (by omega)
          · skip
            have c_3 : q = 0 := (nI_e0 (a := q) (by omega)).mp c_3
            refine lv_iload hx hb dX1_nthBit_27 (lv_at hl 3 rfl) ?_
            subst hQ
            refine W.iret (v := (nI j)) hx hb hr (fun t ht hW => ⟨(nI j), rfl, ?_, ht⟩) (fun q h => absurd h List.not_mem_nil) dX1_nthBit_29
            rw [← hv, show 64 - j = (64 - (j + 1)) + 1 by omega, nthF_s (lb w) (64 - (j + 1)) j q, if_pos c_2, if_pos c_3]
  have hl := lv_sub hl (l' := [(0, .long w), (2, .int (nI i)), (3, .int (nI i)), (4, .int (nI 0))]) [2, 3, 1, 0] rfl
  exact loop5 (64 - 0 + 1) 0 i (Nat.zero_le _) (hi) (rfl) ls hl (Nat.lt_succ_self _)
set_option maxHeartbeats 4000000 in
set_option maxRecDepth 100000 in
theorem k_X1_nth (l : Launch) (D : va_G) (T : Nat → ClassId) (h0 : Nat) (w0 : Nat) (f : Nat → Int64) (i : Int32) : Met l yX1_nth wsX1_nth ({ frames := 1, cells := 0, slots := 0, locals := 24 }) (va_Pc [.ref h0, .int i] (fun U => KS D T U ∧ Num D T U.heap h0 w0 f)) (vp_Si (fun r => r = (nthA (bitL f) i))) 0 0 (fun _ => False) := by
  refine Met.ofW (cc := cX1_nth) (maxL := 5) (ret := (some .int)) (by decide) rfl ?_
  intro pg ev s m args below meth c s₁ B hml hv
  obtain ⟨rfl, hK, hH⟩ := hv
  have hx := B.exec
  have hb := B.bytes
  have hr := B.returns
  have hts := atoms_spec (ws := wsX1_nth) B.pre
  have hown : s.vm.findClass RX1 = some m.cls := findClass_of_methodNamed B.named
  have hlocks := B.notSynchronized
  have in_wsX10 : ∀ w ∈ wsX10, w ∈ wsX1_nth := fun w h => List.mem_cons_of_mem _ (List.mem_append_right _ h)
  have hl := lv_entry ([.ref h0, .int i]) (n := 5) (Nat.le_of_ble_eq_true rfl)
  rw [lg_entry_eq]
  generalize (lg_sl ([.ref h0, .int i]) ++ List.replicate (5 - (lg_sl ([.ref h0, .int i])).length) Slot.unset).toArray = ls at hl ⊢
  have hl : lv_has ls 5 [(0, .ref h0), (1, .int i)] := hl
  refine W_gen (fun Q hQ => ?_)
  have hN := hH
  refine lv_iload_n hx hb dX1_nth_0 rfl (lv_at hl 1 rfl) ?_
  refine lv_if_ge (tgt := 7) hx hb dX1_nth_1 (by decide) (fun c_1 => ?_) (fun c_1 => ?_)
  · skip
    have hb31 := cl_b i
    refine lv_iload_n hx hb dX1_nth_7 rfl (lv_at hl 1 rfl) ?_
    refine top_i (x' := (nI i.toNatClampNeg)) (nI_cl (Int32.not_lt.mpr c_1)) ?_
    refine lv_istore_n (lv' := [(2, .int (nI i.toNatClampNeg)), (0, .ref h0), (1, .int i)]) hx hb dX1_nth_8 rfl hl (by decide) rfl (fun ls hl => ?_)
    refine lv_iconst (v := (nI 0)) hx hb dX1_nth_9 (by decide) ?_
    refine lv_istore_n (lv' := [(3, .int (nI 0)), (2, .int (nI i.toNatClampNeg)), (0, .ref h0), (1, .int i)]) hx hb dX1_nth_10 rfl hl (by decide) rfl (fun ls hl => ?_)
    have loop11 : ∀ (n11 : Nat) (j : Nat) (q : Nat) (hj : j ≤ 64) (hq : q < 2 ^ 31) (hv : nthF (bitL f) (64 * (64 - j)) (64 * j) q = nthF (bitL f) 4096 0 i.toNatClampNeg) (ls : Array Slot) (hl : lv_has ls 5 [(0, .ref h0), (1, .int i), (2, .int (nI q)), (3, .int (nI j))]) (hn11 : 64 - j < n11), W pg l ev (headSpec wsX1_nth ({ frames := 1, cells := 0, slots := 0, locals := 24 })).room s m ([.ref h0, .int i] : List Value).toArray below meth c s.heap [] 0 0 Q (F0 m 11 ls []) := by
      intro n11
      induction n11 with
      | zero =>
        intro j q hj hq hv ls hl hn11
        exact absurd hn11 (Nat.not_lt_zero _)
      | succ n11 ih11 =>
        intro j q hj hq hv ls hl hn11
        have hpl := pop_le (f j)
        refine lv_iload_n hx hb dX1_nth_11 rfl (lv_at hl 3 rfl) ?_
        refine lv_bipush (v := (nI 64)) hx hb dX1_nth_12 (by decide) ?_
        refine lv_icmp_ge (tgt := 61) hx hb dX1_nth_14 (by decide) (fun c_2 => ?_) (fun c_2 => ?_)
        · skip
          have c_2 : 64 ≤ j := (nI_leI (a := 64) (b := j) (by omega) (by omega)).mp c_2
          refine lv_bipush (v := (-9)) hx hb dX1_nth_61 (by decide) ?_
          subst hQ
          refine W.iret (v := (-9)) hx hb hr (fun t ht hW => ⟨(-9), rfl, ?_, ht⟩) (fun q h => absurd h List.not_mem_nil) dX1_nth_63
          unfold nthA
          rw [if_neg (Int32.not_lt.mpr c_1), ← hv, show 64 * (64 - j) = 0 by omega]
          exact rfl
        · skip
          have c_2 : ¬ (64 ≤ j) := fun z => c_2 ((nI_leI (a := 64) (b := j) (by omega) (by omega)).mpr z)
          refine lv_aload_n hx hb dX1_nth_17 rfl (lv_at hl 0 rfl) ?_
          refine r_get (C := RX1) (Tb := TX1) (N := 1) hx hb hts in_wsX10 hown hK (hN.1) rfl 0 (by decide) (hts (.fieldLink RX1 9 "PieceSets$Numbers" "words" "[J") (by decide +kernel)) rfl (v := .ref w0) rfl dX1_nth_18 ?_
          refine lv_iload_n hx hb dX1_nth_21 rfl (lv_at hl 3 rfl) ?_
          refine r_lald hx hb hK (hN.2) (i := j) (by omega) (by decide) dX1_nth_22 ?_
          refine vp_callSi (va_Run.run (va_runS (As := [.long (f j)]) (rest := []) ⟨hx, hb, hml, hown, hts⟩ (k_J13_bitCount_95d88 l D T (f j) ) (va_cwS 1 hts gX1_nth_J13_bitCount_95d88 rfl rfl rfl (by decide +kernel) ⟨Nat.le_of_ble_eq_true rfl, Nat.le_of_ble_eq_true rfl⟩) (pre_S (Φ := fun X => True) hK trivial) rfl rfl hl.1 rfl (lv_room (Nat.le_of_ble_eq_true rfl)) dX1_nth_23 ⟨Nat.le_of_ble_eq_true rfl, Nat.le_of_ble_eq_true rfl⟩)) (fun r_1 hr_1 => ?_)
          subst hr_1
          refine lv_istore (lv' := [(4, .int (nI (pop (f j)))), (0, .ref h0), (1, .int i), (2, .int (nI q)), (3, .int (nI j))]) hx hb dX1_nth_26 hl (by decide) rfl (fun ls hl => ?_)
          refine lv_iload_n hx hb dX1_nth_28 rfl (lv_at hl 3 rfl) ?_
          refine lv_iload hx hb dX1_nth_29 (lv_at hl 0 rfl) ?_
          refine lv_icmp_ge (tgt := 50) hx hb dX1_nth_31 (by decide) (fun c_3 => ?_) (fun c_3 => ?_)
          · skip
            have c_3 : (pop (f j)) ≤ q := (nI_leI (a := (pop (f j))) (b := q) (by omega) (by omega)).mp c_3
            refine lv_iload_n hx hb dX1_nth_50 rfl (lv_at hl 3 rfl) ?_
            refine lv_iload hx hb dX1_nth_51 (lv_at hl 0 rfl) ?_
            refine lv_isub hx hb dX1_nth_53 ?_
            refine top_i (pk_sub (a := q) (b := pop (f j)) (by omega)) ?_
            refine lv_istore_n (lv' := [(2, .int (nI (q - (pop (f j))))), (4, .int (nI (pop (f j)))), (0, .ref h0), (1, .int i), (3, .int (nI j))]) hx hb dX1_nth_54 rfl hl (by decide) rfl (fun ls hl => ?_)
            refine lv_iinc (v := (nI (j + 1))) (lv' := [(3, .int (nI (j + 1))), (2, .int (nI (q - (pop (f j))))), (4, .int (nI (pop (f j)))), (0, .ref h0), (1, .int i)]) hx hb dX1_nth_55 hl (k := 4) rfl (iinc_n j 1) (by decide) rfl (fun ls hl => ?_)
            refine lv_goto (tgt := 11) hx hb dX1_nth_58 (by decide) ?_
            have hl := lv_sub hl (l' := [(0, .ref h0), (1, .int i), (2, .int (nI (q - (pop (f j))))), (3, .int (nI (j + 1)))]) [3, 4, 1, 0] rfl
            exact ih11 (j + 1) (q - (pop (f j))) (by omega) (by omega) (by rw [show 64 * (64 - j) = 64 + 64 * (64 - (j + 1)) by omega, nthF_add, if_neg (by rw [← pop_ct]; omega), ← pop_ct] at hv; exact hv) ls hl (by omega)
          · skip
            have c_3 : ¬ ((pop (f j)) ≤ q) := fun z => c_3 ((nI_leI (a := (pop (f j))) (b := q) (by omega) (by omega)).mpr z)
            refine lv_bipush (v := (nI 64)) hx hb dX1_nth_34 (by decide) ?_
            refine lv_iload_n hx hb dX1_nth_36 rfl (lv_at hl 4 rfl) ?_
            refine lv_imul hx hb dX1_nth_37 ?_
            refine top_i (pk_mul 64 j) ?_
            refine lv_aload_n hx hb dX1_nth_38 rfl (lv_at hl 1 rfl) ?_
            refine r_get (C := RX1) (Tb := TX1) (N := 1) hx hb hts in_wsX10 hown hK (hN.1) rfl 0 (by decide) (hts (.fieldLink RX1 9 "PieceSets$Numbers" "words" "[J") (by decide +kernel)) rfl (v := .ref w0) rfl dX1_nth_39 ?_
            refine lv_iload_n hx hb dX1_nth_42 rfl (lv_at hl 4 rfl) ?_
            refine r_lald hx hb hK (hN.2) (i := j) (by omega) (by decide) dX1_nth_43 ?_
            refine lv_iload_n hx hb dX1_nth_44 rfl (lv_at hl 3 rfl) ?_
            refine vp_callSi (va_Run.run (va_runS (As := [.long (f j), .int (nI q)]) (rest := [.int (nI (64 * j))]) ⟨hx, hb, hml, hown, hts⟩ (k_X1_nthBit l D T (f j) q (by omega)) (va_cwS 2 hts gX1_nth_X1_nthBit rfl rfl rfl (by decide +kernel) ⟨Nat.le_of_ble_eq_true rfl, Nat.le_of_ble_eq_true rfl⟩) (pre_S (Φ := fun X => True) hK trivial) rfl rfl hl.1 rfl (lv_room (Nat.le_of_ble_eq_true rfl)) dX1_nth_45 ⟨Nat.le_of_ble_eq_true rfl, Nat.le_of_ble_eq_true rfl⟩)) (fun r_2 hr_2 => ?_)
            subst hr_2
            refine lv_iadd hx hb dX1_nth_48 ?_
            subst hQ
            refine W.iret (v := ((nI (64 * j)) + (nthF (lb (f j)) 64 0 q))) hx hb hr (fun t ht hW => ⟨((nI (64 * j)) + (nthF (lb (f j)) 64 0 q)), rfl, ?_, ht⟩) (fun q h => absurd h List.not_mem_nil) dX1_nth_49
            unfold nthA
            rw [if_neg (Int32.not_lt.mpr c_1), ← hv, show 64 * (64 - j) = 64 + 64 * (64 - (j + 1)) by omega, nthF_add, if_pos (by rw [← pop_ct]; omega)]
            exact nth_word f (by omega) (by omega)
    have hl := lv_sub hl (l' := [(0, .ref h0), (1, .int i), (2, .int (nI i.toNatClampNeg)), (3, .int (nI 0))]) [2, 3, 1, 0] rfl
    exact loop11 (64 - 0 + 1) 0 i.toNatClampNeg (Nat.zero_le _) (hb31) (rfl) ls hl (Nat.lt_succ_self _)
  · skip
    refine lv_bipush (v := (-9)) hx hb dX1_nth_4 (by decide) ?_
    subst hQ
    refine W.iret (v := (-9)) hx hb hr (fun t ht hW => ⟨(-9), rfl, ?_, ht⟩) (fun q h => absurd h List.not_mem_nil) dX1_nth_6
    exact (if_pos (Int32.not_le.mp c_1)).symm
set_option maxHeartbeats 4000000 in
set_option maxRecDepth 100000 in
theorem k_X1_kindOf (l : Launch) (D : va_G) (T : Nat → ClassId) (h0 : Nat) (w0 : Nat) (f : Nat → Int64) (k : Nat) (hk : k < 16) : Met l yX1_kindOf wsX1_kindOf ({ frames := 2, cells := 0, slots := 0, locals := 49 }) (va_Pc [.ref h0, .int (nI k)] (fun U => KS D T U ∧ Num D T U.heap h0 w0 f)) (vp_Si (fun r => r = (pkd (bitL f) k))) 0 0 (fun _ => False) := by
  refine Met.ofW (cc := cX1_kindOf) (maxL := 5) (ret := (some .int)) (by decide) rfl ?_
  intro pg ev s m args below meth c s₁ B hml hv
  obtain ⟨rfl, hK, hH⟩ := hv
  have hx := B.exec
  have hb := B.bytes
  have hr := B.returns
  have hts := atoms_spec (ws := wsX1_kindOf) B.pre
  have hown : s.vm.findClass RX1 = some m.cls := findClass_of_methodNamed B.named
  have hlocks := B.notSynchronized
  have in_wsX10 : ∀ w ∈ wsX10, w ∈ wsX1_kindOf := fun w h => List.mem_cons_of_mem _ (List.mem_append_right _ h)
  have hl := lv_entry ([.ref h0, .int (nI k)]) (n := 5) (Nat.le_of_ble_eq_true rfl)
  rw [lg_entry_eq]
  generalize (lg_sl ([.ref h0, .int (nI k)]) ++ List.replicate (5 - (lg_sl ([.ref h0, .int (nI k)])).length) Slot.unset).toArray = ls at hl ⊢
  have hl : lv_has ls 5 [(0, .ref h0), (1, .int (nI k))] := hl
  refine W_gen (fun Q hQ => ?_)
  have hN := hH
  have hpn := ct_le (bitL f) (256 * k) 256
  have hpr := ct_le (rsG (bitL f) (256 * k)) (256 * k) (256 * 1)
  refine lv_aload_n hx hb dX1_kindOf_0 rfl (lv_at hl 0 rfl) ?_
  refine lv_iload_n hx hb dX1_kindOf_1 rfl (lv_at hl 1 rfl) ?_
  refine vp_callSi (va_Run.run (va_runV (As := [.int (nI k)]) (rest := []) ⟨hx, hb, hml, hown, hts⟩ (k_X1_countInPiece l D T h0 w0 f k (by omega)) (cwV 1 hts gX1_kindOf_X1_countInPiece rfl rfl rfl (by decide +kernel) ⟨Nat.le_of_ble_eq_true rfl, Nat.le_of_ble_eq_true rfl⟩) (pre_V (Φ := fun X => Num D T X h0 w0 f) hK (hN.1) rfl hN) rfl rfl hl.1 rfl (lv_room (Nat.le_of_ble_eq_true rfl)) dX1_kindOf_2 ⟨Nat.le_of_ble_eq_true rfl, Nat.le_of_ble_eq_true rfl⟩)) (fun r_1 hr_1 => ?_)
  subst hr_1
  refine lv_istore_n (lv' := [(2, .int (nI (ct (bitL f) (256 * k) 256))), (0, .ref h0), (1, .int (nI k))]) hx hb dX1_kindOf_5 rfl hl (by decide) rfl (fun ls hl => ?_)
  refine lv_iload_n hx hb dX1_kindOf_6 rfl (lv_at hl 0 rfl) ?_
  refine lv_if_ne (tgt := 13) hx hb dX1_kindOf_7 (by decide) (fun c_1 => ?_) (fun c_1 => ?_)
  · skip
    have c_1 : ¬ ((ct (bitL f) (256 * k) 256) = 0) := fun z => c_1 ((nI_e0 (a := (ct (bitL f) (256 * k) 256)) (by omega)).mpr z)
    refine lv_iconst (v := (nI 2)) hx hb dX1_kindOf_13 (by decide) ?_
    refine lv_iload_n hx hb dX1_kindOf_14 rfl (lv_at hl 0 rfl) ?_
    refine lv_iadd hx hb dX1_kindOf_15 ?_
    refine top_i (nI_add 2 (ct (bitL f) (256 * k) 256)) ?_
    refine lv_istore_n (lv' := [(3, .int (nI (2 + (ct (bitL f) (256 * k) 256)))), (2, .int (nI (ct (bitL f) (256 * k) 256))), (0, .ref h0), (1, .int (nI k))]) hx hb dX1_kindOf_16 rfl hl (by decide) rfl (fun ls hl => ?_)
    refine lv_iconst (v := (nI 2)) hx hb dX1_kindOf_17 (by decide) ?_
    refine lv_iconst (v := (nI 2)) hx hb dX1_kindOf_18 (by decide) ?_
    refine lv_aload_n hx hb dX1_kindOf_19 rfl (lv_at hl 2 rfl) ?_
    refine lv_iload_n hx hb dX1_kindOf_20 rfl (lv_at hl 3 rfl) ?_
    refine lv_iconst (v := (nI 1)) hx hb dX1_kindOf_21 (by decide) ?_
    refine vp_callSi (va_Run.run (va_runV (As := [.int (nI k), .int (nI 1)]) (rest := [.int (nI 2), .int (nI 2)]) ⟨hx, hb, hml, hown, hts⟩ (k_X1_countRuns l D T h0 w0 f k 1 (by omega)) (cwV 2 hts gX1_kindOf_X1_countRuns rfl rfl rfl (by decide +kernel) ⟨Nat.le_of_ble_eq_true rfl, Nat.le_of_ble_eq_true rfl⟩) (pre_V (Φ := fun X => Num D T X h0 w0 f) hK (hN.1) rfl hN) rfl rfl hl.1 rfl (lv_room (Nat.le_of_ble_eq_true rfl)) dX1_kindOf_22 ⟨Nat.le_of_ble_eq_true rfl, Nat.le_of_ble_eq_true rfl⟩)) (fun r_2 hr_2 => ?_)
    subst hr_2
    refine lv_imul hx hb dX1_kindOf_25 ?_
    refine top_i (pk_mul 2 (ct (rsG (bitL f) (256 * k)) (256 * k) (256 * 1))) ?_
    refine lv_iadd hx hb dX1_kindOf_26 ?_
    refine top_i (nI_add 2 (2 * (ct (rsG (bitL f) (256 * k)) (256 * k) (256 * 1)))) ?_
    refine lv_istore (lv' := [(4, .int (nI (2 + (2 * (ct (rsG (bitL f) (256 * k)) (256 * k) (256 * 1)))))), (3, .int (nI (2 + (ct (bitL f) (256 * k) 256)))), (2, .int (nI (ct (bitL f) (256 * k) 256))), (0, .ref h0), (1, .int (nI k))]) hx hb dX1_kindOf_27 hl (by decide) rfl (fun ls hl => ?_)
    refine lv_iload_n hx hb dX1_kindOf_29 rfl (lv_at hl 1 rfl) ?_
    refine lv_iload hx hb dX1_kindOf_30 (lv_at hl 0 rfl) ?_
    refine lv_icmp_gt (tgt := 43) hx hb dX1_kindOf_32 (by decide) (fun c_2 => ?_) (fun c_2 => ?_)
    · skip
      have c_2 : (2 + (2 * (ct (rsG (bitL f) (256 * k)) (256 * k) (256 * 1)))) < (2 + (ct (bitL f) (256 * k) 256)) := (nI_ltI (a := (2 + (2 * (ct (rsG (bitL f) (256 * k)) (256 * k) (256 * 1))))) (b := (2 + (ct (bitL f) (256 * k) 256))) (by omega) (by omega)).mp c_2
      refine lv_iload hx hb dX1_kindOf_43 (lv_at hl 0 rfl) ?_
      refine lv_bipush (v := (nI 33)) hx hb dX1_kindOf_45 (by decide) ?_
      refine lv_icmp_gt (tgt := 54) hx hb dX1_kindOf_47 (by decide) (fun c_3 => ?_) (fun c_3 => ?_)
      · skip
        have c_3 : 33 < (2 + (2 * (ct (rsG (bitL f) (256 * k)) (256 * k) (256 * 1)))) := (nI_ltI (a := 33) (b := (2 + (2 * (ct (rsG (bitL f) (256 * k)) (256 * k) (256 * 1))))) (by omega) (by omega)).mp c_3
        refine lv_iconst (v := (nI 2)) hx hb dX1_kindOf_54 (by decide) ?_
        subst hQ
        refine W.iret (v := (nI 2)) hx hb hr (fun t ht hW => ⟨(nI 2), rfl, ?_, ht⟩) (fun q h => absurd h List.not_mem_nil) dX1_kindOf_55
        first | exact (kd_b c_1 (Or.inl c_2) c_4).symm | exact (kd_b c_1 (Or.inr c_3) c_5).symm | exact (kd_b c_1 (Or.inl c_2) c_3).symm | exact (kd_b c_1 (Or.inr c_3) c_4).symm
      · skip
        have c_3 : ¬ (33 < (2 + (2 * (ct (rsG (bitL f) (256 * k)) (256 * k) (256 * 1))))) := fun z => c_3 ((nI_ltI (a := 33) (b := (2 + (2 * (ct (rsG (bitL f) (256 * k)) (256 * k) (256 * 1))))) (by omega) (by omega)).mpr z)
        refine lv_iconst (v := (nI 1)) hx hb dX1_kindOf_50 (by decide) ?_
        refine lv_goto (tgt := 55) hx hb dX1_kindOf_51 (by decide) ?_
        subst hQ
        refine W.iret (v := (nI 1)) hx hb hr (fun t ht hW => ⟨(nI 1), rfl, ?_, ht⟩) (fun q h => absurd h List.not_mem_nil) dX1_kindOf_55
        first | exact (kd_r c_1 (Or.inl c_2) c_4).symm | exact (kd_r c_1 (Or.inr c_3) c_5).symm | exact (kd_r c_1 (Or.inl c_2) c_3).symm | exact (kd_r c_1 (Or.inr c_3) c_4).symm
    · skip
      have c_2 : ¬ ((2 + (2 * (ct (rsG (bitL f) (256 * k)) (256 * k) (256 * 1)))) < (2 + (ct (bitL f) (256 * k) 256))) := fun z => c_2 ((nI_ltI (a := (2 + (2 * (ct (rsG (bitL f) (256 * k)) (256 * k) (256 * 1))))) (b := (2 + (ct (bitL f) (256 * k) 256))) (by omega) (by omega)).mpr z)
      refine lv_iload_n hx hb dX1_kindOf_35 rfl (lv_at hl 1 rfl) ?_
      refine lv_bipush (v := (nI 33)) hx hb dX1_kindOf_36 (by decide) ?_
      refine lv_icmp_gt (tgt := 43) hx hb dX1_kindOf_38 (by decide) (fun c_3 => ?_) (fun c_3 => ?_)
      · skip
        have c_3 : 33 < (2 + (ct (bitL f) (256 * k) 256)) := (nI_ltI (a := 33) (b := (2 + (ct (bitL f) (256 * k) 256))) (by omega) (by omega)).mp c_3
        refine lv_iload hx hb dX1_kindOf_43 (lv_at hl 0 rfl) ?_
        refine lv_bipush (v := (nI 33)) hx hb dX1_kindOf_45 (by decide) ?_
        refine lv_icmp_gt (tgt := 54) hx hb dX1_kindOf_47 (by decide) (fun c_4 => ?_) (fun c_4 => ?_)
        · skip
          have c_4 : 33 < (2 + (2 * (ct (rsG (bitL f) (256 * k)) (256 * k) (256 * 1)))) := (nI_ltI (a := 33) (b := (2 + (2 * (ct (rsG (bitL f) (256 * k)) (256 * k) (256 * 1))))) (by omega) (by omega)).mp c_4
          refine lv_iconst (v := (nI 2)) hx hb dX1_kindOf_54 (by decide) ?_
          subst hQ
          refine W.iret (v := (nI 2)) hx hb hr (fun t ht hW => ⟨(nI 2), rfl, ?_, ht⟩) (fun q h => absurd h List.not_mem_nil) dX1_kindOf_55
          first | exact (kd_b c_1 (Or.inl c_2) c_4).symm | exact (kd_b c_1 (Or.inr c_3) c_5).symm | exact (kd_b c_1 (Or.inl c_2) c_3).symm | exact (kd_b c_1 (Or.inr c_3) c_4).symm
        · skip
          have c_4 : ¬ (33 < (2 + (2 * (ct (rsG (bitL f) (256 * k)) (256 * k) (256 * 1))))) := fun z => c_4 ((nI_ltI (a := 33) (b := (2 + (2 * (ct (rsG (bitL f) (256 * k)) (256 * k) (256 * 1))))) (by omega) (by omega)).mpr z)
          refine lv_iconst (v := (nI 1)) hx hb dX1_kindOf_50 (by decide) ?_
          refine lv_goto (tgt := 55) hx hb dX1_kindOf_51 (by decide) ?_
          subst hQ
          refine W.iret (v := (nI 1)) hx hb hr (fun t ht hW => ⟨(nI 1), rfl, ?_, ht⟩) (fun q h => absurd h List.not_mem_nil) dX1_kindOf_55
          first | exact (kd_r c_1 (Or.inl c_2) c_4).symm | exact (kd_r c_1 (Or.inr c_3) c_5).symm | exact (kd_r c_1 (Or.inl c_2) c_3).symm | exact (kd_r c_1 (Or.inr c_3) c_4).symm
      · skip
        have c_3 : ¬ (33 < (2 + (ct (bitL f) (256 * k) 256))) := fun z => c_3 ((nI_ltI (a := 33) (b := (2 + (ct (bitL f) (256 * k) 256))) (by omega) (by omega)).mpr z)
        refine lv_iconst (v := (nI 0)) hx hb dX1_kindOf_41 (by decide) ?_
        subst hQ
        refine W.iret (v := (nI 0)) hx hb hr (fun t ht hW => ⟨(nI 0), rfl, ?_, ht⟩) (fun q h => absurd h List.not_mem_nil) dX1_kindOf_42
        exact (kd_a c_1 c_2 c_3).symm
  · skip
    have c_1 : (ct (bitL f) (256 * k) 256) = 0 := (nI_e0 (a := (ct (bitL f) (256 * k) 256)) (by omega)).mp c_1
    refine lv_bipush (v := (-9)) hx hb dX1_kindOf_10 (by decide) ?_
    subst hQ
    refine W.iret (v := (-9)) hx hb hr (fun t ht hW => ⟨(-9), rfl, ?_, ht⟩) (fun q h => absurd h List.not_mem_nil) dX1_kindOf_12
    exact (kd_0 c_1).symm
set_option maxHeartbeats 4000000 in
set_option maxRecDepth 100000 in
theorem k_X1_costOf (l : Launch) (D : va_G) (T : Nat → ClassId) (h0 : Nat) (w0 : Nat) (f : Nat → Int64) (k : Nat) (hk : k < 16) : Met l yX1_costOf wsX1_costOf ({ frames := 3, cells := 0, slots := 0, locals := 73 }) (va_Pc [.ref h0, .int (nI k)] (fun U => KS D T U ∧ Num D T U.heap h0 w0 f)) (vp_Si (fun r => r = (nI (cst (pn (bitL f) k) (pr (bitL f) k))))) 0 0 (fun _ => False) := by
  refine Met.ofW (cc := cX1_costOf) (maxL := 2) (ret := (some .int)) (by decide) rfl ?_
  intro pg ev s m args below meth c s₁ B hml hv
  obtain ⟨rfl, hK, hH⟩ := hv
  have hx := B.exec
  have hb := B.bytes
  have hr := B.returns
  have hts := atoms_spec (ws := wsX1_costOf) B.pre
  have hown : s.vm.findClass RX1 = some m.cls := findClass_of_methodNamed B.named
  have hlocks := B.notSynchronized
  have in_wsX10 : ∀ w ∈ wsX10, w ∈ wsX1_costOf := fun w h => List.mem_cons_of_mem _ (List.mem_append_right _ h)
  have hl := lv_entry ([.ref h0, .int (nI k)]) (n := 2) (Nat.le_of_ble_eq_true rfl)
  rw [lg_entry_eq]
  generalize (lg_sl ([.ref h0, .int (nI k)]) ++ List.replicate (2 - (lg_sl ([.ref h0, .int (nI k)])).length) Slot.unset).toArray = ls at hl ⊢
  have hl : lv_has ls 2 [(0, .ref h0), (1, .int (nI k))] := hl
  refine W_gen (fun Q hQ => ?_)
  have hN := hH
  refine lv_aload_n hx hb dX1_costOf_0 rfl (lv_at hl 0 rfl) ?_
  refine lv_iload_n hx hb dX1_costOf_1 rfl (lv_at hl 1 rfl) ?_
  refine vp_callSi (va_Run.run (va_runV (As := [.int (nI k)]) (rest := []) ⟨hx, hb, hml, hown, hts⟩ (k_X1_kindOf l D T h0 w0 f k (by omega)) (cwV 1 hts gX1_costOf_X1_kindOf rfl rfl rfl (by decide +kernel) ⟨Nat.le_of_ble_eq_true rfl, Nat.le_of_ble_eq_true rfl⟩) (pre_V (Φ := fun X => Num D T X h0 w0 f) hK (hN.1) rfl hN) rfl rfl hl.1 rfl (lv_room (Nat.le_of_ble_eq_true rfl)) dX1_costOf_2 ⟨Nat.le_of_ble_eq_true rfl, Nat.le_of_ble_eq_true rfl⟩)) (fun r_1 hr_1 => ?_)
  subst hr_1
  by_cases c_1 : (pkd (bitL f) k) = nI 0
  · skip
    refine top_i (x' := nI 0) (c_1) ?_
    refine lv_tableIn (tgt := 32) (off := 27) hx hb dX1_costOf_5 (by decide) (by decide) (by decide) (by decide) ?_
    refine lv_iconst (v := (nI 2)) hx hb dX1_costOf_32 (by decide) ?_
    refine lv_aload_n hx hb dX1_costOf_33 rfl (lv_at hl 0 rfl) ?_
    refine lv_iload_n hx hb dX1_costOf_34 rfl (lv_at hl 1 rfl) ?_
    refine vp_callSi (va_Run.run (va_runV (As := [.int (nI k)]) (rest := [.int (nI 2)]) ⟨hx, hb, hml, hown, hts⟩ (k_X1_countInPiece l D T h0 w0 f k (by omega)) (cwV 1 hts gX1_costOf_X1_countInPiece rfl rfl rfl (by decide +kernel) ⟨Nat.le_of_ble_eq_true rfl, Nat.le_of_ble_eq_true rfl⟩) (pre_V (Φ := fun X => Num D T X h0 w0 f) hK (hN.1) rfl hN) rfl rfl hl.1 rfl (lv_room (Nat.le_of_ble_eq_true rfl)) dX1_costOf_35 ⟨Nat.le_of_ble_eq_true rfl, Nat.le_of_ble_eq_true rfl⟩)) (fun r_2 hr_2 => ?_)
    subst hr_2
    refine lv_iadd hx hb dX1_costOf_38 ?_
    refine top_i (nI_add 2 (ct (bitL f) (256 * k) 256)) ?_
    subst hQ
    refine W.iret (v := (nI (2 + (ct (bitL f) (256 * k) 256)))) hx hb hr (fun t ht hW => ⟨(nI (2 + (ct (bitL f) (256 * k) 256))), rfl, ?_, ht⟩) (fun q h => absurd h List.not_mem_nil) dX1_costOf_39
    exact congrArg nI (cst_0 c_1).symm
  by_cases c_2 : (pkd (bitL f) k) = nI 1
  · skip
    refine top_i (x' := nI 1) (c_2) ?_
    refine lv_tableIn (tgt := 40) (off := 35) hx hb dX1_costOf_5 (by decide) (by decide) (by decide) (by decide) ?_
    refine lv_iconst (v := (nI 2)) hx hb dX1_costOf_40 (by decide) ?_
    refine lv_iconst (v := (nI 2)) hx hb dX1_costOf_41 (by decide) ?_
    refine lv_aload_n hx hb dX1_costOf_42 rfl (lv_at hl 0 rfl) ?_
    refine lv_iload_n hx hb dX1_costOf_43 rfl (lv_at hl 1 rfl) ?_
    refine lv_iconst (v := (nI 1)) hx hb dX1_costOf_44 (by decide) ?_
    refine vp_callSi (va_Run.run (va_runV (As := [.int (nI k), .int (nI 1)]) (rest := [.int (nI 2), .int (nI 2)]) ⟨hx, hb, hml, hown, hts⟩ (k_X1_countRuns l D T h0 w0 f k 1 (by omega)) (cwV 2 hts gX1_costOf_X1_countRuns rfl rfl rfl (by decide +kernel) ⟨Nat.le_of_ble_eq_true rfl, Nat.le_of_ble_eq_true rfl⟩) (pre_V (Φ := fun X => Num D T X h0 w0 f) hK (hN.1) rfl hN) rfl rfl hl.1 rfl (lv_room (Nat.le_of_ble_eq_true rfl)) dX1_costOf_45 ⟨Nat.le_of_ble_eq_true rfl, Nat.le_of_ble_eq_true rfl⟩)) (fun r_2 hr_2 => ?_)
    subst hr_2
    refine lv_imul hx hb dX1_costOf_48 ?_
    refine top_i (pk_mul 2 (ct (rsG (bitL f) (256 * k)) (256 * k) (256 * 1))) ?_
    refine lv_iadd hx hb dX1_costOf_49 ?_
    refine top_i (nI_add 2 (2 * (ct (rsG (bitL f) (256 * k)) (256 * k) (256 * 1)))) ?_
    subst hQ
    refine W.iret (v := (nI (2 + (2 * (ct (rsG (bitL f) (256 * k)) (256 * k) (256 * 1)))))) hx hb hr (fun t ht hW => ⟨(nI (2 + (2 * (ct (rsG (bitL f) (256 * k)) (256 * k) (256 * 1))))), rfl, ?_, ht⟩) (fun q h => absurd h List.not_mem_nil) dX1_costOf_50
    exact congrArg nI (cst_1 c_2).symm
  by_cases c_3 : (pkd (bitL f) k) = nI 2
  · skip
    refine top_i (x' := nI 2) (c_3) ?_
    refine lv_tableIn (tgt := 51) (off := 46) hx hb dX1_costOf_5 (by decide) (by decide) (by decide) (by decide) ?_
    refine lv_bipush (v := (nI 33)) hx hb dX1_costOf_51 (by decide) ?_
    subst hQ
    refine W.iret (v := (nI 33)) hx hb hr (fun t ht hW => ⟨(nI 33), rfl, ?_, ht⟩) (fun q h => absurd h List.not_mem_nil) dX1_costOf_53
    exact congrArg nI (cst_2 c_3).symm
  refine lv_tableOut (tgt := 54) hx hb dX1_costOf_5 (tab_out 2 (by decide) (fun k hk => by
    rcases (show k = 0 ∨ k = 1 ∨ k = 2 by omega) with rfl | rfl | rfl <;> first | exact c_1 | exact c_2 | exact c_3)) (by decide) ?_
  refine lv_iconst (v := (nI 0)) hx hb dX1_costOf_54 (by decide) ?_
  subst hQ
  refine W.iret (v := (nI 0)) hx hb hr (fun t ht hW => ⟨(nI 0), rfl, ?_, ht⟩) (fun q h => absurd h List.not_mem_nil) dX1_costOf_55
  exact congrArg nI (cst_n c_1 c_2 c_3).symm
set_option maxHeartbeats 4000000 in
set_option maxRecDepth 100000 in
theorem k_X1_detail (l : Launch) (D : va_G) (T : Nat → ClassId) (h0 : Nat) (w0 : Nat) (f : Nat → Int64) (k : Nat) (y : Int32) (hk : k < 16) : Met l yX1_detail wsX1_detail ({ frames := 4, cells := 0, slots := 0, locals := 94 }) (va_Pc [.ref h0, .int (nI k), .int y] (fun U => KS D T U ∧ Num D T U.heap h0 w0 f)) (vp_Si (fun r => r = (det (bitL f) k y))) 0 0 (fun _ => False) := by
  refine Met.ofW (cc := cX1_detail) (maxL := 3) (ret := (some .int)) (by decide) rfl ?_
  intro pg ev s m args below meth c s₁ B hml hv
  obtain ⟨rfl, hK, hH⟩ := hv
  have hx := B.exec
  have hb := B.bytes
  have hr := B.returns
  have hts := atoms_spec (ws := wsX1_detail) B.pre
  have hown : s.vm.findClass RX1 = some m.cls := findClass_of_methodNamed B.named
  have hlocks := B.notSynchronized
  have in_wsX10 : ∀ w ∈ wsX10, w ∈ wsX1_detail := fun w h => List.mem_cons_of_mem _ (List.mem_append_right _ h)
  have hl := lv_entry ([.ref h0, .int (nI k), .int y]) (n := 3) (Nat.le_of_ble_eq_true rfl)
  rw [lg_entry_eq]
  generalize (lg_sl ([.ref h0, .int (nI k), .int y]) ++ List.replicate (3 - (lg_sl ([.ref h0, .int (nI k), .int y])).length) Slot.unset).toArray = ls at hl ⊢
  have hl : lv_has ls 3 [(0, .ref h0), (1, .int (nI k)), (2, .int y)] := hl
  refine W_gen (fun Q hQ => ?_)
  have hN := hH
  refine lv_iload_n hx hb dX1_detail_0 rfl (lv_at hl 2 rfl) ?_
  by_cases c_1 : y = nI 0
  · skip
    refine top_i (x' := nI 0) (c_1) ?_
    refine lv_tableIn (tgt := 32) (off := 31) hx hb dX1_detail_1 (by decide) (by decide) (by decide) (by decide) ?_
    refine lv_aload_n hx hb dX1_detail_32 rfl (lv_at hl 0 rfl) ?_
    refine lv_iload_n hx hb dX1_detail_33 rfl (lv_at hl 1 rfl) ?_
    refine vp_callSi (va_Run.run (va_runV (As := [.int (nI k)]) (rest := []) ⟨hx, hb, hml, hown, hts⟩ (k_X1_kindOf l D T h0 w0 f k (by omega)) (cwV 1 hts gX1_detail_X1_kindOf rfl rfl rfl (by decide +kernel) ⟨Nat.le_of_ble_eq_true rfl, Nat.le_of_ble_eq_true rfl⟩) (pre_V (Φ := fun X => Num D T X h0 w0 f) hK (hN.1) rfl hN) rfl rfl hl.1 rfl (lv_room (Nat.le_of_ble_eq_true rfl)) dX1_detail_34 ⟨Nat.le_of_ble_eq_true rfl, Nat.le_of_ble_eq_true rfl⟩)) (fun r_1 hr_1 => ?_)
    subst hr_1
    subst hQ
    refine W.iret (v := (pkd (bitL f) k)) hx hb hr (fun t ht hW => ⟨(pkd (bitL f) k), rfl, ?_, ht⟩) (fun q h => absurd h List.not_mem_nil) dX1_detail_37
    exact (if_pos c_1).symm
  by_cases c_2 : y = nI 1
  · skip
    refine top_i (x' := nI 1) (c_2) ?_
    refine lv_tableIn (tgt := 38) (off := 37) hx hb dX1_detail_1 (by decide) (by decide) (by decide) (by decide) ?_
    refine lv_aload_n hx hb dX1_detail_38 rfl (lv_at hl 0 rfl) ?_
    refine lv_iload_n hx hb dX1_detail_39 rfl (lv_at hl 1 rfl) ?_
    refine vp_callSi (va_Run.run (va_runV (As := [.int (nI k)]) (rest := []) ⟨hx, hb, hml, hown, hts⟩ (k_X1_countInPiece l D T h0 w0 f k (by omega)) (cwV 1 hts gX1_detail_X1_countInPiece rfl rfl rfl (by decide +kernel) ⟨Nat.le_of_ble_eq_true rfl, Nat.le_of_ble_eq_true rfl⟩) (pre_V (Φ := fun X => Num D T X h0 w0 f) hK (hN.1) rfl hN) rfl rfl hl.1 rfl (lv_room (Nat.le_of_ble_eq_true rfl)) dX1_detail_40 ⟨Nat.le_of_ble_eq_true rfl, Nat.le_of_ble_eq_true rfl⟩)) (fun r_1 hr_1 => ?_)
    subst hr_1
    subst hQ
    refine W.iret (v := (nI (ct (bitL f) (256 * k) 256))) hx hb hr (fun t ht hW => ⟨(nI (ct (bitL f) (256 * k) 256)), rfl, ?_, ht⟩) (fun q h => absurd h List.not_mem_nil) dX1_detail_43
    exact ((if_neg c_1).trans (if_pos c_2)).symm
  by_cases c_3 : y = nI 2
  · skip
    refine top_i (x' := nI 2) (c_3) ?_
    refine lv_tableIn (tgt := 44) (off := 43) hx hb dX1_detail_1 (by decide) (by decide) (by decide) (by decide) ?_
    refine lv_aload_n hx hb dX1_detail_44 rfl (lv_at hl 0 rfl) ?_
    refine lv_iload_n hx hb dX1_detail_45 rfl (lv_at hl 1 rfl) ?_
    refine lv_iconst (v := (nI 1)) hx hb dX1_detail_46 (by decide) ?_
    refine vp_callSi (va_Run.run (va_runV (As := [.int (nI k), .int (nI 1)]) (rest := []) ⟨hx, hb, hml, hown, hts⟩ (k_X1_countRuns l D T h0 w0 f k 1 (by omega)) (cwV 2 hts gX1_detail_X1_countRuns rfl rfl rfl (by decide +kernel) ⟨Nat.le_of_ble_eq_true rfl, Nat.le_of_ble_eq_true rfl⟩) (pre_V (Φ := fun X => Num D T X h0 w0 f) hK (hN.1) rfl hN) rfl rfl hl.1 rfl (lv_room (Nat.le_of_ble_eq_true rfl)) dX1_detail_47 ⟨Nat.le_of_ble_eq_true rfl, Nat.le_of_ble_eq_true rfl⟩)) (fun r_1 hr_1 => ?_)
    subst hr_1
    subst hQ
    refine W.iret (v := (nI (ct (rsG (bitL f) (256 * k)) (256 * k) (256 * 1)))) hx hb hr (fun t ht hW => ⟨(nI (ct (rsG (bitL f) (256 * k)) (256 * k) (256 * 1))), rfl, ?_, ht⟩) (fun q h => absurd h List.not_mem_nil) dX1_detail_50
    exact ((if_neg c_1).trans ((if_neg c_2).trans (if_pos c_3))).symm
  by_cases c_4 : y = nI 3
  · skip
    refine top_i (x' := nI 3) (c_4) ?_
    refine lv_tableIn (tgt := 51) (off := 50) hx hb dX1_detail_1 (by decide) (by decide) (by decide) (by decide) ?_
    refine lv_aload_n hx hb dX1_detail_51 rfl (lv_at hl 0 rfl) ?_
    refine lv_iload_n hx hb dX1_detail_52 rfl (lv_at hl 1 rfl) ?_
    refine vp_callSi (va_Run.run (va_runV (As := [.int (nI k)]) (rest := []) ⟨hx, hb, hml, hown, hts⟩ (k_X1_costOf l D T h0 w0 f k (by omega)) (cwV 1 hts gX1_detail_X1_costOf rfl rfl rfl (by decide +kernel) ⟨Nat.le_of_ble_eq_true rfl, Nat.le_of_ble_eq_true rfl⟩) (pre_V (Φ := fun X => Num D T X h0 w0 f) hK (hN.1) rfl hN) rfl rfl hl.1 rfl (lv_room (Nat.le_of_ble_eq_true rfl)) dX1_detail_53 ⟨Nat.le_of_ble_eq_true rfl, Nat.le_of_ble_eq_true rfl⟩)) (fun r_1 hr_1 => ?_)
    subst hr_1
    subst hQ
    refine W.iret (v := (nI (cst (pn (bitL f) k) (pr (bitL f) k)))) hx hb hr (fun t ht hW => ⟨(nI (cst (pn (bitL f) k) (pr (bitL f) k))), rfl, ?_, ht⟩) (fun q h => absurd h List.not_mem_nil) dX1_detail_56
    exact ((if_neg c_1).trans ((if_neg c_2).trans ((if_neg c_3).trans (if_pos c_4)))).symm
  refine lv_tableOut (tgt := 57) hx hb dX1_detail_1 (tab_out 3 (by decide) (fun k hk => by
    rcases (show k = 0 ∨ k = 1 ∨ k = 2 ∨ k = 3 by omega) with rfl | rfl | rfl | rfl <;> first | exact c_1 | exact c_2 | exact c_3 | exact c_4)) (by decide) ?_
  refine lv_iconst (v := (-1)) hx hb dX1_detail_57 (by decide) ?_
  subst hQ
  refine W.iret (v := (-1)) hx hb hr (fun t ht hW => ⟨(-1), rfl, ?_, ht⟩) (fun q h => absurd h List.not_mem_nil) dX1_detail_58
  exact ((if_neg c_1).trans ((if_neg c_2).trans ((if_neg c_3).trans (if_neg c_4)))).symm
