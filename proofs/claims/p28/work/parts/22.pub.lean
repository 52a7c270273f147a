set_option maxHeartbeats 4000000 in
set_option maxRecDepth 100000 in
theorem k_X3_size (l : Launch) (D : va_G) (T : Nat → ClassId) (A : Nat → Nat) (Sx : Nat → Prop) (fi : FS) (ss : Int32) : Met l yX3_size wsX3_size ({ frames := 3, cells := 0, slots := 0, locals := 66 }) (va_Pc [.ref (A 0), .int ss] (fun U => KS D T U ∧ PSE D T U.heap A Sx fi)) (vp_Si (fun r => r = (sizR fi ss))) 0 0 (fun _ => False) := by
  refine Met.ofW (cc := cX3_size) (maxL := 2) (ret := (some .int)) (by decide) rfl ?_
  intro pg ev s m args below meth c s₁ B hml hv
  obtain ⟨rfl, hK, hH⟩ := hv
  have hx := B.exec
  have hb := B.bytes
  have hr := B.returns
  have hts := atoms_spec (ws := wsX3_size) B.pre
  have hown : s.vm.findClass RX3 = some m.cls := findClass_of_methodNamed B.named
  have hlocks := B.notSynchronized
  have in_wsX30 : ∀ w ∈ wsX30, w ∈ wsX3_size := fun w h => List.mem_cons_of_mem _ (List.mem_append_left _ (List.mem_append_left _ (List.mem_append_right _ h)))
  have in_wsX20 : ∀ w ∈ wsX20, w ∈ wsX3_size := fun w h => List.mem_cons_of_mem _ (List.mem_append_left _ (List.mem_append_right _ h))
  have in_wsX10 : ∀ w ∈ wsX10, w ∈ wsX3_size := fun w h => List.mem_cons_of_mem _ (List.mem_append_right _ h)
  have hl := lv_entry ([.ref (A 0), .int ss]) (n := 2) (Nat.le_of_ble_eq_true rfl)
  rw [lg_entry_eq]
  generalize (lg_sl ([.ref (A 0), .int ss]) ++ List.replicate (2 - (lg_sl ([.ref (A 0), .int ss])).length) Slot.unset).toArray = ls at hl ⊢
  have hl : lv_has ls 2 [(0, .ref (A 0)), (1, .int ss)] := hl
  refine W_gen (fun Q hQ => ?_)
  obtain ⟨W0, me, co, sc, hP, hSx, hrb, hbl, hk5, hR0, hRh⟩ := id hH
  refine lv_iload_n hx hb dX3_size_0 rfl (lv_at hl 1 rfl) ?_
  refine vp_callSi (va_Run.run (va_runS (As := [.int ss]) (rest := []) ⟨hx, hb, hml, hown, hts⟩ (k_X3_isSet l D T ss ) (va_cwS 1 hts gX3_size_X3_isSet rfl rfl rfl (by decide +kernel) ⟨Nat.le_of_ble_eq_true rfl, Nat.le_of_ble_eq_true rfl⟩) (pre_S (Φ := fun X => True) hK trivial) rfl rfl hl.1 rfl (lv_room (Nat.le_of_ble_eq_true rfl)) dX3_size_1 ⟨Nat.le_of_ble_eq_true rfl, Nat.le_of_ble_eq_true rfl⟩)) (fun r_1 hr_1 => ?_)
  subst hr_1
  refine lv_if_ne (tgt := 9) hx hb dX3_size_4 (by decide) (fun c_1 => ?_) (fun c_1 => ?_)
  · skip
    have c_1 : (decide (¬ ss < 0 ∧ ss < nI 6)) = true := b2i_n0.mp c_1
    have c_1 : ¬ ss < 0 ∧ ss < nI 6 := of_decide_eq_true c_1
    obtain ⟨sN, hsN, rfl⟩ := okX (N := 6) (by decide) c_1
    refine lv_aload_n hx hb dX3_size_9 rfl (lv_at hl 0 rfl) ?_
    refine r_get (C := RX3) (Tb := TX3) (N := 5) hx hb hts in_wsX30 hown hK (hP.2.1) rfl 0 (by decide) (hts (.fieldLink RX3 10 "PieceSets" "now" "LPieceSets$State;") (by decide +kernel)) rfl (v := .ref (slA A 0 0)) rfl dX3_size_10 ?_
    refine r_getN (C := RX2) (Tb := TX2) (N := 3) (host := "PieceSets") hx hb hts in_wsX20 hown hK ((hP.2.2.2.2.2 0 (by omega)).1) rfl 0 (by decide) (hK.2.f (args := ([.ref (A 0), .int (nI sN)] : List Value).toArray) 3 rfl) rfl (v := .ref (slA A 0 1)) rfl dX3_size_13 ?_
    refine lv_iload_n hx hb dX3_size_16 rfl (lv_at hl 1 rfl) ?_
    refine r_nald hx hb hK ((hP.2.2.2.2.2 0 (by omega)).2.1) (i := sN) (by omega) (by decide) (q := (slA A 0 (4 + 2 * sN))) (rfl) dX3_size_17 ?_
    refine vp_callSi (va_Run.run (va_runVN (As := []) (rest := []) ⟨hx, hb, hml, hown, hts⟩ (k_X1_count l D T (slA A 0 (4 + 2 * sN)) (slA A 0 (5 + 2 * sN)) (W0 0 sN) ) (⟨va_cnB 0 hts ggX3_size_X1_count rfl rfl rfl (hK.2.m (args := ([.ref (A 0), .int (nI sN)] : List Value).toArray) 15 rfl) (hts (.initialized RX1) (by decide +kernel)) (by decide +kernel) ⟨Nat.le_of_ble_eq_true rfl, Nat.le_of_ble_eq_true rfl⟩, hts (.instanceMethod yX1_count) (by decide +kernel), hts (.selects RX1 yX1_count yX1_count) (by decide +kernel)⟩) (pre_V (Φ := fun X => Num D T X (slA A 0 (4 + 2 * sN)) (slA A 0 (5 + 2 * sN)) (W0 0 sN)) hK (((hP.2.2.2.2.2 0 (by omega)).2.2.2.2 sN (by omega)).1) rfl ((hP.2.2.2.2.2 0 (by omega)).2.2.2.2 sN (by omega))) rfl rfl hl.1 rfl (lv_room (Nat.le_of_ble_eq_true rfl)) dX3_size_18 ⟨Nat.le_of_ble_eq_true rfl, Nat.le_of_ble_eq_true rfl⟩)) (fun r_2 hr_2 => ?_)
    subst hr_2
    subst hQ
    refine W.iret (v := (nI (ct (bitL (W0 0 sN)) 0 4096))) hx hb hr (fun t ht hW => ⟨(nI (ct (bitL (W0 0 sN)) 0 4096)), rfl, ?_, ht⟩) (fun q h => absurd h List.not_mem_nil) dX3_size_21
    unfold sizR
    rw [if_pos (okN hsN (by decide)), cl_n (by omega)]
    exact congrArg nI (ct_cong (fun x _ h => hR0.1 _ hsN x (by omega)))
  · skip
    have c_1 : (decide (¬ ss < 0 ∧ ss < nI 6)) = false := b2i_0.mp c_1
    have c_1 : ¬ (¬ ss < 0 ∧ ss < nI 6) := of_decide_eq_false c_1
    refine lv_iconst (v := (-1)) hx hb dX3_size_7 (by decide) ?_
    subst hQ
    refine W.iret (v := (-1)) hx hb hr (fun t ht hW => ⟨(-1), rfl, ?_, ht⟩) (fun q h => absurd h List.not_mem_nil) dX3_size_8
    exact (if_neg c_1).symm
set_option maxHeartbeats 4000000 in
set_option maxRecDepth 100000 in
theorem k_X3_contains (l : Launch) (D : va_G) (T : Nat → ClassId) (A : Nat → Nat) (Sx : Nat → Prop) (fi : FS) (ss : Int32) (x : Int32) : Met l yX3_contains wsX3_contains ({ frames := 2, cells := 0, slots := 0, locals := 41 }) (va_Pc [.ref (A 0), .int ss, .int x] (fun U => KS D T U ∧ PSE D T U.heap A Sx fi)) (vp_Si (fun r => r = (conR fi ss x))) 0 0 (fun _ => False) := by
  refine Met.ofW (cc := cX3_contains) (maxL := 3) (ret := (some .int)) (by decide) rfl ?_
  intro pg ev s m args below meth c s₁ B hml hv
  obtain ⟨rfl, hK, hH⟩ := hv
  have hx := B.exec
  have hb := B.bytes
  have hr := B.returns
  have hts := atoms_spec (ws := wsX3_contains) B.pre
  have hown : s.vm.findClass RX3 = some m.cls := findClass_of_methodNamed B.named
  have hlocks := B.notSynchronized
  have in_wsX30 : ∀ w ∈ wsX30, w ∈ wsX3_contains := fun w h => List.mem_cons_of_mem _ (List.mem_append_left _ (List.mem_append_left _ (List.mem_append_right _ h)))
  have in_wsX20 : ∀ w ∈ wsX20, w ∈ wsX3_contains := fun w h => List.mem_cons_of_mem _ (List.mem_append_left _ (List.mem_append_right _ h))
  have in_wsX10 : ∀ w ∈ wsX10, w ∈ wsX3_contains := fun w h => List.mem_cons_of_mem _ (List.mem_append_right _ h)
  have hl := lv_entry ([.ref (A 0), .int ss, .int x]) (n := 3) (Nat.le_of_ble_eq_true rfl)
  rw [lg_entry_eq]
  generalize (lg_sl ([.ref (A 0), .int ss, .int x]) ++ List.replicate (3 - (lg_sl ([.ref (A 0), .int ss, .int x])).length) Slot.unset).toArray = ls at hl ⊢
  have hl : lv_has ls 3 [(0, .ref (A 0)), (1, .int ss), (2, .int x)] := hl
  refine W_gen (fun Q hQ => ?_)
  obtain ⟨W0, me, co, sc, hP, hSx, hrb, hbl, hk5, hR0, hRh⟩ := id hH
  refine lv_iload_n hx hb dX3_contains_0 rfl (lv_at hl 1 rfl) ?_
  refine vp_callSi (va_Run.run (va_runS (As := [.int ss]) (rest := []) ⟨hx, hb, hml, hown, hts⟩ (k_X3_isSet l D T ss ) (va_cwS 1 hts gX3_contains_X3_isSet rfl rfl rfl (by decide +kernel) ⟨Nat.le_of_ble_eq_true rfl, Nat.le_of_ble_eq_true rfl⟩) (pre_S (Φ := fun X => True) hK trivial) rfl rfl hl.1 rfl (lv_room (Nat.le_of_ble_eq_true rfl)) dX3_contains_1 ⟨Nat.le_of_ble_eq_true rfl, Nat.le_of_ble_eq_true rfl⟩)) (fun r_1 hr_1 => ?_)
  subst hr_1
  refine lv_if_ne (tgt := 9) hx hb dX3_contains_4 (by decide) (fun c_1 => ?_) (fun c_1 => ?_)
  · skip
    have c_1 : (decide (¬ ss < 0 ∧ ss < nI 6)) = true := b2i_n0.mp c_1
    have c_1 : ¬ ss < 0 ∧ ss < nI 6 := of_decide_eq_true c_1
    obtain ⟨sN, hsN, rfl⟩ := okX (N := 6) (by decide) c_1
    refine lv_aload_n hx hb dX3_contains_9 rfl (lv_at hl 0 rfl) ?_
    refine r_get (C := RX3) (Tb := TX3) (N := 5) hx hb hts in_wsX30 hown hK (hP.2.1) rfl 0 (by decide) (hts (.fieldLink RX3 10 "PieceSets" "now" "LPieceSets$State;") (by decide +kernel)) rfl (v := .ref (slA A 0 0)) rfl dX3_contains_10 ?_
    refine r_getN (C := RX2) (Tb := TX2) (N := 3) (host := "PieceSets") hx hb hts in_wsX20 hown hK ((hP.2.2.2.2.2 0 (by omega)).1) rfl 0 (by decide) (hK.2.f (args := ([.ref (A 0), .int (nI sN), .int x] : List Value).toArray) 3 rfl) rfl (v := .ref (slA A 0 1)) rfl dX3_contains_13 ?_
    refine lv_iload_n hx hb dX3_contains_16 rfl (lv_at hl 1 rfl) ?_
    refine r_nald hx hb hK ((hP.2.2.2.2.2 0 (by omega)).2.1) (i := sN) (by omega) (by decide) (q := (slA A 0 (4 + 2 * sN))) (rfl) dX3_contains_17 ?_
    refine lv_iload_n hx hb dX3_contains_18 rfl (lv_at hl 2 rfl) ?_
    refine vp_callSi (va_Run.run (va_runVN (As := [.int x]) (rest := []) ⟨hx, hb, hml, hown, hts⟩ (k_X1_holds l D T (slA A 0 (4 + 2 * sN)) (slA A 0 (5 + 2 * sN)) (W0 0 sN) x ) (⟨va_cnB 1 hts ggX3_contains_X1_holds rfl rfl rfl (hK.2.m (args := ([.ref (A 0), .int (nI sN), .int x] : List Value).toArray) 35 rfl) (hts (.initialized RX1) (by decide +kernel)) (by decide +kernel) ⟨Nat.le_of_ble_eq_true rfl, Nat.le_of_ble_eq_true rfl⟩, hts (.instanceMethod yX1_holds) (by decide +kernel), hts (.selects RX1 yX1_holds yX1_holds) (by decide +kernel)⟩) (pre_V (Φ := fun X => Num D T X (slA A 0 (4 + 2 * sN)) (slA A 0 (5 + 2 * sN)) (W0 0 sN)) hK (((hP.2.2.2.2.2 0 (by omega)).2.2.2.2 sN (by omega)).1) rfl ((hP.2.2.2.2.2 0 (by omega)).2.2.2.2 sN (by omega))) rfl rfl hl.1 rfl (lv_room (Nat.le_of_ble_eq_true rfl)) dX3_contains_19 ⟨Nat.le_of_ble_eq_true rfl, Nat.le_of_ble_eq_true rfl⟩)) (fun r_2 hr_2 => ?_)
    subst hr_2
    refine lv_if_eq (tgt := 29) hx hb dX3_contains_22 (by decide) (fun c_2 => ?_) (fun c_2 => ?_)
    · skip
      have c_2 : hlt (bitL (W0 0 sN)) x = false := b2i_0.mp c_2
      refine lv_iconst (v := (nI 0)) hx hb dX3_contains_29 (by decide) ?_
      subst hQ
      refine W.iret (v := (nI 0)) hx hb hr (fun t ht hW => ⟨(nI 0), rfl, ?_, ht⟩) (fun q h => absurd h List.not_mem_nil) dX3_contains_30
      unfold conR
      rw [if_pos (okN hsN (by decide)), cl_n (by omega), ← hlt_cong (fun x h => hR0.1 _ hsN x h), c_2]
      exact rfl
    · skip
      have c_2 : hlt (bitL (W0 0 sN)) x = true := b2i_n0.mp c_2
      refine lv_iconst (v := (nI 1)) hx hb dX3_contains_25 (by decide) ?_
      refine lv_goto (tgt := 30) hx hb dX3_contains_26 (by decide) ?_
      subst hQ
      refine W.iret (v := (nI 1)) hx hb hr (fun t ht hW => ⟨(nI 1), rfl, ?_, ht⟩) (fun q h => absurd h List.not_mem_nil) dX3_contains_30
      unfold conR
      rw [if_pos (okN hsN (by decide)), cl_n (by omega), ← hlt_cong (fun x h => hR0.1 _ hsN x h), c_2]
      exact rfl
  · skip
    have c_1 : (decide (¬ ss < 0 ∧ ss < nI 6)) = false := b2i_0.mp c_1
    have c_1 : ¬ (¬ ss < 0 ∧ ss < nI 6) := of_decide_eq_false c_1
    refine lv_iconst (v := (-1)) hx hb dX3_contains_7 (by decide) ?_
    subst hQ
    refine W.iret (v := (-1)) hx hb hr (fun t ht hW => ⟨(-1), rfl, ?_, ht⟩) (fun q h => absurd h List.not_mem_nil) dX3_contains_8
    exact (if_neg c_1).symm
set_option maxHeartbeats 4000000 in
set_option maxRecDepth 100000 in
theorem k_X3_rank (l : Launch) (D : va_G) (T : Nat → ClassId) (A : Nat → Nat) (Sx : Nat → Prop) (fi : FS) (ss : Int32) (x : Int32) : Met l yX3_rank wsX3_rank ({ frames := 3, cells := 0, slots := 0, locals := 88 }) (va_Pc [.ref (A 0), .int ss, .int x] (fun U => KS D T U ∧ PSE D T U.heap A Sx fi)) (vp_Si (fun r => r = (ranR fi ss x))) 0 0 (fun _ => False) := by
  refine Met.ofW (cc := cX3_rank) (maxL := 3) (ret := (some .int)) (by decide) rfl ?_
  intro pg ev s m args below meth c s₁ B hml hv
  obtain ⟨rfl, hK, hH⟩ := hv
  have hx := B.exec
  have hb := B.bytes
  have hr := B.returns
  have hts := atoms_spec (ws := wsX3_rank) B.pre
  have hown : s.vm.findClass RX3 = some m.cls := findClass_of_methodNamed B.named
  have hlocks := B.notSynchronized
  have in_wsX30 : ∀ w ∈ wsX30, w ∈ wsX3_rank := fun w h => List.mem_cons_of_mem _ (List.mem_append_left _ (List.mem_append_left _ (List.mem_append_right _ h)))
  have in_wsX20 : ∀ w ∈ wsX20, w ∈ wsX3_rank := fun w h => List.mem_cons_of_mem _ (List.mem_append_left _ (List.mem_append_right _ h))
  have in_wsX10 : ∀ w ∈ wsX10, w ∈ wsX3_rank := fun w h => List.mem_cons_of_mem _ (List.mem_append_right _ h)
  have hl := lv_entry ([.ref (A 0), .int ss, .int x]) (n := 3) (Nat.le_of_ble_eq_true rfl)
  rw [lg_entry_eq]
  generalize (lg_sl ([.ref (A 0), .int ss, .int x]) ++ List.replicate (3 - (lg_sl ([.ref (A 0), .int ss, .int x])).length) Slot.unset).toArray = ls at hl ⊢
  have hl : lv_has ls 3 [(0, .ref (A 0)), (1, .int ss), (2, .int x)] := hl
  refine W_gen (fun Q hQ => ?_)
  obtain ⟨W0, me, co, sc, hP, hSx, hrb, hbl, hk5, hR0, hRh⟩ := id hH
  refine lv_iload_n hx hb dX3_rank_0 rfl (lv_at hl 1 rfl) ?_
  refine vp_callSi (va_Run.run (va_runS (As := [.int ss]) (rest := []) ⟨hx, hb, hml, hown, hts⟩ (k_X3_isSet l D T ss ) (va_cwS 1 hts gX3_rank_X3_isSet rfl rfl rfl (by decide +kernel) ⟨Nat.le_of_ble_eq_true rfl, Nat.le_of_ble_eq_true rfl⟩) (pre_S (Φ := fun X => True) hK trivial) rfl rfl hl.1 rfl (lv_room (Nat.le_of_ble_eq_true rfl)) dX3_rank_1 ⟨Nat.le_of_ble_eq_true rfl, Nat.le_of_ble_eq_true rfl⟩)) (fun r_1 hr_1 => ?_)
  subst hr_1
  refine lv_if_ne (tgt := 9) hx hb dX3_rank_4 (by decide) (fun c_1 => ?_) (fun c_1 => ?_)
  · skip
    have c_1 : (decide (¬ ss < 0 ∧ ss < nI 6)) = true := b2i_n0.mp c_1
    have c_1 : ¬ ss < 0 ∧ ss < nI 6 := of_decide_eq_true c_1
    obtain ⟨sN, hsN, rfl⟩ := okX (N := 6) (by decide) c_1
    refine lv_aload_n hx hb dX3_rank_9 rfl (lv_at hl 0 rfl) ?_
    refine r_get (C := RX3) (Tb := TX3) (N := 5) hx hb hts in_wsX30 hown hK (hP.2.1) rfl 0 (by decide) (hts (.fieldLink RX3 10 "PieceSets" "now" "LPieceSets$State;") (by decide +kernel)) rfl (v := .ref (slA A 0 0)) rfl dX3_rank_10 ?_
    refine r_getN (C := RX2) (Tb := TX2) (N := 3) (host := "PieceSets") hx hb hts in_wsX20 hown hK ((hP.2.2.2.2.2 0 (by omega)).1) rfl 0 (by decide) (hK.2.f (args := ([.ref (A 0), .int (nI sN), .int x] : List Value).toArray) 3 rfl) rfl (v := .ref (slA A 0 1)) rfl dX3_rank_13 ?_
    refine lv_iload_n hx hb dX3_rank_16 rfl (lv_at hl 1 rfl) ?_
    refine r_nald hx hb hK ((hP.2.2.2.2.2 0 (by omega)).2.1) (i := sN) (by omega) (by decide) (q := (slA A 0 (4 + 2 * sN))) (rfl) dX3_rank_17 ?_
    refine lv_iconst (v := (nI 0)) hx hb dX3_rank_18 (by decide) ?_
    refine lv_iload_n hx hb dX3_rank_19 rfl (lv_at hl 2 rfl) ?_
    refine vp_callSi (va_Run.run (va_runVN (As := [.int (nI 0), .int x]) (rest := []) ⟨hx, hb, hml, hown, hts⟩ (k_X1_countIn l D T (slA A 0 (4 + 2 * sN)) (slA A 0 (5 + 2 * sN)) (W0 0 sN) (nI 0) x ) (⟨va_cnB 2 hts ggX3_rank_X1_countIn rfl rfl rfl (hK.2.m (args := ([.ref (A 0), .int (nI sN), .int x] : List Value).toArray) 18 rfl) (hts (.initialized RX1) (by decide +kernel)) (by decide +kernel) ⟨Nat.le_of_ble_eq_true rfl, Nat.le_of_ble_eq_true rfl⟩, hts (.instanceMethod yX1_countIn) (by decide +kernel), hts (.selects RX1 yX1_countIn yX1_countIn) (by decide +kernel)⟩) (pre_V (Φ := fun X => Num D T X (slA A 0 (4 + 2 * sN)) (slA A 0 (5 + 2 * sN)) (W0 0 sN)) hK (((hP.2.2.2.2.2 0 (by omega)).2.2.2.2 sN (by omega)).1) rfl ((hP.2.2.2.2.2 0 (by omega)).2.2.2.2 sN (by omega))) rfl rfl hl.1 rfl (lv_room (Nat.le_of_ble_eq_true rfl)) dX3_rank_20 ⟨Nat.le_of_ble_eq_true rfl, Nat.le_of_ble_eq_true rfl⟩)) (fun r_2 hr_2 => ?_)
    subst hr_2
    subst hQ
    refine W.iret (v := (nI (ctr (bitL (W0 0 sN)) (nI 0) x))) hx hb hr (fun t ht hW => ⟨(nI (ctr (bitL (W0 0 sN)) (nI 0) x)), rfl, ?_, ht⟩) (fun q h => absurd h List.not_mem_nil) dX3_rank_23
    unfold ranR
    rw [if_pos (okN hsN (by decide)), cl_n (by omega), ctr_cong (fun x h => hR0.1 _ hsN x h)]
  · skip
    have c_1 : (decide (¬ ss < 0 ∧ ss < nI 6)) = false := b2i_0.mp c_1
    have c_1 : ¬ (¬ ss < 0 ∧ ss < nI 6) := of_decide_eq_false c_1
    refine lv_iconst (v := (-1)) hx hb dX3_rank_7 (by decide) ?_
    subst hQ
    refine W.iret (v := (-1)) hx hb hr (fun t ht hW => ⟨(-1), rfl, ?_, ht⟩) (fun q h => absurd h List.not_mem_nil) dX3_rank_8
    exact (if_neg c_1).symm
set_option maxHeartbeats 4000000 in
set_option maxRecDepth 100000 in
theorem k_X3_select (l : Launch) (D : va_G) (T : Nat → ClassId) (A : Nat → Nat) (Sx : Nat → Prop) (fi : FS) (ss : Int32) (x : Int32) : Met l yX3_select wsX3_select ({ frames := 2, cells := 0, slots := 0, locals := 48 }) (va_Pc [.ref (A 0), .int ss, .int x] (fun U => KS D T U ∧ PSE D T U.heap A Sx fi)) (vp_Si (fun r => r = (selR fi ss x))) 0 0 (fun _ => False) := by
  refine Met.ofW (cc := cX3_select) (maxL := 3) (ret := (some .int)) (by decide) rfl ?_
  intro pg ev s m args below meth c s₁ B hml hv
  obtain ⟨rfl, hK, hH⟩ := hv
  have hx := B.exec
  have hb := B.bytes
  have hr := B.returns
  have hts := atoms_spec (ws := wsX3_select) B.pre
  have hown : s.vm.findClass RX3 = some m.cls := findClass_of_methodNamed B.named
  have hlocks := B.notSynchronized
  have in_wsX30 : ∀ w ∈ wsX30, w ∈ wsX3_select := fun w h => List.mem_cons_of_mem _ (List.mem_append_left _ (List.mem_append_left _ (List.mem_append_right _ h)))
  have in_wsX20 : ∀ w ∈ wsX20, w ∈ wsX3_select := fun w h => List.mem_cons_of_mem _ (List.mem_append_left _ (List.mem_append_right _ h))
  have in_wsX10 : ∀ w ∈ wsX10, w ∈ wsX3_select := fun w h => List.mem_cons_of_mem _ (List.mem_append_right _ h)
  have hl := lv_entry ([.ref (A 0), .int ss, .int x]) (n := 3) (Nat.le_of_ble_eq_true rfl)
  rw [lg_entry_eq]
  generalize (lg_sl ([.ref (A 0), .int ss, .int x]) ++ List.replicate (3 - (lg_sl ([.ref (A 0), .int ss, .int x])).length) Slot.unset).toArray = ls at hl ⊢
  have hl : lv_has ls 3 [(0, .ref (A 0)), (1, .int ss), (2, .int x)] := hl
  refine W_gen (fun Q hQ => ?_)
  obtain ⟨W0, me, co, sc, hP, hSx, hrb, hbl, hk5, hR0, hRh⟩ := id hH
  refine lv_iload_n hx hb dX3_select_0 rfl (lv_at hl 1 rfl) ?_
  refine vp_callSi (va_Run.run (va_runS (As := [.int ss]) (rest := []) ⟨hx, hb, hml, hown, hts⟩ (k_X3_isSet l D T ss ) (va_cwS 1 hts gX3_select_X3_isSet rfl rfl rfl (by decide +kernel) ⟨Nat.le_of_ble_eq_true rfl, Nat.le_of_ble_eq_true rfl⟩) (pre_S (Φ := fun X => True) hK trivial) rfl rfl hl.1 rfl (lv_room (Nat.le_of_ble_eq_true rfl)) dX3_select_1 ⟨Nat.le_of_ble_eq_true rfl, Nat.le_of_ble_eq_true rfl⟩)) (fun r_1 hr_1 => ?_)
  subst hr_1
  refine lv_if_eq (tgt := 11) hx hb dX3_select_4 (by decide) (fun c_1 => ?_) (fun c_1 => ?_)
  · skip
    have c_1 : (decide (¬ ss < 0 ∧ ss < nI 6)) = false := b2i_0.mp c_1
    have c_1 : ¬ (¬ ss < 0 ∧ ss < nI 6) := of_decide_eq_false c_1
    refine lv_iconst (v := (-1)) hx hb dX3_select_11 (by decide) ?_
    subst hQ
    refine W.iret (v := (-1)) hx hb hr (fun t ht hW => ⟨(-1), rfl, ?_, ht⟩) (fun q h => absurd h List.not_mem_nil) dX3_select_12
    first | exact (if_neg (fun z => c_1 z.1)).symm | exact (if_neg (fun z => c_2 (Int32.not_lt.mp z.2))).symm
  · skip
    have c_1 : (decide (¬ ss < 0 ∧ ss < nI 6)) = true := b2i_n0.mp c_1
    have c_1 : ¬ ss < 0 ∧ ss < nI 6 := of_decide_eq_true c_1
    refine lv_iload_n hx hb dX3_select_7 rfl (lv_at hl 2 rfl) ?_
    refine lv_if_ge (tgt := 13) hx hb dX3_select_8 (by decide) (fun c_2 => ?_) (fun c_2 => ?_)
    · skip
      obtain ⟨sN, hsN, rfl⟩ := okX (N := 6) (by decide) c_1
      refine lv_aload_n hx hb dX3_select_13 rfl (lv_at hl 0 rfl) ?_
      refine r_get (C := RX3) (Tb := TX3) (N := 5) hx hb hts in_wsX30 hown hK (hP.2.1) rfl 0 (by decide) (hts (.fieldLink RX3 10 "PieceSets" "now" "LPieceSets$State;") (by decide +kernel)) rfl (v := .ref (slA A 0 0)) rfl dX3_select_14 ?_
      refine r_getN (C := RX2) (Tb := TX2) (N := 3) (host := "PieceSets") hx hb hts in_wsX20 hown hK ((hP.2.2.2.2.2 0 (by omega)).1) rfl 0 (by decide) (hK.2.f (args := ([.ref (A 0), .int (nI sN), .int x] : List Value).toArray) 3 rfl) rfl (v := .ref (slA A 0 1)) rfl dX3_select_17 ?_
      refine lv_iload_n hx hb dX3_select_20 rfl (lv_at hl 1 rfl) ?_
      refine r_nald hx hb hK ((hP.2.2.2.2.2 0 (by omega)).2.1) (i := sN) (by omega) (by decide) (q := (slA A 0 (4 + 2 * sN))) (rfl) dX3_select_21 ?_
      refine lv_iload_n hx hb dX3_select_22 rfl (lv_at hl 2 rfl) ?_
      refine vp_callSi (va_Run.run (va_runVN (As := [.int x]) (rest := []) ⟨hx, hb, hml, hown, hts⟩ (k_X1_nth l D T (slA A 0 (4 + 2 * sN)) (slA A 0 (5 + 2 * sN)) (W0 0 sN) x ) (⟨va_cnB 1 hts ggX3_select_X1_nth rfl rfl rfl (hK.2.m (args := ([.ref (A 0), .int (nI sN), .int x] : List Value).toArray) 36 rfl) (hts (.initialized RX1) (by decide +kernel)) (by decide +kernel) ⟨Nat.le_of_ble_eq_true rfl, Nat.le_of_ble_eq_true rfl⟩, hts (.instanceMethod yX1_nth) (by decide +kernel), hts (.selects RX1 yX1_nth yX1_nth) (by decide +kernel)⟩) (pre_V (Φ := fun X => Num D T X (slA A 0 (4 + 2 * sN)) (slA A 0 (5 + 2 * sN)) (W0 0 sN)) hK (((hP.2.2.2.2.2 0 (by omega)).2.2.2.2 sN (by omega)).1) rfl ((hP.2.2.2.2.2 0 (by omega)).2.2.2.2 sN (by omega))) rfl rfl hl.1 rfl (lv_room (Nat.le_of_ble_eq_true rfl)) dX3_select_23 ⟨Nat.le_of_ble_eq_true rfl, Nat.le_of_ble_eq_true rfl⟩)) (fun r_2 hr_2 => ?_)
      subst hr_2
      subst hQ
      refine W.iret (v := (nthA (bitL (W0 0 sN)) x)) hx hb hr (fun t ht hW => ⟨(nthA (bitL (W0 0 sN)) x), rfl, ?_, ht⟩) (fun q h => absurd h List.not_mem_nil) dX3_select_26
      unfold selR
      rw [if_pos ⟨okN hsN (by decide), Int32.not_lt.mpr c_2⟩, cl_n (by omega), nthA_cong (fun x h => hR0.1 _ hsN x h)]
    · skip
      refine lv_iconst (v := (-1)) hx hb dX3_select_11 (by decide) ?_
      subst hQ
      refine W.iret (v := (-1)) hx hb hr (fun t ht hW => ⟨(-1), rfl, ?_, ht⟩) (fun q h => absurd h List.not_mem_nil) dX3_select_12
      first | exact (if_neg (fun z => c_1 z.1)).symm | exact (if_neg (fun z => c_2 (Int32.not_lt.mp z.2))).symm
set_option maxHeartbeats 4000000 in
set_option maxRecDepth 100000 in
theorem k_X3_near (l : Launch) (D : va_G) (T : Nat → ClassId) (A : Nat → Nat) (Sx : Nat → Prop) (fi : FS) (ss : Int32) (x : Int32) (y : Int32) : Met l yX3_near wsX3_near ({ frames := 3, cells := 0, slots := 0, locals := 88 }) (va_Pc [.ref (A 0), .int ss, .int x, .int y] (fun U => KS D T U ∧ PSE D T U.heap A Sx fi)) (vp_Si (fun r => r = (neaR fi ss x y))) 0 0 (fun _ => False) := by
  refine Met.ofW (cc := cX3_near) (maxL := 5) (ret := (some .int)) (by decide) rfl ?_
  intro pg ev s m args below meth c s₁ B hml hv
  obtain ⟨rfl, hK, hH⟩ := hv
  have hx := B.exec
  have hb := B.bytes
  have hr := B.returns
  have hts := atoms_spec (ws := wsX3_near) B.pre
  have hown : s.vm.findClass RX3 = some m.cls := findClass_of_methodNamed B.named
  have hlocks := B.notSynchronized
  have in_wsX30 : ∀ w ∈ wsX30, w ∈ wsX3_near := fun w h => List.mem_cons_of_mem _ (List.mem_append_left _ (List.mem_append_left _ (List.mem_append_right _ h)))
  have in_wsX20 : ∀ w ∈ wsX20, w ∈ wsX3_near := fun w h => List.mem_cons_of_mem _ (List.mem_append_left _ (List.mem_append_right _ h))
  have in_wsX10 : ∀ w ∈ wsX10, w ∈ wsX3_near := fun w h => List.mem_cons_of_mem _ (List.mem_append_right _ h)
  have hl := lv_entry ([.ref (A 0), .int ss, .int x, .int y]) (n := 5) (Nat.le_of_ble_eq_true rfl)
  rw [lg_entry_eq]
  generalize (lg_sl ([.ref (A 0), .int ss, .int x, .int y]) ++ List.replicate (5 - (lg_sl ([.ref (A 0), .int ss, .int x, .int y])).length) Slot.unset).toArray = ls at hl ⊢
  have hl : lv_has ls 5 [(0, .ref (A 0)), (1, .int ss), (2, .int x), (3, .int y)] := hl
  refine W_gen (fun Q hQ => ?_)
  obtain ⟨W0, me, co, sc, hP, hSx, hrb, hbl, hk5, hR0, hRh⟩ := id hH
  refine lv_iload_n hx hb dX3_near_0 rfl (lv_at hl 1 rfl) ?_
  refine vp_callSi (va_Run.run (va_runS (As := [.int ss]) (rest := []) ⟨hx, hb, hml, hown, hts⟩ (k_X3_isSet l D T ss ) (va_cwS 1 hts gX3_near_X3_isSet rfl rfl rfl (by decide +kernel) ⟨Nat.le_of_ble_eq_true rfl, Nat.le_of_ble_eq_true rfl⟩) (pre_S (Φ := fun X => True) hK trivial) rfl rfl hl.1 rfl (lv_room (Nat.le_of_ble_eq_true rfl)) dX3_near_1 ⟨Nat.le_of_ble_eq_true rfl, Nat.le_of_ble_eq_true rfl⟩)) (fun r_1 hr_1 => ?_)
  subst hr_1
  refine lv_if_ne (tgt := 9) hx hb dX3_near_4 (by decide) (fun c_1 => ?_) (fun c_1 => ?_)
  · skip
    have c_1 : (decide (¬ ss < 0 ∧ ss < nI 6)) = true := b2i_n0.mp c_1
    have c_1 : ¬ ss < 0 ∧ ss < nI 6 := of_decide_eq_true c_1
    obtain ⟨sN, hsN, rfl⟩ := okX (N := 6) (by decide) c_1
    refine lv_aload_n hx hb dX3_near_9 rfl (lv_at hl 0 rfl) ?_
    refine r_get (C := RX3) (Tb := TX3) (N := 5) hx hb hts in_wsX30 hown hK (hP.2.1) rfl 0 (by decide) (hts (.fieldLink RX3 10 "PieceSets" "now" "LPieceSets$State;") (by decide +kernel)) rfl (v := .ref (slA A 0 0)) rfl dX3_near_10 ?_
    refine r_getN (C := RX2) (Tb := TX2) (N := 3) (host := "PieceSets") hx hb hts in_wsX20 hown hK ((hP.2.2.2.2.2 0 (by omega)).1) rfl 0 (by decide) (hK.2.f (args := ([.ref (A 0), .int (nI sN), .int x, .int y] : List Value).toArray) 3 rfl) rfl (v := .ref (slA A 0 1)) rfl dX3_near_13 ?_
    refine lv_iload_n hx hb dX3_near_16 rfl (lv_at hl 1 rfl) ?_
    refine r_nald hx hb hK ((hP.2.2.2.2.2 0 (by omega)).2.1) (i := sN) (by omega) (by decide) (q := (slA A 0 (4 + 2 * sN))) (rfl) dX3_near_17 ?_
    refine lv_astore (lv' := [(4, .ref (slA A 0 (4 + 2 * sN))), (0, .ref (A 0)), (1, .int (nI sN)), (2, .int x), (3, .int y)]) hx hb dX3_near_18 hl (by decide) rfl (fun ls hl => ?_)
    refine lv_iload_n hx hb dX3_near_20 rfl (lv_at hl 4 rfl) ?_
    refine lv_if_ne (tgt := 39) hx hb dX3_near_21 (by decide) (fun c_2 => ?_) (fun c_2 => ?_)
    · skip
      refine lv_aload hx hb dX3_near_39 (lv_at hl 0 rfl) ?_
      refine lv_iload_n hx hb dX3_near_41 rfl (lv_at hl 3 rfl) ?_
      refine lv_if_gt (tgt := 49) hx hb dX3_near_42 (by decide) (fun c_3 => ?_) (fun c_3 => ?_)
      · skip
        refine lv_aload hx hb dX3_near_49 (lv_at hl 0 rfl) ?_
        refine lv_iconst (v := (nI 0)) hx hb dX3_near_51 (by decide) ?_
        refine lv_iload_n hx hb dX3_near_52 rfl (lv_at hl 3 rfl) ?_
        refine lv_iconst (v := (nI 1)) hx hb dX3_near_53 (by decide) ?_
        refine lv_isub hx hb dX3_near_54 ?_
        refine vp_callSi (va_Run.run (va_runVN (As := [.int (nI 0), .int (x - (nI 1))]) (rest := [.ref (slA A 0 (4 + 2 * sN))]) ⟨hx, hb, hml, hown, hts⟩ (k_X1_countIn l D T (slA A 0 (4 + 2 * sN)) (slA A 0 (5 + 2 * sN)) (W0 0 sN) (nI 0) (x - (nI 1)) ) (⟨va_cnB 2 hts ggX3_near_X1_countIn rfl rfl rfl (hK.2.m (args := ([.ref (A 0), .int (nI sN), .int x, .int y] : List Value).toArray) 18 rfl) (hts (.initialized RX1) (by decide +kernel)) (by decide +kernel) ⟨Nat.le_of_ble_eq_true rfl, Nat.le_of_ble_eq_true rfl⟩, hts (.instanceMethod yX1_countIn) (by decide +kernel), hts (.selects RX1 yX1_countIn yX1_countIn) (by decide +kernel)⟩) (pre_V (Φ := fun X => Num D T X (slA A 0 (4 + 2 * sN)) (slA A 0 (5 + 2 * sN)) (W0 0 sN)) hK (((hP.2.2.2.2.2 0 (by omega)).2.2.2.2 sN (by omega)).1) rfl ((hP.2.2.2.2.2 0 (by omega)).2.2.2.2 sN (by omega))) rfl rfl hl.1 rfl (lv_room (Nat.le_of_ble_eq_true rfl)) dX3_near_55 ⟨Nat.le_of_ble_eq_true rfl, Nat.le_of_ble_eq_true rfl⟩)) (fun r_2 hr_2 => ?_)
        subst hr_2
        refine vp_callSi (va_Run.run (va_runVN (As := [.int (nI (ctr (bitL (W0 0 sN)) (nI 0) (x - (nI 1))))]) (rest := []) ⟨hx, hb, hml, hown, hts⟩ (k_X1_nth l D T (slA A 0 (4 + 2 * sN)) (slA A 0 (5 + 2 * sN)) (W0 0 sN) (nI (ctr (bitL (W0 0 sN)) (nI 0) (x - (nI 1)))) ) (⟨va_cnB 1 hts ggX3_near_X1_nth rfl rfl rfl (hK.2.m (args := ([.ref (A 0), .int (nI sN), .int x, .int y] : List Value).toArray) 36 rfl) (hts (.initialized RX1) (by decide +kernel)) (by decide +kernel) ⟨Nat.le_of_ble_eq_true rfl, Nat.le_of_ble_eq_true rfl⟩, hts (.instanceMethod yX1_nth) (by decide +kernel), hts (.selects RX1 yX1_nth yX1_nth) (by decide +kernel)⟩) (pre_V (Φ := fun X => Num D T X (slA A 0 (4 + 2 * sN)) (slA A 0 (5 + 2 * sN)) (W0 0 sN)) hK (((hP.2.2.2.2.2 0 (by omega)).2.2.2.2 sN (by omega)).1) rfl ((hP.2.2.2.2.2 0 (by omega)).2.2.2.2 sN (by omega))) rfl rfl hl.1 rfl (lv_room (Nat.le_of_ble_eq_true rfl)) dX3_near_58 ⟨Nat.le_of_ble_eq_true rfl, Nat.le_of_ble_eq_true rfl⟩)) (fun r_3 hr_3 => ?_)
        subst hr_3
        subst hQ
        refine W.iret (v := (nthA (bitL (W0 0 sN)) (nI (ctr (bitL (W0 0 sN)) (nI 0) (x - (nI 1)))))) hx hb hr (fun t ht hW => ⟨(nthA (bitL (W0 0 sN)) (nI (ctr (bitL (W0 0 sN)) (nI 0) (x - (nI 1))))), rfl, ?_, ht⟩) (fun q h => absurd h List.not_mem_nil) dX3_near_61
        unfold neaR
        rw [if_pos (okN hsN (by decide)), cl_n (by omega)]
        rw [if_neg c_2, nthA_cong (fun x h => hR0.1 _ hsN x h), ctr_cong (fun x h => hR0.1 _ hsN x h)]
        exact near_up1 _ c_3
      · skip
        refine lv_iconst (v := (nI 0)) hx hb dX3_near_45 (by decide) ?_
        refine lv_goto (tgt := 58) hx hb dX3_near_46 (by decide) ?_
        refine vp_callSi (va_Run.run (va_runVN (As := [.int (nI 0)]) (rest := []) ⟨hx, hb, hml, hown, hts⟩ (k_X1_nth l D T (slA A 0 (4 + 2 * sN)) (slA A 0 (5 + 2 * sN)) (W0 0 sN) (nI 0) ) (⟨va_cnB 1 hts ggX3_near_X1_nth rfl rfl rfl (hK.2.m (args := ([.ref (A 0), .int (nI sN), .int x, .int y] : List Value).toArray) 36 rfl) (hts (.initialized RX1) (by decide +kernel)) (by decide +kernel) ⟨Nat.le_of_ble_eq_true rfl, Nat.le_of_ble_eq_true rfl⟩, hts (.instanceMethod yX1_nth) (by decide +kernel), hts (.selects RX1 yX1_nth yX1_nth) (by decide +kernel)⟩) (pre_V (Φ := fun X => Num D T X (slA A 0 (4 + 2 * sN)) (slA A 0 (5 + 2 * sN)) (W0 0 sN)) hK (((hP.2.2.2.2.2 0 (by omega)).2.2.2.2 sN (by omega)).1) rfl ((hP.2.2.2.2.2 0 (by omega)).2.2.2.2 sN (by omega))) rfl rfl hl.1 rfl (lv_room (Nat.le_of_ble_eq_true rfl)) dX3_near_58 ⟨Nat.le_of_ble_eq_true rfl, Nat.le_of_ble_eq_true rfl⟩)) (fun r_2 hr_2 => ?_)
        subst hr_2
        subst hQ
        refine W.iret (v := (nthA (bitL (W0 0 sN)) (nI 0))) hx hb hr (fun t ht hW => ⟨(nthA (bitL (W0 0 sN)) (nI 0)), rfl, ?_, ht⟩) (fun q h => absurd h List.not_mem_nil) dX3_near_61
        unfold neaR
        rw [if_pos (okN hsN (by decide)), cl_n (by omega)]
        rw [if_neg c_2, nthA_cong (fun x h => hR0.1 _ hsN x h)]
        exact near_up0 _ c_3
    · skip
      refine lv_aload hx hb dX3_near_24 (lv_at hl 0 rfl) ?_
      refine lv_aload hx hb dX3_near_26 (lv_at hl 0 rfl) ?_
      refine lv_iconst (v := (nI 0)) hx hb dX3_near_28 (by decide) ?_
      refine lv_iload_n hx hb dX3_near_29 rfl (lv_at hl 3 rfl) ?_
      refine vp_callSi (va_Run.run (va_runVN (As := [.int (nI 0), .int x]) (rest := [.ref (slA A 0 (4 + 2 * sN))]) ⟨hx, hb, hml, hown, hts⟩ (k_X1_countIn l D T (slA A 0 (4 + 2 * sN)) (slA A 0 (5 + 2 * sN)) (W0 0 sN) (nI 0) x ) (⟨va_cnB 2 hts ggX3_near_X1_countIn rfl rfl rfl (hK.2.m (args := ([.ref (A 0), .int (nI sN), .int x, .int y] : List Value).toArray) 18 rfl) (hts (.initialized RX1) (by decide +kernel)) (by decide +kernel) ⟨Nat.le_of_ble_eq_true rfl, Nat.le_of_ble_eq_true rfl⟩, hts (.instanceMethod yX1_countIn) (by decide +kernel), hts (.selects RX1 yX1_countIn yX1_countIn) (by decide +kernel)⟩) (pre_V (Φ := fun X => Num D T X (slA A 0 (4 + 2 * sN)) (slA A 0 (5 + 2 * sN)) (W0 0 sN)) hK (((hP.2.2.2.2.2 0 (by omega)).2.2.2.2 sN (by omega)).1) rfl ((hP.2.2.2.2.2 0 (by omega)).2.2.2.2 sN (by omega))) rfl rfl hl.1 rfl (lv_room (Nat.le_of_ble_eq_true rfl)) dX3_near_30 ⟨Nat.le_of_ble_eq_true rfl, Nat.le_of_ble_eq_true rfl⟩)) (fun r_2 hr_2 => ?_)
      subst hr_2
      refine lv_iconst (v := (nI 1)) hx hb dX3_near_33 (by decide) ?_
      refine lv_isub hx hb dX3_near_34 ?_
      refine vp_callSi (va_Run.run (va_runVN (As := [.int ((nI (ctr (bitL (W0 0 sN)) (nI 0) x)) - (nI 1))]) (rest := []) ⟨hx, hb, hml, hown, hts⟩ (k_X1_nth l D T (slA A 0 (4 + 2 * sN)) (slA A 0 (5 + 2 * sN)) (W0 0 sN) ((nI (ctr (bitL (W0 0 sN)) (nI 0) x)) - (nI 1)) ) (⟨va_cnB 1 hts ggX3_near_X1_nth rfl rfl rfl (hK.2.m (args := ([.ref (A 0), .int (nI sN), .int x, .int y] : List Value).toArray) 36 rfl) (hts (.initialized RX1) (by decide +kernel)) (by decide +kernel) ⟨Nat.le_of_ble_eq_true rfl, Nat.le_of_ble_eq_true rfl⟩, hts (.instanceMethod yX1_nth) (by decide +kernel), hts (.selects RX1 yX1_nth yX1_nth) (by decide +kernel)⟩) (pre_V (Φ := fun X => Num D T X (slA A 0 (4 + 2 * sN)) (slA A 0 (5 + 2 * sN)) (W0 0 sN)) hK (((hP.2.2.2.2.2 0 (by omega)).2.2.2.2 sN (by omega)).1) rfl ((hP.2.2.2.2.2 0 (by omega)).2.2.2.2 sN (by omega))) rfl rfl hl.1 rfl (lv_room (Nat.le_of_ble_eq_true rfl)) dX3_near_35 ⟨Nat.le_of_ble_eq_true rfl, Nat.le_of_ble_eq_true rfl⟩)) (fun r_3 hr_3 => ?_)
      subst hr_3
      subst hQ
      refine W.iret (v := (nthA (bitL (W0 0 sN)) ((nI (ctr (bitL (W0 0 sN)) (nI 0) x)) - (nI 1)))) hx hb hr (fun t ht hW => ⟨(nthA (bitL (W0 0 sN)) ((nI (ctr (bitL (W0 0 sN)) (nI 0) x)) - (nI 1))), rfl, ?_, ht⟩) (fun q h => absurd h List.not_mem_nil) dX3_near_38
      unfold neaR
      rw [if_pos (okN hsN (by decide)), cl_n (by omega)]
      rw [if_pos c_2, nthA_cong (fun x h => hR0.1 _ hsN x h), ctr_cong (fun x h => hR0.1 _ hsN x h)]
      exact near_down _ x
  · skip
    have c_1 : (decide (¬ ss < 0 ∧ ss < nI 6)) = false := b2i_0.mp c_1
    have c_1 : ¬ (¬ ss < 0 ∧ ss < nI 6) := of_decide_eq_false c_1
    refine lv_iconst (v := (-1)) hx hb dX3_near_7 (by decide) ?_
    subst hQ
    refine W.iret (v := (-1)) hx hb hr (fun t ht hW => ⟨(-1), rfl, ?_, ht⟩) (fun q h => absurd h List.not_mem_nil) dX3_near_8
    exact (if_neg c_1).symm
set_option maxHeartbeats 4000000 in
set_option maxRecDepth 100000 in
theorem k_X3_runs (l : Launch) (D : va_G) (T : Nat → ClassId) (A : Nat → Nat) (Sx : Nat → Prop) (fi : FS) (ss : Int32) : Met l yX3_runs wsX3_runs ({ frames := 2, cells := 0, slots := 0, locals := 49 }) (va_Pc [.ref (A 0), .int ss] (fun U => KS D T U ∧ PSE D T U.heap A Sx fi)) (vp_Si (fun r => r = (rusR fi ss))) 0 0 (fun _ => False) := by
  refine Met.ofW (cc := cX3_runs) (maxL := 2) (ret := (some .int)) (by decide) rfl ?_
  intro pg ev s m args below meth c s₁ B hml hv
  obtain ⟨rfl, hK, hH⟩ := hv
  have hx := B.exec
  have hb := B.bytes
  have hr := B.returns
  have hts := atoms_spec (ws := wsX3_runs) B.pre
  have hown : s.vm.findClass RX3 = some m.cls := findClass_of_methodNamed B.named
  have hlocks := B.notSynchronized
  have in_wsX30 : ∀ w ∈ wsX30, w ∈ wsX3_runs := fun w h => List.mem_cons_of_mem _ (List.mem_append_left _ (List.mem_append_left _ (List.mem_append_right _ h)))
  have in_wsX20 : ∀ w ∈ wsX20, w ∈ wsX3_runs := fun w h => List.mem_cons_of_mem _ (List.mem_append_left _ (List.mem_append_right _ h))
  have in_wsX10 : ∀ w ∈ wsX10, w ∈ wsX3_runs := fun w h => List.mem_cons_of_mem _ (List.mem_append_right _ h)
  have hl := lv_entry ([.ref (A 0), .int ss]) (n := 2) (Nat.le_of_ble_eq_true rfl)
  rw [lg_entry_eq]
  generalize (lg_sl ([.ref (A 0), .int ss]) ++ List.replicate (2 - (lg_sl ([.ref (A 0), .int ss])).length) Slot.unset).toArray = ls at hl ⊢
  have hl : lv_has ls 2 [(0, .ref (A 0)), (1, .int ss)] := hl
  refine W_gen (fun Q hQ => ?_)
  obtain ⟨W0, me, co, sc, hP, hSx, hrb, hbl, hk5, hR0, hRh⟩ := id hH
  refine lv_iload_n hx hb dX3_runs_0 rfl (lv_at hl 1 rfl) ?_
  refine vp_callSi (va_Run.run (va_runS (As := [.int ss]) (rest := []) ⟨hx, hb, hml, hown, hts⟩ (k_X3_isSet l D T ss ) (va_cwS 1 hts gX3_runs_X3_isSet rfl rfl rfl (by decide +kernel) ⟨Nat.le_of_ble_eq_true rfl, Nat.le_of_ble_eq_true rfl⟩) (pre_S (Φ := fun X => True) hK trivial) rfl rfl hl.1 rfl (lv_room (Nat.le_of_ble_eq_true rfl)) dX3_runs_1 ⟨Nat.le_of_ble_eq_true rfl, Nat.le_of_ble_eq_true rfl⟩)) (fun r_1 hr_1 => ?_)
  subst hr_1
  refine lv_if_ne (tgt := 9) hx hb dX3_runs_4 (by decide) (fun c_1 => ?_) (fun c_1 => ?_)
  · skip
    have c_1 : (decide (¬ ss < 0 ∧ ss < nI 6)) = true := b2i_n0.mp c_1
    have c_1 : ¬ ss < 0 ∧ ss < nI 6 := of_decide_eq_true c_1
    obtain ⟨sN, hsN, rfl⟩ := okX (N := 6) (by decide) c_1
    refine lv_aload_n hx hb dX3_runs_9 rfl (lv_at hl 0 rfl) ?_
    refine r_get (C := RX3) (Tb := TX3) (N := 5) hx hb hts in_wsX30 hown hK (hP.2.1) rfl 0 (by decide) (hts (.fieldLink RX3 10 "PieceSets" "now" "LPieceSets$State;") (by decide +kernel)) rfl (v := .ref (slA A 0 0)) rfl dX3_runs_10 ?_
    refine r_getN (C := RX2) (Tb := TX2) (N := 3) (host := "PieceSets") hx hb hts in_wsX20 hown hK ((hP.2.2.2.2.2 0 (by omega)).1) rfl 0 (by decide) (hK.2.f (args := ([.ref (A 0), .int (nI sN)] : List Value).toArray) 3 rfl) rfl (v := .ref (slA A 0 1)) rfl dX3_runs_13 ?_
    refine lv_iload_n hx hb dX3_runs_16 rfl (lv_at hl 1 rfl) ?_
    refine r_nald hx hb hK ((hP.2.2.2.2.2 0 (by omega)).2.1) (i := sN) (by omega) (by decide) (q := (slA A 0 (4 + 2 * sN))) (rfl) dX3_runs_17 ?_
    refine lv_iconst (v := (nI 0)) hx hb dX3_runs_18 (by decide) ?_
    refine lv_bipush (v := (nI 16)) hx hb dX3_runs_19 (by decide) ?_
    refine vp_callSi (va_Run.run (va_runVN (As := [.int (nI 0), .int (nI 16)]) (rest := []) ⟨hx, hb, hml, hown, hts⟩ (k_X1_countRuns l D T (slA A 0 (4 + 2 * sN)) (slA A 0 (5 + 2 * sN)) (W0 0 sN) 0 16 (by omega)) (⟨va_cnB 2 hts ggX3_runs_X1_countRuns rfl rfl rfl (hK.2.m (args := ([.ref (A 0), .int (nI sN)] : List Value).toArray) 22 rfl) (hts (.initialized RX1) (by decide +kernel)) (by decide +kernel) ⟨Nat.le_of_ble_eq_true rfl, Nat.le_of_ble_eq_true rfl⟩, hts (.instanceMethod yX1_countRuns) (by decide +kernel), hts (.selects RX1 yX1_countRuns yX1_countRuns) (by decide +kernel)⟩) (pre_V (Φ := fun X => Num D T X (slA A 0 (4 + 2 * sN)) (slA A 0 (5 + 2 * sN)) (W0 0 sN)) hK (((hP.2.2.2.2.2 0 (by omega)).2.2.2.2 sN (by omega)).1) rfl ((hP.2.2.2.2.2 0 (by omega)).2.2.2.2 sN (by omega))) rfl rfl hl.1 rfl (lv_room (Nat.le_of_ble_eq_true rfl)) dX3_runs_21 ⟨Nat.le_of_ble_eq_true rfl, Nat.le_of_ble_eq_true rfl⟩)) (fun r_2 hr_2 => ?_)
    subst hr_2
    subst hQ
    refine W.iret (v := (nI (ct (rsG (bitL (W0 0 sN)) (256 * 0)) (256 * 0) (256 * 16)))) hx hb hr (fun t ht hW => ⟨(nI (ct (rsG (bitL (W0 0 sN)) (256 * 0)) (256 * 0) (256 * 16))), rfl, ?_, ht⟩) (fun q h => absurd h List.not_mem_nil) dX3_runs_24
    unfold rusR
    rw [if_pos (okN hsN (by decide)), cl_n (by omega)]
    exact congrArg nI (ct_cong (fun x _ h => rsG_cong (fun x h => hR0.1 _ hsN x h) x (by omega)))
  · skip
    have c_1 : (decide (¬ ss < 0 ∧ ss < nI 6)) = false := b2i_0.mp c_1
    have c_1 : ¬ (¬ ss < 0 ∧ ss < nI 6) := of_decide_eq_false c_1
    refine lv_iconst (v := (-1)) hx hb dX3_runs_7 (by decide) ?_
    subst hQ
    refine W.iret (v := (-1)) hx hb hr (fun t ht hW => ⟨(-1), rfl, ?_, ht⟩) (fun q h => absurd h List.not_mem_nil) dX3_runs_8
    exact (if_neg c_1).symm
set_option maxHeartbeats 4000000 in
set_option maxRecDepth 100000 in
theorem k_X3_piece (l : Launch) (D : va_G) (T : Nat → ClassId) (A : Nat → Nat) (Sx : Nat → Prop) (fi : FS) (ss : Int32) (x : Int32) (y : Int32) : Met l yX3_piece wsX3_piece ({ frames := 5, cells := 0, slots := 0, locals := 116 }) (va_Pc [.ref (A 0), .int ss, .int x, .int y] (fun U => KS D T U ∧ PSE D T U.heap A Sx fi)) (vp_Si (fun r => r = (pieR fi ss x y))) 0 0 (fun _ => False) := by
  refine Met.ofW (cc := cX3_piece) (maxL := 4) (ret := (some .int)) (by decide) rfl ?_
  intro pg ev s m args below meth c s₁ B hml hv
  obtain ⟨rfl, hK, hH⟩ := hv
  have hx := B.exec
  have hb := B.bytes
  have hr := B.returns
  have hts := atoms_spec (ws := wsX3_piece) B.pre
  have hown : s.vm.findClass RX3 = some m.cls := findClass_of_methodNamed B.named
  have hlocks := B.notSynchronized
  have in_wsX30 : ∀ w ∈ wsX30, w ∈ wsX3_piece := fun w h => List.mem_cons_of_mem _ (List.mem_append_left _ (List.mem_append_left _ (List.mem_append_right _ h)))
  have in_wsX20 : ∀ w ∈ wsX20, w ∈ wsX3_piece := fun w h => List.mem_cons_of_mem _ (List.mem_append_left _ (List.mem_append_right _ h))
  have in_wsX10 : ∀ w ∈ wsX10, w ∈ wsX3_piece := fun w h => List.mem_cons_of_mem _ (List.mem_append_right _ h)
  have hl := lv_entry ([.ref (A 0), .int ss, .int x, .int y]) (n := 4) (Nat.le_of_ble_eq_true rfl)
  rw [lg_entry_eq]
  generalize (lg_sl ([.ref (A 0), .int ss, .int x, .int y]) ++ List.replicate (4 - (lg_sl ([.ref (A 0), .int ss, .int x, .int y])).length) Slot.unset).toArray = ls at hl ⊢
  have hl : lv_has ls 4 [(0, .ref (A 0)), (1, .int ss), (2, .int x), (3, .int y)] := hl
  refine W_gen (fun Q hQ => ?_)
  obtain ⟨W0, me, co, sc, hP, hSx, hrb, hbl, hk5, hR0, hRh⟩ := id hH
  refine lv_iload_n hx hb dX3_piece_0 rfl (lv_at hl 1 rfl) ?_
  refine vp_callSi (va_Run.run (va_runS (As := [.int ss]) (rest := []) ⟨hx, hb, hml, hown, hts⟩ (k_X3_isSet l D T ss ) (va_cwS 1 hts gX3_piece_X3_isSet rfl rfl rfl (by decide +kernel) ⟨Nat.le_of_ble_eq_true rfl, Nat.le_of_ble_eq_true rfl⟩) (pre_S (Φ := fun X => True) hK trivial) rfl rfl hl.1 rfl (lv_room (Nat.le_of_ble_eq_true rfl)) dX3_piece_1 ⟨Nat.le_of_ble_eq_true rfl, Nat.le_of_ble_eq_true rfl⟩)) (fun r_1 hr_1 => ?_)
  subst hr_1
  refine lv_if_eq (tgt := 17) hx hb dX3_piece_4 (by decide) (fun c_1 => ?_) (fun c_1 => ?_)
  · skip
    have c_1 : (decide (¬ ss < 0 ∧ ss < nI 6)) = false := b2i_0.mp c_1
    have c_1 : ¬ (¬ ss < 0 ∧ ss < nI 6) := of_decide_eq_false c_1
    refine lv_iconst (v := (-1)) hx hb dX3_piece_17 (by decide) ?_
    subst hQ
    refine W.iret (v := (-1)) hx hb hr (fun t ht hW => ⟨(-1), rfl, ?_, ht⟩) (fun q h => absurd h List.not_mem_nil) dX3_piece_18
    exact (if_neg (fun z => c_1 z.1)).symm
  · skip
    have c_1 : (decide (¬ ss < 0 ∧ ss < nI 6)) = true := b2i_n0.mp c_1
    have c_1 : ¬ ss < 0 ∧ ss < nI 6 := of_decide_eq_true c_1
    refine lv_iload_n hx hb dX3_piece_7 rfl (lv_at hl 2 rfl) ?_
    refine lv_if_lt (tgt := 17) hx hb dX3_piece_8 (by decide) (fun c_2 => ?_) (fun c_2 => ?_)
    · skip
      refine lv_iconst (v := (-1)) hx hb dX3_piece_17 (by decide) ?_
      subst hQ
      refine W.iret (v := (-1)) hx hb hr (fun t ht hW => ⟨(-1), rfl, ?_, ht⟩) (fun q h => absurd h List.not_mem_nil) dX3_piece_18
      exact (if_neg (fun z => z.2.1 c_2)).symm
    · skip
      refine lv_iload_n hx hb dX3_piece_11 rfl (lv_at hl 2 rfl) ?_
      refine lv_bipush (v := (nI 16)) hx hb dX3_piece_12 (by decide) ?_
      refine lv_icmp_lt (tgt := 19) hx hb dX3_piece_14 (by decide) (fun c_3 => ?_) (fun c_3 => ?_)
      · skip
        obtain ⟨sN, hsN, rfl⟩ := okX (N := 6) (by decide) c_1
        obtain ⟨xN, hxN, rfl⟩ := okX (N := 16) (by decide) ⟨c_2, c_3⟩
        refine lv_aload_n hx hb dX3_piece_19 rfl (lv_at hl 0 rfl) ?_
        refine r_get (C := RX3) (Tb := TX3) (N := 5) hx hb hts in_wsX30 hown hK (hP.2.1) rfl 0 (by decide) (hts (.fieldLink RX3 10 "PieceSets" "now" "LPieceSets$State;") (by decide +kernel)) rfl (v := .ref (slA A 0 0)) rfl dX3_piece_20 ?_
        refine r_getN (C := RX2) (Tb := TX2) (N := 3) (host := "PieceSets") hx hb hts in_wsX20 hown hK ((hP.2.2.2.2.2 0 (by omega)).1) rfl 0 (by decide) (hK.2.f (args := ([.ref (A 0), .int (nI sN), .int (nI xN), .int y] : List Value).toArray) 3 rfl) rfl (v := .ref (slA A 0 1)) rfl dX3_piece_23 ?_
        refine lv_iload_n hx hb dX3_piece_26 rfl (lv_at hl 1 rfl) ?_
        refine r_nald hx hb hK ((hP.2.2.2.2.2 0 (by omega)).2.1) (i := sN) (by omega) (by decide) (q := (slA A 0 (4 + 2 * sN))) (rfl) dX3_piece_27 ?_
        refine lv_iload_n hx hb dX3_piece_28 rfl (lv_at hl 2 rfl) ?_
        refine lv_iload_n hx hb dX3_piece_29 rfl (lv_at hl 3 rfl) ?_
        refine vp_callSi (va_Run.run (va_runVN (As := [.int (nI xN), .int y]) (rest := []) ⟨hx, hb, hml, hown, hts⟩ (k_X1_detail l D T (slA A 0 (4 + 2 * sN)) (slA A 0 (5 + 2 * sN)) (W0 0 sN) xN y (by omega)) (⟨va_cnB 2 hts ggX3_piece_X1_detail rfl rfl rfl (hK.2.m (args := ([.ref (A 0), .int (nI sN), .int (nI xN), .int y] : List Value).toArray) 33 rfl) (hts (.initialized RX1) (by decide +kernel)) (by decide +kernel) ⟨Nat.le_of_ble_eq_true rfl, Nat.le_of_ble_eq_true rfl⟩, hts (.instanceMethod yX1_detail) (by decide +kernel), hts (.selects RX1 yX1_detail yX1_detail) (by decide +kernel)⟩) (pre_V (Φ := fun X => Num D T X (slA A 0 (4 + 2 * sN)) (slA A 0 (5 + 2 * sN)) (W0 0 sN)) hK (((hP.2.2.2.2.2 0 (by omega)).2.2.2.2 sN (by omega)).1) rfl ((hP.2.2.2.2.2 0 (by omega)).2.2.2.2 sN (by omega))) rfl rfl hl.1 rfl (lv_room (Nat.le_of_ble_eq_true rfl)) dX3_piece_30 ⟨Nat.le_of_ble_eq_true rfl, Nat.le_of_ble_eq_true rfl⟩)) (fun r_2 hr_2 => ?_)
        subst hr_2
        subst hQ
        refine W.iret (v := (det (bitL (W0 0 sN)) xN y)) hx hb hr (fun t ht hW => ⟨(det (bitL (W0 0 sN)) xN y), rfl, ?_, ht⟩) (fun q h => absurd h List.not_mem_nil) dX3_piece_33
        unfold pieR
        rw [if_pos ⟨okN hsN (by decide), (okN hxN (by decide)).1, (okN hxN (by decide)).2⟩, cl_n (by omega), cl_n (by omega), det_cong (fun x h => hR0.1 _ hsN x h) hxN]
      · skip
        refine lv_iconst (v := (-1)) hx hb dX3_piece_17 (by decide) ?_
        subst hQ
        refine W.iret (v := (-1)) hx hb hr (fun t ht hW => ⟨(-1), rfl, ?_, ht⟩) (fun q h => absurd h List.not_mem_nil) dX3_piece_18
        exact (if_neg (fun z => c_3 z.2.2)).symm
set_option maxHeartbeats 4000000 in
set_option maxRecDepth 100000 in
theorem k_X3_bytes (l : Launch) (D : va_G) (T : Nat → ClassId) (A : Nat → Nat) (Sx : Nat → Prop) (fi : FS) (ss : Int32) : Met l yX3_bytes wsX3_bytes ({ frames := 4, cells := 0, slots := 0, locals := 94 }) (va_Pc [.ref (A 0), .int ss] (fun U => KS D T U ∧ PSE D T U.heap A Sx fi)) (vp_Si (fun r => r = (bytR fi ss))) 0 0 (fun _ => False) := by
  refine Met.ofW (cc := cX3_bytes) (maxL := 4) (ret := (some .int)) (by decide) rfl ?_
  intro pg ev s m args below meth c s₁ B hml hv
  obtain ⟨rfl, hK, hH⟩ := hv
  have hx := B.exec
  have hb := B.bytes
  have hr := B.returns
  have hts := atoms_spec (ws := wsX3_bytes) B.pre
  have hown : s.vm.findClass RX3 = some m.cls := findClass_of_methodNamed B.named
  have hlocks := B.notSynchronized
  have in_wsX30 : ∀ w ∈ wsX30, w ∈ wsX3_bytes := fun w h => List.mem_cons_of_mem _ (List.mem_append_left _ (List.mem_append_left _ (List.mem_append_right _ h)))
  have in_wsX20 : ∀ w ∈ wsX20, w ∈ wsX3_bytes := fun w h => List.mem_cons_of_mem _ (List.mem_append_left _ (List.mem_append_right _ h))
  have in_wsX10 : ∀ w ∈ wsX10, w ∈ wsX3_bytes := fun w h => List.mem_cons_of_mem _ (List.mem_append_right _ h)
  have hl := lv_entry ([.ref (A 0), .int ss]) (n := 4) (Nat.le_of_ble_eq_true rfl)
  rw [lg_entry_eq]
  generalize (lg_sl ([.ref (A 0), .int ss]) ++ List.replicate (4 - (lg_sl ([.ref (A 0), .int ss])).length) Slot.unset).toArray = ls at hl ⊢
  have hl : lv_has ls 4 [(0, .ref (A 0)), (1, .int ss)] := hl
  refine W_gen (fun Q hQ => ?_)
  obtain ⟨W0, me, co, sc, hP, hSx, hrb, hbl, hk5, hR0, hRh⟩ := id hH
  refine lv_iload_n hx hb dX3_bytes_0 rfl (lv_at hl 1 rfl) ?_
  refine vp_callSi (va_Run.run (va_runS (As := [.int ss]) (rest := []) ⟨hx, hb, hml, hown, hts⟩ (k_X3_isSet l D T ss ) (va_cwS 1 hts gX3_bytes_X3_isSet rfl rfl rfl (by decide +kernel) ⟨Nat.le_of_ble_eq_true rfl, Nat.le_of_ble_eq_true rfl⟩) (pre_S (Φ := fun X => True) hK trivial) rfl rfl hl.1 rfl (lv_room (Nat.le_of_ble_eq_true rfl)) dX3_bytes_1 ⟨Nat.le_of_ble_eq_true rfl, Nat.le_of_ble_eq_true rfl⟩)) (fun r_1 hr_1 => ?_)
  subst hr_1
  refine lv_if_ne (tgt := 9) hx hb dX3_bytes_4 (by decide) (fun c_1 => ?_) (fun c_1 => ?_)
  · skip
    have c_1 : (decide (¬ ss < 0 ∧ ss < nI 6)) = true := b2i_n0.mp c_1
    have c_1 : ¬ ss < 0 ∧ ss < nI 6 := of_decide_eq_true c_1
    obtain ⟨sN, hsN, rfl⟩ := okX (N := 6) (by decide) c_1
    refine lv_iconst (v := (nI 0)) hx hb dX3_bytes_9 (by decide) ?_
    refine lv_istore_n (lv' := [(2, .int (nI 0)), (0, .ref (A 0)), (1, .int (nI sN))]) hx hb dX3_bytes_10 rfl hl (by decide) rfl (fun ls hl => ?_)
    refine lv_iconst (v := (nI 0)) hx hb dX3_bytes_11 (by decide) ?_
    refine lv_istore_n (lv' := [(3, .int (nI 0)), (2, .int (nI 0)), (0, .ref (A 0)), (1, .int (nI sN))]) hx hb dX3_bytes_12 rfl hl (by decide) rfl (fun ls hl => ?_)
    have loop13 : ∀ (n13 : Nat) (i : Nat) (hi : i ≤ 16) (ls : Array Slot) (hl : lv_has ls 4 [(0, .ref (A 0)), (1, .int (nI sN)), (2, .int (nI (fb_sm (pcst (bitL (W0 0 sN))) i))), (3, .int (nI i))]) (hn13 : 16 - i < n13), W pg l ev (headSpec wsX3_bytes ({ frames := 4, cells := 0, slots := 0, locals := 94 })).room s m ([.ref (A 0), .int (nI sN)] : List Value).toArray below meth c s.heap [] 0 0 Q (F0 m 13 ls []) := by
      intro n13
      induction n13 with
      | zero =>
        intro i hi ls hl hn13
        exact absurd hn13 (Nat.not_lt_zero _)
      | succ n13 ih13 =>
        intro i hi ls hl hn13
        refine lv_iload_n hx hb dX3_bytes_13 rfl (lv_at hl 3 rfl) ?_
        refine lv_bipush (v := (nI 16)) hx hb dX3_bytes_14 (by decide) ?_
        refine lv_icmp_ge (tgt := 41) hx hb dX3_bytes_16 (by decide) (fun c_2 => ?_) (fun c_2 => ?_)
        · skip
          have c_2 : 16 ≤ i := (nI_leI (a := 16) (b := i) (by omega) (by omega)).mp c_2
          refine lv_iload_n hx hb dX3_bytes_41 rfl (lv_at hl 2 rfl) ?_
          subst hQ
          refine W.iret (v := (nI (fb_sm (pcst (bitL (W0 0 sN))) i))) hx hb hr (fun t ht hW => ⟨(nI (fb_sm (pcst (bitL (W0 0 sN))) i)), rfl, ?_, ht⟩) (fun q h => absurd h List.not_mem_nil) dX3_bytes_42
          unfold bytR
          rw [if_pos (okN hsN (by decide)), cl_n (by omega)]
          rw [show i = 16 by omega]
          exact congrArg nI (fb_sm_cong (fun k hk => pcst_cong (fun x h => hR0.1 _ hsN x h) hk))
        · skip
          have c_2 : ¬ (16 ≤ i) := fun z => c_2 ((nI_leI (a := 16) (b := i) (by omega) (by omega)).mpr z)
          refine lv_iload_n hx hb dX3_bytes_19 rfl (lv_at hl 2 rfl) ?_
          refine lv_aload_n hx hb dX3_bytes_20 rfl (lv_at hl 0 rfl) ?_
          refine r_get (C := RX3) (Tb := TX3) (N := 5) hx hb hts in_wsX30 hown hK (hP.2.1) rfl 0 (by decide) (hts (.fieldLink RX3 10 "PieceSets" "now" "LPieceSets$State;") (by decide +kernel)) rfl (v := .ref (slA A 0 0)) rfl dX3_bytes_21 ?_
          refine r_getN (C := RX2) (Tb := TX2) (N := 3) (host := "PieceSets") hx hb hts in_wsX20 hown hK ((hP.2.2.2.2.2 0 (by omega)).1) rfl 0 (by decide) (hK.2.f (args := ([.ref (A 0), .int (nI sN)] : List Value).toArray) 3 rfl) rfl (v := .ref (slA A 0 1)) rfl dX3_bytes_24 ?_
          refine lv_iload_n hx hb dX3_bytes_27 rfl (lv_at hl 1 rfl) ?_
          refine r_nald hx hb hK ((hP.2.2.2.2.2 0 (by omega)).2.1) (i := sN) (by omega) (by decide) (q := (slA A 0 (4 + 2 * sN))) (rfl) dX3_bytes_28 ?_
          refine lv_iload_n hx hb dX3_bytes_29 rfl (lv_at hl 3 rfl) ?_
          refine vp_callSi (va_Run.run (va_runVN (As := [.int (nI i)]) (rest := [.int (nI (fb_sm (pcst (bitL (W0 0 sN))) i))]) ⟨hx, hb, hml, hown, hts⟩ (k_X1_costOf l D T (slA A 0 (4 + 2 * sN)) (slA A 0 (5 + 2 * sN)) (W0 0 sN) i (by omega)) (⟨va_cnB 1 hts ggX3_bytes_X1_costOf rfl rfl rfl (hK.2.m (args := ([.ref (A 0), .int (nI sN)] : List Value).toArray) 23 rfl) (hts (.initialized RX1) (by decide +kernel)) (by decide +kernel) ⟨Nat.le_of_ble_eq_true rfl, Nat.le_of_ble_eq_true rfl⟩, hts (.instanceMethod yX1_costOf) (by decide +kernel), hts (.selects RX1 yX1_costOf yX1_costOf) (by decide +kernel)⟩) (pre_V (Φ := fun X => Num D T X (slA A 0 (4 + 2 * sN)) (slA A 0 (5 + 2 * sN)) (W0 0 sN)) hK (((hP.2.2.2.2.2 0 (by omega)).2.2.2.2 sN (by omega)).1) rfl ((hP.2.2.2.2.2 0 (by omega)).2.2.2.2 sN (by omega))) rfl rfl hl.1 rfl (lv_room (Nat.le_of_ble_eq_true rfl)) dX3_bytes_30 ⟨Nat.le_of_ble_eq_true rfl, Nat.le_of_ble_eq_true rfl⟩)) (fun r_2 hr_2 => ?_)
          subst hr_2
          refine lv_iadd hx hb dX3_bytes_33 ?_
          refine top_i (nI_add (fb_sm (pcst (bitL (W0 0 sN))) i) (cst (pn (bitL (W0 0 sN)) i) (pr (bitL (W0 0 sN)) i))) ?_
          refine lv_istore_n (lv' := [(2, .int (nI ((fb_sm (pcst (bitL (W0 0 sN))) i) + (cst (pn (bitL (W0 0 sN)) i) (pr (bitL (W0 0 sN)) i))))), (0, .ref (A 0)), (1, .int (nI sN)), (3, .int (nI i))]) hx hb dX3_bytes_34 rfl hl (by decide) rfl (fun ls hl => ?_)
          refine lv_iinc (v := (nI (i + 1))) (lv' := [(3, .int (nI (i + 1))), (2, .int (nI ((fb_sm (pcst (bitL (W0 0 sN))) i) + (cst (pn (bitL (W0 0 sN)) i) (pr (bitL (W0 0 sN)) i))))), (0, .ref (A 0)), (1, .int (nI sN))]) hx hb dX3_bytes_35 hl (k := 3) rfl (iinc_n i 1) (by decide) rfl (fun ls hl => ?_)
          refine lv_goto (tgt := 13) hx hb dX3_bytes_38 (by decide) ?_
          have hl := lv_sub hl (l' := [(0, .ref (A 0)), (1, .int (nI sN)), (2, .int (nI ((fb_sm (pcst (bitL (W0 0 sN))) i) + (cst (pn (bitL (W0 0 sN)) i) (pr (bitL (W0 0 sN)) i))))), (3, .int (nI (i + 1)))]) [2, 3, 1, 0] rfl
          have q_1 : (nI ((fb_sm (pcst (bitL (W0 0 sN))) i) + (cst (pn (bitL (W0 0 sN)) i) (pr (bitL (W0 0 sN)) i)))) = (nI (fb_sm (pcst (bitL (W0 0 sN))) (i + 1))) := rfl
          have hl : lv_has ls 4 [(0, .ref (A 0)), (1, .int (nI sN)), (2, .int (nI (fb_sm (pcst (bitL (W0 0 sN))) (i + 1)))), (3, .int (nI (i + 1)))] := by
            have h := hl
            rw [q_1] at h
            exact h
          exact ih13 (i + 1) (by omega) ls hl (by omega)
    have hl := lv_sub hl (l' := [(0, .ref (A 0)), (1, .int (nI sN)), (2, .int (nI 0)), (3, .int (nI 0))]) [2, 3, 1, 0] rfl
    have q_1 : (nI 0) = (nI (fb_sm (pcst (bitL (W0 0 sN))) 0)) := rfl
    have hl : lv_has ls 4 [(0, .ref (A 0)), (1, .int (nI sN)), (2, .int (nI (fb_sm (pcst (bitL (W0 0 sN))) 0))), (3, .int (nI 0))] := by
      have h := hl
      rw [q_1] at h
      exact h
    exact loop13 (16 - 0 + 1) 0 (Nat.zero_le _) ls hl (Nat.lt_succ_self _)
  · skip
    have c_1 : (decide (¬ ss < 0 ∧ ss < nI 6)) = false := b2i_0.mp c_1
    have c_1 : ¬ (¬ ss < 0 ∧ ss < nI 6) := of_decide_eq_false c_1
    refine lv_iconst (v := (-1)) hx hb dX3_bytes_7 (by decide) ?_
    subst hQ
    refine W.iret (v := (-1)) hx hb hr (fun t ht hW => ⟨(-1), rfl, ?_, ht⟩) (fun q h => absurd h List.not_mem_nil) dX3_bytes_8
    exact (if_neg c_1).symm
set_option maxHeartbeats 4000000 in
set_option maxRecDepth 100000 in
theorem k_X3_byteAt (l : Launch) (D : va_G) (T : Nat → ClassId) (A : Nat → Nat) (Sx : Nat → Prop) (fi : FS) (ss : Int32) (x : Int32) : Met l yX3_byteAt wsX3_byteAt ({ frames := 5, cells := 0, slots := 0, locals := 133 }) (va_Pc [.ref (A 0), .int ss, .int x] (fun U => KS D T U ∧ PSE D T U.heap A Sx fi)) (vp_Si (fun r => r = (byaR fi ss x))) 0 0 (fun _ => False) := by
  refine Met.ofW (cc := cX3_byteAt) (maxL := 7) (ret := (some .int)) (by decide) rfl ?_
  intro pg ev s m args below meth c s₁ B hml hv
  obtain ⟨rfl, hK, hH⟩ := hv
  have hx := B.exec
  have hb := B.bytes
  have hr := B.returns
  have hts := atoms_spec (ws := wsX3_byteAt) B.pre
  have hown : s.vm.findClass RX3 = some m.cls := findClass_of_methodNamed B.named
  have hlocks := B.notSynchronized
  have in_wsX30 : ∀ w ∈ wsX30, w ∈ wsX3_byteAt := fun w h => List.mem_cons_of_mem _ (List.mem_append_left _ (List.mem_append_left _ (List.mem_append_right _ h)))
  have in_wsX20 : ∀ w ∈ wsX20, w ∈ wsX3_byteAt := fun w h => List.mem_cons_of_mem _ (List.mem_append_left _ (List.mem_append_right _ h))
  have in_wsX10 : ∀ w ∈ wsX10, w ∈ wsX3_byteAt := fun w h => List.mem_cons_of_mem _ (List.mem_append_right _ h)
  have hl := lv_entry ([.ref (A 0), .int ss, .int x]) (n := 7) (Nat.le_of_ble_eq_true rfl)
  rw [lg_entry_eq]
  generalize (lg_sl ([.ref (A 0), .int ss, .int x]) ++ List.replicate (7 - (lg_sl ([.ref (A 0), .int ss, .int x])).length) Slot.unset).toArray = ls at hl ⊢
  have hl : lv_has ls 7 [(0, .ref (A 0)), (1, .int ss), (2, .int x)] := hl
  refine W_gen (fun Q hQ => ?_)
  obtain ⟨W0, me, co, sc, hP, hSx, hrb, hbl, hk5, hR0, hRh⟩ := id hH
  refine lv_iload_n hx hb dX3_byteAt_0 rfl (lv_at hl 1 rfl) ?_
  refine vp_callSi (va_Run.run (va_runS (As := [.int ss]) (rest := []) ⟨hx, hb, hml, hown, hts⟩ (k_X3_isSet l D T ss ) (va_cwS 1 hts gX3_byteAt_X3_isSet rfl rfl rfl (by decide +kernel) ⟨Nat.le_of_ble_eq_true rfl, Nat.le_of_ble_eq_true rfl⟩) (pre_S (Φ := fun X => True) hK trivial) rfl rfl hl.1 rfl (lv_room (Nat.le_of_ble_eq_true rfl)) dX3_byteAt_1 ⟨Nat.le_of_ble_eq_true rfl, Nat.le_of_ble_eq_true rfl⟩)) (fun r_1 hr_1 => ?_)
  subst hr_1
  refine lv_if_eq (tgt := 11) hx hb dX3_byteAt_4 (by decide) (fun c_1 => ?_) (fun c_1 => ?_)
  · skip
    have c_1 : (decide (¬ ss < 0 ∧ ss < nI 6)) = false := b2i_0.mp c_1
    have c_1 : ¬ (¬ ss < 0 ∧ ss < nI 6) := of_decide_eq_false c_1
    refine lv_iconst (v := (-1)) hx hb dX3_byteAt_11 (by decide) ?_
    subst hQ
    refine W.iret (v := (-1)) hx hb hr (fun t ht hW => ⟨(-1), rfl, ?_, ht⟩) (fun q h => absurd h List.not_mem_nil) dX3_byteAt_12
    first | exact (if_neg (fun z => c_1 z.1)).symm | exact (if_neg (fun z => c_2 (Int32.not_lt.mp z.2))).symm
  · skip
    have c_1 : (decide (¬ ss < 0 ∧ ss < nI 6)) = true := b2i_n0.mp c_1
    have c_1 : ¬ ss < 0 ∧ ss < nI 6 := of_decide_eq_true c_1
    refine lv_iload_n hx hb dX3_byteAt_7 rfl (lv_at hl 2 rfl) ?_
    refine lv_if_ge (tgt := 13) hx hb dX3_byteAt_8 (by decide) (fun c_2 => ?_) (fun c_2 => ?_)
    · skip
      obtain ⟨sN, hsN, rfl⟩ := okX (N := 6) (by decide) c_1
      obtain ⟨xN, hxN, rfl⟩ := nI_of (Int32.not_lt.mpr c_2)
      refine lv_aload_n hx hb dX3_byteAt_13 rfl (lv_at hl 0 rfl) ?_
      refine r_get (C := RX3) (Tb := TX3) (N := 5) hx hb hts in_wsX30 hown hK (hP.2.1) rfl 0 (by decide) (hts (.fieldLink RX3 10 "PieceSets" "now" "LPieceSets$State;") (by decide +kernel)) rfl (v := .ref (slA A 0 0)) rfl dX3_byteAt_14 ?_
      refine r_getN (C := RX2) (Tb := TX2) (N := 3) (host := "PieceSets") hx hb hts in_wsX20 hown hK ((hP.2.2.2.2.2 0 (by omega)).1) rfl 0 (by decide) (hK.2.f (args := ([.ref (A 0), .int (nI sN), .int (nI xN)] : List Value).toArray) 3 rfl) rfl (v := .ref (slA A 0 1)) rfl dX3_byteAt_17 ?_
      refine lv_iload_n hx hb dX3_byteAt_20 rfl (lv_at hl 1 rfl) ?_
      refine r_nald hx hb hK ((hP.2.2.2.2.2 0 (by omega)).2.1) (i := sN) (by omega) (by decide) (q := (slA A 0 (4 + 2 * sN))) (rfl) dX3_byteAt_21 ?_
      refine lv_astore_n (lv' := [(3, .ref (slA A 0 (4 + 2 * sN))), (0, .ref (A 0)), (1, .int (nI sN)), (2, .int (nI xN))]) hx hb dX3_byteAt_22 rfl hl (by decide) rfl (fun ls hl => ?_)
      refine lv_iload_n hx hb dX3_byteAt_23 rfl (lv_at hl 3 rfl) ?_
      refine lv_istore (lv' := [(4, .int (nI xN)), (3, .ref (slA A 0 (4 + 2 * sN))), (0, .ref (A 0)), (1, .int (nI sN)), (2, .int (nI xN))]) hx hb dX3_byteAt_24 hl (by decide) rfl (fun ls hl => ?_)
      refine lv_iconst (v := (nI 0)) hx hb dX3_byteAt_26 (by decide) ?_
      refine lv_istore (lv' := [(5, .int (nI 0)), (4, .int (nI xN)), (3, .ref (slA A 0 (4 + 2 * sN))), (0, .ref (A 0)), (1, .int (nI sN)), (2, .int (nI xN))]) hx hb dX3_byteAt_27 hl (by decide) rfl (fun ls hl => ?_)
      have loop29 : ∀ (n29 : Nat) (i : Nat) (u : Nat) (hi : i ≤ 16) (hu : u < 2 ^ 31) (hv : bfF (bitL (W0 0 sN)) (16 - i) i u = bfF (bitL (W0 0 sN)) 16 0 xN) (ls : Array Slot) (hl : lv_has ls 7 [(0, .ref (A 0)), (3, .ref (slA A 0 (4 + 2 * sN))), (4, .int (nI u)), (5, .int (nI i))]) (hn29 : 16 - i < n29), W pg l ev (headSpec wsX3_byteAt ({ frames := 5, cells := 0, slots := 0, locals := 133 })).room s m ([.ref (A 0), .int (nI sN), .int (nI xN)] : List Value).toArray below meth c s.heap [] 0 0 Q (F0 m 29 ls []) := by
        intro n29
        induction n29 with
        | zero =>
          intro i u hi hu hv ls hl hn29
          exact absurd hn29 (Nat.not_lt_zero _)
        | succ n29 ih29 =>
          intro i u hi hu hv ls hl hn29
          have hcs := cst_le (pn (bitL (W0 0 sN)) i) (pr (bitL (W0 0 sN)) i)
          refine lv_iload hx hb dX3_byteAt_29 (lv_at hl 3 rfl) ?_
          refine lv_bipush (v := (nI 16)) hx hb dX3_byteAt_31 (by decide) ?_
          refine lv_icmp_ge (tgt := 73) hx hb dX3_byteAt_33 (by decide) (fun c_3 => ?_) (fun c_3 => ?_)
          · skip
            have c_3 : 16 ≤ i := (nI_leI (a := 16) (b := i) (by omega) (by omega)).mp c_3
            refine lv_bipush (v := (-9)) hx hb dX3_byteAt_73 (by decide) ?_
            subst hQ
            refine W.iret (v := (-9)) hx hb hr (fun t ht hW => ⟨(-9), rfl, ?_, ht⟩) (fun q h => absurd h List.not_mem_nil) dX3_byteAt_75
            unfold byaR
            rw [if_pos ⟨okN hsN (by decide), Int32.not_lt.mpr c_2⟩, cl_n (by omega), cl_n hxN, ← bfF_cong (fun x h => hR0.1 _ hsN x h) 16 0 xN (by decide), ← hv, show 16 - i = 0 by omega]
            exact rfl
          · skip
            have c_3 : ¬ (16 ≤ i) := fun z => c_3 ((nI_leI (a := 16) (b := i) (by omega) (by omega)).mpr z)
            refine lv_aload_n hx hb dX3_byteAt_36 rfl (lv_at hl 1 rfl) ?_
            refine lv_iload hx hb dX3_byteAt_37 (lv_at hl 3 rfl) ?_
            refine vp_callSi (va_Run.run (va_runVN (As := [.int (nI i)]) (rest := []) ⟨hx, hb, hml, hown, hts⟩ (k_X1_costOf l D T (slA A 0 (4 + 2 * sN)) (slA A 0 (5 + 2 * sN)) (W0 0 sN) i (by omega)) (⟨va_cnB 1 hts ggX3_byteAt_X1_costOf rfl rfl rfl (hK.2.m (args := ([.ref (A 0), .int (nI sN), .int (nI xN)] : List Value).toArray) 23 rfl) (hts (.initialized RX1) (by decide +kernel)) (by decide +kernel) ⟨Nat.le_of_ble_eq_true rfl, Nat.le_of_ble_eq_true rfl⟩, hts (.instanceMethod yX1_costOf) (by decide +kernel), hts (.selects RX1 yX1_costOf yX1_costOf) (by decide +kernel)⟩) (pre_V (Φ := fun X => Num D T X (slA A 0 (4 + 2 * sN)) (slA A 0 (5 + 2 * sN)) (W0 0 sN)) hK (((hP.2.2.2.2.2 0 (by omega)).2.2.2.2 sN (by omega)).1) rfl ((hP.2.2.2.2.2 0 (by omega)).2.2.2.2 sN (by omega))) rfl rfl hl.1 rfl (lv_room (Nat.le_of_ble_eq_true rfl)) dX3_byteAt_39 ⟨Nat.le_of_ble_eq_true rfl, Nat.le_of_ble_eq_true rfl⟩)) (fun r_2 hr_2 => ?_)
            subst hr_2
            refine lv_istore (lv' := [(6, .int (nI (cst (pn (bitL (W0 0 sN)) i) (pr (bitL (W0 0 sN)) i)))), (0, .ref (A 0)), (3, .ref (slA A 0 (4 + 2 * sN))), (4, .int (nI u)), (5, .int (nI i))]) hx hb dX3_byteAt_42 hl (by decide) rfl (fun ls hl => ?_)
            refine lv_iload hx hb dX3_byteAt_44 (lv_at hl 3 rfl) ?_
            refine lv_iload hx hb dX3_byteAt_46 (lv_at hl 0 rfl) ?_
            refine lv_icmp_ge (tgt := 60) hx hb dX3_byteAt_48 (by decide) (fun c_4 => ?_) (fun c_4 => ?_)
            · skip
              have c_4 : (cst (pn (bitL (W0 0 sN)) i) (pr (bitL (W0 0 sN)) i)) ≤ u := (nI_leI (a := (cst (pn (bitL (W0 0 sN)) i) (pr (bitL (W0 0 sN)) i))) (b := u) (by omega) (by omega)).mp c_4
              refine lv_iload hx hb dX3_byteAt_60 (lv_at hl 3 rfl) ?_
              refine lv_iload hx hb dX3_byteAt_62 (lv_at hl 0 rfl) ?_
              refine lv_isub hx hb dX3_byteAt_64 ?_
              refine top_i (pk_sub (a := u) (b := cst (pn (bitL (W0 0 sN)) i) (pr (bitL (W0 0 sN)) i)) (by omega)) ?_
              refine lv_istore (lv' := [(4, .int (nI (u - (cst (pn (bitL (W0 0 sN)) i) (pr (bitL (W0 0 sN)) i))))), (6, .int (nI (cst (pn (bitL (W0 0 sN)) i) (pr (bitL (W0 0 sN)) i)))), (0, .ref (A 0)), (3, .ref (slA A 0 (4 + 2 * sN))), (5, .int (nI i))]) hx hb dX3_byteAt_65 hl (by decide) rfl (fun ls hl => ?_)
              refine lv_iinc (v := (nI (i + 1))) (lv' := [(5, .int (nI (i + 1))), (4, .int (nI (u - (cst (pn (bitL (W0 0 sN)) i) (pr (bitL (W0 0 sN)) i))))), (6, .int (nI (cst (pn (bitL (W0 0 sN)) i) (pr (bitL (W0 0 sN)) i)))), (0, .ref (A 0)), (3, .ref (slA A 0 (4 + 2 * sN)))]) hx hb dX3_byteAt_67 hl (k := 4) rfl (iinc_n i 1) (by decide) rfl (fun ls hl => ?_)
              refine lv_goto (tgt := 29) hx hb dX3_byteAt_70 (by decide) ?_
              have hl := lv_sub hl (l' := [(0, .ref (A 0)), (3, .ref (slA A 0 (4 + 2 * sN))), (4, .int (nI (u - (cst (pn (bitL (W0 0 sN)) i) (pr (bitL (W0 0 sN)) i))))), (5, .int (nI (i + 1)))]) [3, 4, 1, 0] rfl
              exact ih29 (i + 1) (u - (cst (pn (bitL (W0 0 sN)) i) (pr (bitL (W0 0 sN)) i))) (by omega) (by omega) (by rw [show 16 - i = (16 - (i + 1)) + 1 by omega] at hv; rw [bfF_s, if_neg (by unfold pcst; omega)] at hv; exact hv) ls hl (by omega)
            · skip
              have c_4 : ¬ ((cst (pn (bitL (W0 0 sN)) i) (pr (bitL (W0 0 sN)) i)) ≤ u) := fun z => c_4 ((nI_leI (a := (cst (pn (bitL (W0 0 sN)) i) (pr (bitL (W0 0 sN)) i))) (b := u) (by omega) (by omega)).mpr z)
              refine lv_aload_n hx hb dX3_byteAt_51 rfl (lv_at hl 2 rfl) ?_
              refine lv_iload hx hb dX3_byteAt_52 (lv_at hl 4 rfl) ?_
              refine lv_iload hx hb dX3_byteAt_54 (lv_at hl 3 rfl) ?_
              refine vp_callSi (va_Run.run (va_runVN (As := [.int (nI i), .int (nI u)]) (rest := []) ⟨hx, hb, hml, hown, hts⟩ (k_X1_writtenByte l D T (slA A 0 (4 + 2 * sN)) (slA A 0 (5 + 2 * sN)) (W0 0 sN) i u (by omega) (by omega)) (⟨va_cnB 2 hts ggX3_byteAt_X1_writtenByte rfl rfl rfl (hK.2.m (args := ([.ref (A 0), .int (nI sN), .int (nI xN)] : List Value).toArray) 37 rfl) (hts (.initialized RX1) (by decide +kernel)) (by decide +kernel) ⟨Nat.le_of_ble_eq_true rfl, Nat.le_of_ble_eq_true rfl⟩, hts (.instanceMethod yX1_writtenByte) (by decide +kernel), hts (.selects RX1 yX1_writtenByte yX1_writtenByte) (by decide +kernel)⟩) (pre_V (Φ := fun X => Num D T X (slA A 0 (4 + 2 * sN)) (slA A 0 (5 + 2 * sN)) (W0 0 sN)) hK (((hP.2.2.2.2.2 0 (by omega)).2.2.2.2 sN (by omega)).1) rfl ((hP.2.2.2.2.2 0 (by omega)).2.2.2.2 sN (by omega))) rfl rfl hl.1 rfl (lv_room (Nat.le_of_ble_eq_true rfl)) dX3_byteAt_56 ⟨Nat.le_of_ble_eq_true rfl, Nat.le_of_ble_eq_true rfl⟩)) (fun r_3 hr_3 => ?_)
              subst hr_3
              subst hQ
              refine W.iret (v := (wb (bitL (W0 0 sN)) i u)) hx hb hr (fun t ht hW => ⟨(wb (bitL (W0 0 sN)) i u), rfl, ?_, ht⟩) (fun q h => absurd h List.not_mem_nil) dX3_byteAt_59
              unfold byaR
              rw [if_pos ⟨okN hsN (by decide), Int32.not_lt.mpr c_2⟩, cl_n (by omega), cl_n hxN, ← bfF_cong (fun x h => hR0.1 _ hsN x h) 16 0 xN (by decide), ← hv, show 16 - i = (16 - (i + 1)) + 1 by omega, bfF_s, if_pos (by unfold pcst; omega)]
      have hl := lv_sub hl (l' := [(0, .ref (A 0)), (3, .ref (slA A 0 (4 + 2 * sN))), (4, .int (nI xN)), (5, .int (nI 0))]) [3, 2, 1, 0] rfl
      exact loop29 (16 - 0 + 1) 0 xN (Nat.zero_le _) (hxN) (rfl) ls hl (Nat.lt_succ_self _)
    · skip
      refine lv_iconst (v := (-1)) hx hb dX3_byteAt_11 (by decide) ?_
      subst hQ
      refine W.iret (v := (-1)) hx hb hr (fun t ht hW => ⟨(-1), rfl, ?_, ht⟩) (fun q h => absurd h List.not_mem_nil) dX3_byteAt_12
      first | exact (if_neg (fun z => c_1 z.1)).symm | exact (if_neg (fun z => c_2 (Int32.not_lt.mp z.2))).symm
set_option maxHeartbeats 4000000 in
set_option maxRecDepth 100000 in
theorem k_X3_met (l : Launch) (D : va_G) (T : Nat → ClassId) (A : Nat → Nat) (Sx : Nat → Prop) (fi : FS) (x : Int32) (y : Int32) : Met l yX3_met wsX3_met ({ frames := 1, cells := 0, slots := 0, locals := 20 }) (va_Pc [.ref (A 0), .int x, .int y] (fun U => KS D T U ∧ PSE D T U.heap A Sx fi)) (vp_Si (fun r => r = (metR fi x y))) 0 0 (fun _ => False) := by
  refine Met.ofW (cc := cX3_met) (maxL := 3) (ret := (some .int)) (by decide) rfl ?_
  intro pg ev s m args below meth c s₁ B hml hv
  obtain ⟨rfl, hK, hH⟩ := hv
  have hx := B.exec
  have hb := B.bytes
  have hr := B.returns
  have hts := atoms_spec (ws := wsX3_met) B.pre
  have hown : s.vm.findClass RX3 = some m.cls := findClass_of_methodNamed B.named
  have hlocks := B.notSynchronized
  have in_wsX30 : ∀ w ∈ wsX30, w ∈ wsX3_met := fun w h => List.mem_cons_of_mem _ (List.mem_append_left _ (List.mem_append_right _ h))
  have in_wsX20 : ∀ w ∈ wsX20, w ∈ wsX3_met := fun w h => List.mem_cons_of_mem _ (List.mem_append_right _ h)
  have hl := lv_entry ([.ref (A 0), .int x, .int y]) (n := 3) (Nat.le_of_ble_eq_true rfl)
  rw [lg_entry_eq]
  generalize (lg_sl ([.ref (A 0), .int x, .int y]) ++ List.replicate (3 - (lg_sl ([.ref (A 0), .int x, .int y])).length) Slot.unset).toArray = ls at hl ⊢
  have hl : lv_has ls 3 [(0, .ref (A 0)), (1, .int x), (2, .int y)] := hl
  refine W_gen (fun Q hQ => ?_)
  obtain ⟨W0, me, co, sc, hP, hSx, hrb, hbl, hk5, hR0, hRh⟩ := id hH
  refine lv_iload_n hx hb dX3_met_0 rfl (lv_at hl 1 rfl) ?_
  refine vp_callSi (va_Run.run (va_runS (As := [.int x]) (rest := []) ⟨hx, hb, hml, hown, hts⟩ (k_X3_isKind l D T x ) (va_cwS 1 hts gX3_met_X3_isKind rfl rfl rfl (by decide +kernel) ⟨Nat.le_of_ble_eq_true rfl, Nat.le_of_ble_eq_true rfl⟩) (pre_S (Φ := fun X => True) hK trivial) rfl rfl hl.1 rfl (lv_room (Nat.le_of_ble_eq_true rfl)) dX3_met_1 ⟨Nat.le_of_ble_eq_true rfl, Nat.le_of_ble_eq_true rfl⟩)) (fun r_1 hr_1 => ?_)
  subst hr_1
  refine lv_if_eq (tgt := 14) hx hb dX3_met_4 (by decide) (fun c_1 => ?_) (fun c_1 => ?_)
  · skip
    have c_1 : (decide (¬ x < 0 ∧ x < nI 3)) = false := b2i_0.mp c_1
    have c_1 : ¬ (¬ x < 0 ∧ x < nI 3) := of_decide_eq_false c_1
    refine lv_iconst (v := (-1)) hx hb dX3_met_14 (by decide) ?_
    subst hQ
    refine W.iret (v := (-1)) hx hb hr (fun t ht hW => ⟨(-1), rfl, ?_, ht⟩) (fun q h => absurd h List.not_mem_nil) dX3_met_15
    first | exact (if_neg (fun z => c_1 z.1)).symm | exact (if_neg (fun z => c_2 z.2)).symm
  · skip
    have c_1 : (decide (¬ x < 0 ∧ x < nI 3)) = true := b2i_n0.mp c_1
    have c_1 : ¬ x < 0 ∧ x < nI 3 := of_decide_eq_true c_1
    refine lv_iload_n hx hb dX3_met_7 rfl (lv_at hl 2 rfl) ?_
    refine vp_callSi (va_Run.run (va_runS (As := [.int y]) (rest := []) ⟨hx, hb, hml, hown, hts⟩ (k_X3_isKind l D T y ) (va_cwS 1 hts gX3_met_X3_isKind rfl rfl rfl (by decide +kernel) ⟨Nat.le_of_ble_eq_true rfl, Nat.le_of_ble_eq_true rfl⟩) (pre_S (Φ := fun X => True) hK trivial) rfl rfl hl.1 rfl (lv_room (Nat.le_of_ble_eq_true rfl)) dX3_met_8 ⟨Nat.le_of_ble_eq_true rfl, Nat.le_of_ble_eq_true rfl⟩)) (fun r_2 hr_2 => ?_)
    subst hr_2
    refine lv_if_ne (tgt := 16) hx hb dX3_met_11 (by decide) (fun c_2 => ?_) (fun c_2 => ?_)
    · skip
      have c_2 : (decide (¬ y < 0 ∧ y < nI 3)) = true := b2i_n0.mp c_2
      have c_2 : ¬ y < 0 ∧ y < nI 3 := of_decide_eq_true c_2
      obtain ⟨xN, hxN, rfl⟩ := okX (N := 3) (by decide) c_1
      obtain ⟨yN, hyN, rfl⟩ := okX (N := 3) (by decide) c_2
      refine lv_aload_n hx hb dX3_met_16 rfl (lv_at hl 0 rfl) ?_
      refine r_get (C := RX3) (Tb := TX3) (N := 5) hx hb hts in_wsX30 hown hK (hP.2.1) rfl 0 (by decide) (hts (.fieldLink RX3 10 "PieceSets" "now" "LPieceSets$State;") (by decide +kernel)) rfl (v := .ref (slA A 0 0)) rfl dX3_met_17 ?_
      refine r_getN (C := RX2) (Tb := TX2) (N := 3) (host := "PieceSets") hx hb hts in_wsX20 hown hK ((hP.2.2.2.2.2 0 (by omega)).1) rfl 1 (by decide) (hK.2.f (args := ([.ref (A 0), .int (nI xN), .int (nI yN)] : List Value).toArray) 4 rfl) rfl (v := .ref (slA A 0 2)) rfl dX3_met_20 ?_
      refine lv_iconst (v := (nI 3)) hx hb dX3_met_23 (by decide) ?_
      refine lv_iload_n hx hb dX3_met_24 rfl (lv_at hl 1 rfl) ?_
      refine lv_imul hx hb dX3_met_25 ?_
      refine top_i (pk_mul 3 xN) ?_
      refine lv_iload_n hx hb dX3_met_26 rfl (lv_at hl 2 rfl) ?_
      refine lv_iadd hx hb dX3_met_27 ?_
      refine top_i (nI_add (3 * xN) yN) ?_
      refine r_iald hx hb hK ((hP.2.2.2.2.2 0 (by omega)).2.2.1) (i := (3 * xN) + yN) (by omega) (by decide) dX3_met_28 ?_
      subst hQ
      refine W.iret (v := ((me 0) ((3 * xN) + yN))) hx hb hr (fun t ht hW => ⟨((me 0) ((3 * xN) + yN)), rfl, ?_, ht⟩) (fun q h => absurd h List.not_mem_nil) dX3_met_29
      unfold metR
      rw [if_pos ⟨okN hxN (by decide), okN hyN (by decide)⟩, cl_n (by omega), cl_n (by omega)]
      exact hR0.2.1 _ (by omega)
    · skip
      have c_2 : (decide (¬ y < 0 ∧ y < nI 3)) = false := b2i_0.mp c_2
      have c_2 : ¬ (¬ y < 0 ∧ y < nI 3) := of_decide_eq_false c_2
      refine lv_iconst (v := (-1)) hx hb dX3_met_14 (by decide) ?_
      subst hQ
      refine W.iret (v := (-1)) hx hb hr (fun t ht hW => ⟨(-1), rfl, ?_, ht⟩) (fun q h => absurd h List.not_mem_nil) dX3_met_15
      first | exact (if_neg (fun z => c_1 z.1)).symm | exact (if_neg (fun z => c_2 z.2)).symm
set_option maxHeartbeats 4000000 in
set_option maxRecDepth 100000 in
theorem k_X3_converted (l : Launch) (D : va_G) (T : Nat → ClassId) (A : Nat → Nat) (Sx : Nat → Prop) (fi : FS) (x : Int32) (y : Int32) : Met l yX3_converted wsX3_converted ({ frames := 1, cells := 0, slots := 0, locals := 20 }) (va_Pc [.ref (A 0), .int x, .int y] (fun U => KS D T U ∧ PSE D T U.heap A Sx fi)) (vp_Si (fun r => r = (cvtR fi x y))) 0 0 (fun _ => False) := by
  refine Met.ofW (cc := cX3_converted) (maxL := 3) (ret := (some .int)) (by decide) rfl ?_
  intro pg ev s m args below meth c s₁ B hml hv
  obtain ⟨rfl, hK, hH⟩ := hv
  have hx := B.exec
  have hb := B.bytes
  have hr := B.returns
  have hts := atoms_spec (ws := wsX3_converted) B.pre
  have hown : s.vm.findClass RX3 = some m.cls := findClass_of_methodNamed B.named
  have hlocks := B.notSynchronized
  have in_wsX30 : ∀ w ∈ wsX30, w ∈ wsX3_converted := fun w h => List.mem_cons_of_mem _ (List.mem_append_left _ (List.mem_append_right _ h))
  have in_wsX20 : ∀ w ∈ wsX20, w ∈ wsX3_converted := fun w h => List.mem_cons_of_mem _ (List.mem_append_right _ h)
  have hl := lv_entry ([.ref (A 0), .int x, .int y]) (n := 3) (Nat.le_of_ble_eq_true rfl)
  rw [lg_entry_eq]
  generalize (lg_sl ([.ref (A 0), .int x, .int y]) ++ List.replicate (3 - (lg_sl ([.ref (A 0), .int x, .int y])).length) Slot.unset).toArray = ls at hl ⊢
  have hl : lv_has ls 3 [(0, .ref (A 0)), (1, .int x), (2, .int y)] := hl
  refine W_gen (fun Q hQ => ?_)
  obtain ⟨W0, me, co, sc, hP, hSx, hrb, hbl, hk5, hR0, hRh⟩ := id hH
  refine lv_iload_n hx hb dX3_converted_0 rfl (lv_at hl 1 rfl) ?_
  refine vp_callSi (va_Run.run (va_runS (As := [.int x]) (rest := []) ⟨hx, hb, hml, hown, hts⟩ (k_X3_isKind l D T x ) (va_cwS 1 hts gX3_converted_X3_isKind rfl rfl rfl (by decide +kernel) ⟨Nat.le_of_ble_eq_true rfl, Nat.le_of_ble_eq_true rfl⟩) (pre_S (Φ := fun X => True) hK trivial) rfl rfl hl.1 rfl (lv_room (Nat.le_of_ble_eq_true rfl)) dX3_converted_1 ⟨Nat.le_of_ble_eq_true rfl, Nat.le_of_ble_eq_true rfl⟩)) (fun r_1 hr_1 => ?_)
  subst hr_1
  refine lv_if_eq (tgt := 19) hx hb dX3_converted_4 (by decide) (fun c_1 => ?_) (fun c_1 => ?_)
  · skip
    have c_1 : (decide (¬ x < 0 ∧ x < nI 3)) = false := b2i_0.mp c_1
    have c_1 : ¬ (¬ x < 0 ∧ x < nI 3) := of_decide_eq_false c_1
    refine lv_iconst (v := (-1)) hx hb dX3_converted_19 (by decide) ?_
    subst hQ
    refine W.iret (v := (-1)) hx hb hr (fun t ht hW => ⟨(-1), rfl, ?_, ht⟩) (fun q h => absurd h List.not_mem_nil) dX3_converted_20
    exact (if_neg (fun z => c_1 z.1)).symm
  · skip
    have c_1 : (decide (¬ x < 0 ∧ x < nI 3)) = true := b2i_n0.mp c_1
    have c_1 : ¬ x < 0 ∧ x < nI 3 := of_decide_eq_true c_1
    refine lv_iload_n hx hb dX3_converted_7 rfl (lv_at hl 2 rfl) ?_
    refine vp_callSi (va_Run.run (va_runS (As := [.int y]) (rest := []) ⟨hx, hb, hml, hown, hts⟩ (k_X3_isKind l D T y ) (va_cwS 1 hts gX3_converted_X3_isKind rfl rfl rfl (by decide +kernel) ⟨Nat.le_of_ble_eq_true rfl, Nat.le_of_ble_eq_true rfl⟩) (pre_S (Φ := fun X => True) hK trivial) rfl rfl hl.1 rfl (lv_room (Nat.le_of_ble_eq_true rfl)) dX3_converted_8 ⟨Nat.le_of_ble_eq_true rfl, Nat.le_of_ble_eq_true rfl⟩)) (fun r_2 hr_2 => ?_)
    subst hr_2
    refine lv_if_eq (tgt := 19) hx hb dX3_converted_11 (by decide) (fun c_2 => ?_) (fun c_2 => ?_)
    · skip
      have c_2 : (decide (¬ y < 0 ∧ y < nI 3)) = false := b2i_0.mp c_2
      have c_2 : ¬ (¬ y < 0 ∧ y < nI 3) := of_decide_eq_false c_2
      refine lv_iconst (v := (-1)) hx hb dX3_converted_19 (by decide) ?_
      subst hQ
      refine W.iret (v := (-1)) hx hb hr (fun t ht hW => ⟨(-1), rfl, ?_, ht⟩) (fun q h => absurd h List.not_mem_nil) dX3_converted_20
      exact (if_neg (fun z => c_2 z.2.1)).symm
    · skip
      have c_2 : (decide (¬ y < 0 ∧ y < nI 3)) = true := b2i_n0.mp c_2
      have c_2 : ¬ y < 0 ∧ y < nI 3 := of_decide_eq_true c_2
      refine lv_iload_n hx hb dX3_converted_14 rfl (lv_at hl 1 rfl) ?_
      refine lv_iload_n hx hb dX3_converted_15 rfl (lv_at hl 2 rfl) ?_
      refine lv_icmp_ne (tgt := 21) hx hb dX3_converted_16 (by decide) (fun c_3 => ?_) (fun c_3 => ?_)
      · skip
        obtain ⟨xN, hxN, rfl⟩ := okX (N := 3) (by decide) c_1
        obtain ⟨yN, hyN, rfl⟩ := okX (N := 3) (by decide) c_2
        refine lv_aload_n hx hb dX3_converted_21 rfl (lv_at hl 0 rfl) ?_
        refine r_get (C := RX3) (Tb := TX3) (N := 5) hx hb hts in_wsX30 hown hK (hP.2.1) rfl 0 (by decide) (hts (.fieldLink RX3 10 "PieceSets" "now" "LPieceSets$State;") (by decide +kernel)) rfl (v := .ref (slA A 0 0)) rfl dX3_converted_22 ?_
        refine r_getN (C := RX2) (Tb := TX2) (N := 3) (host := "PieceSets") hx hb hts in_wsX20 hown hK ((hP.2.2.2.2.2 0 (by omega)).1) rfl 2 (by decide) (hK.2.f (args := ([.ref (A 0), .int (nI xN), .int (nI yN)] : List Value).toArray) 5 rfl) rfl (v := .ref (slA A 0 3)) rfl dX3_converted_25 ?_
        refine lv_iconst (v := (nI 3)) hx hb dX3_converted_28 (by decide) ?_
        refine lv_iload_n hx hb dX3_converted_29 rfl (lv_at hl 1 rfl) ?_
        refine lv_imul hx hb dX3_converted_30 ?_
        refine top_i (pk_mul 3 xN) ?_
        refine lv_iload_n hx hb dX3_converted_31 rfl (lv_at hl 2 rfl) ?_
        refine lv_iadd hx hb dX3_converted_32 ?_
        refine top_i (nI_add (3 * xN) yN) ?_
        refine r_iald hx hb hK ((hP.2.2.2.2.2 0 (by omega)).2.2.2.1) (i := (3 * xN) + yN) (by omega) (by decide) dX3_converted_33 ?_
        subst hQ
        refine W.iret (v := ((co 0) ((3 * xN) + yN))) hx hb hr (fun t ht hW => ⟨((co 0) ((3 * xN) + yN)), rfl, ?_, ht⟩) (fun q h => absurd h List.not_mem_nil) dX3_converted_34
        unfold cvtR
        rw [if_pos ⟨okN hxN (by decide), okN hyN (by decide), c_3⟩, cl_n (by omega), cl_n (by omega)]
        exact hR0.2.2 _ (by omega)
      · skip
        refine lv_iconst (v := (-1)) hx hb dX3_converted_19 (by decide) ?_
        subst hQ
        refine W.iret (v := (-1)) hx hb hr (fun t ht hW => ⟨(-1), rfl, ?_, ht⟩) (fun q h => absurd h List.not_mem_nil) dX3_converted_20
        exact (if_neg (fun z => z.2.2 c_3)).symm
