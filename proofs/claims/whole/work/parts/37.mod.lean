set_option maxHeartbeats 4000000 in
set_option maxRecDepth 100000 in
theorem k_X4_in (l : Launch) (D : va_G) (T : Nat → ClassId) (x : Int32) (y : Int32) (z : Int32) : Met l yX4_in wsX4_in ({ frames := 0, cells := 0, slots := 0, locals := 0 }) (va_Pc [.int x, .int y, .int z] (fun U => KS D T U ∧ True)) (vp_Si (fun r => r = (b2i (decide (y ≤ x ∧ x ≤ z))))) 0 0 (fun _ => False) := by
  refine Met.ofW (cc := cX4_in) (maxL := 3) (ret := (some .boolean)) (by decide) rfl ?_
  intro pg ev s m args below meth c s₁ B hml hv
  obtain ⟨rfl, hK, hH⟩ := hv
  have hx := B.exec
  have hb := B.bytes
  have hr := B.returns
  have hts := atoms_spec (ws := wsX4_in) B.pre
  have hown : s.vm.findClass RX4 = some m.cls := findClass_of_methodNamed B.named
  have hlocks := B.notSynchronized
  have hl := lv_entry ([.int x, .int y, .int z]) (n := 3) (Nat.le_of_ble_eq_true rfl)
  rw [lg_entry_eq]
  generalize (lg_sl ([.int x, .int y, .int z]) ++ List.replicate (3 - (lg_sl ([.int x, .int y, .int z])).length) Slot.unset).toArray = ls at hl ⊢
  have hl : lv_has ls 3 [(0, .int x), (1, .int y), (2, .int z)] := hl
  refine W_gen (fun Q hQ => ?_)
  refine lv_iload_n hx hb dX4_in_0 rfl (lv_at hl 0 rfl) ?_
  refine lv_iload_n hx hb dX4_in_1 rfl (lv_at hl 1 rfl) ?_
  refine lv_icmp_lt (tgt := 14) hx hb dX4_in_2 (by decide) (fun c_1 => ?_) (fun c_1 => ?_)
  · skip
    refine lv_iconst (v := (nI 0)) hx hb dX4_in_14 (by decide) ?_
    subst hQ
    refine W.zret (v := (nI 0)) hx hb hr nb0 (fun t ht hW => ⟨(nI 0), rfl, ?_, ht⟩) (fun q h => absurd h List.not_mem_nil) dX4_in_15
    first | exact r0 (decide_eq_false (fun q => Int32.not_lt.mpr q.2 c_2)) | exact r0 (decide_eq_false (fun q => Int32.not_lt.mpr q.1 c_1))
  · skip
    refine lv_iload_n hx hb dX4_in_5 rfl (lv_at hl 0 rfl) ?_
    refine lv_iload_n hx hb dX4_in_6 rfl (lv_at hl 2 rfl) ?_
    refine lv_icmp_gt (tgt := 14) hx hb dX4_in_7 (by decide) (fun c_2 => ?_) (fun c_2 => ?_)
    · skip
      refine lv_iconst (v := (nI 0)) hx hb dX4_in_14 (by decide) ?_
      subst hQ
      refine W.zret (v := (nI 0)) hx hb hr nb0 (fun t ht hW => ⟨(nI 0), rfl, ?_, ht⟩) (fun q h => absurd h List.not_mem_nil) dX4_in_15
      first | exact r0 (decide_eq_false (fun q => Int32.not_lt.mpr q.2 c_2)) | exact r0 (decide_eq_false (fun q => Int32.not_lt.mpr q.1 c_1))
    · skip
      refine lv_iconst (v := (nI 1)) hx hb dX4_in_10 (by decide) ?_
      refine lv_goto (tgt := 15) hx hb dX4_in_11 (by decide) ?_
      subst hQ
      refine W.zret (v := (nI 1)) hx hb hr nb1 (fun t ht hW => ⟨(nI 1), rfl, ?_, ht⟩) (fun q h => absurd h List.not_mem_nil) dX4_in_15
      exact r1 (decide_eq_true ⟨Int32.not_lt.mp c_1, Int32.not_lt.mp c_2⟩)
set_option maxHeartbeats 4000000 in
set_option maxRecDepth 100000 in
theorem k_X4_isSet (l : Launch) (D : va_G) (T : Nat → ClassId) (x : Int32) : Met l yX4_isSet wsX4_isSet ({ frames := 1, cells := 0, slots := 0, locals := 22 }) (va_Pc [.int x] (fun U => KS D T U ∧ True)) (vp_Si (fun r => r = (b2i (decide (¬ x < 0 ∧ x < nI 6))))) 0 0 (fun _ => False) := by
  refine Met.ofW (cc := cX4_isSet) (maxL := 1) (ret := (some .boolean)) (by decide) rfl ?_
  intro pg ev s m args below meth c s₁ B hml hv
  obtain ⟨rfl, hK, hH⟩ := hv
  have hx := B.exec
  have hb := B.bytes
  have hr := B.returns
  have hts := atoms_spec (ws := wsX4_isSet) B.pre
  have hown : s.vm.findClass RX4 = some m.cls := findClass_of_methodNamed B.named
  have hlocks := B.notSynchronized
  have hl := lv_entry ([.int x]) (n := 1) (Nat.le_of_ble_eq_true rfl)
  rw [lg_entry_eq]
  generalize (lg_sl ([.int x]) ++ List.replicate (1 - (lg_sl ([.int x])).length) Slot.unset).toArray = ls at hl ⊢
  have hl : lv_has ls 1 [(0, .int x)] := hl
  refine W_gen (fun Q hQ => ?_)
  refine lv_iload_n hx hb dX4_isSet_0 rfl (lv_at hl 0 rfl) ?_
  refine lv_iconst (v := (nI 0)) hx hb dX4_isSet_1 (by decide) ?_
  refine lv_iconst (v := (nI 5)) hx hb dX4_isSet_2 (by decide) ?_
  refine vp_callSi (va_Run.run (va_runS (As := [.int x, .int (nI 0), .int (nI 5)]) (rest := []) ⟨hx, hb, hml, hown, hts⟩ (k_X4_in l D T x (nI 0) (nI 5) ) (va_cwS 3 hts gX4_isSet_X4_in rfl rfl rfl (by decide +kernel) ⟨Nat.le_of_ble_eq_true rfl, Nat.le_of_ble_eq_true rfl⟩) (pre_S (Φ := fun X => True) hK trivial) rfl rfl hl.1 rfl (lv_room (Nat.le_of_ble_eq_true rfl)) dX4_isSet_3 ⟨Nat.le_of_ble_eq_true rfl, Nat.le_of_ble_eq_true rfl⟩)) (fun r_1 hr_1 => ?_)
  subst hr_1
  refine top_i (x' := (b2i (decide (¬ x < 0 ∧ x < nI 6)))) (congrArg b2i (decide_eq_decide.mpr (in_set (n := 5) (by decide) x))) ?_
  subst hQ
  refine W.zret (v := (b2i (decide (¬ x < 0 ∧ x < nI 6)))) hx hb hr (nbb (decide (¬ x < 0 ∧ x < nI 6))) (fun t ht hW => ⟨(b2i (decide (¬ x < 0 ∧ x < nI 6))), rfl, ?_, ht⟩) (fun q h => absurd h List.not_mem_nil) dX4_isSet_6
  exact rfl
set_option maxHeartbeats 4000000 in
set_option maxRecDepth 100000 in
theorem k_X4_isKindNumber (l : Launch) (D : va_G) (T : Nat → ClassId) (x : Int32) : Met l yX4_isKindNumber wsX4_isKindNumber ({ frames := 1, cells := 0, slots := 0, locals := 22 }) (va_Pc [.int x] (fun U => KS D T U ∧ True)) (vp_Si (fun r => r = (b2i (decide (¬ x < 0 ∧ x < nI 3))))) 0 0 (fun _ => False) := by
  refine Met.ofW (cc := cX4_isKindNumber) (maxL := 1) (ret := (some .boolean)) (by decide) rfl ?_
  intro pg ev s m args below meth c s₁ B hml hv
  obtain ⟨rfl, hK, hH⟩ := hv
  have hx := B.exec
  have hb := B.bytes
  have hr := B.returns
  have hts := atoms_spec (ws := wsX4_isKindNumber) B.pre
  have hown : s.vm.findClass RX4 = some m.cls := findClass_of_methodNamed B.named
  have hlocks := B.notSynchronized
  have hl := lv_entry ([.int x]) (n := 1) (Nat.le_of_ble_eq_true rfl)
  rw [lg_entry_eq]
  generalize (lg_sl ([.int x]) ++ List.replicate (1 - (lg_sl ([.int x])).length) Slot.unset).toArray = ls at hl ⊢
  have hl : lv_has ls 1 [(0, .int x)] := hl
  refine W_gen (fun Q hQ => ?_)
  refine lv_iload_n hx hb dX4_isKindNumber_0 rfl (lv_at hl 0 rfl) ?_
  refine lv_iconst (v := (nI 0)) hx hb dX4_isKindNumber_1 (by decide) ?_
  refine lv_iconst (v := (nI 2)) hx hb dX4_isKindNumber_2 (by decide) ?_
  refine vp_callSi (va_Run.run (va_runS (As := [.int x, .int (nI 0), .int (nI 2)]) (rest := []) ⟨hx, hb, hml, hown, hts⟩ (k_X4_in l D T x (nI 0) (nI 2) ) (va_cwS 3 hts gX4_isKindNumber_X4_in rfl rfl rfl (by decide +kernel) ⟨Nat.le_of_ble_eq_true rfl, Nat.le_of_ble_eq_true rfl⟩) (pre_S (Φ := fun X => True) hK trivial) rfl rfl hl.1 rfl (lv_room (Nat.le_of_ble_eq_true rfl)) dX4_isKindNumber_3 ⟨Nat.le_of_ble_eq_true rfl, Nat.le_of_ble_eq_true rfl⟩)) (fun r_1 hr_1 => ?_)
  subst hr_1
  refine top_i (x' := (b2i (decide (¬ x < 0 ∧ x < nI 3)))) (congrArg b2i (decide_eq_decide.mpr (in_set (n := 2) (by decide) x))) ?_
  subst hQ
  refine W.zret (v := (b2i (decide (¬ x < 0 ∧ x < nI 3)))) hx hb hr (nbb (decide (¬ x < 0 ∧ x < nI 3))) (fun t ht hW => ⟨(b2i (decide (¬ x < 0 ∧ x < nI 3))), rfl, ?_, ht⟩) (fun q h => absurd h List.not_mem_nil) dX4_isKindNumber_6
  exact rfl
set_option maxHeartbeats 4000000 in
set_option maxRecDepth 100000 in
theorem k_X4_bit (l : Launch) (D : va_G) (T : Nat → ClassId) (w : Nat) (f : Nat → Int32) (ss : Nat) (x : Nat) (hs : ss < 6) (hx4 : x < 4096) : Met l yX4_bit wsX4_bit ({ frames := 0, cells := 0, slots := 0, locals := 0 }) (va_Pc [.ref w, .int (nI ss), .int (nI x)] (fun U => KS D T U ∧ va_at D vwCl (w, eI T 790 f) U.heap)) (vp_Si (fun r => r = (b2i (bI f ss x)))) 0 0 (fun _ => False) := by
  refine Met.ofW (cc := cX4_bit) (maxL := 3) (ret := (some .boolean)) (by decide) rfl ?_
  intro pg ev s m args below meth c s₁ B hml hv
  obtain ⟨rfl, hK, hH⟩ := hv
  have hx := B.exec
  have hb := B.bytes
  have hr := B.returns
  have hts := atoms_spec (ws := wsX4_bit) B.pre
  have hown : s.vm.findClass RX4 = some m.cls := findClass_of_methodNamed B.named
  have hlocks := B.notSynchronized
  have hl := lv_entry ([.ref w, .int (nI ss), .int (nI x)]) (n := 3) (Nat.le_of_ble_eq_true rfl)
  rw [lg_entry_eq]
  generalize (lg_sl ([.ref w, .int (nI ss), .int (nI x)]) ++ List.replicate (3 - (lg_sl ([.ref w, .int (nI ss), .int (nI x)])).length) Slot.unset).toArray = ls at hl ⊢
  have hl : lv_has ls 3 [(0, .ref w), (1, .int (nI ss)), (2, .int (nI x))] := hl
  refine W_gen (fun Q hQ => ?_)
  have hR := hH
  refine lv_aload_n hx hb dX4_bit_0 rfl (lv_at hl 0 rfl) ?_
  refine lv_sipush (v := (nI 128)) hx hb dX4_bit_1 (by decide) ?_
  refine lv_iload_n hx hb dX4_bit_4 rfl (lv_at hl 1 rfl) ?_
  refine lv_imul hx hb dX4_bit_5 ?_
  refine top_i (pk_mul 128 ss) ?_
  refine lv_iload_n hx hb dX4_bit_6 rfl (lv_at hl 2 rfl) ?_
  refine lv_bipush (v := (nI 32)) hx hb dX4_bit_7 (by decide) ?_
  refine lv_idiv hx hb dX4_bit_9 (by decide) ?_
  refine top_i (pk_div (a := x) (d := 32) (by omega) (by omega) (by omega)) ?_
  refine lv_iadd hx hb dX4_bit_10 ?_
  refine top_i (nI_add (128 * ss) (x / 32)) ?_
  refine r_iald hx hb hK (hR) (i := (128 * ss) + (x / 32)) (by omega) (by decide) dX4_bit_11 ?_
  refine lv_iload_n hx hb dX4_bit_12 rfl (lv_at hl 2 rfl) ?_
  refine lv_bipush (v := (nI 32)) hx hb dX4_bit_13 (by decide) ?_
  refine lv_irem hx hb dX4_bit_15 (by decide) ?_
  refine top_i (pk_rem (a := x) (d := 32) (by omega) (by omega) (by omega)) ?_
  refine lv_ishr hx hb dX4_bit_16 ?_
  refine top_i (x' := (shrI (f ((128 * ss) + (x / 32))) (nI (x % 32)))) rfl ?_
  refine lv_iconst (v := (nI 1)) hx hb dX4_bit_17 (by decide) ?_
  refine lv_iand hx hb dX4_bit_18 ?_
  refine top_i (x' := (b2i (bt (f (128 * ss + x / 32)) (x % 32)))) (sh_bit _ (by omega)) ?_
  refine lv_iconst (v := (nI 1)) hx hb dX4_bit_19 (by decide) ?_
  refine lv_icmp_ne (tgt := 27) hx hb dX4_bit_20 (by decide) (fun c_1 => ?_) (fun c_1 => ?_)
  · skip
    have c_1 : bt (f (128 * ss + x / 32)) (x % 32) = false := Bool.eq_false_iff.mpr (fun z => c_1 (b2i_e1.mpr z))
    refine lv_iconst (v := (nI 0)) hx hb dX4_bit_27 (by decide) ?_
    subst hQ
    refine W.zret (v := (nI 0)) hx hb hr nb0 (fun t ht hW => ⟨(nI 0), rfl, ?_, ht⟩) (fun q h => absurd h List.not_mem_nil) dX4_bit_28
    exact r0 c_1
  · skip
    have c_1 : bt (f (128 * ss + x / 32)) (x % 32) = true := b2i_e1.mp c_1
    refine lv_iconst (v := (nI 1)) hx hb dX4_bit_23 (by decide) ?_
    refine lv_goto (tgt := 28) hx hb dX4_bit_24 (by decide) ?_
    subst hQ
    refine W.zret (v := (nI 1)) hx hb hr nb1 (fun t ht hW => ⟨(nI 1), rfl, ?_, ht⟩) (fun q h => absurd h List.not_mem_nil) dX4_bit_28
    exact r1 c_1
set_option maxHeartbeats 4000000 in
set_option maxRecDepth 100000 in
theorem k_X4_has (l : Launch) (D : va_G) (T : Nat → ClassId) (M : Nat → Nat) (v : Nat → Int32) (as : Nat → Int32) (pa : Nat → Int32) (pk : Nat) (bu : Nat → Int32) (bm : Nat) (bi : Nat → Int32) (at0 : Nat) (ss : Nat) (x : Nat) (hs : ss < 6) (hx4 : x < 4096) : Met l yX4_has wsX4_has ({ frames := 1, cells := 0, slots := 0, locals := 22 }) (va_Pc [.ref (M 0), .int (nI ss), .int (nI x)] (fun U => KS D T U ∧ MO D T U.heap M v as pa pk bu bm bi at0)) (vp_Si (fun r => r = (b2i (bI v ss x)))) 0 0 (fun _ => False) := by
  refine Met.ofW (cc := cX4_has) (maxL := 3) (ret := (some .boolean)) (by decide) rfl ?_
  intro pg ev s m args below meth c s₁ B hml hv
  obtain ⟨rfl, hK, hH⟩ := hv
  have hx := B.exec
  have hb := B.bytes
  have hr := B.returns
  have hts := atoms_spec (ws := wsX4_has) B.pre
  have hown : s.vm.findClass RX4 = some m.cls := findClass_of_methodNamed B.named
  have hlocks := B.notSynchronized
  have in_wsX40 : ∀ w ∈ wsX40, w ∈ wsX4_has := fun w h => List.mem_cons_of_mem _ (List.mem_append_right _ h)
  have hl := lv_entry ([.ref (M 0), .int (nI ss), .int (nI x)]) (n := 3) (Nat.le_of_ble_eq_true rfl)
  rw [lg_entry_eq]
  generalize (lg_sl ([.ref (M 0), .int (nI ss), .int (nI x)]) ++ List.replicate (3 - (lg_sl ([.ref (M 0), .int (nI ss), .int (nI x)])).length) Slot.unset).toArray = ls at hl ⊢
  have hl : lv_has ls 3 [(0, .ref (M 0)), (1, .int (nI ss)), (2, .int (nI x))] := hl
  refine W_gen (fun Q hQ => ?_)
  have hM := hH
  refine lv_aload_n hx hb dX4_has_0 rfl (lv_at hl 0 rfl) ?_
  refine r_get (C := RX4) (Tb := TX4) (N := 8) hx hb hts in_wsX40 hown hK (hM.2.1) rfl 0 (by decide) (hts (.fieldLink RX4 7 "PieceSetsModel" "v" "[I") (by decide +kernel)) rfl (v := .ref (M 1)) rfl dX4_has_1 ?_
  refine lv_iload_n hx hb dX4_has_4 rfl (lv_at hl 1 rfl) ?_
  refine lv_iload_n hx hb dX4_has_5 rfl (lv_at hl 2 rfl) ?_
  refine vp_callSi (va_Run.run (va_runS (As := [.ref (M 1), .int (nI ss), .int (nI x)]) (rest := []) ⟨hx, hb, hml, hown, hts⟩ (k_X4_bit l D T (M 1) v ss x (by omega) (by omega)) (va_cwS 3 hts gX4_has_X4_bit rfl rfl rfl (by decide +kernel) ⟨Nat.le_of_ble_eq_true rfl, Nat.le_of_ble_eq_true rfl⟩) (pre_S (Φ := fun X => va_at D vwCl ((M 1), eI T 790 v) X) hK hM.2.2.1) rfl rfl hl.1 rfl (lv_room (Nat.le_of_ble_eq_true rfl)) dX4_has_6 ⟨Nat.le_of_ble_eq_true rfl, Nat.le_of_ble_eq_true rfl⟩)) (fun r_1 hr_1 => ?_)
  subst hr_1
  subst hQ
  refine W.zret (v := (b2i (bI v ss x))) hx hb hr (nbb (bI v ss x)) (fun t ht hW => ⟨(b2i (bI v ss x)), rfl, ?_, ht⟩) (fun q h => absurd h List.not_mem_nil) dX4_has_9
  exact rfl
set_option maxHeartbeats 4000000 in
set_option maxRecDepth 100000 in
theorem k_X4_puts (l : Launch) (D : va_G) (T : Nat → ClassId) (M : Nat → Nat) (v : Nat → Int32) (as : Nat → Int32) (pa : Nat → Int32) (pk : Nat) (bu : Nat → Int32) (bm : Nat) (bi : Nat → Int32) (at0 : Nat) (ss : Nat) (x : Nat) (b : Bool) (hs : ss < 6) (hx4 : x < 4096) : Met l yX4_puts wsX4_puts ({ frames := 0, cells := 0, slots := 0, locals := 0 }) (va_Pc [.ref (M 0), .int (nI ss), .int (nI x), .int (b2i b)] (fun U => KS D T U ∧ MO D T U.heap M v as pa pk bu bm bi at0)) (va_Qv (fun (u : Nat → Int32) => (∀ t y, y < 4096 → bI u t y = if t = ss ∧ y = x then b else bI v t y) ∧ ∀ j, 768 ≤ j → u j = v j) (fun u t => MO D T t.heap M u as pa pk bu bm bi at0) (fun q => q = M 1)) 0 0 (fun q => q = M 1) := by
  refine Met.ofW (cc := cX4_puts) (maxL := 5) (ret := none) (by decide) rfl ?_
  intro pg ev s m args below meth c s₁ B hml hv
  obtain ⟨rfl, hK, hH⟩ := hv
  have hx := B.exec
  have hb := B.bytes
  have hr := B.returns
  have hts := atoms_spec (ws := wsX4_puts) B.pre
  have hown : s.vm.findClass RX4 = some m.cls := findClass_of_methodNamed B.named
  have hlocks := B.notSynchronized
  have in_wsX40 : ∀ w ∈ wsX40, w ∈ wsX4_puts := fun w h => List.mem_cons_of_mem _ (List.mem_append_right _ h)
  have hS : va_S (fun q => q = M 1) s.heap s.heap [] := va_S.rf
  have hl := lv_entry ([.ref (M 0), .int (nI ss), .int (nI x), .int (b2i b)]) (n := 5) (Nat.le_of_ble_eq_true rfl)
  rw [lg_entry_eq]
  generalize (lg_sl ([.ref (M 0), .int (nI ss), .int (nI x), .int (b2i b)]) ++ List.replicate (5 - (lg_sl ([.ref (M 0), .int (nI ss), .int (nI x), .int (b2i b)])).length) Slot.unset).toArray = ls at hl ⊢
  have hl : lv_has ls 5 [(0, .ref (M 0)), (1, .int (nI ss)), (2, .int (nI x)), (3, .int (b2i b))] := hl
  refine W_gen (fun Q hQ => ?_)
  have hM := hH
  refine lv_sipush (v := (nI 128)) hx hb dX4_puts_0 (by decide) ?_
  refine lv_iload_n hx hb dX4_puts_3 rfl (lv_at hl 1 rfl) ?_
  refine lv_imul hx hb dX4_puts_4 ?_
  refine top_i (pk_mul 128 ss) ?_
  refine lv_iload_n hx hb dX4_puts_5 rfl (lv_at hl 2 rfl) ?_
  refine lv_bipush (v := (nI 32)) hx hb dX4_puts_6 (by decide) ?_
  refine lv_idiv hx hb dX4_puts_8 (by decide) ?_
  refine top_i (pk_div (a := x) (d := 32) (by omega) (by omega) (by omega)) ?_
  refine lv_iadd hx hb dX4_puts_9 ?_
  refine top_i (nI_add (128 * ss) (x / 32)) ?_
  refine lv_istore (lv' := [(4, .int (nI ((128 * ss) + (x / 32)))), (0, .ref (M 0)), (1, .int (nI ss)), (2, .int (nI x)), (3, .int (b2i b))]) hx hb dX4_puts_10 hl (by decide) rfl (fun ls hl => ?_)
  refine lv_aload_n hx hb dX4_puts_12 rfl (lv_at hl 1 rfl) ?_
  refine r_get (C := RX4) (Tb := TX4) (N := 8) hx hb hts in_wsX40 hown hK (hM.2.1) rfl 0 (by decide) (hts (.fieldLink RX4 7 "PieceSetsModel" "v" "[I") (by decide +kernel)) rfl (v := .ref (M 1)) rfl dX4_puts_13 ?_
  refine lv_iload hx hb dX4_puts_16 (lv_at hl 0 rfl) ?_
  refine lv_iload_n hx hb dX4_puts_18 rfl (lv_at hl 4 rfl) ?_
  refine lv_if_eq (tgt := 39) hx hb dX4_puts_19 (by decide) (fun c_1 => ?_) (fun c_1 => ?_)
  · skip
    have c_1 : b = false := b2i_0.mp c_1
    refine lv_aload_n hx hb dX4_puts_39 rfl (lv_at hl 1 rfl) ?_
    refine r_get (C := RX4) (Tb := TX4) (N := 8) hx hb hts in_wsX40 hown hK (hM.2.1) rfl 0 (by decide) (hts (.fieldLink RX4 7 "PieceSetsModel" "v" "[I") (by decide +kernel)) rfl (v := .ref (M 1)) rfl dX4_puts_40 ?_
    refine lv_iload hx hb dX4_puts_43 (lv_at hl 0 rfl) ?_
    refine r_iald hx hb hK (hM.2.2.1) (i := (128 * ss) + (x / 32)) (by omega) (by decide) dX4_puts_45 ?_
    refine lv_iconst (v := (nI 1)) hx hb dX4_puts_46 (by decide) ?_
    refine lv_iload_n hx hb dX4_puts_47 rfl (lv_at hl 3 rfl) ?_
    refine lv_bipush (v := (nI 32)) hx hb dX4_puts_48 (by decide) ?_
    refine lv_irem hx hb dX4_puts_50 (by decide) ?_
    refine top_i (pk_rem (a := x) (d := 32) (by omega) (by omega) (by omega)) ?_
    refine lv_ishl hx hb dX4_puts_51 ?_
    refine top_i (x' := (shlI (nI 1) (nI (x % 32)))) rfl ?_
    refine lv_iconst (v := (-1)) hx hb dX4_puts_52 (by decide) ?_
    refine lv_ixor hx hb dX4_puts_53 ?_
    refine lv_iand hx hb dX4_puts_54 ?_
    refine r_iast hx hb hK hS (rfl) (hM.2.2.1) (i := (128 * ss) + (x / 32)) (by omega) (by decide) dX4_puts_55 (fun H_1 locs hat oq hS => ?_)
    have hM := hM.set1 hat (Fr.oq oq)
    subst hQ
    have hb9 : b = false := c_1
    have hpost : (∀ t y, y < 4096 → bI (upd v ((128 * ss) + (x / 32)) ((v ((128 * ss) + (x / 32))) &&& ((shlI (nI 1) (nI (x % 32))) ^^^ (-1)))) t y = if t = ss ∧ y = x then b else bI v t y) ∧ ∀ j, 768 ≤ j → (upd v ((128 * ss) + (x / 32)) ((v ((128 * ss) + (x / 32))) &&& ((shlI (nI 1) (nI (x % 32))) ^^^ (-1)))) j = v j := ⟨fun t y hy => bI_put hx4 (fun i hi => by rw [b_and, bt_not _ hi, bt_sh (by omega) hi]; by_cases h : i = x % 32; rw [if_pos h, hb9, decide_eq_true h]; exact Bool.and_false _; rw [if_neg h, decide_eq_false h]; exact Bool.and_true _) t y hy, fun j hj => upd_o (by omega)⟩
    exact W.vret hx hb hr (fun t ht hW => ⟨⟨(upd v ((128 * ss) + (x / 32)) ((v ((128 * ss) + (x / 32))) &&& ((shlI (nI 1) (nI (x % 32))) ^^^ (-1)))), rfl, hpost, by have h9 := hM; rw [← ht] at h9; exact h9⟩, hS.F ht⟩) hS.2.2 dX4_puts_56
  · skip
    have c_1 : b = true := b2i_n0.mp c_1
    refine lv_aload_n hx hb dX4_puts_22 rfl (lv_at hl 1 rfl) ?_
    refine r_get (C := RX4) (Tb := TX4) (N := 8) hx hb hts in_wsX40 hown hK (hM.2.1) rfl 0 (by decide) (hts (.fieldLink RX4 7 "PieceSetsModel" "v" "[I") (by decide +kernel)) rfl (v := .ref (M 1)) rfl dX4_puts_23 ?_
    refine lv_iload hx hb dX4_puts_26 (lv_at hl 0 rfl) ?_
    refine r_iald hx hb hK (hM.2.2.1) (i := (128 * ss) + (x / 32)) (by omega) (by decide) dX4_puts_28 ?_
    refine lv_iconst (v := (nI 1)) hx hb dX4_puts_29 (by decide) ?_
    refine lv_iload_n hx hb dX4_puts_30 rfl (lv_at hl 3 rfl) ?_
    refine lv_bipush (v := (nI 32)) hx hb dX4_puts_31 (by decide) ?_
    refine lv_irem hx hb dX4_puts_33 (by decide) ?_
    refine top_i (pk_rem (a := x) (d := 32) (by omega) (by omega) (by omega)) ?_
    refine lv_ishl hx hb dX4_puts_34 ?_
    refine top_i (x' := (shlI (nI 1) (nI (x % 32)))) rfl ?_
    refine lv_ior hx hb dX4_puts_35 ?_
    refine lv_goto (tgt := 55) hx hb dX4_puts_36 (by decide) ?_
    refine r_iast hx hb hK hS (rfl) (hM.2.2.1) (i := (128 * ss) + (x / 32)) (by omega) (by decide) dX4_puts_55 (fun H_1 locs hat oq hS => ?_)
    have hM := hM.set1 hat (Fr.oq oq)
    subst hQ
    have hb9 : b = true := c_1
    have hpost : (∀ t y, y < 4096 → bI (upd v ((128 * ss) + (x / 32)) ((v ((128 * ss) + (x / 32))) ||| (shlI (nI 1) (nI (x % 32))))) t y = if t = ss ∧ y = x then b else bI v t y) ∧ ∀ j, 768 ≤ j → (upd v ((128 * ss) + (x / 32)) ((v ((128 * ss) + (x / 32))) ||| (shlI (nI 1) (nI (x % 32))))) j = v j := ⟨fun t y hy => bI_put hx4 (fun i hi => by rw [b_or, bt_sh (by omega) hi]; by_cases h : i = x % 32; rw [if_pos h, hb9, decide_eq_true h, Bool.or_true]; rw [if_neg h, decide_eq_false h, Bool.or_false]) t y hy, fun j hj => upd_o (by omega)⟩
    exact W.vret hx hb hr (fun t ht hW => ⟨⟨(upd v ((128 * ss) + (x / 32)) ((v ((128 * ss) + (x / 32))) ||| (shlI (nI 1) (nI (x % 32))))), rfl, hpost, by have h9 := hM; rw [← ht] at h9; exact h9⟩, hS.F ht⟩) hS.2.2 dX4_puts_56
set_option maxHeartbeats 4000000 in
set_option maxRecDepth 100000 in
theorem k_X4_manyIn (l : Launch) (D : va_G) (T : Nat → ClassId) (w : Nat) (f : Nat → Int32) (ss : Nat) (k : Nat) (hs : ss < 6) (hk : k < 16) : Met l yX4_manyIn wsX4_manyIn ({ frames := 1, cells := 0, slots := 0, locals := 22 }) (va_Pc [.ref w, .int (nI ss), .int (nI k)] (fun U => KS D T U ∧ va_at D vwCl (w, eI T 790 f) U.heap)) (vp_Si (fun r => r = (nI (pn (bI f ss) k)))) 0 0 (fun _ => False) := by
  refine Met.ofW (cc := cX4_manyIn) (maxL := 5) (ret := (some .int)) (by decide) rfl ?_
  intro pg ev s m args below meth c s₁ B hml hv
  obtain ⟨rfl, hK, hH⟩ := hv
  have hx := B.exec
  have hb := B.bytes
  have hr := B.returns
  have hts := atoms_spec (ws := wsX4_manyIn) B.pre
  have hown : s.vm.findClass RX4 = some m.cls := findClass_of_methodNamed B.named
  have hlocks := B.notSynchronized
  have hl := lv_entry ([.ref w, .int (nI ss), .int (nI k)]) (n := 5) (Nat.le_of_ble_eq_true rfl)
  rw [lg_entry_eq]
  generalize (lg_sl ([.ref w, .int (nI ss), .int (nI k)]) ++ List.replicate (5 - (lg_sl ([.ref w, .int (nI ss), .int (nI k)])).length) Slot.unset).toArray = ls at hl ⊢
  have hl : lv_has ls 5 [(0, .ref w), (1, .int (nI ss)), (2, .int (nI k))] := hl
  refine W_gen (fun Q hQ => ?_)
  have hR := hH
  refine lv_iconst (v := (nI 0)) hx hb dX4_manyIn_0 (by decide) ?_
  refine lv_istore_n (lv' := [(3, .int (nI 0)), (0, .ref w), (1, .int (nI ss)), (2, .int (nI k))]) hx hb dX4_manyIn_1 rfl hl (by decide) rfl (fun ls hl => ?_)
  refine lv_sipush (v := (nI 256)) hx hb dX4_manyIn_2 (by decide) ?_
  refine lv_iload_n hx hb dX4_manyIn_5 rfl (lv_at hl 3 rfl) ?_
  refine lv_imul hx hb dX4_manyIn_6 ?_
  refine top_i (pk_mul 256 k) ?_
  refine lv_istore (lv' := [(4, .int (nI (256 * k))), (3, .int (nI 0)), (0, .ref w), (1, .int (nI ss)), (2, .int (nI k))]) hx hb dX4_manyIn_7 hl (by decide) rfl (fun ls hl => ?_)
  have loop9 : ∀ (n9 : Nat) (i : Nat) (hi : i ≤ 256) (ls : Array Slot) (hl : lv_has ls 5 [(0, .ref w), (1, .int (nI ss)), (2, .int (nI k)), (3, .int (nI (ct (bI f ss) (256 * k) i))), (4, .int (nI (256 * k + i)))]) (hn9 : 256 - i < n9), W pg l ev (headSpec wsX4_manyIn ({ frames := 1, cells := 0, slots := 0, locals := 22 })).room s m ([.ref w, .int (nI ss), .int (nI k)] : List Value).toArray below meth c s.heap [] 0 0 Q (F0 m 9 ls []) := by
    intro n9
    induction n9 with
    | zero =>
      intro i hi ls hl hn9
      exact absurd hn9 (Nat.not_lt_zero _)
    | succ n9 ih9 =>
      intro i hi ls hl hn9
      refine lv_iload hx hb dX4_manyIn_9 (lv_at hl 4 rfl) ?_
      refine lv_sipush (v := (nI 256)) hx hb dX4_manyIn_11 (by decide) ?_
      refine lv_iload_n hx hb dX4_manyIn_14 rfl (lv_at hl 2 rfl) ?_
      refine lv_imul hx hb dX4_manyIn_15 ?_
      refine top_i (pk_mul 256 k) ?_
      refine lv_sipush (v := (nI 256)) hx hb dX4_manyIn_16 (by decide) ?_
      refine lv_iadd hx hb dX4_manyIn_19 ?_
      refine top_i (nI_add (256 * k) 256) ?_
      refine lv_icmp_ge (tgt := 47) hx hb dX4_manyIn_20 (by decide) (fun c_1 => ?_) (fun c_1 => ?_)
      · skip
        have c_1 : ((256 * k) + 256) ≤ (256 * k + i) := (nI_leI (a := ((256 * k) + 256)) (b := (256 * k + i)) (by omega) (by omega)).mp c_1
        refine lv_iload_n hx hb dX4_manyIn_47 rfl (lv_at hl 3 rfl) ?_
        subst hQ
        refine W.iret (v := (nI (ct (bI f ss) (256 * k) i))) hx hb hr (fun t ht hW => ⟨(nI (ct (bI f ss) (256 * k) i)), rfl, ?_, ht⟩) (fun q h => absurd h List.not_mem_nil) dX4_manyIn_48
        rw [show i = 256 by omega]
        exact rfl
      · skip
        have c_1 : ¬ (((256 * k) + 256) ≤ (256 * k + i)) := fun z => c_1 ((nI_leI (a := ((256 * k) + 256)) (b := (256 * k + i)) (by omega) (by omega)).mpr z)
        refine lv_iload_n hx hb dX4_manyIn_23 rfl (lv_at hl 3 rfl) ?_
        refine lv_aload_n hx hb dX4_manyIn_24 rfl (lv_at hl 0 rfl) ?_
        refine lv_iload_n hx hb dX4_manyIn_25 rfl (lv_at hl 1 rfl) ?_
        refine lv_iload hx hb dX4_manyIn_26 (lv_at hl 4 rfl) ?_
        refine vp_callSi (va_Run.run (va_runS (As := [.ref w, .int (nI ss), .int (nI (256 * k + i))]) (rest := [.int (nI (ct (bI f ss) (256 * k) i))]) ⟨hx, hb, hml, hown, hts⟩ (k_X4_bit l D T w f ss (256 * k + i) (by omega) (by omega)) (va_cwS 3 hts gX4_manyIn_X4_bit rfl rfl rfl (by decide +kernel) ⟨Nat.le_of_ble_eq_true rfl, Nat.le_of_ble_eq_true rfl⟩) (pre_S (Φ := fun X => va_at D vwCl (w, eI T 790 f) X) hK hR) rfl rfl hl.1 rfl (lv_room (Nat.le_of_ble_eq_true rfl)) dX4_manyIn_28 ⟨Nat.le_of_ble_eq_true rfl, Nat.le_of_ble_eq_true rfl⟩)) (fun r_1 hr_1 => ?_)
        subst hr_1
        refine lv_if_eq (tgt := 38) hx hb dX4_manyIn_31 (by decide) (fun c_2 => ?_) (fun c_2 => ?_)
        · skip
          have c_2 : bI f ss (256 * k + i) = false := b2i_0.mp c_2
          refine lv_iconst (v := (nI 0)) hx hb dX4_manyIn_38 (by decide) ?_
          refine lv_iadd hx hb dX4_manyIn_39 ?_
          refine top_i (nI_add (ct (bI f ss) (256 * k) i) 0) ?_
          refine lv_istore_n (lv' := [(3, .int (nI ((ct (bI f ss) (256 * k) i) + 0))), (0, .ref w), (1, .int (nI ss)), (2, .int (nI k)), (4, .int (nI (256 * k + i)))]) hx hb dX4_manyIn_40 rfl hl (by decide) rfl (fun ls hl => ?_)
          refine lv_iinc (v := (nI ((256 * k + i) + 1))) (lv' := [(4, .int (nI ((256 * k + i) + 1))), (3, .int (nI ((ct (bI f ss) (256 * k) i) + 0))), (0, .ref w), (1, .int (nI ss)), (2, .int (nI k))]) hx hb dX4_manyIn_41 hl (k := 4) rfl (iinc_n (256 * k + i) 1) (by decide) rfl (fun ls hl => ?_)
          refine lv_goto (tgt := 9) hx hb dX4_manyIn_44 (by decide) ?_
          have hl := lv_sub hl (l' := [(0, .ref w), (1, .int (nI ss)), (2, .int (nI k)), (3, .int (nI ((ct (bI f ss) (256 * k) i) + 0))), (4, .int (nI ((256 * k + i) + 1)))]) [2, 3, 4, 1, 0] rfl
          have q_1 : (nI ((ct (bI f ss) (256 * k) i) + 0)) = (nI (ct (bI f ss) (256 * k) (i + 1))) := by first | rw [ct_end, if_pos c_2] | rw [ct_end, c_2, if_neg Bool.false_ne_true, Nat.add_zero]
          have hl : lv_has ls 5 [(0, .ref w), (1, .int (nI ss)), (2, .int (nI k)), (3, .int (nI (ct (bI f ss) (256 * k) (i + 1)))), (4, .int (nI (256 * k + (i + 1))))] := by
            have h := hl
            rw [q_1] at h
            exact h
          exact ih9 (i + 1) (by omega) ls hl (by omega)
        · skip
          have c_2 : bI f ss (256 * k + i) = true := b2i_n0.mp c_2
          refine lv_iconst (v := (nI 1)) hx hb dX4_manyIn_34 (by decide) ?_
          refine lv_goto (tgt := 39) hx hb dX4_manyIn_35 (by decide) ?_
          refine lv_iadd hx hb dX4_manyIn_39 ?_
          refine top_i (nI_add (ct (bI f ss) (256 * k) i) 1) ?_
          refine lv_istore_n (lv' := [(3, .int (nI ((ct (bI f ss) (256 * k) i) + 1))), (0, .ref w), (1, .int (nI ss)), (2, .int (nI k)), (4, .int (nI (256 * k + i)))]) hx hb dX4_manyIn_40 rfl hl (by decide) rfl (fun ls hl => ?_)
          refine lv_iinc (v := (nI ((256 * k + i) + 1))) (lv' := [(4, .int (nI ((256 * k + i) + 1))), (3, .int (nI ((ct (bI f ss) (256 * k) i) + 1))), (0, .ref w), (1, .int (nI ss)), (2, .int (nI k))]) hx hb dX4_manyIn_41 hl (k := 4) rfl (iinc_n (256 * k + i) 1) (by decide) rfl (fun ls hl => ?_)
          refine lv_goto (tgt := 9) hx hb dX4_manyIn_44 (by decide) ?_
          have hl := lv_sub hl (l' := [(0, .ref w), (1, .int (nI ss)), (2, .int (nI k)), (3, .int (nI ((ct (bI f ss) (256 * k) i) + 1))), (4, .int (nI ((256 * k + i) + 1)))]) [2, 3, 4, 1, 0] rfl
          have q_1 : (nI ((ct (bI f ss) (256 * k) i) + 1)) = (nI (ct (bI f ss) (256 * k) (i + 1))) := by first | rw [ct_end, if_pos c_2] | rw [ct_end, c_2, if_neg Bool.false_ne_true, Nat.add_zero]
          have hl : lv_has ls 5 [(0, .ref w), (1, .int (nI ss)), (2, .int (nI k)), (3, .int (nI (ct (bI f ss) (256 * k) (i + 1)))), (4, .int (nI (256 * k + (i + 1))))] := by
            have h := hl
            rw [q_1] at h
            exact h
          exact ih9 (i + 1) (by omega) ls hl (by omega)
  have hl := lv_sub hl (l' := [(0, .ref w), (1, .int (nI ss)), (2, .int (nI k)), (3, .int (nI 0)), (4, .int (nI (256 * k)))]) [2, 3, 4, 1, 0] rfl
  have q_1 : (nI 0) = (nI (ct (bI f ss) (256 * k) 0)) := rfl
  have q_2 : (nI (256 * k)) = (nI (256 * k + 0)) := rfl
  have hl : lv_has ls 5 [(0, .ref w), (1, .int (nI ss)), (2, .int (nI k)), (3, .int (nI (ct (bI f ss) (256 * k) 0))), (4, .int (nI (256 * k + 0)))] := by
    have h := hl
    rw [q_1] at h
    rw [q_2] at h
    exact h
  exact loop9 (256 - 0 + 1) 0 (Nat.zero_le _) ls hl (Nat.lt_succ_self _)
set_option maxHeartbeats 4000000 in
set_option maxRecDepth 100000 in
theorem k_X4_runsIn (l : Launch) (D : va_G) (T : Nat → ClassId) (w : Nat) (f : Nat → Int32) (ss : Nat) (k : Nat) (hs : ss < 6) (hk : k < 16) : Met l yX4_runsIn wsX4_runsIn ({ frames := 1, cells := 0, slots := 0, locals := 22 }) (va_Pc [.ref w, .int (nI ss), .int (nI k)] (fun U => KS D T U ∧ va_at D vwCl (w, eI T 790 f) U.heap)) (vp_Si (fun r => r = (nI (pr (bI f ss) k)))) 0 0 (fun _ => False) := by
  refine Met.ofW (cc := cX4_runsIn) (maxL := 5) (ret := (some .int)) (by decide) rfl ?_
  intro pg ev s m args below meth c s₁ B hml hv
  obtain ⟨rfl, hK, hH⟩ := hv
  have hx := B.exec
  have hb := B.bytes
  have hr := B.returns
  have hts := atoms_spec (ws := wsX4_runsIn) B.pre
  have hown : s.vm.findClass RX4 = some m.cls := findClass_of_methodNamed B.named
  have hlocks := B.notSynchronized
  have hl := lv_entry ([.ref w, .int (nI ss), .int (nI k)]) (n := 5) (Nat.le_of_ble_eq_true rfl)
  rw [lg_entry_eq]
  generalize (lg_sl ([.ref w, .int (nI ss), .int (nI k)]) ++ List.replicate (5 - (lg_sl ([.ref w, .int (nI ss), .int (nI k)])).length) Slot.unset).toArray = ls at hl ⊢
  have hl : lv_has ls 5 [(0, .ref w), (1, .int (nI ss)), (2, .int (nI k))] := hl
  refine W_gen (fun Q hQ => ?_)
  have hR := hH
  refine lv_iconst (v := (nI 0)) hx hb dX4_runsIn_0 (by decide) ?_
  refine lv_istore_n (lv' := [(3, .int (nI 0)), (0, .ref w), (1, .int (nI ss)), (2, .int (nI k))]) hx hb dX4_runsIn_1 rfl hl (by decide) rfl (fun ls hl => ?_)
  refine lv_sipush (v := (nI 256)) hx hb dX4_runsIn_2 (by decide) ?_
  refine lv_iload_n hx hb dX4_runsIn_5 rfl (lv_at hl 3 rfl) ?_
  refine lv_imul hx hb dX4_runsIn_6 ?_
  refine top_i (pk_mul 256 k) ?_
  refine lv_istore (lv' := [(4, .int (nI (256 * k))), (3, .int (nI 0)), (0, .ref w), (1, .int (nI ss)), (2, .int (nI k))]) hx hb dX4_runsIn_7 hl (by decide) rfl (fun ls hl => ?_)
  have loop9 : ∀ (n9 : Nat) (i : Nat) (hi : i ≤ 256) (ls : Array Slot) (hl : lv_has ls 5 [(0, .ref w), (1, .int (nI ss)), (2, .int (nI k)), (3, .int (nI (ct (rsG (bI f ss) (256 * k)) (256 * k) i))), (4, .int (nI (256 * k + i)))]) (hn9 : 256 - i < n9), W pg l ev (headSpec wsX4_runsIn ({ frames := 1, cells := 0, slots := 0, locals := 22 })).room s m ([.ref w, .int (nI ss), .int (nI k)] : List Value).toArray below meth c s.heap [] 0 0 Q (F0 m 9 ls []) := by
    intro n9
    induction n9 with
    | zero =>
      intro i hi ls hl hn9
      exact absurd hn9 (Nat.not_lt_zero _)
    | succ n9 ih9 =>
      intro i hi ls hl hn9
      refine lv_iload hx hb dX4_runsIn_9 (lv_at hl 4 rfl) ?_
      refine lv_sipush (v := (nI 256)) hx hb dX4_runsIn_11 (by decide) ?_
      refine lv_iload_n hx hb dX4_runsIn_14 rfl (lv_at hl 2 rfl) ?_
      refine lv_imul hx hb dX4_runsIn_15 ?_
      refine top_i (pk_mul 256 k) ?_
      refine lv_sipush (v := (nI 256)) hx hb dX4_runsIn_16 (by decide) ?_
      refine lv_iadd hx hb dX4_runsIn_19 ?_
      refine top_i (nI_add (256 * k) 256) ?_
      refine lv_icmp_ge (tgt := 68) hx hb dX4_runsIn_20 (by decide) (fun c_1 => ?_) (fun c_1 => ?_)
      · skip
        have c_1 : ((256 * k) + 256) ≤ (256 * k + i) := (nI_leI (a := ((256 * k) + 256)) (b := (256 * k + i)) (by omega) (by omega)).mp c_1
        refine lv_iload_n hx hb dX4_runsIn_68 rfl (lv_at hl 3 rfl) ?_
        subst hQ
        refine W.iret (v := (nI (ct (rsG (bI f ss) (256 * k)) (256 * k) i))) hx hb hr (fun t ht hW => ⟨(nI (ct (rsG (bI f ss) (256 * k)) (256 * k) i)), rfl, ?_, ht⟩) (fun q h => absurd h List.not_mem_nil) dX4_runsIn_69
        rw [show i = 256 by omega]
        exact rfl
      · skip
        have c_1 : ¬ (((256 * k) + 256) ≤ (256 * k + i)) := fun z => c_1 ((nI_leI (a := ((256 * k) + 256)) (b := (256 * k + i)) (by omega) (by omega)).mpr z)
        refine lv_iload_n hx hb dX4_runsIn_23 rfl (lv_at hl 3 rfl) ?_
        refine lv_aload_n hx hb dX4_runsIn_24 rfl (lv_at hl 0 rfl) ?_
        refine lv_iload_n hx hb dX4_runsIn_25 rfl (lv_at hl 1 rfl) ?_
        refine lv_iload hx hb dX4_runsIn_26 (lv_at hl 4 rfl) ?_
        refine vp_callSi (va_Run.run (va_runS (As := [.ref w, .int (nI ss), .int (nI (256 * k + i))]) (rest := [.int (nI (ct (rsG (bI f ss) (256 * k)) (256 * k) i))]) ⟨hx, hb, hml, hown, hts⟩ (k_X4_bit l D T w f ss (256 * k + i) (by omega) (by omega)) (va_cwS 3 hts gX4_runsIn_X4_bit rfl rfl rfl (by decide +kernel) ⟨Nat.le_of_ble_eq_true rfl, Nat.le_of_ble_eq_true rfl⟩) (pre_S (Φ := fun X => va_at D vwCl (w, eI T 790 f) X) hK hR) rfl rfl hl.1 rfl (lv_room (Nat.le_of_ble_eq_true rfl)) dX4_runsIn_28 ⟨Nat.le_of_ble_eq_true rfl, Nat.le_of_ble_eq_true rfl⟩)) (fun r_1 hr_1 => ?_)
        subst hr_1
        refine lv_if_eq (tgt := 59) hx hb dX4_runsIn_31 (by decide) (fun c_2 => ?_) (fun c_2 => ?_)
        · skip
          have c_2 : bI f ss (256 * k + i) = false := b2i_0.mp c_2
          refine lv_iconst (v := (nI 0)) hx hb dX4_runsIn_59 (by decide) ?_
          refine lv_iadd hx hb dX4_runsIn_60 ?_
          refine top_i (nI_add (ct (rsG (bI f ss) (256 * k)) (256 * k) i) 0) ?_
          refine lv_istore_n (lv' := [(3, .int (nI ((ct (rsG (bI f ss) (256 * k)) (256 * k) i) + 0))), (0, .ref w), (1, .int (nI ss)), (2, .int (nI k)), (4, .int (nI (256 * k + i)))]) hx hb dX4_runsIn_61 rfl hl (by decide) rfl (fun ls hl => ?_)
          refine lv_iinc (v := (nI ((256 * k + i) + 1))) (lv' := [(4, .int (nI ((256 * k + i) + 1))), (3, .int (nI ((ct (rsG (bI f ss) (256 * k)) (256 * k) i) + 0))), (0, .ref w), (1, .int (nI ss)), (2, .int (nI k))]) hx hb dX4_runsIn_62 hl (k := 4) rfl (iinc_n (256 * k + i) 1) (by decide) rfl (fun ls hl => ?_)
          refine lv_goto (tgt := 9) hx hb dX4_runsIn_65 (by decide) ?_
          have hl := lv_sub hl (l' := [(0, .ref w), (1, .int (nI ss)), (2, .int (nI k)), (3, .int (nI ((ct (rsG (bI f ss) (256 * k)) (256 * k) i) + 0))), (4, .int (nI ((256 * k + i) + 1)))]) [2, 3, 4, 1, 0] rfl
          have q_1 : (nI ((ct (rsG (bI f ss) (256 * k)) (256 * k) i) + 0)) = (nI (ct (rsG (bI f ss) (256 * k)) (256 * k) (i + 1))) := by have hr9 := rsG_m (b := bI f ss) (p := k) (x := 256 * k + i) (by omega) (by omega); first | (rw [ct_end, hr9, c_2, decide_eq_true c_3]; rfl) | (rw [ct_end, hr9, c_2, decide_eq_false c_3, c_4]; rfl) | (rw [ct_end, hr9, c_2]; rfl)
          have hl : lv_has ls 5 [(0, .ref w), (1, .int (nI ss)), (2, .int (nI k)), (3, .int (nI (ct (rsG (bI f ss) (256 * k)) (256 * k) (i + 1)))), (4, .int (nI (256 * k + (i + 1))))] := by
            have h := hl
            rw [q_1] at h
            exact h
          exact ih9 (i + 1) (by omega) ls hl (by omega)
        · skip
          have c_2 : bI f ss (256 * k + i) = true := b2i_n0.mp c_2
          refine lv_iload hx hb dX4_runsIn_34 (lv_at hl 4 rfl) ?_
          refine lv_sipush (v := (nI 256)) hx hb dX4_runsIn_36 (by decide) ?_
          refine lv_irem hx hb dX4_runsIn_39 (by decide) ?_
          refine top_i (pk_rem (a := 256 * k + i) (d := 256) (by omega) (by omega) (by omega)) ?_
          refine lv_if_eq (tgt := 55) hx hb dX4_runsIn_40 (by decide) (fun c_3 => ?_) (fun c_3 => ?_)
          · skip
            have c_3 : ((256 * k + i) % 256) = 0 := (nI_e0 (a := ((256 * k + i) % 256)) (by omega)).mp c_3
            refine lv_iconst (v := (nI 1)) hx hb dX4_runsIn_55 (by decide) ?_
            refine lv_goto (tgt := 60) hx hb dX4_runsIn_56 (by decide) ?_
            refine lv_iadd hx hb dX4_runsIn_60 ?_
            refine top_i (nI_add (ct (rsG (bI f ss) (256 * k)) (256 * k) i) 1) ?_
            refine lv_istore_n (lv' := [(3, .int (nI ((ct (rsG (bI f ss) (256 * k)) (256 * k) i) + 1))), (0, .ref w), (1, .int (nI ss)), (2, .int (nI k)), (4, .int (nI (256 * k + i)))]) hx hb dX4_runsIn_61 rfl hl (by decide) rfl (fun ls hl => ?_)
            refine lv_iinc (v := (nI ((256 * k + i) + 1))) (lv' := [(4, .int (nI ((256 * k + i) + 1))), (3, .int (nI ((ct (rsG (bI f ss) (256 * k)) (256 * k) i) + 1))), (0, .ref w), (1, .int (nI ss)), (2, .int (nI k))]) hx hb dX4_runsIn_62 hl (k := 4) rfl (iinc_n (256 * k + i) 1) (by decide) rfl (fun ls hl => ?_)
            refine lv_goto (tgt := 9) hx hb dX4_runsIn_65 (by decide) ?_
            have hl := lv_sub hl (l' := [(0, .ref w), (1, .int (nI ss)), (2, .int (nI k)), (3, .int (nI ((ct (rsG (bI f ss) (256 * k)) (256 * k) i) + 1))), (4, .int (nI ((256 * k + i) + 1)))]) [2, 3, 4, 1, 0] rfl
            have q_1 : (nI ((ct (rsG (bI f ss) (256 * k)) (256 * k) i) + 1)) = (nI (ct (rsG (bI f ss) (256 * k)) (256 * k) (i + 1))) := by have hr9 := rsG_m (b := bI f ss) (p := k) (x := 256 * k + i) (by omega) (by omega); first | (rw [ct_end, hr9, c_2, decide_eq_true c_3]; rfl) | (rw [ct_end, hr9, c_2, decide_eq_false c_3, c_4]; rfl) | (rw [ct_end, hr9, c_2]; rfl)
            have hl : lv_has ls 5 [(0, .ref w), (1, .int (nI ss)), (2, .int (nI k)), (3, .int (nI (ct (rsG (bI f ss) (256 * k)) (256 * k) (i + 1)))), (4, .int (nI (256 * k + (i + 1))))] := by
              have h := hl
              rw [q_1] at h
              exact h
            exact ih9 (i + 1) (by omega) ls hl (by omega)
          · skip
            have c_3 : ¬ (((256 * k + i) % 256) = 0) := fun z => c_3 ((nI_e0 (a := ((256 * k + i) % 256)) (by omega)).mpr z)
            refine lv_aload_n hx hb dX4_runsIn_43 rfl (lv_at hl 0 rfl) ?_
            refine lv_iload_n hx hb dX4_runsIn_44 rfl (lv_at hl 1 rfl) ?_
            refine lv_iload hx hb dX4_runsIn_45 (lv_at hl 4 rfl) ?_
            refine lv_iconst (v := (nI 1)) hx hb dX4_runsIn_47 (by decide) ?_
            refine lv_isub hx hb dX4_runsIn_48 ?_
            refine top_i (pk_sub (a := 256 * k + i) (b := 1) (by omega)) ?_
            refine vp_callSi (va_Run.run (va_runS (As := [.ref w, .int (nI ss), .int (nI ((256 * k + i) - 1))]) (rest := [.int (nI (ct (rsG (bI f ss) (256 * k)) (256 * k) i))]) ⟨hx, hb, hml, hown, hts⟩ (k_X4_bit l D T w f ss ((256 * k + i) - 1) (by omega) (by omega)) (va_cwS 3 hts gX4_runsIn_X4_bit rfl rfl rfl (by decide +kernel) ⟨Nat.le_of_ble_eq_true rfl, Nat.le_of_ble_eq_true rfl⟩) (pre_S (Φ := fun X => va_at D vwCl (w, eI T 790 f) X) hK hR) rfl rfl hl.1 rfl (lv_room (Nat.le_of_ble_eq_true rfl)) dX4_runsIn_49 ⟨Nat.le_of_ble_eq_true rfl, Nat.le_of_ble_eq_true rfl⟩)) (fun r_2 hr_2 => ?_)
            subst hr_2
            refine lv_if_ne (tgt := 59) hx hb dX4_runsIn_52 (by decide) (fun c_4 => ?_) (fun c_4 => ?_)
            · skip
              have c_4 : bI f ss ((256 * k + i) - 1) = true := b2i_n0.mp c_4
              refine lv_iconst (v := (nI 0)) hx hb dX4_runsIn_59 (by decide) ?_
              refine lv_iadd hx hb dX4_runsIn_60 ?_
              refine top_i (nI_add (ct (rsG (bI f ss) (256 * k)) (256 * k) i) 0) ?_
              refine lv_istore_n (lv' := [(3, .int (nI ((ct (rsG (bI f ss) (256 * k)) (256 * k) i) + 0))), (0, .ref w), (1, .int (nI ss)), (2, .int (nI k)), (4, .int (nI (256 * k + i)))]) hx hb dX4_runsIn_61 rfl hl (by decide) rfl (fun ls hl => ?_)
              refine lv_iinc (v := (nI ((256 * k + i) + 1))) (lv' := [(4, .int (nI ((256 * k + i) + 1))), (3, .int (nI ((ct (rsG (bI f ss) (256 * k)) (256 * k) i) + 0))), (0, .ref w), (1, .int (nI ss)), (2, .int (nI k))]) hx hb dX4_runsIn_62 hl (k := 4) rfl (iinc_n (256 * k + i) 1) (by decide) rfl (fun ls hl => ?_)
              refine lv_goto (tgt := 9) hx hb dX4_runsIn_65 (by decide) ?_
              have hl := lv_sub hl (l' := [(0, .ref w), (1, .int (nI ss)), (2, .int (nI k)), (3, .int (nI ((ct (rsG (bI f ss) (256 * k)) (256 * k) i) + 0))), (4, .int (nI ((256 * k + i) + 1)))]) [2, 3, 4, 1, 0] rfl
              have q_1 : (nI ((ct (rsG (bI f ss) (256 * k)) (256 * k) i) + 0)) = (nI (ct (rsG (bI f ss) (256 * k)) (256 * k) (i + 1))) := by have hr9 := rsG_m (b := bI f ss) (p := k) (x := 256 * k + i) (by omega) (by omega); first | (rw [ct_end, hr9, c_2, decide_eq_true c_3]; rfl) | (rw [ct_end, hr9, c_2, decide_eq_false c_3, c_4]; rfl) | (rw [ct_end, hr9, c_2]; rfl)
              have hl : lv_has ls 5 [(0, .ref w), (1, .int (nI ss)), (2, .int (nI k)), (3, .int (nI (ct (rsG (bI f ss) (256 * k)) (256 * k) (i + 1)))), (4, .int (nI (256 * k + (i + 1))))] := by
                have h := hl
                rw [q_1] at h
                exact h
              exact ih9 (i + 1) (by omega) ls hl (by omega)
            · skip
              have c_4 : bI f ss ((256 * k + i) - 1) = false := b2i_0.mp c_4
              refine lv_iconst (v := (nI 1)) hx hb dX4_runsIn_55 (by decide) ?_
              refine lv_goto (tgt := 60) hx hb dX4_runsIn_56 (by decide) ?_
              refine lv_iadd hx hb dX4_runsIn_60 ?_
              refine top_i (nI_add (ct (rsG (bI f ss) (256 * k)) (256 * k) i) 1) ?_
              refine lv_istore_n (lv' := [(3, .int (nI ((ct (rsG (bI f ss) (256 * k)) (256 * k) i) + 1))), (0, .ref w), (1, .int (nI ss)), (2, .int (nI k)), (4, .int (nI (256 * k + i)))]) hx hb dX4_runsIn_61 rfl hl (by decide) rfl (fun ls hl => ?_)
              refine lv_iinc (v := (nI ((256 * k + i) + 1))) (lv' := [(4, .int (nI ((256 * k + i) + 1))), (3, .int (nI ((ct (rsG (bI f ss) (256 * k)) (256 * k) i) + 1))), (0, .ref w), (1, .int (nI ss)), (2, .int (nI k))]) hx hb dX4_runsIn_62 hl (k := 4) rfl (iinc_n (256 * k + i) 1) (by decide) rfl (fun ls hl => ?_)
              refine lv_goto (tgt := 9) hx hb dX4_runsIn_65 (by decide) ?_
              have hl := lv_sub hl (l' := [(0, .ref w), (1, .int (nI ss)), (2, .int (nI k)), (3, .int (nI ((ct (rsG (bI f ss) (256 * k)) (256 * k) i) + 1))), (4, .int (nI ((256 * k + i) + 1)))]) [2, 3, 4, 1, 0] rfl
              have q_1 : (nI ((ct (rsG (bI f ss) (256 * k)) (256 * k) i) + 1)) = (nI (ct (rsG (bI f ss) (256 * k)) (256 * k) (i + 1))) := by have hr9 := rsG_m (b := bI f ss) (p := k) (x := 256 * k + i) (by omega) (by omega); first | (rw [ct_end, hr9, c_2, decide_eq_true c_3]; rfl) | (rw [ct_end, hr9, c_2, decide_eq_false c_3, c_4]; rfl) | (rw [ct_end, hr9, c_2]; rfl)
              have hl : lv_has ls 5 [(0, .ref w), (1, .int (nI ss)), (2, .int (nI k)), (3, .int (nI (ct (rsG (bI f ss) (256 * k)) (256 * k) (i + 1)))), (4, .int (nI (256 * k + (i + 1))))] := by
                have h := hl
                rw [q_1] at h
                exact h
              exact ih9 (i + 1) (by omega) ls hl (by omega)
  have hl := lv_sub hl (l' := [(0, .ref w), (1, .int (nI ss)), (2, .int (nI k)), (3, .int (nI 0)), (4, .int (nI (256 * k)))]) [2, 3, 4, 1, 0] rfl
  have q_1 : (nI 0) = (nI (ct (rsG (bI f ss) (256 * k)) (256 * k) 0)) := rfl
  have q_2 : (nI (256 * k)) = (nI (256 * k + 0)) := rfl
  have hl : lv_has ls 5 [(0, .ref w), (1, .int (nI ss)), (2, .int (nI k)), (3, .int (nI (ct (rsG (bI f ss) (256 * k)) (256 * k) 0))), (4, .int (nI (256 * k + 0)))] := by
    have h := hl
    rw [q_1] at h
    rw [q_2] at h
    exact h
  exact loop9 (256 - 0 + 1) 0 (Nat.zero_le _) ls hl (Nat.lt_succ_self _)
set_option maxHeartbeats 4000000 in
set_option maxRecDepth 100000 in
theorem k_X4_kindBy (l : Launch) (D : va_G) (T : Nat → ClassId) (x : Nat) (y : Nat) (hx9 : x < 9000) (hy9 : y < 9000) : Met l yX4_kindBy wsX4_kindBy ({ frames := 0, cells := 0, slots := 0, locals := 0 }) (va_Pc [.int (nI x), .int (nI y)] (fun U => KS D T U ∧ True)) (vp_Si (fun r => r = (kd x y))) 0 0 (fun _ => False) := by
  refine Met.ofW (cc := cX4_kindBy) (maxL := 4) (ret := (some .int)) (by decide) rfl ?_
  intro pg ev s m args below meth c s₁ B hml hv
  obtain ⟨rfl, hK, hH⟩ := hv
  have hx := B.exec
  have hb := B.bytes
  have hr := B.returns
  have hts := atoms_spec (ws := wsX4_kindBy) B.pre
  have hown : s.vm.findClass RX4 = some m.cls := findClass_of_methodNamed B.named
  have hlocks := B.notSynchronized
  have hl := lv_entry ([.int (nI x), .int (nI y)]) (n := 4) (Nat.le_of_ble_eq_true rfl)
  rw [lg_entry_eq]
  generalize (lg_sl ([.int (nI x), .int (nI y)]) ++ List.replicate (4 - (lg_sl ([.int (nI x), .int (nI y)])).length) Slot.unset).toArray = ls at hl ⊢
  have hl : lv_has ls 4 [(0, .int (nI x)), (1, .int (nI y))] := hl
  refine W_gen (fun Q hQ => ?_)
  refine lv_iload_n hx hb dX4_kindBy_0 rfl (lv_at hl 0 rfl) ?_
  refine lv_if_ne (tgt := 7) hx hb dX4_kindBy_1 (by decide) (fun c_1 => ?_) (fun c_1 => ?_)
  · skip
    have c_1 : ¬ (x = 0) := fun z => c_1 ((nI_e0 (a := x) (by omega)).mpr z)
    refine lv_iconst (v := (nI 2)) hx hb dX4_kindBy_7 (by decide) ?_
    refine lv_iconst (v := (nI 2)) hx hb dX4_kindBy_8 (by decide) ?_
    refine lv_iload_n hx hb dX4_kindBy_9 rfl (lv_at hl 1 rfl) ?_
    refine lv_imul hx hb dX4_kindBy_10 ?_
    refine top_i (pk_mul 2 y) ?_
    refine lv_iadd hx hb dX4_kindBy_11 ?_
    refine top_i (nI_add 2 (2 * y)) ?_
    refine lv_iconst (v := (nI 2)) hx hb dX4_kindBy_12 (by decide) ?_
    refine lv_iload_n hx hb dX4_kindBy_13 rfl (lv_at hl 0 rfl) ?_
    refine lv_iadd hx hb dX4_kindBy_14 ?_
    refine top_i (nI_add 2 x) ?_
    refine lv_icmp_ge (tgt := 22) hx hb dX4_kindBy_15 (by decide) (fun c_2 => ?_) (fun c_2 => ?_)
    · skip
      have c_2 : (2 + x) ≤ (2 + (2 * y)) := (nI_leI (a := (2 + x)) (b := (2 + (2 * y))) (by omega) (by omega)).mp c_2
      refine lv_iconst (v := (nI 0)) hx hb dX4_kindBy_22 (by decide) ?_
      refine lv_istore_n (lv' := [(2, .int (nI 0)), (0, .int (nI x)), (1, .int (nI y))]) hx hb dX4_kindBy_23 rfl hl (by decide) rfl (fun ls hl => ?_)
      refine lv_iload_n hx hb dX4_kindBy_24 rfl (lv_at hl 0 rfl) ?_
      refine lv_iconst (v := (nI 1)) hx hb dX4_kindBy_25 (by decide) ?_
      refine lv_icmp_ne (tgt := 37) hx hb dX4_kindBy_26 (by decide) (fun c_3 => ?_) (fun c_3 => ?_)
      · skip
        have c_3 : ¬ (0 = 1) := fun z => c_3 ((nI_eq (a := 0) (b := 1) (by omega) (by omega)).mpr z)
        refine lv_iconst (v := (nI 2)) hx hb dX4_kindBy_37 (by decide) ?_
        refine lv_iload_n hx hb dX4_kindBy_38 rfl (lv_at hl 1 rfl) ?_
        refine lv_iadd hx hb dX4_kindBy_39 ?_
        refine top_i (nI_add 2 x) ?_
        refine lv_istore_n (lv' := [(3, .int (nI (2 + x))), (2, .int (nI 0)), (0, .int (nI x)), (1, .int (nI y))]) hx hb dX4_kindBy_40 rfl hl (by decide) rfl (fun ls hl => ?_)
        refine lv_bipush (v := (nI 33)) hx hb dX4_kindBy_41 (by decide) ?_
        refine lv_iload_n hx hb dX4_kindBy_43 rfl (lv_at hl 0 rfl) ?_
        refine lv_icmp_ge (tgt := 51) hx hb dX4_kindBy_44 (by decide) (fun c_4 => ?_) (fun c_4 => ?_)
        · skip
          have c_4 : (2 + x) ≤ 33 := (nI_leI (a := (2 + x)) (b := 33) (by omega) (by omega)).mp c_4
          refine lv_iload_n hx hb dX4_kindBy_51 rfl (lv_at hl 1 rfl) ?_
          subst hQ
          refine W.iret (v := (nI 0)) hx hb hr (fun t ht hW => ⟨(nI 0), rfl, ?_, ht⟩) (fun q h => absurd h List.not_mem_nil) dX4_kindBy_52
          exact (kd_a c_1 (by omega) (by omega)).symm
        · skip
          have c_4 : ¬ ((2 + x) ≤ 33) := fun z => c_4 ((nI_leI (a := (2 + x)) (b := 33) (by omega) (by omega)).mpr z)
          refine lv_iconst (v := (nI 2)) hx hb dX4_kindBy_47 (by decide) ?_
          refine lv_goto (tgt := 52) hx hb dX4_kindBy_48 (by decide) ?_
          subst hQ
          refine W.iret (v := (nI 2)) hx hb hr (fun t ht hW => ⟨(nI 2), rfl, ?_, ht⟩) (fun q h => absurd h List.not_mem_nil) dX4_kindBy_52
          exact (kd_b c_1 (by omega) (by omega)).symm
      · skip
        have c_3 : 0 = 1 := (nI_eq (a := 0) (b := 1) (by omega) (by omega)).mp c_3
        refine lv_iconst (v := (nI 2)) hx hb dX4_kindBy_29 (by decide) ?_
        refine lv_iconst (v := (nI 2)) hx hb dX4_kindBy_30 (by decide) ?_
        refine lv_iload_n hx hb dX4_kindBy_31 rfl (lv_at hl 2 rfl) ?_
        refine lv_imul hx hb dX4_kindBy_32 ?_
        refine top_i (pk_mul 2 y) ?_
        refine lv_iadd hx hb dX4_kindBy_33 ?_
        refine top_i (nI_add 2 (2 * y)) ?_
        refine lv_goto (tgt := 40) hx hb dX4_kindBy_34 (by decide) ?_
        refine lv_istore_n (lv' := [(3, .int (nI (2 + (2 * y)))), (2, .int (nI 0)), (0, .int (nI x)), (1, .int (nI y))]) hx hb dX4_kindBy_40 rfl hl (by decide) rfl (fun ls hl => ?_)
        refine lv_bipush (v := (nI 33)) hx hb dX4_kindBy_41 (by decide) ?_
        refine lv_iload_n hx hb dX4_kindBy_43 rfl (lv_at hl 0 rfl) ?_
        refine lv_icmp_ge (tgt := 51) hx hb dX4_kindBy_44 (by decide) (fun c_4 => ?_) (fun c_4 => ?_)
        · skip
          have c_4 : (2 + (2 * y)) ≤ 33 := (nI_leI (a := (2 + (2 * y))) (b := 33) (by omega) (by omega)).mp c_4
          refine lv_iload_n hx hb dX4_kindBy_51 rfl (lv_at hl 1 rfl) ?_
          subst hQ
          refine W.iret (v := (nI 0)) hx hb hr (fun t ht hW => ⟨(nI 0), rfl, ?_, ht⟩) (fun q h => absurd h List.not_mem_nil) dX4_kindBy_52
          exact (kd_a c_1 (by omega) (by omega)).symm
        · skip
          have c_4 : ¬ ((2 + (2 * y)) ≤ 33) := fun z => c_4 ((nI_leI (a := (2 + (2 * y))) (b := 33) (by omega) (by omega)).mpr z)
          refine lv_iconst (v := (nI 2)) hx hb dX4_kindBy_47 (by decide) ?_
          refine lv_goto (tgt := 52) hx hb dX4_kindBy_48 (by decide) ?_
          subst hQ
          refine W.iret (v := (nI 2)) hx hb hr (fun t ht hW => ⟨(nI 2), rfl, ?_, ht⟩) (fun q h => absurd h List.not_mem_nil) dX4_kindBy_52
          exact (kd_b c_1 (by omega) (by omega)).symm
    · skip
      have c_2 : ¬ ((2 + x) ≤ (2 + (2 * y))) := fun z => c_2 ((nI_leI (a := (2 + x)) (b := (2 + (2 * y))) (by omega) (by omega)).mpr z)
      refine lv_iconst (v := (nI 1)) hx hb dX4_kindBy_18 (by decide) ?_
      refine lv_goto (tgt := 23) hx hb dX4_kindBy_19 (by decide) ?_
      refine lv_istore_n (lv' := [(2, .int (nI 1)), (0, .int (nI x)), (1, .int (nI y))]) hx hb dX4_kindBy_23 rfl hl (by decide) rfl (fun ls hl => ?_)
      refine lv_iload_n hx hb dX4_kindBy_24 rfl (lv_at hl 0 rfl) ?_
      refine lv_iconst (v := (nI 1)) hx hb dX4_kindBy_25 (by decide) ?_
      refine lv_icmp_ne (tgt := 37) hx hb dX4_kindBy_26 (by decide) (fun c_3 => ?_) (fun c_3 => ?_)
      · skip
        have c_3 : ¬ (1 = 1) := fun z => c_3 ((nI_eq (a := 1) (b := 1) (by omega) (by omega)).mpr z)
        refine lv_iconst (v := (nI 2)) hx hb dX4_kindBy_37 (by decide) ?_
        refine lv_iload_n hx hb dX4_kindBy_38 rfl (lv_at hl 1 rfl) ?_
        refine lv_iadd hx hb dX4_kindBy_39 ?_
        refine top_i (nI_add 2 x) ?_
        refine lv_istore_n (lv' := [(3, .int (nI (2 + x))), (2, .int (nI 1)), (0, .int (nI x)), (1, .int (nI y))]) hx hb dX4_kindBy_40 rfl hl (by decide) rfl (fun ls hl => ?_)
        refine lv_bipush (v := (nI 33)) hx hb dX4_kindBy_41 (by decide) ?_
        refine lv_iload_n hx hb dX4_kindBy_43 rfl (lv_at hl 0 rfl) ?_
        refine lv_icmp_ge (tgt := 51) hx hb dX4_kindBy_44 (by decide) (fun c_4 => ?_) (fun c_4 => ?_)
        · skip
          have c_4 : (2 + x) ≤ 33 := (nI_leI (a := (2 + x)) (b := 33) (by omega) (by omega)).mp c_4
          refine lv_iload_n hx hb dX4_kindBy_51 rfl (lv_at hl 1 rfl) ?_
          subst hQ
          refine W.iret (v := (nI 1)) hx hb hr (fun t ht hW => ⟨(nI 1), rfl, ?_, ht⟩) (fun q h => absurd h List.not_mem_nil) dX4_kindBy_52
          exact (kd_r c_1 (by omega) (by omega)).symm
        · skip
          have c_4 : ¬ ((2 + x) ≤ 33) := fun z => c_4 ((nI_leI (a := (2 + x)) (b := 33) (by omega) (by omega)).mpr z)
          refine lv_iconst (v := (nI 2)) hx hb dX4_kindBy_47 (by decide) ?_
          refine lv_goto (tgt := 52) hx hb dX4_kindBy_48 (by decide) ?_
          subst hQ
          refine W.iret (v := (nI 2)) hx hb hr (fun t ht hW => ⟨(nI 2), rfl, ?_, ht⟩) (fun q h => absurd h List.not_mem_nil) dX4_kindBy_52
          exact (kd_b c_1 (by omega) (by omega)).symm
      · skip
        have c_3 : 1 = 1 := (nI_eq (a := 1) (b := 1) (by omega) (by omega)).mp c_3
        refine lv_iconst (v := (nI 2)) hx hb dX4_kindBy_29 (by decide) ?_
        refine lv_iconst (v := (nI 2)) hx hb dX4_kindBy_30 (by decide) ?_
        refine lv_iload_n hx hb dX4_kindBy_31 rfl (lv_at hl 2 rfl) ?_
        refine lv_imul hx hb dX4_kindBy_32 ?_
        refine top_i (pk_mul 2 y) ?_
        refine lv_iadd hx hb dX4_kindBy_33 ?_
        refine top_i (nI_add 2 (2 * y)) ?_
        refine lv_goto (tgt := 40) hx hb dX4_kindBy_34 (by decide) ?_
        refine lv_istore_n (lv' := [(3, .int (nI (2 + (2 * y)))), (2, .int (nI 1)), (0, .int (nI x)), (1, .int (nI y))]) hx hb dX4_kindBy_40 rfl hl (by decide) rfl (fun ls hl => ?_)
        refine lv_bipush (v := (nI 33)) hx hb dX4_kindBy_41 (by decide) ?_
        refine lv_iload_n hx hb dX4_kindBy_43 rfl (lv_at hl 0 rfl) ?_
        refine lv_icmp_ge (tgt := 51) hx hb dX4_kindBy_44 (by decide) (fun c_4 => ?_) (fun c_4 => ?_)
        · skip
          have c_4 : (2 + (2 * y)) ≤ 33 := (nI_leI (a := (2 + (2 * y))) (b := 33) (by omega) (by omega)).mp c_4
          refine lv_iload_n hx hb dX4_kindBy_51 rfl (lv_at hl 1 rfl) ?_
          subst hQ
          refine W.iret (v := (nI 1)) hx hb hr (fun t ht hW => ⟨(nI 1), rfl, ?_, ht⟩) (fun q h => absurd h List.not_mem_nil) dX4_kindBy_52
          exact (kd_r c_1 (by omega) (by omega)).symm
        · skip
          have c_4 : ¬ ((2 + (2 * y)) ≤ 33) := fun z => c_4 ((nI_leI (a := (2 + (2 * y))) (b := 33) (by omega) (by omega)).mpr z)
          refine lv_iconst (v := (nI 2)) hx hb dX4_kindBy_47 (by decide) ?_
          refine lv_goto (tgt := 52) hx hb dX4_kindBy_48 (by decide) ?_
          subst hQ
          refine W.iret (v := (nI 2)) hx hb hr (fun t ht hW => ⟨(nI 2), rfl, ?_, ht⟩) (fun q h => absurd h List.not_mem_nil) dX4_kindBy_52
          exact (kd_b c_1 (by omega) (by omega)).symm
  · skip
    have c_1 : x = 0 := (nI_e0 (a := x) (by omega)).mp c_1
    refine lv_bipush (v := (-9)) hx hb dX4_kindBy_4 (by decide) ?_
    subst hQ
    refine W.iret (v := (-9)) hx hb hr (fun t ht hW => ⟨(-9), rfl, ?_, ht⟩) (fun q h => absurd h List.not_mem_nil) dX4_kindBy_6
    exact (kd_0 c_1).symm
set_option maxHeartbeats 4000000 in
set_option maxRecDepth 100000 in
theorem k_X4_bytesBy (l : Launch) (D : va_G) (T : Nat → ClassId) (x : Nat) (y : Nat) (hx9 : x < 9000) (hy9 : y < 9000) : Met l yX4_bytesBy wsX4_bytesBy ({ frames := 1, cells := 0, slots := 0, locals := 23 }) (va_Pc [.int (nI x), .int (nI y)] (fun U => KS D T U ∧ True)) (vp_Si (fun r => r = (nI (cst x y)))) 0 0 (fun _ => False) := by
  refine Met.ofW (cc := cX4_bytesBy) (maxL := 3) (ret := (some .int)) (by decide) rfl ?_
  intro pg ev s m args below meth c s₁ B hml hv
  obtain ⟨rfl, hK, hH⟩ := hv
  have hx := B.exec
  have hb := B.bytes
  have hr := B.returns
  have hts := atoms_spec (ws := wsX4_bytesBy) B.pre
  have hown : s.vm.findClass RX4 = some m.cls := findClass_of_methodNamed B.named
  have hlocks := B.notSynchronized
  have hl := lv_entry ([.int (nI x), .int (nI y)]) (n := 3) (Nat.le_of_ble_eq_true rfl)
  rw [lg_entry_eq]
  generalize (lg_sl ([.int (nI x), .int (nI y)]) ++ List.replicate (3 - (lg_sl ([.int (nI x), .int (nI y)])).length) Slot.unset).toArray = ls at hl ⊢
  have hl : lv_has ls 3 [(0, .int (nI x)), (1, .int (nI y))] := hl
  refine W_gen (fun Q hQ => ?_)
  refine lv_iload_n hx hb dX4_bytesBy_0 rfl (lv_at hl 0 rfl) ?_
  refine lv_iload_n hx hb dX4_bytesBy_1 rfl (lv_at hl 1 rfl) ?_
  refine vp_callSi (va_Run.run (va_runS (As := [.int (nI x), .int (nI y)]) (rest := []) ⟨hx, hb, hml, hown, hts⟩ (k_X4_kindBy l D T x y (by omega) (by omega)) (va_cwS 2 hts gX4_bytesBy_X4_kindBy rfl rfl rfl (by decide +kernel) ⟨Nat.le_of_ble_eq_true rfl, Nat.le_of_ble_eq_true rfl⟩) (pre_S (Φ := fun X => True) hK trivial) rfl rfl hl.1 rfl (lv_room (Nat.le_of_ble_eq_true rfl)) dX4_bytesBy_2 ⟨Nat.le_of_ble_eq_true rfl, Nat.le_of_ble_eq_true rfl⟩)) (fun r_1 hr_1 => ?_)
  subst hr_1
  refine lv_istore_n (lv' := [(2, .int (kd x y)), (0, .int (nI x)), (1, .int (nI y))]) hx hb dX4_bytesBy_5 rfl hl (by decide) rfl (fun ls hl => ?_)
  refine lv_iload_n hx hb dX4_bytesBy_6 rfl (lv_at hl 0 rfl) ?_
  refine lv_if_ge (tgt := 14) hx hb dX4_bytesBy_7 (by decide) (fun c_1 => ?_) (fun c_1 => ?_)
  · skip
    refine lv_iload_n hx hb dX4_bytesBy_14 rfl (lv_at hl 0 rfl) ?_
    refine lv_if_ne (tgt := 24) hx hb dX4_bytesBy_15 (by decide) (fun c_2 => ?_) (fun c_2 => ?_)
    · skip
      refine lv_iload_n hx hb dX4_bytesBy_24 rfl (lv_at hl 0 rfl) ?_
      refine lv_iconst (v := (nI 1)) hx hb dX4_bytesBy_25 (by decide) ?_
      refine lv_icmp_ne (tgt := 37) hx hb dX4_bytesBy_26 (by decide) (fun c_3 => ?_) (fun c_3 => ?_)
      · skip
        refine lv_bipush (v := (nI 33)) hx hb dX4_bytesBy_37 (by decide) ?_
        subst hQ
        refine W.iret (v := (nI 33)) hx hb hr (fun t ht hW => ⟨(nI 33), rfl, ?_, ht⟩) (fun q h => absurd h List.not_mem_nil) dX4_bytesBy_39
        rcases kd_inv x y with ⟨h1, h2⟩ | ⟨h1, h2, h3⟩ | ⟨h1, h2, h3⟩ | ⟨h1, h2, h3⟩
        · first | exact absurd c_1 (by rw [h2]; decide) | exact (congrArg nI (by unfold cst; rw [if_pos h1])).symm
        · first | exact absurd c_1 (by rw [h3]; decide) | exact absurd c_2 (by rw [h3]; decide) | exact absurd c_3 (by rw [h3]; decide) | exact (congrArg nI (by unfold cst; rw [if_neg h1, if_pos h2])).symm
        · first | exact absurd c_1 (by rw [h3]; decide) | exact absurd c_2 (by rw [h3]; decide) | exact absurd c_3 (by rw [h3]; decide) | exact (congrArg nI (by unfold cst; rw [if_neg h1, if_neg (by omega), if_pos h2])).symm
        · first | exact absurd c_1 (by rw [h3]; decide) | exact absurd c_2 (by rw [h3]; decide) | exact absurd c_3 (by rw [h3]; decide) | exact (congrArg nI (by unfold cst; rw [if_neg h1, if_neg (by omega), if_neg (by omega)])).symm
      · skip
        refine lv_iconst (v := (nI 2)) hx hb dX4_bytesBy_29 (by decide) ?_
        refine lv_iconst (v := (nI 2)) hx hb dX4_bytesBy_30 (by decide) ?_
        refine lv_iload_n hx hb dX4_bytesBy_31 rfl (lv_at hl 2 rfl) ?_
        refine lv_imul hx hb dX4_bytesBy_32 ?_
        refine top_i (pk_mul 2 y) ?_
        refine lv_iadd hx hb dX4_bytesBy_33 ?_
        refine top_i (nI_add 2 (2 * y)) ?_
        refine lv_goto (tgt := 39) hx hb dX4_bytesBy_34 (by decide) ?_
        subst hQ
        refine W.iret (v := (nI (2 + (2 * y)))) hx hb hr (fun t ht hW => ⟨(nI (2 + (2 * y))), rfl, ?_, ht⟩) (fun q h => absurd h List.not_mem_nil) dX4_bytesBy_39
        rcases kd_inv x y with ⟨h1, h2⟩ | ⟨h1, h2, h3⟩ | ⟨h1, h2, h3⟩ | ⟨h1, h2, h3⟩
        · first | exact absurd c_1 (by rw [h2]; decide) | exact (congrArg nI (by unfold cst; rw [if_pos h1])).symm
        · first | exact absurd c_1 (by rw [h3]; decide) | exact absurd c_2 (by rw [h3]; decide) | exact absurd c_3 (by rw [h3]; decide) | exact (congrArg nI (by unfold cst; rw [if_neg h1, if_pos h2])).symm
        · first | exact absurd c_1 (by rw [h3]; decide) | exact absurd c_2 (by rw [h3]; decide) | exact absurd c_3 (by rw [h3]; decide) | exact (congrArg nI (by unfold cst; rw [if_neg h1, if_neg (by omega), if_pos h2])).symm
        · first | exact absurd c_1 (by rw [h3]; decide) | exact absurd c_2 (by rw [h3]; decide) | exact absurd c_3 (by rw [h3]; decide) | exact (congrArg nI (by unfold cst; rw [if_neg h1, if_neg (by omega), if_neg (by omega)])).symm
    · skip
      refine lv_iconst (v := (nI 2)) hx hb dX4_bytesBy_18 (by decide) ?_
      refine lv_iload_n hx hb dX4_bytesBy_19 rfl (lv_at hl 1 rfl) ?_
      refine lv_iadd hx hb dX4_bytesBy_20 ?_
      refine top_i (nI_add 2 x) ?_
      refine lv_goto (tgt := 39) hx hb dX4_bytesBy_21 (by decide) ?_
      subst hQ
      refine W.iret (v := (nI (2 + x))) hx hb hr (fun t ht hW => ⟨(nI (2 + x)), rfl, ?_, ht⟩) (fun q h => absurd h List.not_mem_nil) dX4_bytesBy_39
      rcases kd_inv x y with ⟨h1, h2⟩ | ⟨h1, h2, h3⟩ | ⟨h1, h2, h3⟩ | ⟨h1, h2, h3⟩
      · first | exact absurd c_1 (by rw [h2]; decide) | exact (congrArg nI (by unfold cst; rw [if_pos h1])).symm
      · first | exact absurd c_1 (by rw [h3]; decide) | exact absurd c_2 (by rw [h3]; decide) | exact (congrArg nI (by unfold cst; rw [if_neg h1, if_pos h2])).symm
      · first | exact absurd c_1 (by rw [h3]; decide) | exact absurd c_2 (by rw [h3]; decide) | exact (congrArg nI (by unfold cst; rw [if_neg h1, if_neg (by omega), if_pos h2])).symm
      · first | exact absurd c_1 (by rw [h3]; decide) | exact absurd c_2 (by rw [h3]; decide) | exact (congrArg nI (by unfold cst; rw [if_neg h1, if_neg (by omega), if_neg (by omega)])).symm
  · skip
    refine lv_iconst (v := (nI 0)) hx hb dX4_bytesBy_10 (by decide) ?_
    refine lv_goto (tgt := 39) hx hb dX4_bytesBy_11 (by decide) ?_
    subst hQ
    refine W.iret (v := (nI 0)) hx hb hr (fun t ht hW => ⟨(nI 0), rfl, ?_, ht⟩) (fun q h => absurd h List.not_mem_nil) dX4_bytesBy_39
    rcases kd_inv x y with ⟨h1, h2⟩ | ⟨h1, h2, h3⟩ | ⟨h1, h2, h3⟩ | ⟨h1, h2, h3⟩
    · first | exact absurd c_1 (by rw [h2]; decide) | exact (congrArg nI (by unfold cst; rw [if_pos h1])).symm
    · first | exact absurd c_1 (by rw [h3]; decide) | exact (congrArg nI (by unfold cst; rw [if_neg h1, if_pos h2])).symm
    · first | exact absurd c_1 (by rw [h3]; decide) | exact (congrArg nI (by unfold cst; rw [if_neg h1, if_neg (by omega), if_pos h2])).symm
    · first | exact absurd c_1 (by rw [h3]; decide) | exact (congrArg nI (by unfold cst; rw [if_neg h1, if_neg (by omega), if_neg (by omega)])).symm
set_option maxHeartbeats 4000000 in
set_option maxRecDepth 100000 in
theorem k_X4_kindIn (l : Launch) (D : va_G) (T : Nat → ClassId) (w : Nat) (f : Nat → Int32) (ss : Nat) (k : Nat) (hs : ss < 6) (hk : k < 16) : Met l yX4_kindIn wsX4_kindIn ({ frames := 2, cells := 0, slots := 0, locals := 46 }) (va_Pc [.ref w, .int (nI ss), .int (nI k)] (fun U => KS D T U ∧ va_at D vwCl (w, eI T 790 f) U.heap)) (vp_Si (fun r => r = (pkd (bI f ss) k))) 0 0 (fun _ => False) := by
  refine Met.ofW (cc := cX4_kindIn) (maxL := 3) (ret := (some .int)) (by decide) rfl ?_
  intro pg ev s m args below meth c s₁ B hml hv
  obtain ⟨rfl, hK, hH⟩ := hv
  have hx := B.exec
  have hb := B.bytes
  have hr := B.returns
  have hts := atoms_spec (ws := wsX4_kindIn) B.pre
  have hown : s.vm.findClass RX4 = some m.cls := findClass_of_methodNamed B.named
  have hlocks := B.notSynchronized
  have hl := lv_entry ([.ref w, .int (nI ss), .int (nI k)]) (n := 3) (Nat.le_of_ble_eq_true rfl)
  rw [lg_entry_eq]
  generalize (lg_sl ([.ref w, .int (nI ss), .int (nI k)]) ++ List.replicate (3 - (lg_sl ([.ref w, .int (nI ss), .int (nI k)])).length) Slot.unset).toArray = ls at hl ⊢
  have hl : lv_has ls 3 [(0, .ref w), (1, .int (nI ss)), (2, .int (nI k))] := hl
  refine W_gen (fun Q hQ => ?_)
  have hR := hH
  have hpn9 := pn_le (bI f ss) k
  have hpr9 : pr (bI f ss) k ≤ 256 := ct_le _ _ _
  refine lv_aload_n hx hb dX4_kindIn_0 rfl (lv_at hl 0 rfl) ?_
  refine lv_iload_n hx hb dX4_kindIn_1 rfl (lv_at hl 1 rfl) ?_
  refine lv_iload_n hx hb dX4_kindIn_2 rfl (lv_at hl 2 rfl) ?_
  refine vp_callSi (va_Run.run (va_runS (As := [.ref w, .int (nI ss), .int (nI k)]) (rest := []) ⟨hx, hb, hml, hown, hts⟩ (k_X4_manyIn l D T w f ss k (by omega) (by omega)) (va_cwS 3 hts gX4_kindIn_X4_manyIn rfl rfl rfl (by decide +kernel) ⟨Nat.le_of_ble_eq_true rfl, Nat.le_of_ble_eq_true rfl⟩) (pre_S (Φ := fun X => va_at D vwCl (w, eI T 790 f) X) hK hR) rfl rfl hl.1 rfl (lv_room (Nat.le_of_ble_eq_true rfl)) dX4_kindIn_3 ⟨Nat.le_of_ble_eq_true rfl, Nat.le_of_ble_eq_true rfl⟩)) (fun r_1 hr_1 => ?_)
  subst hr_1
  refine lv_aload_n hx hb dX4_kindIn_6 rfl (lv_at hl 0 rfl) ?_
  refine lv_iload_n hx hb dX4_kindIn_7 rfl (lv_at hl 1 rfl) ?_
  refine lv_iload_n hx hb dX4_kindIn_8 rfl (lv_at hl 2 rfl) ?_
  refine vp_callSi (va_Run.run (va_runS (As := [.ref w, .int (nI ss), .int (nI k)]) (rest := [.int (nI (pn (bI f ss) k))]) ⟨hx, hb, hml, hown, hts⟩ (k_X4_runsIn l D T w f ss k (by omega) (by omega)) (va_cwS 3 hts gX4_kindIn_X4_runsIn rfl rfl rfl (by decide +kernel) ⟨Nat.le_of_ble_eq_true rfl, Nat.le_of_ble_eq_true rfl⟩) (pre_S (Φ := fun X => va_at D vwCl (w, eI T 790 f) X) hK hR) rfl rfl hl.1 rfl (lv_room (Nat.le_of_ble_eq_true rfl)) dX4_kindIn_9 ⟨Nat.le_of_ble_eq_true rfl, Nat.le_of_ble_eq_true rfl⟩)) (fun r_2 hr_2 => ?_)
  subst hr_2
  refine vp_callSi (va_Run.run (va_runS (As := [.int (nI (pn (bI f ss) k)), .int (nI (pr (bI f ss) k))]) (rest := []) ⟨hx, hb, hml, hown, hts⟩ (k_X4_kindBy l D T (pn (bI f ss) k) (pr (bI f ss) k) (by omega) (by omega)) (va_cwS 2 hts gX4_kindIn_X4_kindBy rfl rfl rfl (by decide +kernel) ⟨Nat.le_of_ble_eq_true rfl, Nat.le_of_ble_eq_true rfl⟩) (pre_S (Φ := fun X => True) hK trivial) rfl rfl hl.1 rfl (lv_room (Nat.le_of_ble_eq_true rfl)) dX4_kindIn_12 ⟨Nat.le_of_ble_eq_true rfl, Nat.le_of_ble_eq_true rfl⟩)) (fun r_3 hr_3 => ?_)
  subst hr_3
  subst hQ
  refine W.iret (v := (kd (pn (bI f ss) k) (pr (bI f ss) k))) hx hb hr (fun t ht hW => ⟨(kd (pn (bI f ss) k) (pr (bI f ss) k)), rfl, ?_, ht⟩) (fun q h => absurd h List.not_mem_nil) dX4_kindIn_15
  exact rfl
set_option maxHeartbeats 4000000 in
set_option maxRecDepth 100000 in
theorem k_X4_sizeOf (l : Launch) (D : va_G) (T : Nat → ClassId) (M : Nat → Nat) (v : Nat → Int32) (as : Nat → Int32) (pa : Nat → Int32) (pk : Nat) (bu : Nat → Int32) (bm : Nat) (bi : Nat → Int32) (at0 : Nat) (ss : Nat) (hs : ss < 6) : Met l yX4_sizeOf wsX4_sizeOf ({ frames := 2, cells := 0, slots := 0, locals := 44 }) (va_Pc [.ref (M 0), .int (nI ss)] (fun U => KS D T U ∧ MO D T U.heap M v as pa pk bu bm bi at0)) (vp_Si (fun r => r = (nI (ct (bI v ss) 0 4096)))) 0 0 (fun _ => False) := by
  refine Met.ofW (cc := cX4_sizeOf) (maxL := 4) (ret := (some .int)) (by decide) rfl ?_
  intro pg ev s m args below meth c s₁ B hml hv
  obtain ⟨rfl, hK, hH⟩ := hv
  have hx := B.exec
  have hb := B.bytes
  have hr := B.returns
  have hts := atoms_spec (ws := wsX4_sizeOf) B.pre
  have hown : s.vm.findClass RX4 = some m.cls := findClass_of_methodNamed B.named
  have hlocks := B.notSynchronized
  have in_wsX40 : ∀ w ∈ wsX40, w ∈ wsX4_sizeOf := fun w h => List.mem_cons_of_mem _ (List.mem_append_right _ h)
  have hl := lv_entry ([.ref (M 0), .int (nI ss)]) (n := 4) (Nat.le_of_ble_eq_true rfl)
  rw [lg_entry_eq]
  generalize (lg_sl ([.ref (M 0), .int (nI ss)]) ++ List.replicate (4 - (lg_sl ([.ref (M 0), .int (nI ss)])).length) Slot.unset).toArray = ls at hl ⊢
  have hl : lv_has ls 4 [(0, .ref (M 0)), (1, .int (nI ss))] := hl
  refine W_gen (fun Q hQ => ?_)
  have hM := hH
  refine lv_iconst (v := (nI 0)) hx hb dX4_sizeOf_0 (by decide) ?_
  refine lv_istore_n (lv' := [(2, .int (nI 0)), (0, .ref (M 0)), (1, .int (nI ss))]) hx hb dX4_sizeOf_1 rfl hl (by decide) rfl (fun ls hl => ?_)
  refine lv_iconst (v := (nI 0)) hx hb dX4_sizeOf_2 (by decide) ?_
  refine lv_istore_n (lv' := [(3, .int (nI 0)), (2, .int (nI 0)), (0, .ref (M 0)), (1, .int (nI ss))]) hx hb dX4_sizeOf_3 rfl hl (by decide) rfl (fun ls hl => ?_)
  have loop4 : ∀ (n4 : Nat) (i : Nat) (hi : i ≤ 4096) (ls : Array Slot) (hl : lv_has ls 4 [(0, .ref (M 0)), (1, .int (nI ss)), (2, .int (nI (ct (bI v ss) 0 i))), (3, .int (nI i))]) (hn4 : 4096 - i < n4), W pg l ev (headSpec wsX4_sizeOf ({ frames := 2, cells := 0, slots := 0, locals := 44 })).room s m ([.ref (M 0), .int (nI ss)] : List Value).toArray below meth c s.heap [] 0 0 Q (F0 m 4 ls []) := by
    intro n4
    induction n4 with
    | zero =>
      intro i hi ls hl hn4
      exact absurd hn4 (Nat.not_lt_zero _)
    | succ n4 ih4 =>
      intro i hi ls hl hn4
      refine lv_iload_n hx hb dX4_sizeOf_4 rfl (lv_at hl 3 rfl) ?_
      refine lv_sipush (v := (nI 4096)) hx hb dX4_sizeOf_5 (by decide) ?_
      refine lv_icmp_ge (tgt := 34) hx hb dX4_sizeOf_8 (by decide) (fun c_1 => ?_) (fun c_1 => ?_)
      · skip
        have c_1 : 4096 ≤ i := (nI_leI (a := 4096) (b := i) (by omega) (by omega)).mp c_1
        refine lv_iload_n hx hb dX4_sizeOf_34 rfl (lv_at hl 2 rfl) ?_
        subst hQ
        refine W.iret (v := (nI (ct (bI v ss) 0 i))) hx hb hr (fun t ht hW => ⟨(nI (ct (bI v ss) 0 i)), rfl, ?_, ht⟩) (fun q h => absurd h List.not_mem_nil) dX4_sizeOf_35
        rw [show i = 4096 by omega]
      · skip
        have c_1 : ¬ (4096 ≤ i) := fun z => c_1 ((nI_leI (a := 4096) (b := i) (by omega) (by omega)).mpr z)
        refine lv_iload_n hx hb dX4_sizeOf_11 rfl (lv_at hl 2 rfl) ?_
        refine lv_aload_n hx hb dX4_sizeOf_12 rfl (lv_at hl 0 rfl) ?_
        refine lv_iload_n hx hb dX4_sizeOf_13 rfl (lv_at hl 1 rfl) ?_
        refine lv_iload_n hx hb dX4_sizeOf_14 rfl (lv_at hl 3 rfl) ?_
        refine vp_callSi (va_Run.run (va_runV (As := [.int (nI ss), .int (nI i)]) (rest := [.int (nI (ct (bI v ss) 0 i))]) ⟨hx, hb, hml, hown, hts⟩ (k_X4_has l D T M v as pa pk bu bm bi at0 ss i (by omega) (by omega)) (cwV 2 hts gX4_sizeOf_X4_has rfl rfl rfl (by decide +kernel) ⟨Nat.le_of_ble_eq_true rfl, Nat.le_of_ble_eq_true rfl⟩) (pre_V (Φ := fun X => MO D T X M v as pa pk bu bm bi at0) hK (hM.2.1) rfl hM) rfl rfl hl.1 rfl (lv_room (Nat.le_of_ble_eq_true rfl)) dX4_sizeOf_15 ⟨Nat.le_of_ble_eq_true rfl, Nat.le_of_ble_eq_true rfl⟩)) (fun r_1 hr_1 => ?_)
        subst hr_1
        refine lv_if_eq (tgt := 25) hx hb dX4_sizeOf_18 (by decide) (fun c_2 => ?_) (fun c_2 => ?_)
        · skip
          have c_2 : bI v ss i = false := b2i_0.mp c_2
          refine lv_iconst (v := (nI 0)) hx hb dX4_sizeOf_25 (by decide) ?_
          refine lv_iadd hx hb dX4_sizeOf_26 ?_
          refine top_i (nI_add (ct (bI v ss) 0 i) 0) ?_
          refine lv_istore_n (lv' := [(2, .int (nI ((ct (bI v ss) 0 i) + 0))), (0, .ref (M 0)), (1, .int (nI ss)), (3, .int (nI i))]) hx hb dX4_sizeOf_27 rfl hl (by decide) rfl (fun ls hl => ?_)
          refine lv_iinc (v := (nI (i + 1))) (lv' := [(3, .int (nI (i + 1))), (2, .int (nI ((ct (bI v ss) 0 i) + 0))), (0, .ref (M 0)), (1, .int (nI ss))]) hx hb dX4_sizeOf_28 hl (k := 3) rfl (iinc_n i 1) (by decide) rfl (fun ls hl => ?_)
          refine lv_goto (tgt := 4) hx hb dX4_sizeOf_31 (by decide) ?_
          have hl := lv_sub hl (l' := [(0, .ref (M 0)), (1, .int (nI ss)), (2, .int (nI ((ct (bI v ss) 0 i) + 0))), (3, .int (nI (i + 1)))]) [2, 3, 1, 0] rfl
          have q_1 : (nI ((ct (bI v ss) 0 i) + 0)) = (nI (ct (bI v ss) 0 (i + 1))) := by first | rw [ct_end, Nat.zero_add, if_pos c_2] | rw [ct_end, Nat.zero_add, c_2, if_neg Bool.false_ne_true, Nat.add_zero]
          have hl : lv_has ls 4 [(0, .ref (M 0)), (1, .int (nI ss)), (2, .int (nI (ct (bI v ss) 0 (i + 1)))), (3, .int (nI (i + 1)))] := by
            have h := hl
            rw [q_1] at h
            exact h
          exact ih4 (i + 1) (by omega) ls hl (by omega)
        · skip
          have c_2 : bI v ss i = true := b2i_n0.mp c_2
          refine lv_iconst (v := (nI 1)) hx hb dX4_sizeOf_21 (by decide) ?_
          refine lv_goto (tgt := 26) hx hb dX4_sizeOf_22 (by decide) ?_
          refine lv_iadd hx hb dX4_sizeOf_26 ?_
          refine top_i (nI_add (ct (bI v ss) 0 i) 1) ?_
          refine lv_istore_n (lv' := [(2, .int (nI ((ct (bI v ss) 0 i) + 1))), (0, .ref (M 0)), (1, .int (nI ss)), (3, .int (nI i))]) hx hb dX4_sizeOf_27 rfl hl (by decide) rfl (fun ls hl => ?_)
          refine lv_iinc (v := (nI (i + 1))) (lv' := [(3, .int (nI (i + 1))), (2, .int (nI ((ct (bI v ss) 0 i) + 1))), (0, .ref (M 0)), (1, .int (nI ss))]) hx hb dX4_sizeOf_28 hl (k := 3) rfl (iinc_n i 1) (by decide) rfl (fun ls hl => ?_)
          refine lv_goto (tgt := 4) hx hb dX4_sizeOf_31 (by decide) ?_
          have hl := lv_sub hl (l' := [(0, .ref (M 0)), (1, .int (nI ss)), (2, .int (nI ((ct (bI v ss) 0 i) + 1))), (3, .int (nI (i + 1)))]) [2, 3, 1, 0] rfl
          have q_1 : (nI ((ct (bI v ss) 0 i) + 1)) = (nI (ct (bI v ss) 0 (i + 1))) := by first | rw [ct_end, Nat.zero_add, if_pos c_2] | rw [ct_end, Nat.zero_add, c_2, if_neg Bool.false_ne_true, Nat.add_zero]
          have hl : lv_has ls 4 [(0, .ref (M 0)), (1, .int (nI ss)), (2, .int (nI (ct (bI v ss) 0 (i + 1)))), (3, .int (nI (i + 1)))] := by
            have h := hl
            rw [q_1] at h
            exact h
          exact ih4 (i + 1) (by omega) ls hl (by omega)
  have hl := lv_sub hl (l' := [(0, .ref (M 0)), (1, .int (nI ss)), (2, .int (nI 0)), (3, .int (nI 0))]) [2, 3, 1, 0] rfl
  have q_1 : (nI 0) = (nI (ct (bI v ss) 0 0)) := rfl
  have hl : lv_has ls 4 [(0, .ref (M 0)), (1, .int (nI ss)), (2, .int (nI (ct (bI v ss) 0 0))), (3, .int (nI 0))] := by
    have h := hl
    rw [q_1] at h
    exact h
  exact loop4 (4096 - 0 + 1) 0 (Nat.zero_le _) ls hl (Nat.lt_succ_self _)
set_option maxHeartbeats 4000000 in
set_option maxRecDepth 100000 in
theorem k_X4_isRange (l : Launch) (D : va_G) (T : Nat → ClassId) (x : Int32) (y : Int32) (z : Int32) : Met l yX4_isRange wsX4_isRange ({ frames := 2, cells := 0, slots := 0, locals := 42 }) (va_Pc [.int x, .int y, .int z] (fun U => KS D T U ∧ True)) (vp_Si (fun r => r = (b2i (decide (ok6 x ∧ okR y z))))) 0 0 (fun _ => False) := by
  refine Met.ofW (cc := cX4_isRange) (maxL := 3) (ret := (some .boolean)) (by decide) rfl ?_
  intro pg ev s m args below meth c s₁ B hml hv
  obtain ⟨rfl, hK, hH⟩ := hv
  have hx := B.exec
  have hb := B.bytes
  have hr := B.returns
  have hts := atoms_spec (ws := wsX4_isRange) B.pre
  have hown : s.vm.findClass RX4 = some m.cls := findClass_of_methodNamed B.named
  have hlocks := B.notSynchronized
  have hl := lv_entry ([.int x, .int y, .int z]) (n := 3) (Nat.le_of_ble_eq_true rfl)
  rw [lg_entry_eq]
  generalize (lg_sl ([.int x, .int y, .int z]) ++ List.replicate (3 - (lg_sl ([.int x, .int y, .int z])).length) Slot.unset).toArray = ls at hl ⊢
  have hl : lv_has ls 3 [(0, .int x), (1, .int y), (2, .int z)] := hl
  refine W_gen (fun Q hQ => ?_)
  refine lv_iload_n hx hb dX4_isRange_0 rfl (lv_at hl 0 rfl) ?_
  refine vp_callSi (va_Run.run (va_runS (As := [.int x]) (rest := []) ⟨hx, hb, hml, hown, hts⟩ (k_X4_isSet l D T x ) (va_cwS 1 hts gX4_isRange_X4_isSet rfl rfl rfl (by decide +kernel) ⟨Nat.le_of_ble_eq_true rfl, Nat.le_of_ble_eq_true rfl⟩) (pre_S (Φ := fun X => True) hK trivial) rfl rfl hl.1 rfl (lv_room (Nat.le_of_ble_eq_true rfl)) dX4_isRange_1 ⟨Nat.le_of_ble_eq_true rfl, Nat.le_of_ble_eq_true rfl⟩)) (fun r_1 hr_1 => ?_)
  subst hr_1
  refine lv_if_eq (tgt := 33) hx hb dX4_isRange_4 (by decide) (fun c_1 => ?_) (fun c_1 => ?_)
  · skip
    have c_1 : (decide (¬ x < 0 ∧ x < nI 6)) = false := b2i_0.mp c_1
    have c_1 : ¬ (¬ x < 0 ∧ x < nI 6) := of_decide_eq_false c_1
    refine lv_iconst (v := (nI 0)) hx hb dX4_isRange_33 (by decide) ?_
    subst hQ
    refine W.zret (v := (nI 0)) hx hb hr nb0 (fun t ht hW => ⟨(nI 0), rfl, ?_, ht⟩) (fun q h => absurd h List.not_mem_nil) dX4_isRange_34
    first | exact r0 (decide_eq_false (fun q => c_3 ((in_rng y z).mpr q.2).2)) | exact r0 (decide_eq_false (fun q => c_2 ((in_rng y z).mpr q.2).1)) | exact r0 (decide_eq_false (fun q => c_1 q.1))
  · skip
    have c_1 : (decide (¬ x < 0 ∧ x < nI 6)) = true := b2i_n0.mp c_1
    have c_1 : ¬ x < 0 ∧ x < nI 6 := of_decide_eq_true c_1
    refine lv_iload_n hx hb dX4_isRange_7 rfl (lv_at hl 1 rfl) ?_
    refine lv_iconst (v := (nI 0)) hx hb dX4_isRange_8 (by decide) ?_
    refine lv_sipush (v := (nI 4095)) hx hb dX4_isRange_9 (by decide) ?_
    refine vp_callSi (va_Run.run (va_runS (As := [.int y, .int (nI 0), .int (nI 4095)]) (rest := []) ⟨hx, hb, hml, hown, hts⟩ (k_X4_in l D T y (nI 0) (nI 4095) ) (va_cwS 3 hts gX4_isRange_X4_in rfl rfl rfl (by decide +kernel) ⟨Nat.le_of_ble_eq_true rfl, Nat.le_of_ble_eq_true rfl⟩) (pre_S (Φ := fun X => True) hK trivial) rfl rfl hl.1 rfl (lv_room (Nat.le_of_ble_eq_true rfl)) dX4_isRange_12 ⟨Nat.le_of_ble_eq_true rfl, Nat.le_of_ble_eq_true rfl⟩)) (fun r_2 hr_2 => ?_)
    subst hr_2
    refine top_i (x' := (b2i (decide (¬ y < 0 ∧ y < nI 4096)))) (congrArg b2i (decide_eq_decide.mpr (in_set (n := 4095) (by decide) y))) ?_
    refine lv_if_eq (tgt := 33) hx hb dX4_isRange_15 (by decide) (fun c_2 => ?_) (fun c_2 => ?_)
    · skip
      have c_2 : (decide (¬ y < 0 ∧ y < nI 4096)) = false := b2i_0.mp c_2
      have c_2 : ¬ (¬ y < 0 ∧ y < nI 4096) := of_decide_eq_false c_2
      refine lv_iconst (v := (nI 0)) hx hb dX4_isRange_33 (by decide) ?_
      subst hQ
      refine W.zret (v := (nI 0)) hx hb hr nb0 (fun t ht hW => ⟨(nI 0), rfl, ?_, ht⟩) (fun q h => absurd h List.not_mem_nil) dX4_isRange_34
      first | exact r0 (decide_eq_false (fun q => c_3 ((in_rng y z).mpr q.2).2)) | exact r0 (decide_eq_false (fun q => c_2 ((in_rng y z).mpr q.2).1)) | exact r0 (decide_eq_false (fun q => c_1 q.1))
    · skip
      have c_2 : (decide (¬ y < 0 ∧ y < nI 4096)) = true := b2i_n0.mp c_2
      have c_2 : ¬ y < 0 ∧ y < nI 4096 := of_decide_eq_true c_2
      refine lv_iload_n hx hb dX4_isRange_18 rfl (lv_at hl 2 rfl) ?_
      refine lv_iload_n hx hb dX4_isRange_19 rfl (lv_at hl 1 rfl) ?_
      refine lv_sipush (v := (nI 4095)) hx hb dX4_isRange_20 (by decide) ?_
      refine vp_callSi (va_Run.run (va_runS (As := [.int z, .int y, .int (nI 4095)]) (rest := []) ⟨hx, hb, hml, hown, hts⟩ (k_X4_in l D T z y (nI 4095) ) (va_cwS 3 hts gX4_isRange_X4_in rfl rfl rfl (by decide +kernel) ⟨Nat.le_of_ble_eq_true rfl, Nat.le_of_ble_eq_true rfl⟩) (pre_S (Φ := fun X => True) hK trivial) rfl rfl hl.1 rfl (lv_room (Nat.le_of_ble_eq_true rfl)) dX4_isRange_23 ⟨Nat.le_of_ble_eq_true rfl, Nat.le_of_ble_eq_true rfl⟩)) (fun r_3 hr_3 => ?_)
      subst hr_3
      refine lv_if_eq (tgt := 33) hx hb dX4_isRange_26 (by decide) (fun c_3 => ?_) (fun c_3 => ?_)
      · skip
        have c_3 : (decide (y ≤ z ∧ z ≤ (nI 4095))) = false := b2i_0.mp c_3
        have c_3 : ¬ (y ≤ z ∧ z ≤ (nI 4095)) := of_decide_eq_false c_3
        refine lv_iconst (v := (nI 0)) hx hb dX4_isRange_33 (by decide) ?_
        subst hQ
        refine W.zret (v := (nI 0)) hx hb hr nb0 (fun t ht hW => ⟨(nI 0), rfl, ?_, ht⟩) (fun q h => absurd h List.not_mem_nil) dX4_isRange_34
        first | exact r0 (decide_eq_false (fun q => c_3 ((in_rng y z).mpr q.2).2)) | exact r0 (decide_eq_false (fun q => c_2 ((in_rng y z).mpr q.2).1)) | exact r0 (decide_eq_false (fun q => c_1 q.1))
      · skip
        have c_3 : (decide (y ≤ z ∧ z ≤ (nI 4095))) = true := b2i_n0.mp c_3
        have c_3 : y ≤ z ∧ z ≤ (nI 4095) := of_decide_eq_true c_3
        refine lv_iconst (v := (nI 1)) hx hb dX4_isRange_29 (by decide) ?_
        refine lv_goto (tgt := 34) hx hb dX4_isRange_30 (by decide) ?_
        subst hQ
        refine W.zret (v := (nI 1)) hx hb hr nb1 (fun t ht hW => ⟨(nI 1), rfl, ?_, ht⟩) (fun q h => absurd h List.not_mem_nil) dX4_isRange_34
        exact r1 (decide_eq_true ⟨c_1, (in_rng y z).mp ⟨c_2, c_3⟩⟩)
set_option maxHeartbeats 4000000 in
set_option maxRecDepth 100000 in
theorem k_X4_begins (l : Launch) (D : va_G) (T : Nat → ClassId) (M : Nat → Nat) (v : Nat → Int32) (as : Nat → Int32) (pa : Nat → Int32) (pk : Nat) (bu : Nat → Int32) (bm : Nat) (bi : Nat → Int32) (at0 : Nat) (ss : Nat) (x : Nat) (hs : ss < 6) (hx4 : x < 4096) : Met l yX4_begins wsX4_begins ({ frames := 2, cells := 0, slots := 0, locals := 44 }) (va_Pc [.ref (M 0), .int (nI ss), .int (nI x)] (fun U => KS D T U ∧ MO D T U.heap M v as pa pk bu bm bi at0)) (vp_Si (fun r => r = (b2i (rsG (bI v ss) 0 x)))) 0 0 (fun _ => False) := by
  refine Met.ofW (cc := cX4_begins) (maxL := 3) (ret := (some .boolean)) (by decide) rfl ?_
  intro pg ev s m args below meth c s₁ B hml hv
  obtain ⟨rfl, hK, hH⟩ := hv
  have hx := B.exec
  have hb := B.bytes
  have hr := B.returns
  have hts := atoms_spec (ws := wsX4_begins) B.pre
  have hown : s.vm.findClass RX4 = some m.cls := findClass_of_methodNamed B.named
  have hlocks := B.notSynchronized
  have in_wsX40 : ∀ w ∈ wsX40, w ∈ wsX4_begins := fun w h => List.mem_cons_of_mem _ (List.mem_append_right _ h)
  have hl := lv_entry ([.ref (M 0), .int (nI ss), .int (nI x)]) (n := 3) (Nat.le_of_ble_eq_true rfl)
  rw [lg_entry_eq]
  generalize (lg_sl ([.ref (M 0), .int (nI ss), .int (nI x)]) ++ List.replicate (3 - (lg_sl ([.ref (M 0), .int (nI ss), .int (nI x)])).length) Slot.unset).toArray = ls at hl ⊢
  have hl : lv_has ls 3 [(0, .ref (M 0)), (1, .int (nI ss)), (2, .int (nI x))] := hl
  refine W_gen (fun Q hQ => ?_)
  have hM := hH
  refine lv_aload_n hx hb dX4_begins_0 rfl (lv_at hl 0 rfl) ?_
  refine lv_iload_n hx hb dX4_begins_1 rfl (lv_at hl 1 rfl) ?_
  refine lv_iload_n hx hb dX4_begins_2 rfl (lv_at hl 2 rfl) ?_
  refine vp_callSi (va_Run.run (va_runV (As := [.int (nI ss), .int (nI x)]) (rest := []) ⟨hx, hb, hml, hown, hts⟩ (k_X4_has l D T M v as pa pk bu bm bi at0 ss x (by omega) (by omega)) (cwV 2 hts gX4_begins_X4_has rfl rfl rfl (by decide +kernel) ⟨Nat.le_of_ble_eq_true rfl, Nat.le_of_ble_eq_true rfl⟩) (pre_V (Φ := fun X => MO D T X M v as pa pk bu bm bi at0) hK (hM.2.1) rfl hM) rfl rfl hl.1 rfl (lv_room (Nat.le_of_ble_eq_true rfl)) dX4_begins_3 ⟨Nat.le_of_ble_eq_true rfl, Nat.le_of_ble_eq_true rfl⟩)) (fun r_1 hr_1 => ?_)
  subst hr_1
  refine lv_if_eq (tgt := 28) hx hb dX4_begins_6 (by decide) (fun c_1 => ?_) (fun c_1 => ?_)
  · skip
    have c_1 : bI v ss x = false := b2i_0.mp c_1
    refine lv_iconst (v := (nI 0)) hx hb dX4_begins_28 (by decide) ?_
    subst hQ
    refine W.zret (v := (nI 0)) hx hb hr nb0 (fun t ht hW => ⟨(nI 0), rfl, ?_, ht⟩) (fun q h => absurd h List.not_mem_nil) dX4_begins_29
    first | exact r0 (by unfold rsG; rw [c_1, decide_eq_false c_2, c_3]; rfl) | exact r0 (by unfold rsG; rw [c_1]; rfl)
  · skip
    have c_1 : bI v ss x = true := b2i_n0.mp c_1
    refine lv_iload_n hx hb dX4_begins_9 rfl (lv_at hl 2 rfl) ?_
    refine lv_if_eq (tgt := 24) hx hb dX4_begins_10 (by decide) (fun c_2 => ?_) (fun c_2 => ?_)
    · skip
      have c_2 : x = 0 := (nI_e0 (a := x) (by omega)).mp c_2
      refine lv_iconst (v := (nI 1)) hx hb dX4_begins_24 (by decide) ?_
      refine lv_goto (tgt := 29) hx hb dX4_begins_25 (by decide) ?_
      subst hQ
      refine W.zret (v := (nI 1)) hx hb hr nb1 (fun t ht hW => ⟨(nI 1), rfl, ?_, ht⟩) (fun q h => absurd h List.not_mem_nil) dX4_begins_29
      first | exact r1 (by unfold rsG; rw [c_1, decide_eq_true c_2]; rfl) | exact r1 (by unfold rsG; rw [c_1, decide_eq_false c_2, c_3]; rfl)
    · skip
      have c_2 : ¬ (x = 0) := fun z => c_2 ((nI_e0 (a := x) (by omega)).mpr z)
      refine lv_aload_n hx hb dX4_begins_13 rfl (lv_at hl 0 rfl) ?_
      refine lv_iload_n hx hb dX4_begins_14 rfl (lv_at hl 1 rfl) ?_
      refine lv_iload_n hx hb dX4_begins_15 rfl (lv_at hl 2 rfl) ?_
      refine lv_iconst (v := (nI 1)) hx hb dX4_begins_16 (by decide) ?_
      refine lv_isub hx hb dX4_begins_17 ?_
      refine top_i (pk_sub (a := x) (b := 1) (by omega)) ?_
      refine vp_callSi (va_Run.run (va_runV (As := [.int (nI ss), .int (nI (x - 1))]) (rest := []) ⟨hx, hb, hml, hown, hts⟩ (k_X4_has l D T M v as pa pk bu bm bi at0 ss (x - 1) (by omega) (by omega)) (cwV 2 hts gX4_begins_X4_has rfl rfl rfl (by decide +kernel) ⟨Nat.le_of_ble_eq_true rfl, Nat.le_of_ble_eq_true rfl⟩) (pre_V (Φ := fun X => MO D T X M v as pa pk bu bm bi at0) hK (hM.2.1) rfl hM) rfl rfl hl.1 rfl (lv_room (Nat.le_of_ble_eq_true rfl)) dX4_begins_18 ⟨Nat.le_of_ble_eq_true rfl, Nat.le_of_ble_eq_true rfl⟩)) (fun r_2 hr_2 => ?_)
      subst hr_2
      refine lv_if_ne (tgt := 28) hx hb dX4_begins_21 (by decide) (fun c_3 => ?_) (fun c_3 => ?_)
      · skip
        have c_3 : bI v ss (x - 1) = true := b2i_n0.mp c_3
        refine lv_iconst (v := (nI 0)) hx hb dX4_begins_28 (by decide) ?_
        subst hQ
        refine W.zret (v := (nI 0)) hx hb hr nb0 (fun t ht hW => ⟨(nI 0), rfl, ?_, ht⟩) (fun q h => absurd h List.not_mem_nil) dX4_begins_29
        first | exact r0 (by unfold rsG; rw [c_1, decide_eq_false c_2, c_3]; rfl) | exact r0 (by unfold rsG; rw [c_1]; rfl)
      · skip
        have c_3 : bI v ss (x - 1) = false := b2i_0.mp c_3
        refine lv_iconst (v := (nI 1)) hx hb dX4_begins_24 (by decide) ?_
        refine lv_goto (tgt := 29) hx hb dX4_begins_25 (by decide) ?_
        subst hQ
        refine W.zret (v := (nI 1)) hx hb hr nb1 (fun t ht hW => ⟨(nI 1), rfl, ?_, ht⟩) (fun q h => absurd h List.not_mem_nil) dX4_begins_29
        first | exact r1 (by unfold rsG; rw [c_1, decide_eq_true c_2]; rfl) | exact r1 (by unfold rsG; rw [c_1, decide_eq_false c_2, c_3]; rfl)
set_option maxHeartbeats 4000000 in
set_option maxRecDepth 100000 in
theorem k_X4_told (l : Launch) (D : va_G) (T : Nat → ClassId) (M : Nat → Nat) (v : Nat → Int32) (as : Nat → Int32) (pa : Nat → Int32) (pk : Nat) (bu : Nat → Int32) (bm : Nat) (bi : Nat → Int32) (at0 : Nat) (ss : Nat) (k : Nat) (x : Int32) (hs : ss < 6) (hk : k < 16) : Met l yX4_told wsX4_told ({ frames := 2, cells := 0, slots := 0, locals := 46 }) (va_Pc [.ref (M 0), .int (nI ss), .int (nI k), .int x] (fun U => KS D T U ∧ MO D T U.heap M v as pa pk bu bm bi at0)) (vp_Si (fun r => r = (tol (bI v ss) k x))) 0 0 (fun _ => False) := by
  refine Met.ofW (cc := cX4_told) (maxL := 6) (ret := (some .int)) (by decide) rfl ?_
  intro pg ev s m args below meth c s₁ B hml hv
  obtain ⟨rfl, hK, hH⟩ := hv
  have hx := B.exec
  have hb := B.bytes
  have hr := B.returns
  have hts := atoms_spec (ws := wsX4_told) B.pre
  have hown : s.vm.findClass RX4 = some m.cls := findClass_of_methodNamed B.named
  have hlocks := B.notSynchronized
  have in_wsX40 : ∀ w ∈ wsX40, w ∈ wsX4_told := fun w h => List.mem_cons_of_mem _ (List.mem_append_right _ h)
  have hl := lv_entry ([.ref (M 0), .int (nI ss), .int (nI k), .int x]) (n := 6) (Nat.le_of_ble_eq_true rfl)
  rw [lg_entry_eq]
  generalize (lg_sl ([.ref (M 0), .int (nI ss), .int (nI k), .int x]) ++ List.replicate (6 - (lg_sl ([.ref (M 0), .int (nI ss), .int (nI k), .int x])).length) Slot.unset).toArray = ls at hl ⊢
  have hl : lv_has ls 6 [(0, .ref (M 0)), (1, .int (nI ss)), (2, .int (nI k)), (3, .int x)] := hl
  refine W_gen (fun Q hQ => ?_)
  have hM := hH
  have hpn9 := pn_le (bI v ss) k
  have hpr9 : pr (bI v ss) k ≤ 256 := ct_le _ _ _
  refine lv_aload_n hx hb dX4_told_0 rfl (lv_at hl 0 rfl) ?_
  refine r_get (C := RX4) (Tb := TX4) (N := 8) hx hb hts in_wsX40 hown hK (hM.2.1) rfl 0 (by decide) (hts (.fieldLink RX4 7 "PieceSetsModel" "v" "[I") (by decide +kernel)) rfl (v := .ref (M 1)) rfl dX4_told_1 ?_
  refine lv_iload_n hx hb dX4_told_4 rfl (lv_at hl 1 rfl) ?_
  refine lv_iload_n hx hb dX4_told_5 rfl (lv_at hl 2 rfl) ?_
  refine vp_callSi (va_Run.run (va_runS (As := [.ref (M 1), .int (nI ss), .int (nI k)]) (rest := []) ⟨hx, hb, hml, hown, hts⟩ (k_X4_manyIn l D T (M 1) v ss k (by omega) (by omega)) (va_cwS 3 hts gX4_told_X4_manyIn rfl rfl rfl (by decide +kernel) ⟨Nat.le_of_ble_eq_true rfl, Nat.le_of_ble_eq_true rfl⟩) (pre_S (Φ := fun X => va_at D vwCl ((M 1), eI T 790 v) X) hK hM.2.2.1) rfl rfl hl.1 rfl (lv_room (Nat.le_of_ble_eq_true rfl)) dX4_told_6 ⟨Nat.le_of_ble_eq_true rfl, Nat.le_of_ble_eq_true rfl⟩)) (fun r_1 hr_1 => ?_)
  subst hr_1
  refine lv_istore (lv' := [(4, .int (nI (pn (bI v ss) k))), (0, .ref (M 0)), (1, .int (nI ss)), (2, .int (nI k)), (3, .int x)]) hx hb dX4_told_9 hl (by decide) rfl (fun ls hl => ?_)
  refine lv_aload_n hx hb dX4_told_11 rfl (lv_at hl 1 rfl) ?_
  refine r_get (C := RX4) (Tb := TX4) (N := 8) hx hb hts in_wsX40 hown hK (hM.2.1) rfl 0 (by decide) (hts (.fieldLink RX4 7 "PieceSetsModel" "v" "[I") (by decide +kernel)) rfl (v := .ref (M 1)) rfl dX4_told_12 ?_
  refine lv_iload_n hx hb dX4_told_15 rfl (lv_at hl 2 rfl) ?_
  refine lv_iload_n hx hb dX4_told_16 rfl (lv_at hl 3 rfl) ?_
  refine vp_callSi (va_Run.run (va_runS (As := [.ref (M 1), .int (nI ss), .int (nI k)]) (rest := []) ⟨hx, hb, hml, hown, hts⟩ (k_X4_runsIn l D T (M 1) v ss k (by omega) (by omega)) (va_cwS 3 hts gX4_told_X4_runsIn rfl rfl rfl (by decide +kernel) ⟨Nat.le_of_ble_eq_true rfl, Nat.le_of_ble_eq_true rfl⟩) (pre_S (Φ := fun X => va_at D vwCl ((M 1), eI T 790 v) X) hK hM.2.2.1) rfl rfl hl.1 rfl (lv_room (Nat.le_of_ble_eq_true rfl)) dX4_told_17 ⟨Nat.le_of_ble_eq_true rfl, Nat.le_of_ble_eq_true rfl⟩)) (fun r_2 hr_2 => ?_)
  subst hr_2
  refine lv_istore (lv' := [(5, .int (nI (pr (bI v ss) k))), (4, .int (nI (pn (bI v ss) k))), (0, .ref (M 0)), (1, .int (nI ss)), (2, .int (nI k)), (3, .int x)]) hx hb dX4_told_20 hl (by decide) rfl (fun ls hl => ?_)
  refine lv_iload_n hx hb dX4_told_22 rfl (lv_at hl 5 rfl) ?_
  refine lv_if_ne (tgt := 36) hx hb dX4_told_23 (by decide) (fun c_1 => ?_) (fun c_1 => ?_)
  · skip
    refine lv_iload_n hx hb dX4_told_36 rfl (lv_at hl 5 rfl) ?_
    refine lv_iconst (v := (nI 1)) hx hb dX4_told_37 (by decide) ?_
    refine lv_icmp_ne (tgt := 46) hx hb dX4_told_38 (by decide) (fun c_2 => ?_) (fun c_2 => ?_)
    · skip
      refine lv_iload_n hx hb dX4_told_46 rfl (lv_at hl 5 rfl) ?_
      refine lv_iconst (v := (nI 2)) hx hb dX4_told_47 (by decide) ?_
      refine lv_icmp_ne (tgt := 56) hx hb dX4_told_48 (by decide) (fun c_3 => ?_) (fun c_3 => ?_)
      · skip
        refine lv_iload hx hb dX4_told_56 (lv_at hl 1 rfl) ?_
        refine lv_iload hx hb dX4_told_58 (lv_at hl 0 rfl) ?_
        refine vp_callSi (va_Run.run (va_runS (As := [.int (nI (pn (bI v ss) k)), .int (nI (pr (bI v ss) k))]) (rest := []) ⟨hx, hb, hml, hown, hts⟩ (k_X4_bytesBy l D T (pn (bI v ss) k) (pr (bI v ss) k) (by omega) (by omega)) (va_cwS 2 hts gX4_told_X4_bytesBy rfl rfl rfl (by decide +kernel) ⟨Nat.le_of_ble_eq_true rfl, Nat.le_of_ble_eq_true rfl⟩) (pre_S (Φ := fun X => True) hK trivial) rfl rfl hl.1 rfl (lv_room (Nat.le_of_ble_eq_true rfl)) dX4_told_60 ⟨Nat.le_of_ble_eq_true rfl, Nat.le_of_ble_eq_true rfl⟩)) (fun r_3 hr_3 => ?_)
        subst hr_3
        subst hQ
        refine W.iret (v := (nI (cst (pn (bI v ss) k) (pr (bI v ss) k)))) hx hb hr (fun t ht hW => ⟨(nI (cst (pn (bI v ss) k) (pr (bI v ss) k))), rfl, ?_, ht⟩) (fun q h => absurd h List.not_mem_nil) dX4_told_63
        exact ((if_neg c_1).trans ((if_neg c_2).trans (if_neg c_3))).symm
      · skip
        refine lv_iload hx hb dX4_told_51 (lv_at hl 0 rfl) ?_
        refine lv_goto (tgt := 63) hx hb dX4_told_53 (by decide) ?_
        subst hQ
        refine W.iret (v := (nI (pr (bI v ss) k))) hx hb hr (fun t ht hW => ⟨(nI (pr (bI v ss) k)), rfl, ?_, ht⟩) (fun q h => absurd h List.not_mem_nil) dX4_told_63
        exact ((if_neg c_1).trans ((if_neg c_2).trans (if_pos c_3))).symm
    · skip
      refine lv_iload hx hb dX4_told_41 (lv_at hl 1 rfl) ?_
      refine lv_goto (tgt := 63) hx hb dX4_told_43 (by decide) ?_
      subst hQ
      refine W.iret (v := (nI (pn (bI v ss) k))) hx hb hr (fun t ht hW => ⟨(nI (pn (bI v ss) k)), rfl, ?_, ht⟩) (fun q h => absurd h List.not_mem_nil) dX4_told_63
      exact ((if_neg c_1).trans (if_pos c_2)).symm
  · skip
    refine lv_iload hx hb dX4_told_26 (lv_at hl 1 rfl) ?_
    refine lv_iload hx hb dX4_told_28 (lv_at hl 0 rfl) ?_
    refine vp_callSi (va_Run.run (va_runS (As := [.int (nI (pn (bI v ss) k)), .int (nI (pr (bI v ss) k))]) (rest := []) ⟨hx, hb, hml, hown, hts⟩ (k_X4_kindBy l D T (pn (bI v ss) k) (pr (bI v ss) k) (by omega) (by omega)) (va_cwS 2 hts gX4_told_X4_kindBy rfl rfl rfl (by decide +kernel) ⟨Nat.le_of_ble_eq_true rfl, Nat.le_of_ble_eq_true rfl⟩) (pre_S (Φ := fun X => True) hK trivial) rfl rfl hl.1 rfl (lv_room (Nat.le_of_ble_eq_true rfl)) dX4_told_30 ⟨Nat.le_of_ble_eq_true rfl, Nat.le_of_ble_eq_true rfl⟩)) (fun r_3 hr_3 => ?_)
    subst hr_3
    refine lv_goto (tgt := 63) hx hb dX4_told_33 (by decide) ?_
    subst hQ
    refine W.iret (v := (kd (pn (bI v ss) k) (pr (bI v ss) k))) hx hb hr (fun t ht hW => ⟨(kd (pn (bI v ss) k) (pr (bI v ss) k)), rfl, ?_, ht⟩) (fun q h => absurd h List.not_mem_nil) dX4_told_63
    exact (if_pos c_1).symm
