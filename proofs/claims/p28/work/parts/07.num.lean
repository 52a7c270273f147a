set_option maxHeartbeats 4000000 in
set_option maxRecDepth 100000 in
theorem k_J13_bitCount_95d88 (l : Launch) (D : va_G) (T : Nat → ClassId) (x : Int64) : Met l yJ13_bitCount_95d88 wsJ13_bitCount_95d88 ({ frames := 0, cells := 0, slots := 0, locals := 0 }) (va_Pc [.long x] (fun U => KS D T U ∧ True)) (vp_Si (fun r => r = (nI (pop x)))) 0 0 (fun _ => False) := by
  refine Met.ofW (cc := cJ13_bitCount_95d88) (maxL := 2) (ret := (some .int)) (by decide) rfl ?_
  intro pg ev s m args below meth c s₁ B hml hv
  obtain ⟨rfl, hK, hH⟩ := hv
  have hx := B.exec
  have hb := B.bytes
  have hr := B.returns
  have hts := atoms_spec (ws := wsJ13_bitCount_95d88) B.pre
  have hown : s.vm.findClass RJ13 = some m.cls := findClass_of_methodNamed B.named
  have hlocks := B.notSynchronized
  have hl := lv_entry ([.long x]) (n := 2) (Nat.le_of_ble_eq_true rfl)
  rw [lg_entry_eq]
  generalize (lg_sl ([.long x]) ++ List.replicate (2 - (lg_sl ([.long x])).length) Slot.unset).toArray = ls at hl ⊢
  have hl : lv_has ls 2 [(0, .long x)] := hl
  refine W_gen (fun Q hQ => ?_)
  refine lv_lload_n hx hb dJ13_bitCount_95d88_0 rfl (lv_at hl 0 rfl) ?_
  refine lv_lload_n hx hb dJ13_bitCount_95d88_1 rfl (lv_at hl 0 rfl) ?_
  refine lv_iconst (v := (nI 1)) hx hb dJ13_bitCount_95d88_2 (by decide) ?_
  refine lv_lushr (v := (ushrL x (nI 1))) hx hb dJ13_bitCount_95d88_3 rfl ?_
  refine lv_ldc2 hx hb hown (hts (.constantLong RJ13 314 (6148914691236517205)) (by decide +kernel)) dJ13_bitCount_95d88_4 ?_
  refine lv_land hx hb dJ13_bitCount_95d88_7 ?_
  refine lv_lsub hx hb dJ13_bitCount_95d88_8 ?_
  refine lv_topl (fun y_1 ey_1 => ?_)
  refine lv_lstore_n (lv' := [(0, .long y_1)]) hx hb dJ13_bitCount_95d88_9 rfl hl (by decide) rfl (fun ls hl => ?_)
  refine lv_lload_n hx hb dJ13_bitCount_95d88_10 rfl (lv_at hl 0 rfl) ?_
  refine lv_ldc2 hx hb hown (hts (.constantLong RJ13 316 (3689348814741910323)) (by decide +kernel)) dJ13_bitCount_95d88_11 ?_
  refine lv_land hx hb dJ13_bitCount_95d88_14 ?_
  refine lv_lload_n hx hb dJ13_bitCount_95d88_15 rfl (lv_at hl 0 rfl) ?_
  refine lv_iconst (v := (nI 2)) hx hb dJ13_bitCount_95d88_16 (by decide) ?_
  refine lv_lushr (v := (ushrL y_1 (nI 2))) hx hb dJ13_bitCount_95d88_17 rfl ?_
  refine lv_ldc2 hx hb hown (hts (.constantLong RJ13 316 (3689348814741910323)) (by decide +kernel)) dJ13_bitCount_95d88_18 ?_
  refine lv_land hx hb dJ13_bitCount_95d88_21 ?_
  refine lv_ladd hx hb dJ13_bitCount_95d88_22 ?_
  refine lv_topl (fun y_2 ey_2 => ?_)
  refine lv_lstore_n (lv' := [(0, .long y_2)]) hx hb dJ13_bitCount_95d88_23 rfl hl (by decide) rfl (fun ls hl => ?_)
  refine lv_lload_n hx hb dJ13_bitCount_95d88_24 rfl (lv_at hl 0 rfl) ?_
  refine lv_lload_n hx hb dJ13_bitCount_95d88_25 rfl (lv_at hl 0 rfl) ?_
  refine lv_iconst (v := (nI 4)) hx hb dJ13_bitCount_95d88_26 (by decide) ?_
  refine lv_lushr (v := (ushrL y_2 (nI 4))) hx hb dJ13_bitCount_95d88_27 rfl ?_
  refine lv_ladd hx hb dJ13_bitCount_95d88_28 ?_
  refine lv_ldc2 hx hb hown (hts (.constantLong RJ13 318 (1085102592571150095)) (by decide +kernel)) dJ13_bitCount_95d88_29 ?_
  refine lv_land hx hb dJ13_bitCount_95d88_32 ?_
  refine lv_topl (fun y_3 ey_3 => ?_)
  refine lv_lstore_n (lv' := [(0, .long y_3)]) hx hb dJ13_bitCount_95d88_33 rfl hl (by decide) rfl (fun ls hl => ?_)
  refine lv_lload_n hx hb dJ13_bitCount_95d88_34 rfl (lv_at hl 0 rfl) ?_
  refine lv_lload_n hx hb dJ13_bitCount_95d88_35 rfl (lv_at hl 0 rfl) ?_
  refine lv_bipush (v := (nI 8)) hx hb dJ13_bitCount_95d88_36 (by decide) ?_
  refine lv_lushr (v := (ushrL y_3 (nI 8))) hx hb dJ13_bitCount_95d88_38 rfl ?_
  refine lv_ladd hx hb dJ13_bitCount_95d88_39 ?_
  refine lv_topl (fun y_4 ey_4 => ?_)
  refine lv_lstore_n (lv' := [(0, .long y_4)]) hx hb dJ13_bitCount_95d88_40 rfl hl (by decide) rfl (fun ls hl => ?_)
  refine lv_lload_n hx hb dJ13_bitCount_95d88_41 rfl (lv_at hl 0 rfl) ?_
  refine lv_lload_n hx hb dJ13_bitCount_95d88_42 rfl (lv_at hl 0 rfl) ?_
  refine lv_bipush (v := (nI 16)) hx hb dJ13_bitCount_95d88_43 (by decide) ?_
  refine lv_lushr (v := (ushrL y_4 (nI 16))) hx hb dJ13_bitCount_95d88_45 rfl ?_
  refine lv_ladd hx hb dJ13_bitCount_95d88_46 ?_
  refine lv_topl (fun y_5 ey_5 => ?_)
  refine lv_lstore_n (lv' := [(0, .long y_5)]) hx hb dJ13_bitCount_95d88_47 rfl hl (by decide) rfl (fun ls hl => ?_)
  refine lv_lload_n hx hb dJ13_bitCount_95d88_48 rfl (lv_at hl 0 rfl) ?_
  refine lv_lload_n hx hb dJ13_bitCount_95d88_49 rfl (lv_at hl 0 rfl) ?_
  refine lv_bipush (v := (nI 32)) hx hb dJ13_bitCount_95d88_50 (by decide) ?_
  refine lv_lushr (v := (ushrL y_5 (nI 32))) hx hb dJ13_bitCount_95d88_52 rfl ?_
  refine lv_ladd hx hb dJ13_bitCount_95d88_53 ?_
  refine lv_topl (fun y_6 ey_6 => ?_)
  refine lv_lstore_n (lv' := [(0, .long y_6)]) hx hb dJ13_bitCount_95d88_54 rfl hl (by decide) rfl (fun ls hl => ?_)
  refine lv_lload_n hx hb dJ13_bitCount_95d88_55 rfl (lv_at hl 0 rfl) ?_
  refine lv_l2i (v := y_6.toInt32) hx hb dJ13_bitCount_95d88_56 rfl ?_
  refine lv_bipush (v := (nI 127)) hx hb dJ13_bitCount_95d88_57 (by decide) ?_
  refine lv_iand hx hb dJ13_bitCount_95d88_59 ?_
  subst hQ
  refine W.iret (v := (y_6.toInt32 &&& (nI 127))) hx hb hr (fun t ht hW => ⟨(y_6.toInt32 &&& (nI 127)), rfl, ?_, ht⟩) (fun q h => absurd h List.not_mem_nil) dJ13_bitCount_95d88_60
  exact pop_steps x _ _ _ _ _ _ ey_1 ey_2 ey_3 ey_4 ey_5 ey_6
set_option maxHeartbeats 4000000 in
set_option maxRecDepth 100000 in
theorem k_X3_isSet (l : Launch) (D : va_G) (T : Nat → ClassId) (x : Int32) : Met l yX3_isSet wsX3_isSet ({ frames := 0, cells := 0, slots := 0, locals := 0 }) (va_Pc [.int x] (fun U => KS D T U ∧ True)) (vp_Si (fun r => r = (b2i (decide (¬ x < 0 ∧ x < nI 6))))) 0 0 (fun _ => False) := by
  refine Met.ofW (cc := cX3_isSet) (maxL := 1) (ret := (some .boolean)) (by decide) rfl ?_
  intro pg ev s m args below meth c s₁ B hml hv
  obtain ⟨rfl, hK, hH⟩ := hv
  have hx := B.exec
  have hb := B.bytes
  have hr := B.returns
  have hts := atoms_spec (ws := wsX3_isSet) B.pre
  have hown : s.vm.findClass RX3 = some m.cls := findClass_of_methodNamed B.named
  have hlocks := B.notSynchronized
  have hl := lv_entry ([.int x]) (n := 1) (Nat.le_of_ble_eq_true rfl)
  rw [lg_entry_eq]
  generalize (lg_sl ([.int x]) ++ List.replicate (1 - (lg_sl ([.int x])).length) Slot.unset).toArray = ls at hl ⊢
  have hl : lv_has ls 1 [(0, .int x)] := hl
  refine W_gen (fun Q hQ => ?_)
  refine lv_iload_n hx hb dX3_isSet_0 rfl (lv_at hl 0 rfl) ?_
  refine lv_if_lt (tgt := 14) hx hb dX3_isSet_1 (by decide) (fun c_1 => ?_) (fun c_1 => ?_)
  · skip
    refine lv_iconst (v := (nI 0)) hx hb dX3_isSet_14 (by decide) ?_
    subst hQ
    refine W.zret (v := (nI 0)) hx hb hr nb0 (fun t ht hW => ⟨(nI 0), rfl, ?_, ht⟩) (fun q h => absurd h List.not_mem_nil) dX3_isSet_15
    first | exact r0 (decide_eq_false (fun z => z.1 c_1)) | exact r0 (decide_eq_false (fun z => Int32.not_le.mpr z.2 c_2))
  · skip
    refine lv_iload_n hx hb dX3_isSet_4 rfl (lv_at hl 0 rfl) ?_
    refine lv_bipush (v := (nI 6)) hx hb dX3_isSet_5 (by decide) ?_
    refine lv_icmp_ge (tgt := 14) hx hb dX3_isSet_7 (by decide) (fun c_2 => ?_) (fun c_2 => ?_)
    · skip
      refine lv_iconst (v := (nI 0)) hx hb dX3_isSet_14 (by decide) ?_
      subst hQ
      refine W.zret (v := (nI 0)) hx hb hr nb0 (fun t ht hW => ⟨(nI 0), rfl, ?_, ht⟩) (fun q h => absurd h List.not_mem_nil) dX3_isSet_15
      first | exact r0 (decide_eq_false (fun z => z.1 c_1)) | exact r0 (decide_eq_false (fun z => Int32.not_le.mpr z.2 c_2))
    · skip
      refine lv_iconst (v := (nI 1)) hx hb dX3_isSet_10 (by decide) ?_
      refine lv_goto (tgt := 15) hx hb dX3_isSet_11 (by decide) ?_
      subst hQ
      refine W.zret (v := (nI 1)) hx hb hr nb1 (fun t ht hW => ⟨(nI 1), rfl, ?_, ht⟩) (fun q h => absurd h List.not_mem_nil) dX3_isSet_15
      exact r1 (decide_eq_true ⟨c_1, Int32.not_le.mp c_2⟩)
set_option maxHeartbeats 4000000 in
set_option maxRecDepth 100000 in
theorem k_X3_isNumber (l : Launch) (D : va_G) (T : Nat → ClassId) (x : Int32) : Met l yX3_isNumber wsX3_isNumber ({ frames := 0, cells := 0, slots := 0, locals := 0 }) (va_Pc [.int x] (fun U => KS D T U ∧ True)) (vp_Si (fun r => r = (b2i (decide (¬ x < 0 ∧ x < nI 4096))))) 0 0 (fun _ => False) := by
  refine Met.ofW (cc := cX3_isNumber) (maxL := 1) (ret := (some .boolean)) (by decide) rfl ?_
  intro pg ev s m args below meth c s₁ B hml hv
  obtain ⟨rfl, hK, hH⟩ := hv
  have hx := B.exec
  have hb := B.bytes
  have hr := B.returns
  have hts := atoms_spec (ws := wsX3_isNumber) B.pre
  have hown : s.vm.findClass RX3 = some m.cls := findClass_of_methodNamed B.named
  have hlocks := B.notSynchronized
  have hl := lv_entry ([.int x]) (n := 1) (Nat.le_of_ble_eq_true rfl)
  rw [lg_entry_eq]
  generalize (lg_sl ([.int x]) ++ List.replicate (1 - (lg_sl ([.int x])).length) Slot.unset).toArray = ls at hl ⊢
  have hl : lv_has ls 1 [(0, .int x)] := hl
  refine W_gen (fun Q hQ => ?_)
  refine lv_iload_n hx hb dX3_isNumber_0 rfl (lv_at hl 0 rfl) ?_
  refine lv_if_lt (tgt := 15) hx hb dX3_isNumber_1 (by decide) (fun c_1 => ?_) (fun c_1 => ?_)
  · skip
    refine lv_iconst (v := (nI 0)) hx hb dX3_isNumber_15 (by decide) ?_
    subst hQ
    refine W.zret (v := (nI 0)) hx hb hr nb0 (fun t ht hW => ⟨(nI 0), rfl, ?_, ht⟩) (fun q h => absurd h List.not_mem_nil) dX3_isNumber_16
    first | exact r0 (decide_eq_false (fun z => z.1 c_1)) | exact r0 (decide_eq_false (fun z => Int32.not_le.mpr z.2 c_2))
  · skip
    refine lv_iload_n hx hb dX3_isNumber_4 rfl (lv_at hl 0 rfl) ?_
    refine lv_sipush (v := (nI 4096)) hx hb dX3_isNumber_5 (by decide) ?_
    refine lv_icmp_ge (tgt := 15) hx hb dX3_isNumber_8 (by decide) (fun c_2 => ?_) (fun c_2 => ?_)
    · skip
      refine lv_iconst (v := (nI 0)) hx hb dX3_isNumber_15 (by decide) ?_
      subst hQ
      refine W.zret (v := (nI 0)) hx hb hr nb0 (fun t ht hW => ⟨(nI 0), rfl, ?_, ht⟩) (fun q h => absurd h List.not_mem_nil) dX3_isNumber_16
      first | exact r0 (decide_eq_false (fun z => z.1 c_1)) | exact r0 (decide_eq_false (fun z => Int32.not_le.mpr z.2 c_2))
    · skip
      refine lv_iconst (v := (nI 1)) hx hb dX3_isNumber_11 (by decide) ?_
      refine lv_goto (tgt := 16) hx hb dX3_isNumber_12 (by decide) ?_
      subst hQ
      refine W.zret (v := (nI 1)) hx hb hr nb1 (fun t ht hW => ⟨(nI 1), rfl, ?_, ht⟩) (fun q h => absurd h List.not_mem_nil) dX3_isNumber_16
      exact r1 (decide_eq_true ⟨c_1, Int32.not_le.mp c_2⟩)
set_option maxHeartbeats 4000000 in
set_option maxRecDepth 100000 in
theorem k_X3_isKind (l : Launch) (D : va_G) (T : Nat → ClassId) (x : Int32) : Met l yX3_isKind wsX3_isKind ({ frames := 0, cells := 0, slots := 0, locals := 0 }) (va_Pc [.int x] (fun U => KS D T U ∧ True)) (vp_Si (fun r => r = (b2i (decide (¬ x < 0 ∧ x < nI 3))))) 0 0 (fun _ => False) := by
  refine Met.ofW (cc := cX3_isKind) (maxL := 1) (ret := (some .boolean)) (by decide) rfl ?_
  intro pg ev s m args below meth c s₁ B hml hv
  obtain ⟨rfl, hK, hH⟩ := hv
  have hx := B.exec
  have hb := B.bytes
  have hr := B.returns
  have hts := atoms_spec (ws := wsX3_isKind) B.pre
  have hown : s.vm.findClass RX3 = some m.cls := findClass_of_methodNamed B.named
  have hlocks := B.notSynchronized
  have hl := lv_entry ([.int x]) (n := 1) (Nat.le_of_ble_eq_true rfl)
  rw [lg_entry_eq]
  generalize (lg_sl ([.int x]) ++ List.replicate (1 - (lg_sl ([.int x])).length) Slot.unset).toArray = ls at hl ⊢
  have hl : lv_has ls 1 [(0, .int x)] := hl
  refine W_gen (fun Q hQ => ?_)
  refine lv_iload_n hx hb dX3_isKind_0 rfl (lv_at hl 0 rfl) ?_
  refine lv_if_lt (tgt := 13) hx hb dX3_isKind_1 (by decide) (fun c_1 => ?_) (fun c_1 => ?_)
  · skip
    refine lv_iconst (v := (nI 0)) hx hb dX3_isKind_13 (by decide) ?_
    subst hQ
    refine W.zret (v := (nI 0)) hx hb hr nb0 (fun t ht hW => ⟨(nI 0), rfl, ?_, ht⟩) (fun q h => absurd h List.not_mem_nil) dX3_isKind_14
    first | exact r0 (decide_eq_false (fun z => z.1 c_1)) | exact r0 (decide_eq_false (fun z => Int32.not_le.mpr z.2 c_2))
  · skip
    refine lv_iload_n hx hb dX3_isKind_4 rfl (lv_at hl 0 rfl) ?_
    refine lv_iconst (v := (nI 3)) hx hb dX3_isKind_5 (by decide) ?_
    refine lv_icmp_ge (tgt := 13) hx hb dX3_isKind_6 (by decide) (fun c_2 => ?_) (fun c_2 => ?_)
    · skip
      refine lv_iconst (v := (nI 0)) hx hb dX3_isKind_13 (by decide) ?_
      subst hQ
      refine W.zret (v := (nI 0)) hx hb hr nb0 (fun t ht hW => ⟨(nI 0), rfl, ?_, ht⟩) (fun q h => absurd h List.not_mem_nil) dX3_isKind_14
      first | exact r0 (decide_eq_false (fun z => z.1 c_1)) | exact r0 (decide_eq_false (fun z => Int32.not_le.mpr z.2 c_2))
    · skip
      refine lv_iconst (v := (nI 1)) hx hb dX3_isKind_9 (by decide) ?_
      refine lv_goto (tgt := 14) hx hb dX3_isKind_10 (by decide) ?_
      subst hQ
      refine W.zret (v := (nI 1)) hx hb hr nb1 (fun t ht hW => ⟨(nI 1), rfl, ?_, ht⟩) (fun q h => absurd h List.not_mem_nil) dX3_isKind_14
      exact r1 (decide_eq_true ⟨c_1, Int32.not_le.mp c_2⟩)
set_option maxHeartbeats 4000000 in
set_option maxRecDepth 100000 in
theorem k_X1_wordAt (l : Launch) (D : va_G) (T : Nat → ClassId) (h0 : Nat) (w0 : Nat) (f : Nat → Int64) (x : Int32) : Met l yX1_wordAt wsX1_wordAt ({ frames := 0, cells := 0, slots := 0, locals := 0 }) (va_Pc [.ref h0, .int x] (fun U => KS D T U ∧ Num D T U.heap h0 w0 f)) (vp_Sl (fun r => r = (wAt f x))) 0 0 (fun _ => False) := by
  refine Met.ofW (cc := cX1_wordAt) (maxL := 2) (ret := (some .long)) (by decide) rfl ?_
  intro pg ev s m args below meth c s₁ B hml hv
  obtain ⟨rfl, hK, hH⟩ := hv
  have hx := B.exec
  have hb := B.bytes
  have hr := B.returns
  have hts := atoms_spec (ws := wsX1_wordAt) B.pre
  have hown : s.vm.findClass RX1 = some m.cls := findClass_of_methodNamed B.named
  have hlocks := B.notSynchronized
  have in_wsX10 : ∀ w ∈ wsX10, w ∈ wsX1_wordAt := fun w h => List.mem_cons_of_mem _ (List.mem_append_right _ h)
  have hl := lv_entry ([.ref h0, .int x]) (n := 2) (Nat.le_of_ble_eq_true rfl)
  rw [lg_entry_eq]
  generalize (lg_sl ([.ref h0, .int x]) ++ List.replicate (2 - (lg_sl ([.ref h0, .int x])).length) Slot.unset).toArray = ls at hl ⊢
  have hl : lv_has ls 2 [(0, .ref h0), (1, .int x)] := hl
  refine W_gen (fun Q hQ => ?_)
  have hN := hH
  refine lv_iload_n hx hb dX1_wordAt_0 rfl (lv_at hl 1 rfl) ?_
  refine lv_if_lt (tgt := 19) hx hb dX1_wordAt_1 (by decide) (fun c_1 => ?_) (fun c_1 => ?_)
  · skip
    refine lv_lconst (v := 0) hx hb dX1_wordAt_19 rfl ?_
    subst hQ
    refine W.lret (v := 0) hx hb hr (fun t ht hW => ⟨0, rfl, ?_, ht⟩) (fun q h => absurd h List.not_mem_nil) dX1_wordAt_20
    first | exact (if_pos ⟨c_1, Int32.not_le.mp c_2⟩).symm | exact (wAt_neg f (Or.inl c_1)).symm | exact (wAt_neg f (Or.inr (Int32.not_lt.mpr c_2))).symm
  · skip
    refine lv_iload_n hx hb dX1_wordAt_4 rfl (lv_at hl 1 rfl) ?_
    refine lv_bipush (v := (nI 64)) hx hb dX1_wordAt_5 (by decide) ?_
    refine lv_icmp_ge (tgt := 19) hx hb dX1_wordAt_7 (by decide) (fun c_2 => ?_) (fun c_2 => ?_)
    · skip
      refine lv_lconst (v := 0) hx hb dX1_wordAt_19 rfl ?_
      subst hQ
      refine W.lret (v := 0) hx hb hr (fun t ht hW => ⟨0, rfl, ?_, ht⟩) (fun q h => absurd h List.not_mem_nil) dX1_wordAt_20
      first | exact (if_pos ⟨c_1, Int32.not_le.mp c_2⟩).symm | exact (wAt_neg f (Or.inl c_1)).symm | exact (wAt_neg f (Or.inr (Int32.not_lt.mpr c_2))).symm
    · skip
      refine lv_aload_n hx hb dX1_wordAt_10 rfl (lv_at hl 0 rfl) ?_
      refine r_get (C := RX1) (Tb := TX1) (N := 1) hx hb hts in_wsX10 hown hK (hN.1) rfl 0 (by decide) (hts (.fieldLink RX1 9 "PieceSets$Numbers" "words" "[J") (by decide +kernel)) rfl (v := .ref w0) rfl dX1_wordAt_11 ?_
      refine lv_iload_n hx hb dX1_wordAt_14 rfl (lv_at hl 1 rfl) ?_
      refine top_i (x' := (nI x.toNatClampNeg)) (nI_cl c_1) ?_
      refine r_lald hx hb hK (hN.2) (i := x.toNatClampNeg) (cl_lt (by decide) c_1 (Int32.not_le.mp c_2)) (by decide) dX1_wordAt_15 ?_
      refine lv_goto (tgt := 20) hx hb dX1_wordAt_16 (by decide) ?_
      subst hQ
      refine W.lret (v := (f x.toNatClampNeg)) hx hb hr (fun t ht hW => ⟨(f x.toNatClampNeg), rfl, ?_, ht⟩) (fun q h => absurd h List.not_mem_nil) dX1_wordAt_20
      first | exact (if_pos ⟨c_1, Int32.not_le.mp c_2⟩).symm | exact (wAt_neg f (Or.inl c_1)).symm | exact (wAt_neg f (Or.inr (Int32.not_lt.mpr c_2))).symm
set_option maxHeartbeats 4000000 in
set_option maxRecDepth 100000 in
theorem k_X1_countInPiece (l : Launch) (D : va_G) (T : Nat → ClassId) (h0 : Nat) (w0 : Nat) (f : Nat → Int64) (k : Nat) (hp : k < 16) : Met l yX1_countInPiece wsX1_countInPiece ({ frames := 1, cells := 0, slots := 0, locals := 21 }) (va_Pc [.ref h0, .int (nI k)] (fun U => KS D T U ∧ Num D T U.heap h0 w0 f)) (vp_Si (fun r => r = (nI (ct (bitL f) (256 * k) 256)))) 0 0 (fun _ => False) := by
  refine Met.ofW (cc := cX1_countInPiece) (maxL := 4) (ret := (some .int)) (by decide) rfl ?_
  intro pg ev s m args below meth c s₁ B hml hv
  obtain ⟨rfl, hK, hH⟩ := hv
  have hx := B.exec
  have hb := B.bytes
  have hr := B.returns
  have hts := atoms_spec (ws := wsX1_countInPiece) B.pre
  have hown : s.vm.findClass RX1 = some m.cls := findClass_of_methodNamed B.named
  have hlocks := B.notSynchronized
  have in_wsX10 : ∀ w ∈ wsX10, w ∈ wsX1_countInPiece := fun w h => List.mem_cons_of_mem _ (List.mem_append_right _ h)
  have hl := lv_entry ([.ref h0, .int (nI k)]) (n := 4) (Nat.le_of_ble_eq_true rfl)
  rw [lg_entry_eq]
  generalize (lg_sl ([.ref h0, .int (nI k)]) ++ List.replicate (4 - (lg_sl ([.ref h0, .int (nI k)])).length) Slot.unset).toArray = ls at hl ⊢
  have hl : lv_has ls 4 [(0, .ref h0), (1, .int (nI k))] := hl
  refine W_gen (fun Q hQ => ?_)
  have hN := hH
  refine lv_iconst (v := (nI 0)) hx hb dX1_countInPiece_0 (by decide) ?_
  refine lv_istore_n (lv' := [(2, .int (nI 0)), (0, .ref h0), (1, .int (nI k))]) hx hb dX1_countInPiece_1 rfl hl (by decide) rfl (fun ls hl => ?_)
  refine lv_iconst (v := (nI 0)) hx hb dX1_countInPiece_2 (by decide) ?_
  refine lv_istore_n (lv' := [(3, .int (nI 0)), (2, .int (nI 0)), (0, .ref h0), (1, .int (nI k))]) hx hb dX1_countInPiece_3 rfl hl (by decide) rfl (fun ls hl => ?_)
  have loop4 : ∀ (n4 : Nat) (i : Nat) (hi : i ≤ 4) (ls : Array Slot) (hl : lv_has ls 4 [(0, .ref h0), (1, .int (nI k)), (2, .int (nI (ct (bitL f) (256 * k) (64 * i)))), (3, .int (nI i))]) (hn4 : 4 - i < n4), W pg l ev (headSpec wsX1_countInPiece ({ frames := 1, cells := 0, slots := 0, locals := 21 })).room s m ([.ref h0, .int (nI k)] : List Value).toArray below meth c s.heap [] 0 0 Q (F0 m 4 ls []) := by
    intro n4
    induction n4 with
    | zero =>
      intro i hi ls hl hn4
      exact absurd hn4 (Nat.not_lt_zero _)
    | succ n4 ih4 =>
      intro i hi ls hl hn4
      have hc := ct_le (bitL f) (256 * k) (64 * i)
      refine lv_iload_n hx hb dX1_countInPiece_4 rfl (lv_at hl 3 rfl) ?_
      refine lv_iconst (v := (nI 4)) hx hb dX1_countInPiece_5 (by decide) ?_
      refine lv_icmp_ge (tgt := 30) hx hb dX1_countInPiece_6 (by decide) (fun c_1 => ?_) (fun c_1 => ?_)
      · skip
        have c_1 : 4 ≤ i := (nI_leI (a := 4) (b := i) (by omega) (by omega)).mp c_1
        refine lv_iload_n hx hb dX1_countInPiece_30 rfl (lv_at hl 2 rfl) ?_
        subst hQ
        refine W.iret (v := (nI (ct (bitL f) (256 * k) (64 * i)))) hx hb hr (fun t ht hW => ⟨(nI (ct (bitL f) (256 * k) (64 * i))), rfl, ?_, ht⟩) (fun q h => absurd h List.not_mem_nil) dX1_countInPiece_31
        rw [show 256 = 64 * i by omega]
      · skip
        have c_1 : ¬ (4 ≤ i) := fun z => c_1 ((nI_leI (a := 4) (b := i) (by omega) (by omega)).mpr z)
        refine lv_iload_n hx hb dX1_countInPiece_9 rfl (lv_at hl 2 rfl) ?_
        refine lv_aload_n hx hb dX1_countInPiece_10 rfl (lv_at hl 0 rfl) ?_
        refine lv_iconst (v := (nI 4)) hx hb dX1_countInPiece_11 (by decide) ?_
        refine lv_iload_n hx hb dX1_countInPiece_12 rfl (lv_at hl 1 rfl) ?_
        refine lv_imul hx hb dX1_countInPiece_13 ?_
        refine top_i (pk_mul 4 k) ?_
        refine lv_iload_n hx hb dX1_countInPiece_14 rfl (lv_at hl 3 rfl) ?_
        refine lv_iadd hx hb dX1_countInPiece_15 ?_
        refine top_i (nI_add (4 * k) i) ?_
        refine vp_callSl (va_Run.run (va_runV (As := [.int (nI ((4 * k) + i))]) (rest := [.int (nI (ct (bitL f) (256 * k) (64 * i)))]) ⟨hx, hb, hml, hown, hts⟩ (k_X1_wordAt l D T h0 w0 f (nI ((4 * k) + i)) ) (cwV 1 hts gX1_countInPiece_X1_wordAt rfl rfl rfl (by decide +kernel) ⟨Nat.le_of_ble_eq_true rfl, Nat.le_of_ble_eq_true rfl⟩) (pre_V (Φ := fun X => Num D T X h0 w0 f) hK (hN.1) rfl hN) rfl rfl hl.1 rfl (lv_room (Nat.le_of_ble_eq_true rfl)) dX1_countInPiece_16 ⟨Nat.le_of_ble_eq_true rfl, Nat.le_of_ble_eq_true rfl⟩)) (fun r_1 hr_1 => ?_)
        subst hr_1
        refine top_l (x' := (f (4 * k + i))) (wAt_n f (by omega)) ?_
        refine vp_callSi (va_Run.run (va_runS (As := [.long (f (4 * k + i))]) (rest := [.int (nI (ct (bitL f) (256 * k) (64 * i)))]) ⟨hx, hb, hml, hown, hts⟩ (k_J13_bitCount_95d88 l D T (f (4 * k + i)) ) (va_cwS 1 hts gX1_countInPiece_J13_bitCount_95d88 rfl rfl rfl (by decide +kernel) ⟨Nat.le_of_ble_eq_true rfl, Nat.le_of_ble_eq_true rfl⟩) (pre_S (Φ := fun X => True) hK trivial) rfl rfl hl.1 rfl (lv_room (Nat.le_of_ble_eq_true rfl)) dX1_countInPiece_19 ⟨Nat.le_of_ble_eq_true rfl, Nat.le_of_ble_eq_true rfl⟩)) (fun r_2 hr_2 => ?_)
        subst hr_2
        refine lv_iadd hx hb dX1_countInPiece_22 ?_
        refine top_i (nI_add (ct (bitL f) (256 * k) (64 * i)) (pop (f (4 * k + i)))) ?_
        refine lv_istore_n (lv' := [(2, .int (nI ((ct (bitL f) (256 * k) (64 * i)) + (pop (f (4 * k + i)))))), (0, .ref h0), (1, .int (nI k)), (3, .int (nI i))]) hx hb dX1_countInPiece_23 rfl hl (by decide) rfl (fun ls hl => ?_)
        refine lv_iinc (v := (nI (i + 1))) (lv' := [(3, .int (nI (i + 1))), (2, .int (nI ((ct (bitL f) (256 * k) (64 * i)) + (pop (f (4 * k + i)))))), (0, .ref h0), (1, .int (nI k))]) hx hb dX1_countInPiece_24 hl (k := 3) rfl (iinc_n i 1) (by decide) rfl (fun ls hl => ?_)
        refine lv_goto (tgt := 4) hx hb dX1_countInPiece_27 (by decide) ?_
        have hl := lv_sub hl (l' := [(0, .ref h0), (1, .int (nI k)), (2, .int (nI ((ct (bitL f) (256 * k) (64 * i)) + (pop (f (4 * k + i)))))), (3, .int (nI (i + 1)))]) [2, 3, 1, 0] rfl
        have q_1 : (nI ((ct (bitL f) (256 * k) (64 * i)) + (pop (f (4 * k + i))))) = (nI (ct (bitL f) (256 * k) (64 * (i + 1)))) := by rw [pop_ct, show 64 * (i + 1) = 64 * i + 64 by omega, ct_add, show 64 * (4 * k + i) = 256 * k + 64 * i by omega]
        have hl : lv_has ls 4 [(0, .ref h0), (1, .int (nI k)), (2, .int (nI (ct (bitL f) (256 * k) (64 * (i + 1))))), (3, .int (nI (i + 1)))] := by
          have h := hl
          rw [q_1] at h
          exact h
        exact ih4 (i + 1) (by omega) ls hl (by omega)
  have hl := lv_sub hl (l' := [(0, .ref h0), (1, .int (nI k)), (2, .int (nI 0)), (3, .int (nI 0))]) [2, 3, 1, 0] rfl
  have q_1 : (nI 0) = (nI (ct (bitL f) (256 * k) (64 * 0))) := rfl
  have hl : lv_has ls 4 [(0, .ref h0), (1, .int (nI k)), (2, .int (nI (ct (bitL f) (256 * k) (64 * 0)))), (3, .int (nI 0))] := by
    have h := hl
    rw [q_1] at h
    exact h
  exact loop4 (4 - 0 + 1) 0 (Nat.zero_le _) ls hl (Nat.lt_succ_self _)
set_option maxHeartbeats 4000000 in
set_option maxRecDepth 100000 in
theorem k_X1_join (l : Launch) (D : va_G) (T : Nat → ClassId) (o : Nat) (x : Int64) (y : Int64) (ho : o ≤ 3) : Met l yX1_join wsX1_join ({ frames := 0, cells := 0, slots := 0, locals := 0 }) (va_Pc [.int (nI o), .long x, .long y] (fun U => KS D T U ∧ True)) (vp_Sl (fun r => r = (jn o x y))) 0 0 (fun _ => False) := by
  refine Met.ofW (cc := cX1_join) (maxL := 5) (ret := (some .long)) (by decide) rfl ?_
  intro pg ev s m args below meth c s₁ B hml hv
  obtain ⟨rfl, hK, hH⟩ := hv
  have hx := B.exec
  have hb := B.bytes
  have hr := B.returns
  have hts := atoms_spec (ws := wsX1_join) B.pre
  have hown : s.vm.findClass RX1 = some m.cls := findClass_of_methodNamed B.named
  have hlocks := B.notSynchronized
  have hl := lv_entry ([.int (nI o), .long x, .long y]) (n := 5) (Nat.le_of_ble_eq_true rfl)
  rw [lg_entry_eq]
  generalize (lg_sl ([.int (nI o), .long x, .long y]) ++ List.replicate (5 - (lg_sl ([.int (nI o), .long x, .long y])).length) Slot.unset).toArray = ls at hl ⊢
  have hl : lv_has ls 5 [(0, .int (nI o)), (1, .long x), (3, .long y)] := hl
  refine W_gen (fun Q hQ => ?_)
  refine lv_iload_n hx hb dX1_join_0 rfl (lv_at hl 0 rfl) ?_
  by_cases c_1 : o = 0
  · skip
    refine top_i (x' := nI 0) (congrArg nI c_1) ?_
    refine lv_tableIn (tgt := 28) (off := 27) hx hb dX1_join_1 (by decide) (by decide) (by decide) (by decide) ?_
    refine lv_lload_n hx hb dX1_join_28 rfl (lv_at hl 1 rfl) ?_
    refine lv_lload_n hx hb dX1_join_29 rfl (lv_at hl 2 rfl) ?_
    refine lv_land hx hb dX1_join_30 ?_
    subst hQ
    refine W.lret (v := (x &&& y)) hx hb hr (fun t ht hW => ⟨(x &&& y), rfl, ?_, ht⟩) (fun q h => absurd h List.not_mem_nil) dX1_join_31
    exact (if_pos c_1).symm
  by_cases c_2 : o = 1
  · skip
    refine top_i (x' := nI 1) (congrArg nI c_2) ?_
    refine lv_tableIn (tgt := 32) (off := 31) hx hb dX1_join_1 (by decide) (by decide) (by decide) (by decide) ?_
    refine lv_lload_n hx hb dX1_join_32 rfl (lv_at hl 1 rfl) ?_
    refine lv_lload_n hx hb dX1_join_33 rfl (lv_at hl 2 rfl) ?_
    refine lv_lor hx hb dX1_join_34 ?_
    subst hQ
    refine W.lret (v := (x ||| y)) hx hb hr (fun t ht hW => ⟨(x ||| y), rfl, ?_, ht⟩) (fun q h => absurd h List.not_mem_nil) dX1_join_35
    exact ((if_neg c_1).trans (if_pos c_2)).symm
  by_cases c_3 : o = 2
  · skip
    refine top_i (x' := nI 2) (congrArg nI c_3) ?_
    refine lv_tableIn (tgt := 36) (off := 35) hx hb dX1_join_1 (by decide) (by decide) (by decide) (by decide) ?_
    refine lv_lload_n hx hb dX1_join_36 rfl (lv_at hl 1 rfl) ?_
    refine lv_lload_n hx hb dX1_join_37 rfl (lv_at hl 2 rfl) ?_
    refine lv_lxor hx hb dX1_join_38 ?_
    subst hQ
    refine W.lret (v := (x ^^^ y)) hx hb hr (fun t ht hW => ⟨(x ^^^ y), rfl, ?_, ht⟩) (fun q h => absurd h List.not_mem_nil) dX1_join_39
    exact ((if_neg c_1).trans ((if_neg c_2).trans (if_pos c_3))).symm
  refine lv_tableOut (tgt := 40) hx hb dX1_join_1 (by rw [nI_toInt (n := o) (by omega)]; omega) (by decide) ?_
  refine lv_lload_n hx hb dX1_join_40 rfl (lv_at hl 1 rfl) ?_
  refine lv_lload_n hx hb dX1_join_41 rfl (lv_at hl 2 rfl) ?_
  refine lv_ldc2 hx hb hown (hts (.constantLong RX1 31 (-1)) (by decide +kernel)) dX1_join_42 ?_
  refine lv_lxor hx hb dX1_join_45 ?_
  refine lv_land hx hb dX1_join_46 ?_
  subst hQ
  refine W.lret (v := (x &&& (y ^^^ (-1)))) hx hb hr (fun t ht hW => ⟨(x &&& (y ^^^ (-1))), rfl, ?_, ht⟩) (fun q h => absurd h List.not_mem_nil) dX1_join_47
  exact ((if_neg c_1).trans ((if_neg c_2).trans (if_neg c_3))).symm
set_option maxHeartbeats 4000000 in
set_option maxRecDepth 100000 in
theorem k_X1_mask (l : Launch) (D : va_G) (T : Nat → ClassId) (k : Nat) (x : Int32) (y : Int32) (hk : k < 64) : Met l yX1_mask wsX1_mask ({ frames := 1, cells := 0, slots := 0, locals := 40 }) (va_Pc [.int (nI k), .int x, .int y] (fun U => KS D T U ∧ True)) (vp_Sl (fun r => r = (mk k x y))) 0 0 (fun _ => False) := by
  refine Met.ofW (cc := cX1_mask) (maxL := 5) (ret := (some .long)) (by decide) rfl ?_
  intro pg ev s m args below meth c s₁ B hml hv
  obtain ⟨rfl, hK, hH⟩ := hv
  have hx := B.exec
  have hb := B.bytes
  have hr := B.returns
  have hts := atoms_spec (ws := wsX1_mask) B.pre
  have hown : s.vm.findClass RX1 = some m.cls := findClass_of_methodNamed B.named
  have hlocks := B.notSynchronized
  have hl := lv_entry ([.int (nI k), .int x, .int y]) (n := 5) (Nat.le_of_ble_eq_true rfl)
  rw [lg_entry_eq]
  generalize (lg_sl ([.int (nI k), .int x, .int y]) ++ List.replicate (5 - (lg_sl ([.int (nI k), .int x, .int y])).length) Slot.unset).toArray = ls at hl ⊢
  have hl : lv_has ls 5 [(0, .int (nI k)), (1, .int x), (2, .int y)] := hl
  refine W_gen (fun Q hQ => ?_)
  refine lv_iload_n hx hb dX1_mask_0 rfl (lv_at hl 1 rfl) ?_
  refine lv_bipush (v := (nI 64)) hx hb dX1_mask_1 (by decide) ?_
  refine lv_iload_n hx hb dX1_mask_3 rfl (lv_at hl 0 rfl) ?_
  refine lv_imul hx hb dX1_mask_4 ?_
  refine top_i (pk_mul 64 k) ?_
  refine va_mmax hx hb (hml.trans hl.1.symm) hown (hts (.methodLink RX1 45 Lib.Math.max.name) (by decide +kernel)) (hts (.static Lib.Math.max.name) (by decide +kernel)) (hts (.initialized "java/lang/Math") (by decide +kernel)) (hts (.code Lib.Math.max.name Lib.Math.max.code 2 (some .int)) (by decide +kernel)) (Nat.le_of_ble_eq_true rfl) (Nat.le_of_ble_eq_true rfl) (Nat.le_of_ble_eq_true rfl) (Nat.le_of_ble_eq_true rfl) dX1_mask_5 ?_
  refine lv_topi (fun y_1 ey_1 => ?_)
  refine lv_istore_n (lv' := [(3, .int y_1), (0, .int (nI k)), (1, .int x), (2, .int y)]) hx hb dX1_mask_8 rfl hl (by decide) rfl (fun ls hl => ?_)
  refine lv_iload_n hx hb dX1_mask_9 rfl (lv_at hl 3 rfl) ?_
  refine lv_bipush (v := (nI 64)) hx hb dX1_mask_10 (by decide) ?_
  refine lv_iload_n hx hb dX1_mask_12 rfl (lv_at hl 1 rfl) ?_
  refine lv_imul hx hb dX1_mask_13 ?_
  refine top_i (pk_mul 64 k) ?_
  refine lv_bipush (v := (nI 63)) hx hb dX1_mask_14 (by decide) ?_
  refine lv_iadd hx hb dX1_mask_16 ?_
  refine top_i (nI_add (64 * k) 63) ?_
  refine va_mmin hx hb (hml.trans hl.1.symm) hown (hts (.methodLink RX1 51 Lib.Math.min.name) (by decide +kernel)) (hts (.static Lib.Math.min.name) (by decide +kernel)) (hts (.initialized "java/lang/Math") (by decide +kernel)) (hts (.code Lib.Math.min.name Lib.Math.min.code 2 (some .int)) (by decide +kernel)) (Nat.le_of_ble_eq_true rfl) (Nat.le_of_ble_eq_true rfl) (Nat.le_of_ble_eq_true rfl) (Nat.le_of_ble_eq_true rfl) dX1_mask_17 ?_
  refine lv_topi (fun y_2 ey_2 => ?_)
  refine lv_istore (lv' := [(4, .int y_2), (3, .int y_1), (0, .int (nI k)), (1, .int x), (2, .int y)]) hx hb dX1_mask_20 hl (by decide) rfl (fun ls hl => ?_)
  refine lv_iload_n hx hb dX1_mask_22 rfl (lv_at hl 1 rfl) ?_
  refine lv_iload hx hb dX1_mask_23 (lv_at hl 0 rfl) ?_
  refine lv_icmp_le (tgt := 30) hx hb dX1_mask_25 (by decide) (fun c_1 => ?_) (fun c_1 => ?_)
  · skip
    refine lv_ldc2 hx hb hown (hts (.constantLong RX1 31 (-1)) (by decide +kernel)) dX1_mask_30 ?_
    refine lv_iload_n hx hb dX1_mask_33 rfl (lv_at hl 1 rfl) ?_
    refine lv_bipush (v := (nI 63)) hx hb dX1_mask_34 (by decide) ?_
    refine lv_iand hx hb dX1_mask_36 ?_
    refine lv_lshl (v := (shlL (-1) (y_1 &&& (nI 63)))) hx hb dX1_mask_37 rfl ?_
    refine lv_ldc2 hx hb hown (hts (.constantLong RX1 31 (-1)) (by decide +kernel)) dX1_mask_38 ?_
    refine lv_bipush (v := (nI 63)) hx hb dX1_mask_41 (by decide) ?_
    refine lv_iload hx hb dX1_mask_43 (lv_at hl 0 rfl) ?_
    refine lv_bipush (v := (nI 63)) hx hb dX1_mask_45 (by decide) ?_
    refine lv_iand hx hb dX1_mask_47 ?_
    refine lv_isub hx hb dX1_mask_48 ?_
    refine lv_lushr (v := (ushrL (-1) ((nI 63) - (y_2 &&& (nI 63))))) hx hb dX1_mask_49 rfl ?_
    refine lv_land hx hb dX1_mask_50 ?_
    subst hQ
    refine W.lret (v := ((shlL (-1) (y_1 &&& (nI 63))) &&& (ushrL (-1) ((nI 63) - (y_2 &&& (nI 63)))))) hx hb hr (fun t ht hW => ⟨((shlL (-1) (y_1 &&& (nI 63))) &&& (ushrL (-1) ((nI 63) - (y_2 &&& (nI 63))))), rfl, ?_, ht⟩) (fun q h => absurd h List.not_mem_nil) dX1_mask_51
    rw [ey_1, ey_2] at c_1 ⊢
    exact (if_pos c_1).symm
  · skip
    refine lv_lconst (v := 0) hx hb dX1_mask_28 rfl ?_
    subst hQ
    refine W.lret (v := 0) hx hb hr (fun t ht hW => ⟨0, rfl, ?_, ht⟩) (fun q h => absurd h List.not_mem_nil) dX1_mask_29
    exact (if_neg (fun z => c_1 (by rw [ey_1, ey_2]; exact z))).symm
