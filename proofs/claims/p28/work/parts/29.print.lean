set_option maxHeartbeats 4000000 in
set_option maxRecDepth 100000 in
theorem k_X3_printPieces (l : Launch) (D : va_G) (T : Nat → ClassId) (h : Int64) (h0 : Nat) (w0 : Nat) (f : Nat → Int64) : Met l yX3_printPieces wsX3_printPieces ({ frames := 5, cells := 0, slots := 0, locals := 116 }) (va_Pc [.long h, .ref h0] (fun U => KS D T U ∧ Num D T U.heap h0 w0 f)) (vp_Sl (fun r => r = (fpP (bitL f) h 16))) 0 0 (fun _ => False) := by
  refine Met.ofW (cc := cX3_printPieces) (maxL := 7) (ret := (some .long)) (by decide) rfl ?_
  intro pg ev s m args below meth c s₁ B hml hv
  obtain ⟨rfl, hK, hH⟩ := hv
  have hx := B.exec
  have hb := B.bytes
  have hr := B.returns
  have hts := atoms_spec (ws := wsX3_printPieces) B.pre
  have hown : s.vm.findClass RX3 = some m.cls := findClass_of_methodNamed B.named
  have hlocks := B.notSynchronized
  have in_wsX10 : ∀ w ∈ wsX10, w ∈ wsX3_printPieces := fun w h => List.mem_cons_of_mem _ (List.mem_append_right _ h)
  have hl := lv_entry ([.long h, .ref h0]) (n := 7) (Nat.le_of_ble_eq_true rfl)
  rw [lg_entry_eq]
  generalize (lg_sl ([.long h, .ref h0]) ++ List.replicate (7 - (lg_sl ([.long h, .ref h0])).length) Slot.unset).toArray = ls at hl ⊢
  have hl : lv_has ls 7 [(0, .long h), (2, .ref h0)] := hl
  refine W_gen (fun Q hQ => ?_)
  have hN := hH
  refine lv_ldc2 hx hb hown (hts (.constantLong RX3 155 (31)) (by decide +kernel)) dX3_printPieces_0 ?_
  refine lv_lload_n hx hb dX3_printPieces_3 rfl (lv_at hl 0 rfl) ?_
  refine lv_lmul hx hb dX3_printPieces_4 ?_
  refine lv_aload_n hx hb dX3_printPieces_5 rfl (lv_at hl 1 rfl) ?_
  refine vp_callSi (va_Run.run (va_runVN (As := []) (rest := [.long (31 * h)]) ⟨hx, hb, hml, hown, hts⟩ (k_X1_count l D T h0 w0 f ) (⟨va_cnB 0 hts ggX3_printPieces_X1_count rfl rfl rfl (hK.2.m (args := ([.long h, .ref h0] : List Value).toArray) 15 rfl) (hts (.initialized RX1) (by decide +kernel)) (by decide +kernel) ⟨Nat.le_of_ble_eq_true rfl, Nat.le_of_ble_eq_true rfl⟩, hts (.instanceMethod yX1_count) (by decide +kernel), hts (.selects RX1 yX1_count yX1_count) (by decide +kernel)⟩) (pre_V (Φ := fun X => Num D T X h0 w0 f) hK (hN.1) rfl hN) rfl rfl hl.1 rfl (lv_room (Nat.le_of_ble_eq_true rfl)) dX3_printPieces_6 ⟨Nat.le_of_ble_eq_true rfl, Nat.le_of_ble_eq_true rfl⟩)) (fun r_1 hr_1 => ?_)
  subst hr_1
  refine lv_i2l (v := ((nI (ct (bitL f) 0 4096)).toInt64)) hx hb dX3_printPieces_9 rfl ?_
  refine lv_ladd hx hb dX3_printPieces_10 ?_
  refine lv_lstore_n (lv' := [(3, .long ((31 * h) + ((nI (ct (bitL f) 0 4096)).toInt64))), (0, .long h), (2, .ref h0)]) hx hb dX3_printPieces_11 rfl hl (by decide) rfl (fun ls hl => ?_)
  refine lv_iconst (v := (nI 0)) hx hb dX3_printPieces_12 (by decide) ?_
  refine lv_istore (lv' := [(5, .int (nI 0)), (3, .long ((31 * h) + ((nI (ct (bitL f) 0 4096)).toInt64))), (0, .long h), (2, .ref h0)]) hx hb dX3_printPieces_13 hl (by decide) rfl (fun ls hl => ?_)
  have loop15 : ∀ (n15 : Nat) (i : Nat) (hi : i ≤ 16) (ls : Array Slot) (hl : lv_has ls 7 [(0, .long h), (2, .ref h0), (3, .long (fpP (bitL f) h i)), (5, .int (nI i))]) (hn15 : 16 - i < n15), W pg l ev (headSpec wsX3_printPieces ({ frames := 5, cells := 0, slots := 0, locals := 116 })).room s m ([.long h, .ref h0] : List Value).toArray below meth c s.heap [] 0 0 Q (F0 m 15 ls []) := by
    intro n15
    induction n15 with
    | zero =>
      intro i hi ls hl hn15
      exact absurd hn15 (Nat.not_lt_zero _)
    | succ n15 ih15 =>
      intro i hi ls hl hn15
      have hc9 := ct_le (bitL f) (256 * i) 256
      refine lv_iload hx hb dX3_printPieces_15 (lv_at hl 3 rfl) ?_
      refine lv_bipush (v := (nI 16)) hx hb dX3_printPieces_17 (by decide) ?_
      refine lv_icmp_ge (tgt := 78) hx hb dX3_printPieces_19 (by decide) (fun c_1 => ?_) (fun c_1 => ?_)
      · skip
        have c_1 : 16 ≤ i := (nI_leI (a := 16) (b := i) (by omega) (by omega)).mp c_1
        refine lv_lload_n hx hb dX3_printPieces_78 rfl (lv_at hl 2 rfl) ?_
        subst hQ
        refine W.lret (v := (fpP (bitL f) h i)) hx hb hr (fun t ht hW => ⟨(fpP (bitL f) h i), rfl, ?_, ht⟩) (fun q h => absurd h List.not_mem_nil) dX3_printPieces_79
        rw [show i = 16 by omega]
      · skip
        have c_1 : ¬ (16 ≤ i) := fun z => c_1 ((nI_leI (a := 16) (b := i) (by omega) (by omega)).mpr z)
        refine lv_aload_n hx hb dX3_printPieces_22 rfl (lv_at hl 1 rfl) ?_
        refine lv_iload hx hb dX3_printPieces_23 (lv_at hl 3 rfl) ?_
        refine vp_callSi (va_Run.run (va_runVN (As := [.int (nI i)]) (rest := []) ⟨hx, hb, hml, hown, hts⟩ (k_X1_countInPiece l D T h0 w0 f i (by omega)) (⟨va_cnB 1 hts ggX3_printPieces_X1_countInPiece rfl rfl rfl (hK.2.m (args := ([.long h, .ref h0] : List Value).toArray) 32 rfl) (hts (.initialized RX1) (by decide +kernel)) (by decide +kernel) ⟨Nat.le_of_ble_eq_true rfl, Nat.le_of_ble_eq_true rfl⟩, hts (.instanceMethod yX1_countInPiece) (by decide +kernel), hts (.selects RX1 yX1_countInPiece yX1_countInPiece) (by decide +kernel)⟩) (pre_V (Φ := fun X => Num D T X h0 w0 f) hK (hN.1) rfl hN) rfl rfl hl.1 rfl (lv_room (Nat.le_of_ble_eq_true rfl)) dX3_printPieces_25 ⟨Nat.le_of_ble_eq_true rfl, Nat.le_of_ble_eq_true rfl⟩)) (fun r_2 hr_2 => ?_)
        subst hr_2
        refine lv_if_le (tgt := 72) hx hb dX3_printPieces_28 (by decide) (fun c_2 => ?_) (fun c_2 => ?_)
        · skip
          have c_2 : (ct (bitL f) (256 * i) 256) = 0 := (nI_le0 (a := (ct (bitL f) (256 * i) 256)) (by omega)).mp c_2
          refine lv_iinc (v := (nI (i + 1))) (lv' := [(5, .int (nI (i + 1))), (0, .long h), (2, .ref h0), (3, .long (fpP (bitL f) h i))]) hx hb dX3_printPieces_72 hl (k := 3) rfl (iinc_n i 1) (by decide) rfl (fun ls hl => ?_)
          refine lv_goto (tgt := 15) hx hb dX3_printPieces_75 (by decide) ?_
          have hl := lv_sub hl (l' := [(0, .long h), (2, .ref h0), (3, .long (fpP (bitL f) h i)), (5, .int (nI (i + 1)))]) [1, 2, 3, 0] rfl
          have q_1 : (fpP (bitL f) h i) = (fpP (bitL f) h (i + 1)) := by first | (rw [show j = 4 by omega]; exact (if_pos (show 0 < pn (bitL f) i by have hz : ¬ ct (bitL f) (256 * i) 256 = 0 := c_2; unfold pn; omega)).symm) | exact (if_neg (show ¬ 0 < pn (bitL f) i by have hz : ct (bitL f) (256 * i) 256 = 0 := c_2; unfold pn; omega)).symm
          have hl : lv_has ls 7 [(0, .long h), (2, .ref h0), (3, .long (fpP (bitL f) h (i + 1))), (5, .int (nI (i + 1)))] := by
            have h := hl
            rw [q_1] at h
            exact h
          exact ih15 (i + 1) (by omega) ls hl (by omega)
        · skip
          have c_2 : ¬ ((ct (bitL f) (256 * i) 256) = 0) := fun z => c_2 ((nI_le0 (a := (ct (bitL f) (256 * i) 256)) (by omega)).mpr z)
          refine lv_ldc2 hx hb hown (hts (.constantLong RX3 155 (31)) (by decide +kernel)) dX3_printPieces_31 ?_
          refine lv_lload_n hx hb dX3_printPieces_34 rfl (lv_at hl 2 rfl) ?_
          refine lv_lmul hx hb dX3_printPieces_35 ?_
          refine lv_iload hx hb dX3_printPieces_36 (lv_at hl 3 rfl) ?_
          refine lv_i2l (v := ((nI i).toInt64)) hx hb dX3_printPieces_38 rfl ?_
          refine lv_ladd hx hb dX3_printPieces_39 ?_
          refine lv_lstore_n (lv' := [(3, .long ((31 * (fpP (bitL f) h i)) + ((nI i).toInt64))), (0, .long h), (2, .ref h0), (5, .int (nI i))]) hx hb dX3_printPieces_40 rfl hl (by decide) rfl (fun ls hl => ?_)
          refine lv_iconst (v := (nI 0)) hx hb dX3_printPieces_41 (by decide) ?_
          refine lv_istore (lv' := [(6, .int (nI 0)), (3, .long ((31 * (fpP (bitL f) h i)) + ((nI i).toInt64))), (0, .long h), (2, .ref h0), (5, .int (nI i))]) hx hb dX3_printPieces_42 hl (by decide) rfl (fun ls hl => ?_)
          have loop44 : ∀ (n44 : Nat) (j : Nat) (hj : j ≤ 4) (ls : Array Slot) (hl : lv_has ls 7 [(0, .long h), (2, .ref h0), (3, .long (fp4 (bitL f) i (mx (fpP (bitL f) h i) (nI i).toInt64) j)), (5, .int (nI i)), (6, .int (nI j))]) (hn44 : 4 - j < n44), W pg l ev (headSpec wsX3_printPieces ({ frames := 5, cells := 0, slots := 0, locals := 116 })).room s m ([.long h, .ref h0] : List Value).toArray below meth c s.heap [] 0 0 Q (F0 m 44 ls []) := by
            intro n44
            induction n44 with
            | zero =>
              intro j hj ls hl hn44
              exact absurd hn44 (Nat.not_lt_zero _)
            | succ n44 ih44 =>
              intro j hj ls hl hn44
              refine lv_iload hx hb dX3_printPieces_44 (lv_at hl 4 rfl) ?_
              refine lv_iconst (v := (nI 4)) hx hb dX3_printPieces_46 (by decide) ?_
              refine lv_icmp_ge (tgt := 72) hx hb dX3_printPieces_47 (by decide) (fun c_3 => ?_) (fun c_3 => ?_)
              · skip
                have c_3 : 4 ≤ j := (nI_leI (a := 4) (b := j) (by omega) (by omega)).mp c_3
                refine lv_iinc (v := (nI (i + 1))) (lv' := [(5, .int (nI (i + 1))), (0, .long h), (2, .ref h0), (3, .long (fp4 (bitL f) i (mx (fpP (bitL f) h i) (nI i).toInt64) j)), (6, .int (nI j))]) hx hb dX3_printPieces_72 hl (k := 3) rfl (iinc_n i 1) (by decide) rfl (fun ls hl => ?_)
                refine lv_goto (tgt := 15) hx hb dX3_printPieces_75 (by decide) ?_
                have hl := lv_sub hl (l' := [(0, .long h), (2, .ref h0), (3, .long (fp4 (bitL f) i (mx (fpP (bitL f) h i) (nI i).toInt64) j)), (5, .int (nI (i + 1)))]) [1, 2, 3, 0] rfl
                have q_1 : (fp4 (bitL f) i (mx (fpP (bitL f) h i) (nI i).toInt64) j) = (fpP (bitL f) h (i + 1)) := by first | (rw [show j = 4 by omega]; exact (if_pos (show 0 < pn (bitL f) i by have hz : ¬ ct (bitL f) (256 * i) 256 = 0 := c_2; unfold pn; omega)).symm) | exact (if_neg (show ¬ 0 < pn (bitL f) i by have hz : ct (bitL f) (256 * i) 256 = 0 := c_2; unfold pn; omega)).symm
                have hl : lv_has ls 7 [(0, .long h), (2, .ref h0), (3, .long (fpP (bitL f) h (i + 1))), (5, .int (nI (i + 1)))] := by
                  have h := hl
                  rw [q_1] at h
                  exact h
                exact ih15 (i + 1) (by omega) ls hl (by omega)
              · skip
                have c_3 : ¬ (4 ≤ j) := fun z => c_3 ((nI_leI (a := 4) (b := j) (by omega) (by omega)).mpr z)
                refine lv_ldc2 hx hb hown (hts (.constantLong RX3 155 (31)) (by decide +kernel)) dX3_printPieces_50 ?_
                refine lv_lload_n hx hb dX3_printPieces_53 rfl (lv_at hl 2 rfl) ?_
                refine lv_lmul hx hb dX3_printPieces_54 ?_
                refine lv_aload_n hx hb dX3_printPieces_55 rfl (lv_at hl 1 rfl) ?_
                refine lv_iload hx hb dX3_printPieces_56 (lv_at hl 3 rfl) ?_
                refine lv_iload hx hb dX3_printPieces_58 (lv_at hl 4 rfl) ?_
                refine vp_callSi (va_Run.run (va_runVN (As := [.int (nI i), .int (nI j)]) (rest := [.long (31 * (fp4 (bitL f) i (mx (fpP (bitL f) h i) (nI i).toInt64) j))]) ⟨hx, hb, hml, hown, hts⟩ (k_X1_detail l D T h0 w0 f i (nI j) (by omega)) (⟨va_cnB 2 hts ggX3_printPieces_X1_detail rfl rfl rfl (hK.2.m (args := ([.long h, .ref h0] : List Value).toArray) 33 rfl) (hts (.initialized RX1) (by decide +kernel)) (by decide +kernel) ⟨Nat.le_of_ble_eq_true rfl, Nat.le_of_ble_eq_true rfl⟩, hts (.instanceMethod yX1_detail) (by decide +kernel), hts (.selects RX1 yX1_detail yX1_detail) (by decide +kernel)⟩) (pre_V (Φ := fun X => Num D T X h0 w0 f) hK (hN.1) rfl hN) rfl rfl hl.1 rfl (lv_room (Nat.le_of_ble_eq_true rfl)) dX3_printPieces_60 ⟨Nat.le_of_ble_eq_true rfl, Nat.le_of_ble_eq_true rfl⟩)) (fun r_3 hr_3 => ?_)
                subst hr_3
                refine lv_i2l (v := ((det (bitL f) i (nI j)).toInt64)) hx hb dX3_printPieces_63 rfl ?_
                refine lv_ladd hx hb dX3_printPieces_64 ?_
                refine lv_lstore_n (lv' := [(3, .long ((31 * (fp4 (bitL f) i (mx (fpP (bitL f) h i) (nI i).toInt64) j)) + ((det (bitL f) i (nI j)).toInt64))), (0, .long h), (2, .ref h0), (5, .int (nI i)), (6, .int (nI j))]) hx hb dX3_printPieces_65 rfl hl (by decide) rfl (fun ls hl => ?_)
                refine lv_iinc (v := (nI (j + 1))) (lv' := [(6, .int (nI (j + 1))), (3, .long ((31 * (fp4 (bitL f) i (mx (fpP (bitL f) h i) (nI i).toInt64) j)) + ((det (bitL f) i (nI j)).toInt64))), (0, .long h), (2, .ref h0), (5, .int (nI i))]) hx hb dX3_printPieces_66 hl (k := 4) rfl (iinc_n j 1) (by decide) rfl (fun ls hl => ?_)
                refine lv_goto (tgt := 44) hx hb dX3_printPieces_69 (by decide) ?_
                have hl := lv_sub hl (l' := [(0, .long h), (2, .ref h0), (3, .long ((31 * (fp4 (bitL f) i (mx (fpP (bitL f) h i) (nI i).toInt64) j)) + ((det (bitL f) i (nI j)).toInt64))), (5, .int (nI i)), (6, .int (nI (j + 1)))]) [2, 3, 1, 4, 0] rfl
                have q_1 : ((31 * (fp4 (bitL f) i (mx (fpP (bitL f) h i) (nI i).toInt64) j)) + ((det (bitL f) i (nI j)).toInt64)) = (fp4 (bitL f) i (mx (fpP (bitL f) h i) (nI i).toInt64) (j + 1)) := rfl
                have hl : lv_has ls 7 [(0, .long h), (2, .ref h0), (3, .long (fp4 (bitL f) i (mx (fpP (bitL f) h i) (nI i).toInt64) (j + 1))), (5, .int (nI i)), (6, .int (nI (j + 1)))] := by
                  have h := hl
                  rw [q_1] at h
                  exact h
                exact ih44 (j + 1) (by omega) ls hl (by omega)
          have hl := lv_sub hl (l' := [(0, .long h), (2, .ref h0), (3, .long ((31 * (fpP (bitL f) h i)) + ((nI i).toInt64))), (5, .int (nI i)), (6, .int (nI 0))]) [2, 3, 1, 4, 0] rfl
          have q_1 : ((31 * (fpP (bitL f) h i)) + ((nI i).toInt64)) = (fp4 (bitL f) i (mx (fpP (bitL f) h i) (nI i).toInt64) 0) := rfl
          have hl : lv_has ls 7 [(0, .long h), (2, .ref h0), (3, .long (fp4 (bitL f) i (mx (fpP (bitL f) h i) (nI i).toInt64) 0)), (5, .int (nI i)), (6, .int (nI 0))] := by
            have h := hl
            rw [q_1] at h
            exact h
          exact loop44 (4 - 0 + 1) 0 (Nat.zero_le _) ls hl (Nat.lt_succ_self _)
  have hl := lv_sub hl (l' := [(0, .long h), (2, .ref h0), (3, .long ((31 * h) + ((nI (ct (bitL f) 0 4096)).toInt64))), (5, .int (nI 0))]) [2, 3, 1, 0] rfl
  have q_1 : ((31 * h) + ((nI (ct (bitL f) 0 4096)).toInt64)) = (fpP (bitL f) h 0) := rfl
  have hl : lv_has ls 7 [(0, .long h), (2, .ref h0), (3, .long (fpP (bitL f) h 0)), (5, .int (nI 0))] := by
    have h := hl
    rw [q_1] at h
    exact h
  exact loop15 (16 - 0 + 1) 0 (Nat.zero_le _) ls hl (Nat.lt_succ_self _)
set_option maxHeartbeats 4000000 in
set_option maxRecDepth 100000 in
theorem k_X3_printNumbers (l : Launch) (D : va_G) (T : Nat → ClassId) (h : Int64) (h0 : Nat) (w0 : Nat) (f : Nat → Int64) : Met l yX3_printNumbers wsX3_printNumbers ({ frames := 0, cells := 0, slots := 0, locals := 0 }) (va_Pc [.long h, .ref h0] (fun U => KS D T U ∧ Num D T U.heap h0 w0 f)) (vp_Sl (fun r => r = (fpX (bitL f) h 4096))) 0 0 (fun _ => False) := by
  refine Met.ofW (cc := cX3_printNumbers) (maxL := 9) (ret := (some .long)) (by decide) rfl ?_
  intro pg ev s m args below meth c s₁ B hml hv
  obtain ⟨rfl, hK, hH⟩ := hv
  have hx := B.exec
  have hb := B.bytes
  have hr := B.returns
  have hts := atoms_spec (ws := wsX3_printNumbers) B.pre
  have hown : s.vm.findClass RX3 = some m.cls := findClass_of_methodNamed B.named
  have hlocks := B.notSynchronized
  have in_wsX10 : ∀ w ∈ wsX10, w ∈ wsX3_printNumbers := fun w h => List.mem_cons_of_mem _ (List.mem_append_right _ h)
  have hl := lv_entry ([.long h, .ref h0]) (n := 9) (Nat.le_of_ble_eq_true rfl)
  rw [lg_entry_eq]
  generalize (lg_sl ([.long h, .ref h0]) ++ List.replicate (9 - (lg_sl ([.long h, .ref h0])).length) Slot.unset).toArray = ls at hl ⊢
  have hl : lv_has ls 9 [(0, .long h), (2, .ref h0)] := hl
  refine W_gen (fun Q hQ => ?_)
  have hN := hH
  refine lv_lload_n hx hb dX3_printNumbers_0 rfl (lv_at hl 0 rfl) ?_
  refine lv_lstore_n (lv' := [(3, .long h), (0, .long h), (2, .ref h0)]) hx hb dX3_printNumbers_1 rfl hl (by decide) rfl (fun ls hl => ?_)
  refine lv_iconst (v := (nI 0)) hx hb dX3_printNumbers_2 (by decide) ?_
  refine lv_istore (lv' := [(5, .int (nI 0)), (3, .long h), (0, .long h), (2, .ref h0)]) hx hb dX3_printNumbers_3 hl (by decide) rfl (fun ls hl => ?_)
  have loop5 : ∀ (n5 : Nat) (i : Nat) (hi : i ≤ 64) (ls : Array Slot) (hl : lv_has ls 9 [(0, .long h), (2, .ref h0), (3, .long (fpX (bitL f) h (64 * i))), (5, .int (nI i))]) (hn5 : 64 - i < n5), W pg l ev (headSpec wsX3_printNumbers ({ frames := 0, cells := 0, slots := 0, locals := 0 })).room s m ([.long h, .ref h0] : List Value).toArray below meth c s.heap [] 0 0 Q (F0 m 5 ls []) := by
    intro n5
    induction n5 with
    | zero =>
      intro i hi ls hl hn5
      exact absurd hn5 (Nat.not_lt_zero _)
    | succ n5 ih5 =>
      intro i hi ls hl hn5
      refine lv_iload hx hb dX3_printNumbers_5 (lv_at hl 3 rfl) ?_
      refine lv_bipush (v := (nI 64)) hx hb dX3_printNumbers_7 (by decide) ?_
      refine lv_icmp_ge (tgt := 79) hx hb dX3_printNumbers_9 (by decide) (fun c_1 => ?_) (fun c_1 => ?_)
      · skip
        have c_1 : 64 ≤ i := (nI_leI (a := 64) (b := i) (by omega) (by omega)).mp c_1
        refine lv_lload_n hx hb dX3_printNumbers_79 rfl (lv_at hl 2 rfl) ?_
        subst hQ
        refine W.lret (v := (fpX (bitL f) h (64 * i))) hx hb hr (fun t ht hW => ⟨(fpX (bitL f) h (64 * i)), rfl, ?_, ht⟩) (fun q h => absurd h List.not_mem_nil) dX3_printNumbers_80
        rw [show 4096 = 64 * i by omega]
      · skip
        have c_1 : ¬ (64 ≤ i) := fun z => c_1 ((nI_leI (a := 64) (b := i) (by omega) (by omega)).mpr z)
        refine lv_aload_n hx hb dX3_printNumbers_12 rfl (lv_at hl 1 rfl) ?_
        refine r_getN (C := RX1) (Tb := TX1) (N := 1) (host := "PieceSets") hx hb hts in_wsX10 hown hK (hN.1) rfl 0 (by decide) (hK.2.f (args := ([.long h, .ref h0] : List Value).toArray) 2 rfl) rfl (v := .ref w0) rfl dX3_printNumbers_13 ?_
        refine lv_iload hx hb dX3_printNumbers_16 (lv_at hl 3 rfl) ?_
        refine r_lald hx hb hK (hN.2) (i := i) (by omega) (by decide) dX3_printNumbers_18 ?_
        refine lv_lstore (lv' := [(6, .long (f i)), (0, .long h), (2, .ref h0), (3, .long (fpX (bitL f) h (64 * i))), (5, .int (nI i))]) hx hb dX3_printNumbers_19 hl (by decide) rfl (fun ls hl => ?_)
        refine lv_iconst (v := (nI 0)) hx hb dX3_printNumbers_21 (by decide) ?_
        refine lv_istore (lv' := [(8, .int (nI 0)), (6, .long (f i)), (0, .long h), (2, .ref h0), (3, .long (fpX (bitL f) h (64 * i))), (5, .int (nI i))]) hx hb dX3_printNumbers_22 hl (by decide) rfl (fun ls hl => ?_)
        have loop24 : ∀ (n24 : Nat) (j : Nat) (hj : j ≤ 64) (ls : Array Slot) (hl : lv_has ls 9 [(0, .long h), (2, .ref h0), (3, .long (fpX (bitL f) h (64 * i + j))), (5, .int (nI i)), (6, .long (f i)), (8, .int (nI j))]) (hn24 : 64 - j < n24), W pg l ev (headSpec wsX3_printNumbers ({ frames := 0, cells := 0, slots := 0, locals := 0 })).room s m ([.long h, .ref h0] : List Value).toArray below meth c s.heap [] 0 0 Q (F0 m 24 ls []) := by
          intro n24
          induction n24 with
          | zero =>
            intro j hj ls hl hn24
            exact absurd hn24 (Nat.not_lt_zero _)
          | succ n24 ih24 =>
            intro j hj ls hl hn24
            refine lv_iload hx hb dX3_printNumbers_24 (lv_at hl 5 rfl) ?_
            refine lv_bipush (v := (nI 64)) hx hb dX3_printNumbers_26 (by decide) ?_
            refine lv_icmp_ge (tgt := 73) hx hb dX3_printNumbers_28 (by decide) (fun c_2 => ?_) (fun c_2 => ?_)
            · skip
              have c_2 : 64 ≤ j := (nI_leI (a := 64) (b := j) (by omega) (by omega)).mp c_2
              refine lv_iinc (v := (nI (i + 1))) (lv' := [(5, .int (nI (i + 1))), (0, .long h), (2, .ref h0), (3, .long (fpX (bitL f) h (64 * i + j))), (6, .long (f i)), (8, .int (nI j))]) hx hb dX3_printNumbers_73 hl (k := 3) rfl (iinc_n i 1) (by decide) rfl (fun ls hl => ?_)
              refine lv_goto (tgt := 5) hx hb dX3_printNumbers_76 (by decide) ?_
              have hl := lv_sub hl (l' := [(0, .long h), (2, .ref h0), (3, .long (fpX (bitL f) h (64 * i + j))), (5, .int (nI (i + 1)))]) [1, 2, 3, 0] rfl
              have q_1 : (fpX (bitL f) h (64 * i + j)) = (fpX (bitL f) h (64 * (i + 1))) := by first | rw [show 64 * (i + 1) = 64 * i + j by omega] | (rw [show 64 * (i + 1) = 64 * i + j + (64 - j) by omega]; exact (fpX_skip (64 - j) (fun z hz => by rw [show 64 * i + j + z = 64 * i + (j + z) by omega, bitL_lb f i (by omega), lcmp_00 c_3, lb_0])).symm)
              have hl : lv_has ls 9 [(0, .long h), (2, .ref h0), (3, .long (fpX (bitL f) h (64 * (i + 1)))), (5, .int (nI (i + 1)))] := by
                have h := hl
                rw [q_1] at h
                exact h
              exact ih5 (i + 1) (by omega) ls hl (by omega)
            · skip
              have c_2 : ¬ (64 ≤ j) := fun z => c_2 ((nI_leI (a := 64) (b := j) (by omega) (by omega)).mpr z)
              refine lv_lload hx hb dX3_printNumbers_31 (lv_at hl 4 rfl) ?_
              refine lv_lconst (v := 0) hx hb dX3_printNumbers_33 rfl ?_
              refine W.lcmp hx hb dX3_printNumbers_34 ?_
              refine lv_if_eq (tgt := 73) hx hb dX3_printNumbers_35 (by decide) (fun c_3 => ?_) (fun c_3 => ?_)
              · skip
                refine lv_iinc (v := (nI (i + 1))) (lv' := [(5, .int (nI (i + 1))), (0, .long h), (2, .ref h0), (3, .long (fpX (bitL f) h (64 * i + j))), (6, .long (f i)), (8, .int (nI j))]) hx hb dX3_printNumbers_73 hl (k := 3) rfl (iinc_n i 1) (by decide) rfl (fun ls hl => ?_)
                refine lv_goto (tgt := 5) hx hb dX3_printNumbers_76 (by decide) ?_
                have hl := lv_sub hl (l' := [(0, .long h), (2, .ref h0), (3, .long (fpX (bitL f) h (64 * i + j))), (5, .int (nI (i + 1)))]) [1, 2, 3, 0] rfl
                have q_1 : (fpX (bitL f) h (64 * i + j)) = (fpX (bitL f) h (64 * (i + 1))) := by first | rw [show 64 * (i + 1) = 64 * i + j by omega] | (rw [show 64 * (i + 1) = 64 * i + j + (64 - j) by omega]; exact (fpX_skip (64 - j) (fun z hz => by rw [show 64 * i + j + z = 64 * i + (j + z) by omega, bitL_lb f i (by omega), lcmp_00 c_3, lb_0])).symm)
                have hl : lv_has ls 9 [(0, .long h), (2, .ref h0), (3, .long (fpX (bitL f) h (64 * (i + 1)))), (5, .int (nI (i + 1)))] := by
                  have h := hl
                  rw [q_1] at h
                  exact h
                exact ih5 (i + 1) (by omega) ls hl (by omega)
              · skip
                refine lv_lload hx hb dX3_printNumbers_38 (lv_at hl 4 rfl) ?_
                refine lv_iload hx hb dX3_printNumbers_40 (lv_at hl 5 rfl) ?_
                refine lv_lushr (v := (ushrL (f i) (nI j))) hx hb dX3_printNumbers_42 rfl ?_
                refine lv_lconst (v := 1) hx hb dX3_printNumbers_43 rfl ?_
                refine lv_land hx hb dX3_printNumbers_44 ?_
                refine lv_lconst (v := 0) hx hb dX3_printNumbers_45 rfl ?_
                refine W.lcmp hx hb dX3_printNumbers_46 ?_
                refine top_i (x' := (b2i (lb (f i) j))) (lcmp_bit _ (by omega)) ?_
                refine lv_if_eq (tgt := 67) hx hb dX3_printNumbers_47 (by decide) (fun c_4 => ?_) (fun c_4 => ?_)
                · skip
                  have c_4 : lb (f i) j = false := b2i_0.mp c_4
                  refine lv_iinc (v := (nI (j + 1))) (lv' := [(8, .int (nI (j + 1))), (0, .long h), (2, .ref h0), (3, .long (fpX (bitL f) h (64 * i + j))), (5, .int (nI i)), (6, .long (f i))]) hx hb dX3_printNumbers_67 hl (k := 5) rfl (iinc_n j 1) (by decide) rfl (fun ls hl => ?_)
                  refine lv_goto (tgt := 24) hx hb dX3_printNumbers_70 (by decide) ?_
                  have hl := lv_sub hl (l' := [(0, .long h), (2, .ref h0), (3, .long (fpX (bitL f) h (64 * i + j))), (5, .int (nI i)), (6, .long (f i)), (8, .int (nI (j + 1)))]) [1, 2, 3, 4, 5, 0] rfl
                  have q_1 : (fpX (bitL f) h (64 * i + j)) = (fpX (bitL f) h (64 * i + (j + 1))) := by first | exact (if_pos ((bitL_lb f i (by omega)).trans c_4)).symm | exact (if_neg (fun z => Bool.false_ne_true ((((bitL_lb f i (by omega)).trans c_4).symm).trans z))).symm
                  have hl : lv_has ls 9 [(0, .long h), (2, .ref h0), (3, .long (fpX (bitL f) h (64 * i + (j + 1)))), (5, .int (nI i)), (6, .long (f i)), (8, .int (nI (j + 1)))] := by
                    have h := hl
                    rw [q_1] at h
                    exact h
                  exact ih24 (j + 1) (by omega) ls hl (by omega)
                · skip
                  have c_4 : lb (f i) j = true := b2i_n0.mp c_4
                  refine lv_ldc2 hx hb hown (hts (.constantLong RX3 155 (31)) (by decide +kernel)) dX3_printNumbers_50 ?_
                  refine lv_lload_n hx hb dX3_printNumbers_53 rfl (lv_at hl 2 rfl) ?_
                  refine lv_lmul hx hb dX3_printNumbers_54 ?_
                  refine lv_bipush (v := (nI 64)) hx hb dX3_printNumbers_55 (by decide) ?_
                  refine lv_iload hx hb dX3_printNumbers_57 (lv_at hl 3 rfl) ?_
                  refine lv_imul hx hb dX3_printNumbers_59 ?_
                  refine top_i (pk_mul 64 i) ?_
                  refine lv_i2l (v := ((nI (64 * i)).toInt64)) hx hb dX3_printNumbers_60 rfl ?_
                  refine lv_ladd hx hb dX3_printNumbers_61 ?_
                  refine lv_iload hx hb dX3_printNumbers_62 (lv_at hl 5 rfl) ?_
                  refine lv_i2l (v := ((nI j).toInt64)) hx hb dX3_printNumbers_64 rfl ?_
                  refine lv_ladd hx hb dX3_printNumbers_65 ?_
                  refine top_l (x' := (mx (fpX (bitL f) h (64 * i + j)) (nI (64 * i + j)).toInt64)) (mx_add (by omega)) ?_
                  refine lv_lstore_n (lv' := [(3, .long (mx (fpX (bitL f) h (64 * i + j)) (nI (64 * i + j)).toInt64)), (0, .long h), (2, .ref h0), (5, .int (nI i)), (6, .long (f i)), (8, .int (nI j))]) hx hb dX3_printNumbers_66 rfl hl (by decide) rfl (fun ls hl => ?_)
                  refine lv_iinc (v := (nI (j + 1))) (lv' := [(8, .int (nI (j + 1))), (3, .long (mx (fpX (bitL f) h (64 * i + j)) (nI (64 * i + j)).toInt64)), (0, .long h), (2, .ref h0), (5, .int (nI i)), (6, .long (f i))]) hx hb dX3_printNumbers_67 hl (k := 5) rfl (iinc_n j 1) (by decide) rfl (fun ls hl => ?_)
                  refine lv_goto (tgt := 24) hx hb dX3_printNumbers_70 (by decide) ?_
                  have hl := lv_sub hl (l' := [(0, .long h), (2, .ref h0), (3, .long (mx (fpX (bitL f) h (64 * i + j)) (nI (64 * i + j)).toInt64)), (5, .int (nI i)), (6, .long (f i)), (8, .int (nI (j + 1)))]) [2, 3, 1, 4, 5, 0] rfl
                  have q_1 : (mx (fpX (bitL f) h (64 * i + j)) (nI (64 * i + j)).toInt64) = (fpX (bitL f) h (64 * i + (j + 1))) := by first | exact (if_pos ((bitL_lb f i (by omega)).trans c_4)).symm | exact (if_neg (fun z => Bool.false_ne_true ((((bitL_lb f i (by omega)).trans c_4).symm).trans z))).symm
                  have hl : lv_has ls 9 [(0, .long h), (2, .ref h0), (3, .long (fpX (bitL f) h (64 * i + (j + 1)))), (5, .int (nI i)), (6, .long (f i)), (8, .int (nI (j + 1)))] := by
                    have h := hl
                    rw [q_1] at h
                    exact h
                  exact ih24 (j + 1) (by omega) ls hl (by omega)
        have hl := lv_sub hl (l' := [(0, .long h), (2, .ref h0), (3, .long (fpX (bitL f) h (64 * i))), (5, .int (nI i)), (6, .long (f i)), (8, .int (nI 0))]) [2, 3, 4, 5, 1, 0] rfl
        have q_1 : (fpX (bitL f) h (64 * i)) = (fpX (bitL f) h (64 * i + 0)) := rfl
        have hl : lv_has ls 9 [(0, .long h), (2, .ref h0), (3, .long (fpX (bitL f) h (64 * i + 0))), (5, .int (nI i)), (6, .long (f i)), (8, .int (nI 0))] := by
          have h := hl
          rw [q_1] at h
          exact h
        exact loop24 (64 - 0 + 1) 0 (Nat.zero_le _) ls hl (Nat.lt_succ_self _)
  have hl := lv_sub hl (l' := [(0, .long h), (2, .ref h0), (3, .long h), (5, .int (nI 0))]) [2, 3, 1, 0] rfl
  have q_1 : h = (fpX (bitL f) h (64 * 0)) := rfl
  have hl : lv_has ls 9 [(0, .long h), (2, .ref h0), (3, .long (fpX (bitL f) h (64 * 0))), (5, .int (nI 0))] := by
    have h := hl
    rw [q_1] at h
    exact h
  exact loop5 (64 - 0 + 1) 0 (Nat.zero_le _) ls hl (Nat.lt_succ_self _)
set_option maxHeartbeats 4000000 in
set_option maxRecDepth 100000 in
theorem k_X3_fingerprint (l : Launch) (D : va_G) (T : Nat → ClassId) (A : Nat → Nat) (Sx : Nat → Prop) (fi : FS) : Met l yX3_fingerprint wsX3_fingerprint ({ frames := 6, cells := 0, slots := 0, locals := 142 }) (va_Pc [.ref (A 0)] (fun U => KS D T U ∧ PSE D T U.heap A Sx fi)) (vp_Sl (fun r => r = (finR fi))) 0 0 (fun _ => False) := by
  refine Met.ofW (cc := cX3_fingerprint) (maxL := 4) (ret := (some .long)) (by decide) rfl ?_
  intro pg ev s m args below meth c s₁ B hml hv
  obtain ⟨rfl, hK, hH⟩ := hv
  have hx := B.exec
  have hb := B.bytes
  have hr := B.returns
  have hts := atoms_spec (ws := wsX3_fingerprint) B.pre
  have hown : s.vm.findClass RX3 = some m.cls := findClass_of_methodNamed B.named
  have hlocks := B.notSynchronized
  have in_wsX30 : ∀ w ∈ wsX30, w ∈ wsX3_fingerprint := fun w h => List.mem_cons_of_mem _ (List.mem_append_left _ (List.mem_append_left _ (List.mem_append_right _ h)))
  have in_wsX20 : ∀ w ∈ wsX20, w ∈ wsX3_fingerprint := fun w h => List.mem_cons_of_mem _ (List.mem_append_left _ (List.mem_append_right _ h))
  have in_wsX10 : ∀ w ∈ wsX10, w ∈ wsX3_fingerprint := fun w h => List.mem_cons_of_mem _ (List.mem_append_right _ h)
  have hl := lv_entry ([.ref (A 0)]) (n := 4) (Nat.le_of_ble_eq_true rfl)
  rw [lg_entry_eq]
  generalize (lg_sl ([.ref (A 0)]) ++ List.replicate (4 - (lg_sl ([.ref (A 0)])).length) Slot.unset).toArray = ls at hl ⊢
  have hl : lv_has ls 4 [(0, .ref (A 0))] := hl
  refine W_gen (fun Q hQ => ?_)
  obtain ⟨W0, me, co, sc, hP, hSx, hrb, hbl, hk5, hR0, hRh⟩ := id hH
  refine lv_ldc2 hx hb hown (hts (.constantLong RX3 149 (163)) (by decide +kernel)) dX3_fingerprint_0 ?_
  refine lv_lstore_n (lv' := [(1, .long 163), (0, .ref (A 0))]) hx hb dX3_fingerprint_3 rfl hl (by decide) rfl (fun ls hl => ?_)
  refine lv_iconst (v := (nI 0)) hx hb dX3_fingerprint_4 (by decide) ?_
  refine lv_istore_n (lv' := [(3, .int (nI 0)), (1, .long 163), (0, .ref (A 0))]) hx hb dX3_fingerprint_5 rfl hl (by decide) rfl (fun ls hl => ?_)
  have loop6 : ∀ (n6 : Nat) (i : Nat) (hi : i ≤ 6) (ls : Array Slot) (hl : lv_has ls 4 [(0, .ref (A 0)), (1, .long (fpS fi.1.1 i)), (3, .int (nI i))]) (hn6 : 6 - i < n6), W pg l ev (headSpec wsX3_fingerprint ({ frames := 6, cells := 0, slots := 0, locals := 142 })).room s m ([.ref (A 0)] : List Value).toArray below meth c s.heap [] 0 0 Q (F0 m 6 ls []) := by
    intro n6
    induction n6 with
    | zero =>
      intro i hi ls hl hn6
      exact absurd hn6 (Nat.not_lt_zero _)
    | succ n6 ih6 =>
      intro i hi ls hl hn6
      refine lv_iload_n hx hb dX3_fingerprint_6 rfl (lv_at hl 2 rfl) ?_
      refine lv_bipush (v := (nI 6)) hx hb dX3_fingerprint_7 (by decide) ?_
      refine lv_icmp_ge (tgt := 32) hx hb dX3_fingerprint_9 (by decide) (fun c_1 => ?_) (fun c_1 => ?_)
      · skip
        have c_1 : 6 ≤ i := (nI_leI (a := 6) (b := i) (by omega) (by omega)).mp c_1
        refine lv_iconst (v := (nI 0)) hx hb dX3_fingerprint_32 (by decide) ?_
        refine lv_istore_n (lv' := [(3, .int (nI 0)), (0, .ref (A 0)), (1, .long (fpS fi.1.1 i))]) hx hb dX3_fingerprint_33 rfl hl (by decide) rfl (fun ls hl => ?_)
        have loop34 : ∀ (n34 : Nat) (i : Nat) (hi : i ≤ 9) (ls : Array Slot) (hl : lv_has ls 4 [(0, .ref (A 0)), (1, .long (fpM fi.1.2.1 (fpS fi.1.1 6) i)), (3, .int (nI i))]) (hn34 : 9 - i < n34), W pg l ev (headSpec wsX3_fingerprint ({ frames := 6, cells := 0, slots := 0, locals := 142 })).room s m ([.ref (A 0)] : List Value).toArray below meth c s.heap [] 0 0 Q (F0 m 34 ls []) := by
          intro n34
          induction n34 with
          | zero =>
            intro i hi ls hl hn34
            exact absurd hn34 (Nat.not_lt_zero _)
          | succ n34 ih34 =>
            intro i hi ls hl hn34
            refine lv_iload_n hx hb dX3_fingerprint_34 rfl (lv_at hl 2 rfl) ?_
            refine lv_bipush (v := (nI 9)) hx hb dX3_fingerprint_35 (by decide) ?_
            refine lv_icmp_ge (tgt := 63) hx hb dX3_fingerprint_37 (by decide) (fun c_2 => ?_) (fun c_2 => ?_)
            · skip
              have c_2 : 9 ≤ i := (nI_leI (a := 9) (b := i) (by omega) (by omega)).mp c_2
              refine lv_iconst (v := (nI 0)) hx hb dX3_fingerprint_63 (by decide) ?_
              refine lv_istore_n (lv' := [(3, .int (nI 0)), (0, .ref (A 0)), (1, .long (fpM fi.1.2.1 (fpS fi.1.1 6) i))]) hx hb dX3_fingerprint_64 rfl hl (by decide) rfl (fun ls hl => ?_)
              have loop65 : ∀ (n65 : Nat) (i : Nat) (hi : i ≤ 9) (ls : Array Slot) (hl : lv_has ls 4 [(0, .ref (A 0)), (1, .long (fpC fi.1.2.2 (fpM fi.1.2.1 (fpS fi.1.1 6) 9) i)), (3, .int (nI i))]) (hn65 : 9 - i < n65), W pg l ev (headSpec wsX3_fingerprint ({ frames := 6, cells := 0, slots := 0, locals := 142 })).room s m ([.ref (A 0)] : List Value).toArray below meth c s.heap [] 0 0 Q (F0 m 65 ls []) := by
                intro n65
                induction n65 with
                | zero =>
                  intro i hi ls hl hn65
                  exact absurd hn65 (Nat.not_lt_zero _)
                | succ n65 ih65 =>
                  intro i hi ls hl hn65
                  refine lv_iload_n hx hb dX3_fingerprint_65 rfl (lv_at hl 2 rfl) ?_
                  refine lv_bipush (v := (nI 9)) hx hb dX3_fingerprint_66 (by decide) ?_
                  refine lv_icmp_ge (tgt := 103) hx hb dX3_fingerprint_68 (by decide) (fun c_3 => ?_) (fun c_3 => ?_)
                  · skip
                    have c_3 : 9 ≤ i := (nI_leI (a := 9) (b := i) (by omega) (by omega)).mp c_3
                    refine lv_iconst (v := (nI 0)) hx hb dX3_fingerprint_103 (by decide) ?_
                    refine lv_istore_n (lv' := [(3, .int (nI 0)), (0, .ref (A 0)), (1, .long (fpC fi.1.2.2 (fpM fi.1.2.1 (fpS fi.1.1 6) 9) i))]) hx hb dX3_fingerprint_104 rfl hl (by decide) rfl (fun ls hl => ?_)
                    have loop105 : ∀ (n105 : Nat) (i : Nat) (hi : i ≤ 6) (ls : Array Slot) (hl : lv_has ls 4 [(0, .ref (A 0)), (1, .long (fpN fi.1.1 (fpC fi.1.2.2 (fpM fi.1.2.1 (fpS fi.1.1 6) 9) 9) i)), (3, .int (nI i))]) (hn105 : 6 - i < n105), W pg l ev (headSpec wsX3_fingerprint ({ frames := 6, cells := 0, slots := 0, locals := 142 })).room s m ([.ref (A 0)] : List Value).toArray below meth c s.heap [] 0 0 Q (F0 m 105 ls []) := by
                      intro n105
                      induction n105 with
                      | zero =>
                        intro i hi ls hl hn105
                        exact absurd hn105 (Nat.not_lt_zero _)
                      | succ n105 ih105 =>
                        intro i hi ls hl hn105
                        refine lv_iload_n hx hb dX3_fingerprint_105 rfl (lv_at hl 2 rfl) ?_
                        refine lv_bipush (v := (nI 6)) hx hb dX3_fingerprint_106 (by decide) ?_
                        refine lv_icmp_ge (tgt := 131) hx hb dX3_fingerprint_108 (by decide) (fun c_4 => ?_) (fun c_4 => ?_)
                        · skip
                          have c_4 : 6 ≤ i := (nI_leI (a := 6) (b := i) (by omega) (by omega)).mp c_4
                          refine lv_lload_n hx hb dX3_fingerprint_131 rfl (lv_at hl 1 rfl) ?_
                          subst hQ
                          refine W.lret (v := (fpN fi.1.1 (fpC fi.1.2.2 (fpM fi.1.2.1 (fpS fi.1.1 6) 9) 9) i)) hx hb hr (fun t ht hW => ⟨(fpN fi.1.1 (fpC fi.1.2.2 (fpM fi.1.2.1 (fpS fi.1.1 6) 9) 9) i), rfl, ?_, ht⟩) (fun q h => absurd h List.not_mem_nil) dX3_fingerprint_132
                          rw [show i = 6 by omega]
                          exact rfl
                        · skip
                          have c_4 : ¬ (6 ≤ i) := fun z => c_4 ((nI_leI (a := 6) (b := i) (by omega) (by omega)).mpr z)
                          refine lv_lload_n hx hb dX3_fingerprint_111 rfl (lv_at hl 1 rfl) ?_
                          refine lv_aload_n hx hb dX3_fingerprint_112 rfl (lv_at hl 0 rfl) ?_
                          refine r_get (C := RX3) (Tb := TX3) (N := 5) hx hb hts in_wsX30 hown hK (hP.2.1) rfl 0 (by decide) (hts (.fieldLink RX3 10 "PieceSets" "now" "LPieceSets$State;") (by decide +kernel)) rfl (v := .ref (slA A 0 0)) rfl dX3_fingerprint_113 ?_
                          refine r_getN (C := RX2) (Tb := TX2) (N := 3) (host := "PieceSets") hx hb hts in_wsX20 hown hK ((hP.2.2.2.2.2 0 (by omega)).1) rfl 0 (by decide) (hK.2.f (args := ([.ref (A 0)] : List Value).toArray) 3 rfl) rfl (v := .ref (slA A 0 1)) rfl dX3_fingerprint_116 ?_
                          refine lv_iload_n hx hb dX3_fingerprint_119 rfl (lv_at hl 2 rfl) ?_
                          refine r_nald hx hb hK ((hP.2.2.2.2.2 0 (by omega)).2.1) (i := i) (by omega) (by decide) (q := (slA A 0 (4 + 2 * i))) (rfl) dX3_fingerprint_120 ?_
                          refine vp_callSl (va_Run.run (va_runS (As := [.long (fpN fi.1.1 (fpC fi.1.2.2 (fpM fi.1.2.1 (fpS fi.1.1 6) 9) 9) i), .ref (slA A 0 (4 + 2 * i))]) (rest := []) ⟨hx, hb, hml, hown, hts⟩ (k_X3_printNumbers l D T (fpN fi.1.1 (fpC fi.1.2.2 (fpM fi.1.2.1 (fpS fi.1.1 6) 9) 9) i) (slA A 0 (4 + 2 * i)) (slA A 0 (5 + 2 * i)) (W0 0 i) ) (va_cwS 2 hts gX3_fingerprint_X3_printNumbers rfl rfl rfl (by decide +kernel) ⟨Nat.le_of_ble_eq_true rfl, Nat.le_of_ble_eq_true rfl⟩) (pre_S (Φ := fun X => Num D T X (slA A 0 (4 + 2 * i)) (slA A 0 (5 + 2 * i)) (W0 0 i)) hK ((hP.2.2.2.2.2 0 (by decide)).2.2.2.2 i (by omega))) rfl rfl hl.1 rfl (lv_room (Nat.le_of_ble_eq_true rfl)) dX3_fingerprint_121 ⟨Nat.le_of_ble_eq_true rfl, Nat.le_of_ble_eq_true rfl⟩)) (fun r_1 hr_1 => ?_)
                          subst hr_1
                          refine top_l (x' := (fpX (fi.1.1 i) (fpN fi.1.1 (fpC fi.1.2.2 (fpM fi.1.2.1 (fpS fi.1.1 6) 9) 9) i) 4096)) (fpX_cong (fun x h => hR0.1 i (by omega) x h) _ 4096 (Nat.le_refl _)) ?_
                          refine lv_lstore_n (lv' := [(1, .long (fpX (fi.1.1 i) (fpN fi.1.1 (fpC fi.1.2.2 (fpM fi.1.2.1 (fpS fi.1.1 6) 9) 9) i) 4096)), (0, .ref (A 0)), (3, .int (nI i))]) hx hb dX3_fingerprint_124 rfl hl (by decide) rfl (fun ls hl => ?_)
                          refine lv_iinc (v := (nI (i + 1))) (lv' := [(3, .int (nI (i + 1))), (1, .long (fpX (fi.1.1 i) (fpN fi.1.1 (fpC fi.1.2.2 (fpM fi.1.2.1 (fpS fi.1.1 6) 9) 9) i) 4096)), (0, .ref (A 0))]) hx hb dX3_fingerprint_125 hl (k := 2) rfl (iinc_n i 1) (by decide) rfl (fun ls hl => ?_)
                          refine lv_goto (tgt := 105) hx hb dX3_fingerprint_128 (by decide) ?_
                          have hl := lv_sub hl (l' := [(0, .ref (A 0)), (1, .long (fpX (fi.1.1 i) (fpN fi.1.1 (fpC fi.1.2.2 (fpM fi.1.2.1 (fpS fi.1.1 6) 9) 9) i) 4096)), (3, .int (nI (i + 1)))]) [2, 1, 0] rfl
                          have q_1 : (fpX (fi.1.1 i) (fpN fi.1.1 (fpC fi.1.2.2 (fpM fi.1.2.1 (fpS fi.1.1 6) 9) 9) i) 4096) = (fpN fi.1.1 (fpC fi.1.2.2 (fpM fi.1.2.1 (fpS fi.1.1 6) 9) 9) (i + 1)) := rfl
                          have hl : lv_has ls 4 [(0, .ref (A 0)), (1, .long (fpN fi.1.1 (fpC fi.1.2.2 (fpM fi.1.2.1 (fpS fi.1.1 6) 9) 9) (i + 1))), (3, .int (nI (i + 1)))] := by
                            have h := hl
                            rw [q_1] at h
                            exact h
                          exact ih105 (i + 1) (by omega) ls hl (by omega)
                    have hl := lv_sub hl (l' := [(0, .ref (A 0)), (1, .long (fpC fi.1.2.2 (fpM fi.1.2.1 (fpS fi.1.1 6) 9) i)), (3, .int (nI 0))]) [1, 2, 0] rfl
                    have q_1 : (fpC fi.1.2.2 (fpM fi.1.2.1 (fpS fi.1.1 6) 9) i) = (fpN fi.1.1 (fpC fi.1.2.2 (fpM fi.1.2.1 (fpS fi.1.1 6) 9) 9) 0) := by rw [show i = 9 by omega]; exact rfl
                    have hl : lv_has ls 4 [(0, .ref (A 0)), (1, .long (fpN fi.1.1 (fpC fi.1.2.2 (fpM fi.1.2.1 (fpS fi.1.1 6) 9) 9) 0)), (3, .int (nI 0))] := by
                      have h := hl
                      rw [q_1] at h
                      exact h
                    exact loop105 (6 - 0 + 1) 0 (Nat.zero_le _) ls hl (Nat.lt_succ_self _)
                  · skip
                    have c_3 : ¬ (9 ≤ i) := fun z => c_3 ((nI_leI (a := 9) (b := i) (by omega) (by omega)).mpr z)
                    refine lv_iload_n hx hb dX3_fingerprint_71 rfl (lv_at hl 2 rfl) ?_
                    refine lv_iconst (v := (nI 3)) hx hb dX3_fingerprint_72 (by decide) ?_
                    refine lv_idiv hx hb dX3_fingerprint_73 (by decide) ?_
                    refine top_i (pk_div (a := i) (d := 3) (by omega) (by omega) (by omega)) ?_
                    refine lv_iload_n hx hb dX3_fingerprint_74 rfl (lv_at hl 2 rfl) ?_
                    refine lv_iconst (v := (nI 3)) hx hb dX3_fingerprint_75 (by decide) ?_
                    refine lv_irem hx hb dX3_fingerprint_76 (by decide) ?_
                    refine top_i (pk_rem (a := i) (d := 3) (by omega) (by omega) (by omega)) ?_
                    refine lv_icmp_eq (tgt := 97) hx hb dX3_fingerprint_77 (by decide) (fun c_4 => ?_) (fun c_4 => ?_)
                    · skip
                      have c_4 : (i / 3) = (i % 3) := (nI_eq (a := (i / 3)) (b := (i % 3)) (by omega) (by omega)).mp c_4
                      refine lv_iinc (v := (nI (i + 1))) (lv' := [(3, .int (nI (i + 1))), (0, .ref (A 0)), (1, .long (fpC fi.1.2.2 (fpM fi.1.2.1 (fpS fi.1.1 6) 9) i))]) hx hb dX3_fingerprint_97 hl (k := 2) rfl (iinc_n i 1) (by decide) rfl (fun ls hl => ?_)
                      refine lv_goto (tgt := 65) hx hb dX3_fingerprint_100 (by decide) ?_
                      have hl := lv_sub hl (l' := [(0, .ref (A 0)), (1, .long (fpC fi.1.2.2 (fpM fi.1.2.1 (fpS fi.1.1 6) 9) i)), (3, .int (nI (i + 1)))]) [1, 2, 0] rfl
                      have q_1 : (fpC fi.1.2.2 (fpM fi.1.2.1 (fpS fi.1.1 6) 9) i) = (fpC fi.1.2.2 (fpM fi.1.2.1 (fpS fi.1.1 6) 9) (i + 1)) := by first | exact (if_pos c_4).symm | exact (if_neg c_4).symm
                      have hl : lv_has ls 4 [(0, .ref (A 0)), (1, .long (fpC fi.1.2.2 (fpM fi.1.2.1 (fpS fi.1.1 6) 9) (i + 1))), (3, .int (nI (i + 1)))] := by
                        have h := hl
                        rw [q_1] at h
                        exact h
                      exact ih65 (i + 1) (by omega) ls hl (by omega)
                    · skip
                      have c_4 : ¬ ((i / 3) = (i % 3)) := fun z => c_4 ((nI_eq (a := (i / 3)) (b := (i % 3)) (by omega) (by omega)).mpr z)
                      refine lv_ldc2 hx hb hown (hts (.constantLong RX3 155 (31)) (by decide +kernel)) dX3_fingerprint_80 ?_
                      refine lv_lload_n hx hb dX3_fingerprint_83 rfl (lv_at hl 1 rfl) ?_
                      refine lv_lmul hx hb dX3_fingerprint_84 ?_
                      refine lv_aload_n hx hb dX3_fingerprint_85 rfl (lv_at hl 0 rfl) ?_
                      refine r_get (C := RX3) (Tb := TX3) (N := 5) hx hb hts in_wsX30 hown hK (hP.2.1) rfl 0 (by decide) (hts (.fieldLink RX3 10 "PieceSets" "now" "LPieceSets$State;") (by decide +kernel)) rfl (v := .ref (slA A 0 0)) rfl dX3_fingerprint_86 ?_
                      refine r_getN (C := RX2) (Tb := TX2) (N := 3) (host := "PieceSets") hx hb hts in_wsX20 hown hK ((hP.2.2.2.2.2 0 (by omega)).1) rfl 2 (by decide) (hK.2.f (args := ([.ref (A 0)] : List Value).toArray) 5 rfl) rfl (v := .ref (slA A 0 3)) rfl dX3_fingerprint_89 ?_
                      refine lv_iload_n hx hb dX3_fingerprint_92 rfl (lv_at hl 2 rfl) ?_
                      refine r_iald hx hb hK ((hP.2.2.2.2.2 0 (by omega)).2.2.2.1) (i := i) (by omega) (by decide) dX3_fingerprint_93 ?_
                      refine top_i (x' := (fi.1.2.2 i)) (hR0.2.2 i (by omega)) ?_
                      refine lv_i2l (v := ((fi.1.2.2 i).toInt64)) hx hb dX3_fingerprint_94 rfl ?_
                      refine lv_ladd hx hb dX3_fingerprint_95 ?_
                      refine lv_lstore_n (lv' := [(1, .long ((31 * (fpC fi.1.2.2 (fpM fi.1.2.1 (fpS fi.1.1 6) 9) i)) + ((fi.1.2.2 i).toInt64))), (0, .ref (A 0)), (3, .int (nI i))]) hx hb dX3_fingerprint_96 rfl hl (by decide) rfl (fun ls hl => ?_)
                      refine lv_iinc (v := (nI (i + 1))) (lv' := [(3, .int (nI (i + 1))), (1, .long ((31 * (fpC fi.1.2.2 (fpM fi.1.2.1 (fpS fi.1.1 6) 9) i)) + ((fi.1.2.2 i).toInt64))), (0, .ref (A 0))]) hx hb dX3_fingerprint_97 hl (k := 2) rfl (iinc_n i 1) (by decide) rfl (fun ls hl => ?_)
                      refine lv_goto (tgt := 65) hx hb dX3_fingerprint_100 (by decide) ?_
                      have hl := lv_sub hl (l' := [(0, .ref (A 0)), (1, .long ((31 * (fpC fi.1.2.2 (fpM fi.1.2.1 (fpS fi.1.1 6) 9) i)) + ((fi.1.2.2 i).toInt64))), (3, .int (nI (i + 1)))]) [2, 1, 0] rfl
                      have q_1 : ((31 * (fpC fi.1.2.2 (fpM fi.1.2.1 (fpS fi.1.1 6) 9) i)) + ((fi.1.2.2 i).toInt64)) = (fpC fi.1.2.2 (fpM fi.1.2.1 (fpS fi.1.1 6) 9) (i + 1)) := by first | exact (if_pos c_4).symm | exact (if_neg c_4).symm
                      have hl : lv_has ls 4 [(0, .ref (A 0)), (1, .long (fpC fi.1.2.2 (fpM fi.1.2.1 (fpS fi.1.1 6) 9) (i + 1))), (3, .int (nI (i + 1)))] := by
                        have h := hl
                        rw [q_1] at h
                        exact h
                      exact ih65 (i + 1) (by omega) ls hl (by omega)
              have hl := lv_sub hl (l' := [(0, .ref (A 0)), (1, .long (fpM fi.1.2.1 (fpS fi.1.1 6) i)), (3, .int (nI 0))]) [1, 2, 0] rfl
              have q_1 : (fpM fi.1.2.1 (fpS fi.1.1 6) i) = (fpC fi.1.2.2 (fpM fi.1.2.1 (fpS fi.1.1 6) 9) 0) := by rw [show i = 9 by omega]; exact rfl
              have hl : lv_has ls 4 [(0, .ref (A 0)), (1, .long (fpC fi.1.2.2 (fpM fi.1.2.1 (fpS fi.1.1 6) 9) 0)), (3, .int (nI 0))] := by
                have h := hl
                rw [q_1] at h
                exact h
              exact loop65 (9 - 0 + 1) 0 (Nat.zero_le _) ls hl (Nat.lt_succ_self _)
            · skip
              have c_2 : ¬ (9 ≤ i) := fun z => c_2 ((nI_leI (a := 9) (b := i) (by omega) (by omega)).mpr z)
              refine lv_ldc2 hx hb hown (hts (.constantLong RX3 155 (31)) (by decide +kernel)) dX3_fingerprint_40 ?_
              refine lv_lload_n hx hb dX3_fingerprint_43 rfl (lv_at hl 1 rfl) ?_
              refine lv_lmul hx hb dX3_fingerprint_44 ?_
              refine lv_aload_n hx hb dX3_fingerprint_45 rfl (lv_at hl 0 rfl) ?_
              refine r_get (C := RX3) (Tb := TX3) (N := 5) hx hb hts in_wsX30 hown hK (hP.2.1) rfl 0 (by decide) (hts (.fieldLink RX3 10 "PieceSets" "now" "LPieceSets$State;") (by decide +kernel)) rfl (v := .ref (slA A 0 0)) rfl dX3_fingerprint_46 ?_
              refine r_getN (C := RX2) (Tb := TX2) (N := 3) (host := "PieceSets") hx hb hts in_wsX20 hown hK ((hP.2.2.2.2.2 0 (by omega)).1) rfl 1 (by decide) (hK.2.f (args := ([.ref (A 0)] : List Value).toArray) 4 rfl) rfl (v := .ref (slA A 0 2)) rfl dX3_fingerprint_49 ?_
              refine lv_iload_n hx hb dX3_fingerprint_52 rfl (lv_at hl 2 rfl) ?_
              refine r_iald hx hb hK ((hP.2.2.2.2.2 0 (by omega)).2.2.1) (i := i) (by omega) (by decide) dX3_fingerprint_53 ?_
              refine top_i (x' := (fi.1.2.1 i)) (hR0.2.1 i (by omega)) ?_
              refine lv_i2l (v := ((fi.1.2.1 i).toInt64)) hx hb dX3_fingerprint_54 rfl ?_
              refine lv_ladd hx hb dX3_fingerprint_55 ?_
              refine lv_lstore_n (lv' := [(1, .long ((31 * (fpM fi.1.2.1 (fpS fi.1.1 6) i)) + ((fi.1.2.1 i).toInt64))), (0, .ref (A 0)), (3, .int (nI i))]) hx hb dX3_fingerprint_56 rfl hl (by decide) rfl (fun ls hl => ?_)
              refine lv_iinc (v := (nI (i + 1))) (lv' := [(3, .int (nI (i + 1))), (1, .long ((31 * (fpM fi.1.2.1 (fpS fi.1.1 6) i)) + ((fi.1.2.1 i).toInt64))), (0, .ref (A 0))]) hx hb dX3_fingerprint_57 hl (k := 2) rfl (iinc_n i 1) (by decide) rfl (fun ls hl => ?_)
              refine lv_goto (tgt := 34) hx hb dX3_fingerprint_60 (by decide) ?_
              have hl := lv_sub hl (l' := [(0, .ref (A 0)), (1, .long ((31 * (fpM fi.1.2.1 (fpS fi.1.1 6) i)) + ((fi.1.2.1 i).toInt64))), (3, .int (nI (i + 1)))]) [2, 1, 0] rfl
              have q_1 : ((31 * (fpM fi.1.2.1 (fpS fi.1.1 6) i)) + ((fi.1.2.1 i).toInt64)) = (fpM fi.1.2.1 (fpS fi.1.1 6) (i + 1)) := rfl
              have hl : lv_has ls 4 [(0, .ref (A 0)), (1, .long (fpM fi.1.2.1 (fpS fi.1.1 6) (i + 1))), (3, .int (nI (i + 1)))] := by
                have h := hl
                rw [q_1] at h
                exact h
              exact ih34 (i + 1) (by omega) ls hl (by omega)
        have hl := lv_sub hl (l' := [(0, .ref (A 0)), (1, .long (fpS fi.1.1 i)), (3, .int (nI 0))]) [1, 2, 0] rfl
        have q_1 : (fpS fi.1.1 i) = (fpM fi.1.2.1 (fpS fi.1.1 6) 0) := by rw [show i = 6 by omega]; exact rfl
        have hl : lv_has ls 4 [(0, .ref (A 0)), (1, .long (fpM fi.1.2.1 (fpS fi.1.1 6) 0)), (3, .int (nI 0))] := by
          have h := hl
          rw [q_1] at h
          exact h
        exact loop34 (9 - 0 + 1) 0 (Nat.zero_le _) ls hl (Nat.lt_succ_self _)
      · skip
        have c_1 : ¬ (6 ≤ i) := fun z => c_1 ((nI_leI (a := 6) (b := i) (by omega) (by omega)).mpr z)
        refine lv_lload_n hx hb dX3_fingerprint_12 rfl (lv_at hl 1 rfl) ?_
        refine lv_aload_n hx hb dX3_fingerprint_13 rfl (lv_at hl 0 rfl) ?_
        refine r_get (C := RX3) (Tb := TX3) (N := 5) hx hb hts in_wsX30 hown hK (hP.2.1) rfl 0 (by decide) (hts (.fieldLink RX3 10 "PieceSets" "now" "LPieceSets$State;") (by decide +kernel)) rfl (v := .ref (slA A 0 0)) rfl dX3_fingerprint_14 ?_
        refine r_getN (C := RX2) (Tb := TX2) (N := 3) (host := "PieceSets") hx hb hts in_wsX20 hown hK ((hP.2.2.2.2.2 0 (by omega)).1) rfl 0 (by decide) (hK.2.f (args := ([.ref (A 0)] : List Value).toArray) 3 rfl) rfl (v := .ref (slA A 0 1)) rfl dX3_fingerprint_17 ?_
        refine lv_iload_n hx hb dX3_fingerprint_20 rfl (lv_at hl 2 rfl) ?_
        refine r_nald hx hb hK ((hP.2.2.2.2.2 0 (by omega)).2.1) (i := i) (by omega) (by decide) (q := (slA A 0 (4 + 2 * i))) (rfl) dX3_fingerprint_21 ?_
        refine vp_callSl (va_Run.run (va_runS (As := [.long (fpS fi.1.1 i), .ref (slA A 0 (4 + 2 * i))]) (rest := []) ⟨hx, hb, hml, hown, hts⟩ (k_X3_printPieces l D T (fpS fi.1.1 i) (slA A 0 (4 + 2 * i)) (slA A 0 (5 + 2 * i)) (W0 0 i) ) (va_cwS 2 hts gX3_fingerprint_X3_printPieces rfl rfl rfl (by decide +kernel) ⟨Nat.le_of_ble_eq_true rfl, Nat.le_of_ble_eq_true rfl⟩) (pre_S (Φ := fun X => Num D T X (slA A 0 (4 + 2 * i)) (slA A 0 (5 + 2 * i)) (W0 0 i)) hK ((hP.2.2.2.2.2 0 (by decide)).2.2.2.2 i (by omega))) rfl rfl hl.1 rfl (lv_room (Nat.le_of_ble_eq_true rfl)) dX3_fingerprint_22 ⟨Nat.le_of_ble_eq_true rfl, Nat.le_of_ble_eq_true rfl⟩)) (fun r_1 hr_1 => ?_)
        subst hr_1
        refine top_l (x' := (fpS fi.1.1 (i + 1))) (fpP_cong (fun x h => hR0.1 i (by omega) x h) _ 16 (Nat.le_refl _)) ?_
        refine lv_lstore_n (lv' := [(1, .long (fpS fi.1.1 (i + 1))), (0, .ref (A 0)), (3, .int (nI i))]) hx hb dX3_fingerprint_25 rfl hl (by decide) rfl (fun ls hl => ?_)
        refine lv_iinc (v := (nI (i + 1))) (lv' := [(3, .int (nI (i + 1))), (1, .long (fpS fi.1.1 (i + 1))), (0, .ref (A 0))]) hx hb dX3_fingerprint_26 hl (k := 2) rfl (iinc_n i 1) (by decide) rfl (fun ls hl => ?_)
        refine lv_goto (tgt := 6) hx hb dX3_fingerprint_29 (by decide) ?_
        have hl := lv_sub hl (l' := [(0, .ref (A 0)), (1, .long (fpS fi.1.1 (i + 1))), (3, .int (nI (i + 1)))]) [2, 1, 0] rfl
        have q_1 : (fpS fi.1.1 (i + 1)) = (fpS fi.1.1 (i + 1)) := rfl
        have hl : lv_has ls 4 [(0, .ref (A 0)), (1, .long (fpS fi.1.1 (i + 1))), (3, .int (nI (i + 1)))] := by
          have h := hl
          rw [q_1] at h
          exact h
        exact ih6 (i + 1) (by omega) ls hl (by omega)
  have hl := lv_sub hl (l' := [(0, .ref (A 0)), (1, .long 163), (3, .int (nI 0))]) [2, 1, 0] rfl
  have q_1 : 163 = (fpS fi.1.1 0) := rfl
  have hl : lv_has ls 4 [(0, .ref (A 0)), (1, .long (fpS fi.1.1 0)), (3, .int (nI 0))] := by
    have h := hl
    rw [q_1] at h
    exact h
  exact loop6 (6 - 0 + 1) 0 (Nat.zero_le _) ls hl (Nat.lt_succ_self _)
