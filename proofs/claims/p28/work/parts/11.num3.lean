set_option maxHeartbeats 4000000 in
set_option maxRecDepth 100000 in
theorem k_X1_bitmapByte (l : Launch) (D : va_G) (T : Nat → ClassId) (h0 : Nat) (w0 : Nat) (f : Nat → Int64) (k : Nat) (y : Nat) (hk : k < 16) (hy : y < 32) : Met l yX1_bitmapByte wsX1_bitmapByte ({ frames := 1, cells := 0, slots := 0, locals := 21 }) (va_Pc [.ref h0, .int (nI k), .int (nI y)] (fun U => KS D T U ∧ Num D T U.heap h0 w0 f)) (vp_Si (fun r => r = (nI (byN (bitL f) (256 * k + 8 * y))))) 0 0 (fun _ => False) := by
  refine Met.ofW (cc := cX1_bitmapByte) (maxL := 3) (ret := (some .int)) (by decide) rfl ?_
  intro pg ev s m args below meth c s₁ B hml hv
  obtain ⟨rfl, hK, hH⟩ := hv
  have hx := B.exec
  have hb := B.bytes
  have hr := B.returns
  have hts := atoms_spec (ws := wsX1_bitmapByte) B.pre
  have hown : s.vm.findClass RX1 = some m.cls := findClass_of_methodNamed B.named
  have hlocks := B.notSynchronized
  have in_wsX10 : ∀ w ∈ wsX10, w ∈ wsX1_bitmapByte := fun w h => List.mem_cons_of_mem _ (List.mem_append_right _ h)
  have hl := lv_entry ([.ref h0, .int (nI k), .int (nI y)]) (n := 3) (Nat.le_of_ble_eq_true rfl)
  rw [lg_entry_eq]
  generalize (lg_sl ([.ref h0, .int (nI k), .int (nI y)]) ++ List.replicate (3 - (lg_sl ([.ref h0, .int (nI k), .int (nI y)])).length) Slot.unset).toArray = ls at hl ⊢
  have hl : lv_has ls 3 [(0, .ref h0), (1, .int (nI k)), (2, .int (nI y))] := hl
  refine W_gen (fun Q hQ => ?_)
  have hN := hH
  refine lv_aload_n hx hb dX1_bitmapByte_0 rfl (lv_at hl 0 rfl) ?_
  refine lv_iconst (v := (nI 4)) hx hb dX1_bitmapByte_1 (by decide) ?_
  refine lv_iload_n hx hb dX1_bitmapByte_2 rfl (lv_at hl 1 rfl) ?_
  refine lv_imul hx hb dX1_bitmapByte_3 ?_
  refine top_i (pk_mul 4 k) ?_
  refine lv_iload_n hx hb dX1_bitmapByte_4 rfl (lv_at hl 2 rfl) ?_
  refine lv_bipush (v := (nI 8)) hx hb dX1_bitmapByte_5 (by decide) ?_
  refine lv_idiv hx hb dX1_bitmapByte_7 (by decide) ?_
  refine top_i (pk_div (a := y) (d := 8) (by omega) (by omega) (by omega)) ?_
  refine lv_iadd hx hb dX1_bitmapByte_8 ?_
  refine top_i (nI_add (4 * k) (y / 8)) ?_
  refine vp_callSl (va_Run.run (va_runV (As := [.int (nI ((4 * k) + (y / 8)))]) (rest := []) ⟨hx, hb, hml, hown, hts⟩ (k_X1_wordAt l D T h0 w0 f (nI ((4 * k) + (y / 8))) ) (cwV 1 hts gX1_bitmapByte_X1_wordAt rfl rfl rfl (by decide +kernel) ⟨Nat.le_of_ble_eq_true rfl, Nat.le_of_ble_eq_true rfl⟩) (pre_V (Φ := fun X => Num D T X h0 w0 f) hK (hN.1) rfl hN) rfl rfl hl.1 rfl (lv_room (Nat.le_of_ble_eq_true rfl)) dX1_bitmapByte_9 ⟨Nat.le_of_ble_eq_true rfl, Nat.le_of_ble_eq_true rfl⟩)) (fun r_1 hr_1 => ?_)
  subst hr_1
  refine top_l (x' := (f (4 * k + y / 8))) (wAt_n f (by omega)) ?_
  refine lv_bipush (v := (nI 8)) hx hb dX1_bitmapByte_12 (by decide) ?_
  refine lv_iload_n hx hb dX1_bitmapByte_14 rfl (lv_at hl 2 rfl) ?_
  refine lv_bipush (v := (nI 8)) hx hb dX1_bitmapByte_15 (by decide) ?_
  refine lv_irem hx hb dX1_bitmapByte_17 (by decide) ?_
  refine top_i (pk_rem (a := y) (d := 8) (by omega) (by omega) (by omega)) ?_
  refine lv_imul hx hb dX1_bitmapByte_18 ?_
  refine top_i (pk_mul 8 (y % 8)) ?_
  refine lv_lushr (v := (ushrL (f (4 * k + y / 8)) (nI (8 * (y % 8))))) hx hb dX1_bitmapByte_19 rfl ?_
  refine lv_ldc2 hx hb hown (hts (.constantLong RX1 86 (255)) (by decide +kernel)) dX1_bitmapByte_20 ?_
  refine lv_land hx hb dX1_bitmapByte_23 ?_
  refine lv_l2i (v := (((ushrL (f (4 * k + y / 8)) (nI (8 * (y % 8)))) &&& 255).toInt32)) hx hb dX1_bitmapByte_24 rfl ?_
  subst hQ
  refine W.iret (v := (((ushrL (f (4 * k + y / 8)) (nI (8 * (y % 8)))) &&& 255).toInt32)) hx hb hr (fun t ht hW => ⟨(((ushrL (f (4 * k + y / 8)) (nI (8 * (y % 8)))) &&& 255).toInt32), rfl, ?_, ht⟩) (fun q h => absurd h List.not_mem_nil) dX1_bitmapByte_25
  exact byte_at f hy
set_option maxHeartbeats 4000000 in
set_option maxRecDepth 100000 in
theorem k_X1_nthPlace (l : Launch) (D : va_G) (T : Nat → ClassId) (h0 : Nat) (w0 : Nat) (f : Nat → Int64) (k : Nat) (y : Nat) (hk : k < 16) (hy : y < pn (bitL f) k) : Met l yX1_nthPlace wsX1_nthPlace ({ frames := 3, cells := 0, slots := 0, locals := 88 }) (va_Pc [.ref h0, .int (nI k), .int (nI y)] (fun U => KS D T U ∧ Num D T U.heap h0 w0 f)) (vp_Si (fun r => r = (plc (bitL f) k y))) 0 0 (fun _ => False) := by
  refine Met.ofW (cc := cX1_nthPlace) (maxL := 3) (ret := (some .int)) (by decide) rfl ?_
  intro pg ev s m args below meth c s₁ B hml hv
  obtain ⟨rfl, hK, hH⟩ := hv
  have hx := B.exec
  have hb := B.bytes
  have hr := B.returns
  have hts := atoms_spec (ws := wsX1_nthPlace) B.pre
  have hown : s.vm.findClass RX1 = some m.cls := findClass_of_methodNamed B.named
  have hlocks := B.notSynchronized
  have in_wsX10 : ∀ w ∈ wsX10, w ∈ wsX1_nthPlace := fun w h => List.mem_cons_of_mem _ (List.mem_append_right _ h)
  have hl := lv_entry ([.ref h0, .int (nI k), .int (nI y)]) (n := 3) (Nat.le_of_ble_eq_true rfl)
  rw [lg_entry_eq]
  generalize (lg_sl ([.ref h0, .int (nI k), .int (nI y)]) ++ List.replicate (3 - (lg_sl ([.ref h0, .int (nI k), .int (nI y)])).length) Slot.unset).toArray = ls at hl ⊢
  have hl : lv_has ls 3 [(0, .ref h0), (1, .int (nI k)), (2, .int (nI y))] := hl
  refine W_gen (fun Q hQ => ?_)
  have hN := hH
  refine lv_aload_n hx hb dX1_nthPlace_0 rfl (lv_at hl 0 rfl) ?_
  refine lv_aload_n hx hb dX1_nthPlace_1 rfl (lv_at hl 0 rfl) ?_
  refine lv_iconst (v := (nI 0)) hx hb dX1_nthPlace_2 (by decide) ?_
  refine lv_sipush (v := (nI 256)) hx hb dX1_nthPlace_3 (by decide) ?_
  refine lv_iload_n hx hb dX1_nthPlace_6 rfl (lv_at hl 1 rfl) ?_
  refine lv_imul hx hb dX1_nthPlace_7 ?_
  refine top_i (pk_mul 256 k) ?_
  refine lv_iconst (v := (nI 1)) hx hb dX1_nthPlace_8 (by decide) ?_
  refine lv_isub hx hb dX1_nthPlace_9 ?_
  refine vp_callSi (va_Run.run (va_runV (As := [.int (nI 0), .int ((nI (256 * k)) - (nI 1))]) (rest := [.ref h0]) ⟨hx, hb, hml, hown, hts⟩ (k_X1_countIn l D T h0 w0 f (nI 0) ((nI (256 * k)) - (nI 1)) ) (cwV 2 hts gX1_nthPlace_X1_countIn rfl rfl rfl (by decide +kernel) ⟨Nat.le_of_ble_eq_true rfl, Nat.le_of_ble_eq_true rfl⟩) (pre_V (Φ := fun X => Num D T X h0 w0 f) hK (hN.1) rfl hN) rfl rfl hl.1 rfl (lv_room (Nat.le_of_ble_eq_true rfl)) dX1_nthPlace_10 ⟨Nat.le_of_ble_eq_true rfl, Nat.le_of_ble_eq_true rfl⟩)) (fun r_1 hr_1 => ?_)
  subst hr_1
  refine lv_iload_n hx hb dX1_nthPlace_13 rfl (lv_at hl 2 rfl) ?_
  refine lv_iadd hx hb dX1_nthPlace_14 ?_
  refine vp_callSi (va_Run.run (va_runV (As := [.int ((nI (ctr (bitL f) (nI 0) ((nI (256 * k)) - (nI 1)))) + (nI y))]) (rest := []) ⟨hx, hb, hml, hown, hts⟩ (k_X1_nth l D T h0 w0 f ((nI (ctr (bitL f) (nI 0) ((nI (256 * k)) - (nI 1)))) + (nI y)) ) (cwV 1 hts gX1_nthPlace_X1_nth rfl rfl rfl (by decide +kernel) ⟨Nat.le_of_ble_eq_true rfl, Nat.le_of_ble_eq_true rfl⟩) (pre_V (Φ := fun X => Num D T X h0 w0 f) hK (hN.1) rfl hN) rfl rfl hl.1 rfl (lv_room (Nat.le_of_ble_eq_true rfl)) dX1_nthPlace_15 ⟨Nat.le_of_ble_eq_true rfl, Nat.le_of_ble_eq_true rfl⟩)) (fun r_2 hr_2 => ?_)
  subst hr_2
  refine lv_sipush (v := (nI 256)) hx hb dX1_nthPlace_18 (by decide) ?_
  refine lv_iload_n hx hb dX1_nthPlace_21 rfl (lv_at hl 1 rfl) ?_
  refine lv_imul hx hb dX1_nthPlace_22 ?_
  refine top_i (pk_mul 256 k) ?_
  refine lv_isub hx hb dX1_nthPlace_23 ?_
  subst hQ
  refine W.iret (v := ((nthA (bitL f) ((nI (ctr (bitL f) (nI 0) ((nI (256 * k)) - (nI 1)))) + (nI y))) - (nI (256 * k)))) hx hb hr (fun t ht hW => ⟨((nthA (bitL f) ((nI (ctr (bitL f) (nI 0) ((nI (256 * k)) - (nI 1)))) + (nI y))) - (nI (256 * k))), rfl, ?_, ht⟩) (fun q h => absurd h List.not_mem_nil) dX1_nthPlace_24
  exact place_nth _ hk hy
set_option maxHeartbeats 4000000 in
set_option maxRecDepth 100000 in
theorem k_X1_nthBorder (l : Launch) (D : va_G) (T : Nat → ClassId) (h0 : Nat) (w0 : Nat) (f : Nat → Int64) (k : Nat) (y : Nat) (hk : k < 16) (hy : y < 2 ^ 31) : Met l yX1_nthBorder wsX1_nthBorder ({ frames := 2, cells := 0, slots := 0, locals := 41 }) (va_Pc [.ref h0, .int (nI k), .int (nI y)] (fun U => KS D T U ∧ Num D T U.heap h0 w0 f)) (vp_Si (fun r => r = (brd (bitL f) k y))) 0 0 (fun _ => False) := by
  refine Met.ofW (cc := cX1_nthBorder) (maxL := 6) (ret := (some .int)) (by decide) rfl ?_
  intro pg ev s m args below meth c s₁ B hml hv
  obtain ⟨rfl, hK, hH⟩ := hv
  have hx := B.exec
  have hb := B.bytes
  have hr := B.returns
  have hts := atoms_spec (ws := wsX1_nthBorder) B.pre
  have hown : s.vm.findClass RX1 = some m.cls := findClass_of_methodNamed B.named
  have hlocks := B.notSynchronized
  have in_wsX10 : ∀ w ∈ wsX10, w ∈ wsX1_nthBorder := fun w h => List.mem_cons_of_mem _ (List.mem_append_right _ h)
  have hl := lv_entry ([.ref h0, .int (nI k), .int (nI y)]) (n := 6) (Nat.le_of_ble_eq_true rfl)
  rw [lg_entry_eq]
  generalize (lg_sl ([.ref h0, .int (nI k), .int (nI y)]) ++ List.replicate (6 - (lg_sl ([.ref h0, .int (nI k), .int (nI y)])).length) Slot.unset).toArray = ls at hl ⊢
  have hl : lv_has ls 6 [(0, .ref h0), (1, .int (nI k)), (2, .int (nI y))] := hl
  refine W_gen (fun Q hQ => ?_)
  have hN := hH
  refine lv_iload_n hx hb dX1_nthBorder_0 rfl (lv_at hl 2 rfl) ?_
  refine lv_istore_n (lv' := [(3, .int (nI y)), (0, .ref h0), (1, .int (nI k)), (2, .int (nI y))]) hx hb dX1_nthBorder_1 rfl hl (by decide) rfl (fun ls hl => ?_)
  refine lv_iconst (v := (nI 0)) hx hb dX1_nthBorder_2 (by decide) ?_
  refine lv_istore (lv' := [(4, .int (nI 0)), (3, .int (nI y)), (0, .ref h0), (1, .int (nI k)), (2, .int (nI y))]) hx hb dX1_nthBorder_3 hl (by decide) rfl (fun ls hl => ?_)
  have loop5 : ∀ (n5 : Nat) (j : Nat) (q : Nat) (hj : j ≤ 256) (hq : q < 2 ^ 31) (hv : brF (pcb (bitL f) k) (256 - j) j q = brd (bitL f) k y) (ls : Array Slot) (hl : lv_has ls 6 [(0, .ref h0), (1, .int (nI k)), (2, .int (nI y)), (3, .int (nI q)), (4, .int (nI j))]) (hn5 : 256 - j < n5), W pg l ev (headSpec wsX1_nthBorder ({ frames := 2, cells := 0, slots := 0, locals := 41 })).room s m ([.ref h0, .int (nI k), .int (nI y)] : List Value).toArray below meth c s.heap [] 0 0 Q (F0 m 5 ls []) := by
    intro n5
    induction n5 with
    | zero =>
      intro j q hj hq hv ls hl hn5
      exact absurd hn5 (Nat.not_lt_zero _)
    | succ n5 ih5 =>
      intro j q hj hq hv ls hl hn5
      refine lv_iload hx hb dX1_nthBorder_5 (lv_at hl 4 rfl) ?_
      refine lv_sipush (v := (nI 256)) hx hb dX1_nthBorder_7 (by decide) ?_
      refine lv_icmp_ge (tgt := 93) hx hb dX1_nthBorder_10 (by decide) (fun c_1 => ?_) (fun c_1 => ?_)
      · skip
        have c_1 : 256 ≤ j := (nI_leI (a := 256) (b := j) (by omega) (by omega)).mp c_1
        refine lv_bipush (v := (-9)) hx hb dX1_nthBorder_93 (by decide) ?_
        subst hQ
        refine W.iret (v := (-9)) hx hb hr (fun t ht hW => ⟨(-9), rfl, ?_, ht⟩) (fun q h => absurd h List.not_mem_nil) dX1_nthBorder_95
        rw [← hv, show 256 - j = 0 by omega]
        exact rfl
      · skip
        have c_1 : ¬ (256 ≤ j) := fun z => c_1 ((nI_leI (a := 256) (b := j) (by omega) (by omega)).mpr z)
        refine lv_sipush (v := (nI 256)) hx hb dX1_nthBorder_13 (by decide) ?_
        refine lv_iload_n hx hb dX1_nthBorder_16 rfl (lv_at hl 1 rfl) ?_
        refine lv_imul hx hb dX1_nthBorder_17 ?_
        refine top_i (pk_mul 256 k) ?_
        refine lv_iload hx hb dX1_nthBorder_18 (lv_at hl 4 rfl) ?_
        refine lv_iadd hx hb dX1_nthBorder_20 ?_
        refine top_i (nI_add (256 * k) j) ?_
        refine lv_istore (lv' := [(5, .int (nI ((256 * k) + j))), (0, .ref h0), (1, .int (nI k)), (2, .int (nI y)), (3, .int (nI q)), (4, .int (nI j))]) hx hb dX1_nthBorder_21 hl (by decide) rfl (fun ls hl => ?_)
        refine lv_aload_n hx hb dX1_nthBorder_23 rfl (lv_at hl 1 rfl) ?_
        refine lv_iload hx hb dX1_nthBorder_24 (lv_at hl 0 rfl) ?_
        refine vp_callSi (va_Run.run (va_runV (As := [.int (nI ((256 * k) + j))]) (rest := []) ⟨hx, hb, hml, hown, hts⟩ (k_X1_holds l D T h0 w0 f (nI ((256 * k) + j)) ) (cwV 1 hts gX1_nthBorder_X1_holds rfl rfl rfl (by decide +kernel) ⟨Nat.le_of_ble_eq_true rfl, Nat.le_of_ble_eq_true rfl⟩) (pre_V (Φ := fun X => Num D T X h0 w0 f) hK (hN.1) rfl hN) rfl rfl hl.1 rfl (lv_room (Nat.le_of_ble_eq_true rfl)) dX1_nthBorder_26 ⟨Nat.le_of_ble_eq_true rfl, Nat.le_of_ble_eq_true rfl⟩)) (fun r_1 hr_1 => ?_)
        subst hr_1
        refine top_i (x' := (b2i (bitL f (256 * k + j)))) (congrArg b2i (hlt_n (bitL f) (by omega))) ?_
        refine lv_if_eq (tgt := 87) hx hb dX1_nthBorder_29 (by decide) (fun c_2 => ?_) (fun c_2 => ?_)
        · skip
          have c_2 : bitL f (256 * k + j) = false := b2i_0.mp c_2
          refine lv_iinc (v := (nI (j + 1))) (lv' := [(4, .int (nI (j + 1))), (5, .int (nI ((256 * k) + j))), (0, .ref h0), (1, .int (nI k)), (2, .int (nI y)), (3, .int (nI q))]) hx hb dX1_nthBorder_87 hl (k := 5) rfl (iinc_n j 1) (by decide) rfl (fun ls hl => ?_)
          refine lv_goto (tgt := 5) hx hb dX1_nthBorder_90 (by decide) ?_
          have hl := lv_sub hl (l' := [(0, .ref h0), (1, .int (nI k)), (2, .int (nI y)), (3, .int (nI q)), (4, .int (nI (j + 1)))]) [2, 3, 4, 5, 0] rfl
          exact ih5 (j + 1) q (by omega) (by omega) (by rw [← hv, show 256 - j = (256 - (j + 1)) + 1 by omega]; have hp1 : ∀ z, 0 < z → pcb (bitL f) k (z - 1) = bitL f (256 * k + z - 1) := fun z hz => congrArg (bitL f) (by omega); have hp2 : ∀ z, pcb (bitL f) k (z + 1) = bitL f (256 * k + z + 1) := fun z => rfl; exact (brF_0 (c := pcb (bitL f) k) (x := j) c_2).symm) ls hl (by omega)
        · skip
          have c_2 : bitL f (256 * k + j) = true := b2i_n0.mp c_2
          refine lv_iload hx hb dX1_nthBorder_32 (lv_at hl 5 rfl) ?_
          refine lv_if_eq (tgt := 48) hx hb dX1_nthBorder_34 (by decide) (fun c_3 => ?_) (fun c_3 => ?_)
          · skip
            have c_3 : j = 0 := (nI_e0 (a := j) (by omega)).mp c_3
            refine lv_iload_n hx hb dX1_nthBorder_48 rfl (lv_at hl 4 rfl) ?_
            refine lv_if_ne (tgt := 55) hx hb dX1_nthBorder_49 (by decide) (fun c_4 => ?_) (fun c_4 => ?_)
            · skip
              have c_4 : ¬ (q = 0) := fun z => c_4 ((nI_e0 (a := q) (by omega)).mpr z)
              refine lv_iinc (v := (nI (q - 1))) (lv' := [(3, .int (nI (q - 1))), (5, .int (nI ((256 * k) + j))), (0, .ref h0), (1, .int (nI k)), (2, .int (nI y)), (4, .int (nI j))]) hx hb dX1_nthBorder_55 hl (k := 4) rfl (iinc_m (a := q) (by omega)) (by decide) rfl (fun ls hl => ?_)
              refine lv_iload hx hb dX1_nthBorder_58 (lv_at hl 5 rfl) ?_
              refine lv_sipush (v := (nI 255)) hx hb dX1_nthBorder_60 (by decide) ?_
              refine lv_icmp_eq (tgt := 77) hx hb dX1_nthBorder_63 (by decide) (fun c_5 => ?_) (fun c_5 => ?_)
              · skip
                have c_5 : j = 255 := (nI_eq (a := j) (b := 255) (by omega) (by omega)).mp c_5
                refine lv_iload_n hx hb dX1_nthBorder_77 rfl (lv_at hl 0 rfl) ?_
                refine lv_if_ne (tgt := 84) hx hb dX1_nthBorder_78 (by decide) (fun c_6 => ?_) (fun c_6 => ?_)
                · skip
                  have c_6 : ¬ ((q - 1) = 0) := fun z => c_6 ((nI_e0 (a := (q - 1)) (by omega)).mpr z)
                  refine lv_iinc (v := (nI ((q - 1) - 1))) (lv' := [(3, .int (nI ((q - 1) - 1))), (5, .int (nI ((256 * k) + j))), (0, .ref h0), (1, .int (nI k)), (2, .int (nI y)), (4, .int (nI j))]) hx hb dX1_nthBorder_84 hl (k := 0) rfl (iinc_m (a := q - 1) (by omega)) (by decide) rfl (fun ls hl => ?_)
                  refine lv_iinc (v := (nI (j + 1))) (lv' := [(4, .int (nI (j + 1))), (3, .int (nI ((q - 1) - 1))), (5, .int (nI ((256 * k) + j))), (0, .ref h0), (1, .int (nI k)), (2, .int (nI y))]) hx hb dX1_nthBorder_87 hl (k := 5) rfl (iinc_n j 1) (by decide) rfl (fun ls hl => ?_)
                  refine lv_goto (tgt := 5) hx hb dX1_nthBorder_90 (by decide) ?_
                  have hl := lv_sub hl (l' := [(0, .ref h0), (1, .int (nI k)), (2, .int (nI y)), (3, .int (nI ((q - 1) - 1))), (4, .int (nI (j + 1)))]) [3, 4, 5, 1, 0] rfl
                  exact ih5 (j + 1) ((q - 1) - 1) (by omega) (by omega) (by rw [← hv, show 256 - j = (256 - (j + 1)) + 1 by omega]; have hp1 : ∀ z, 0 < z → pcb (bitL f) k (z - 1) = bitL f (256 * k + z - 1) := fun z hz => congrArg (bitL f) (by omega); have hp2 : ∀ z, pcb (bitL f) k (z + 1) = bitL f (256 * k + z + 1) := fun z => rfl; exact (brF_3 (c := pcb (bitL f) k) (x := j) c_2 (stA_0 _ c_3) c_4 (enA_0 _ c_5) c_6).symm) ls hl (by omega)
                · skip
                  have c_6 : (q - 1) = 0 := (nI_e0 (a := (q - 1)) (by omega)).mp c_6
                  refine lv_iload hx hb dX1_nthBorder_81 (lv_at hl 5 rfl) ?_
                  subst hQ
                  refine W.iret (v := (nI j)) hx hb hr (fun t ht hW => ⟨(nI j), rfl, ?_, ht⟩) (fun q h => absurd h List.not_mem_nil) dX1_nthBorder_83
                  rw [← hv, show 256 - j = (256 - (j + 1)) + 1 by omega]
                  have hp1 : ∀ z, 0 < z → pcb (bitL f) k (z - 1) = bitL f (256 * k + z - 1) := fun z hz => congrArg (bitL f) (by omega)
                  have hp2 : ∀ z, pcb (bitL f) k (z + 1) = bitL f (256 * k + z + 1) := fun z => rfl
                  exact (brF_2 (c := pcb (bitL f) k) (x := j) c_2 (stA_0 _ c_3) c_4 (enA_0 _ c_5) c_6).symm
              · skip
                have c_5 : ¬ (j = 255) := fun z => c_5 ((nI_eq (a := j) (b := 255) (by omega) (by omega)).mpr z)
                refine lv_aload_n hx hb dX1_nthBorder_66 rfl (lv_at hl 2 rfl) ?_
                refine lv_iload hx hb dX1_nthBorder_67 (lv_at hl 1 rfl) ?_
                refine lv_iconst (v := (nI 1)) hx hb dX1_nthBorder_69 (by decide) ?_
                refine lv_iadd hx hb dX1_nthBorder_70 ?_
                refine top_i (nI_add ((256 * k) + j) 1) ?_
                refine vp_callSi (va_Run.run (va_runV (As := [.int (nI (((256 * k) + j) + 1))]) (rest := []) ⟨hx, hb, hml, hown, hts⟩ (k_X1_holds l D T h0 w0 f (nI (((256 * k) + j) + 1)) ) (cwV 1 hts gX1_nthBorder_X1_holds rfl rfl rfl (by decide +kernel) ⟨Nat.le_of_ble_eq_true rfl, Nat.le_of_ble_eq_true rfl⟩) (pre_V (Φ := fun X => Num D T X h0 w0 f) hK (hN.1) rfl hN) rfl rfl hl.1 rfl (lv_room (Nat.le_of_ble_eq_true rfl)) dX1_nthBorder_71 ⟨Nat.le_of_ble_eq_true rfl, Nat.le_of_ble_eq_true rfl⟩)) (fun r_2 hr_2 => ?_)
                subst hr_2
                refine top_i (x' := (b2i (bitL f (256 * k + j + 1)))) (congrArg b2i (hlt_n (bitL f) (by omega))) ?_
                refine lv_if_ne (tgt := 87) hx hb dX1_nthBorder_74 (by decide) (fun c_6 => ?_) (fun c_6 => ?_)
                · skip
                  have c_6 : bitL f (256 * k + j + 1) = true := b2i_n0.mp c_6
                  refine lv_iinc (v := (nI (j + 1))) (lv' := [(4, .int (nI (j + 1))), (3, .int (nI (q - 1))), (5, .int (nI ((256 * k) + j))), (0, .ref h0), (1, .int (nI k)), (2, .int (nI y))]) hx hb dX1_nthBorder_87 hl (k := 5) rfl (iinc_n j 1) (by decide) rfl (fun ls hl => ?_)
                  refine lv_goto (tgt := 5) hx hb dX1_nthBorder_90 (by decide) ?_
                  have hl := lv_sub hl (l' := [(0, .ref h0), (1, .int (nI k)), (2, .int (nI y)), (3, .int (nI (q - 1))), (4, .int (nI (j + 1)))]) [3, 4, 5, 1, 0] rfl
                  exact ih5 (j + 1) (q - 1) (by omega) (by omega) (by rw [← hv, show 256 - j = (256 - (j + 1)) + 1 by omega]; have hp1 : ∀ z, 0 < z → pcb (bitL f) k (z - 1) = bitL f (256 * k + z - 1) := fun z hz => congrArg (bitL f) (by omega); have hp2 : ∀ z, pcb (bitL f) k (z + 1) = bitL f (256 * k + z + 1) := fun z => rfl; exact (brF_4 (c := pcb (bitL f) k) (x := j) c_2 (stA_0 _ c_3) c_4 (enA_p (v := true) c_5 ((hp2 j).trans c_6))).symm) ls hl (by omega)
                · skip
                  have c_6 : bitL f (256 * k + j + 1) = false := b2i_0.mp c_6
                  refine lv_iload_n hx hb dX1_nthBorder_77 rfl (lv_at hl 0 rfl) ?_
                  refine lv_if_ne (tgt := 84) hx hb dX1_nthBorder_78 (by decide) (fun c_7 => ?_) (fun c_7 => ?_)
                  · skip
                    have c_7 : ¬ ((q - 1) = 0) := fun z => c_7 ((nI_e0 (a := (q - 1)) (by omega)).mpr z)
                    refine lv_iinc (v := (nI ((q - 1) - 1))) (lv' := [(3, .int (nI ((q - 1) - 1))), (5, .int (nI ((256 * k) + j))), (0, .ref h0), (1, .int (nI k)), (2, .int (nI y)), (4, .int (nI j))]) hx hb dX1_nthBorder_84 hl (k := 0) rfl (iinc_m (a := q - 1) (by omega)) (by decide) rfl (fun ls hl => ?_)
                    refine lv_iinc (v := (nI (j + 1))) (lv' := [(4, .int (nI (j + 1))), (3, .int (nI ((q - 1) - 1))), (5, .int (nI ((256 * k) + j))), (0, .ref h0), (1, .int (nI k)), (2, .int (nI y))]) hx hb dX1_nthBorder_87 hl (k := 5) rfl (iinc_n j 1) (by decide) rfl (fun ls hl => ?_)
                    refine lv_goto (tgt := 5) hx hb dX1_nthBorder_90 (by decide) ?_
                    have hl := lv_sub hl (l' := [(0, .ref h0), (1, .int (nI k)), (2, .int (nI y)), (3, .int (nI ((q - 1) - 1))), (4, .int (nI (j + 1)))]) [3, 4, 5, 1, 0] rfl
                    exact ih5 (j + 1) ((q - 1) - 1) (by omega) (by omega) (by rw [← hv, show 256 - j = (256 - (j + 1)) + 1 by omega]; have hp1 : ∀ z, 0 < z → pcb (bitL f) k (z - 1) = bitL f (256 * k + z - 1) := fun z hz => congrArg (bitL f) (by omega); have hp2 : ∀ z, pcb (bitL f) k (z + 1) = bitL f (256 * k + z + 1) := fun z => rfl; exact (brF_3 (c := pcb (bitL f) k) (x := j) c_2 (stA_0 _ c_3) c_4 (enA_p (v := false) c_5 ((hp2 j).trans c_6)) c_7).symm) ls hl (by omega)
                  · skip
                    have c_7 : (q - 1) = 0 := (nI_e0 (a := (q - 1)) (by omega)).mp c_7
                    refine lv_iload hx hb dX1_nthBorder_81 (lv_at hl 5 rfl) ?_
                    subst hQ
                    refine W.iret (v := (nI j)) hx hb hr (fun t ht hW => ⟨(nI j), rfl, ?_, ht⟩) (fun q h => absurd h List.not_mem_nil) dX1_nthBorder_83
                    rw [← hv, show 256 - j = (256 - (j + 1)) + 1 by omega]
                    have hp1 : ∀ z, 0 < z → pcb (bitL f) k (z - 1) = bitL f (256 * k + z - 1) := fun z hz => congrArg (bitL f) (by omega)
                    have hp2 : ∀ z, pcb (bitL f) k (z + 1) = bitL f (256 * k + z + 1) := fun z => rfl
                    exact (brF_2 (c := pcb (bitL f) k) (x := j) c_2 (stA_0 _ c_3) c_4 (enA_p (v := false) c_5 ((hp2 j).trans c_6)) c_7).symm
            · skip
              have c_4 : q = 0 := (nI_e0 (a := q) (by omega)).mp c_4
              refine lv_iload hx hb dX1_nthBorder_52 (lv_at hl 5 rfl) ?_
              subst hQ
              refine W.iret (v := (nI j)) hx hb hr (fun t ht hW => ⟨(nI j), rfl, ?_, ht⟩) (fun q h => absurd h List.not_mem_nil) dX1_nthBorder_54
              rw [← hv, show 256 - j = (256 - (j + 1)) + 1 by omega]
              have hp1 : ∀ z, 0 < z → pcb (bitL f) k (z - 1) = bitL f (256 * k + z - 1) := fun z hz => congrArg (bitL f) (by omega)
              have hp2 : ∀ z, pcb (bitL f) k (z + 1) = bitL f (256 * k + z + 1) := fun z => rfl
              exact (brF_1 (c := pcb (bitL f) k) (x := j) c_2 (stA_0 _ c_3) c_4).symm
          · skip
            have c_3 : ¬ (j = 0) := fun z => c_3 ((nI_e0 (a := j) (by omega)).mpr z)
            refine lv_aload_n hx hb dX1_nthBorder_37 rfl (lv_at hl 1 rfl) ?_
            refine lv_iload hx hb dX1_nthBorder_38 (lv_at hl 0 rfl) ?_
            refine lv_iconst (v := (nI 1)) hx hb dX1_nthBorder_40 (by decide) ?_
            refine lv_isub hx hb dX1_nthBorder_41 ?_
            refine top_i (pk_sub (a := (256 * k) + j) (b := 1) (by omega)) ?_
            refine vp_callSi (va_Run.run (va_runV (As := [.int (nI (((256 * k) + j) - 1))]) (rest := []) ⟨hx, hb, hml, hown, hts⟩ (k_X1_holds l D T h0 w0 f (nI (((256 * k) + j) - 1)) ) (cwV 1 hts gX1_nthBorder_X1_holds rfl rfl rfl (by decide +kernel) ⟨Nat.le_of_ble_eq_true rfl, Nat.le_of_ble_eq_true rfl⟩) (pre_V (Φ := fun X => Num D T X h0 w0 f) hK (hN.1) rfl hN) rfl rfl hl.1 rfl (lv_room (Nat.le_of_ble_eq_true rfl)) dX1_nthBorder_42 ⟨Nat.le_of_ble_eq_true rfl, Nat.le_of_ble_eq_true rfl⟩)) (fun r_2 hr_2 => ?_)
            subst hr_2
            refine top_i (x' := (b2i (bitL f (256 * k + j - 1)))) (congrArg b2i (hlt_n (bitL f) (by omega))) ?_
            refine lv_if_ne (tgt := 58) hx hb dX1_nthBorder_45 (by decide) (fun c_4 => ?_) (fun c_4 => ?_)
            · skip
              have c_4 : bitL f (256 * k + j - 1) = true := b2i_n0.mp c_4
              refine lv_iload hx hb dX1_nthBorder_58 (lv_at hl 5 rfl) ?_
              refine lv_sipush (v := (nI 255)) hx hb dX1_nthBorder_60 (by decide) ?_
              refine lv_icmp_eq (tgt := 77) hx hb dX1_nthBorder_63 (by decide) (fun c_5 => ?_) (fun c_5 => ?_)
              · skip
                have c_5 : j = 255 := (nI_eq (a := j) (b := 255) (by omega) (by omega)).mp c_5
                refine lv_iload_n hx hb dX1_nthBorder_77 rfl (lv_at hl 4 rfl) ?_
                refine lv_if_ne (tgt := 84) hx hb dX1_nthBorder_78 (by decide) (fun c_6 => ?_) (fun c_6 => ?_)
                · skip
                  have c_6 : ¬ (q = 0) := fun z => c_6 ((nI_e0 (a := q) (by omega)).mpr z)
                  refine lv_iinc (v := (nI (q - 1))) (lv' := [(3, .int (nI (q - 1))), (5, .int (nI ((256 * k) + j))), (0, .ref h0), (1, .int (nI k)), (2, .int (nI y)), (4, .int (nI j))]) hx hb dX1_nthBorder_84 hl (k := 4) rfl (iinc_m (a := q) (by omega)) (by decide) rfl (fun ls hl => ?_)
                  refine lv_iinc (v := (nI (j + 1))) (lv' := [(4, .int (nI (j + 1))), (3, .int (nI (q - 1))), (5, .int (nI ((256 * k) + j))), (0, .ref h0), (1, .int (nI k)), (2, .int (nI y))]) hx hb dX1_nthBorder_87 hl (k := 5) rfl (iinc_n j 1) (by decide) rfl (fun ls hl => ?_)
                  refine lv_goto (tgt := 5) hx hb dX1_nthBorder_90 (by decide) ?_
                  have hl := lv_sub hl (l' := [(0, .ref h0), (1, .int (nI k)), (2, .int (nI y)), (3, .int (nI (q - 1))), (4, .int (nI (j + 1)))]) [3, 4, 5, 1, 0] rfl
                  exact ih5 (j + 1) (q - 1) (by omega) (by omega) (by rw [← hv, show 256 - j = (256 - (j + 1)) + 1 by omega]; have hp1 : ∀ z, 0 < z → pcb (bitL f) k (z - 1) = bitL f (256 * k + z - 1) := fun z hz => congrArg (bitL f) (by omega); have hp2 : ∀ z, pcb (bitL f) k (z + 1) = bitL f (256 * k + z + 1) := fun z => rfl; exact (brF_6 (c := pcb (bitL f) k) (x := j) c_2 (stA_p (v := true) c_3 ((hp1 j (by omega)).trans c_4)) (enA_0 _ c_5) c_6).symm) ls hl (by omega)
                · skip
                  have c_6 : q = 0 := (nI_e0 (a := q) (by omega)).mp c_6
                  refine lv_iload hx hb dX1_nthBorder_81 (lv_at hl 5 rfl) ?_
                  subst hQ
                  refine W.iret (v := (nI j)) hx hb hr (fun t ht hW => ⟨(nI j), rfl, ?_, ht⟩) (fun q h => absurd h List.not_mem_nil) dX1_nthBorder_83
                  rw [← hv, show 256 - j = (256 - (j + 1)) + 1 by omega]
                  have hp1 : ∀ z, 0 < z → pcb (bitL f) k (z - 1) = bitL f (256 * k + z - 1) := fun z hz => congrArg (bitL f) (by omega)
                  have hp2 : ∀ z, pcb (bitL f) k (z + 1) = bitL f (256 * k + z + 1) := fun z => rfl
                  exact (brF_5 (c := pcb (bitL f) k) (x := j) c_2 (stA_p (v := true) c_3 ((hp1 j (by omega)).trans c_4)) (enA_0 _ c_5) c_6).symm
              · skip
                have c_5 : ¬ (j = 255) := fun z => c_5 ((nI_eq (a := j) (b := 255) (by omega) (by omega)).mpr z)
                refine lv_aload_n hx hb dX1_nthBorder_66 rfl (lv_at hl 1 rfl) ?_
                refine lv_iload hx hb dX1_nthBorder_67 (lv_at hl 0 rfl) ?_
                refine lv_iconst (v := (nI 1)) hx hb dX1_nthBorder_69 (by decide) ?_
                refine lv_iadd hx hb dX1_nthBorder_70 ?_
                refine top_i (nI_add ((256 * k) + j) 1) ?_
                refine vp_callSi (va_Run.run (va_runV (As := [.int (nI (((256 * k) + j) + 1))]) (rest := []) ⟨hx, hb, hml, hown, hts⟩ (k_X1_holds l D T h0 w0 f (nI (((256 * k) + j) + 1)) ) (cwV 1 hts gX1_nthBorder_X1_holds rfl rfl rfl (by decide +kernel) ⟨Nat.le_of_ble_eq_true rfl, Nat.le_of_ble_eq_true rfl⟩) (pre_V (Φ := fun X => Num D T X h0 w0 f) hK (hN.1) rfl hN) rfl rfl hl.1 rfl (lv_room (Nat.le_of_ble_eq_true rfl)) dX1_nthBorder_71 ⟨Nat.le_of_ble_eq_true rfl, Nat.le_of_ble_eq_true rfl⟩)) (fun r_3 hr_3 => ?_)
                subst hr_3
                refine top_i (x' := (b2i (bitL f (256 * k + j + 1)))) (congrArg b2i (hlt_n (bitL f) (by omega))) ?_
                refine lv_if_ne (tgt := 87) hx hb dX1_nthBorder_74 (by decide) (fun c_6 => ?_) (fun c_6 => ?_)
                · skip
                  have c_6 : bitL f (256 * k + j + 1) = true := b2i_n0.mp c_6
                  refine lv_iinc (v := (nI (j + 1))) (lv' := [(4, .int (nI (j + 1))), (5, .int (nI ((256 * k) + j))), (0, .ref h0), (1, .int (nI k)), (2, .int (nI y)), (3, .int (nI q))]) hx hb dX1_nthBorder_87 hl (k := 5) rfl (iinc_n j 1) (by decide) rfl (fun ls hl => ?_)
                  refine lv_goto (tgt := 5) hx hb dX1_nthBorder_90 (by decide) ?_
                  have hl := lv_sub hl (l' := [(0, .ref h0), (1, .int (nI k)), (2, .int (nI y)), (3, .int (nI q)), (4, .int (nI (j + 1)))]) [2, 3, 4, 5, 0] rfl
                  exact ih5 (j + 1) q (by omega) (by omega) (by rw [← hv, show 256 - j = (256 - (j + 1)) + 1 by omega]; have hp1 : ∀ z, 0 < z → pcb (bitL f) k (z - 1) = bitL f (256 * k + z - 1) := fun z hz => congrArg (bitL f) (by omega); have hp2 : ∀ z, pcb (bitL f) k (z + 1) = bitL f (256 * k + z + 1) := fun z => rfl; exact (brF_7 (c := pcb (bitL f) k) (x := j) c_2 (stA_p (v := true) c_3 ((hp1 j (by omega)).trans c_4)) (enA_p (v := true) c_5 ((hp2 j).trans c_6))).symm) ls hl (by omega)
                · skip
                  have c_6 : bitL f (256 * k + j + 1) = false := b2i_0.mp c_6
                  refine lv_iload_n hx hb dX1_nthBorder_77 rfl (lv_at hl 4 rfl) ?_
                  refine lv_if_ne (tgt := 84) hx hb dX1_nthBorder_78 (by decide) (fun c_7 => ?_) (fun c_7 => ?_)
                  · skip
                    have c_7 : ¬ (q = 0) := fun z => c_7 ((nI_e0 (a := q) (by omega)).mpr z)
                    refine lv_iinc (v := (nI (q - 1))) (lv' := [(3, .int (nI (q - 1))), (5, .int (nI ((256 * k) + j))), (0, .ref h0), (1, .int (nI k)), (2, .int (nI y)), (4, .int (nI j))]) hx hb dX1_nthBorder_84 hl (k := 4) rfl (iinc_m (a := q) (by omega)) (by decide) rfl (fun ls hl => ?_)
                    refine lv_iinc (v := (nI (j + 1))) (lv' := [(4, .int (nI (j + 1))), (3, .int (nI (q - 1))), (5, .int (nI ((256 * k) + j))), (0, .ref h0), (1, .int (nI k)), (2, .int (nI y))]) hx hb dX1_nthBorder_87 hl (k := 5) rfl (iinc_n j 1) (by decide) rfl (fun ls hl => ?_)
                    refine lv_goto (tgt := 5) hx hb dX1_nthBorder_90 (by decide) ?_
                    have hl := lv_sub hl (l' := [(0, .ref h0), (1, .int (nI k)), (2, .int (nI y)), (3, .int (nI (q - 1))), (4, .int (nI (j + 1)))]) [3, 4, 5, 1, 0] rfl
                    exact ih5 (j + 1) (q - 1) (by omega) (by omega) (by rw [← hv, show 256 - j = (256 - (j + 1)) + 1 by omega]; have hp1 : ∀ z, 0 < z → pcb (bitL f) k (z - 1) = bitL f (256 * k + z - 1) := fun z hz => congrArg (bitL f) (by omega); have hp2 : ∀ z, pcb (bitL f) k (z + 1) = bitL f (256 * k + z + 1) := fun z => rfl; exact (brF_6 (c := pcb (bitL f) k) (x := j) c_2 (stA_p (v := true) c_3 ((hp1 j (by omega)).trans c_4)) (enA_p (v := false) c_5 ((hp2 j).trans c_6)) c_7).symm) ls hl (by omega)
                  · skip
                    have c_7 : q = 0 := (nI_e0 (a := q) (by omega)).mp c_7
                    refine lv_iload hx hb dX1_nthBorder_81 (lv_at hl 5 rfl) ?_
                    subst hQ
                    refine W.iret (v := (nI j)) hx hb hr (fun t ht hW => ⟨(nI j), rfl, ?_, ht⟩) (fun q h => absurd h List.not_mem_nil) dX1_nthBorder_83
                    rw [← hv, show 256 - j = (256 - (j + 1)) + 1 by omega]
                    have hp1 : ∀ z, 0 < z → pcb (bitL f) k (z - 1) = bitL f (256 * k + z - 1) := fun z hz => congrArg (bitL f) (by omega)
                    have hp2 : ∀ z, pcb (bitL f) k (z + 1) = bitL f (256 * k + z + 1) := fun z => rfl
                    exact (brF_5 (c := pcb (bitL f) k) (x := j) c_2 (stA_p (v := true) c_3 ((hp1 j (by omega)).trans c_4)) (enA_p (v := false) c_5 ((hp2 j).trans c_6)) c_7).symm
            · skip
              have c_4 : bitL f (256 * k + j - 1) = false := b2i_0.mp c_4
              refine lv_iload_n hx hb dX1_nthBorder_48 rfl (lv_at hl 4 rfl) ?_
              refine lv_if_ne (tgt := 55) hx hb dX1_nthBorder_49 (by decide) (fun c_5 => ?_) (fun c_5 => ?_)
              · skip
                have c_5 : ¬ (q = 0) := fun z => c_5 ((nI_e0 (a := q) (by omega)).mpr z)
                refine lv_iinc (v := (nI (q - 1))) (lv' := [(3, .int (nI (q - 1))), (5, .int (nI ((256 * k) + j))), (0, .ref h0), (1, .int (nI k)), (2, .int (nI y)), (4, .int (nI j))]) hx hb dX1_nthBorder_55 hl (k := 4) rfl (iinc_m (a := q) (by omega)) (by decide) rfl (fun ls hl => ?_)
                refine lv_iload hx hb dX1_nthBorder_58 (lv_at hl 5 rfl) ?_
                refine lv_sipush (v := (nI 255)) hx hb dX1_nthBorder_60 (by decide) ?_
                refine lv_icmp_eq (tgt := 77) hx hb dX1_nthBorder_63 (by decide) (fun c_6 => ?_) (fun c_6 => ?_)
                · skip
                  have c_6 : j = 255 := (nI_eq (a := j) (b := 255) (by omega) (by omega)).mp c_6
                  refine lv_iload_n hx hb dX1_nthBorder_77 rfl (lv_at hl 0 rfl) ?_
                  refine lv_if_ne (tgt := 84) hx hb dX1_nthBorder_78 (by decide) (fun c_7 => ?_) (fun c_7 => ?_)
                  · skip
                    have c_7 : ¬ ((q - 1) = 0) := fun z => c_7 ((nI_e0 (a := (q - 1)) (by omega)).mpr z)
                    refine lv_iinc (v := (nI ((q - 1) - 1))) (lv' := [(3, .int (nI ((q - 1) - 1))), (5, .int (nI ((256 * k) + j))), (0, .ref h0), (1, .int (nI k)), (2, .int (nI y)), (4, .int (nI j))]) hx hb dX1_nthBorder_84 hl (k := 0) rfl (iinc_m (a := q - 1) (by omega)) (by decide) rfl (fun ls hl => ?_)
                    refine lv_iinc (v := (nI (j + 1))) (lv' := [(4, .int (nI (j + 1))), (3, .int (nI ((q - 1) - 1))), (5, .int (nI ((256 * k) + j))), (0, .ref h0), (1, .int (nI k)), (2, .int (nI y))]) hx hb dX1_nthBorder_87 hl (k := 5) rfl (iinc_n j 1) (by decide) rfl (fun ls hl => ?_)
                    refine lv_goto (tgt := 5) hx hb dX1_nthBorder_90 (by decide) ?_
                    have hl := lv_sub hl (l' := [(0, .ref h0), (1, .int (nI k)), (2, .int (nI y)), (3, .int (nI ((q - 1) - 1))), (4, .int (nI (j + 1)))]) [3, 4, 5, 1, 0] rfl
                    exact ih5 (j + 1) ((q - 1) - 1) (by omega) (by omega) (by rw [← hv, show 256 - j = (256 - (j + 1)) + 1 by omega]; have hp1 : ∀ z, 0 < z → pcb (bitL f) k (z - 1) = bitL f (256 * k + z - 1) := fun z hz => congrArg (bitL f) (by omega); have hp2 : ∀ z, pcb (bitL f) k (z + 1) = bitL f (256 * k + z + 1) := fun z => rfl; exact (brF_3 (c := pcb (bitL f) k) (x := j) c_2 (stA_p (v := false) c_3 ((hp1 j (by omega)).trans c_4)) c_5 (enA_0 _ c_6) c_7).symm) ls hl (by omega)
                  · skip
                    have c_7 : (q - 1) = 0 := (nI_e0 (a := (q - 1)) (by omega)).mp c_7
                    refine lv_iload hx hb dX1_nthBorder_81 (lv_at hl 5 rfl) ?_
                    subst hQ
                    refine W.iret (v := (nI j)) hx hb hr (fun t ht hW => ⟨(nI j), rfl, ?_, ht⟩) (fun q h => absurd h List.not_mem_nil) dX1_nthBorder_83
                    rw [← hv, show 256 - j = (256 - (j + 1)) + 1 by omega]
                    have hp1 : ∀ z, 0 < z → pcb (bitL f) k (z - 1) = bitL f (256 * k + z - 1) := fun z hz => congrArg (bitL f) (by omega)
                    have hp2 : ∀ z, pcb (bitL f) k (z + 1) = bitL f (256 * k + z + 1) := fun z => rfl
                    exact (brF_2 (c := pcb (bitL f) k) (x := j) c_2 (stA_p (v := false) c_3 ((hp1 j (by omega)).trans c_4)) c_5 (enA_0 _ c_6) c_7).symm
                · skip
                  have c_6 : ¬ (j = 255) := fun z => c_6 ((nI_eq (a := j) (b := 255) (by omega) (by omega)).mpr z)
                  refine lv_aload_n hx hb dX1_nthBorder_66 rfl (lv_at hl 2 rfl) ?_
                  refine lv_iload hx hb dX1_nthBorder_67 (lv_at hl 1 rfl) ?_
                  refine lv_iconst (v := (nI 1)) hx hb dX1_nthBorder_69 (by decide) ?_
                  refine lv_iadd hx hb dX1_nthBorder_70 ?_
                  refine top_i (nI_add ((256 * k) + j) 1) ?_
                  refine vp_callSi (va_Run.run (va_runV (As := [.int (nI (((256 * k) + j) + 1))]) (rest := []) ⟨hx, hb, hml, hown, hts⟩ (k_X1_holds l D T h0 w0 f (nI (((256 * k) + j) + 1)) ) (cwV 1 hts gX1_nthBorder_X1_holds rfl rfl rfl (by decide +kernel) ⟨Nat.le_of_ble_eq_true rfl, Nat.le_of_ble_eq_true rfl⟩) (pre_V (Φ := fun X => Num D T X h0 w0 f) hK (hN.1) rfl hN) rfl rfl hl.1 rfl (lv_room (Nat.le_of_ble_eq_true rfl)) dX1_nthBorder_71 ⟨Nat.le_of_ble_eq_true rfl, Nat.le_of_ble_eq_true rfl⟩)) (fun r_3 hr_3 => ?_)
                  subst hr_3
                  refine top_i (x' := (b2i (bitL f (256 * k + j + 1)))) (congrArg b2i (hlt_n (bitL f) (by omega))) ?_
                  refine lv_if_ne (tgt := 87) hx hb dX1_nthBorder_74 (by decide) (fun c_7 => ?_) (fun c_7 => ?_)
                  · skip
                    have c_7 : bitL f (256 * k + j + 1) = true := b2i_n0.mp c_7
                    refine lv_iinc (v := (nI (j + 1))) (lv' := [(4, .int (nI (j + 1))), (3, .int (nI (q - 1))), (5, .int (nI ((256 * k) + j))), (0, .ref h0), (1, .int (nI k)), (2, .int (nI y))]) hx hb dX1_nthBorder_87 hl (k := 5) rfl (iinc_n j 1) (by decide) rfl (fun ls hl => ?_)
                    refine lv_goto (tgt := 5) hx hb dX1_nthBorder_90 (by decide) ?_
                    have hl := lv_sub hl (l' := [(0, .ref h0), (1, .int (nI k)), (2, .int (nI y)), (3, .int (nI (q - 1))), (4, .int (nI (j + 1)))]) [3, 4, 5, 1, 0] rfl
                    exact ih5 (j + 1) (q - 1) (by omega) (by omega) (by rw [← hv, show 256 - j = (256 - (j + 1)) + 1 by omega]; have hp1 : ∀ z, 0 < z → pcb (bitL f) k (z - 1) = bitL f (256 * k + z - 1) := fun z hz => congrArg (bitL f) (by omega); have hp2 : ∀ z, pcb (bitL f) k (z + 1) = bitL f (256 * k + z + 1) := fun z => rfl; exact (brF_4 (c := pcb (bitL f) k) (x := j) c_2 (stA_p (v := false) c_3 ((hp1 j (by omega)).trans c_4)) c_5 (enA_p (v := true) c_6 ((hp2 j).trans c_7))).symm) ls hl (by omega)
                  · skip
                    have c_7 : bitL f (256 * k + j + 1) = false := b2i_0.mp c_7
                    refine lv_iload_n hx hb dX1_nthBorder_77 rfl (lv_at hl 0 rfl) ?_
                    refine lv_if_ne (tgt := 84) hx hb dX1_nthBorder_78 (by decide) (fun c_8 => ?_) (fun c_8 => ?_)
                    · skip
                      have c_8 : ¬ ((q - 1) = 0) := fun z => c_8 ((nI_e0 (a := (q - 1)) (by omega)).mpr z)
                      refine lv_iinc (v := (nI ((q - 1) - 1))) (lv' := [(3, .int (nI ((q - 1) - 1))), (5, .int (nI ((256 * k) + j))), (0, .ref h0), (1, .int (nI k)), (2, .int (nI y)), (4, .int (nI j))]) hx hb dX1_nthBorder_84 hl (k := 0) rfl (iinc_m (a := q - 1) (by omega)) (by decide) rfl (fun ls hl => ?_)
                      refine lv_iinc (v := (nI (j + 1))) (lv' := [(4, .int (nI (j + 1))), (3, .int (nI ((q - 1) - 1))), (5, .int (nI ((256 * k) + j))), (0, .ref h0), (1, .int (nI k)), (2, .int (nI y))]) hx hb dX1_nthBorder_87 hl (k := 5) rfl (iinc_n j 1) (by decide) rfl (fun ls hl => ?_)
                      refine lv_goto (tgt := 5) hx hb dX1_nthBorder_90 (by decide) ?_
                      have hl := lv_sub hl (l' := [(0, .ref h0), (1, .int (nI k)), (2, .int (nI y)), (3, .int (nI ((q - 1) - 1))), (4, .int (nI (j + 1)))]) [3, 4, 5, 1, 0] rfl
                      exact ih5 (j + 1) ((q - 1) - 1) (by omega) (by omega) (by rw [← hv, show 256 - j = (256 - (j + 1)) + 1 by omega]; have hp1 : ∀ z, 0 < z → pcb (bitL f) k (z - 1) = bitL f (256 * k + z - 1) := fun z hz => congrArg (bitL f) (by omega); have hp2 : ∀ z, pcb (bitL f) k (z + 1) = bitL f (256 * k + z + 1) := fun z => rfl; exact (brF_3 (c := pcb (bitL f) k) (x := j) c_2 (stA_p (v := false) c_3 ((hp1 j (by omega)).trans c_4)) c_5 (enA_p (v := false) c_6 ((hp2 j).trans c_7)) c_8).symm) ls hl (by omega)
                    · skip
                      have c_8 : (q - 1) = 0 := (nI_e0 (a := (q - 1)) (by omega)).mp c_8
                      refine lv_iload hx hb dX1_nthBorder_81 (lv_at hl 5 rfl) ?_
                      subst hQ
                      refine W.iret (v := (nI j)) hx hb hr (fun t ht hW => ⟨(nI j), rfl, ?_, ht⟩) (fun q h => absurd h List.not_mem_nil) dX1_nthBorder_83
                      rw [← hv, show 256 - j = (256 - (j + 1)) + 1 by omega]
                      have hp1 : ∀ z, 0 < z → pcb (bitL f) k (z - 1) = bitL f (256 * k + z - 1) := fun z hz => congrArg (bitL f) (by omega)
                      have hp2 : ∀ z, pcb (bitL f) k (z + 1) = bitL f (256 * k + z + 1) := fun z => rfl
                      exact (brF_2 (c := pcb (bitL f) k) (x := j) c_2 (stA_p (v := false) c_3 ((hp1 j (by omega)).trans c_4)) c_5 (enA_p (v := false) c_6 ((hp2 j).trans c_7)) c_8).symm
              · skip
                have c_5 : q = 0 := (nI_e0 (a := q) (by omega)).mp c_5
                refine lv_iload hx hb dX1_nthBorder_52 (lv_at hl 5 rfl) ?_
                subst hQ
                refine W.iret (v := (nI j)) hx hb hr (fun t ht hW => ⟨(nI j), rfl, ?_, ht⟩) (fun q h => absurd h List.not_mem_nil) dX1_nthBorder_54
                rw [← hv, show 256 - j = (256 - (j + 1)) + 1 by omega]
                have hp1 : ∀ z, 0 < z → pcb (bitL f) k (z - 1) = bitL f (256 * k + z - 1) := fun z hz => congrArg (bitL f) (by omega)
                have hp2 : ∀ z, pcb (bitL f) k (z + 1) = bitL f (256 * k + z + 1) := fun z => rfl
                exact (brF_1 (c := pcb (bitL f) k) (x := j) c_2 (stA_p (v := false) c_3 ((hp1 j (by omega)).trans c_4)) c_5).symm
  have hl := lv_sub hl (l' := [(0, .ref h0), (1, .int (nI k)), (2, .int (nI y)), (3, .int (nI y)), (4, .int (nI 0))]) [2, 3, 4, 1, 0] rfl
  exact loop5 (256 - 0 + 1) 0 y (Nat.zero_le _) (hy) (rfl) ls hl (Nat.lt_succ_self _)
set_option maxHeartbeats 4000000 in
set_option maxRecDepth 100000 in
theorem k_X1_writtenByte (l : Launch) (D : va_G) (T : Nat → ClassId) (h0 : Nat) (w0 : Nat) (f : Nat → Int64) (k : Nat) (y : Nat) (hk : k < 16) (hy : y < cst (pn (bitL f) k) (pr (bitL f) k)) : Met l yX1_writtenByte wsX1_writtenByte ({ frames := 4, cells := 0, slots := 0, locals := 110 }) (va_Pc [.ref h0, .int (nI k), .int (nI y)] (fun U => KS D T U ∧ Num D T U.heap h0 w0 f)) (vp_Si (fun r => r = (wb (bitL f) k y))) 0 0 (fun _ => False) := by
  refine Met.ofW (cc := cX1_writtenByte) (maxL := 4) (ret := (some .int)) (by decide) rfl ?_
  intro pg ev s m args below meth c s₁ B hml hv
  obtain ⟨rfl, hK, hH⟩ := hv
  have hx := B.exec
  have hb := B.bytes
  have hr := B.returns
  have hts := atoms_spec (ws := wsX1_writtenByte) B.pre
  have hown : s.vm.findClass RX1 = some m.cls := findClass_of_methodNamed B.named
  have hlocks := B.notSynchronized
  have in_wsX10 : ∀ w ∈ wsX10, w ∈ wsX1_writtenByte := fun w h => List.mem_cons_of_mem _ (List.mem_append_right _ h)
  have hl := lv_entry ([.ref h0, .int (nI k), .int (nI y)]) (n := 4) (Nat.le_of_ble_eq_true rfl)
  rw [lg_entry_eq]
  generalize (lg_sl ([.ref h0, .int (nI k), .int (nI y)]) ++ List.replicate (4 - (lg_sl ([.ref h0, .int (nI k), .int (nI y)])).length) Slot.unset).toArray = ls at hl ⊢
  have hl : lv_has ls 4 [(0, .ref h0), (1, .int (nI k)), (2, .int (nI y))] := hl
  refine W_gen (fun Q hQ => ?_)
  have hN := hH
  have hkd := kd_inv (pn (bitL f) k) (pr (bitL f) k)
  have hpn := ct_le (bitL f) (256 * k) 256
  have hpr := ct_le (rsG (bitL f) (256 * k)) (256 * k) (256 * 1)
  have hcs := cst_le (pn (bitL f) k) (pr (bitL f) k)
  refine lv_aload_n hx hb dX1_writtenByte_0 rfl (lv_at hl 0 rfl) ?_
  refine lv_iload_n hx hb dX1_writtenByte_1 rfl (lv_at hl 1 rfl) ?_
  refine vp_callSi (va_Run.run (va_runV (As := [.int (nI k)]) (rest := []) ⟨hx, hb, hml, hown, hts⟩ (k_X1_kindOf l D T h0 w0 f k (by omega)) (cwV 1 hts gX1_writtenByte_X1_kindOf rfl rfl rfl (by decide +kernel) ⟨Nat.le_of_ble_eq_true rfl, Nat.le_of_ble_eq_true rfl⟩) (pre_V (Φ := fun X => Num D T X h0 w0 f) hK (hN.1) rfl hN) rfl rfl hl.1 rfl (lv_room (Nat.le_of_ble_eq_true rfl)) dX1_writtenByte_2 ⟨Nat.le_of_ble_eq_true rfl, Nat.le_of_ble_eq_true rfl⟩)) (fun r_1 hr_1 => ?_)
  subst hr_1
  refine lv_istore_n (lv' := [(3, .int (pkd (bitL f) k)), (0, .ref h0), (1, .int (nI k)), (2, .int (nI y))]) hx hb dX1_writtenByte_5 rfl hl (by decide) rfl (fun ls hl => ?_)
  refine lv_iload_n hx hb dX1_writtenByte_6 rfl (lv_at hl 3 rfl) ?_
  refine lv_if_ne (tgt := 16) hx hb dX1_writtenByte_7 (by decide) (fun c_1 => ?_) (fun c_1 => ?_)
  · skip
    have c_1 : ¬ (y = 0) := fun z => c_1 ((nI_e0 (a := y) (by omega)).mpr z)
    refine lv_iload_n hx hb dX1_writtenByte_16 rfl (lv_at hl 0 rfl) ?_
    refine lv_iconst (v := (nI 2)) hx hb dX1_writtenByte_17 (by decide) ?_
    refine lv_icmp_ne (tgt := 30) hx hb dX1_writtenByte_18 (by decide) (fun c_2 => ?_) (fun c_2 => ?_)
    · skip
      refine lv_iload_n hx hb dX1_writtenByte_30 rfl (lv_at hl 3 rfl) ?_
      refine lv_iconst (v := (nI 1)) hx hb dX1_writtenByte_31 (by decide) ?_
      refine lv_icmp_ne (tgt := 54) hx hb dX1_writtenByte_32 (by decide) (fun c_3 => ?_) (fun c_3 => ?_)
      · skip
        have c_3 : ¬ (y = 1) := fun z => c_3 ((nI_eq (a := y) (b := 1) (by omega) (by omega)).mpr z)
        refine lv_iload_n hx hb dX1_writtenByte_54 rfl (lv_at hl 0 rfl) ?_
        refine lv_if_ne (tgt := 69) hx hb dX1_writtenByte_55 (by decide) (fun c_4 => ?_) (fun c_4 => ?_)
        · skip
          refine lv_aload_n hx hb dX1_writtenByte_69 rfl (lv_at hl 1 rfl) ?_
          refine lv_iload_n hx hb dX1_writtenByte_70 rfl (lv_at hl 2 rfl) ?_
          refine lv_iload_n hx hb dX1_writtenByte_71 rfl (lv_at hl 3 rfl) ?_
          refine lv_iconst (v := (nI 2)) hx hb dX1_writtenByte_72 (by decide) ?_
          refine lv_isub hx hb dX1_writtenByte_73 ?_
          refine top_i (pk_sub (a := y) (b := 2) (by omega)) ?_
          refine vp_callSi (va_Run.run (va_runV (As := [.int (nI k), .int (nI (y - 2))]) (rest := []) ⟨hx, hb, hml, hown, hts⟩ (k_X1_nthBorder l D T h0 w0 f k (y - 2) (by omega) (by omega)) (cwV 2 hts gX1_writtenByte_X1_nthBorder rfl rfl rfl (by decide +kernel) ⟨Nat.le_of_ble_eq_true rfl, Nat.le_of_ble_eq_true rfl⟩) (pre_V (Φ := fun X => Num D T X h0 w0 f) hK (hN.1) rfl hN) rfl rfl hl.1 rfl (lv_room (Nat.le_of_ble_eq_true rfl)) dX1_writtenByte_74 ⟨Nat.le_of_ble_eq_true rfl, Nat.le_of_ble_eq_true rfl⟩)) (fun r_2 hr_2 => ?_)
          subst hr_2
          subst hQ
          refine W.iret (v := (brd (bitL f) k (y - 2))) hx hb hr (fun t ht hW => ⟨(brd (bitL f) k (y - 2)), rfl, ?_, ht⟩) (fun q h => absurd h List.not_mem_nil) dX1_writtenByte_77
          unfold wb
          rw [if_neg c_1, if_neg c_2, if_neg c_3]
          first | exact (if_pos (c_4.trans nI_0.symm)).symm | exact (if_neg (fun z => c_4 (z.trans nI_0))).symm
        · skip
          refine lv_aload_n hx hb dX1_writtenByte_58 rfl (lv_at hl 1 rfl) ?_
          refine lv_iload_n hx hb dX1_writtenByte_59 rfl (lv_at hl 2 rfl) ?_
          refine lv_iload_n hx hb dX1_writtenByte_60 rfl (lv_at hl 3 rfl) ?_
          refine lv_iconst (v := (nI 2)) hx hb dX1_writtenByte_61 (by decide) ?_
          refine lv_isub hx hb dX1_writtenByte_62 ?_
          refine top_i (pk_sub (a := y) (b := 2) (by omega)) ?_
          refine vp_callSi (va_Run.run (va_runV (As := [.int (nI k), .int (nI (y - 2))]) (rest := []) ⟨hx, hb, hml, hown, hts⟩ (k_X1_nthPlace l D T h0 w0 f k (y - 2) (by omega) (by have := cst_0 (c_4.trans nI_0.symm); omega)) (cwV 2 hts gX1_writtenByte_X1_nthPlace rfl rfl rfl (by decide +kernel) ⟨Nat.le_of_ble_eq_true rfl, Nat.le_of_ble_eq_true rfl⟩) (pre_V (Φ := fun X => Num D T X h0 w0 f) hK (hN.1) rfl hN) rfl rfl hl.1 rfl (lv_room (Nat.le_of_ble_eq_true rfl)) dX1_writtenByte_63 ⟨Nat.le_of_ble_eq_true rfl, Nat.le_of_ble_eq_true rfl⟩)) (fun r_2 hr_2 => ?_)
          subst hr_2
          refine lv_goto (tgt := 77) hx hb dX1_writtenByte_66 (by decide) ?_
          subst hQ
          refine W.iret (v := (plc (bitL f) k (y - 2))) hx hb hr (fun t ht hW => ⟨(plc (bitL f) k (y - 2)), rfl, ?_, ht⟩) (fun q h => absurd h List.not_mem_nil) dX1_writtenByte_77
          unfold wb
          rw [if_neg c_1, if_neg c_2, if_neg c_3]
          first | exact (if_pos (c_4.trans nI_0.symm)).symm | exact (if_neg (fun z => c_4 (z.trans nI_0))).symm
      · skip
        have c_3 : y = 1 := (nI_eq (a := y) (b := 1) (by omega) (by omega)).mp c_3
        refine lv_iload_n hx hb dX1_writtenByte_35 rfl (lv_at hl 0 rfl) ?_
        refine lv_if_ne (tgt := 47) hx hb dX1_writtenByte_36 (by decide) (fun c_4 => ?_) (fun c_4 => ?_)
        · skip
          refine lv_aload_n hx hb dX1_writtenByte_47 rfl (lv_at hl 1 rfl) ?_
          refine lv_iload_n hx hb dX1_writtenByte_48 rfl (lv_at hl 2 rfl) ?_
          refine lv_iconst (v := (nI 1)) hx hb dX1_writtenByte_49 (by decide) ?_
          refine vp_callSi (va_Run.run (va_runV (As := [.int (nI k), .int (nI 1)]) (rest := []) ⟨hx, hb, hml, hown, hts⟩ (k_X1_countRuns l D T h0 w0 f k 1 (by omega)) (cwV 2 hts gX1_writtenByte_X1_countRuns rfl rfl rfl (by decide +kernel) ⟨Nat.le_of_ble_eq_true rfl, Nat.le_of_ble_eq_true rfl⟩) (pre_V (Φ := fun X => Num D T X h0 w0 f) hK (hN.1) rfl hN) rfl rfl hl.1 rfl (lv_room (Nat.le_of_ble_eq_true rfl)) dX1_writtenByte_50 ⟨Nat.le_of_ble_eq_true rfl, Nat.le_of_ble_eq_true rfl⟩)) (fun r_2 hr_2 => ?_)
          subst hr_2
          subst hQ
          refine W.iret (v := (nI (ct (rsG (bitL f) (256 * k)) (256 * k) (256 * 1)))) hx hb hr (fun t ht hW => ⟨(nI (ct (rsG (bitL f) (256 * k)) (256 * k) (256 * 1))), rfl, ?_, ht⟩) (fun q h => absurd h List.not_mem_nil) dX1_writtenByte_53
          unfold wb
          rw [if_neg c_1, if_neg c_2, if_pos c_3]
          first | exact (if_pos (c_4.trans nI_0.symm)).symm | exact (if_neg (fun z => c_4 (z.trans nI_0))).symm
        · skip
          refine lv_aload_n hx hb dX1_writtenByte_39 rfl (lv_at hl 1 rfl) ?_
          refine lv_iload_n hx hb dX1_writtenByte_40 rfl (lv_at hl 2 rfl) ?_
          refine vp_callSi (va_Run.run (va_runV (As := [.int (nI k)]) (rest := []) ⟨hx, hb, hml, hown, hts⟩ (k_X1_countInPiece l D T h0 w0 f k (by omega)) (cwV 1 hts gX1_writtenByte_X1_countInPiece rfl rfl rfl (by decide +kernel) ⟨Nat.le_of_ble_eq_true rfl, Nat.le_of_ble_eq_true rfl⟩) (pre_V (Φ := fun X => Num D T X h0 w0 f) hK (hN.1) rfl hN) rfl rfl hl.1 rfl (lv_room (Nat.le_of_ble_eq_true rfl)) dX1_writtenByte_41 ⟨Nat.le_of_ble_eq_true rfl, Nat.le_of_ble_eq_true rfl⟩)) (fun r_2 hr_2 => ?_)
          subst hr_2
          refine lv_goto (tgt := 53) hx hb dX1_writtenByte_44 (by decide) ?_
          subst hQ
          refine W.iret (v := (nI (ct (bitL f) (256 * k) 256))) hx hb hr (fun t ht hW => ⟨(nI (ct (bitL f) (256 * k) 256)), rfl, ?_, ht⟩) (fun q h => absurd h List.not_mem_nil) dX1_writtenByte_53
          unfold wb
          rw [if_neg c_1, if_neg c_2, if_pos c_3]
          first | exact (if_pos (c_4.trans nI_0.symm)).symm | exact (if_neg (fun z => c_4 (z.trans nI_0))).symm
    · skip
      refine lv_aload_n hx hb dX1_writtenByte_21 rfl (lv_at hl 1 rfl) ?_
      refine lv_iload_n hx hb dX1_writtenByte_22 rfl (lv_at hl 2 rfl) ?_
      refine lv_iload_n hx hb dX1_writtenByte_23 rfl (lv_at hl 3 rfl) ?_
      refine lv_iconst (v := (nI 1)) hx hb dX1_writtenByte_24 (by decide) ?_
      refine lv_isub hx hb dX1_writtenByte_25 ?_
      refine top_i (pk_sub (a := y) (b := 1) (by omega)) ?_
      refine vp_callSi (va_Run.run (va_runV (As := [.int (nI k), .int (nI (y - 1))]) (rest := []) ⟨hx, hb, hml, hown, hts⟩ (k_X1_bitmapByte l D T h0 w0 f k (y - 1) (by omega) (by have := cst_2 c_2; omega)) (cwV 2 hts gX1_writtenByte_X1_bitmapByte rfl rfl rfl (by decide +kernel) ⟨Nat.le_of_ble_eq_true rfl, Nat.le_of_ble_eq_true rfl⟩) (pre_V (Φ := fun X => Num D T X h0 w0 f) hK (hN.1) rfl hN) rfl rfl hl.1 rfl (lv_room (Nat.le_of_ble_eq_true rfl)) dX1_writtenByte_26 ⟨Nat.le_of_ble_eq_true rfl, Nat.le_of_ble_eq_true rfl⟩)) (fun r_2 hr_2 => ?_)
      subst hr_2
      subst hQ
      refine W.iret (v := (nI (byN (bitL f) (256 * k + 8 * (y - 1))))) hx hb hr (fun t ht hW => ⟨(nI (byN (bitL f) (256 * k + 8 * (y - 1)))), rfl, ?_, ht⟩) (fun q h => absurd h List.not_mem_nil) dX1_writtenByte_29
      exact ((if_neg c_1).trans (if_pos c_2)).symm
  · skip
    have c_1 : y = 0 := (nI_e0 (a := y) (by omega)).mp c_1
    refine lv_iconst (v := (nI 4)) hx hb dX1_writtenByte_10 (by decide) ?_
    refine lv_iload_n hx hb dX1_writtenByte_11 rfl (lv_at hl 2 rfl) ?_
    refine lv_imul hx hb dX1_writtenByte_12 ?_
    refine top_i (pk_mul 4 k) ?_
    refine lv_iload_n hx hb dX1_writtenByte_13 rfl (lv_at hl 0 rfl) ?_
    refine lv_iadd hx hb dX1_writtenByte_14 ?_
    subst hQ
    refine W.iret (v := ((nI (4 * k)) + (pkd (bitL f) k))) hx hb hr (fun t ht hW => ⟨((nI (4 * k)) + (pkd (bitL f) k)), rfl, ?_, ht⟩) (fun q h => absurd h List.not_mem_nil) dX1_writtenByte_15
    exact (if_pos c_1).symm
