set_option maxHeartbeats 4000000 in
set_option maxRecDepth 100000 in
theorem k_X3_isRange (l : Launch) (D : va_G) (T : Nat → ClassId) (x : Int32) (y : Int32) : Met l yX3_isRange wsX3_isRange ({ frames := 1, cells := 0, slots := 0, locals := 20 }) (va_Pc [.int x, .int y] (fun U => KS D T U ∧ True)) (vp_Si (fun r => r = (b2i (decide (¬ x < 0 ∧ x < nI 4096 ∧ ¬ y < 0 ∧ y < nI 4096 ∧ x ≤ y))))) 0 0 (fun _ => False) := by
  refine Met.ofW (cc := cX3_isRange) (maxL := 2) (ret := (some .boolean)) (by decide) rfl ?_
  intro pg ev s m args below meth c s₁ B hml hv
  obtain ⟨rfl, hK, hH⟩ := hv
  have hx := B.exec
  have hb := B.bytes
  have hr := B.returns
  have hts := atoms_spec (ws := wsX3_isRange) B.pre
  have hown : s.vm.findClass RX3 = some m.cls := findClass_of_methodNamed B.named
  have hlocks := B.notSynchronized
  have hl := lv_entry ([.int x, .int y]) (n := 2) (Nat.le_of_ble_eq_true rfl)
  rw [lg_entry_eq]
  generalize (lg_sl ([.int x, .int y]) ++ List.replicate (2 - (lg_sl ([.int x, .int y])).length) Slot.unset).toArray = ls at hl ⊢
  have hl : lv_has ls 2 [(0, .int x), (1, .int y)] := hl
  refine W_gen (fun Q hQ => ?_)
  refine lv_iload_n hx hb dX3_isRange_0 rfl (lv_at hl 0 rfl) ?_
  refine vp_callSi (va_Run.run (va_runS (As := [.int x]) (rest := []) ⟨hx, hb, hml, hown, hts⟩ (k_X3_isNumber l D T x ) (va_cwS 1 hts gX3_isRange_X3_isNumber rfl rfl rfl (by decide +kernel) ⟨Nat.le_of_ble_eq_true rfl, Nat.le_of_ble_eq_true rfl⟩) (pre_S (Φ := fun X => True) hK trivial) rfl rfl hl.1 rfl (lv_room (Nat.le_of_ble_eq_true rfl)) dX3_isRange_1 ⟨Nat.le_of_ble_eq_true rfl, Nat.le_of_ble_eq_true rfl⟩)) (fun r_1 hr_1 => ?_)
  subst hr_1
  refine lv_if_eq (tgt := 23) hx hb dX3_isRange_4 (by decide) (fun c_1 => ?_) (fun c_1 => ?_)
  · skip
    have c_1 : (decide (¬ x < 0 ∧ x < nI 4096)) = false := b2i_0.mp c_1
    have c_1 : ¬ (¬ x < 0 ∧ x < nI 4096) := of_decide_eq_false c_1
    refine lv_iconst (v := (nI 0)) hx hb dX3_isRange_23 (by decide) ?_
    subst hQ
    refine W.zret (v := (nI 0)) hx hb hr nb0 (fun t ht hW => ⟨(nI 0), rfl, ?_, ht⟩) (fun q h => absurd h List.not_mem_nil) dX3_isRange_24
    exact r0 (decide_eq_false (fun z => c_1 ⟨z.1, z.2.1⟩))
  · skip
    have c_1 : (decide (¬ x < 0 ∧ x < nI 4096)) = true := b2i_n0.mp c_1
    have c_1 : ¬ x < 0 ∧ x < nI 4096 := of_decide_eq_true c_1
    refine lv_iload_n hx hb dX3_isRange_7 rfl (lv_at hl 1 rfl) ?_
    refine vp_callSi (va_Run.run (va_runS (As := [.int y]) (rest := []) ⟨hx, hb, hml, hown, hts⟩ (k_X3_isNumber l D T y ) (va_cwS 1 hts gX3_isRange_X3_isNumber rfl rfl rfl (by decide +kernel) ⟨Nat.le_of_ble_eq_true rfl, Nat.le_of_ble_eq_true rfl⟩) (pre_S (Φ := fun X => True) hK trivial) rfl rfl hl.1 rfl (lv_room (Nat.le_of_ble_eq_true rfl)) dX3_isRange_8 ⟨Nat.le_of_ble_eq_true rfl, Nat.le_of_ble_eq_true rfl⟩)) (fun r_2 hr_2 => ?_)
    subst hr_2
    refine lv_if_eq (tgt := 23) hx hb dX3_isRange_11 (by decide) (fun c_2 => ?_) (fun c_2 => ?_)
    · skip
      have c_2 : (decide (¬ y < 0 ∧ y < nI 4096)) = false := b2i_0.mp c_2
      have c_2 : ¬ (¬ y < 0 ∧ y < nI 4096) := of_decide_eq_false c_2
      refine lv_iconst (v := (nI 0)) hx hb dX3_isRange_23 (by decide) ?_
      subst hQ
      refine W.zret (v := (nI 0)) hx hb hr nb0 (fun t ht hW => ⟨(nI 0), rfl, ?_, ht⟩) (fun q h => absurd h List.not_mem_nil) dX3_isRange_24
      exact r0 (decide_eq_false (fun z => c_2 ⟨z.2.2.1, z.2.2.2.1⟩))
    · skip
      have c_2 : (decide (¬ y < 0 ∧ y < nI 4096)) = true := b2i_n0.mp c_2
      have c_2 : ¬ y < 0 ∧ y < nI 4096 := of_decide_eq_true c_2
      refine lv_iload_n hx hb dX3_isRange_14 rfl (lv_at hl 0 rfl) ?_
      refine lv_iload_n hx hb dX3_isRange_15 rfl (lv_at hl 1 rfl) ?_
      refine lv_icmp_gt (tgt := 23) hx hb dX3_isRange_16 (by decide) (fun c_3 => ?_) (fun c_3 => ?_)
      · skip
        refine lv_iconst (v := (nI 0)) hx hb dX3_isRange_23 (by decide) ?_
        subst hQ
        refine W.zret (v := (nI 0)) hx hb hr nb0 (fun t ht hW => ⟨(nI 0), rfl, ?_, ht⟩) (fun q h => absurd h List.not_mem_nil) dX3_isRange_24
        exact r0 (decide_eq_false (fun z => Int32.not_le.mpr c_3 z.2.2.2.2))
      · skip
        refine lv_iconst (v := (nI 1)) hx hb dX3_isRange_19 (by decide) ?_
        refine lv_goto (tgt := 24) hx hb dX3_isRange_20 (by decide) ?_
        subst hQ
        refine W.zret (v := (nI 1)) hx hb hr nb1 (fun t ht hW => ⟨(nI 1), rfl, ?_, ht⟩) (fun q h => absurd h List.not_mem_nil) dX3_isRange_24
        exact r1 (decide_eq_true ⟨c_1.1, c_1.2, c_2.1, c_2.2, Int32.not_lt.mp c_3⟩)
set_option maxHeartbeats 4000000 in
set_option maxRecDepth 100000 in
theorem k_X3_greatestDivisor (l : Launch) (D : va_G) (T : Nat → ClassId) (x : Nat) (y : Nat) (hx1 : x < 5000) (hy1 : y < 5000) : Met l yX3_greatestDivisor wsX3_greatestDivisor ({ frames := 0, cells := 0, slots := 0, locals := 0 }) (va_Pc [.int (nI x), .int (nI y)] (fun U => KS D T U ∧ True)) (vp_Si (fun r => r = (nI (Nat.gcd x y)))) 0 0 (fun _ => False) := by
  refine Met.ofW (cc := cX3_greatestDivisor) (maxL := 6) (ret := (some .int)) (by decide) rfl ?_
  intro pg ev s m args below meth c s₁ B hml hv
  obtain ⟨rfl, hK, hH⟩ := hv
  have hx := B.exec
  have hb := B.bytes
  have hr := B.returns
  have hts := atoms_spec (ws := wsX3_greatestDivisor) B.pre
  have hown : s.vm.findClass RX3 = some m.cls := findClass_of_methodNamed B.named
  have hlocks := B.notSynchronized
  have hl := lv_entry ([.int (nI x), .int (nI y)]) (n := 6) (Nat.le_of_ble_eq_true rfl)
  rw [lg_entry_eq]
  generalize (lg_sl ([.int (nI x), .int (nI y)]) ++ List.replicate (6 - (lg_sl ([.int (nI x), .int (nI y)])).length) Slot.unset).toArray = ls at hl ⊢
  have hl : lv_has ls 6 [(0, .int (nI x)), (1, .int (nI y))] := hl
  refine W_gen (fun Q hQ => ?_)
  refine lv_iload_n hx hb dX3_greatestDivisor_0 rfl (lv_at hl 0 rfl) ?_
  refine lv_istore_n (lv' := [(2, .int (nI x)), (0, .int (nI x)), (1, .int (nI y))]) hx hb dX3_greatestDivisor_1 rfl hl (by decide) rfl (fun ls hl => ?_)
  refine lv_iload_n hx hb dX3_greatestDivisor_2 rfl (lv_at hl 2 rfl) ?_
  refine lv_istore_n (lv' := [(3, .int (nI y)), (2, .int (nI x)), (0, .int (nI x)), (1, .int (nI y))]) hx hb dX3_greatestDivisor_3 rfl hl (by decide) rfl (fun ls hl => ?_)
  refine lv_iconst (v := (nI 0)) hx hb dX3_greatestDivisor_4 (by decide) ?_
  refine lv_istore (lv' := [(4, .int (nI 0)), (3, .int (nI y)), (2, .int (nI x)), (0, .int (nI x)), (1, .int (nI y))]) hx hb dX3_greatestDivisor_5 hl (by decide) rfl (fun ls hl => ?_)
  have loop7 : ∀ (n7 : Nat) (i : Nat) (u : Nat) (v : Nat) (hi : i ≤ 64) (hu : u < 5000) (hv : v < 5000) (hg : Nat.gcd u v = Nat.gcd x y) (hgb : gdb i u v) (ls : Array Slot) (hl : lv_has ls 6 [(0, .int (nI x)), (1, .int (nI y)), (2, .int (nI u)), (3, .int (nI v)), (4, .int (nI i))]) (hn7 : 64 - i < n7), W pg l ev (headSpec wsX3_greatestDivisor ({ frames := 0, cells := 0, slots := 0, locals := 0 })).room s m ([.int (nI x), .int (nI y)] : List Value).toArray below meth c s.heap [] 0 0 Q (F0 m 7 ls []) := by
    intro n7
    induction n7 with
    | zero =>
      intro i u v hi hu hv hg hgb ls hl hn7
      exact absurd hn7 (Nat.not_lt_zero _)
    | succ n7 ih7 =>
      intro i u v hi hu hv hg hgb ls hl hn7
      refine lv_iload hx hb dX3_greatestDivisor_7 (lv_at hl 4 rfl) ?_
      refine lv_bipush (v := (nI 64)) hx hb dX3_greatestDivisor_9 (by decide) ?_
      refine lv_icmp_ge (tgt := 34) hx hb dX3_greatestDivisor_11 (by decide) (fun c_1 => ?_) (fun c_1 => ?_)
      · skip
        have c_1 : 64 ≤ i := (nI_leI (a := 64) (b := i) (by omega) (by omega)).mp c_1
        refine lv_iload_n hx hb dX3_greatestDivisor_34 rfl (lv_at hl 2 rfl) ?_
        subst hQ
        refine W.iret (v := (nI u)) hx hb hr (fun t ht hW => ⟨(nI u), rfl, ?_, ht⟩) (fun q h => absurd h List.not_mem_nil) dX3_greatestDivisor_35
        rw [← hg, show v = 0 from (gdb_end hgb (by omega)), Nat.gcd_zero_right]
      · skip
        have c_1 : ¬ (64 ≤ i) := fun z => c_1 ((nI_leI (a := 64) (b := i) (by omega) (by omega)).mpr z)
        refine lv_iload_n hx hb dX3_greatestDivisor_14 rfl (lv_at hl 3 rfl) ?_
        refine lv_if_eq (tgt := 34) hx hb dX3_greatestDivisor_15 (by decide) (fun c_2 => ?_) (fun c_2 => ?_)
        · skip
          have c_2 : v = 0 := (nI_e0 (a := v) (by omega)).mp c_2
          refine lv_iload_n hx hb dX3_greatestDivisor_34 rfl (lv_at hl 2 rfl) ?_
          subst hQ
          refine W.iret (v := (nI u)) hx hb hr (fun t ht hW => ⟨(nI u), rfl, ?_, ht⟩) (fun q h => absurd h List.not_mem_nil) dX3_greatestDivisor_35
          rw [← hg, c_2, Nat.gcd_zero_right]
        · skip
          have c_2 : ¬ (v = 0) := fun z => c_2 ((nI_e0 (a := v) (by omega)).mpr z)
          refine lv_iload_n hx hb dX3_greatestDivisor_18 rfl (lv_at hl 2 rfl) ?_
          refine lv_iload_n hx hb dX3_greatestDivisor_19 rfl (lv_at hl 3 rfl) ?_
          refine lv_irem hx hb dX3_greatestDivisor_20 (fun z => c_2 ((nI_e0 (by omega)).mp z)) ?_
          refine top_i (pk_rem (a := u) (d := v) (by omega) (by omega) (by omega)) ?_
          refine lv_istore (lv' := [(5, .int (nI (u % v))), (0, .int (nI x)), (1, .int (nI y)), (2, .int (nI u)), (3, .int (nI v)), (4, .int (nI i))]) hx hb dX3_greatestDivisor_21 hl (by decide) rfl (fun ls hl => ?_)
          refine lv_iload_n hx hb dX3_greatestDivisor_23 rfl (lv_at hl 4 rfl) ?_
          refine lv_istore_n (lv' := [(2, .int (nI v)), (5, .int (nI (u % v))), (0, .int (nI x)), (1, .int (nI y)), (3, .int (nI v)), (4, .int (nI i))]) hx hb dX3_greatestDivisor_24 rfl hl (by decide) rfl (fun ls hl => ?_)
          refine lv_iload hx hb dX3_greatestDivisor_25 (lv_at hl 1 rfl) ?_
          refine lv_istore_n (lv' := [(3, .int (nI (u % v))), (2, .int (nI v)), (5, .int (nI (u % v))), (0, .int (nI x)), (1, .int (nI y)), (4, .int (nI i))]) hx hb dX3_greatestDivisor_27 rfl hl (by decide) rfl (fun ls hl => ?_)
          refine lv_iinc (v := (nI (i + 1))) (lv' := [(4, .int (nI (i + 1))), (3, .int (nI (u % v))), (2, .int (nI v)), (5, .int (nI (u % v))), (0, .int (nI x)), (1, .int (nI y))]) hx hb dX3_greatestDivisor_28 hl (k := 5) rfl (iinc_n i 1) (by decide) rfl (fun ls hl => ?_)
          refine lv_goto (tgt := 7) hx hb dX3_greatestDivisor_31 (by decide) ?_
          have hl := lv_sub hl (l' := [(0, .int (nI x)), (1, .int (nI y)), (2, .int (nI v)), (3, .int (nI (u % v))), (4, .int (nI (i + 1)))]) [4, 5, 2, 1, 0] rfl
          exact ih7 (i + 1) v (u % v) (by omega) (hv) (by have := Nat.mod_lt u (show 0 < v by omega); omega) (by rw [← hg, Nat.gcd_comm u v, Nat.gcd_rec v u, Nat.gcd_comm]) (gdb_s hgb (by omega) hv) ls hl (by omega)
  have hl := lv_sub hl (l' := [(0, .int (nI x)), (1, .int (nI y)), (2, .int (nI x)), (3, .int (nI y)), (4, .int (nI 0))]) [3, 4, 2, 1, 0] rfl
  exact loop7 (64 - 0 + 1) 0 x y (Nat.zero_le _) (hx1) (hy1) (rfl) (gdb_0 x y) ls hl (Nat.lt_succ_self _)
set_option maxHeartbeats 4000000 in
set_option maxRecDepth 100000 in
theorem k_X3_keepState (l : Launch) (D : va_G) (T : Nat → ClassId) (A : Nat → Nat) (k : Nat) (rb : Nat → Nat) (bl : Nat) (sc : Nat → Int64) (W0 : Nat → Nat → Nat → Int64) (me : Nat → Nat → Int32) (co : Nat → Nat → Int32) (hk5 : k ≤ 5) : Met l yX3_keepState wsX3_keepState ({ frames := 3, cells := 0, slots := 0, locals := 103 }) (va_Pc [.ref (A 0)] (fun U => KS D T U ∧ PSr D T U.heap A k rb bl sc W0 me co)) (va_Qr (fun (u : Unit) => True) (fun u r t => r = slA (rotA A k) (kpt k) 0 ∧ PSr D T t.heap (rotA A k) (kpt k) rb bl sc (rotW W0 k) (rotW me k) (rotW co k)) (fun q => ∃ i, i < 102 ∧ q = A i)) 0 0 (fun q => ∃ i, i < 102 ∧ q = A i) := by
  refine Met.ofW (cc := cX3_keepState) (maxL := 3) (ret := (some (.object "PieceSets$State"))) (by decide) rfl ?_
  intro pg ev s m args below meth c s₁ B hml hv
  obtain ⟨rfl, hK, hH⟩ := hv
  have hx := B.exec
  have hb := B.bytes
  have hr := B.returns
  have hts := atoms_spec (ws := wsX3_keepState) B.pre
  have hown : s.vm.findClass RX3 = some m.cls := findClass_of_methodNamed B.named
  have hlocks := B.notSynchronized
  have in_wsX30 : ∀ w ∈ wsX30, w ∈ wsX3_keepState := fun w h => List.mem_cons_of_mem _ (List.mem_append_left _ (List.mem_append_left _ (List.mem_append_right _ h)))
  have in_wsX20 : ∀ w ∈ wsX20, w ∈ wsX3_keepState := fun w h => List.mem_cons_of_mem _ (List.mem_append_left _ (List.mem_append_right _ h))
  have in_wsX10 : ∀ w ∈ wsX10, w ∈ wsX3_keepState := fun w h => List.mem_cons_of_mem _ (List.mem_append_right _ h)
  have hS : va_S (fun q => ∃ i, i < 102 ∧ q = A i) s.heap s.heap [] := va_S.rf
  have hl := lv_entry ([.ref (A 0)]) (n := 3) (Nat.le_of_ble_eq_true rfl)
  rw [lg_entry_eq]
  generalize (lg_sl ([.ref (A 0)]) ++ List.replicate (3 - (lg_sl ([.ref (A 0)])).length) Slot.unset).toArray = ls at hl ⊢
  have hl : lv_has ls 3 [(0, .ref (A 0))] := hl
  refine W_gen (fun Q hQ => ?_)
  obtain ⟨hi, hO, hP, hX⟩ := hH
  refine lv_aload_n hx hb dX3_keepState_0 rfl (lv_at hl 0 rfl) ?_
  refine r_get (C := RX3) (Tb := TX3) (N := 5) hx hb hts in_wsX30 hown hK (hO) rfl 2 (by decide) (hts (.fieldLink RX3 20 "PieceSets" "kept" "I") (by decide +kernel)) rfl (v := .int (nI k)) rfl dX3_keepState_1 ?_
  refine lv_iconst (v := (nI 5)) hx hb dX3_keepState_4 (by decide) ?_
  refine lv_icmp_lt (tgt := 54) hx hb dX3_keepState_5 (by decide) (fun c_1 => ?_) (fun c_1 => ?_)
  · skip
    have c_1 : k < 5 := (nI_ltI (a := k) (b := 5) (by omega) (by omega)).mp c_1
    refine lv_aload_n hx hb dX3_keepState_54 rfl (lv_at hl 0 rfl) ?_
    refine r_get (C := RX3) (Tb := TX3) (N := 5) hx hb hts in_wsX30 hown hK (hO) rfl 1 (by decide) (hts (.fieldLink RX3 16 "PieceSets" "past" "[LPieceSets$State;") (by decide +kernel)) rfl (v := .ref (A 1)) rfl dX3_keepState_55 ?_
    refine lv_aload_n hx hb dX3_keepState_58 rfl (lv_at hl 0 rfl) ?_
    refine r_get (C := RX3) (Tb := TX3) (N := 5) hx hb hts in_wsX30 hown hK (hO) rfl 2 (by decide) (hts (.fieldLink RX3 20 "PieceSets" "kept" "I") (by decide +kernel)) rfl (v := .int (nI k)) rfl dX3_keepState_59 ?_
    refine r_sald hx hb hK (hP) (i := k) (by omega) (by decide) (q := (slA A (1 + k) 0)) (rfl) dX3_keepState_62 ?_
    refine lv_astore_n (lv' := [(1, .ref (slA A (1 + k) 0)), (0, .ref (A 0))]) hx hb dX3_keepState_63 rfl hl (by decide) rfl (fun ls hl => ?_)
    refine lv_aload_n hx hb dX3_keepState_64 rfl (lv_at hl 0 rfl) ?_
    refine lv_aload_n hx hb dX3_keepState_65 rfl (lv_at hl 1 rfl) ?_
    refine r_get (C := RX3) (Tb := TX3) (N := 5) hx hb hts in_wsX30 hown hK (hO) rfl 0 (by decide) (hts (.fieldLink RX3 10 "PieceSets" "now" "LPieceSets$State;") (by decide +kernel)) rfl (v := .ref (slA A 0 0)) rfl dX3_keepState_66 ?_
    refine va_callv (va_runVN (As := [.ref (slA A 0 0)]) (rest := []) ⟨hx, hb, hml, hown, hts⟩ (k_X2_become l D T (slA A (1 + k)) (W0 (1 + k)) (me (1 + k)) (co (1 + k)) (slA A 0) (W0 0) (me 0) (co 0) (slA_in hi (by omega)) (fun i j h1 h2 z => absurd (slA_inj hi (by omega) (by decide) h1 h2 z).1 (by omega))) (⟨va_cnB 1 hts ggX3_keepState_X2_become rfl rfl rfl (hK.2.m (args := ([.ref (A 0)] : List Value).toArray) 9 rfl) (hts (.initialized RX2) (by decide +kernel)) (by decide +kernel) ⟨Nat.le_of_ble_eq_true rfl, Nat.le_of_ble_eq_true rfl⟩, hts (.instanceMethod yX2_become) (by decide +kernel), hts (.selects RX2 yX2_become yX2_become) (by decide +kernel)⟩) (pre_V (Φ := fun X => Sta D T X (slA A (1 + k)) (W0 (1 + k)) (me (1 + k)) (co (1 + k)) ∧ Sta D T X (slA A 0) (W0 0) (me 0) (co 0)) hK ((hX.2.2 (1 + k) (by omega)).1) rfl ⟨hX.2.2 (1 + k) (by omega), hX.2.2 0 (by decide)⟩) rfl rfl hl.1 rfl (lv_room (Nat.le_of_ble_eq_true rfl)) dX3_keepState_69 ⟨Nat.le_of_ble_eq_true rfl, Nat.le_of_ble_eq_true rfl⟩) hS (fun q _ h => slA_mem (n := (1 + k)) (by omega) h) (fun q h => slA_mem (n := (1 + k)) (by omega) h) (fun u_1 t H_1 locs ht hvm hw hB hz hk hS => ?_)
    rw [ht] at hB
    try dsimp only at hw
    try dsimp only at hB
    have hF : Fr _ _ _ := hk
    have hne : (1 + k) ≠ 0 ∧ (1 + k) < 6 := ⟨by omega, by omega⟩
    have hX := hX.setS (W' := fun n => if n = (1 + k) then W0 0 else W0 n) (me' := fun n => if n = (1 + k) then me 0 else me n) (co' := fun n => if n = (1 + k) then co 0 else co n) hi hne.2 hF (fun q h => h) (by rw [if_pos rfl, if_pos rfl, if_pos rfl]; exact hB) (fun m _ h => if_neg h) (fun m _ h => if_neg h) (fun m _ h => if_neg h)
    have hO := hF.at hO (fun z => by obtain ⟨i, h1, h2⟩ := z; exact slA_lo hi hne.2 h1 (by decide) h2)
    have hP := hF.at hP (fun z => by obtain ⟨i, h1, h2⟩ := z; exact slA_lo hi hne.2 h1 (by decide) h2)
    refine lv_aload_n hx hb dX3_keepState_72 rfl (lv_at hl 1 rfl) ?_
    refine lv_dup hx hb dX3_keepState_73 rfl ?_
    refine r_get (C := RX3) (Tb := TX3) (N := 5) hx hb hts in_wsX30 hown hK (hO) rfl 2 (by decide) (hts (.fieldLink RX3 20 "PieceSets" "kept" "I") (by decide +kernel)) rfl (v := .int (nI k)) rfl dX3_keepState_74 ?_
    refine lv_iconst (v := (nI 1)) hx hb dX3_keepState_77 (by decide) ?_
    refine lv_iadd hx hb dX3_keepState_78 ?_
    refine top_i (nI_add k 1) ?_
    refine r_put (C := RX3) (Tb := TX3) (N := 5) hx hb hts in_wsX30 tyX3 tyX3_ok nmX3 hown hK hS ⟨0, by decide, rfl⟩ hO rfl 2 (by decide) (hts (.fieldLink RX3 20 "PieceSets" "kept" "I") (by decide +kernel)) rfl rfl (ty := .int) (by decide +kernel) rfl rfl (show (2 : Nat) < 5 by decide) dX3_keepState_79 (fun H_2 locs hat oq hS => ?_)
    have hX := hX.fr (Fr.oq oq) (fun i h1 h2 => hi.ne i 0 h2 (by decide) (by omega))
    have hP := (Fr.oq oq).at hP (hi.ne 1 0 (by decide) (by decide) (by decide))
    have hO := hat
    refine lv_aload_n hx hb dX3_keepState_82 rfl (lv_at hl 0 rfl) ?_
    subst hQ
    have hkk : kpt k = k + 1 := if_pos (by omega)
    have hri : ∀ n, rotI k n = n := fun n => if_pos (by omega)
    have hfin := PSr.kept (W := W0) (me := me) (co := co) hk5 hi (by rw [hkk]; exact hO) (at_congR hP (fun j _ => by rw [hri])) hX (fun n _ h => by rw [hri, hkk, Nat.add_comm] at h; exact ⟨if_neg h, if_neg h, if_neg h⟩) (by rw [hri, hkk, Nat.add_comm]; exact ⟨if_pos rfl, if_pos rfl, if_pos rfl⟩)
    have hres : (slA A (1 + k) 0) = slA (rotA A k) (kpt k) 0 := by rw [slA_rot A k (by decide), hri, hkk, Nat.add_comm]
    exact W.aret (v := .ref (slA A (1 + k) 0)) hx hb hr (Or.inl ⟨_, rfl⟩) (Or.inr ⟨_, rfl⟩) (fun t ht hW => ⟨⟨(), (slA A (1 + k) 0), rfl, trivial, by have h9 := And.intro hres hfin; rw [← ht] at h9; exact h9⟩, hS.F ht⟩) hS.2.2 dX3_keepState_83
  · skip
    have c_1 : ¬ (k < 5) := fun z => c_1 ((nI_ltI (a := k) (b := 5) (by omega) (by omega)).mpr z)
    refine lv_aload_n hx hb dX3_keepState_8 rfl (lv_at hl 0 rfl) ?_
    refine r_get (C := RX3) (Tb := TX3) (N := 5) hx hb hts in_wsX30 hown hK (hO) rfl 1 (by decide) (hts (.fieldLink RX3 16 "PieceSets" "past" "[LPieceSets$State;") (by decide +kernel)) rfl (v := .ref (A 1)) rfl dX3_keepState_9 ?_
    refine lv_iconst (v := (nI 0)) hx hb dX3_keepState_12 (by decide) ?_
    refine r_sald hx hb hK (hP) (i := 0) (by omega) (by decide) (q := (slA A (1 + 0) 0)) (rfl) dX3_keepState_13 ?_
    refine lv_astore_n (lv' := [(1, .ref (slA A (1 + 0) 0)), (0, .ref (A 0))]) hx hb dX3_keepState_14 rfl hl (by decide) rfl (fun ls hl => ?_)
    refine lv_iconst (v := (nI 1)) hx hb dX3_keepState_15 (by decide) ?_
    refine lv_istore_n (lv' := [(2, .int (nI 1)), (1, .ref (slA A (1 + 0) 0)), (0, .ref (A 0))]) hx hb dX3_keepState_16 rfl hl (by decide) rfl (fun ls hl => ?_)
    have loop17 : ∀ (n17 : Nat) (i : Nat) (hi1 : 1 ≤ i) (hi5 : i ≤ 5) (H : Heap) (locs : List Loc) (hO : va_at D vwCl (A 0, .inr (3, [.ref (slA A 0 0), .ref (A 1), .int (nI k), .ref (A 2), .ref (A 4)])) H) (hP : va_at D vwCl (A 1, eR T 3 5 (fun j => if j + 1 < i then some (slA A (2 + j) 0) else some (slA A (1 + j) 0))) H) (hX : PSx D T H A rb bl sc W0 me co) (hS : va_S (fun q => ∃ i, i < 102 ∧ q = A i) s.heap H locs) (ls : Array Slot) (hl : lv_has ls 3 [(0, .ref (A 0)), (1, .ref (slA A (1 + 0) 0)), (2, .int (nI i))]) (hn17 : 5 - i < n17), W pg l ev (headSpec wsX3_keepState ({ frames := 3, cells := 0, slots := 0, locals := 103 })).room s m ([.ref (A 0)] : List Value).toArray below meth c H locs 0 0 Q (F0 m 17 ls []) := by
      intro n17
      induction n17 with
      | zero =>
        intro i hi1 hi5 H locs hO hP hX hS ls hl hn17
        exact absurd hn17 (Nat.not_lt_zero _)
      | succ n17 ih17 =>
        intro i hi1 hi5 H locs hO hP hX hS ls hl hn17
        refine lv_iload_n hx hb dX3_keepState_17 rfl (lv_at hl 2 rfl) ?_
        refine lv_iconst (v := (nI 5)) hx hb dX3_keepState_18 (by decide) ?_
        refine lv_icmp_ge (tgt := 42) hx hb dX3_keepState_19 (by decide) (fun c_2 => ?_) (fun c_2 => ?_)
        · skip
          have c_2 : 5 ≤ i := (nI_leI (a := 5) (b := i) (by omega) (by omega)).mp c_2
          refine lv_aload_n hx hb dX3_keepState_42 rfl (lv_at hl 0 rfl) ?_
          refine r_get (C := RX3) (Tb := TX3) (N := 5) hx hb hts in_wsX30 hown hK (hO) rfl 1 (by decide) (hts (.fieldLink RX3 16 "PieceSets" "past" "[LPieceSets$State;") (by decide +kernel)) rfl (v := .ref (A 1)) rfl dX3_keepState_43 ?_
          refine lv_iconst (v := (nI 4)) hx hb dX3_keepState_46 (by decide) ?_
          refine lv_aload_n hx hb dX3_keepState_47 rfl (lv_at hl 1 rfl) ?_
          refine r_sast hx hb hK hS ⟨1, by decide, rfl⟩ hP ((hX.2.2 1 (by omega)).1) (i := 4) (by omega) (by decide) dX3_keepState_48 (fun H_1 locs hat oq hS => ?_)
          have hX := hX.fr (Fr.oq oq) (fun i h1 h2 => hi.ne i 1 h2 (by decide) (by omega))
          have hO := (Fr.oq oq).at hO (hi.ne 0 1 (by decide) (by decide) (by decide))
          have hP := at_congR hat (g := (fun i => some (slA A (rotI k (1 + i)) 0))) (fun j hj => ks_end (by omega) (by omega) hj)
          refine lv_aload_n hx hb dX3_keepState_49 rfl (lv_at hl 0 rfl) ?_
          refine lv_iconst (v := (nI 4)) hx hb dX3_keepState_50 (by decide) ?_
          refine r_put (C := RX3) (Tb := TX3) (N := 5) hx hb hts in_wsX30 tyX3 tyX3_ok nmX3 hown hK hS ⟨0, by decide, rfl⟩ hO rfl 2 (by decide) (hts (.fieldLink RX3 20 "PieceSets" "kept" "I") (by decide +kernel)) rfl rfl (ty := .int) (by decide +kernel) rfl rfl (show (2 : Nat) < 5 by decide) dX3_keepState_51 (fun H_2 locs hat oq hS => ?_)
          have hX := hX.fr (Fr.oq oq) (fun i h1 h2 => hi.ne i 0 h2 (by decide) (by omega))
          have hP := (Fr.oq oq).at hP (hi.ne 1 0 (by decide) (by decide) (by decide))
          have hO := hat
          have hr5 : rotI k (1 + 4) = 1 := by unfold rotI; rw [if_neg (by omega)]; rfl
          refine lv_aload_n hx hb dX3_keepState_54 rfl (lv_at hl 0 rfl) ?_
          refine r_get (C := RX3) (Tb := TX3) (N := 5) hx hb hts in_wsX30 hown hK (hO) rfl 1 (by decide) (hts (.fieldLink RX3 16 "PieceSets" "past" "[LPieceSets$State;") (by decide +kernel)) rfl (v := .ref (A 1)) rfl dX3_keepState_55 ?_
          refine lv_aload_n hx hb dX3_keepState_58 rfl (lv_at hl 0 rfl) ?_
          refine r_get (C := RX3) (Tb := TX3) (N := 5) hx hb hts in_wsX30 hown hK (hO) rfl 2 (by decide) (hts (.fieldLink RX3 20 "PieceSets" "kept" "I") (by decide +kernel)) rfl (v := .int (nI 4)) rfl dX3_keepState_59 ?_
          refine r_sald hx hb hK (hP) (i := 4) (by omega) (by decide) (q := (slA A (rotI k (1 + 4)) 0)) (rfl) dX3_keepState_62 ?_
          refine lv_astore_n (lv' := [(1, .ref (slA A (rotI k (1 + 4)) 0)), (0, .ref (A 0)), (2, .int (nI i))]) hx hb dX3_keepState_63 rfl hl (by decide) rfl (fun ls hl => ?_)
          refine lv_aload_n hx hb dX3_keepState_64 rfl (lv_at hl 0 rfl) ?_
          refine lv_aload_n hx hb dX3_keepState_65 rfl (lv_at hl 1 rfl) ?_
          refine r_get (C := RX3) (Tb := TX3) (N := 5) hx hb hts in_wsX30 hown hK (hO) rfl 0 (by decide) (hts (.fieldLink RX3 10 "PieceSets" "now" "LPieceSets$State;") (by decide +kernel)) rfl (v := .ref (slA A 0 0)) rfl dX3_keepState_66 ?_
          refine va_callv (va_runVN (As := [.ref (slA A 0 0)]) (rest := []) ⟨hx, hb, hml, hown, hts⟩ (k_X2_become l D T (slA A (rotI k (1 + 4))) (W0 (rotI k (1 + 4))) (me (rotI k (1 + 4))) (co (rotI k (1 + 4))) (slA A 0) (W0 0) (me 0) (co 0) (slA_in hi (by rw [hr5]; decide)) (fun i j h1 h2 z => absurd (slA_inj hi (by rw [hr5]; decide) (by decide) h1 h2 z).1 (by rw [hr5]; decide))) (⟨va_cnB 1 hts ggX3_keepState_X2_become rfl rfl rfl (hK.2.m (args := ([.ref (A 0)] : List Value).toArray) 9 rfl) (hts (.initialized RX2) (by decide +kernel)) (by decide +kernel) ⟨Nat.le_of_ble_eq_true rfl, Nat.le_of_ble_eq_true rfl⟩, hts (.instanceMethod yX2_become) (by decide +kernel), hts (.selects RX2 yX2_become yX2_become) (by decide +kernel)⟩) (pre_V (Φ := fun X => Sta D T X (slA A (rotI k (1 + 4))) (W0 (rotI k (1 + 4))) (me (rotI k (1 + 4))) (co (rotI k (1 + 4))) ∧ Sta D T X (slA A 0) (W0 0) (me 0) (co 0)) hK ((hX.2.2 (rotI k (1 + 4)) (by rw [hr5]; decide)).1) rfl ⟨hX.2.2 (rotI k (1 + 4)) (by rw [hr5]; decide), hX.2.2 0 (by decide)⟩) rfl rfl hl.1 rfl (lv_room (Nat.le_of_ble_eq_true rfl)) dX3_keepState_69 ⟨Nat.le_of_ble_eq_true rfl, Nat.le_of_ble_eq_true rfl⟩) hS (fun q _ h => slA_mem (n := (rotI k (1 + 4))) (by rw [hr5]; decide) h) (fun q h => slA_mem (n := (rotI k (1 + 4))) (by rw [hr5]; decide) h) (fun u_1 t H_3 locs ht hvm hw hB hz hk hS => ?_)
          rw [ht] at hB
          try dsimp only at hw
          try dsimp only at hB
          have hF : Fr _ _ _ := hk
          have hne : (rotI k (1 + 4)) ≠ 0 ∧ (rotI k (1 + 4)) < 6 := ⟨by rw [hr5]; decide, by rw [hr5]; decide⟩
          have hX := hX.setS (W' := fun n => if n = (rotI k (1 + 4)) then W0 0 else W0 n) (me' := fun n => if n = (rotI k (1 + 4)) then me 0 else me n) (co' := fun n => if n = (rotI k (1 + 4)) then co 0 else co n) hi hne.2 hF (fun q h => h) (by rw [if_pos rfl, if_pos rfl, if_pos rfl]; exact hB) (fun m _ h => if_neg h) (fun m _ h => if_neg h) (fun m _ h => if_neg h)
          have hO := hF.at hO (fun z => by obtain ⟨i, h1, h2⟩ := z; exact slA_lo hi hne.2 h1 (by decide) h2)
          have hP := hF.at hP (fun z => by obtain ⟨i, h1, h2⟩ := z; exact slA_lo hi hne.2 h1 (by decide) h2)
          refine lv_aload_n hx hb dX3_keepState_72 rfl (lv_at hl 1 rfl) ?_
          refine lv_dup hx hb dX3_keepState_73 rfl ?_
          refine r_get (C := RX3) (Tb := TX3) (N := 5) hx hb hts in_wsX30 hown hK (hO) rfl 2 (by decide) (hts (.fieldLink RX3 20 "PieceSets" "kept" "I") (by decide +kernel)) rfl (v := .int (nI 4)) rfl dX3_keepState_74 ?_
          refine lv_iconst (v := (nI 1)) hx hb dX3_keepState_77 (by decide) ?_
          refine lv_iadd hx hb dX3_keepState_78 ?_
          refine top_i (nI_add 4 1) ?_
          refine r_put (C := RX3) (Tb := TX3) (N := 5) hx hb hts in_wsX30 tyX3 tyX3_ok nmX3 hown hK hS ⟨0, by decide, rfl⟩ hO rfl 2 (by decide) (hts (.fieldLink RX3 20 "PieceSets" "kept" "I") (by decide +kernel)) rfl rfl (ty := .int) (by decide +kernel) rfl rfl (show (2 : Nat) < 5 by decide) dX3_keepState_79 (fun H_4 locs hat oq hS => ?_)
          have hX := hX.fr (Fr.oq oq) (fun i h1 h2 => hi.ne i 0 h2 (by decide) (by omega))
          have hP := (Fr.oq oq).at hP (hi.ne 1 0 (by decide) (by decide) (by decide))
          have hO := hat
          refine lv_aload_n hx hb dX3_keepState_82 rfl (lv_at hl 0 rfl) ?_
          subst hQ
          have hk55 : k = 5 := by omega
          have hkk : kpt k = 5 := by rw [hk55]; rfl
          have hfin := PSr.kept (W := W0) (me := me) (co := co) hk5 hi (by rw [hkk]; exact hO) hP hX (fun n _ h => by rw [hkk] at h; exact ⟨if_neg h, if_neg h, if_neg h⟩) (by rw [hkk]; exact ⟨if_pos rfl, if_pos rfl, if_pos rfl⟩)
          have hres : (slA A (rotI k (1 + 4)) 0) = slA (rotA A k) (kpt k) 0 := by rw [slA_rot A k (by decide), hkk]
          exact W.aret (v := .ref (slA A (rotI k (1 + 4)) 0)) hx hb hr (Or.inl ⟨_, rfl⟩) (Or.inr ⟨_, rfl⟩) (fun t ht hW => ⟨⟨(), (slA A (rotI k (1 + 4)) 0), rfl, trivial, by have h9 := And.intro hres hfin; rw [← ht] at h9; exact h9⟩, hS.F ht⟩) hS.2.2 dX3_keepState_83
        · skip
          have c_2 : ¬ (5 ≤ i) := fun z => c_2 ((nI_leI (a := 5) (b := i) (by omega) (by omega)).mpr z)
          refine lv_aload_n hx hb dX3_keepState_22 rfl (lv_at hl 0 rfl) ?_
          refine r_get (C := RX3) (Tb := TX3) (N := 5) hx hb hts in_wsX30 hown hK (hO) rfl 1 (by decide) (hts (.fieldLink RX3 16 "PieceSets" "past" "[LPieceSets$State;") (by decide +kernel)) rfl (v := .ref (A 1)) rfl dX3_keepState_23 ?_
          refine lv_iload_n hx hb dX3_keepState_26 rfl (lv_at hl 2 rfl) ?_
          refine lv_iconst (v := (nI 1)) hx hb dX3_keepState_27 (by decide) ?_
          refine lv_isub hx hb dX3_keepState_28 ?_
          refine top_i (pk_sub (a := i) (b := 1) (by omega)) ?_
          refine lv_aload_n hx hb dX3_keepState_29 rfl (lv_at hl 0 rfl) ?_
          refine r_get (C := RX3) (Tb := TX3) (N := 5) hx hb hts in_wsX30 hown hK (hO) rfl 1 (by decide) (hts (.fieldLink RX3 16 "PieceSets" "past" "[LPieceSets$State;") (by decide +kernel)) rfl (v := .ref (A 1)) rfl dX3_keepState_30 ?_
          refine lv_iload_n hx hb dX3_keepState_33 rfl (lv_at hl 2 rfl) ?_
          refine r_sald hx hb hK (hP) (i := i) (by omega) (by decide) (q := (slA A (1 + i) 0)) (if_neg (by omega)) dX3_keepState_34 ?_
          refine r_sast hx hb hK hS ⟨1, by decide, rfl⟩ hP ((hX.2.2 (1 + i) (by omega)).1) (i := i - 1) (by omega) (by decide) dX3_keepState_35 (fun H_1 locs hat oq hS => ?_)
          have hX := hX.fr (Fr.oq oq) (fun i h1 h2 => hi.ne i 1 h2 (by decide) (by omega))
          have hO := (Fr.oq oq).at hO (hi.ne 0 1 (by decide) (by decide) (by decide))
          have hP := at_congR hat (g := (fun j => if j + 1 < (i + 1) then some (slA A (2 + j) 0) else some (slA A (1 + j) 0))) (fun j hj => ks_step (by omega) (by omega))
          refine lv_iinc (v := (nI (i + 1))) (lv' := [(2, .int (nI (i + 1))), (0, .ref (A 0)), (1, .ref (slA A (1 + 0) 0))]) hx hb dX3_keepState_36 hl (k := 2) rfl (iinc_n i 1) (by decide) rfl (fun ls hl => ?_)
          refine lv_goto (tgt := 17) hx hb dX3_keepState_39 (by decide) ?_
          have hl := lv_sub hl (l' := [(0, .ref (A 0)), (1, .ref (slA A (1 + 0) 0)), (2, .int (nI (i + 1)))]) [1, 2, 0] rfl
          exact ih17 (i + 1) (by omega) (by omega) H_1 _ hO hP hX hS ls hl (by omega)
    have hP := at_congR hP (g := (fun j => if j + 1 < 1 then some (slA A (2 + j) 0) else some (slA A (1 + j) 0))) (fun j _ => (if_neg (by omega)).symm)
    have hl := lv_sub hl (l' := [(0, .ref (A 0)), (1, .ref (slA A (1 + 0) 0)), (2, .int (nI 1))]) [2, 1, 0] rfl
    exact loop17 (5 - 1 + 1) 1 (Nat.le_refl _) (by decide) s.heap _ hO hP hX hS ls hl (Nat.lt_succ_self _)
