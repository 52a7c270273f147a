set_option maxHeartbeats 4000000 in
set_option maxRecDepth 100000 in
theorem k_X4_size (l : Launch) (D : va_G) (T : Nat → ClassId) (M : Nat → Nat) (Sy : Nat → Prop) (fi : FS) (ss : Int32) : Met l yX4_size wsX4_size ({ frames := 3, cells := 0, slots := 0, locals := 67 }) (va_Pc [.ref (M 0), .int ss] (fun U => KS D T U ∧ MSE D T U.heap M Sy fi)) (vp_Si (fun r => r = (sizR fi ss))) 0 0 (fun _ => False) := by
  refine Met.ofW (cc := cX4_size) (maxL := 2) (ret := (some .int)) (by decide) rfl ?_
  intro pg ev s m args below meth c s₁ B hml hv
  obtain ⟨rfl, hK, hH⟩ := hv
  have hx := B.exec
  have hb := B.bytes
  have hr := B.returns
  have hts := atoms_spec (ws := wsX4_size) B.pre
  have hown : s.vm.findClass RX4 = some m.cls := findClass_of_methodNamed B.named
  have hlocks := B.notSynchronized
  have in_wsX40 : ∀ w ∈ wsX40, w ∈ wsX4_size := fun w h => List.mem_cons_of_mem _ (List.mem_append_right _ h)
  have hl := lv_entry ([.ref (M 0), .int ss]) (n := 2) (Nat.le_of_ble_eq_true rfl)
  rw [lg_entry_eq]
  generalize (lg_sl ([.ref (M 0), .int ss]) ++ List.replicate (2 - (lg_sl ([.ref (M 0), .int ss])).length) Slot.unset).toArray = ls at hl ⊢
  have hl : lv_has ls 2 [(0, .ref (M 0)), (1, .int ss)] := hl
  refine W_gen (fun Q hQ => ?_)
  obtain ⟨v, as, pa, bi, at0, hM, hSy, hrb, hbl, hk5, hR0, hRh⟩ := id hH
  refine lv_iload_n hx hb dX4_size_0 rfl (lv_at hl 1 rfl) ?_
  refine vp_callSi (va_Run.run (va_runS (As := [.int ss]) (rest := []) ⟨hx, hb, hml, hown, hts⟩ (k_X4_isSet l D T ss ) (va_cwS 1 hts gX4_size_X4_isSet rfl rfl rfl (by decide +kernel) ⟨Nat.le_of_ble_eq_true rfl, Nat.le_of_ble_eq_true rfl⟩) (pre_S (Φ := fun X => True) hK trivial) rfl rfl hl.1 rfl (lv_room (Nat.le_of_ble_eq_true rfl)) dX4_size_1 ⟨Nat.le_of_ble_eq_true rfl, Nat.le_of_ble_eq_true rfl⟩)) (fun r_1 hr_1 => ?_)
  subst hr_1
  refine lv_if_eq (tgt := 15) hx hb dX4_size_4 (by decide) (fun c_1 => ?_) (fun c_1 => ?_)
  · skip
    have c_1 : (decide (¬ ss < 0 ∧ ss < nI 6)) = false := b2i_0.mp c_1
    have c_1 : ¬ (¬ ss < 0 ∧ ss < nI 6) := of_decide_eq_false c_1
    refine lv_iconst (v := (-1)) hx hb dX4_size_15 (by decide) ?_
    subst hQ
    refine W.iret (v := (-1)) hx hb hr (fun t ht hW => ⟨(-1), rfl, ?_, ht⟩) (fun q h => absurd h List.not_mem_nil) dX4_size_16
    exact (if_neg c_1).symm
  · skip
    have c_1 : (decide (¬ ss < 0 ∧ ss < nI 6)) = true := b2i_n0.mp c_1
    have c_1 : ¬ ss < 0 ∧ ss < nI 6 := of_decide_eq_true c_1
    obtain ⟨sN, hsN, rfl⟩ := okX (N := 6) (by decide) c_1
    refine lv_aload_n hx hb dX4_size_7 rfl (lv_at hl 0 rfl) ?_
    refine lv_iload_n hx hb dX4_size_8 rfl (lv_at hl 1 rfl) ?_
    refine vp_callSi (va_Run.run (va_runV (As := [.int (nI sN)]) (rest := []) ⟨hx, hb, hml, hown, hts⟩ (k_X4_sizeOf l D T M v as pa fi.2.2.1 (buF fi) fi.2.2.2.2 bi at0 sN (by omega)) (cwV 1 hts gX4_size_X4_sizeOf rfl rfl rfl (by decide +kernel) ⟨Nat.le_of_ble_eq_true rfl, Nat.le_of_ble_eq_true rfl⟩) (pre_V (Φ := fun X => MO D T X M v as pa fi.2.2.1 (buF fi) fi.2.2.2.2 bi at0) hK (hM.2.1) rfl hM) rfl rfl hl.1 rfl (lv_room (Nat.le_of_ble_eq_true rfl)) dX4_size_9 ⟨Nat.le_of_ble_eq_true rfl, Nat.le_of_ble_eq_true rfl⟩)) (fun r_2 hr_2 => ?_)
    subst hr_2
    refine lv_goto (tgt := 16) hx hb dX4_size_12 (by decide) ?_
    subst hQ
    refine W.iret (v := (nI (ct (bI v sN) 0 4096))) hx hb hr (fun t ht hW => ⟨(nI (ct (bI v sN) 0 4096)), rfl, ?_, ht⟩) (fun q h => absurd h List.not_mem_nil) dX4_size_16
    unfold sizR
    rw [if_pos (okN hsN (by decide)), cl_n (by omega)]
    exact congrArg nI (ct_cong (fun x _ h => hR0.1 _ hsN x (by omega)))
set_option maxHeartbeats 4000000 in
set_option maxRecDepth 100000 in
theorem k_X4_contains (l : Launch) (D : va_G) (T : Nat → ClassId) (M : Nat → Nat) (Sy : Nat → Prop) (fi : FS) (ss : Int32) (x : Int32) : Met l yX4_contains wsX4_contains ({ frames := 2, cells := 0, slots := 0, locals := 44 }) (va_Pc [.ref (M 0), .int ss, .int x] (fun U => KS D T U ∧ MSE D T U.heap M Sy fi)) (vp_Si (fun r => r = (conR fi ss x))) 0 0 (fun _ => False) := by
  refine Met.ofW (cc := cX4_contains) (maxL := 3) (ret := (some .int)) (by decide) rfl ?_
  intro pg ev s m args below meth c s₁ B hml hv
  obtain ⟨rfl, hK, hH⟩ := hv
  have hx := B.exec
  have hb := B.bytes
  have hr := B.returns
  have hts := atoms_spec (ws := wsX4_contains) B.pre
  have hown : s.vm.findClass RX4 = some m.cls := findClass_of_methodNamed B.named
  have hlocks := B.notSynchronized
  have in_wsX40 : ∀ w ∈ wsX40, w ∈ wsX4_contains := fun w h => List.mem_cons_of_mem _ (List.mem_append_right _ h)
  have hl := lv_entry ([.ref (M 0), .int ss, .int x]) (n := 3) (Nat.le_of_ble_eq_true rfl)
  rw [lg_entry_eq]
  generalize (lg_sl ([.ref (M 0), .int ss, .int x]) ++ List.replicate (3 - (lg_sl ([.ref (M 0), .int ss, .int x])).length) Slot.unset).toArray = ls at hl ⊢
  have hl : lv_has ls 3 [(0, .ref (M 0)), (1, .int ss), (2, .int x)] := hl
  refine W_gen (fun Q hQ => ?_)
  obtain ⟨v, as, pa, bi, at0, hM, hSy, hrb, hbl, hk5, hR0, hRh⟩ := id hH
  refine lv_iload_n hx hb dX4_contains_0 rfl (lv_at hl 1 rfl) ?_
  refine vp_callSi (va_Run.run (va_runS (As := [.int ss]) (rest := []) ⟨hx, hb, hml, hown, hts⟩ (k_X4_isSet l D T ss ) (va_cwS 1 hts gX4_contains_X4_isSet rfl rfl rfl (by decide +kernel) ⟨Nat.le_of_ble_eq_true rfl, Nat.le_of_ble_eq_true rfl⟩) (pre_S (Φ := fun X => True) hK trivial) rfl rfl hl.1 rfl (lv_room (Nat.le_of_ble_eq_true rfl)) dX4_contains_1 ⟨Nat.le_of_ble_eq_true rfl, Nat.le_of_ble_eq_true rfl⟩)) (fun r_1 hr_1 => ?_)
  subst hr_1
  refine lv_if_ne (tgt := 11) hx hb dX4_contains_4 (by decide) (fun c_1 => ?_) (fun c_1 => ?_)
  · skip
    have c_1 : (decide (¬ ss < 0 ∧ ss < nI 6)) = true := b2i_n0.mp c_1
    have c_1 : ¬ ss < 0 ∧ ss < nI 6 := of_decide_eq_true c_1
    obtain ⟨sN, hsN, rfl⟩ := okX (N := 6) (by decide) c_1
    refine lv_iload_n hx hb dX4_contains_11 rfl (lv_at hl 2 rfl) ?_
    refine lv_iconst (v := (nI 0)) hx hb dX4_contains_12 (by decide) ?_
    refine lv_sipush (v := (nI 4095)) hx hb dX4_contains_13 (by decide) ?_
    refine vp_callSi (va_Run.run (va_runS (As := [.int x, .int (nI 0), .int (nI 4095)]) (rest := []) ⟨hx, hb, hml, hown, hts⟩ (k_X4_in l D T x (nI 0) (nI 4095) ) (va_cwS 3 hts gX4_contains_X4_in rfl rfl rfl (by decide +kernel) ⟨Nat.le_of_ble_eq_true rfl, Nat.le_of_ble_eq_true rfl⟩) (pre_S (Φ := fun X => True) hK trivial) rfl rfl hl.1 rfl (lv_room (Nat.le_of_ble_eq_true rfl)) dX4_contains_16 ⟨Nat.le_of_ble_eq_true rfl, Nat.le_of_ble_eq_true rfl⟩)) (fun r_2 hr_2 => ?_)
    subst hr_2
    refine top_i (x' := (b2i (decide (¬ x < 0 ∧ x < nI 4096)))) (congrArg b2i (decide_eq_decide.mpr (in_set (n := 4095) (by decide) x))) ?_
    refine lv_if_eq (tgt := 35) hx hb dX4_contains_19 (by decide) (fun c_2 => ?_) (fun c_2 => ?_)
    · skip
      have c_2 : (decide (¬ x < 0 ∧ x < nI 4096)) = false := b2i_0.mp c_2
      have c_2 : ¬ (¬ x < 0 ∧ x < nI 4096) := of_decide_eq_false c_2
      refine lv_iconst (v := (nI 0)) hx hb dX4_contains_35 (by decide) ?_
      subst hQ
      refine W.iret (v := (nI 0)) hx hb hr (fun t ht hW => ⟨(nI 0), rfl, ?_, ht⟩) (fun q h => absurd h List.not_mem_nil) dX4_contains_36
      unfold conR
      rw [if_pos (okN hsN (by decide)), cl_n (by omega)]
      rw [← hlt_cong (hR0.1 _ hsN)]
      exact r0 (by unfold hlt; rw [decide_eq_false c_2]; rfl)
    · skip
      have c_2 : (decide (¬ x < 0 ∧ x < nI 4096)) = true := b2i_n0.mp c_2
      have c_2 : ¬ x < 0 ∧ x < nI 4096 := of_decide_eq_true c_2
      obtain ⟨xN, hxN, rfl⟩ := okX (N := 4096) (by decide) c_2
      refine lv_aload_n hx hb dX4_contains_22 rfl (lv_at hl 0 rfl) ?_
      refine lv_iload_n hx hb dX4_contains_23 rfl (lv_at hl 1 rfl) ?_
      refine lv_iload_n hx hb dX4_contains_24 rfl (lv_at hl 2 rfl) ?_
      refine vp_callSi (va_Run.run (va_runV (As := [.int (nI sN), .int (nI xN)]) (rest := []) ⟨hx, hb, hml, hown, hts⟩ (k_X4_has l D T M v as pa fi.2.2.1 (buF fi) fi.2.2.2.2 bi at0 sN xN (by omega) (by omega)) (cwV 2 hts gX4_contains_X4_has rfl rfl rfl (by decide +kernel) ⟨Nat.le_of_ble_eq_true rfl, Nat.le_of_ble_eq_true rfl⟩) (pre_V (Φ := fun X => MO D T X M v as pa fi.2.2.1 (buF fi) fi.2.2.2.2 bi at0) hK (hM.2.1) rfl hM) rfl rfl hl.1 rfl (lv_room (Nat.le_of_ble_eq_true rfl)) dX4_contains_25 ⟨Nat.le_of_ble_eq_true rfl, Nat.le_of_ble_eq_true rfl⟩)) (fun r_3 hr_3 => ?_)
      subst hr_3
      refine lv_if_eq (tgt := 35) hx hb dX4_contains_28 (by decide) (fun c_3 => ?_) (fun c_3 => ?_)
      · skip
        have c_3 : bI v sN xN = false := b2i_0.mp c_3
        refine lv_iconst (v := (nI 0)) hx hb dX4_contains_35 (by decide) ?_
        subst hQ
        refine W.iret (v := (nI 0)) hx hb hr (fun t ht hW => ⟨(nI 0), rfl, ?_, ht⟩) (fun q h => absurd h List.not_mem_nil) dX4_contains_36
        unfold conR
        rw [if_pos (okN hsN (by decide)), cl_n (by omega)]
        rw [← hlt_cong (hR0.1 _ hsN)]
        rw [hlt_n _ hxN]
        exact r0 c_3
      · skip
        have c_3 : bI v sN xN = true := b2i_n0.mp c_3
        refine lv_iconst (v := (nI 1)) hx hb dX4_contains_31 (by decide) ?_
        refine lv_goto (tgt := 36) hx hb dX4_contains_32 (by decide) ?_
        subst hQ
        refine W.iret (v := (nI 1)) hx hb hr (fun t ht hW => ⟨(nI 1), rfl, ?_, ht⟩) (fun q h => absurd h List.not_mem_nil) dX4_contains_36
        unfold conR
        rw [if_pos (okN hsN (by decide)), cl_n (by omega)]
        rw [← hlt_cong (hR0.1 _ hsN)]
        rw [hlt_n _ hxN]
        exact r1 c_3
  · skip
    have c_1 : (decide (¬ ss < 0 ∧ ss < nI 6)) = false := b2i_0.mp c_1
    have c_1 : ¬ (¬ ss < 0 ∧ ss < nI 6) := of_decide_eq_false c_1
    refine lv_iconst (v := (-1)) hx hb dX4_contains_7 (by decide) ?_
    refine lv_goto (tgt := 36) hx hb dX4_contains_8 (by decide) ?_
    subst hQ
    refine W.iret (v := (-1)) hx hb hr (fun t ht hW => ⟨(-1), rfl, ?_, ht⟩) (fun q h => absurd h List.not_mem_nil) dX4_contains_36
    exact (if_neg c_1).symm
set_option maxHeartbeats 4000000 in
set_option maxRecDepth 100000 in
theorem k_X4_rank (l : Launch) (D : va_G) (T : Nat → ClassId) (M : Nat → Nat) (Sy : Nat → Prop) (fi : FS) (ss : Int32) (x : Int32) : Met l yX4_rank wsX4_rank ({ frames := 2, cells := 0, slots := 0, locals := 44 }) (va_Pc [.ref (M 0), .int ss, .int x] (fun U => KS D T U ∧ MSE D T U.heap M Sy fi)) (vp_Si (fun r => r = (ranR fi ss x))) 0 0 (fun _ => False) := by
  refine Met.ofW (cc := cX4_rank) (maxL := 5) (ret := (some .int)) (by decide) rfl ?_
  intro pg ev s m args below meth c s₁ B hml hv
  obtain ⟨rfl, hK, hH⟩ := hv
  have hx := B.exec
  have hb := B.bytes
  have hr := B.returns
  have hts := atoms_spec (ws := wsX4_rank) B.pre
  have hown : s.vm.findClass RX4 = some m.cls := findClass_of_methodNamed B.named
  have hlocks := B.notSynchronized
  have in_wsX40 : ∀ w ∈ wsX40, w ∈ wsX4_rank := fun w h => List.mem_cons_of_mem _ (List.mem_append_right _ h)
  have hl := lv_entry ([.ref (M 0), .int ss, .int x]) (n := 5) (Nat.le_of_ble_eq_true rfl)
  rw [lg_entry_eq]
  generalize (lg_sl ([.ref (M 0), .int ss, .int x]) ++ List.replicate (5 - (lg_sl ([.ref (M 0), .int ss, .int x])).length) Slot.unset).toArray = ls at hl ⊢
  have hl : lv_has ls 5 [(0, .ref (M 0)), (1, .int ss), (2, .int x)] := hl
  refine W_gen (fun Q hQ => ?_)
  obtain ⟨v, as, pa, bi, at0, hM, hSy, hrb, hbl, hk5, hR0, hRh⟩ := id hH
  refine lv_iload_n hx hb dX4_rank_0 rfl (lv_at hl 1 rfl) ?_
  refine vp_callSi (va_Run.run (va_runS (As := [.int ss]) (rest := []) ⟨hx, hb, hml, hown, hts⟩ (k_X4_isSet l D T ss ) (va_cwS 1 hts gX4_rank_X4_isSet rfl rfl rfl (by decide +kernel) ⟨Nat.le_of_ble_eq_true rfl, Nat.le_of_ble_eq_true rfl⟩) (pre_S (Φ := fun X => True) hK trivial) rfl rfl hl.1 rfl (lv_room (Nat.le_of_ble_eq_true rfl)) dX4_rank_1 ⟨Nat.le_of_ble_eq_true rfl, Nat.le_of_ble_eq_true rfl⟩)) (fun r_1 hr_1 => ?_)
  subst hr_1
  refine lv_if_ne (tgt := 9) hx hb dX4_rank_4 (by decide) (fun c_1 => ?_) (fun c_1 => ?_)
  · skip
    have c_1 : (decide (¬ ss < 0 ∧ ss < nI 6)) = true := b2i_n0.mp c_1
    have c_1 : ¬ ss < 0 ∧ ss < nI 6 := of_decide_eq_true c_1
    obtain ⟨sN, hsN, rfl⟩ := okX (N := 6) (by decide) c_1
    refine lv_iconst (v := (nI 0)) hx hb dX4_rank_9 (by decide) ?_
    refine lv_istore_n (lv' := [(3, .int (nI 0)), (0, .ref (M 0)), (1, .int (nI sN)), (2, .int x)]) hx hb dX4_rank_10 rfl hl (by decide) rfl (fun ls hl => ?_)
    refine lv_iconst (v := (nI 0)) hx hb dX4_rank_11 (by decide) ?_
    refine lv_istore (lv' := [(4, .int (nI 0)), (3, .int (nI 0)), (0, .ref (M 0)), (1, .int (nI sN)), (2, .int x)]) hx hb dX4_rank_12 hl (by decide) rfl (fun ls hl => ?_)
    have loop14 : ∀ (n14 : Nat) (i : Nat) (hi : i ≤ 4096) (ls : Array Slot) (hl : lv_has ls 5 [(0, .ref (M 0)), (1, .int (nI sN)), (2, .int x), (3, .int (nI (ct (fun z => bI v sN z && inr (nI 0) x z) 0 i))), (4, .int (nI i))]) (hn14 : 4096 - i < n14), W pg l ev (headSpec wsX4_rank ({ frames := 2, cells := 0, slots := 0, locals := 44 })).room s m ([.ref (M 0), .int (nI sN), .int x] : List Value).toArray below meth c s.heap [] 0 0 Q (F0 m 14 ls []) := by
      intro n14
      induction n14 with
      | zero =>
        intro i hi ls hl hn14
        exact absurd hn14 (Nat.not_lt_zero _)
      | succ n14 ih14 =>
        intro i hi ls hl hn14
        refine lv_iload hx hb dX4_rank_14 (lv_at hl 4 rfl) ?_
        refine lv_sipush (v := (nI 4096)) hx hb dX4_rank_16 (by decide) ?_
        refine lv_icmp_ge (tgt := 52) hx hb dX4_rank_19 (by decide) (fun c_2 => ?_) (fun c_2 => ?_)
        · skip
          have c_2 : 4096 ≤ i := (nI_leI (a := 4096) (b := i) (by omega) (by omega)).mp c_2
          refine lv_iload_n hx hb dX4_rank_52 rfl (lv_at hl 3 rfl) ?_
          subst hQ
          refine W.iret (v := (nI (ct (fun z => bI v sN z && inr (nI 0) x z) 0 i))) hx hb hr (fun t ht hW => ⟨(nI (ct (fun z => bI v sN z && inr (nI 0) x z) 0 i)), rfl, ?_, ht⟩) (fun q h => absurd h List.not_mem_nil) dX4_rank_53
          unfold ranR
          rw [if_pos (okN hsN (by decide)), cl_n (by omega)]
          rw [← ctr_cong (hR0.1 _ hsN), show i = 4096 by omega]
          exact rfl
        · skip
          have c_2 : ¬ (4096 ≤ i) := fun z => c_2 ((nI_leI (a := 4096) (b := i) (by omega) (by omega)).mpr z)
          refine lv_iload hx hb dX4_rank_22 (lv_at hl 4 rfl) ?_
          refine lv_iload_n hx hb dX4_rank_24 rfl (lv_at hl 2 rfl) ?_
          refine lv_icmp_gt (tgt := 52) hx hb dX4_rank_25 (by decide) (fun c_3 => ?_) (fun c_3 => ?_)
          · skip
            refine lv_iload_n hx hb dX4_rank_52 rfl (lv_at hl 3 rfl) ?_
            subst hQ
            refine W.iret (v := (nI (ct (fun z => bI v sN z && inr (nI 0) x z) 0 i))) hx hb hr (fun t ht hW => ⟨(nI (ct (fun z => bI v sN z && inr (nI 0) x z) 0 i)), rfl, ?_, ht⟩) (fun q h => absurd h List.not_mem_nil) dX4_rank_53
            unfold ranR
            rw [if_pos (okN hsN (by decide)), cl_n (by omega)]
            rw [← ctr_cong (hR0.1 _ hsN), rank_end c_3 hi]
          · skip
            refine lv_iload_n hx hb dX4_rank_28 rfl (lv_at hl 3 rfl) ?_
            refine lv_aload_n hx hb dX4_rank_29 rfl (lv_at hl 0 rfl) ?_
            refine lv_iload_n hx hb dX4_rank_30 rfl (lv_at hl 1 rfl) ?_
            refine lv_iload hx hb dX4_rank_31 (lv_at hl 4 rfl) ?_
            refine vp_callSi (va_Run.run (va_runV (As := [.int (nI sN), .int (nI i)]) (rest := [.int (nI (ct (fun z => bI v sN z && inr (nI 0) x z) 0 i))]) ⟨hx, hb, hml, hown, hts⟩ (k_X4_has l D T M v as pa fi.2.2.1 (buF fi) fi.2.2.2.2 bi at0 sN i (by omega) (by omega)) (cwV 2 hts gX4_rank_X4_has rfl rfl rfl (by decide +kernel) ⟨Nat.le_of_ble_eq_true rfl, Nat.le_of_ble_eq_true rfl⟩) (pre_V (Φ := fun X => MO D T X M v as pa fi.2.2.1 (buF fi) fi.2.2.2.2 bi at0) hK (hM.2.1) rfl hM) rfl rfl hl.1 rfl (lv_room (Nat.le_of_ble_eq_true rfl)) dX4_rank_33 ⟨Nat.le_of_ble_eq_true rfl, Nat.le_of_ble_eq_true rfl⟩)) (fun r_2 hr_2 => ?_)
            subst hr_2
            refine lv_if_eq (tgt := 43) hx hb dX4_rank_36 (by decide) (fun c_4 => ?_) (fun c_4 => ?_)
            · skip
              have c_4 : bI v sN i = false := b2i_0.mp c_4
              refine lv_iconst (v := (nI 0)) hx hb dX4_rank_43 (by decide) ?_
              refine lv_iadd hx hb dX4_rank_44 ?_
              refine top_i (nI_add (ct (fun z => bI v sN z && inr (nI 0) x z) 0 i) 0) ?_
              refine lv_istore_n (lv' := [(3, .int (nI ((ct (fun z => bI v sN z && inr (nI 0) x z) 0 i) + 0))), (0, .ref (M 0)), (1, .int (nI sN)), (2, .int x), (4, .int (nI i))]) hx hb dX4_rank_45 rfl hl (by decide) rfl (fun ls hl => ?_)
              refine lv_iinc (v := (nI (i + 1))) (lv' := [(4, .int (nI (i + 1))), (3, .int (nI ((ct (fun z => bI v sN z && inr (nI 0) x z) 0 i) + 0))), (0, .ref (M 0)), (1, .int (nI sN)), (2, .int x)]) hx hb dX4_rank_46 hl (k := 4) rfl (iinc_n i 1) (by decide) rfl (fun ls hl => ?_)
              refine lv_goto (tgt := 14) hx hb dX4_rank_49 (by decide) ?_
              have hl := lv_sub hl (l' := [(0, .ref (M 0)), (1, .int (nI sN)), (2, .int x), (3, .int (nI ((ct (fun z => bI v sN z && inr (nI 0) x z) 0 i) + 0))), (4, .int (nI (i + 1)))]) [2, 3, 4, 1, 0] rfl
              have q_1 : (nI ((ct (fun z => bI v sN z && inr (nI 0) x z) 0 i) + 0)) = (nI (ct (fun z => bI v sN z && inr (nI 0) x z) 0 (i + 1))) := by have hin := inr_0 (Int32.not_lt.mp c_3) (i := i) (by omega); first | rw [ct_end, Nat.zero_add, if_pos (show (bI v sN i && inr (nI 0) x i) = true by rw [c_4, hin]; rfl)] | rw [ct_end, Nat.zero_add, if_neg (show ¬ ((bI v sN i && inr (nI 0) x i) = true) by rw [c_4]; exact Bool.false_ne_true), Nat.add_zero]
              have hl : lv_has ls 5 [(0, .ref (M 0)), (1, .int (nI sN)), (2, .int x), (3, .int (nI (ct (fun z => bI v sN z && inr (nI 0) x z) 0 (i + 1)))), (4, .int (nI (i + 1)))] := by
                have h := hl
                rw [q_1] at h
                exact h
              exact ih14 (i + 1) (by omega) ls hl (by omega)
            · skip
              have c_4 : bI v sN i = true := b2i_n0.mp c_4
              refine lv_iconst (v := (nI 1)) hx hb dX4_rank_39 (by decide) ?_
              refine lv_goto (tgt := 44) hx hb dX4_rank_40 (by decide) ?_
              refine lv_iadd hx hb dX4_rank_44 ?_
              refine top_i (nI_add (ct (fun z => bI v sN z && inr (nI 0) x z) 0 i) 1) ?_
              refine lv_istore_n (lv' := [(3, .int (nI ((ct (fun z => bI v sN z && inr (nI 0) x z) 0 i) + 1))), (0, .ref (M 0)), (1, .int (nI sN)), (2, .int x), (4, .int (nI i))]) hx hb dX4_rank_45 rfl hl (by decide) rfl (fun ls hl => ?_)
              refine lv_iinc (v := (nI (i + 1))) (lv' := [(4, .int (nI (i + 1))), (3, .int (nI ((ct (fun z => bI v sN z && inr (nI 0) x z) 0 i) + 1))), (0, .ref (M 0)), (1, .int (nI sN)), (2, .int x)]) hx hb dX4_rank_46 hl (k := 4) rfl (iinc_n i 1) (by decide) rfl (fun ls hl => ?_)
              refine lv_goto (tgt := 14) hx hb dX4_rank_49 (by decide) ?_
              have hl := lv_sub hl (l' := [(0, .ref (M 0)), (1, .int (nI sN)), (2, .int x), (3, .int (nI ((ct (fun z => bI v sN z && inr (nI 0) x z) 0 i) + 1))), (4, .int (nI (i + 1)))]) [2, 3, 4, 1, 0] rfl
              have q_1 : (nI ((ct (fun z => bI v sN z && inr (nI 0) x z) 0 i) + 1)) = (nI (ct (fun z => bI v sN z && inr (nI 0) x z) 0 (i + 1))) := by have hin := inr_0 (Int32.not_lt.mp c_3) (i := i) (by omega); first | rw [ct_end, Nat.zero_add, if_pos (show (bI v sN i && inr (nI 0) x i) = true by rw [c_4, hin]; rfl)] | rw [ct_end, Nat.zero_add, if_neg (show ¬ ((bI v sN i && inr (nI 0) x i) = true) by rw [c_4]; exact Bool.false_ne_true), Nat.add_zero]
              have hl : lv_has ls 5 [(0, .ref (M 0)), (1, .int (nI sN)), (2, .int x), (3, .int (nI (ct (fun z => bI v sN z && inr (nI 0) x z) 0 (i + 1)))), (4, .int (nI (i + 1)))] := by
                have h := hl
                rw [q_1] at h
                exact h
              exact ih14 (i + 1) (by omega) ls hl (by omega)
    have hl := lv_sub hl (l' := [(0, .ref (M 0)), (1, .int (nI sN)), (2, .int x), (3, .int (nI 0)), (4, .int (nI 0))]) [2, 3, 4, 1, 0] rfl
    have q_1 : (nI 0) = (nI (ct (fun z => bI v sN z && inr (nI 0) x z) 0 0)) := rfl
    have hl : lv_has ls 5 [(0, .ref (M 0)), (1, .int (nI sN)), (2, .int x), (3, .int (nI (ct (fun z => bI v sN z && inr (nI 0) x z) 0 0))), (4, .int (nI 0))] := by
      have h := hl
      rw [q_1] at h
      exact h
    exact loop14 (4096 - 0 + 1) 0 (Nat.zero_le _) ls hl (Nat.lt_succ_self _)
  · skip
    have c_1 : (decide (¬ ss < 0 ∧ ss < nI 6)) = false := b2i_0.mp c_1
    have c_1 : ¬ (¬ ss < 0 ∧ ss < nI 6) := of_decide_eq_false c_1
    refine lv_iconst (v := (-1)) hx hb dX4_rank_7 (by decide) ?_
    subst hQ
    refine W.iret (v := (-1)) hx hb hr (fun t ht hW => ⟨(-1), rfl, ?_, ht⟩) (fun q h => absurd h List.not_mem_nil) dX4_rank_8
    exact (if_neg c_1).symm
set_option maxHeartbeats 4000000 in
set_option maxRecDepth 100000 in
theorem k_X4_select (l : Launch) (D : va_G) (T : Nat → ClassId) (M : Nat → Nat) (Sy : Nat → Prop) (fi : FS) (ss : Int32) (x : Int32) : Met l yX4_select wsX4_select ({ frames := 2, cells := 0, slots := 0, locals := 44 }) (va_Pc [.ref (M 0), .int ss, .int x] (fun U => KS D T U ∧ MSE D T U.heap M Sy fi)) (vp_Si (fun r => r = (selR fi ss x))) 0 0 (fun _ => False) := by
  refine Met.ofW (cc := cX4_select) (maxL := 5) (ret := (some .int)) (by decide) rfl ?_
  intro pg ev s m args below meth c s₁ B hml hv
  obtain ⟨rfl, hK, hH⟩ := hv
  have hx := B.exec
  have hb := B.bytes
  have hr := B.returns
  have hts := atoms_spec (ws := wsX4_select) B.pre
  have hown : s.vm.findClass RX4 = some m.cls := findClass_of_methodNamed B.named
  have hlocks := B.notSynchronized
  have in_wsX40 : ∀ w ∈ wsX40, w ∈ wsX4_select := fun w h => List.mem_cons_of_mem _ (List.mem_append_right _ h)
  have hl := lv_entry ([.ref (M 0), .int ss, .int x]) (n := 5) (Nat.le_of_ble_eq_true rfl)
  rw [lg_entry_eq]
  generalize (lg_sl ([.ref (M 0), .int ss, .int x]) ++ List.replicate (5 - (lg_sl ([.ref (M 0), .int ss, .int x])).length) Slot.unset).toArray = ls at hl ⊢
  have hl : lv_has ls 5 [(0, .ref (M 0)), (1, .int ss), (2, .int x)] := hl
  refine W_gen (fun Q hQ => ?_)
  obtain ⟨v, as, pa, bi, at0, hM, hSy, hrb, hbl, hk5, hR0, hRh⟩ := id hH
  refine lv_iload_n hx hb dX4_select_0 rfl (lv_at hl 1 rfl) ?_
  refine vp_callSi (va_Run.run (va_runS (As := [.int ss]) (rest := []) ⟨hx, hb, hml, hown, hts⟩ (k_X4_isSet l D T ss ) (va_cwS 1 hts gX4_select_X4_isSet rfl rfl rfl (by decide +kernel) ⟨Nat.le_of_ble_eq_true rfl, Nat.le_of_ble_eq_true rfl⟩) (pre_S (Φ := fun X => True) hK trivial) rfl rfl hl.1 rfl (lv_room (Nat.le_of_ble_eq_true rfl)) dX4_select_1 ⟨Nat.le_of_ble_eq_true rfl, Nat.le_of_ble_eq_true rfl⟩)) (fun r_1 hr_1 => ?_)
  subst hr_1
  refine lv_if_eq (tgt := 11) hx hb dX4_select_4 (by decide) (fun c_1 => ?_) (fun c_1 => ?_)
  · skip
    have c_1 : (decide (¬ ss < 0 ∧ ss < nI 6)) = false := b2i_0.mp c_1
    have c_1 : ¬ (¬ ss < 0 ∧ ss < nI 6) := of_decide_eq_false c_1
    refine lv_iconst (v := (-1)) hx hb dX4_select_11 (by decide) ?_
    subst hQ
    refine W.iret (v := (-1)) hx hb hr (fun t ht hW => ⟨(-1), rfl, ?_, ht⟩) (fun q h => absurd h List.not_mem_nil) dX4_select_12
    first | exact (if_neg (fun z => c_1 z.1)).symm | exact (if_neg (fun z => c_2 (Int32.not_lt.mp z.2))).symm
  · skip
    have c_1 : (decide (¬ ss < 0 ∧ ss < nI 6)) = true := b2i_n0.mp c_1
    have c_1 : ¬ ss < 0 ∧ ss < nI 6 := of_decide_eq_true c_1
    refine lv_iload_n hx hb dX4_select_7 rfl (lv_at hl 2 rfl) ?_
    refine lv_if_ge (tgt := 13) hx hb dX4_select_8 (by decide) (fun c_2 => ?_) (fun c_2 => ?_)
    · skip
      obtain ⟨sN, hsN, rfl⟩ := okX (N := 6) (by decide) c_1
      obtain ⟨xN, hxN, rfl⟩ := nI_of (Int32.not_lt.mpr c_2)
      refine lv_iload_n hx hb dX4_select_13 rfl (lv_at hl 2 rfl) ?_
      refine lv_istore_n (lv' := [(3, .int (nI xN)), (0, .ref (M 0)), (1, .int (nI sN)), (2, .int (nI xN))]) hx hb dX4_select_14 rfl hl (by decide) rfl (fun ls hl => ?_)
      refine lv_iconst (v := (nI 0)) hx hb dX4_select_15 (by decide) ?_
      refine lv_istore (lv' := [(4, .int (nI 0)), (3, .int (nI xN)), (0, .ref (M 0)), (1, .int (nI sN)), (2, .int (nI xN))]) hx hb dX4_select_16 hl (by decide) rfl (fun ls hl => ?_)
      have loop18 : ∀ (n18 : Nat) (j : Nat) (q : Nat) (hj : j ≤ 4096) (hq : q < 2 ^ 31) (hv : nthF (bI v sN) (4096 - j) j q = nthF (bI v sN) 4096 0 xN) (ls : Array Slot) (hl : lv_has ls 5 [(0, .ref (M 0)), (1, .int (nI sN)), (3, .int (nI q)), (4, .int (nI j))]) (hn18 : 4096 - j < n18), W pg l ev (headSpec wsX4_select ({ frames := 2, cells := 0, slots := 0, locals := 44 })).room s m ([.ref (M 0), .int (nI sN), .int (nI xN)] : List Value).toArray below meth c s.heap [] 0 0 Q (F0 m 18 ls []) := by
        intro n18
        induction n18 with
        | zero =>
          intro j q hj hq hv ls hl hn18
          exact absurd hn18 (Nat.not_lt_zero _)
        | succ n18 ih18 =>
          intro j q hj hq hv ls hl hn18
          refine lv_iload hx hb dX4_select_18 (lv_at hl 3 rfl) ?_
          refine lv_sipush (v := (nI 4096)) hx hb dX4_select_20 (by decide) ?_
          refine lv_icmp_ge (tgt := 52) hx hb dX4_select_23 (by decide) (fun c_3 => ?_) (fun c_3 => ?_)
          · skip
            have c_3 : 4096 ≤ j := (nI_leI (a := 4096) (b := j) (by omega) (by omega)).mp c_3
            refine lv_bipush (v := (-9)) hx hb dX4_select_52 (by decide) ?_
            subst hQ
            refine W.iret (v := (-9)) hx hb hr (fun t ht hW => ⟨(-9), rfl, ?_, ht⟩) (fun q h => absurd h List.not_mem_nil) dX4_select_54
            unfold selR
            rw [if_pos ⟨okN hsN (by decide), Int32.not_lt.mpr c_2⟩, cl_n (by omega), ← nthA_cong (hR0.1 _ hsN)]
            unfold nthA
            rw [if_neg (Int32.not_lt.mpr c_2), nI_clamp hxN, ← hv, show 4096 - j = 0 by omega]
            exact rfl
          · skip
            have c_3 : ¬ (4096 ≤ j) := fun z => c_3 ((nI_leI (a := 4096) (b := j) (by omega) (by omega)).mpr z)
            refine lv_aload_n hx hb dX4_select_26 rfl (lv_at hl 0 rfl) ?_
            refine lv_iload_n hx hb dX4_select_27 rfl (lv_at hl 1 rfl) ?_
            refine lv_iload hx hb dX4_select_28 (lv_at hl 3 rfl) ?_
            refine vp_callSi (va_Run.run (va_runV (As := [.int (nI sN), .int (nI j)]) (rest := []) ⟨hx, hb, hml, hown, hts⟩ (k_X4_has l D T M v as pa fi.2.2.1 (buF fi) fi.2.2.2.2 bi at0 sN j (by omega) (by omega)) (cwV 2 hts gX4_select_X4_has rfl rfl rfl (by decide +kernel) ⟨Nat.le_of_ble_eq_true rfl, Nat.le_of_ble_eq_true rfl⟩) (pre_V (Φ := fun X => MO D T X M v as pa fi.2.2.1 (buF fi) fi.2.2.2.2 bi at0) hK (hM.2.1) rfl hM) rfl rfl hl.1 rfl (lv_room (Nat.le_of_ble_eq_true rfl)) dX4_select_30 ⟨Nat.le_of_ble_eq_true rfl, Nat.le_of_ble_eq_true rfl⟩)) (fun r_2 hr_2 => ?_)
            subst hr_2
            refine lv_if_eq (tgt := 46) hx hb dX4_select_33 (by decide) (fun c_4 => ?_) (fun c_4 => ?_)
            · skip
              have c_4 : bI v sN j = false := b2i_0.mp c_4
              refine lv_iinc (v := (nI (j + 1))) (lv' := [(4, .int (nI (j + 1))), (0, .ref (M 0)), (1, .int (nI sN)), (3, .int (nI q))]) hx hb dX4_select_46 hl (k := 3) rfl (iinc_n j 1) (by decide) rfl (fun ls hl => ?_)
              refine lv_goto (tgt := 18) hx hb dX4_select_49 (by decide) ?_
              have hl := lv_sub hl (l' := [(0, .ref (M 0)), (1, .int (nI sN)), (3, .int (nI q)), (4, .int (nI (j + 1)))]) [1, 2, 3, 0] rfl
              exact ih18 (j + 1) q (by omega) (by omega) (by rw [show 4096 - j = (4096 - (j + 1)) + 1 by omega, nthF_s (bI v sN) (4096 - (j + 1)) j q] at hv; rw [if_neg (show ¬ ((bI v sN) j = true) by rw [c_4]; exact Bool.false_ne_true)] at hv; exact hv) ls hl (by omega)
            · skip
              have c_4 : bI v sN j = true := b2i_n0.mp c_4
              refine lv_iload_n hx hb dX4_select_36 rfl (lv_at hl 2 rfl) ?_
              refine lv_if_ne (tgt := 43) hx hb dX4_select_37 (by decide) (fun c_5 => ?_) (fun c_5 => ?_)
              · skip
                have c_5 : ¬ (q = 0) := fun z => c_5 ((nI_e0 (a := q) (by omega)).mpr z)
                refine lv_iinc (v := (nI (q - 1))) (lv' := [(3, .int (nI (q - 1))), (0, .ref (M 0)), (1, .int (nI sN)), (4, .int (nI j))]) hx hb dX4_select_43 hl (k := 2) rfl (iinc_m (a := q) (by omega)) (by decide) rfl (fun ls hl => ?_)
                refine lv_iinc (v := (nI (j + 1))) (lv' := [(4, .int (nI (j + 1))), (3, .int (nI (q - 1))), (0, .ref (M 0)), (1, .int (nI sN))]) hx hb dX4_select_46 hl (k := 3) rfl (iinc_n j 1) (by decide) rfl (fun ls hl => ?_)
                refine lv_goto (tgt := 18) hx hb dX4_select_49 (by decide) ?_
                have hl := lv_sub hl (l' := [(0, .ref (M 0)), (1, .int (nI sN)), (3, .int (nI (q - 1))), (4, .int (nI (j + 1)))]) [2, 3, 1, 0] rfl
                exact ih18 (j + 1) (q - 1) (by omega) (by omega) (by rw [show 4096 - j = (4096 - (j + 1)) + 1 by omega, nthF_s (bI v sN) (4096 - (j + 1)) j q] at hv; rw [if_pos c_4, if_neg c_5] at hv; exact hv) ls hl (by omega)
              · skip
                have c_5 : q = 0 := (nI_e0 (a := q) (by omega)).mp c_5
                refine lv_iload hx hb dX4_select_40 (lv_at hl 3 rfl) ?_
                subst hQ
                refine W.iret (v := (nI j)) hx hb hr (fun t ht hW => ⟨(nI j), rfl, ?_, ht⟩) (fun q h => absurd h List.not_mem_nil) dX4_select_42
                unfold selR
                rw [if_pos ⟨okN hsN (by decide), Int32.not_lt.mpr c_2⟩, cl_n (by omega), ← nthA_cong (hR0.1 _ hsN)]
                unfold nthA
                rw [if_neg (Int32.not_lt.mpr c_2), nI_clamp hxN, ← hv, show 4096 - j = (4096 - (j + 1)) + 1 by omega, nthF_s (bI v sN) (4096 - (j + 1)) j q, if_pos c_4, if_pos c_5]
      have hl := lv_sub hl (l' := [(0, .ref (M 0)), (1, .int (nI sN)), (3, .int (nI xN)), (4, .int (nI 0))]) [2, 3, 1, 0] rfl
      exact loop18 (4096 - 0 + 1) 0 xN (Nat.zero_le _) (hxN) (rfl) ls hl (Nat.lt_succ_self _)
    · skip
      refine lv_iconst (v := (-1)) hx hb dX4_select_11 (by decide) ?_
      subst hQ
      refine W.iret (v := (-1)) hx hb hr (fun t ht hW => ⟨(-1), rfl, ?_, ht⟩) (fun q h => absurd h List.not_mem_nil) dX4_select_12
      first | exact (if_neg (fun z => c_1 z.1)).symm | exact (if_neg (fun z => c_2 (Int32.not_lt.mp z.2))).symm
set_option maxHeartbeats 4000000 in
set_option maxRecDepth 100000 in
theorem k_X4_near (l : Launch) (D : va_G) (T : Nat → ClassId) (M : Nat → Nat) (Sy : Nat → Prop) (fi : FS) (ss : Int32) (x : Int32) (y : Int32) : Met l yX4_near wsX4_near ({ frames := 2, cells := 0, slots := 0, locals := 44 }) (va_Pc [.ref (M 0), .int ss, .int x, .int y] (fun U => KS D T U ∧ MSE D T U.heap M Sy fi)) (vp_Si (fun r => r = (neaR fi ss x y))) 0 0 (fun _ => False) := by
  refine Met.ofW (cc := cX4_near) (maxL := 6) (ret := (some .int)) (by decide) rfl ?_
  intro pg ev s m args below meth c s₁ B hml hv
  obtain ⟨rfl, hK, hH⟩ := hv
  have hx := B.exec
  have hb := B.bytes
  have hr := B.returns
  have hts := atoms_spec (ws := wsX4_near) B.pre
  have hown : s.vm.findClass RX4 = some m.cls := findClass_of_methodNamed B.named
  have hlocks := B.notSynchronized
  have in_wsX40 : ∀ w ∈ wsX40, w ∈ wsX4_near := fun w h => List.mem_cons_of_mem _ (List.mem_append_right _ h)
  have hl := lv_entry ([.ref (M 0), .int ss, .int x, .int y]) (n := 6) (Nat.le_of_ble_eq_true rfl)
  rw [lg_entry_eq]
  generalize (lg_sl ([.ref (M 0), .int ss, .int x, .int y]) ++ List.replicate (6 - (lg_sl ([.ref (M 0), .int ss, .int x, .int y])).length) Slot.unset).toArray = ls at hl ⊢
  have hl : lv_has ls 6 [(0, .ref (M 0)), (1, .int ss), (2, .int x), (3, .int y)] := hl
  refine W_gen (fun Q hQ => ?_)
  obtain ⟨v, as, pa, bi, at0, hM, hSy, hrb, hbl, hk5, hR0, hRh⟩ := id hH
  refine lv_iload_n hx hb dX4_near_0 rfl (lv_at hl 1 rfl) ?_
  refine vp_callSi (va_Run.run (va_runS (As := [.int ss]) (rest := []) ⟨hx, hb, hml, hown, hts⟩ (k_X4_isSet l D T ss ) (va_cwS 1 hts gX4_near_X4_isSet rfl rfl rfl (by decide +kernel) ⟨Nat.le_of_ble_eq_true rfl, Nat.le_of_ble_eq_true rfl⟩) (pre_S (Φ := fun X => True) hK trivial) rfl rfl hl.1 rfl (lv_room (Nat.le_of_ble_eq_true rfl)) dX4_near_1 ⟨Nat.le_of_ble_eq_true rfl, Nat.le_of_ble_eq_true rfl⟩)) (fun r_1 hr_1 => ?_)
  subst hr_1
  refine lv_if_ne (tgt := 9) hx hb dX4_near_4 (by decide) (fun c_1 => ?_) (fun c_1 => ?_)
  · skip
    have c_1 : (decide (¬ ss < 0 ∧ ss < nI 6)) = true := b2i_n0.mp c_1
    have c_1 : ¬ ss < 0 ∧ ss < nI 6 := of_decide_eq_true c_1
    obtain ⟨sN, hsN, rfl⟩ := okX (N := 6) (by decide) c_1
    refine lv_bipush (v := (-9)) hx hb dX4_near_9 (by decide) ?_
    refine lv_istore (lv' := [(4, .int (-9)), (0, .ref (M 0)), (1, .int (nI sN)), (2, .int x), (3, .int y)]) hx hb dX4_near_11 hl (by decide) rfl (fun ls hl => ?_)
    refine lv_iconst (v := (nI 0)) hx hb dX4_near_13 (by decide) ?_
    refine lv_istore (lv' := [(5, .int (nI 0)), (4, .int (-9)), (0, .ref (M 0)), (1, .int (nI sN)), (2, .int x), (3, .int y)]) hx hb dX4_near_14 hl (by decide) rfl (fun ls hl => ?_)
    have loop16 : ∀ (n16 : Nat) (i : Nat) (hi : i ≤ 4096) (ls : Array Slot) (hl : lv_has ls 6 [(0, .ref (M 0)), (1, .int (nI sN)), (2, .int x), (3, .int y), (4, .int (nrF (bI v sN) x y i)), (5, .int (nI i))]) (hn16 : 4096 - i < n16), W pg l ev (headSpec wsX4_near ({ frames := 2, cells := 0, slots := 0, locals := 44 })).room s m ([.ref (M 0), .int (nI sN), .int x, .int y] : List Value).toArray below meth c s.heap [] 0 0 Q (F0 m 16 ls []) := by
      intro n16
      induction n16 with
      | zero =>
        intro i hi ls hl hn16
        exact absurd hn16 (Nat.not_lt_zero _)
      | succ n16 ih16 =>
        intro i hi ls hl hn16
        refine lv_iload hx hb dX4_near_16 (lv_at hl 5 rfl) ?_
        refine lv_sipush (v := (nI 4096)) hx hb dX4_near_18 (by decide) ?_
        refine lv_icmp_ge (tgt := 80) hx hb dX4_near_21 (by decide) (fun c_2 => ?_) (fun c_2 => ?_)
        · skip
          have c_2 : 4096 ≤ i := (nI_leI (a := 4096) (b := i) (by omega) (by omega)).mp c_2
          refine lv_iload hx hb dX4_near_80 (lv_at hl 4 rfl) ?_
          subst hQ
          refine W.iret (v := (nrF (bI v sN) x y i)) hx hb hr (fun t ht hW => ⟨(nrF (bI v sN) x y i), rfl, ?_, ht⟩) (fun q h => absurd h List.not_mem_nil) dX4_near_82
          unfold neaR
          rw [if_pos (okN hsN (by decide)), cl_n (by omega)]
          rw [show i = 4096 by omega]
          exact nrF_cong (hR0.1 _ hsN) x y
        · skip
          have c_2 : ¬ (4096 ≤ i) := fun z => c_2 ((nI_leI (a := 4096) (b := i) (by omega) (by omega)).mpr z)
          refine lv_aload_n hx hb dX4_near_24 rfl (lv_at hl 0 rfl) ?_
          refine lv_iload_n hx hb dX4_near_25 rfl (lv_at hl 1 rfl) ?_
          refine lv_iload hx hb dX4_near_26 (lv_at hl 5 rfl) ?_
          refine vp_callSi (va_Run.run (va_runV (As := [.int (nI sN), .int (nI i)]) (rest := []) ⟨hx, hb, hml, hown, hts⟩ (k_X4_has l D T M v as pa fi.2.2.1 (buF fi) fi.2.2.2.2 bi at0 sN i (by omega) (by omega)) (cwV 2 hts gX4_near_X4_has rfl rfl rfl (by decide +kernel) ⟨Nat.le_of_ble_eq_true rfl, Nat.le_of_ble_eq_true rfl⟩) (pre_V (Φ := fun X => MO D T X M v as pa fi.2.2.1 (buF fi) fi.2.2.2.2 bi at0) hK (hM.2.1) rfl hM) rfl rfl hl.1 rfl (lv_room (Nat.le_of_ble_eq_true rfl)) dX4_near_28 ⟨Nat.le_of_ble_eq_true rfl, Nat.le_of_ble_eq_true rfl⟩)) (fun r_2 hr_2 => ?_)
          subst hr_2
          refine lv_if_eq (tgt := 74) hx hb dX4_near_31 (by decide) (fun c_3 => ?_) (fun c_3 => ?_)
          · skip
            have c_3 : bI v sN i = false := b2i_0.mp c_3
            refine lv_iinc (v := (nI (i + 1))) (lv' := [(5, .int (nI (i + 1))), (0, .ref (M 0)), (1, .int (nI sN)), (2, .int x), (3, .int y), (4, .int (nrF (bI v sN) x y i))]) hx hb dX4_near_74 hl (k := 5) rfl (iinc_n i 1) (by decide) rfl (fun ls hl => ?_)
            refine lv_goto (tgt := 16) hx hb dX4_near_77 (by decide) ?_
            have hl := lv_sub hl (l' := [(0, .ref (M 0)), (1, .int (nI sN)), (2, .int x), (3, .int y), (4, .int (nrF (bI v sN) x y i)), (5, .int (nI (i + 1)))]) [1, 2, 3, 4, 5, 0] rfl
            have q_1 : (nrF (bI v sN) x y i) = (nrF (bI v sN) x y (i + 1)) := (nr_skip (by omega) c_3).symm
            have hl : lv_has ls 6 [(0, .ref (M 0)), (1, .int (nI sN)), (2, .int x), (3, .int y), (4, .int (nrF (bI v sN) x y (i + 1))), (5, .int (nI (i + 1)))] := by
              have h := hl
              rw [q_1] at h
              exact h
            exact ih16 (i + 1) (by omega) ls hl (by omega)
          · skip
            have c_3 : bI v sN i = true := b2i_n0.mp c_3
            refine lv_iload_n hx hb dX4_near_34 rfl (lv_at hl 3 rfl) ?_
            refine lv_if_eq (tgt := 59) hx hb dX4_near_35 (by decide) (fun c_4 => ?_) (fun c_4 => ?_)
            · skip
              refine lv_iload hx hb dX4_near_59 (lv_at hl 5 rfl) ?_
              refine lv_iload_n hx hb dX4_near_61 rfl (lv_at hl 2 rfl) ?_
              refine lv_icmp_gt (tgt := 70) hx hb dX4_near_62 (by decide) (fun c_5 => ?_) (fun c_5 => ?_)
              · skip
                refine lv_iload hx hb dX4_near_70 (lv_at hl 4 rfl) ?_
                refine lv_istore (lv' := [(4, .int (nrF (bI v sN) x y i)), (0, .ref (M 0)), (1, .int (nI sN)), (2, .int x), (3, .int y), (5, .int (nI i))]) hx hb dX4_near_72 hl (by decide) rfl (fun ls hl => ?_)
                refine lv_iinc (v := (nI (i + 1))) (lv' := [(5, .int (nI (i + 1))), (4, .int (nrF (bI v sN) x y i)), (0, .ref (M 0)), (1, .int (nI sN)), (2, .int x), (3, .int y)]) hx hb dX4_near_74 hl (k := 5) rfl (iinc_n i 1) (by decide) rfl (fun ls hl => ?_)
                refine lv_goto (tgt := 16) hx hb dX4_near_77 (by decide) ?_
                have hl := lv_sub hl (l' := [(0, .ref (M 0)), (1, .int (nI sN)), (2, .int x), (3, .int y), (4, .int (nrF (bI v sN) x y i)), (5, .int (nI (i + 1)))]) [2, 3, 4, 5, 1, 0] rfl
                have q_1 : (nrF (bI v sN) x y i) = (nrF (bI v sN) x y (i + 1)) := (nr_d2 c_4 (Int32.not_le.mpr c_5)).symm
                have hl : lv_has ls 6 [(0, .ref (M 0)), (1, .int (nI sN)), (2, .int x), (3, .int y), (4, .int (nrF (bI v sN) x y (i + 1))), (5, .int (nI (i + 1)))] := by
                  have h := hl
                  rw [q_1] at h
                  exact h
                exact ih16 (i + 1) (by omega) ls hl (by omega)
              · skip
                refine lv_iload hx hb dX4_near_65 (lv_at hl 5 rfl) ?_
                refine lv_goto (tgt := 72) hx hb dX4_near_67 (by decide) ?_
                refine lv_istore (lv' := [(4, .int (nI i)), (0, .ref (M 0)), (1, .int (nI sN)), (2, .int x), (3, .int y), (5, .int (nI i))]) hx hb dX4_near_72 hl (by decide) rfl (fun ls hl => ?_)
                refine lv_iinc (v := (nI (i + 1))) (lv' := [(5, .int (nI (i + 1))), (4, .int (nI i)), (0, .ref (M 0)), (1, .int (nI sN)), (2, .int x), (3, .int y)]) hx hb dX4_near_74 hl (k := 5) rfl (iinc_n i 1) (by decide) rfl (fun ls hl => ?_)
                refine lv_goto (tgt := 16) hx hb dX4_near_77 (by decide) ?_
                have hl := lv_sub hl (l' := [(0, .ref (M 0)), (1, .int (nI sN)), (2, .int x), (3, .int y), (4, .int (nI i)), (5, .int (nI (i + 1)))]) [2, 3, 4, 5, 1, 0] rfl
                have q_1 : (nI i) = (nrF (bI v sN) x y (i + 1)) := (nr_d1 c_4 c_3 (Int32.not_lt.mp c_5)).symm
                have hl : lv_has ls 6 [(0, .ref (M 0)), (1, .int (nI sN)), (2, .int x), (3, .int y), (4, .int (nrF (bI v sN) x y (i + 1))), (5, .int (nI (i + 1)))] := by
                  have h := hl
                  rw [q_1] at h
                  exact h
                exact ih16 (i + 1) (by omega) ls hl (by omega)
            · skip
              refine lv_iload hx hb dX4_near_38 (lv_at hl 5 rfl) ?_
              refine lv_iload_n hx hb dX4_near_40 rfl (lv_at hl 2 rfl) ?_
              refine lv_icmp_lt (tgt := 54) hx hb dX4_near_41 (by decide) (fun c_5 => ?_) (fun c_5 => ?_)
              · skip
                refine lv_iload hx hb dX4_near_54 (lv_at hl 4 rfl) ?_
                refine lv_goto (tgt := 72) hx hb dX4_near_56 (by decide) ?_
                refine lv_istore (lv' := [(4, .int (nrF (bI v sN) x y i)), (0, .ref (M 0)), (1, .int (nI sN)), (2, .int x), (3, .int y), (5, .int (nI i))]) hx hb dX4_near_72 hl (by decide) rfl (fun ls hl => ?_)
                refine lv_iinc (v := (nI (i + 1))) (lv' := [(5, .int (nI (i + 1))), (4, .int (nrF (bI v sN) x y i)), (0, .ref (M 0)), (1, .int (nI sN)), (2, .int x), (3, .int y)]) hx hb dX4_near_74 hl (k := 5) rfl (iinc_n i 1) (by decide) rfl (fun ls hl => ?_)
                refine lv_goto (tgt := 16) hx hb dX4_near_77 (by decide) ?_
                have hl := lv_sub hl (l' := [(0, .ref (M 0)), (1, .int (nI sN)), (2, .int x), (3, .int y), (4, .int (nrF (bI v sN) x y i)), (5, .int (nI (i + 1)))]) [2, 3, 4, 5, 1, 0] rfl
                have q_1 : (nrF (bI v sN) x y i) = (nrF (bI v sN) x y (i + 1)) := (nr_u2 (by omega) c_4 (Int32.not_le.mpr c_5)).symm
                have hl : lv_has ls 6 [(0, .ref (M 0)), (1, .int (nI sN)), (2, .int x), (3, .int y), (4, .int (nrF (bI v sN) x y (i + 1))), (5, .int (nI (i + 1)))] := by
                  have h := hl
                  rw [q_1] at h
                  exact h
                exact ih16 (i + 1) (by omega) ls hl (by omega)
              · skip
                refine lv_iload hx hb dX4_near_44 (lv_at hl 4 rfl) ?_
                refine lv_if_ge (tgt := 54) hx hb dX4_near_46 (by decide) (fun c_6 => ?_) (fun c_6 => ?_)
                · skip
                  refine lv_iload hx hb dX4_near_54 (lv_at hl 4 rfl) ?_
                  refine lv_goto (tgt := 72) hx hb dX4_near_56 (by decide) ?_
                  refine lv_istore (lv' := [(4, .int (nrF (bI v sN) x y i)), (0, .ref (M 0)), (1, .int (nI sN)), (2, .int x), (3, .int y), (5, .int (nI i))]) hx hb dX4_near_72 hl (by decide) rfl (fun ls hl => ?_)
                  refine lv_iinc (v := (nI (i + 1))) (lv' := [(5, .int (nI (i + 1))), (4, .int (nrF (bI v sN) x y i)), (0, .ref (M 0)), (1, .int (nI sN)), (2, .int x), (3, .int y)]) hx hb dX4_near_74 hl (k := 5) rfl (iinc_n i 1) (by decide) rfl (fun ls hl => ?_)
                  refine lv_goto (tgt := 16) hx hb dX4_near_77 (by decide) ?_
                  have hl := lv_sub hl (l' := [(0, .ref (M 0)), (1, .int (nI sN)), (2, .int x), (3, .int y), (4, .int (nrF (bI v sN) x y i)), (5, .int (nI (i + 1)))]) [2, 3, 4, 5, 1, 0] rfl
                  have q_1 : (nrF (bI v sN) x y i) = (nrF (bI v sN) x y (i + 1)) := (nr_u3 (by omega) c_4 (Int32.not_lt.mpr c_6)).symm
                  have hl : lv_has ls 6 [(0, .ref (M 0)), (1, .int (nI sN)), (2, .int x), (3, .int y), (4, .int (nrF (bI v sN) x y (i + 1))), (5, .int (nI (i + 1)))] := by
                    have h := hl
                    rw [q_1] at h
                    exact h
                  exact ih16 (i + 1) (by omega) ls hl (by omega)
                · skip
                  refine lv_iload hx hb dX4_near_49 (lv_at hl 5 rfl) ?_
                  refine lv_goto (tgt := 72) hx hb dX4_near_51 (by decide) ?_
                  refine lv_istore (lv' := [(4, .int (nI i)), (0, .ref (M 0)), (1, .int (nI sN)), (2, .int x), (3, .int y), (5, .int (nI i))]) hx hb dX4_near_72 hl (by decide) rfl (fun ls hl => ?_)
                  refine lv_iinc (v := (nI (i + 1))) (lv' := [(5, .int (nI (i + 1))), (4, .int (nI i)), (0, .ref (M 0)), (1, .int (nI sN)), (2, .int x), (3, .int y)]) hx hb dX4_near_74 hl (k := 5) rfl (iinc_n i 1) (by decide) rfl (fun ls hl => ?_)
                  refine lv_goto (tgt := 16) hx hb dX4_near_77 (by decide) ?_
                  have hl := lv_sub hl (l' := [(0, .ref (M 0)), (1, .int (nI sN)), (2, .int x), (3, .int y), (4, .int (nI i)), (5, .int (nI (i + 1)))]) [2, 3, 4, 5, 1, 0] rfl
                  have q_1 : (nI i) = (nrF (bI v sN) x y (i + 1)) := (nr_u1 (by omega) c_4 c_3 (Int32.not_lt.mp c_5) (Int32.not_le.mp c_6)).symm
                  have hl : lv_has ls 6 [(0, .ref (M 0)), (1, .int (nI sN)), (2, .int x), (3, .int y), (4, .int (nrF (bI v sN) x y (i + 1))), (5, .int (nI (i + 1)))] := by
                    have h := hl
                    rw [q_1] at h
                    exact h
                  exact ih16 (i + 1) (by omega) ls hl (by omega)
    have hl := lv_sub hl (l' := [(0, .ref (M 0)), (1, .int (nI sN)), (2, .int x), (3, .int y), (4, .int (-9)), (5, .int (nI 0))]) [2, 3, 4, 5, 1, 0] rfl
    have q_1 : (-9) = (nrF (bI v sN) x y 0) := by unfold nrF; split <;> rfl
    have hl : lv_has ls 6 [(0, .ref (M 0)), (1, .int (nI sN)), (2, .int x), (3, .int y), (4, .int (nrF (bI v sN) x y 0)), (5, .int (nI 0))] := by
      have h := hl
      rw [q_1] at h
      exact h
    exact loop16 (4096 - 0 + 1) 0 (Nat.zero_le _) ls hl (Nat.lt_succ_self _)
  · skip
    have c_1 : (decide (¬ ss < 0 ∧ ss < nI 6)) = false := b2i_0.mp c_1
    have c_1 : ¬ (¬ ss < 0 ∧ ss < nI 6) := of_decide_eq_false c_1
    refine lv_iconst (v := (-1)) hx hb dX4_near_7 (by decide) ?_
    subst hQ
    refine W.iret (v := (-1)) hx hb hr (fun t ht hW => ⟨(-1), rfl, ?_, ht⟩) (fun q h => absurd h List.not_mem_nil) dX4_near_8
    exact (if_neg c_1).symm
set_option maxHeartbeats 4000000 in
set_option maxRecDepth 100000 in
theorem k_X4_runs (l : Launch) (D : va_G) (T : Nat → ClassId) (M : Nat → Nat) (Sy : Nat → Prop) (fi : FS) (ss : Int32) : Met l yX4_runs wsX4_runs ({ frames := 3, cells := 0, slots := 0, locals := 66 }) (va_Pc [.ref (M 0), .int ss] (fun U => KS D T U ∧ MSE D T U.heap M Sy fi)) (vp_Si (fun r => r = (rusR fi ss))) 0 0 (fun _ => False) := by
  refine Met.ofW (cc := cX4_runs) (maxL := 4) (ret := (some .int)) (by decide) rfl ?_
  intro pg ev s m args below meth c s₁ B hml hv
  obtain ⟨rfl, hK, hH⟩ := hv
  have hx := B.exec
  have hb := B.bytes
  have hr := B.returns
  have hts := atoms_spec (ws := wsX4_runs) B.pre
  have hown : s.vm.findClass RX4 = some m.cls := findClass_of_methodNamed B.named
  have hlocks := B.notSynchronized
  have in_wsX40 : ∀ w ∈ wsX40, w ∈ wsX4_runs := fun w h => List.mem_cons_of_mem _ (List.mem_append_right _ h)
  have hl := lv_entry ([.ref (M 0), .int ss]) (n := 4) (Nat.le_of_ble_eq_true rfl)
  rw [lg_entry_eq]
  generalize (lg_sl ([.ref (M 0), .int ss]) ++ List.replicate (4 - (lg_sl ([.ref (M 0), .int ss])).length) Slot.unset).toArray = ls at hl ⊢
  have hl : lv_has ls 4 [(0, .ref (M 0)), (1, .int ss)] := hl
  refine W_gen (fun Q hQ => ?_)
  obtain ⟨v, as, pa, bi, at0, hM, hSy, hrb, hbl, hk5, hR0, hRh⟩ := id hH
  refine lv_iload_n hx hb dX4_runs_0 rfl (lv_at hl 1 rfl) ?_
  refine vp_callSi (va_Run.run (va_runS (As := [.int ss]) (rest := []) ⟨hx, hb, hml, hown, hts⟩ (k_X4_isSet l D T ss ) (va_cwS 1 hts gX4_runs_X4_isSet rfl rfl rfl (by decide +kernel) ⟨Nat.le_of_ble_eq_true rfl, Nat.le_of_ble_eq_true rfl⟩) (pre_S (Φ := fun X => True) hK trivial) rfl rfl hl.1 rfl (lv_room (Nat.le_of_ble_eq_true rfl)) dX4_runs_1 ⟨Nat.le_of_ble_eq_true rfl, Nat.le_of_ble_eq_true rfl⟩)) (fun r_1 hr_1 => ?_)
  subst hr_1
  refine lv_if_ne (tgt := 9) hx hb dX4_runs_4 (by decide) (fun c_1 => ?_) (fun c_1 => ?_)
  · skip
    have c_1 : (decide (¬ ss < 0 ∧ ss < nI 6)) = true := b2i_n0.mp c_1
    have c_1 : ¬ ss < 0 ∧ ss < nI 6 := of_decide_eq_true c_1
    obtain ⟨sN, hsN, rfl⟩ := okX (N := 6) (by decide) c_1
    refine lv_iconst (v := (nI 0)) hx hb dX4_runs_9 (by decide) ?_
    refine lv_istore_n (lv' := [(2, .int (nI 0)), (0, .ref (M 0)), (1, .int (nI sN))]) hx hb dX4_runs_10 rfl hl (by decide) rfl (fun ls hl => ?_)
    refine lv_iconst (v := (nI 0)) hx hb dX4_runs_11 (by decide) ?_
    refine lv_istore_n (lv' := [(3, .int (nI 0)), (2, .int (nI 0)), (0, .ref (M 0)), (1, .int (nI sN))]) hx hb dX4_runs_12 rfl hl (by decide) rfl (fun ls hl => ?_)
    have loop13 : ∀ (n13 : Nat) (i : Nat) (hi : i ≤ 4096) (ls : Array Slot) (hl : lv_has ls 4 [(0, .ref (M 0)), (1, .int (nI sN)), (2, .int (nI (ct (rsG (bI v sN) 0) 0 i))), (3, .int (nI i))]) (hn13 : 4096 - i < n13), W pg l ev (headSpec wsX4_runs ({ frames := 3, cells := 0, slots := 0, locals := 66 })).room s m ([.ref (M 0), .int (nI sN)] : List Value).toArray below meth c s.heap [] 0 0 Q (F0 m 13 ls []) := by
      intro n13
      induction n13 with
      | zero =>
        intro i hi ls hl hn13
        exact absurd hn13 (Nat.not_lt_zero _)
      | succ n13 ih13 =>
        intro i hi ls hl hn13
        refine lv_iload_n hx hb dX4_runs_13 rfl (lv_at hl 3 rfl) ?_
        refine lv_sipush (v := (nI 4096)) hx hb dX4_runs_14 (by decide) ?_
        refine lv_icmp_ge (tgt := 43) hx hb dX4_runs_17 (by decide) (fun c_2 => ?_) (fun c_2 => ?_)
        · skip
          have c_2 : 4096 ≤ i := (nI_leI (a := 4096) (b := i) (by omega) (by omega)).mp c_2
          refine lv_iload_n hx hb dX4_runs_43 rfl (lv_at hl 2 rfl) ?_
          subst hQ
          refine W.iret (v := (nI (ct (rsG (bI v sN) 0) 0 i))) hx hb hr (fun t ht hW => ⟨(nI (ct (rsG (bI v sN) 0) 0 i)), rfl, ?_, ht⟩) (fun q h => absurd h List.not_mem_nil) dX4_runs_44
          unfold rusR
          rw [if_pos (okN hsN (by decide)), cl_n (by omega)]
          rw [show i = 4096 by omega]
          exact congrArg nI (ct_cong (fun x _ h => rsG_cong (hR0.1 _ hsN) x (by omega)))
        · skip
          have c_2 : ¬ (4096 ≤ i) := fun z => c_2 ((nI_leI (a := 4096) (b := i) (by omega) (by omega)).mpr z)
          refine lv_iload_n hx hb dX4_runs_20 rfl (lv_at hl 2 rfl) ?_
          refine lv_aload_n hx hb dX4_runs_21 rfl (lv_at hl 0 rfl) ?_
          refine lv_iload_n hx hb dX4_runs_22 rfl (lv_at hl 1 rfl) ?_
          refine lv_iload_n hx hb dX4_runs_23 rfl (lv_at hl 3 rfl) ?_
          refine vp_callSi (va_Run.run (va_runV (As := [.int (nI sN), .int (nI i)]) (rest := [.int (nI (ct (rsG (bI v sN) 0) 0 i))]) ⟨hx, hb, hml, hown, hts⟩ (k_X4_begins l D T M v as pa fi.2.2.1 (buF fi) fi.2.2.2.2 bi at0 sN i (by omega) (by omega)) (cwV 2 hts gX4_runs_X4_begins rfl rfl rfl (by decide +kernel) ⟨Nat.le_of_ble_eq_true rfl, Nat.le_of_ble_eq_true rfl⟩) (pre_V (Φ := fun X => MO D T X M v as pa fi.2.2.1 (buF fi) fi.2.2.2.2 bi at0) hK (hM.2.1) rfl hM) rfl rfl hl.1 rfl (lv_room (Nat.le_of_ble_eq_true rfl)) dX4_runs_24 ⟨Nat.le_of_ble_eq_true rfl, Nat.le_of_ble_eq_true rfl⟩)) (fun r_2 hr_2 => ?_)
          subst hr_2
          refine lv_if_eq (tgt := 34) hx hb dX4_runs_27 (by decide) (fun c_3 => ?_) (fun c_3 => ?_)
          · skip
            have c_3 : rsG (bI v sN) 0 i = false := b2i_0.mp c_3
            refine lv_iconst (v := (nI 0)) hx hb dX4_runs_34 (by decide) ?_
            refine lv_iadd hx hb dX4_runs_35 ?_
            refine top_i (nI_add (ct (rsG (bI v sN) 0) 0 i) 0) ?_
            refine lv_istore_n (lv' := [(2, .int (nI ((ct (rsG (bI v sN) 0) 0 i) + 0))), (0, .ref (M 0)), (1, .int (nI sN)), (3, .int (nI i))]) hx hb dX4_runs_36 rfl hl (by decide) rfl (fun ls hl => ?_)
            refine lv_iinc (v := (nI (i + 1))) (lv' := [(3, .int (nI (i + 1))), (2, .int (nI ((ct (rsG (bI v sN) 0) 0 i) + 0))), (0, .ref (M 0)), (1, .int (nI sN))]) hx hb dX4_runs_37 hl (k := 3) rfl (iinc_n i 1) (by decide) rfl (fun ls hl => ?_)
            refine lv_goto (tgt := 13) hx hb dX4_runs_40 (by decide) ?_
            have hl := lv_sub hl (l' := [(0, .ref (M 0)), (1, .int (nI sN)), (2, .int (nI ((ct (rsG (bI v sN) 0) 0 i) + 0))), (3, .int (nI (i + 1)))]) [2, 3, 1, 0] rfl
            have q_1 : (nI ((ct (rsG (bI v sN) 0) 0 i) + 0)) = (nI (ct (rsG (bI v sN) 0) 0 (i + 1))) := by first | rw [ct_end, Nat.zero_add, if_pos c_3] | rw [ct_end, Nat.zero_add, c_3, if_neg Bool.false_ne_true, Nat.add_zero]
            have hl : lv_has ls 4 [(0, .ref (M 0)), (1, .int (nI sN)), (2, .int (nI (ct (rsG (bI v sN) 0) 0 (i + 1)))), (3, .int (nI (i + 1)))] := by
              have h := hl
              rw [q_1] at h
              exact h
            exact ih13 (i + 1) (by omega) ls hl (by omega)
          · skip
            have c_3 : rsG (bI v sN) 0 i = true := b2i_n0.mp c_3
            refine lv_iconst (v := (nI 1)) hx hb dX4_runs_30 (by decide) ?_
            refine lv_goto (tgt := 35) hx hb dX4_runs_31 (by decide) ?_
            refine lv_iadd hx hb dX4_runs_35 ?_
            refine top_i (nI_add (ct (rsG (bI v sN) 0) 0 i) 1) ?_
            refine lv_istore_n (lv' := [(2, .int (nI ((ct (rsG (bI v sN) 0) 0 i) + 1))), (0, .ref (M 0)), (1, .int (nI sN)), (3, .int (nI i))]) hx hb dX4_runs_36 rfl hl (by decide) rfl (fun ls hl => ?_)
            refine lv_iinc (v := (nI (i + 1))) (lv' := [(3, .int (nI (i + 1))), (2, .int (nI ((ct (rsG (bI v sN) 0) 0 i) + 1))), (0, .ref (M 0)), (1, .int (nI sN))]) hx hb dX4_runs_37 hl (k := 3) rfl (iinc_n i 1) (by decide) rfl (fun ls hl => ?_)
            refine lv_goto (tgt := 13) hx hb dX4_runs_40 (by decide) ?_
            have hl := lv_sub hl (l' := [(0, .ref (M 0)), (1, .int (nI sN)), (2, .int (nI ((ct (rsG (bI v sN) 0) 0 i) + 1))), (3, .int (nI (i + 1)))]) [2, 3, 1, 0] rfl
            have q_1 : (nI ((ct (rsG (bI v sN) 0) 0 i) + 1)) = (nI (ct (rsG (bI v sN) 0) 0 (i + 1))) := by first | rw [ct_end, Nat.zero_add, if_pos c_3] | rw [ct_end, Nat.zero_add, c_3, if_neg Bool.false_ne_true, Nat.add_zero]
            have hl : lv_has ls 4 [(0, .ref (M 0)), (1, .int (nI sN)), (2, .int (nI (ct (rsG (bI v sN) 0) 0 (i + 1)))), (3, .int (nI (i + 1)))] := by
              have h := hl
              rw [q_1] at h
              exact h
            exact ih13 (i + 1) (by omega) ls hl (by omega)
    have hl := lv_sub hl (l' := [(0, .ref (M 0)), (1, .int (nI sN)), (2, .int (nI 0)), (3, .int (nI 0))]) [2, 3, 1, 0] rfl
    have q_1 : (nI 0) = (nI (ct (rsG (bI v sN) 0) 0 0)) := rfl
    have hl : lv_has ls 4 [(0, .ref (M 0)), (1, .int (nI sN)), (2, .int (nI (ct (rsG (bI v sN) 0) 0 0))), (3, .int (nI 0))] := by
      have h := hl
      rw [q_1] at h
      exact h
    exact loop13 (4096 - 0 + 1) 0 (Nat.zero_le _) ls hl (Nat.lt_succ_self _)
  · skip
    have c_1 : (decide (¬ ss < 0 ∧ ss < nI 6)) = false := b2i_0.mp c_1
    have c_1 : ¬ (¬ ss < 0 ∧ ss < nI 6) := of_decide_eq_false c_1
    refine lv_iconst (v := (-1)) hx hb dX4_runs_7 (by decide) ?_
    subst hQ
    refine W.iret (v := (-1)) hx hb hr (fun t ht hW => ⟨(-1), rfl, ?_, ht⟩) (fun q h => absurd h List.not_mem_nil) dX4_runs_8
    exact (if_neg c_1).symm
set_option maxHeartbeats 4000000 in
set_option maxRecDepth 100000 in
theorem k_X4_run (l : Launch) (D : va_G) (T : Nat → ClassId) (M : Nat → Nat) (Sy : Nat → Prop) (fi : FS) (ss : Int32) (x : Int32) : Met l yX4_run wsX4_run ({ frames := 3, cells := 0, slots := 0, locals := 66 }) (va_Pc [.ref (M 0), .int ss, .int x] (fun U => KS D T U ∧ MSE D T U.heap M Sy fi)) (vp_Si (fun r => r = (runR fi ss x))) 0 0 (fun _ => False) := by
  refine Met.ofW (cc := cX4_run) (maxL := 6) (ret := (some .int)) (by decide) rfl ?_
  intro pg ev s m args below meth c s₁ B hml hv
  obtain ⟨rfl, hK, hH⟩ := hv
  have hx := B.exec
  have hb := B.bytes
  have hr := B.returns
  have hts := atoms_spec (ws := wsX4_run) B.pre
  have hown : s.vm.findClass RX4 = some m.cls := findClass_of_methodNamed B.named
  have hlocks := B.notSynchronized
  have in_wsX40 : ∀ w ∈ wsX40, w ∈ wsX4_run := fun w h => List.mem_cons_of_mem _ (List.mem_append_right _ h)
  have hl := lv_entry ([.ref (M 0), .int ss, .int x]) (n := 6) (Nat.le_of_ble_eq_true rfl)
  rw [lg_entry_eq]
  generalize (lg_sl ([.ref (M 0), .int ss, .int x]) ++ List.replicate (6 - (lg_sl ([.ref (M 0), .int ss, .int x])).length) Slot.unset).toArray = ls at hl ⊢
  have hl : lv_has ls 6 [(0, .ref (M 0)), (1, .int ss), (2, .int x)] := hl
  refine W_gen (fun Q hQ => ?_)
  obtain ⟨v, as, pa, bi, at0, hM, hSy, hrb, hbl, hk5, hR0, hRh⟩ := id hH
  refine lv_iload_n hx hb dX4_run_0 rfl (lv_at hl 1 rfl) ?_
  refine vp_callSi (va_Run.run (va_runS (As := [.int ss]) (rest := []) ⟨hx, hb, hml, hown, hts⟩ (k_X4_isSet l D T ss ) (va_cwS 1 hts gX4_run_X4_isSet rfl rfl rfl (by decide +kernel) ⟨Nat.le_of_ble_eq_true rfl, Nat.le_of_ble_eq_true rfl⟩) (pre_S (Φ := fun X => True) hK trivial) rfl rfl hl.1 rfl (lv_room (Nat.le_of_ble_eq_true rfl)) dX4_run_1 ⟨Nat.le_of_ble_eq_true rfl, Nat.le_of_ble_eq_true rfl⟩)) (fun r_1 hr_1 => ?_)
  subst hr_1
  refine lv_if_eq (tgt := 11) hx hb dX4_run_4 (by decide) (fun c_1 => ?_) (fun c_1 => ?_)
  · skip
    have c_1 : (decide (¬ ss < 0 ∧ ss < nI 6)) = false := b2i_0.mp c_1
    have c_1 : ¬ (¬ ss < 0 ∧ ss < nI 6) := of_decide_eq_false c_1
    refine lv_iconst (v := (-1)) hx hb dX4_run_11 (by decide) ?_
    subst hQ
    refine W.iret (v := (-1)) hx hb hr (fun t ht hW => ⟨(-1), rfl, ?_, ht⟩) (fun q h => absurd h List.not_mem_nil) dX4_run_12
    first | exact (if_neg (fun z => c_1 z.1)).symm | exact (if_neg (fun z => c_2 (Int32.not_lt.mp z.2))).symm
  · skip
    have c_1 : (decide (¬ ss < 0 ∧ ss < nI 6)) = true := b2i_n0.mp c_1
    have c_1 : ¬ ss < 0 ∧ ss < nI 6 := of_decide_eq_true c_1
    refine lv_iload_n hx hb dX4_run_7 rfl (lv_at hl 2 rfl) ?_
    refine lv_if_ge (tgt := 13) hx hb dX4_run_8 (by decide) (fun c_2 => ?_) (fun c_2 => ?_)
    · skip
      obtain ⟨sN, hsN, rfl⟩ := okX (N := 6) (by decide) c_1
      obtain ⟨xN, hxN, rfl⟩ := nI_of (Int32.not_lt.mpr c_2)
      refine lv_iload_n hx hb dX4_run_13 rfl (lv_at hl 2 rfl) ?_
      refine lv_istore_n (lv' := [(3, .int (nI xN)), (0, .ref (M 0)), (1, .int (nI sN)), (2, .int (nI xN))]) hx hb dX4_run_14 rfl hl (by decide) rfl (fun ls hl => ?_)
      refine lv_iconst (v := (nI 0)) hx hb dX4_run_15 (by decide) ?_
      refine lv_istore (lv' := [(4, .int (nI 0)), (3, .int (nI xN)), (0, .ref (M 0)), (1, .int (nI sN)), (2, .int (nI xN))]) hx hb dX4_run_16 hl (by decide) rfl (fun ls hl => ?_)
      have loop18 : ∀ (n18 : Nat) (j : Nat) (q : Nat) (hj : j ≤ 4096) (hq : q < 2 ^ 31) (hv : nthF (rsG (bI v sN) 0) (4096 - j) j q = nthF (rsG (bI v sN) 0) 4096 0 xN) (hc : ct (rsG (bI v sN) 0) 0 j + q = xN) (ls : Array Slot) (hl : lv_has ls 6 [(0, .ref (M 0)), (1, .int (nI sN)), (3, .int (nI q)), (4, .int (nI j))]) (hn18 : 4096 - j < n18), W pg l ev (headSpec wsX4_run ({ frames := 3, cells := 0, slots := 0, locals := 66 })).room s m ([.ref (M 0), .int (nI sN), .int (nI xN)] : List Value).toArray below meth c s.heap [] 0 0 Q (F0 m 18 ls []) := by
        intro n18
        induction n18 with
        | zero =>
          intro j q hj hq hv hc ls hl hn18
          exact absurd hn18 (Nat.not_lt_zero _)
        | succ n18 ih18 =>
          intro j q hj hq hv hc ls hl hn18
          refine lv_iload hx hb dX4_run_18 (lv_at hl 3 rfl) ?_
          refine lv_sipush (v := (nI 4096)) hx hb dX4_run_20 (by decide) ?_
          refine lv_icmp_ge (tgt := 91) hx hb dX4_run_23 (by decide) (fun c_3 => ?_) (fun c_3 => ?_)
          · skip
            have c_3 : 4096 ≤ j := (nI_leI (a := 4096) (b := j) (by omega) (by omega)).mp c_3
            refine lv_bipush (v := (-9)) hx hb dX4_run_91 (by decide) ?_
            subst hQ
            refine W.iret (v := (-9)) hx hb hr (fun t ht hW => ⟨(-9), rfl, ?_, ht⟩) (fun q h => absurd h List.not_mem_nil) dX4_run_93
            unfold runR
            rw [if_pos ⟨okN hsN (by decide), Int32.not_lt.mpr c_2⟩, cl_n (by omega), ← nthA_cong (rsG_cong (hR0.1 _ hsN)), ← nthA_cong (reG_cong (hR0.1 _ hsN))]
            unfold nthA
            rw [if_neg (Int32.not_lt.mpr c_2), if_neg (Int32.not_lt.mpr c_2), nI_clamp hxN, ← hv, show 4096 - j = 0 by omega]
            exact (if_pos (Or.inl rfl)).symm
          · skip
            have c_3 : ¬ (4096 ≤ j) := fun z => c_3 ((nI_leI (a := 4096) (b := j) (by omega) (by omega)).mpr z)
            refine lv_aload_n hx hb dX4_run_26 rfl (lv_at hl 0 rfl) ?_
            refine lv_iload_n hx hb dX4_run_27 rfl (lv_at hl 1 rfl) ?_
            refine lv_iload hx hb dX4_run_28 (lv_at hl 3 rfl) ?_
            refine vp_callSi (va_Run.run (va_runV (As := [.int (nI sN), .int (nI j)]) (rest := []) ⟨hx, hb, hml, hown, hts⟩ (k_X4_begins l D T M v as pa fi.2.2.1 (buF fi) fi.2.2.2.2 bi at0 sN j (by omega) (by omega)) (cwV 2 hts gX4_run_X4_begins rfl rfl rfl (by decide +kernel) ⟨Nat.le_of_ble_eq_true rfl, Nat.le_of_ble_eq_true rfl⟩) (pre_V (Φ := fun X => MO D T X M v as pa fi.2.2.1 (buF fi) fi.2.2.2.2 bi at0) hK (hM.2.1) rfl hM) rfl rfl hl.1 rfl (lv_room (Nat.le_of_ble_eq_true rfl)) dX4_run_30 ⟨Nat.le_of_ble_eq_true rfl, Nat.le_of_ble_eq_true rfl⟩)) (fun r_2 hr_2 => ?_)
            subst hr_2
            refine lv_if_eq (tgt := 85) hx hb dX4_run_33 (by decide) (fun c_4 => ?_) (fun c_4 => ?_)
            · skip
              have c_4 : rsG (bI v sN) 0 j = false := b2i_0.mp c_4
              refine lv_iinc (v := (nI (j + 1))) (lv' := [(4, .int (nI (j + 1))), (0, .ref (M 0)), (1, .int (nI sN)), (3, .int (nI q))]) hx hb dX4_run_85 hl (k := 3) rfl (iinc_n j 1) (by decide) rfl (fun ls hl => ?_)
              refine lv_goto (tgt := 18) hx hb dX4_run_88 (by decide) ?_
              have hl := lv_sub hl (l' := [(0, .ref (M 0)), (1, .int (nI sN)), (3, .int (nI q)), (4, .int (nI (j + 1)))]) [1, 2, 3, 0] rfl
              exact ih18 (j + 1) q (by omega) (by omega) (by rw [show 4096 - j = (4096 - (j + 1)) + 1 by omega, nthF_s (rsG (bI v sN) 0) (4096 - (j + 1)) j q] at hv; rw [if_neg (show ¬ ((rsG (bI v sN) 0) j = true) by rw [c_4]; exact Bool.false_ne_true)] at hv; exact hv) (by rw [ct_end, Nat.zero_add]; rw [c_4, if_neg Bool.false_ne_true]; omega) ls hl (by omega)
            · skip
              have c_4 : rsG (bI v sN) 0 j = true := b2i_n0.mp c_4
              refine lv_iload_n hx hb dX4_run_36 rfl (lv_at hl 2 rfl) ?_
              refine lv_if_ne (tgt := 82) hx hb dX4_run_37 (by decide) (fun c_5 => ?_) (fun c_5 => ?_)
              · skip
                have c_5 : ¬ (q = 0) := fun z => c_5 ((nI_e0 (a := q) (by omega)).mpr z)
                refine lv_iinc (v := (nI (q - 1))) (lv' := [(3, .int (nI (q - 1))), (0, .ref (M 0)), (1, .int (nI sN)), (4, .int (nI j))]) hx hb dX4_run_82 hl (k := 2) rfl (iinc_m (a := q) (by omega)) (by decide) rfl (fun ls hl => ?_)
                refine lv_iinc (v := (nI (j + 1))) (lv' := [(4, .int (nI (j + 1))), (3, .int (nI (q - 1))), (0, .ref (M 0)), (1, .int (nI sN))]) hx hb dX4_run_85 hl (k := 3) rfl (iinc_n j 1) (by decide) rfl (fun ls hl => ?_)
                refine lv_goto (tgt := 18) hx hb dX4_run_88 (by decide) ?_
                have hl := lv_sub hl (l' := [(0, .ref (M 0)), (1, .int (nI sN)), (3, .int (nI (q - 1))), (4, .int (nI (j + 1)))]) [2, 3, 1, 0] rfl
                exact ih18 (j + 1) (q - 1) (by omega) (by omega) (by rw [show 4096 - j = (4096 - (j + 1)) + 1 by omega, nthF_s (rsG (bI v sN) 0) (4096 - (j + 1)) j q] at hv; rw [if_pos c_4, if_neg c_5] at hv; exact hv) (by rw [ct_end, Nat.zero_add]; rw [if_pos c_4]; omega) ls hl (by omega)
              · skip
                have c_5 : q = 0 := (nI_e0 (a := q) (by omega)).mp c_5
                refine lv_iload hx hb dX4_run_40 (lv_at hl 3 rfl) ?_
                refine lv_istore (lv' := [(5, .int (nI j)), (0, .ref (M 0)), (1, .int (nI sN)), (3, .int (nI q)), (4, .int (nI j))]) hx hb dX4_run_42 hl (by decide) rfl (fun ls hl => ?_)
                have loop44 : ∀ (n44 : Nat) (e : Nat) (he : e < 4096) (hje : j ≤ e) (hall : ∀ z, j ≤ z → z ≤ e → bI v sN z = true) (ls : Array Slot) (hl : lv_has ls 6 [(0, .ref (M 0)), (1, .int (nI sN)), (4, .int (nI j)), (5, .int (nI e))]) (hn44 : 4096 - e < n44), W pg l ev (headSpec wsX4_run ({ frames := 3, cells := 0, slots := 0, locals := 66 })).room s m ([.ref (M 0), .int (nI sN), .int (nI xN)] : List Value).toArray below meth c s.heap [] 0 0 Q (F0 m 44 ls []) := by
                  intro n44
                  induction n44 with
                  | zero =>
                    intro e he hje hall ls hl hn44
                    exact absurd hn44 (Nat.not_lt_zero _)
                  | succ n44 ih44 =>
                    intro e he hje hall ls hl hn44
                    refine lv_iload hx hb dX4_run_44 (lv_at hl 3 rfl) ?_
                    refine lv_iconst (v := (nI 1)) hx hb dX4_run_46 (by decide) ?_
                    refine lv_iadd hx hb dX4_run_47 ?_
                    refine top_i (nI_add e 1) ?_
                    refine lv_sipush (v := (nI 4096)) hx hb dX4_run_48 (by decide) ?_
                    refine lv_icmp_ge (tgt := 72) hx hb dX4_run_51 (by decide) (fun c_6 => ?_) (fun c_6 => ?_)
                    · skip
                      have c_6 : 4096 ≤ (e + 1) := (nI_leI (a := 4096) (b := (e + 1)) (by omega) (by omega)).mp c_6
                      refine lv_sipush (v := (nI 4096)) hx hb dX4_run_72 (by decide) ?_
                      refine lv_iload hx hb dX4_run_75 (lv_at hl 2 rfl) ?_
                      refine lv_imul hx hb dX4_run_77 ?_
                      refine top_i (pk_mul 4096 j) ?_
                      refine lv_iload hx hb dX4_run_78 (lv_at hl 3 rfl) ?_
                      refine lv_iadd hx hb dX4_run_80 ?_
                      refine top_i (nI_add (4096 * j) e) ?_
                      subst hQ
                      refine W.iret (v := (nI ((4096 * j) + e))) hx hb hr (fun t ht hW => ⟨(nI ((4096 * j) + e)), rfl, ?_, ht⟩) (fun q h => absurd h List.not_mem_nil) dX4_run_81
                      have hre := run_end (b := bI v sN) (x := j) (e := e) (i := xN) c_4 (by omega) (by omega) hje hall (Or.inl (by omega))
                      unfold runR
                      rw [if_pos ⟨okN hsN (by decide), Int32.not_lt.mpr c_2⟩, cl_n (by omega), ← nthA_cong (rsG_cong (hR0.1 _ hsN)), ← nthA_cong (reG_cong (hR0.1 _ hsN))]
                      unfold nthA
                      rw [if_neg (Int32.not_lt.mpr c_2), if_neg (Int32.not_lt.mpr c_2), nI_clamp hxN, hre.1, hre.2, if_neg (fun z => z.elim (nI_ne9 (by omega)) (nI_ne9 (by omega))), pk_mul, nI_add]
                    · skip
                      have c_6 : ¬ (4096 ≤ (e + 1)) := fun z => c_6 ((nI_leI (a := 4096) (b := (e + 1)) (by omega) (by omega)).mpr z)
                      refine lv_aload_n hx hb dX4_run_54 rfl (lv_at hl 0 rfl) ?_
                      refine lv_iload_n hx hb dX4_run_55 rfl (lv_at hl 1 rfl) ?_
                      refine lv_iload hx hb dX4_run_56 (lv_at hl 3 rfl) ?_
                      refine lv_iconst (v := (nI 1)) hx hb dX4_run_58 (by decide) ?_
                      refine lv_iadd hx hb dX4_run_59 ?_
                      refine top_i (nI_add e 1) ?_
                      refine vp_callSi (va_Run.run (va_runV (As := [.int (nI sN), .int (nI (e + 1))]) (rest := []) ⟨hx, hb, hml, hown, hts⟩ (k_X4_has l D T M v as pa fi.2.2.1 (buF fi) fi.2.2.2.2 bi at0 sN (e + 1) (by omega) (by omega)) (cwV 2 hts gX4_run_X4_has rfl rfl rfl (by decide +kernel) ⟨Nat.le_of_ble_eq_true rfl, Nat.le_of_ble_eq_true rfl⟩) (pre_V (Φ := fun X => MO D T X M v as pa fi.2.2.1 (buF fi) fi.2.2.2.2 bi at0) hK (hM.2.1) rfl hM) rfl rfl hl.1 rfl (lv_room (Nat.le_of_ble_eq_true rfl)) dX4_run_60 ⟨Nat.le_of_ble_eq_true rfl, Nat.le_of_ble_eq_true rfl⟩)) (fun r_3 hr_3 => ?_)
                      subst hr_3
                      refine lv_if_eq (tgt := 72) hx hb dX4_run_63 (by decide) (fun c_7 => ?_) (fun c_7 => ?_)
                      · skip
                        have c_7 : bI v sN (e + 1) = false := b2i_0.mp c_7
                        refine lv_sipush (v := (nI 4096)) hx hb dX4_run_72 (by decide) ?_
                        refine lv_iload hx hb dX4_run_75 (lv_at hl 2 rfl) ?_
                        refine lv_imul hx hb dX4_run_77 ?_
                        refine top_i (pk_mul 4096 j) ?_
                        refine lv_iload hx hb dX4_run_78 (lv_at hl 3 rfl) ?_
                        refine lv_iadd hx hb dX4_run_80 ?_
                        refine top_i (nI_add (4096 * j) e) ?_
                        subst hQ
                        refine W.iret (v := (nI ((4096 * j) + e))) hx hb hr (fun t ht hW => ⟨(nI ((4096 * j) + e)), rfl, ?_, ht⟩) (fun q h => absurd h List.not_mem_nil) dX4_run_81
                        have hre := run_end (b := bI v sN) (x := j) (e := e) (i := xN) c_4 (by omega) (by omega) hje hall (Or.inr c_7)
                        unfold runR
                        rw [if_pos ⟨okN hsN (by decide), Int32.not_lt.mpr c_2⟩, cl_n (by omega), ← nthA_cong (rsG_cong (hR0.1 _ hsN)), ← nthA_cong (reG_cong (hR0.1 _ hsN))]
                        unfold nthA
                        rw [if_neg (Int32.not_lt.mpr c_2), if_neg (Int32.not_lt.mpr c_2), nI_clamp hxN, hre.1, hre.2, if_neg (fun z => z.elim (nI_ne9 (by omega)) (nI_ne9 (by omega))), pk_mul, nI_add]
                      · skip
                        have c_7 : bI v sN (e + 1) = true := b2i_n0.mp c_7
                        refine lv_iinc (v := (nI (e + 1))) (lv' := [(5, .int (nI (e + 1))), (0, .ref (M 0)), (1, .int (nI sN)), (4, .int (nI j))]) hx hb dX4_run_66 hl (k := 3) rfl (iinc_n e 1) (by decide) rfl (fun ls hl => ?_)
                        refine lv_goto (tgt := 44) hx hb dX4_run_69 (by decide) ?_
                        have hl := lv_sub hl (l' := [(0, .ref (M 0)), (1, .int (nI sN)), (4, .int (nI j)), (5, .int (nI (e + 1)))]) [1, 2, 3, 0] rfl
                        exact ih44 (e + 1) (by omega) (by omega) (fun z h1 h2 => by by_cases h : z = e + 1; rw [h]; exact c_7; exact hall z h1 (by omega)) ls hl (by omega)
                have hl := lv_sub hl (l' := [(0, .ref (M 0)), (1, .int (nI sN)), (4, .int (nI j)), (5, .int (nI j))]) [1, 2, 4, 0] rfl
                exact loop44 (4096 - j + 1) j (by omega) (Nat.le_refl _) (fun z h1 h2 => by rw [show z = j by omega]; have h9 := c_4; unfold rsG at h9; rw [Bool.and_eq_true] at h9; exact h9.1) ls hl (Nat.lt_succ_self _)
      have hl := lv_sub hl (l' := [(0, .ref (M 0)), (1, .int (nI sN)), (3, .int (nI xN)), (4, .int (nI 0))]) [2, 3, 1, 0] rfl
      exact loop18 (4096 - 0 + 1) 0 xN (Nat.zero_le _) (hxN) (rfl) (by rw [ct_0, Nat.zero_add]) ls hl (Nat.lt_succ_self _)
    · skip
      refine lv_iconst (v := (-1)) hx hb dX4_run_11 (by decide) ?_
      subst hQ
      refine W.iret (v := (-1)) hx hb hr (fun t ht hW => ⟨(-1), rfl, ?_, ht⟩) (fun q h => absurd h List.not_mem_nil) dX4_run_12
      first | exact (if_neg (fun z => c_1 z.1)).symm | exact (if_neg (fun z => c_2 (Int32.not_lt.mp z.2))).symm
set_option maxHeartbeats 4000000 in
set_option maxRecDepth 100000 in
theorem k_X4_piece (l : Launch) (D : va_G) (T : Nat → ClassId) (M : Nat → Nat) (Sy : Nat → Prop) (fi : FS) (ss : Int32) (x : Int32) (y : Int32) : Met l yX4_piece wsX4_piece ({ frames := 3, cells := 0, slots := 0, locals := 71 }) (va_Pc [.ref (M 0), .int ss, .int x, .int y] (fun U => KS D T U ∧ MSE D T U.heap M Sy fi)) (vp_Si (fun r => r = (pieR fi ss x y))) 0 0 (fun _ => False) := by
  refine Met.ofW (cc := cX4_piece) (maxL := 4) (ret := (some .int)) (by decide) rfl ?_
  intro pg ev s m args below meth c s₁ B hml hv
  obtain ⟨rfl, hK, hH⟩ := hv
  have hx := B.exec
  have hb := B.bytes
  have hr := B.returns
  have hts := atoms_spec (ws := wsX4_piece) B.pre
  have hown : s.vm.findClass RX4 = some m.cls := findClass_of_methodNamed B.named
  have hlocks := B.notSynchronized
  have in_wsX40 : ∀ w ∈ wsX40, w ∈ wsX4_piece := fun w h => List.mem_cons_of_mem _ (List.mem_append_right _ h)
  have hl := lv_entry ([.ref (M 0), .int ss, .int x, .int y]) (n := 4) (Nat.le_of_ble_eq_true rfl)
  rw [lg_entry_eq]
  generalize (lg_sl ([.ref (M 0), .int ss, .int x, .int y]) ++ List.replicate (4 - (lg_sl ([.ref (M 0), .int ss, .int x, .int y])).length) Slot.unset).toArray = ls at hl ⊢
  have hl : lv_has ls 4 [(0, .ref (M 0)), (1, .int ss), (2, .int x), (3, .int y)] := hl
  refine W_gen (fun Q hQ => ?_)
  obtain ⟨v, as, pa, bi, at0, hM, hSy, hrb, hbl, hk5, hR0, hRh⟩ := id hH
  refine lv_iload_n hx hb dX4_piece_0 rfl (lv_at hl 1 rfl) ?_
  refine vp_callSi (va_Run.run (va_runS (As := [.int ss]) (rest := []) ⟨hx, hb, hml, hown, hts⟩ (k_X4_isSet l D T ss ) (va_cwS 1 hts gX4_piece_X4_isSet rfl rfl rfl (by decide +kernel) ⟨Nat.le_of_ble_eq_true rfl, Nat.le_of_ble_eq_true rfl⟩) (pre_S (Φ := fun X => True) hK trivial) rfl rfl hl.1 rfl (lv_room (Nat.le_of_ble_eq_true rfl)) dX4_piece_1 ⟨Nat.le_of_ble_eq_true rfl, Nat.le_of_ble_eq_true rfl⟩)) (fun r_1 hr_1 => ?_)
  subst hr_1
  refine lv_if_eq (tgt := 36) hx hb dX4_piece_4 (by decide) (fun c_1 => ?_) (fun c_1 => ?_)
  · skip
    have c_1 : (decide (¬ ss < 0 ∧ ss < nI 6)) = false := b2i_0.mp c_1
    have c_1 : ¬ (¬ ss < 0 ∧ ss < nI 6) := of_decide_eq_false c_1
    refine lv_iconst (v := (-1)) hx hb dX4_piece_36 (by decide) ?_
    subst hQ
    refine W.iret (v := (-1)) hx hb hr (fun t ht hW => ⟨(-1), rfl, ?_, ht⟩) (fun q h => absurd h List.not_mem_nil) dX4_piece_37
    exact (if_neg (fun z => c_1 z.1)).symm
  · skip
    have c_1 : (decide (¬ ss < 0 ∧ ss < nI 6)) = true := b2i_n0.mp c_1
    have c_1 : ¬ ss < 0 ∧ ss < nI 6 := of_decide_eq_true c_1
    refine lv_iload_n hx hb dX4_piece_7 rfl (lv_at hl 2 rfl) ?_
    refine lv_iconst (v := (nI 0)) hx hb dX4_piece_8 (by decide) ?_
    refine lv_bipush (v := (nI 15)) hx hb dX4_piece_9 (by decide) ?_
    refine vp_callSi (va_Run.run (va_runS (As := [.int x, .int (nI 0), .int (nI 15)]) (rest := []) ⟨hx, hb, hml, hown, hts⟩ (k_X4_in l D T x (nI 0) (nI 15) ) (va_cwS 3 hts gX4_piece_X4_in rfl rfl rfl (by decide +kernel) ⟨Nat.le_of_ble_eq_true rfl, Nat.le_of_ble_eq_true rfl⟩) (pre_S (Φ := fun X => True) hK trivial) rfl rfl hl.1 rfl (lv_room (Nat.le_of_ble_eq_true rfl)) dX4_piece_11 ⟨Nat.le_of_ble_eq_true rfl, Nat.le_of_ble_eq_true rfl⟩)) (fun r_2 hr_2 => ?_)
    subst hr_2
    refine top_i (x' := (b2i (decide (¬ x < 0 ∧ x < nI 16)))) (congrArg b2i (decide_eq_decide.mpr (in_set (n := 15) (by decide) x))) ?_
    refine lv_if_eq (tgt := 36) hx hb dX4_piece_14 (by decide) (fun c_2 => ?_) (fun c_2 => ?_)
    · skip
      have c_2 : (decide (¬ x < 0 ∧ x < nI 16)) = false := b2i_0.mp c_2
      have c_2 : ¬ (¬ x < 0 ∧ x < nI 16) := of_decide_eq_false c_2
      refine lv_iconst (v := (-1)) hx hb dX4_piece_36 (by decide) ?_
      subst hQ
      refine W.iret (v := (-1)) hx hb hr (fun t ht hW => ⟨(-1), rfl, ?_, ht⟩) (fun q h => absurd h List.not_mem_nil) dX4_piece_37
      exact (if_neg (fun z => c_2 z.2)).symm
    · skip
      have c_2 : (decide (¬ x < 0 ∧ x < nI 16)) = true := b2i_n0.mp c_2
      have c_2 : ¬ x < 0 ∧ x < nI 16 := of_decide_eq_true c_2
      refine lv_iload_n hx hb dX4_piece_17 rfl (lv_at hl 3 rfl) ?_
      refine lv_iconst (v := (nI 0)) hx hb dX4_piece_18 (by decide) ?_
      refine lv_iconst (v := (nI 3)) hx hb dX4_piece_19 (by decide) ?_
      refine vp_callSi (va_Run.run (va_runS (As := [.int y, .int (nI 0), .int (nI 3)]) (rest := []) ⟨hx, hb, hml, hown, hts⟩ (k_X4_in l D T y (nI 0) (nI 3) ) (va_cwS 3 hts gX4_piece_X4_in rfl rfl rfl (by decide +kernel) ⟨Nat.le_of_ble_eq_true rfl, Nat.le_of_ble_eq_true rfl⟩) (pre_S (Φ := fun X => True) hK trivial) rfl rfl hl.1 rfl (lv_room (Nat.le_of_ble_eq_true rfl)) dX4_piece_20 ⟨Nat.le_of_ble_eq_true rfl, Nat.le_of_ble_eq_true rfl⟩)) (fun r_3 hr_3 => ?_)
      subst hr_3
      refine lv_if_eq (tgt := 36) hx hb dX4_piece_23 (by decide) (fun c_3 => ?_) (fun c_3 => ?_)
      · skip
        have c_3 : (decide ((nI 0) ≤ y ∧ y ≤ (nI 3))) = false := b2i_0.mp c_3
        have c_3 : ¬ ((nI 0) ≤ y ∧ y ≤ (nI 3)) := of_decide_eq_false c_3
        refine lv_iconst (v := (-1)) hx hb dX4_piece_36 (by decide) ?_
        subst hQ
        refine W.iret (v := (-1)) hx hb hr (fun t ht hW => ⟨(-1), rfl, ?_, ht⟩) (fun q h => absurd h List.not_mem_nil) dX4_piece_37
        unfold pieR
        by_cases hz : ok6 ss ∧ ¬ x < 0 ∧ x < nI 16
        · rw [if_pos hz, det_out _ _ c_3]
        · rw [if_neg hz]
      · skip
        have c_3 : (decide ((nI 0) ≤ y ∧ y ≤ (nI 3))) = true := b2i_n0.mp c_3
        have c_3 : (nI 0) ≤ y ∧ y ≤ (nI 3) := of_decide_eq_true c_3
        obtain ⟨sN, hsN, rfl⟩ := okX (N := 6) (by decide) c_1
        obtain ⟨xN, hxN, rfl⟩ := okX (N := 16) (by decide) c_2
        refine lv_aload_n hx hb dX4_piece_26 rfl (lv_at hl 0 rfl) ?_
        refine lv_iload_n hx hb dX4_piece_27 rfl (lv_at hl 1 rfl) ?_
        refine lv_iload_n hx hb dX4_piece_28 rfl (lv_at hl 2 rfl) ?_
        refine lv_iload_n hx hb dX4_piece_29 rfl (lv_at hl 3 rfl) ?_
        refine vp_callSi (va_Run.run (va_runV (As := [.int (nI sN), .int (nI xN), .int y]) (rest := []) ⟨hx, hb, hml, hown, hts⟩ (k_X4_told l D T M v as pa fi.2.2.1 (buF fi) fi.2.2.2.2 bi at0 sN xN y (by omega) (by omega)) (cwV 3 hts gX4_piece_X4_told rfl rfl rfl (by decide +kernel) ⟨Nat.le_of_ble_eq_true rfl, Nat.le_of_ble_eq_true rfl⟩) (pre_V (Φ := fun X => MO D T X M v as pa fi.2.2.1 (buF fi) fi.2.2.2.2 bi at0) hK (hM.2.1) rfl hM) rfl rfl hl.1 rfl (lv_room (Nat.le_of_ble_eq_true rfl)) dX4_piece_30 ⟨Nat.le_of_ble_eq_true rfl, Nat.le_of_ble_eq_true rfl⟩)) (fun r_4 hr_4 => ?_)
        subst hr_4
        refine lv_goto (tgt := 37) hx hb dX4_piece_33 (by decide) ?_
        subst hQ
        refine W.iret (v := (tol (bI v sN) xN y)) hx hb hr (fun t ht hW => ⟨(tol (bI v sN) xN y), rfl, ?_, ht⟩) (fun q h => absurd h List.not_mem_nil) dX4_piece_37
        unfold pieR
        rw [if_pos ⟨okN hsN (by decide), (okN hxN (by decide)).1, (okN hxN (by decide)).2⟩, cl_n (by omega), cl_n (by omega), tol_det _ _ c_3, det_cong (hR0.1 _ hsN) hxN]
set_option maxHeartbeats 4000000 in
set_option maxRecDepth 100000 in
theorem k_X4_bytes (l : Launch) (D : va_G) (T : Nat → ClassId) (M : Nat → Nat) (Sy : Nat → Prop) (fi : FS) (ss : Int32) : Met l yX4_bytes wsX4_bytes ({ frames := 3, cells := 0, slots := 0, locals := 71 }) (va_Pc [.ref (M 0), .int ss] (fun U => KS D T U ∧ MSE D T U.heap M Sy fi)) (vp_Si (fun r => r = (bytR fi ss))) 0 0 (fun _ => False) := by
  refine Met.ofW (cc := cX4_bytes) (maxL := 4) (ret := (some .int)) (by decide) rfl ?_
  intro pg ev s m args below meth c s₁ B hml hv
  obtain ⟨rfl, hK, hH⟩ := hv
  have hx := B.exec
  have hb := B.bytes
  have hr := B.returns
  have hts := atoms_spec (ws := wsX4_bytes) B.pre
  have hown : s.vm.findClass RX4 = some m.cls := findClass_of_methodNamed B.named
  have hlocks := B.notSynchronized
  have in_wsX40 : ∀ w ∈ wsX40, w ∈ wsX4_bytes := fun w h => List.mem_cons_of_mem _ (List.mem_append_right _ h)
  have hl := lv_entry ([.ref (M 0), .int ss]) (n := 4) (Nat.le_of_ble_eq_true rfl)
  rw [lg_entry_eq]
  generalize (lg_sl ([.ref (M 0), .int ss]) ++ List.replicate (4 - (lg_sl ([.ref (M 0), .int ss])).length) Slot.unset).toArray = ls at hl ⊢
  have hl : lv_has ls 4 [(0, .ref (M 0)), (1, .int ss)] := hl
  refine W_gen (fun Q hQ => ?_)
  obtain ⟨v, as, pa, bi, at0, hM, hSy, hrb, hbl, hk5, hR0, hRh⟩ := id hH
  refine lv_iload_n hx hb dX4_bytes_0 rfl (lv_at hl 1 rfl) ?_
  refine vp_callSi (va_Run.run (va_runS (As := [.int ss]) (rest := []) ⟨hx, hb, hml, hown, hts⟩ (k_X4_isSet l D T ss ) (va_cwS 1 hts gX4_bytes_X4_isSet rfl rfl rfl (by decide +kernel) ⟨Nat.le_of_ble_eq_true rfl, Nat.le_of_ble_eq_true rfl⟩) (pre_S (Φ := fun X => True) hK trivial) rfl rfl hl.1 rfl (lv_room (Nat.le_of_ble_eq_true rfl)) dX4_bytes_1 ⟨Nat.le_of_ble_eq_true rfl, Nat.le_of_ble_eq_true rfl⟩)) (fun r_1 hr_1 => ?_)
  subst hr_1
  refine lv_if_ne (tgt := 9) hx hb dX4_bytes_4 (by decide) (fun c_1 => ?_) (fun c_1 => ?_)
  · skip
    have c_1 : (decide (¬ ss < 0 ∧ ss < nI 6)) = true := b2i_n0.mp c_1
    have c_1 : ¬ ss < 0 ∧ ss < nI 6 := of_decide_eq_true c_1
    obtain ⟨sN, hsN, rfl⟩ := okX (N := 6) (by decide) c_1
    refine lv_iconst (v := (nI 0)) hx hb dX4_bytes_9 (by decide) ?_
    refine lv_istore_n (lv' := [(2, .int (nI 0)), (0, .ref (M 0)), (1, .int (nI sN))]) hx hb dX4_bytes_10 rfl hl (by decide) rfl (fun ls hl => ?_)
    refine lv_iconst (v := (nI 0)) hx hb dX4_bytes_11 (by decide) ?_
    refine lv_istore_n (lv' := [(3, .int (nI 0)), (2, .int (nI 0)), (0, .ref (M 0)), (1, .int (nI sN))]) hx hb dX4_bytes_12 rfl hl (by decide) rfl (fun ls hl => ?_)
    have loop13 : ∀ (n13 : Nat) (i : Nat) (hi : i ≤ 16) (ls : Array Slot) (hl : lv_has ls 4 [(0, .ref (M 0)), (1, .int (nI sN)), (2, .int (nI (fb_sm (pcst (bI v sN)) i))), (3, .int (nI i))]) (hn13 : 16 - i < n13), W pg l ev (headSpec wsX4_bytes ({ frames := 3, cells := 0, slots := 0, locals := 71 })).room s m ([.ref (M 0), .int (nI sN)] : List Value).toArray below meth c s.heap [] 0 0 Q (F0 m 13 ls []) := by
      intro n13
      induction n13 with
      | zero =>
        intro i hi ls hl hn13
        exact absurd hn13 (Nat.not_lt_zero _)
      | succ n13 ih13 =>
        intro i hi ls hl hn13
        refine lv_iload_n hx hb dX4_bytes_13 rfl (lv_at hl 3 rfl) ?_
        refine lv_bipush (v := (nI 16)) hx hb dX4_bytes_14 (by decide) ?_
        refine lv_icmp_ge (tgt := 35) hx hb dX4_bytes_16 (by decide) (fun c_2 => ?_) (fun c_2 => ?_)
        · skip
          have c_2 : 16 ≤ i := (nI_leI (a := 16) (b := i) (by omega) (by omega)).mp c_2
          refine lv_iload_n hx hb dX4_bytes_35 rfl (lv_at hl 2 rfl) ?_
          subst hQ
          refine W.iret (v := (nI (fb_sm (pcst (bI v sN)) i))) hx hb hr (fun t ht hW => ⟨(nI (fb_sm (pcst (bI v sN)) i)), rfl, ?_, ht⟩) (fun q h => absurd h List.not_mem_nil) dX4_bytes_36
          unfold bytR
          rw [if_pos (okN hsN (by decide)), cl_n (by omega)]
          rw [show i = 16 by omega]
          exact congrArg nI (fb_sm_cong (fun k hk => pcst_cong (hR0.1 _ hsN) hk))
        · skip
          have c_2 : ¬ (16 ≤ i) := fun z => c_2 ((nI_leI (a := 16) (b := i) (by omega) (by omega)).mpr z)
          refine lv_iload_n hx hb dX4_bytes_19 rfl (lv_at hl 2 rfl) ?_
          refine lv_aload_n hx hb dX4_bytes_20 rfl (lv_at hl 0 rfl) ?_
          refine lv_iload_n hx hb dX4_bytes_21 rfl (lv_at hl 1 rfl) ?_
          refine lv_iload_n hx hb dX4_bytes_22 rfl (lv_at hl 3 rfl) ?_
          refine lv_iconst (v := (nI 3)) hx hb dX4_bytes_23 (by decide) ?_
          refine vp_callSi (va_Run.run (va_runV (As := [.int (nI sN), .int (nI i), .int (nI 3)]) (rest := [.int (nI (fb_sm (pcst (bI v sN)) i))]) ⟨hx, hb, hml, hown, hts⟩ (k_X4_told l D T M v as pa fi.2.2.1 (buF fi) fi.2.2.2.2 bi at0 sN i (nI 3) (by omega) (by omega)) (cwV 3 hts gX4_bytes_X4_told rfl rfl rfl (by decide +kernel) ⟨Nat.le_of_ble_eq_true rfl, Nat.le_of_ble_eq_true rfl⟩) (pre_V (Φ := fun X => MO D T X M v as pa fi.2.2.1 (buF fi) fi.2.2.2.2 bi at0) hK (hM.2.1) rfl hM) rfl rfl hl.1 rfl (lv_room (Nat.le_of_ble_eq_true rfl)) dX4_bytes_24 ⟨Nat.le_of_ble_eq_true rfl, Nat.le_of_ble_eq_true rfl⟩)) (fun r_2 hr_2 => ?_)
          subst hr_2
          refine top_i (x' := (nI (pcst (bI v sN) i))) (rfl) ?_
          refine lv_iadd hx hb dX4_bytes_27 ?_
          refine top_i (nI_add (fb_sm (pcst (bI v sN)) i) (pcst (bI v sN) i)) ?_
          refine lv_istore_n (lv' := [(2, .int (nI ((fb_sm (pcst (bI v sN)) i) + (pcst (bI v sN) i)))), (0, .ref (M 0)), (1, .int (nI sN)), (3, .int (nI i))]) hx hb dX4_bytes_28 rfl hl (by decide) rfl (fun ls hl => ?_)
          refine lv_iinc (v := (nI (i + 1))) (lv' := [(3, .int (nI (i + 1))), (2, .int (nI ((fb_sm (pcst (bI v sN)) i) + (pcst (bI v sN) i)))), (0, .ref (M 0)), (1, .int (nI sN))]) hx hb dX4_bytes_29 hl (k := 3) rfl (iinc_n i 1) (by decide) rfl (fun ls hl => ?_)
          refine lv_goto (tgt := 13) hx hb dX4_bytes_32 (by decide) ?_
          have hl := lv_sub hl (l' := [(0, .ref (M 0)), (1, .int (nI sN)), (2, .int (nI ((fb_sm (pcst (bI v sN)) i) + (pcst (bI v sN) i)))), (3, .int (nI (i + 1)))]) [2, 3, 1, 0] rfl
          have q_1 : (nI ((fb_sm (pcst (bI v sN)) i) + (pcst (bI v sN) i))) = (nI (fb_sm (pcst (bI v sN)) (i + 1))) := rfl
          have hl : lv_has ls 4 [(0, .ref (M 0)), (1, .int (nI sN)), (2, .int (nI (fb_sm (pcst (bI v sN)) (i + 1)))), (3, .int (nI (i + 1)))] := by
            have h := hl
            rw [q_1] at h
            exact h
          exact ih13 (i + 1) (by omega) ls hl (by omega)
    have hl := lv_sub hl (l' := [(0, .ref (M 0)), (1, .int (nI sN)), (2, .int (nI 0)), (3, .int (nI 0))]) [2, 3, 1, 0] rfl
    have q_1 : (nI 0) = (nI (fb_sm (pcst (bI v sN)) 0)) := rfl
    have hl : lv_has ls 4 [(0, .ref (M 0)), (1, .int (nI sN)), (2, .int (nI (fb_sm (pcst (bI v sN)) 0))), (3, .int (nI 0))] := by
      have h := hl
      rw [q_1] at h
      exact h
    exact loop13 (16 - 0 + 1) 0 (Nat.zero_le _) ls hl (Nat.lt_succ_self _)
  · skip
    have c_1 : (decide (¬ ss < 0 ∧ ss < nI 6)) = false := b2i_0.mp c_1
    have c_1 : ¬ (¬ ss < 0 ∧ ss < nI 6) := of_decide_eq_false c_1
    refine lv_iconst (v := (-1)) hx hb dX4_bytes_7 (by decide) ?_
    subst hQ
    refine W.iret (v := (-1)) hx hb hr (fun t ht hW => ⟨(-1), rfl, ?_, ht⟩) (fun q h => absurd h List.not_mem_nil) dX4_bytes_8
    exact (if_neg c_1).symm
set_option maxHeartbeats 4000000 in
set_option maxRecDepth 100000 in
theorem k_X4_met (l : Launch) (D : va_G) (T : Nat → ClassId) (M : Nat → Nat) (Sy : Nat → Prop) (fi : FS) (x : Int32) (y : Int32) : Met l yX4_met wsX4_met ({ frames := 2, cells := 0, slots := 0, locals := 42 }) (va_Pc [.ref (M 0), .int x, .int y] (fun U => KS D T U ∧ MSE D T U.heap M Sy fi)) (vp_Si (fun r => r = (metR fi x y))) 0 0 (fun _ => False) := by
  refine Met.ofW (cc := cX4_met) (maxL := 3) (ret := (some .int)) (by decide) rfl ?_
  intro pg ev s m args below meth c s₁ B hml hv
  obtain ⟨rfl, hK, hH⟩ := hv
  have hx := B.exec
  have hb := B.bytes
  have hr := B.returns
  have hts := atoms_spec (ws := wsX4_met) B.pre
  have hown : s.vm.findClass RX4 = some m.cls := findClass_of_methodNamed B.named
  have hlocks := B.notSynchronized
  have in_wsX40 : ∀ w ∈ wsX40, w ∈ wsX4_met := fun w h => List.mem_cons_of_mem _ (List.mem_append_right _ h)
  have hl := lv_entry ([.ref (M 0), .int x, .int y]) (n := 3) (Nat.le_of_ble_eq_true rfl)
  rw [lg_entry_eq]
  generalize (lg_sl ([.ref (M 0), .int x, .int y]) ++ List.replicate (3 - (lg_sl ([.ref (M 0), .int x, .int y])).length) Slot.unset).toArray = ls at hl ⊢
  have hl : lv_has ls 3 [(0, .ref (M 0)), (1, .int x), (2, .int y)] := hl
  refine W_gen (fun Q hQ => ?_)
  obtain ⟨v, as, pa, bi, at0, hM, hSy, hrb, hbl, hk5, hR0, hRh⟩ := id hH
  refine lv_iload_n hx hb dX4_met_0 rfl (lv_at hl 1 rfl) ?_
  refine vp_callSi (va_Run.run (va_runS (As := [.int x]) (rest := []) ⟨hx, hb, hml, hown, hts⟩ (k_X4_isKindNumber l D T x ) (va_cwS 1 hts gX4_met_X4_isKindNumber rfl rfl rfl (by decide +kernel) ⟨Nat.le_of_ble_eq_true rfl, Nat.le_of_ble_eq_true rfl⟩) (pre_S (Φ := fun X => True) hK trivial) rfl rfl hl.1 rfl (lv_room (Nat.le_of_ble_eq_true rfl)) dX4_met_1 ⟨Nat.le_of_ble_eq_true rfl, Nat.le_of_ble_eq_true rfl⟩)) (fun r_1 hr_1 => ?_)
  subst hr_1
  refine lv_if_eq (tgt := 31) hx hb dX4_met_4 (by decide) (fun c_1 => ?_) (fun c_1 => ?_)
  · skip
    have c_1 : (decide (¬ x < 0 ∧ x < nI 3)) = false := b2i_0.mp c_1
    have c_1 : ¬ (¬ x < 0 ∧ x < nI 3) := of_decide_eq_false c_1
    refine lv_iconst (v := (-1)) hx hb dX4_met_31 (by decide) ?_
    subst hQ
    refine W.iret (v := (-1)) hx hb hr (fun t ht hW => ⟨(-1), rfl, ?_, ht⟩) (fun q h => absurd h List.not_mem_nil) dX4_met_32
    first | exact (if_neg (fun z => c_1 z.1)).symm | exact (if_neg (fun z => c_2 z.2)).symm
  · skip
    have c_1 : (decide (¬ x < 0 ∧ x < nI 3)) = true := b2i_n0.mp c_1
    have c_1 : ¬ x < 0 ∧ x < nI 3 := of_decide_eq_true c_1
    refine lv_iload_n hx hb dX4_met_7 rfl (lv_at hl 2 rfl) ?_
    refine vp_callSi (va_Run.run (va_runS (As := [.int y]) (rest := []) ⟨hx, hb, hml, hown, hts⟩ (k_X4_isKindNumber l D T y ) (va_cwS 1 hts gX4_met_X4_isKindNumber rfl rfl rfl (by decide +kernel) ⟨Nat.le_of_ble_eq_true rfl, Nat.le_of_ble_eq_true rfl⟩) (pre_S (Φ := fun X => True) hK trivial) rfl rfl hl.1 rfl (lv_room (Nat.le_of_ble_eq_true rfl)) dX4_met_8 ⟨Nat.le_of_ble_eq_true rfl, Nat.le_of_ble_eq_true rfl⟩)) (fun r_2 hr_2 => ?_)
    subst hr_2
    refine lv_if_eq (tgt := 31) hx hb dX4_met_11 (by decide) (fun c_2 => ?_) (fun c_2 => ?_)
    · skip
      have c_2 : (decide (¬ y < 0 ∧ y < nI 3)) = false := b2i_0.mp c_2
      have c_2 : ¬ (¬ y < 0 ∧ y < nI 3) := of_decide_eq_false c_2
      refine lv_iconst (v := (-1)) hx hb dX4_met_31 (by decide) ?_
      subst hQ
      refine W.iret (v := (-1)) hx hb hr (fun t ht hW => ⟨(-1), rfl, ?_, ht⟩) (fun q h => absurd h List.not_mem_nil) dX4_met_32
      first | exact (if_neg (fun z => c_1 z.1)).symm | exact (if_neg (fun z => c_2 z.2)).symm
    · skip
      have c_2 : (decide (¬ y < 0 ∧ y < nI 3)) = true := b2i_n0.mp c_2
      have c_2 : ¬ y < 0 ∧ y < nI 3 := of_decide_eq_true c_2
      obtain ⟨xN, hxN, rfl⟩ := okX (N := 3) (by decide) c_1
      obtain ⟨yN, hyN, rfl⟩ := okX (N := 3) (by decide) c_2
      refine lv_aload_n hx hb dX4_met_14 rfl (lv_at hl 0 rfl) ?_
      refine r_get (C := RX4) (Tb := TX4) (N := 8) hx hb hts in_wsX40 hown hK (hM.2.1) rfl 0 (by decide) (hts (.fieldLink RX4 7 "PieceSetsModel" "v" "[I") (by decide +kernel)) rfl (v := .ref (M 1)) rfl dX4_met_15 ?_
      refine lv_sipush (v := (nI 768)) hx hb dX4_met_18 (by decide) ?_
      refine lv_iconst (v := (nI 3)) hx hb dX4_met_21 (by decide) ?_
      refine lv_iload_n hx hb dX4_met_22 rfl (lv_at hl 1 rfl) ?_
      refine lv_imul hx hb dX4_met_23 ?_
      refine top_i (pk_mul 3 xN) ?_
      refine lv_iadd hx hb dX4_met_24 ?_
      refine top_i (nI_add 768 (3 * xN)) ?_
      refine lv_iload_n hx hb dX4_met_25 rfl (lv_at hl 2 rfl) ?_
      refine lv_iadd hx hb dX4_met_26 ?_
      refine top_i (nI_add (768 + (3 * xN)) yN) ?_
      refine r_iald hx hb hK (hM.2.2.1) (i := (768 + (3 * xN)) + yN) (by omega) (by decide) dX4_met_27 ?_
      refine lv_goto (tgt := 32) hx hb dX4_met_28 (by decide) ?_
      subst hQ
      refine W.iret (v := (v ((768 + (3 * xN)) + yN))) hx hb hr (fun t ht hW => ⟨(v ((768 + (3 * xN)) + yN)), rfl, ?_, ht⟩) (fun q h => absurd h List.not_mem_nil) dX4_met_32
      unfold metR
      rw [if_pos ⟨okN hxN (by decide), okN hyN (by decide)⟩, cl_n (by omega), cl_n (by omega), show 768 + 3 * xN + yN = 768 + (3 * xN + yN) by omega]
      exact hR0.2.1 _ (by omega)
set_option maxHeartbeats 4000000 in
set_option maxRecDepth 100000 in
theorem k_X4_converted (l : Launch) (D : va_G) (T : Nat → ClassId) (M : Nat → Nat) (Sy : Nat → Prop) (fi : FS) (x : Int32) (y : Int32) : Met l yX4_converted wsX4_converted ({ frames := 2, cells := 0, slots := 0, locals := 42 }) (va_Pc [.ref (M 0), .int x, .int y] (fun U => KS D T U ∧ MSE D T U.heap M Sy fi)) (vp_Si (fun r => r = (cvtR fi x y))) 0 0 (fun _ => False) := by
  refine Met.ofW (cc := cX4_converted) (maxL := 3) (ret := (some .int)) (by decide) rfl ?_
  intro pg ev s m args below meth c s₁ B hml hv
  obtain ⟨rfl, hK, hH⟩ := hv
  have hx := B.exec
  have hb := B.bytes
  have hr := B.returns
  have hts := atoms_spec (ws := wsX4_converted) B.pre
  have hown : s.vm.findClass RX4 = some m.cls := findClass_of_methodNamed B.named
  have hlocks := B.notSynchronized
  have in_wsX40 : ∀ w ∈ wsX40, w ∈ wsX4_converted := fun w h => List.mem_cons_of_mem _ (List.mem_append_right _ h)
  have hl := lv_entry ([.ref (M 0), .int x, .int y]) (n := 3) (Nat.le_of_ble_eq_true rfl)
  rw [lg_entry_eq]
  generalize (lg_sl ([.ref (M 0), .int x, .int y]) ++ List.replicate (3 - (lg_sl ([.ref (M 0), .int x, .int y])).length) Slot.unset).toArray = ls at hl ⊢
  have hl : lv_has ls 3 [(0, .ref (M 0)), (1, .int x), (2, .int y)] := hl
  refine W_gen (fun Q hQ => ?_)
  obtain ⟨v, as, pa, bi, at0, hM, hSy, hrb, hbl, hk5, hR0, hRh⟩ := id hH
  refine lv_iload_n hx hb dX4_converted_0 rfl (lv_at hl 1 rfl) ?_
  refine vp_callSi (va_Run.run (va_runS (As := [.int x]) (rest := []) ⟨hx, hb, hml, hown, hts⟩ (k_X4_isKindNumber l D T x ) (va_cwS 1 hts gX4_converted_X4_isKindNumber rfl rfl rfl (by decide +kernel) ⟨Nat.le_of_ble_eq_true rfl, Nat.le_of_ble_eq_true rfl⟩) (pre_S (Φ := fun X => True) hK trivial) rfl rfl hl.1 rfl (lv_room (Nat.le_of_ble_eq_true rfl)) dX4_converted_1 ⟨Nat.le_of_ble_eq_true rfl, Nat.le_of_ble_eq_true rfl⟩)) (fun r_1 hr_1 => ?_)
  subst hr_1
  refine lv_if_eq (tgt := 36) hx hb dX4_converted_4 (by decide) (fun c_1 => ?_) (fun c_1 => ?_)
  · skip
    have c_1 : (decide (¬ x < 0 ∧ x < nI 3)) = false := b2i_0.mp c_1
    have c_1 : ¬ (¬ x < 0 ∧ x < nI 3) := of_decide_eq_false c_1
    refine lv_iconst (v := (-1)) hx hb dX4_converted_36 (by decide) ?_
    subst hQ
    refine W.iret (v := (-1)) hx hb hr (fun t ht hW => ⟨(-1), rfl, ?_, ht⟩) (fun q h => absurd h List.not_mem_nil) dX4_converted_37
    exact (if_neg (fun z => c_1 z.1)).symm
  · skip
    have c_1 : (decide (¬ x < 0 ∧ x < nI 3)) = true := b2i_n0.mp c_1
    have c_1 : ¬ x < 0 ∧ x < nI 3 := of_decide_eq_true c_1
    refine lv_iload_n hx hb dX4_converted_7 rfl (lv_at hl 2 rfl) ?_
    refine vp_callSi (va_Run.run (va_runS (As := [.int y]) (rest := []) ⟨hx, hb, hml, hown, hts⟩ (k_X4_isKindNumber l D T y ) (va_cwS 1 hts gX4_converted_X4_isKindNumber rfl rfl rfl (by decide +kernel) ⟨Nat.le_of_ble_eq_true rfl, Nat.le_of_ble_eq_true rfl⟩) (pre_S (Φ := fun X => True) hK trivial) rfl rfl hl.1 rfl (lv_room (Nat.le_of_ble_eq_true rfl)) dX4_converted_8 ⟨Nat.le_of_ble_eq_true rfl, Nat.le_of_ble_eq_true rfl⟩)) (fun r_2 hr_2 => ?_)
    subst hr_2
    refine lv_if_eq (tgt := 36) hx hb dX4_converted_11 (by decide) (fun c_2 => ?_) (fun c_2 => ?_)
    · skip
      have c_2 : (decide (¬ y < 0 ∧ y < nI 3)) = false := b2i_0.mp c_2
      have c_2 : ¬ (¬ y < 0 ∧ y < nI 3) := of_decide_eq_false c_2
      refine lv_iconst (v := (-1)) hx hb dX4_converted_36 (by decide) ?_
      subst hQ
      refine W.iret (v := (-1)) hx hb hr (fun t ht hW => ⟨(-1), rfl, ?_, ht⟩) (fun q h => absurd h List.not_mem_nil) dX4_converted_37
      exact (if_neg (fun z => c_2 z.2.1)).symm
    · skip
      have c_2 : (decide (¬ y < 0 ∧ y < nI 3)) = true := b2i_n0.mp c_2
      have c_2 : ¬ y < 0 ∧ y < nI 3 := of_decide_eq_true c_2
      refine lv_iload_n hx hb dX4_converted_14 rfl (lv_at hl 1 rfl) ?_
      refine lv_iload_n hx hb dX4_converted_15 rfl (lv_at hl 2 rfl) ?_
      refine lv_icmp_eq (tgt := 36) hx hb dX4_converted_16 (by decide) (fun c_3 => ?_) (fun c_3 => ?_)
      · skip
        refine lv_iconst (v := (-1)) hx hb dX4_converted_36 (by decide) ?_
        subst hQ
        refine W.iret (v := (-1)) hx hb hr (fun t ht hW => ⟨(-1), rfl, ?_, ht⟩) (fun q h => absurd h List.not_mem_nil) dX4_converted_37
        exact (if_neg (fun z => z.2.2 c_3)).symm
      · skip
        obtain ⟨xN, hxN, rfl⟩ := okX (N := 3) (by decide) c_1
        obtain ⟨yN, hyN, rfl⟩ := okX (N := 3) (by decide) c_2
        refine lv_aload_n hx hb dX4_converted_19 rfl (lv_at hl 0 rfl) ?_
        refine r_get (C := RX4) (Tb := TX4) (N := 8) hx hb hts in_wsX40 hown hK (hM.2.1) rfl 0 (by decide) (hts (.fieldLink RX4 7 "PieceSetsModel" "v" "[I") (by decide +kernel)) rfl (v := .ref (M 1)) rfl dX4_converted_20 ?_
        refine lv_sipush (v := (nI 777)) hx hb dX4_converted_23 (by decide) ?_
        refine lv_iconst (v := (nI 3)) hx hb dX4_converted_26 (by decide) ?_
        refine lv_iload_n hx hb dX4_converted_27 rfl (lv_at hl 1 rfl) ?_
        refine lv_imul hx hb dX4_converted_28 ?_
        refine top_i (pk_mul 3 xN) ?_
        refine lv_iadd hx hb dX4_converted_29 ?_
        refine top_i (nI_add 777 (3 * xN)) ?_
        refine lv_iload_n hx hb dX4_converted_30 rfl (lv_at hl 2 rfl) ?_
        refine lv_iadd hx hb dX4_converted_31 ?_
        refine top_i (nI_add (777 + (3 * xN)) yN) ?_
        refine r_iald hx hb hK (hM.2.2.1) (i := (777 + (3 * xN)) + yN) (by omega) (by decide) dX4_converted_32 ?_
        refine lv_goto (tgt := 37) hx hb dX4_converted_33 (by decide) ?_
        subst hQ
        refine W.iret (v := (v ((777 + (3 * xN)) + yN))) hx hb hr (fun t ht hW => ⟨(v ((777 + (3 * xN)) + yN)), rfl, ?_, ht⟩) (fun q h => absurd h List.not_mem_nil) dX4_converted_37
        unfold cvtR
        rw [if_pos ⟨okN hxN (by decide), okN hyN (by decide), c_3⟩, cl_n (by omega), cl_n (by omega), show 777 + 3 * xN + yN = 777 + (3 * xN + yN) by omega]
        exact hR0.2.2 _ (by omega)
set_option maxHeartbeats 4000000 in
set_option maxRecDepth 100000 in
theorem k_X4_fingerprint (l : Launch) (D : va_G) (T : Nat → ClassId) (M : Nat → Nat) (Sy : Nat → Prop) (fi : FS) : Met l yX4_fingerprint wsX4_fingerprint ({ frames := 3, cells := 0, slots := 0, locals := 71 }) (va_Pc [.ref (M 0)] (fun U => KS D T U ∧ MSE D T U.heap M Sy fi)) (vp_Sl (fun r => r = (finR fi))) 0 0 (fun _ => False) := by
  refine Met.ofW (cc := cX4_fingerprint) (maxL := 6) (ret := (some .long)) (by decide) rfl ?_
  intro pg ev s m args below meth c s₁ B hml hv
  obtain ⟨rfl, hK, hH⟩ := hv
  have hx := B.exec
  have hb := B.bytes
  have hr := B.returns
  have hts := atoms_spec (ws := wsX4_fingerprint) B.pre
  have hown : s.vm.findClass RX4 = some m.cls := findClass_of_methodNamed B.named
  have hlocks := B.notSynchronized
  have in_wsX40 : ∀ w ∈ wsX40, w ∈ wsX4_fingerprint := fun w h => List.mem_cons_of_mem _ (List.mem_append_right _ h)
  have hl := lv_entry ([.ref (M 0)]) (n := 6) (Nat.le_of_ble_eq_true rfl)
  rw [lg_entry_eq]
  generalize (lg_sl ([.ref (M 0)]) ++ List.replicate (6 - (lg_sl ([.ref (M 0)])).length) Slot.unset).toArray = ls at hl ⊢
  have hl : lv_has ls 6 [(0, .ref (M 0))] := hl
  refine W_gen (fun Q hQ => ?_)
  obtain ⟨v, as, pa, bi, at0, hM, hSy, hrb, hbl, hk5, hR0, hRh⟩ := id hH
  refine lv_ldc2 hx hb hown (hts (.constantLong RX4 127 (163)) (by decide +kernel)) dX4_fingerprint_0 ?_
  refine lv_lstore_n (lv' := [(1, .long 163), (0, .ref (M 0))]) hx hb dX4_fingerprint_3 rfl hl (by decide) rfl (fun ls hl => ?_)
  refine lv_iconst (v := (nI 0)) hx hb dX4_fingerprint_4 (by decide) ?_
  refine lv_istore_n (lv' := [(3, .int (nI 0)), (1, .long 163), (0, .ref (M 0))]) hx hb dX4_fingerprint_5 rfl hl (by decide) rfl (fun ls hl => ?_)
  have loop6 : ∀ (n6 : Nat) (gs : Nat) (hgs : gs ≤ 6) (ls : Array Slot) (hl : lv_has ls 6 [(0, .ref (M 0)), (1, .long (fpS (bI v) gs)), (3, .int (nI gs))]) (hn6 : 6 - gs < n6), W pg l ev (headSpec wsX4_fingerprint ({ frames := 3, cells := 0, slots := 0, locals := 71 })).room s m ([.ref (M 0)] : List Value).toArray below meth c s.heap [] 0 0 Q (F0 m 6 ls []) := by
    intro n6
    induction n6 with
    | zero =>
      intro gs hgs ls hl hn6
      exact absurd hn6 (Nat.not_lt_zero _)
    | succ n6 ih6 =>
      intro gs hgs ls hl hn6
      refine lv_iload_n hx hb dX4_fingerprint_6 rfl (lv_at hl 2 rfl) ?_
      refine lv_bipush (v := (nI 6)) hx hb dX4_fingerprint_7 (by decide) ?_
      refine lv_icmp_ge (tgt := 102) hx hb dX4_fingerprint_9 (by decide) (fun c_1 => ?_) (fun c_1 => ?_)
      · skip
        have c_1 : 6 ≤ gs := (nI_leI (a := 6) (b := gs) (by omega) (by omega)).mp c_1
        refine lv_iconst (v := (nI 0)) hx hb dX4_fingerprint_102 (by decide) ?_
        refine lv_istore_n (lv' := [(3, .int (nI 0)), (0, .ref (M 0)), (1, .long (fpS (bI v) gs))]) hx hb dX4_fingerprint_103 rfl hl (by decide) rfl (fun ls hl => ?_)
        have loop104 : ∀ (n104 : Nat) (i : Nat) (hi : i ≤ 9) (ls : Array Slot) (hl : lv_has ls 6 [(0, .ref (M 0)), (1, .long (fpM (fun j => v (768 + j)) (fpS (bI v) 6) i)), (3, .int (nI i))]) (hn104 : 9 - i < n104), W pg l ev (headSpec wsX4_fingerprint ({ frames := 3, cells := 0, slots := 0, locals := 71 })).room s m ([.ref (M 0)] : List Value).toArray below meth c s.heap [] 0 0 Q (F0 m 104 ls []) := by
          intro n104
          induction n104 with
          | zero =>
            intro i hi ls hl hn104
            exact absurd hn104 (Nat.not_lt_zero _)
          | succ n104 ih104 =>
            intro i hi ls hl hn104
            refine lv_iload_n hx hb dX4_fingerprint_104 rfl (lv_at hl 2 rfl) ?_
            refine lv_bipush (v := (nI 9)) hx hb dX4_fingerprint_105 (by decide) ?_
            refine lv_icmp_ge (tgt := 134) hx hb dX4_fingerprint_107 (by decide) (fun c_2 => ?_) (fun c_2 => ?_)
            · skip
              have c_2 : 9 ≤ i := (nI_leI (a := 9) (b := i) (by omega) (by omega)).mp c_2
              refine lv_iconst (v := (nI 0)) hx hb dX4_fingerprint_134 (by decide) ?_
              refine lv_istore_n (lv' := [(3, .int (nI 0)), (0, .ref (M 0)), (1, .long (fpM (fun j => v (768 + j)) (fpS (bI v) 6) i))]) hx hb dX4_fingerprint_135 rfl hl (by decide) rfl (fun ls hl => ?_)
              have loop136 : ∀ (n136 : Nat) (i : Nat) (hi : i ≤ 9) (ls : Array Slot) (hl : lv_has ls 6 [(0, .ref (M 0)), (1, .long (fpC (fun j => v (777 + j)) (fpM (fun j => v (768 + j)) (fpS (bI v) 6) 9) i)), (3, .int (nI i))]) (hn136 : 9 - i < n136), W pg l ev (headSpec wsX4_fingerprint ({ frames := 3, cells := 0, slots := 0, locals := 71 })).room s m ([.ref (M 0)] : List Value).toArray below meth c s.heap [] 0 0 Q (F0 m 136 ls []) := by
                intro n136
                induction n136 with
                | zero =>
                  intro i hi ls hl hn136
                  exact absurd hn136 (Nat.not_lt_zero _)
                | succ n136 ih136 =>
                  intro i hi ls hl hn136
                  refine lv_iload_n hx hb dX4_fingerprint_136 rfl (lv_at hl 2 rfl) ?_
                  refine lv_bipush (v := (nI 9)) hx hb dX4_fingerprint_137 (by decide) ?_
                  refine lv_icmp_ge (tgt := 179) hx hb dX4_fingerprint_139 (by decide) (fun c_3 => ?_) (fun c_3 => ?_)
                  · skip
                    have c_3 : 9 ≤ i := (nI_leI (a := 9) (b := i) (by omega) (by omega)).mp c_3
                    refine lv_iconst (v := (nI 0)) hx hb dX4_fingerprint_179 (by decide) ?_
                    refine lv_istore_n (lv' := [(3, .int (nI 0)), (0, .ref (M 0)), (1, .long (fpC (fun j => v (777 + j)) (fpM (fun j => v (768 + j)) (fpS (bI v) 6) 9) i))]) hx hb dX4_fingerprint_180 rfl hl (by decide) rfl (fun ls hl => ?_)
                    have loop181 : ∀ (n181 : Nat) (gt : Nat) (hgt : gt ≤ 6) (ls : Array Slot) (hl : lv_has ls 6 [(0, .ref (M 0)), (1, .long (fpN (bI v) (fpC (fun j => v (777 + j)) (fpM (fun j => v (768 + j)) (fpS (bI v) 6) 9) 9) gt)), (3, .int (nI gt))]) (hn181 : 6 - gt < n181), W pg l ev (headSpec wsX4_fingerprint ({ frames := 3, cells := 0, slots := 0, locals := 71 })).room s m ([.ref (M 0)] : List Value).toArray below meth c s.heap [] 0 0 Q (F0 m 181 ls []) := by
                      intro n181
                      induction n181 with
                      | zero =>
                        intro gt hgt ls hl hn181
                        exact absurd hn181 (Nat.not_lt_zero _)
                      | succ n181 ih181 =>
                        intro gt hgt ls hl hn181
                        refine lv_iload_n hx hb dX4_fingerprint_181 rfl (lv_at hl 2 rfl) ?_
                        refine lv_bipush (v := (nI 6)) hx hb dX4_fingerprint_182 (by decide) ?_
                        refine lv_icmp_ge (tgt := 234) hx hb dX4_fingerprint_184 (by decide) (fun c_4 => ?_) (fun c_4 => ?_)
                        · skip
                          have c_4 : 6 ≤ gt := (nI_leI (a := 6) (b := gt) (by omega) (by omega)).mp c_4
                          refine lv_lload_n hx hb dX4_fingerprint_234 rfl (lv_at hl 1 rfl) ?_
                          subst hQ
                          refine W.lret (v := (fpN (bI v) (fpC (fun j => v (777 + j)) (fpM (fun j => v (768 + j)) (fpS (bI v) 6) 9) 9) gt)) hx hb hr (fun t ht hW => ⟨(fpN (bI v) (fpC (fun j => v (777 + j)) (fpM (fun j => v (768 + j)) (fpS (bI v) 6) 9) 9) gt), rfl, ?_, ht⟩) (fun q h => absurd h List.not_mem_nil) dX4_fingerprint_235
                          rw [show gt = 6 by omega]
                          exact finV_R hR0
                        · skip
                          have c_4 : ¬ (6 ≤ gt) := fun z => c_4 ((nI_leI (a := 6) (b := gt) (by omega) (by omega)).mpr z)
                          refine lv_iconst (v := (nI 0)) hx hb dX4_fingerprint_187 (by decide) ?_
                          refine lv_istore (lv' := [(4, .int (nI 0)), (0, .ref (M 0)), (1, .long (fpN (bI v) (fpC (fun j => v (777 + j)) (fpM (fun j => v (768 + j)) (fpS (bI v) 6) 9) 9) gt)), (3, .int (nI gt))]) hx hb dX4_fingerprint_188 hl (by decide) rfl (fun ls hl => ?_)
                          have loop190 : ∀ (n190 : Nat) (ux : Nat) (hux : ux ≤ 4096) (ls : Array Slot) (hl : lv_has ls 6 [(0, .ref (M 0)), (1, .long (fpX (bI v gt) (fpN (bI v) (fpC (fun j => v (777 + j)) (fpM (fun j => v (768 + j)) (fpS (bI v) 6) 9) 9) gt) ux)), (3, .int (nI gt)), (4, .int (nI ux))]) (hn190 : 4096 - ux < n190), W pg l ev (headSpec wsX4_fingerprint ({ frames := 3, cells := 0, slots := 0, locals := 71 })).room s m ([.ref (M 0)] : List Value).toArray below meth c s.heap [] 0 0 Q (F0 m 190 ls []) := by
                            intro n190
                            induction n190 with
                            | zero =>
                              intro ux hux ls hl hn190
                              exact absurd hn190 (Nat.not_lt_zero _)
                            | succ n190 ih190 =>
                              intro ux hux ls hl hn190
                              refine lv_iload hx hb dX4_fingerprint_190 (lv_at hl 3 rfl) ?_
                              refine lv_sipush (v := (nI 4096)) hx hb dX4_fingerprint_192 (by decide) ?_
                              refine lv_icmp_ge (tgt := 228) hx hb dX4_fingerprint_195 (by decide) (fun c_5 => ?_) (fun c_5 => ?_)
                              · skip
                                have c_5 : 4096 ≤ ux := (nI_leI (a := 4096) (b := ux) (by omega) (by omega)).mp c_5
                                refine lv_iinc (v := (nI (gt + 1))) (lv' := [(3, .int (nI (gt + 1))), (0, .ref (M 0)), (1, .long (fpX (bI v gt) (fpN (bI v) (fpC (fun j => v (777 + j)) (fpM (fun j => v (768 + j)) (fpS (bI v) 6) 9) 9) gt) ux)), (4, .int (nI ux))]) hx hb dX4_fingerprint_228 hl (k := 2) rfl (iinc_n gt 1) (by decide) rfl (fun ls hl => ?_)
                                refine lv_goto (tgt := 181) hx hb dX4_fingerprint_231 (by decide) ?_
                                have hl := lv_sub hl (l' := [(0, .ref (M 0)), (1, .long (fpX (bI v gt) (fpN (bI v) (fpC (fun j => v (777 + j)) (fpM (fun j => v (768 + j)) (fpS (bI v) 6) 9) 9) gt) ux)), (3, .int (nI (gt + 1)))]) [1, 2, 0] rfl
                                have q_1 : (fpX (bI v gt) (fpN (bI v) (fpC (fun j => v (777 + j)) (fpM (fun j => v (768 + j)) (fpS (bI v) 6) 9) 9) gt) ux) = (fpN (bI v) (fpC (fun j => v (777 + j)) (fpM (fun j => v (768 + j)) (fpS (bI v) 6) 9) 9) (gt + 1)) := by rw [show ux = 4096 by omega]; exact rfl
                                have hl : lv_has ls 6 [(0, .ref (M 0)), (1, .long (fpN (bI v) (fpC (fun j => v (777 + j)) (fpM (fun j => v (768 + j)) (fpS (bI v) 6) 9) 9) (gt + 1))), (3, .int (nI (gt + 1)))] := by
                                  have h := hl
                                  rw [q_1] at h
                                  exact h
                                exact ih181 (gt + 1) (by omega) ls hl (by omega)
                              · skip
                                have c_5 : ¬ (4096 ≤ ux) := fun z => c_5 ((nI_leI (a := 4096) (b := ux) (by omega) (by omega)).mpr z)
                                refine lv_aload_n hx hb dX4_fingerprint_198 rfl (lv_at hl 0 rfl) ?_
                                refine lv_iload_n hx hb dX4_fingerprint_199 rfl (lv_at hl 2 rfl) ?_
                                refine lv_iload hx hb dX4_fingerprint_200 (lv_at hl 3 rfl) ?_
                                refine vp_callSi (va_Run.run (va_runV (As := [.int (nI gt), .int (nI ux)]) (rest := []) ⟨hx, hb, hml, hown, hts⟩ (k_X4_has l D T M v as pa fi.2.2.1 (buF fi) fi.2.2.2.2 bi at0 gt ux (by omega) (by omega)) (cwV 2 hts gX4_fingerprint_X4_has rfl rfl rfl (by decide +kernel) ⟨Nat.le_of_ble_eq_true rfl, Nat.le_of_ble_eq_true rfl⟩) (pre_V (Φ := fun X => MO D T X M v as pa fi.2.2.1 (buF fi) fi.2.2.2.2 bi at0) hK (hM.2.1) rfl hM) rfl rfl hl.1 rfl (lv_room (Nat.le_of_ble_eq_true rfl)) dX4_fingerprint_202 ⟨Nat.le_of_ble_eq_true rfl, Nat.le_of_ble_eq_true rfl⟩)) (fun r_1 hr_1 => ?_)
                                subst hr_1
                                refine lv_if_eq (tgt := 220) hx hb dX4_fingerprint_205 (by decide) (fun c_6 => ?_) (fun c_6 => ?_)
                                · skip
                                  have c_6 : bI v gt ux = false := b2i_0.mp c_6
                                  refine lv_lload_n hx hb dX4_fingerprint_220 rfl (lv_at hl 1 rfl) ?_
                                  refine lv_lstore_n (lv' := [(1, .long (fpX (bI v gt) (fpN (bI v) (fpC (fun j => v (777 + j)) (fpM (fun j => v (768 + j)) (fpS (bI v) 6) 9) 9) gt) ux)), (0, .ref (M 0)), (3, .int (nI gt)), (4, .int (nI ux))]) hx hb dX4_fingerprint_221 rfl hl (by decide) rfl (fun ls hl => ?_)
                                  refine lv_iinc (v := (nI (ux + 1))) (lv' := [(4, .int (nI (ux + 1))), (1, .long (fpX (bI v gt) (fpN (bI v) (fpC (fun j => v (777 + j)) (fpM (fun j => v (768 + j)) (fpS (bI v) 6) 9) 9) gt) ux)), (0, .ref (M 0)), (3, .int (nI gt))]) hx hb dX4_fingerprint_222 hl (k := 3) rfl (iinc_n ux 1) (by decide) rfl (fun ls hl => ?_)
                                  refine lv_goto (tgt := 190) hx hb dX4_fingerprint_225 (by decide) ?_
                                  have hl := lv_sub hl (l' := [(0, .ref (M 0)), (1, .long (fpX (bI v gt) (fpN (bI v) (fpC (fun j => v (777 + j)) (fpM (fun j => v (768 + j)) (fpS (bI v) 6) 9) 9) gt) ux)), (3, .int (nI gt)), (4, .int (nI (ux + 1)))]) [2, 1, 3, 0] rfl
                                  have q_1 : (fpX (bI v gt) (fpN (bI v) (fpC (fun j => v (777 + j)) (fpM (fun j => v (768 + j)) (fpS (bI v) 6) 9) 9) gt) ux) = (fpX (bI v gt) (fpN (bI v) (fpC (fun j => v (777 + j)) (fpM (fun j => v (768 + j)) (fpS (bI v) 6) 9) 9) gt) (ux + 1)) := by first | exact (if_pos c_6).symm | exact (if_neg (by rw [c_6]; exact Bool.false_ne_true)).symm
                                  have hl : lv_has ls 6 [(0, .ref (M 0)), (1, .long (fpX (bI v gt) (fpN (bI v) (fpC (fun j => v (777 + j)) (fpM (fun j => v (768 + j)) (fpS (bI v) 6) 9) 9) gt) (ux + 1))), (3, .int (nI gt)), (4, .int (nI (ux + 1)))] := by
                                    have h := hl
                                    rw [q_1] at h
                                    exact h
                                  exact ih190 (ux + 1) (by omega) ls hl (by omega)
                                · skip
                                  have c_6 : bI v gt ux = true := b2i_n0.mp c_6
                                  refine lv_ldc2 hx hb hown (hts (.constantLong RX4 129 (31)) (by decide +kernel)) dX4_fingerprint_208 ?_
                                  refine lv_lload_n hx hb dX4_fingerprint_211 rfl (lv_at hl 1 rfl) ?_
                                  refine lv_lmul hx hb dX4_fingerprint_212 ?_
                                  refine lv_iload hx hb dX4_fingerprint_213 (lv_at hl 3 rfl) ?_
                                  refine lv_i2l (v := ((nI ux).toInt64)) hx hb dX4_fingerprint_215 rfl ?_
                                  refine lv_ladd hx hb dX4_fingerprint_216 ?_
                                  refine lv_goto (tgt := 221) hx hb dX4_fingerprint_217 (by decide) ?_
                                  refine lv_lstore_n (lv' := [(1, .long ((31 * (fpX (bI v gt) (fpN (bI v) (fpC (fun j => v (777 + j)) (fpM (fun j => v (768 + j)) (fpS (bI v) 6) 9) 9) gt) ux)) + ((nI ux).toInt64))), (0, .ref (M 0)), (3, .int (nI gt)), (4, .int (nI ux))]) hx hb dX4_fingerprint_221 rfl hl (by decide) rfl (fun ls hl => ?_)
                                  refine lv_iinc (v := (nI (ux + 1))) (lv' := [(4, .int (nI (ux + 1))), (1, .long ((31 * (fpX (bI v gt) (fpN (bI v) (fpC (fun j => v (777 + j)) (fpM (fun j => v (768 + j)) (fpS (bI v) 6) 9) 9) gt) ux)) + ((nI ux).toInt64))), (0, .ref (M 0)), (3, .int (nI gt))]) hx hb dX4_fingerprint_222 hl (k := 3) rfl (iinc_n ux 1) (by decide) rfl (fun ls hl => ?_)
                                  refine lv_goto (tgt := 190) hx hb dX4_fingerprint_225 (by decide) ?_
                                  have hl := lv_sub hl (l' := [(0, .ref (M 0)), (1, .long ((31 * (fpX (bI v gt) (fpN (bI v) (fpC (fun j => v (777 + j)) (fpM (fun j => v (768 + j)) (fpS (bI v) 6) 9) 9) gt) ux)) + ((nI ux).toInt64))), (3, .int (nI gt)), (4, .int (nI (ux + 1)))]) [2, 1, 3, 0] rfl
                                  have q_1 : ((31 * (fpX (bI v gt) (fpN (bI v) (fpC (fun j => v (777 + j)) (fpM (fun j => v (768 + j)) (fpS (bI v) 6) 9) 9) gt) ux)) + ((nI ux).toInt64)) = (fpX (bI v gt) (fpN (bI v) (fpC (fun j => v (777 + j)) (fpM (fun j => v (768 + j)) (fpS (bI v) 6) 9) 9) gt) (ux + 1)) := by first | exact (if_pos c_6).symm | exact (if_neg (by rw [c_6]; exact Bool.false_ne_true)).symm
                                  have hl : lv_has ls 6 [(0, .ref (M 0)), (1, .long (fpX (bI v gt) (fpN (bI v) (fpC (fun j => v (777 + j)) (fpM (fun j => v (768 + j)) (fpS (bI v) 6) 9) 9) gt) (ux + 1))), (3, .int (nI gt)), (4, .int (nI (ux + 1)))] := by
                                    have h := hl
                                    rw [q_1] at h
                                    exact h
                                  exact ih190 (ux + 1) (by omega) ls hl (by omega)
                          have hl := lv_sub hl (l' := [(0, .ref (M 0)), (1, .long (fpN (bI v) (fpC (fun j => v (777 + j)) (fpM (fun j => v (768 + j)) (fpS (bI v) 6) 9) 9) gt)), (3, .int (nI gt)), (4, .int (nI 0))]) [1, 2, 3, 0] rfl
                          have q_1 : (fpN (bI v) (fpC (fun j => v (777 + j)) (fpM (fun j => v (768 + j)) (fpS (bI v) 6) 9) 9) gt) = (fpX (bI v gt) (fpN (bI v) (fpC (fun j => v (777 + j)) (fpM (fun j => v (768 + j)) (fpS (bI v) 6) 9) 9) gt) 0) := rfl
                          have hl : lv_has ls 6 [(0, .ref (M 0)), (1, .long (fpX (bI v gt) (fpN (bI v) (fpC (fun j => v (777 + j)) (fpM (fun j => v (768 + j)) (fpS (bI v) 6) 9) 9) gt) 0)), (3, .int (nI gt)), (4, .int (nI 0))] := by
                            have h := hl
                            rw [q_1] at h
                            exact h
                          exact loop190 (4096 - 0 + 1) 0 (Nat.zero_le _) ls hl (Nat.lt_succ_self _)
                    have hl := lv_sub hl (l' := [(0, .ref (M 0)), (1, .long (fpC (fun j => v (777 + j)) (fpM (fun j => v (768 + j)) (fpS (bI v) 6) 9) i)), (3, .int (nI 0))]) [1, 2, 0] rfl
                    have q_1 : (fpC (fun j => v (777 + j)) (fpM (fun j => v (768 + j)) (fpS (bI v) 6) 9) i) = (fpN (bI v) (fpC (fun j => v (777 + j)) (fpM (fun j => v (768 + j)) (fpS (bI v) 6) 9) 9) 0) := by rw [show i = 9 by omega]; exact rfl
                    have hl : lv_has ls 6 [(0, .ref (M 0)), (1, .long (fpN (bI v) (fpC (fun j => v (777 + j)) (fpM (fun j => v (768 + j)) (fpS (bI v) 6) 9) 9) 0)), (3, .int (nI 0))] := by
                      have h := hl
                      rw [q_1] at h
                      exact h
                    exact loop181 (6 - 0 + 1) 0 (Nat.zero_le _) ls hl (Nat.lt_succ_self _)
                  · skip
                    have c_3 : ¬ (9 ≤ i) := fun z => c_3 ((nI_leI (a := 9) (b := i) (by omega) (by omega)).mpr z)
                    refine lv_iload_n hx hb dX4_fingerprint_142 rfl (lv_at hl 2 rfl) ?_
                    refine lv_iconst (v := (nI 3)) hx hb dX4_fingerprint_143 (by decide) ?_
                    refine lv_idiv hx hb dX4_fingerprint_144 (by decide) ?_
                    refine top_i (pk_div (a := i) (d := 3) (by omega) (by omega) (by omega)) ?_
                    refine lv_iload_n hx hb dX4_fingerprint_145 rfl (lv_at hl 2 rfl) ?_
                    refine lv_iconst (v := (nI 3)) hx hb dX4_fingerprint_146 (by decide) ?_
                    refine lv_irem hx hb dX4_fingerprint_147 (by decide) ?_
                    refine top_i (pk_rem (a := i) (d := 3) (by omega) (by omega) (by omega)) ?_
                    refine lv_icmp_ne (tgt := 155) hx hb dX4_fingerprint_148 (by decide) (fun c_4 => ?_) (fun c_4 => ?_)
                    · skip
                      have c_4 : ¬ ((i / 3) = (i % 3)) := fun z => c_4 ((nI_eq (a := (i / 3)) (b := (i % 3)) (by omega) (by omega)).mpr z)
                      refine lv_ldc2 hx hb hown (hts (.constantLong RX4 129 (31)) (by decide +kernel)) dX4_fingerprint_155 ?_
                      refine lv_lload_n hx hb dX4_fingerprint_158 rfl (lv_at hl 1 rfl) ?_
                      refine lv_lmul hx hb dX4_fingerprint_159 ?_
                      refine lv_aload_n hx hb dX4_fingerprint_160 rfl (lv_at hl 0 rfl) ?_
                      refine r_get (C := RX4) (Tb := TX4) (N := 8) hx hb hts in_wsX40 hown hK (hM.2.1) rfl 0 (by decide) (hts (.fieldLink RX4 7 "PieceSetsModel" "v" "[I") (by decide +kernel)) rfl (v := .ref (M 1)) rfl dX4_fingerprint_161 ?_
                      refine lv_sipush (v := (nI 777)) hx hb dX4_fingerprint_164 (by decide) ?_
                      refine lv_iload_n hx hb dX4_fingerprint_167 rfl (lv_at hl 2 rfl) ?_
                      refine lv_iadd hx hb dX4_fingerprint_168 ?_
                      refine top_i (nI_add 777 i) ?_
                      refine r_iald hx hb hK (hM.2.2.1) (i := 777 + i) (by omega) (by decide) dX4_fingerprint_169 ?_
                      refine lv_i2l (v := ((v (777 + i)).toInt64)) hx hb dX4_fingerprint_170 rfl ?_
                      refine lv_ladd hx hb dX4_fingerprint_171 ?_
                      refine lv_lstore_n (lv' := [(1, .long ((31 * (fpC (fun j => v (777 + j)) (fpM (fun j => v (768 + j)) (fpS (bI v) 6) 9) i)) + ((v (777 + i)).toInt64))), (0, .ref (M 0)), (3, .int (nI i))]) hx hb dX4_fingerprint_172 rfl hl (by decide) rfl (fun ls hl => ?_)
                      refine lv_iinc (v := (nI (i + 1))) (lv' := [(3, .int (nI (i + 1))), (1, .long ((31 * (fpC (fun j => v (777 + j)) (fpM (fun j => v (768 + j)) (fpS (bI v) 6) 9) i)) + ((v (777 + i)).toInt64))), (0, .ref (M 0))]) hx hb dX4_fingerprint_173 hl (k := 2) rfl (iinc_n i 1) (by decide) rfl (fun ls hl => ?_)
                      refine lv_goto (tgt := 136) hx hb dX4_fingerprint_176 (by decide) ?_
                      have hl := lv_sub hl (l' := [(0, .ref (M 0)), (1, .long ((31 * (fpC (fun j => v (777 + j)) (fpM (fun j => v (768 + j)) (fpS (bI v) 6) 9) i)) + ((v (777 + i)).toInt64))), (3, .int (nI (i + 1)))]) [2, 1, 0] rfl
                      have q_1 : ((31 * (fpC (fun j => v (777 + j)) (fpM (fun j => v (768 + j)) (fpS (bI v) 6) 9) i)) + ((v (777 + i)).toInt64)) = (fpC (fun j => v (777 + j)) (fpM (fun j => v (768 + j)) (fpS (bI v) 6) 9) (i + 1)) := by first | exact (if_pos c_4).symm | exact (if_neg c_4).symm
                      have hl : lv_has ls 6 [(0, .ref (M 0)), (1, .long (fpC (fun j => v (777 + j)) (fpM (fun j => v (768 + j)) (fpS (bI v) 6) 9) (i + 1))), (3, .int (nI (i + 1)))] := by
                        have h := hl
                        rw [q_1] at h
                        exact h
                      exact ih136 (i + 1) (by omega) ls hl (by omega)
                    · skip
                      have c_4 : (i / 3) = (i % 3) := (nI_eq (a := (i / 3)) (b := (i % 3)) (by omega) (by omega)).mp c_4
                      refine lv_lload_n hx hb dX4_fingerprint_151 rfl (lv_at hl 1 rfl) ?_
                      refine lv_goto (tgt := 172) hx hb dX4_fingerprint_152 (by decide) ?_
                      refine lv_lstore_n (lv' := [(1, .long (fpC (fun j => v (777 + j)) (fpM (fun j => v (768 + j)) (fpS (bI v) 6) 9) i)), (0, .ref (M 0)), (3, .int (nI i))]) hx hb dX4_fingerprint_172 rfl hl (by decide) rfl (fun ls hl => ?_)
                      refine lv_iinc (v := (nI (i + 1))) (lv' := [(3, .int (nI (i + 1))), (1, .long (fpC (fun j => v (777 + j)) (fpM (fun j => v (768 + j)) (fpS (bI v) 6) 9) i)), (0, .ref (M 0))]) hx hb dX4_fingerprint_173 hl (k := 2) rfl (iinc_n i 1) (by decide) rfl (fun ls hl => ?_)
                      refine lv_goto (tgt := 136) hx hb dX4_fingerprint_176 (by decide) ?_
                      have hl := lv_sub hl (l' := [(0, .ref (M 0)), (1, .long (fpC (fun j => v (777 + j)) (fpM (fun j => v (768 + j)) (fpS (bI v) 6) 9) i)), (3, .int (nI (i + 1)))]) [2, 1, 0] rfl
                      have q_1 : (fpC (fun j => v (777 + j)) (fpM (fun j => v (768 + j)) (fpS (bI v) 6) 9) i) = (fpC (fun j => v (777 + j)) (fpM (fun j => v (768 + j)) (fpS (bI v) 6) 9) (i + 1)) := by first | exact (if_pos c_4).symm | exact (if_neg c_4).symm
                      have hl : lv_has ls 6 [(0, .ref (M 0)), (1, .long (fpC (fun j => v (777 + j)) (fpM (fun j => v (768 + j)) (fpS (bI v) 6) 9) (i + 1))), (3, .int (nI (i + 1)))] := by
                        have h := hl
                        rw [q_1] at h
                        exact h
                      exact ih136 (i + 1) (by omega) ls hl (by omega)
              have hl := lv_sub hl (l' := [(0, .ref (M 0)), (1, .long (fpM (fun j => v (768 + j)) (fpS (bI v) 6) i)), (3, .int (nI 0))]) [1, 2, 0] rfl
              have q_1 : (fpM (fun j => v (768 + j)) (fpS (bI v) 6) i) = (fpC (fun j => v (777 + j)) (fpM (fun j => v (768 + j)) (fpS (bI v) 6) 9) 0) := by rw [show i = 9 by omega]; exact rfl
              have hl : lv_has ls 6 [(0, .ref (M 0)), (1, .long (fpC (fun j => v (777 + j)) (fpM (fun j => v (768 + j)) (fpS (bI v) 6) 9) 0)), (3, .int (nI 0))] := by
                have h := hl
                rw [q_1] at h
                exact h
              exact loop136 (9 - 0 + 1) 0 (Nat.zero_le _) ls hl (Nat.lt_succ_self _)
            · skip
              have c_2 : ¬ (9 ≤ i) := fun z => c_2 ((nI_leI (a := 9) (b := i) (by omega) (by omega)).mpr z)
              refine lv_ldc2 hx hb hown (hts (.constantLong RX4 129 (31)) (by decide +kernel)) dX4_fingerprint_110 ?_
              refine lv_lload_n hx hb dX4_fingerprint_113 rfl (lv_at hl 1 rfl) ?_
              refine lv_lmul hx hb dX4_fingerprint_114 ?_
              refine lv_aload_n hx hb dX4_fingerprint_115 rfl (lv_at hl 0 rfl) ?_
              refine r_get (C := RX4) (Tb := TX4) (N := 8) hx hb hts in_wsX40 hown hK (hM.2.1) rfl 0 (by decide) (hts (.fieldLink RX4 7 "PieceSetsModel" "v" "[I") (by decide +kernel)) rfl (v := .ref (M 1)) rfl dX4_fingerprint_116 ?_
              refine lv_sipush (v := (nI 768)) hx hb dX4_fingerprint_119 (by decide) ?_
              refine lv_iload_n hx hb dX4_fingerprint_122 rfl (lv_at hl 2 rfl) ?_
              refine lv_iadd hx hb dX4_fingerprint_123 ?_
              refine top_i (nI_add 768 i) ?_
              refine r_iald hx hb hK (hM.2.2.1) (i := 768 + i) (by omega) (by decide) dX4_fingerprint_124 ?_
              refine lv_i2l (v := ((v (768 + i)).toInt64)) hx hb dX4_fingerprint_125 rfl ?_
              refine lv_ladd hx hb dX4_fingerprint_126 ?_
              refine lv_lstore_n (lv' := [(1, .long ((31 * (fpM (fun j => v (768 + j)) (fpS (bI v) 6) i)) + ((v (768 + i)).toInt64))), (0, .ref (M 0)), (3, .int (nI i))]) hx hb dX4_fingerprint_127 rfl hl (by decide) rfl (fun ls hl => ?_)
              refine lv_iinc (v := (nI (i + 1))) (lv' := [(3, .int (nI (i + 1))), (1, .long ((31 * (fpM (fun j => v (768 + j)) (fpS (bI v) 6) i)) + ((v (768 + i)).toInt64))), (0, .ref (M 0))]) hx hb dX4_fingerprint_128 hl (k := 2) rfl (iinc_n i 1) (by decide) rfl (fun ls hl => ?_)
              refine lv_goto (tgt := 104) hx hb dX4_fingerprint_131 (by decide) ?_
              have hl := lv_sub hl (l' := [(0, .ref (M 0)), (1, .long ((31 * (fpM (fun j => v (768 + j)) (fpS (bI v) 6) i)) + ((v (768 + i)).toInt64))), (3, .int (nI (i + 1)))]) [2, 1, 0] rfl
              have q_1 : ((31 * (fpM (fun j => v (768 + j)) (fpS (bI v) 6) i)) + ((v (768 + i)).toInt64)) = (fpM (fun j => v (768 + j)) (fpS (bI v) 6) (i + 1)) := rfl
              have hl : lv_has ls 6 [(0, .ref (M 0)), (1, .long (fpM (fun j => v (768 + j)) (fpS (bI v) 6) (i + 1))), (3, .int (nI (i + 1)))] := by
                have h := hl
                rw [q_1] at h
                exact h
              exact ih104 (i + 1) (by omega) ls hl (by omega)
        have hl := lv_sub hl (l' := [(0, .ref (M 0)), (1, .long (fpS (bI v) gs)), (3, .int (nI 0))]) [1, 2, 0] rfl
        have q_1 : (fpS (bI v) gs) = (fpM (fun j => v (768 + j)) (fpS (bI v) 6) 0) := by rw [show gs = 6 by omega]; exact rfl
        have hl : lv_has ls 6 [(0, .ref (M 0)), (1, .long (fpM (fun j => v (768 + j)) (fpS (bI v) 6) 0)), (3, .int (nI 0))] := by
          have h := hl
          rw [q_1] at h
          exact h
        exact loop104 (9 - 0 + 1) 0 (Nat.zero_le _) ls hl (Nat.lt_succ_self _)
      · skip
        have c_1 : ¬ (6 ≤ gs) := fun z => c_1 ((nI_leI (a := 6) (b := gs) (by omega) (by omega)).mpr z)
        refine lv_ldc2 hx hb hown (hts (.constantLong RX4 129 (31)) (by decide +kernel)) dX4_fingerprint_12 ?_
        refine lv_lload_n hx hb dX4_fingerprint_15 rfl (lv_at hl 1 rfl) ?_
        refine lv_lmul hx hb dX4_fingerprint_16 ?_
        refine lv_aload_n hx hb dX4_fingerprint_17 rfl (lv_at hl 0 rfl) ?_
        refine lv_iload_n hx hb dX4_fingerprint_18 rfl (lv_at hl 2 rfl) ?_
        refine vp_callSi (va_Run.run (va_runV (As := [.int (nI gs)]) (rest := [.long (31 * (fpS (bI v) gs))]) ⟨hx, hb, hml, hown, hts⟩ (k_X4_sizeOf l D T M v as pa fi.2.2.1 (buF fi) fi.2.2.2.2 bi at0 gs (by omega)) (cwV 1 hts gX4_fingerprint_X4_sizeOf rfl rfl rfl (by decide +kernel) ⟨Nat.le_of_ble_eq_true rfl, Nat.le_of_ble_eq_true rfl⟩) (pre_V (Φ := fun X => MO D T X M v as pa fi.2.2.1 (buF fi) fi.2.2.2.2 bi at0) hK (hM.2.1) rfl hM) rfl rfl hl.1 rfl (lv_room (Nat.le_of_ble_eq_true rfl)) dX4_fingerprint_19 ⟨Nat.le_of_ble_eq_true rfl, Nat.le_of_ble_eq_true rfl⟩)) (fun r_1 hr_1 => ?_)
        subst hr_1
        refine lv_i2l (v := ((nI (ct (bI v gs) 0 4096)).toInt64)) hx hb dX4_fingerprint_22 rfl ?_
        refine lv_ladd hx hb dX4_fingerprint_23 ?_
        refine lv_lstore_n (lv' := [(1, .long ((31 * (fpS (bI v) gs)) + ((nI (ct (bI v gs) 0 4096)).toInt64))), (0, .ref (M 0)), (3, .int (nI gs))]) hx hb dX4_fingerprint_24 rfl hl (by decide) rfl (fun ls hl => ?_)
        refine lv_iconst (v := (nI 0)) hx hb dX4_fingerprint_25 (by decide) ?_
        refine lv_istore (lv' := [(4, .int (nI 0)), (1, .long ((31 * (fpS (bI v) gs)) + ((nI (ct (bI v gs) 0 4096)).toInt64))), (0, .ref (M 0)), (3, .int (nI gs))]) hx hb dX4_fingerprint_26 hl (by decide) rfl (fun ls hl => ?_)
        have loop28 : ∀ (n28 : Nat) (i : Nat) (hi : i ≤ 16) (ls : Array Slot) (hl : lv_has ls 6 [(0, .ref (M 0)), (1, .long (fpP (bI v gs) (fpS (bI v) gs) i)), (3, .int (nI gs)), (4, .int (nI i))]) (hn28 : 16 - i < n28), W pg l ev (headSpec wsX4_fingerprint ({ frames := 3, cells := 0, slots := 0, locals := 71 })).room s m ([.ref (M 0)] : List Value).toArray below meth c s.heap [] 0 0 Q (F0 m 28 ls []) := by
          intro n28
          induction n28 with
          | zero =>
            intro i hi ls hl hn28
            exact absurd hn28 (Nat.not_lt_zero _)
          | succ n28 ih28 =>
            intro i hi ls hl hn28
            refine lv_iload hx hb dX4_fingerprint_28 (lv_at hl 3 rfl) ?_
            refine lv_bipush (v := (nI 16)) hx hb dX4_fingerprint_30 (by decide) ?_
            refine lv_icmp_ge (tgt := 96) hx hb dX4_fingerprint_32 (by decide) (fun c_2 => ?_) (fun c_2 => ?_)
            · skip
              have c_2 : 16 ≤ i := (nI_leI (a := 16) (b := i) (by omega) (by omega)).mp c_2
              refine lv_iinc (v := (nI (gs + 1))) (lv' := [(3, .int (nI (gs + 1))), (0, .ref (M 0)), (1, .long (fpP (bI v gs) (fpS (bI v) gs) i)), (4, .int (nI i))]) hx hb dX4_fingerprint_96 hl (k := 2) rfl (iinc_n gs 1) (by decide) rfl (fun ls hl => ?_)
              refine lv_goto (tgt := 6) hx hb dX4_fingerprint_99 (by decide) ?_
              have hl := lv_sub hl (l' := [(0, .ref (M 0)), (1, .long (fpP (bI v gs) (fpS (bI v) gs) i)), (3, .int (nI (gs + 1)))]) [1, 2, 0] rfl
              have q_1 : (fpP (bI v gs) (fpS (bI v) gs) i) = (fpS (bI v) (gs + 1)) := by rw [show i = 16 by omega]; exact rfl
              have hl : lv_has ls 6 [(0, .ref (M 0)), (1, .long (fpS (bI v) (gs + 1))), (3, .int (nI (gs + 1)))] := by
                have h := hl
                rw [q_1] at h
                exact h
              exact ih6 (gs + 1) (by omega) ls hl (by omega)
            · skip
              have c_2 : ¬ (16 ≤ i) := fun z => c_2 ((nI_leI (a := 16) (b := i) (by omega) (by omega)).mpr z)
              refine lv_aload_n hx hb dX4_fingerprint_35 rfl (lv_at hl 0 rfl) ?_
              refine r_get (C := RX4) (Tb := TX4) (N := 8) hx hb hts in_wsX40 hown hK (hM.2.1) rfl 0 (by decide) (hts (.fieldLink RX4 7 "PieceSetsModel" "v" "[I") (by decide +kernel)) rfl (v := .ref (M 1)) rfl dX4_fingerprint_36 ?_
              refine lv_iload_n hx hb dX4_fingerprint_39 rfl (lv_at hl 2 rfl) ?_
              refine lv_iload hx hb dX4_fingerprint_40 (lv_at hl 3 rfl) ?_
              refine vp_callSi (va_Run.run (va_runS (As := [.ref (M 1), .int (nI gs), .int (nI i)]) (rest := []) ⟨hx, hb, hml, hown, hts⟩ (k_X4_manyIn l D T (M 1) v gs i (by omega) (by omega)) (va_cwS 3 hts gX4_fingerprint_X4_manyIn rfl rfl rfl (by decide +kernel) ⟨Nat.le_of_ble_eq_true rfl, Nat.le_of_ble_eq_true rfl⟩) (pre_S (Φ := fun X => va_at D vwCl ((M 1), eI T 790 v) X) hK hM.2.2.1) rfl rfl hl.1 rfl (lv_room (Nat.le_of_ble_eq_true rfl)) dX4_fingerprint_42 ⟨Nat.le_of_ble_eq_true rfl, Nat.le_of_ble_eq_true rfl⟩)) (fun r_2 hr_2 => ?_)
              subst hr_2
              have hpn9 := pn_le (bI v gs) i
              refine lv_if_le (tgt := 90) hx hb dX4_fingerprint_45 (by decide) (fun c_3 => ?_) (fun c_3 => ?_)
              · skip
                have c_3 : (pn (bI v gs) i) = 0 := (nI_le0 (a := (pn (bI v gs) i)) (by omega)).mp c_3
                refine lv_iinc (v := (nI (i + 1))) (lv' := [(4, .int (nI (i + 1))), (0, .ref (M 0)), (1, .long (fpP (bI v gs) (fpS (bI v) gs) i)), (3, .int (nI gs))]) hx hb dX4_fingerprint_90 hl (k := 3) rfl (iinc_n i 1) (by decide) rfl (fun ls hl => ?_)
                refine lv_goto (tgt := 28) hx hb dX4_fingerprint_93 (by decide) ?_
                have hl := lv_sub hl (l' := [(0, .ref (M 0)), (1, .long (fpP (bI v gs) (fpS (bI v) gs) i)), (3, .int (nI gs)), (4, .int (nI (i + 1)))]) [1, 2, 3, 0] rfl
                have q_1 : (fpP (bI v gs) (fpS (bI v) gs) i) = (fpP (bI v gs) (fpS (bI v) gs) (i + 1)) := by first | (rw [show j = 4 by omega]; exact (if_pos (show 0 < pn (bI v gs) i by omega)).symm) | exact (if_neg (show ¬ 0 < pn (bI v gs) i by omega)).symm
                have hl : lv_has ls 6 [(0, .ref (M 0)), (1, .long (fpP (bI v gs) (fpS (bI v) gs) (i + 1))), (3, .int (nI gs)), (4, .int (nI (i + 1)))] := by
                  have h := hl
                  rw [q_1] at h
                  exact h
                exact ih28 (i + 1) (by omega) ls hl (by omega)
              · skip
                have c_3 : ¬ ((pn (bI v gs) i) = 0) := fun z => c_3 ((nI_le0 (a := (pn (bI v gs) i)) (by omega)).mpr z)
                refine lv_ldc2 hx hb hown (hts (.constantLong RX4 129 (31)) (by decide +kernel)) dX4_fingerprint_48 ?_
                refine lv_lload_n hx hb dX4_fingerprint_51 rfl (lv_at hl 1 rfl) ?_
                refine lv_lmul hx hb dX4_fingerprint_52 ?_
                refine lv_iload hx hb dX4_fingerprint_53 (lv_at hl 3 rfl) ?_
                refine lv_i2l (v := ((nI i).toInt64)) hx hb dX4_fingerprint_55 rfl ?_
                refine lv_ladd hx hb dX4_fingerprint_56 ?_
                refine lv_lstore_n (lv' := [(1, .long ((31 * (fpP (bI v gs) (fpS (bI v) gs) i)) + ((nI i).toInt64))), (0, .ref (M 0)), (3, .int (nI gs)), (4, .int (nI i))]) hx hb dX4_fingerprint_57 rfl hl (by decide) rfl (fun ls hl => ?_)
                refine lv_iconst (v := (nI 0)) hx hb dX4_fingerprint_58 (by decide) ?_
                refine lv_istore (lv' := [(5, .int (nI 0)), (1, .long ((31 * (fpP (bI v gs) (fpS (bI v) gs) i)) + ((nI i).toInt64))), (0, .ref (M 0)), (3, .int (nI gs)), (4, .int (nI i))]) hx hb dX4_fingerprint_59 hl (by decide) rfl (fun ls hl => ?_)
                have loop61 : ∀ (n61 : Nat) (j : Nat) (hj : j ≤ 4) (ls : Array Slot) (hl : lv_has ls 6 [(0, .ref (M 0)), (1, .long (fp4 (bI v gs) i (mx (fpP (bI v gs) (fpS (bI v) gs) i) (nI i).toInt64) j)), (3, .int (nI gs)), (4, .int (nI i)), (5, .int (nI j))]) (hn61 : 4 - j < n61), W pg l ev (headSpec wsX4_fingerprint ({ frames := 3, cells := 0, slots := 0, locals := 71 })).room s m ([.ref (M 0)] : List Value).toArray below meth c s.heap [] 0 0 Q (F0 m 61 ls []) := by
                  intro n61
                  induction n61 with
                  | zero =>
                    intro j hj ls hl hn61
                    exact absurd hn61 (Nat.not_lt_zero _)
                  | succ n61 ih61 =>
                    intro j hj ls hl hn61
                    refine lv_iload hx hb dX4_fingerprint_61 (lv_at hl 4 rfl) ?_
                    refine lv_iconst (v := (nI 4)) hx hb dX4_fingerprint_63 (by decide) ?_
                    refine lv_icmp_ge (tgt := 90) hx hb dX4_fingerprint_64 (by decide) (fun c_4 => ?_) (fun c_4 => ?_)
                    · skip
                      have c_4 : 4 ≤ j := (nI_leI (a := 4) (b := j) (by omega) (by omega)).mp c_4
                      refine lv_iinc (v := (nI (i + 1))) (lv' := [(4, .int (nI (i + 1))), (0, .ref (M 0)), (1, .long (fp4 (bI v gs) i (mx (fpP (bI v gs) (fpS (bI v) gs) i) (nI i).toInt64) j)), (3, .int (nI gs)), (5, .int (nI j))]) hx hb dX4_fingerprint_90 hl (k := 3) rfl (iinc_n i 1) (by decide) rfl (fun ls hl => ?_)
                      refine lv_goto (tgt := 28) hx hb dX4_fingerprint_93 (by decide) ?_
                      have hl := lv_sub hl (l' := [(0, .ref (M 0)), (1, .long (fp4 (bI v gs) i (mx (fpP (bI v gs) (fpS (bI v) gs) i) (nI i).toInt64) j)), (3, .int (nI gs)), (4, .int (nI (i + 1)))]) [1, 2, 3, 0] rfl
                      have q_1 : (fp4 (bI v gs) i (mx (fpP (bI v gs) (fpS (bI v) gs) i) (nI i).toInt64) j) = (fpP (bI v gs) (fpS (bI v) gs) (i + 1)) := by first | (rw [show j = 4 by omega]; exact (if_pos (show 0 < pn (bI v gs) i by omega)).symm) | exact (if_neg (show ¬ 0 < pn (bI v gs) i by omega)).symm
                      have hl : lv_has ls 6 [(0, .ref (M 0)), (1, .long (fpP (bI v gs) (fpS (bI v) gs) (i + 1))), (3, .int (nI gs)), (4, .int (nI (i + 1)))] := by
                        have h := hl
                        rw [q_1] at h
                        exact h
                      exact ih28 (i + 1) (by omega) ls hl (by omega)
                    · skip
                      have c_4 : ¬ (4 ≤ j) := fun z => c_4 ((nI_leI (a := 4) (b := j) (by omega) (by omega)).mpr z)
                      refine lv_ldc2 hx hb hown (hts (.constantLong RX4 129 (31)) (by decide +kernel)) dX4_fingerprint_67 ?_
                      refine lv_lload_n hx hb dX4_fingerprint_70 rfl (lv_at hl 1 rfl) ?_
                      refine lv_lmul hx hb dX4_fingerprint_71 ?_
                      refine lv_aload_n hx hb dX4_fingerprint_72 rfl (lv_at hl 0 rfl) ?_
                      refine lv_iload_n hx hb dX4_fingerprint_73 rfl (lv_at hl 2 rfl) ?_
                      refine lv_iload hx hb dX4_fingerprint_74 (lv_at hl 3 rfl) ?_
                      refine lv_iload hx hb dX4_fingerprint_76 (lv_at hl 4 rfl) ?_
                      refine vp_callSi (va_Run.run (va_runV (As := [.int (nI gs), .int (nI i), .int (nI j)]) (rest := [.long (31 * (fp4 (bI v gs) i (mx (fpP (bI v gs) (fpS (bI v) gs) i) (nI i).toInt64) j))]) ⟨hx, hb, hml, hown, hts⟩ (k_X4_told l D T M v as pa fi.2.2.1 (buF fi) fi.2.2.2.2 bi at0 gs i (nI j) (by omega) (by omega)) (cwV 3 hts gX4_fingerprint_X4_told rfl rfl rfl (by decide +kernel) ⟨Nat.le_of_ble_eq_true rfl, Nat.le_of_ble_eq_true rfl⟩) (pre_V (Φ := fun X => MO D T X M v as pa fi.2.2.1 (buF fi) fi.2.2.2.2 bi at0) hK (hM.2.1) rfl hM) rfl rfl hl.1 rfl (lv_room (Nat.le_of_ble_eq_true rfl)) dX4_fingerprint_78 ⟨Nat.le_of_ble_eq_true rfl, Nat.le_of_ble_eq_true rfl⟩)) (fun r_3 hr_3 => ?_)
                      subst hr_3
                      refine lv_i2l (v := ((tol (bI v gs) i (nI j)).toInt64)) hx hb dX4_fingerprint_81 rfl ?_
                      refine lv_ladd hx hb dX4_fingerprint_82 ?_
                      refine lv_lstore_n (lv' := [(1, .long ((31 * (fp4 (bI v gs) i (mx (fpP (bI v gs) (fpS (bI v) gs) i) (nI i).toInt64) j)) + ((tol (bI v gs) i (nI j)).toInt64))), (0, .ref (M 0)), (3, .int (nI gs)), (4, .int (nI i)), (5, .int (nI j))]) hx hb dX4_fingerprint_83 rfl hl (by decide) rfl (fun ls hl => ?_)
                      refine lv_iinc (v := (nI (j + 1))) (lv' := [(5, .int (nI (j + 1))), (1, .long ((31 * (fp4 (bI v gs) i (mx (fpP (bI v gs) (fpS (bI v) gs) i) (nI i).toInt64) j)) + ((tol (bI v gs) i (nI j)).toInt64))), (0, .ref (M 0)), (3, .int (nI gs)), (4, .int (nI i))]) hx hb dX4_fingerprint_84 hl (k := 4) rfl (iinc_n j 1) (by decide) rfl (fun ls hl => ?_)
                      refine lv_goto (tgt := 61) hx hb dX4_fingerprint_87 (by decide) ?_
                      have hl := lv_sub hl (l' := [(0, .ref (M 0)), (1, .long ((31 * (fp4 (bI v gs) i (mx (fpP (bI v gs) (fpS (bI v) gs) i) (nI i).toInt64) j)) + ((tol (bI v gs) i (nI j)).toInt64))), (3, .int (nI gs)), (4, .int (nI i)), (5, .int (nI (j + 1)))]) [2, 1, 3, 4, 0] rfl
                      have q_1 : ((31 * (fp4 (bI v gs) i (mx (fpP (bI v gs) (fpS (bI v) gs) i) (nI i).toInt64) j)) + ((tol (bI v gs) i (nI j)).toInt64)) = (fp4 (bI v gs) i (mx (fpP (bI v gs) (fpS (bI v) gs) i) (nI i).toInt64) (j + 1)) := by exact congrArg (fun z => mx _ z) (congrArg Int32.toInt64 (tol_det (bI v gs) i (q := nI j) ⟨(nI_leI (by omega) (by omega)).mpr (by omega), (nI_leI (by omega) (by omega)).mpr (by omega)⟩))
                      have hl : lv_has ls 6 [(0, .ref (M 0)), (1, .long (fp4 (bI v gs) i (mx (fpP (bI v gs) (fpS (bI v) gs) i) (nI i).toInt64) (j + 1))), (3, .int (nI gs)), (4, .int (nI i)), (5, .int (nI (j + 1)))] := by
                        have h := hl
                        rw [q_1] at h
                        exact h
                      exact ih61 (j + 1) (by omega) ls hl (by omega)
                have hl := lv_sub hl (l' := [(0, .ref (M 0)), (1, .long ((31 * (fpP (bI v gs) (fpS (bI v) gs) i)) + ((nI i).toInt64))), (3, .int (nI gs)), (4, .int (nI i)), (5, .int (nI 0))]) [2, 1, 3, 4, 0] rfl
                have q_1 : ((31 * (fpP (bI v gs) (fpS (bI v) gs) i)) + ((nI i).toInt64)) = (fp4 (bI v gs) i (mx (fpP (bI v gs) (fpS (bI v) gs) i) (nI i).toInt64) 0) := rfl
                have hl : lv_has ls 6 [(0, .ref (M 0)), (1, .long (fp4 (bI v gs) i (mx (fpP (bI v gs) (fpS (bI v) gs) i) (nI i).toInt64) 0)), (3, .int (nI gs)), (4, .int (nI i)), (5, .int (nI 0))] := by
                  have h := hl
                  rw [q_1] at h
                  exact h
                exact loop61 (4 - 0 + 1) 0 (Nat.zero_le _) ls hl (Nat.lt_succ_self _)
        have hl := lv_sub hl (l' := [(0, .ref (M 0)), (1, .long ((31 * (fpS (bI v) gs)) + ((nI (ct (bI v gs) 0 4096)).toInt64))), (3, .int (nI gs)), (4, .int (nI 0))]) [2, 1, 3, 0] rfl
        have q_1 : ((31 * (fpS (bI v) gs)) + ((nI (ct (bI v gs) 0 4096)).toInt64)) = (fpP (bI v gs) (fpS (bI v) gs) 0) := rfl
        have hl : lv_has ls 6 [(0, .ref (M 0)), (1, .long (fpP (bI v gs) (fpS (bI v) gs) 0)), (3, .int (nI gs)), (4, .int (nI 0))] := by
          have h := hl
          rw [q_1] at h
          exact h
        exact loop28 (16 - 0 + 1) 0 (Nat.zero_le _) ls hl (Nat.lt_succ_self _)
  have hl := lv_sub hl (l' := [(0, .ref (M 0)), (1, .long 163), (3, .int (nI 0))]) [2, 1, 0] rfl
  have q_1 : 163 = (fpS (bI v) 0) := rfl
  have hl : lv_has ls 6 [(0, .ref (M 0)), (1, .long (fpS (bI v) 0)), (3, .int (nI 0))] := by
    have h := hl
    rw [q_1] at h
    exact h
  exact loop6 (6 - 0 + 1) 0 (Nat.zero_le _) ls hl (Nat.lt_succ_self _)
