set_option maxHeartbeats 4000000 in
set_option maxRecDepth 100000 in
theorem k_X3_shift (l : Launch) (D : va_G) (T : Nat → ClassId) (A : Nat → Nat) (Sx : Nat → Prop) (fi : FS) (ss : Int32) (y : Int32) : Met l yX3_shift wsX3_shift ({ frames := 4, cells := 0, slots := 0, locals := 125 }) (va_Pc [.ref (A 0), .int ss, .int y] (fun U => KS D T U ∧ PSE D T U.heap A Sx fi)) (va_Qi (fun (r : Int32) (u : Unit) => r = (shiR fi ss y)) (fun u t => ∃ B, B 0 = A 0 ∧ PSE D T t.heap B Sx (shiN fi ss y)) (Sx)) 0 0 (Sx) := by
  refine Met.ofW (cc := cX3_shift) (maxL := 5) (ret := (some .int)) (by decide) rfl ?_
  intro pg ev s m args below meth c s₁ B hml hv
  obtain ⟨rfl, hK, hH⟩ := hv
  have hx := B.exec
  have hb := B.bytes
  have hr := B.returns
  have hts := atoms_spec (ws := wsX3_shift) B.pre
  have hown : s.vm.findClass RX3 = some m.cls := findClass_of_methodNamed B.named
  have hlocks := B.notSynchronized
  have in_wsX20 : ∀ w ∈ wsX20, w ∈ wsX3_shift := fun w h => List.mem_cons_of_mem _ (List.mem_append_left _ (List.mem_append_left _ (List.mem_append_right _ h)))
  have in_wsX30 : ∀ w ∈ wsX30, w ∈ wsX3_shift := fun w h => List.mem_cons_of_mem _ (List.mem_append_left _ (List.mem_append_right _ h))
  have in_wsX10 : ∀ w ∈ wsX10, w ∈ wsX3_shift := fun w h => List.mem_cons_of_mem _ (List.mem_append_right _ h)
  have hS : va_S (Sx) s.heap s.heap [] := va_S.rf
  have hl := lv_entry ([.ref (A 0), .int ss, .int y]) (n := 5) (Nat.le_of_ble_eq_true rfl)
  rw [lg_entry_eq]
  generalize (lg_sl ([.ref (A 0), .int ss, .int y]) ++ List.replicate (5 - (lg_sl ([.ref (A 0), .int ss, .int y])).length) Slot.unset).toArray = ls at hl ⊢
  have hl : lv_has ls 5 [(0, .ref (A 0)), (1, .int ss), (2, .int y)] := hl
  refine W_gen (fun Q hQ => ?_)
  obtain ⟨W0, me, co, sc, hP, hSx, hrb, hbl, hk5, hR0, hRh⟩ := id hH
  refine lv_iload_n hx hb dX3_shift_0 rfl (lv_at hl 1 rfl) ?_
  refine vp_callSi (va_Run.run (va_runS (As := [.int ss]) (rest := []) ⟨hx, hb, hml, hown, hts⟩ (k_X3_isSet l D T ss ) (va_cwS 1 hts gX3_shift_X3_isSet rfl rfl rfl (by decide +kernel) ⟨Nat.le_of_ble_eq_true rfl, Nat.le_of_ble_eq_true rfl⟩) (pre_S (Φ := fun X => True) hK trivial) rfl rfl hl.1 rfl (lv_room (Nat.le_of_ble_eq_true rfl)) dX3_shift_1 ⟨Nat.le_of_ble_eq_true rfl, Nat.le_of_ble_eq_true rfl⟩)) (fun r_1 hr_1 => ?_)
  subst hr_1
  refine lv_if_eq (tgt := 21) hx hb dX3_shift_4 (by decide) (fun c_1 => ?_) (fun c_1 => ?_)
  · skip
    have c_1 : (decide (¬ ss < 0 ∧ ss < nI 6)) = false := b2i_0.mp c_1
    have c_1 : ¬ (¬ ss < 0 ∧ ss < nI 6) := of_decide_eq_false c_1
    refine lv_iconst (v := (-1)) hx hb dX3_shift_21 (by decide) ?_
    subst hQ
    have hfin : PSE D T s.heap A Sx (shiN fi ss y) := by unfold shiN; rw [if_neg (fun z => c_1 z.1)]; exact hH
    exact W.iret (v := (-1)) hx hb hr (fun t ht hW => ⟨⟨(-1), (), rfl, ((if_neg (fun z => c_1 z.1)).symm), by have h9 := exB (A := A) rfl hfin; rw [← ht] at h9; exact h9⟩, hS.F ht⟩) hS.2.2 dX3_shift_22
  · skip
    have c_1 : (decide (¬ ss < 0 ∧ ss < nI 6)) = true := b2i_n0.mp c_1
    have c_1 : ¬ ss < 0 ∧ ss < nI 6 := of_decide_eq_true c_1
    refine lv_iload_n hx hb dX3_shift_7 rfl (lv_at hl 2 rfl) ?_
    refine lv_sipush (v := (-4096)) hx hb dX3_shift_8 (by decide) ?_
    refine lv_icmp_le (tgt := 21) hx hb dX3_shift_11 (by decide) (fun c_2 => ?_) (fun c_2 => ?_)
    · skip
      refine lv_iconst (v := (-1)) hx hb dX3_shift_21 (by decide) ?_
      subst hQ
      have hfin : PSE D T s.heap A Sx (shiN fi ss y) := by unfold shiN; rw [if_neg (fun z => z.2.1 c_2)]; exact hH
      exact W.iret (v := (-1)) hx hb hr (fun t ht hW => ⟨⟨(-1), (), rfl, ((if_neg (fun z => z.2.1 c_2)).symm), by have h9 := exB (A := A) rfl hfin; rw [← ht] at h9; exact h9⟩, hS.F ht⟩) hS.2.2 dX3_shift_22
    · skip
      refine lv_iload_n hx hb dX3_shift_14 rfl (lv_at hl 2 rfl) ?_
      refine lv_sipush (v := (nI 4096)) hx hb dX3_shift_15 (by decide) ?_
      refine lv_icmp_lt (tgt := 23) hx hb dX3_shift_18 (by decide) (fun c_3 => ?_) (fun c_3 => ?_)
      · skip
        obtain ⟨sN, hsN, rfl⟩ := okX (N := 6) (by decide) c_1
        have hy := okSn c_2 c_3
        have hok : ok6 (nI sN) ∧ okS y := ⟨okN hsN (by decide), c_2, Int32.not_le.mpr c_3⟩
        refine lv_aload_n hx hb dX3_shift_23 rfl (lv_at hl 0 rfl) ?_
        refine va_callr (va_runV (As := []) (rest := []) ⟨hx, hb, hml, hown, hts⟩ (k_X3_keepState l D T A fi.2.2.1 fi.2.2.2.1 fi.2.2.2.2 sc W0 me co (by omega)) (cwV 0 hts gX3_shift_X3_keepState rfl rfl rfl (by decide +kernel) ⟨Nat.le_of_ble_eq_true rfl, Nat.le_of_ble_eq_true rfl⟩) (pre_V (Φ := fun X => PSr D T X A fi.2.2.1 fi.2.2.2.1 fi.2.2.2.2 sc W0 me co) hK (hP.2.1) rfl hP) rfl rfl hl.1 rfl (lv_room (Nat.le_of_ble_eq_true rfl)) dX3_shift_24 ⟨Nat.le_of_ble_eq_true rfl, Nat.le_of_ble_eq_true rfl⟩) hS (fun q _ h => by obtain ⟨i, h1, h2⟩ := h; rw [h2]; exact hSx i h1) (fun q h => by obtain ⟨i, h1, h2⟩ := h; rw [h2]; exact hSx i h1) (fun u_1 r_2 t H_1 locs ht hvm hw hB hz hk hS => ?_)
        rw [ht] at hB
        try dsimp only at hw
        try dsimp only at hB
        obtain ⟨hres, hP⟩ := hB
        subst hres
        have hSy := Sx_rot hSx fi.2.2.1
        have hkp := kpt_lt (k := fi.2.2.1)
        have hNb : Num D T H_1 (slA (rotA A fi.2.2.1) (kpt fi.2.2.1) (4 + 2 * sN)) (slA (rotA A fi.2.2.1) (kpt fi.2.2.1) (5 + 2 * sN)) (W0 0 sN) := by have h := (hP.2.2.2.2.2 (kpt fi.2.2.1) (by omega)).2.2.2.2 sN hsN; rw [rotW_k] at h; exact h
        have hNu : Num D T H_1 (slA (rotA A fi.2.2.1) 0 (4 + 2 * sN)) (slA (rotA A fi.2.2.1) 0 (5 + 2 * sN)) (W0 0 sN) := by have h := (hP.2.2.2.2.2 0 (by omega)).2.2.2.2 sN hsN; rw [rotW_0] at h; exact h
        refine r_getN (C := RX2) (Tb := TX2) (N := 3) (host := "PieceSets") hx hb hts in_wsX20 hown hK ((hP.2.2.2.2.2 (kpt fi.2.2.1) (by omega)).1) rfl 0 (by decide) (hK.2.f (args := ([.ref (A 0), .int (nI sN), .int y] : List Value).toArray) 3 rfl) rfl (v := .ref (slA (rotA A fi.2.2.1) (kpt fi.2.2.1) 1)) rfl dX3_shift_27 ?_
        refine lv_iload_n hx hb dX3_shift_30 rfl (lv_at hl 1 rfl) ?_
        refine r_nald hx hb hK ((hP.2.2.2.2.2 (kpt fi.2.2.1) (by omega)).2.1) (i := sN) (by omega) (by decide) (q := (slA (rotA A fi.2.2.1) (kpt fi.2.2.1) (4 + 2 * sN))) (rfl) dX3_shift_31 ?_
        refine lv_astore_n (lv' := [(3, .ref (slA (rotA A fi.2.2.1) (kpt fi.2.2.1) (4 + 2 * sN))), (0, .ref (A 0)), (1, .int (nI sN)), (2, .int y)]) hx hb dX3_shift_32 rfl hl (by decide) rfl (fun ls hl => ?_)
        refine lv_aload_n hx hb dX3_shift_33 rfl (lv_at hl 1 rfl) ?_
        refine r_get (C := RX3) (Tb := TX3) (N := 5) hx hb hts in_wsX30 hown hK (hP.2.1) rfl 0 (by decide) (hts (.fieldLink RX3 10 "PieceSets" "now" "LPieceSets$State;") (by decide +kernel)) rfl (v := .ref (slA (rotA A fi.2.2.1) 0 0)) rfl dX3_shift_34 ?_
        refine r_getN (C := RX2) (Tb := TX2) (N := 3) (host := "PieceSets") hx hb hts in_wsX20 hown hK ((hP.2.2.2.2.2 0 (by omega)).1) rfl 0 (by decide) (hK.2.f (args := ([.ref (A 0), .int (nI sN), .int y] : List Value).toArray) 3 rfl) rfl (v := .ref (slA (rotA A fi.2.2.1) 0 1)) rfl dX3_shift_37 ?_
        refine lv_iload_n hx hb dX3_shift_40 rfl (lv_at hl 2 rfl) ?_
        refine r_nald hx hb hK ((hP.2.2.2.2.2 0 (by omega)).2.1) (i := sN) (by omega) (by decide) (q := (slA (rotA A fi.2.2.1) 0 (4 + 2 * sN))) (rfl) dX3_shift_41 ?_
        refine lv_astore (lv' := [(4, .ref (slA (rotA A fi.2.2.1) 0 (4 + 2 * sN))), (3, .ref (slA (rotA A fi.2.2.1) (kpt fi.2.2.1) (4 + 2 * sN))), (0, .ref (A 0)), (1, .int (nI sN)), (2, .int y)]) hx hb dX3_shift_42 hl (by decide) rfl (fun ls hl => ?_)
        refine lv_aload hx hb dX3_shift_44 (lv_at hl 0 rfl) ?_
        refine lv_aload_n hx hb dX3_shift_46 rfl (lv_at hl 1 rfl) ?_
        refine lv_iload_n hx hb dX3_shift_47 rfl (lv_at hl 4 rfl) ?_
        refine va_callv (va_runVN (As := [.ref (slA (rotA A fi.2.2.1) (kpt fi.2.2.1) (4 + 2 * sN)), .int y]) (rest := []) ⟨hx, hb, hml, hown, hts⟩ (k_X1_becomeMoved l D T (slA (rotA A fi.2.2.1) 0 (4 + 2 * sN)) (slA (rotA A fi.2.2.1) 0 (5 + 2 * sN)) (W0 0 sN) (slA (rotA A fi.2.2.1) (kpt fi.2.2.1) (4 + 2 * sN)) (slA (rotA A fi.2.2.1) (kpt fi.2.2.1) (5 + 2 * sN)) (W0 0 sN) y ((fun z => absurd (slA_inj hP.1 (by omega) (by omega) (by omega) (by omega) z) (by omega)))) (⟨va_cnB 2 hts ggX3_shift_X1_becomeMoved rfl rfl rfl (hK.2.m (args := ([.ref (A 0), .int (nI sN), .int y] : List Value).toArray) 21 rfl) (hts (.initialized RX1) (by decide +kernel)) (by decide +kernel) ⟨Nat.le_of_ble_eq_true rfl, Nat.le_of_ble_eq_true rfl⟩, hts (.instanceMethod yX1_becomeMoved) (by decide +kernel), hts (.selects RX1 yX1_becomeMoved yX1_becomeMoved) (by decide +kernel)⟩) (pre_V (Φ := fun X => Num D T X (slA (rotA A fi.2.2.1) 0 (4 + 2 * sN)) (slA (rotA A fi.2.2.1) 0 (5 + 2 * sN)) (W0 0 sN) ∧ Num D T X (slA (rotA A fi.2.2.1) (kpt fi.2.2.1) (4 + 2 * sN)) (slA (rotA A fi.2.2.1) (kpt fi.2.2.1) (5 + 2 * sN)) (W0 0 sN)) hK (hNu.1) rfl ⟨hNu, hNb⟩) rfl rfl hl.1 rfl (lv_room (Nat.le_of_ble_eq_true rfl)) dX3_shift_48 ⟨Nat.le_of_ble_eq_true rfl, Nat.le_of_ble_eq_true rfl⟩) hS (fun q _ h => by rw [h]; exact hSy (6 + 16 * 0 + (5 + 2 * sN)) (by omega)) (fun q h => by rw [h]; exact hSy (6 + 16 * 0 + (5 + 2 * sN)) (by omega)) (fun u_2 t H_2 locs ht hvm hw hB hz hk hS => ?_)
        rw [ht] at hB
        try dsimp only at hw
        try dsimp only at hB
        have hF9 : Fr _ _ _ := hk
        have hNb := hF9.num hNb (fun z => absurd (slA_inj hP.1 (by omega) (by omega) (by omega) (by omega) z) (by omega)) (fun z => absurd (slA_inj hP.1 (by omega) (by omega) (by omega) (by omega) z) (by omega))
        have hNu := hB
        have hP := hP.setW (n := 0) (s := sN) (by decide) hsN hB hF9
        refine lv_aload_n hx hb dX3_shift_51 rfl (lv_at hl 2 rfl) ?_
        refine r_get (C := RX3) (Tb := TX3) (N := 5) hx hb hts in_wsX30 hown hK (hP.2.1) rfl 0 (by decide) (hts (.fieldLink RX3 10 "PieceSets" "now" "LPieceSets$State;") (by decide +kernel)) rfl (v := .ref (slA (rotA A fi.2.2.1) 0 0)) rfl dX3_shift_52 ?_
        refine lv_aload_n hx hb dX3_shift_55 rfl (lv_at hl 1 rfl) ?_
        refine lv_aload hx hb dX3_shift_56 (lv_at hl 0 rfl) ?_
        refine va_callv (va_runVN (As := [.ref (slA (rotA A fi.2.2.1) (kpt fi.2.2.1) (4 + 2 * sN)), .ref (slA (rotA A fi.2.2.1) 0 (4 + 2 * sN))]) (rest := []) ⟨hx, hb, hml, hown, hts⟩ (k_X2_countConversions l D T (slA (rotA A fi.2.2.1) 0 0) (slA (rotA A fi.2.2.1) 0 1) (slA (rotA A fi.2.2.1) 0 2) (slA (rotA A fi.2.2.1) 0 3) ((rotW co fi.2.2.1) 0) (slA (rotA A fi.2.2.1) (kpt fi.2.2.1) (4 + 2 * sN)) (slA (rotA A fi.2.2.1) (kpt fi.2.2.1) (5 + 2 * sN)) (W0 0 sN) (slA (rotA A fi.2.2.1) 0 (4 + 2 * sN)) (slA (rotA A fi.2.2.1) 0 (5 + 2 * sN)) (mvw (W0 0 sN) y) ) (⟨va_cnB 2 hts ggX3_shift_X2_countConversions rfl rfl rfl (hK.2.m (args := ([.ref (A 0), .int (nI sN), .int y] : List Value).toArray) 12 rfl) (hts (.initialized RX2) (by decide +kernel)) (by decide +kernel) ⟨Nat.le_of_ble_eq_true rfl, Nat.le_of_ble_eq_true rfl⟩, hts (.instanceMethod yX2_countConversions) (by decide +kernel), hts (.selects RX2 yX2_countConversions yX2_countConversions) (by decide +kernel)⟩) (pre_V (Φ := fun X => va_at D vwCl ((slA (rotA A fi.2.2.1) 0 0), .inr (2, [.ref (slA (rotA A fi.2.2.1) 0 1), .ref (slA (rotA A fi.2.2.1) 0 2), .ref (slA (rotA A fi.2.2.1) 0 3)])) X ∧ va_at D vwCl ((slA (rotA A fi.2.2.1) 0 3), eI T 9 ((rotW co fi.2.2.1) 0)) X ∧ Num D T X (slA (rotA A fi.2.2.1) (kpt fi.2.2.1) (4 + 2 * sN)) (slA (rotA A fi.2.2.1) (kpt fi.2.2.1) (5 + 2 * sN)) (W0 0 sN) ∧ Num D T X (slA (rotA A fi.2.2.1) 0 (4 + 2 * sN)) (slA (rotA A fi.2.2.1) 0 (5 + 2 * sN)) (mvw (W0 0 sN) y)) hK ((hP.2.2.2.2.2 0 (by omega)).1) rfl ⟨(hP.2.2.2.2.2 0 (by omega)).1, (hP.2.2.2.2.2 0 (by omega)).2.2.2.1, hNb, hNu⟩) rfl rfl hl.1 rfl (lv_room (Nat.le_of_ble_eq_true rfl)) dX3_shift_58 ⟨Nat.le_of_ble_eq_true rfl, Nat.le_of_ble_eq_true rfl⟩) hS (fun q _ h => by rw [h]; exact hSy (6 + 16 * 0 + 3) (by omega)) (fun q h => by rw [h]; exact hSy (6 + 16 * 0 + 3) (by omega)) (fun u_3 t H_3 locs ht hvm hw hB hz hk hS => ?_)
        rw [ht] at hB
        try dsimp only at hw
        try dsimp only at hB
        have hF9 : Fr _ _ _ := hk
        have hNb := hF9.num hNb (fun z => absurd (slA_inj hP.1 (by omega) (by omega) (by omega) (by omega) z) (by omega)) (fun z => absurd (slA_inj hP.1 (by omega) (by omega) (by omega) (by omega) z) (by omega))
        have hNu := hF9.num hNu (fun z => absurd (slA_inj hP.1 (by omega) (by omega) (by omega) (by omega) z) (by omega)) (fun z => absurd (slA_inj hP.1 (by omega) (by omega) (by omega) (by omega) z) (by omega))
        have hP := hP.setC (n := 0) (by decide) hB hF9
        refine lv_aload_n hx hb dX3_shift_61 rfl (lv_at hl 1 rfl) ?_
        refine vp_callSi (va_Run.run (va_runVN (As := []) (rest := []) ⟨hx, hb, hml, hown, hts⟩ (k_X1_count l D T (slA (rotA A fi.2.2.1) (kpt fi.2.2.1) (4 + 2 * sN)) (slA (rotA A fi.2.2.1) (kpt fi.2.2.1) (5 + 2 * sN)) (W0 0 sN) ) (⟨va_cnB 0 hts ggX3_shift_X1_count rfl rfl rfl (hK.2.m (args := ([.ref (A 0), .int (nI sN), .int y] : List Value).toArray) 15 rfl) (hts (.initialized RX1) (by decide +kernel)) (by decide +kernel) ⟨Nat.le_of_ble_eq_true rfl, Nat.le_of_ble_eq_true rfl⟩, hts (.instanceMethod yX1_count) (by decide +kernel), hts (.selects RX1 yX1_count yX1_count) (by decide +kernel)⟩) (pre_V (Φ := fun X => Num D T X (slA (rotA A fi.2.2.1) (kpt fi.2.2.1) (4 + 2 * sN)) (slA (rotA A fi.2.2.1) (kpt fi.2.2.1) (5 + 2 * sN)) (W0 0 sN)) hK (hNb.1) rfl hNb) rfl rfl hl.1 rfl (lv_room (Nat.le_of_ble_eq_true rfl)) dX3_shift_62 ⟨Nat.le_of_ble_eq_true rfl, Nat.le_of_ble_eq_true rfl⟩)) (fun r_5 hr_5 => ?_)
        subst hr_5
        refine lv_aload hx hb dX3_shift_65 (lv_at hl 0 rfl) ?_
        refine vp_callSi (va_Run.run (va_runVN (As := []) (rest := [.int (nI (ct (bitL (W0 0 sN)) 0 4096))]) ⟨hx, hb, hml, hown, hts⟩ (k_X1_count l D T (slA (rotA A fi.2.2.1) 0 (4 + 2 * sN)) (slA (rotA A fi.2.2.1) 0 (5 + 2 * sN)) (mvw (W0 0 sN) y) ) (⟨va_cnB 0 hts ggX3_shift_X1_count rfl rfl rfl (hK.2.m (args := ([.ref (A 0), .int (nI sN), .int y] : List Value).toArray) 15 rfl) (hts (.initialized RX1) (by decide +kernel)) (by decide +kernel) ⟨Nat.le_of_ble_eq_true rfl, Nat.le_of_ble_eq_true rfl⟩, hts (.instanceMethod yX1_count) (by decide +kernel), hts (.selects RX1 yX1_count yX1_count) (by decide +kernel)⟩) (pre_V (Φ := fun X => Num D T X (slA (rotA A fi.2.2.1) 0 (4 + 2 * sN)) (slA (rotA A fi.2.2.1) 0 (5 + 2 * sN)) (mvw (W0 0 sN) y)) hK (hNu.1) rfl hNu) rfl rfl hl.1 rfl (lv_room (Nat.le_of_ble_eq_true rfl)) dX3_shift_67 ⟨Nat.le_of_ble_eq_true rfl, Nat.le_of_ble_eq_true rfl⟩)) (fun r_6 hr_6 => ?_)
        subst hr_6
        refine lv_isub hx hb dX3_shift_70 ?_
        subst hQ
        have hfin : PSE D T H_3 (rotA A fi.2.2.1) Sx (shiN fi (nI sN) y) := by
          unfold shiN
          rw [if_pos hok, cl_n (by omega)]
          refine PSE.mk hSx hrb hbl hk5 hR0 hRh hP (fun n h => up_n h) (fun n _ => rfl) (fun n h => up_n h) ?_
          rw [up_0, up_0, rotW_0, rotW_0, rotW_0]
          exact act_rep hR0 hsN (fun z hz => (mvw_bit (W0 0 sN) hy z hz).trans (mvb_cong (hR0.1 sN hsN) _ z))
        have hc1 := ct_cong (p := bitL (W0 0 sN)) (q := fi.1.1 sN) (a := 0) (n := 4096) (fun z _ hz => hR0.1 sN hsN z (by omega))
        have hc2 := ct_cong (p := bitL (mvw (W0 0 sN) y)) (q := mvb (fi.1.1 sN) y.toInt) (a := 0) (n := 4096) (fun z _ hz => (mvw_bit (W0 0 sN) hy z (by omega)).trans (mvb_cong (hR0.1 sN hsN) _ z))
        have hc3 := mvb_le (fi.1.1 sN) y.toInt
        exact W.iret (v := ((nI (ct (bitL (W0 0 sN)) 0 4096)) - (nI (ct (bitL (mvw (W0 0 sN) y)) 0 4096)))) hx hb hr (fun t ht hW => ⟨⟨((nI (ct (bitL (W0 0 sN)) 0 4096)) - (nI (ct (bitL (mvw (W0 0 sN) y)) 0 4096))), (), rfl, (by unfold shiR; rw [if_pos hok, cl_n (by omega), hc1, hc2, pk_sub (by omega)]), by have h9 := exB (A := A) (rotA_lo A fi.2.2.1 (j := 0) (by decide)) hfin; rw [← ht] at h9; exact h9⟩, hS.F ht⟩) hS.2.2 dX3_shift_71
      · skip
        refine lv_iconst (v := (-1)) hx hb dX3_shift_21 (by decide) ?_
        subst hQ
        have hfin : PSE D T s.heap A Sx (shiN fi ss y) := by unfold shiN; rw [if_neg (fun z => c_3 (Int32.not_le.mp z.2.2))]; exact hH
        exact W.iret (v := (-1)) hx hb hr (fun t ht hW => ⟨⟨(-1), (), rfl, ((if_neg (fun z => c_3 (Int32.not_le.mp z.2.2))).symm), by have h9 := exB (A := A) rfl hfin; rw [← ht] at h9; exact h9⟩, hS.F ht⟩) hS.2.2 dX3_shift_22
set_option maxHeartbeats 4000000 in
set_option maxRecDepth 100000 in
theorem k_X3_put (l : Launch) (D : va_G) (T : Nat → ClassId) (A : Nat → Nat) (Sx : Nat → Prop) (fi : FS) (x : Int32) : Met l yX3_put wsX3_put ({ frames := 1, cells := 0, slots := 0, locals := 21 }) (va_Pc [.ref (A 0), .int x] (fun U => KS D T U ∧ PSE D T U.heap A Sx fi)) (va_Qi (fun (r : Int32) (u : Unit) => r = (putR fi x)) (fun u t => ∃ B, B 0 = A 0 ∧ PSE D T t.heap B Sx (putN fi x)) (Sx)) 0 0 (Sx) := by
  refine Met.ofW (cc := cX3_put) (maxL := 2) (ret := (some .int)) (by decide) rfl ?_
  intro pg ev s m args below meth c s₁ B hml hv
  obtain ⟨rfl, hK, hH⟩ := hv
  have hx := B.exec
  have hb := B.bytes
  have hr := B.returns
  have hts := atoms_spec (ws := wsX3_put) B.pre
  have hown : s.vm.findClass RX3 = some m.cls := findClass_of_methodNamed B.named
  have hlocks := B.notSynchronized
  have in_wsX30 : ∀ w ∈ wsX30, w ∈ wsX3_put := fun w h => List.mem_cons_of_mem _ (List.mem_append_left _ (List.mem_append_right _ h))
  have in_wsX00 : ∀ w ∈ wsX00, w ∈ wsX3_put := fun w h => List.mem_cons_of_mem _ (List.mem_append_right _ h)
  have hS : va_S (Sx) s.heap s.heap [] := va_S.rf
  have hl := lv_entry ([.ref (A 0), .int x]) (n := 2) (Nat.le_of_ble_eq_true rfl)
  rw [lg_entry_eq]
  generalize (lg_sl ([.ref (A 0), .int x]) ++ List.replicate (2 - (lg_sl ([.ref (A 0), .int x])).length) Slot.unset).toArray = ls at hl ⊢
  have hl : lv_has ls 2 [(0, .ref (A 0)), (1, .int x)] := hl
  refine W_gen (fun Q hQ => ?_)
  obtain ⟨W0, me, co, sc, hP, hSx, hrb, hbl, hk5, hR0, hRh⟩ := id hH
  refine lv_iload_n hx hb dX3_put_0 rfl (lv_at hl 1 rfl) ?_
  refine lv_if_lt (tgt := 11) hx hb dX3_put_1 (by decide) (fun c_1 => ?_) (fun c_1 => ?_)
  · skip
    refine lv_iconst (v := (-1)) hx hb dX3_put_11 (by decide) ?_
    subst hQ
    have hfin : PSE D T s.heap A Sx (putN fi x) := by unfold putN; rw [if_neg (fun z => z.1 c_1)]; exact hH
    exact W.iret (v := (-1)) hx hb hr (fun t ht hW => ⟨⟨(-1), (), rfl, ((if_neg (fun z => z.1 c_1)).symm), by have h9 := exB (A := A) rfl hfin; rw [← ht] at h9; exact h9⟩, hS.F ht⟩) hS.2.2 dX3_put_12
  · skip
    refine lv_iload_n hx hb dX3_put_4 rfl (lv_at hl 1 rfl) ?_
    refine lv_sipush (v := (nI 255)) hx hb dX3_put_5 (by decide) ?_
    refine lv_icmp_le (tgt := 13) hx hb dX3_put_8 (by decide) (fun c_2 => ?_) (fun c_2 => ?_)
    · skip
      have hokv : okV x := ⟨c_1, Int32.not_lt.mpr c_2⟩
      obtain ⟨xN, hxN, rfl⟩ := okVn c_1 c_2
      refine lv_aload_n hx hb dX3_put_13 rfl (lv_at hl 0 rfl) ?_
      refine r_get (C := RX3) (Tb := TX3) (N := 5) hx hb hts in_wsX30 hown hK (hP.2.1) rfl 3 (by decide) (hts (.fieldLink RX3 27 "PieceSets" "buffer" "LPieceSets$Buffer;") (by decide +kernel)) rfl (v := .ref (A 2)) rfl dX3_put_14 ?_
      refine lv_iload_n hx hb dX3_put_17 rfl (lv_at hl 1 rfl) ?_
      refine va_calli (va_runVN (As := [.int (nI xN)]) (rest := []) ⟨hx, hb, hml, hown, hts⟩ (k_X0_append l D T (A 2) (A 3) fi.2.2.2.1 fi.2.2.2.2 xN (hrb) (by omega) (hxN)) (⟨va_cnB 1 hts ggX3_put_X0_append rfl rfl rfl (hK.2.m (args := ([.ref (A 0), .int (nI xN)] : List Value).toArray) 38 rfl) (hts (.initialized RX0) (by decide +kernel)) (by decide +kernel) ⟨Nat.le_of_ble_eq_true rfl, Nat.le_of_ble_eq_true rfl⟩, hts (.instanceMethod yX0_append) (by decide +kernel), hts (.selects RX0 yX0_append yX0_append) (by decide +kernel)⟩) (pre_V (Φ := fun X => Buf D T X (A 2) (A 3) fi.2.2.2.1 fi.2.2.2.2) hK (hP.2.2.2.1.1) rfl hP.2.2.2.1) rfl rfl hl.1 rfl (lv_room (Nat.le_of_ble_eq_true rfl)) dX3_put_18 ⟨Nat.le_of_ble_eq_true rfl, Nat.le_of_ble_eq_true rfl⟩) hS (fun q _ h => h.elim (fun z => by rw [z]; exact hSx 2 (by decide)) (fun z => by rw [z]; exact hSx 3 (by decide))) (fun q h => h.elim (fun z => by rw [z]; exact hSx 2 (by decide)) (fun z => by rw [z]; exact hSx 3 (by decide))) (fun r_1 u_1 t H_1 locs ht hvm hw hB hz hk hS => ?_)
      rw [ht] at hB
      try dsimp only at hw
      try dsimp only at hB
      subst hw
      have hF9 : Fr _ _ _ := hk
      have hP := hP.setB hB hF9 (fun q e => e)
      refine lv_if_eq (tgt := 34) hx hb dX3_put_21 (by decide) (fun c_3 => ?_) (fun c_3 => ?_)
      · skip
        have c_3 : (decide (fi.2.2.2.2 < 200)) = false := b2i_0.mp c_3
        have c_3 : ¬ (fi.2.2.2.2 < 200) := of_decide_eq_false c_3
        refine lv_bipush (v := (-3)) hx hb dX3_put_34 (by decide) ?_
        subst hQ
        have hfin : PSE D T H_1 A Sx (putN fi (nI xN)) := by
          unfold putN
          rw [if_pos hokv, cl_n (by omega)]
          exact ⟨W0, me, co, sc, hP, hSx, apR_lt hrb hxN, apL_le hbl, hk5, hR0, hRh⟩
        exact W.iret (v := (-3)) hx hb hr (fun t ht hW => ⟨⟨(-3), (), rfl, (by unfold putR; rw [if_pos hokv, if_neg c_3]), by have h9 := exB (A := A) rfl hfin; rw [← ht] at h9; exact h9⟩, hS.F ht⟩) hS.2.2 dX3_put_36
      · skip
        have c_3 : (decide (fi.2.2.2.2 < 200)) = true := b2i_n0.mp c_3
        have c_3 : fi.2.2.2.2 < 200 := of_decide_eq_true c_3
        refine lv_aload_n hx hb dX3_put_24 rfl (lv_at hl 0 rfl) ?_
        refine r_get (C := RX3) (Tb := TX3) (N := 5) hx hb hts in_wsX30 hown hK (hP.2.1) rfl 3 (by decide) (hts (.fieldLink RX3 27 "PieceSets" "buffer" "LPieceSets$Buffer;") (by decide +kernel)) rfl (v := .ref (A 2)) rfl dX3_put_25 ?_
        refine r_getN (C := RX0) (Tb := TX0) (N := 2) (host := "PieceSets") hx hb hts in_wsX00 hown hK (hP.2.2.2.1.1) rfl 1 (by decide) (hK.2.f (args := ([.ref (A 0), .int (nI xN)] : List Value).toArray) 7 rfl) rfl (v := .int (nI (apL fi.2.2.2.2))) rfl dX3_put_28 ?_
        refine lv_goto (tgt := 36) hx hb dX3_put_31 (by decide) ?_
        subst hQ
        have hfin : PSE D T H_1 A Sx (putN fi (nI xN)) := by
          unfold putN
          rw [if_pos hokv, cl_n (by omega)]
          exact ⟨W0, me, co, sc, hP, hSx, apR_lt hrb hxN, apL_le hbl, hk5, hR0, hRh⟩
        exact W.iret (v := (nI (apL fi.2.2.2.2))) hx hb hr (fun t ht hW => ⟨⟨(nI (apL fi.2.2.2.2)), (), rfl, (by unfold putR; rw [if_pos hokv, if_pos c_3]; unfold apL; rw [if_pos c_3]), by have h9 := exB (A := A) rfl hfin; rw [← ht] at h9; exact h9⟩, hS.F ht⟩) hS.2.2 dX3_put_36
    · skip
      refine lv_iconst (v := (-1)) hx hb dX3_put_11 (by decide) ?_
      subst hQ
      have hfin : PSE D T s.heap A Sx (putN fi x) := by unfold putN; rw [if_neg (fun z => z.2 (Int32.not_le.mp c_2))]; exact hH
      exact W.iret (v := (-1)) hx hb hr (fun t ht hW => ⟨⟨(-1), (), rfl, ((if_neg (fun z => z.2 (Int32.not_le.mp c_2))).symm), by have h9 := exB (A := A) rfl hfin; rw [← ht] at h9; exact h9⟩, hS.F ht⟩) hS.2.2 dX3_put_12
set_option maxHeartbeats 4000000 in
set_option maxRecDepth 100000 in
theorem k_X3_clear (l : Launch) (D : va_G) (T : Nat → ClassId) (A : Nat → Nat) (Sx : Nat → Prop) (fi : FS) : Met l yX3_clear wsX3_clear ({ frames := 0, cells := 0, slots := 0, locals := 0 }) (va_Pc [.ref (A 0)] (fun U => KS D T U ∧ PSE D T U.heap A Sx fi)) (va_Qi (fun (r : Int32) (u : Unit) => r = (cleR fi)) (fun u t => ∃ B, B 0 = A 0 ∧ PSE D T t.heap B Sx (cleN fi)) (Sx)) 0 0 (Sx) := by
  refine Met.ofW (cc := cX3_clear) (maxL := 2) (ret := (some .int)) (by decide) rfl ?_
  intro pg ev s m args below meth c s₁ B hml hv
  obtain ⟨rfl, hK, hH⟩ := hv
  have hx := B.exec
  have hb := B.bytes
  have hr := B.returns
  have hts := atoms_spec (ws := wsX3_clear) B.pre
  have hown : s.vm.findClass RX3 = some m.cls := findClass_of_methodNamed B.named
  have hlocks := B.notSynchronized
  have in_wsX30 : ∀ w ∈ wsX30, w ∈ wsX3_clear := fun w h => List.mem_cons_of_mem _ (List.mem_append_left _ (List.mem_append_right _ h))
  have in_wsX00 : ∀ w ∈ wsX00, w ∈ wsX3_clear := fun w h => List.mem_cons_of_mem _ (List.mem_append_right _ h)
  have hS : va_S (Sx) s.heap s.heap [] := va_S.rf
  have hl := lv_entry ([.ref (A 0)]) (n := 2) (Nat.le_of_ble_eq_true rfl)
  rw [lg_entry_eq]
  generalize (lg_sl ([.ref (A 0)]) ++ List.replicate (2 - (lg_sl ([.ref (A 0)])).length) Slot.unset).toArray = ls at hl ⊢
  have hl : lv_has ls 2 [(0, .ref (A 0))] := hl
  refine W_gen (fun Q hQ => ?_)
  obtain ⟨W0, me, co, sc, hP, hSx, hrb, hbl, hk5, hR0, hRh⟩ := id hH
  refine lv_aload_n hx hb dX3_clear_0 rfl (lv_at hl 0 rfl) ?_
  refine r_get (C := RX3) (Tb := TX3) (N := 5) hx hb hts in_wsX30 hown hK (hP.2.1) rfl 3 (by decide) (hts (.fieldLink RX3 27 "PieceSets" "buffer" "LPieceSets$Buffer;") (by decide +kernel)) rfl (v := .ref (A 2)) rfl dX3_clear_1 ?_
  refine r_getN (C := RX0) (Tb := TX0) (N := 2) (host := "PieceSets") hx hb hts in_wsX00 hown hK (hP.2.2.2.1.1) rfl 1 (by decide) (hK.2.f (args := ([.ref (A 0)] : List Value).toArray) 7 rfl) rfl (v := .int (nI fi.2.2.2.2)) rfl dX3_clear_4 ?_
  refine lv_istore_n (lv' := [(1, .int (nI fi.2.2.2.2)), (0, .ref (A 0))]) hx hb dX3_clear_7 rfl hl (by decide) rfl (fun ls hl => ?_)
  refine lv_aload_n hx hb dX3_clear_8 rfl (lv_at hl 1 rfl) ?_
  refine r_get (C := RX3) (Tb := TX3) (N := 5) hx hb hts in_wsX30 hown hK (hP.2.1) rfl 3 (by decide) (hts (.fieldLink RX3 27 "PieceSets" "buffer" "LPieceSets$Buffer;") (by decide +kernel)) rfl (v := .ref (A 2)) rfl dX3_clear_9 ?_
  refine lv_iconst (v := (nI 0)) hx hb dX3_clear_12 (by decide) ?_
  refine r_putN (C := RX0) (Tb := TX0) (N := 2) (host := "PieceSets") hx hb hts in_wsX00 tyX0 tyX0_ok nmX0 hown hK hS (hSx 2 (by decide)) hP.2.2.2.1.1 rfl 1 (by decide) (hK.2.f (args := ([.ref (A 0)] : List Value).toArray) 7 rfl) rfl rfl (ty := .int) (by decide +kernel) rfl rfl (show (1 : Nat) < 2 by decide) dX3_clear_13 (fun H_1 locs hat oq hS => ?_)
  have hF9 := Fr.oq oq
  have hP := hP.setB (rb' := fi.2.2.2.1) (bl' := 0) ⟨hat, hF9.at hP.2.2.2.1.2 (hP.1.ne 3 2 (by decide) (by decide) (by decide))⟩ hF9 (fun q e => Or.inl e)
  refine lv_iload_n hx hb dX3_clear_16 rfl (lv_at hl 0 rfl) ?_
  subst hQ
  have hfin : PSE D T H_1 A Sx (cleN fi) := ⟨W0, me, co, sc, hP, hSx, hrb, Nat.zero_le _, hk5, hR0, hRh⟩
  exact W.iret (v := (nI fi.2.2.2.2)) hx hb hr (fun t ht hW => ⟨⟨(nI fi.2.2.2.2), (), rfl, rfl, by have h9 := exB (A := A) rfl hfin; rw [← ht] at h9; exact h9⟩, hS.F ht⟩) hS.2.2 dX3_clear_17
set_option maxHeartbeats 4000000 in
set_option maxRecDepth 100000 in
theorem k_X3_undo (l : Launch) (D : va_G) (T : Nat → ClassId) (A : Nat → Nat) (Sx : Nat → Prop) (fi : FS) : Met l yX3_undo wsX3_undo ({ frames := 0, cells := 0, slots := 0, locals := 0 }) (va_Pc [.ref (A 0)] (fun U => KS D T U ∧ PSE D T U.heap A Sx fi)) (va_Qi (fun (r : Int32) (u : Unit) => r = (undR fi)) (fun u t => ∃ B, B 0 = A 0 ∧ PSE D T t.heap B Sx (undN fi)) (Sx)) 0 0 (Sx) := by
  refine Met.ofW (cc := cX3_undo) (maxL := 2) (ret := (some .int)) (by decide) rfl ?_
  intro pg ev s m args below meth c s₁ B hml hv
  obtain ⟨rfl, hK, hH⟩ := hv
  have hx := B.exec
  have hb := B.bytes
  have hr := B.returns
  have hts := atoms_spec (ws := wsX3_undo) B.pre
  have hown : s.vm.findClass RX3 = some m.cls := findClass_of_methodNamed B.named
  have hlocks := B.notSynchronized
  have in_wsX30 : ∀ w ∈ wsX30, w ∈ wsX3_undo := fun w h => List.mem_cons_of_mem _ (List.mem_append_right _ h)
  have hS : va_S (Sx) s.heap s.heap [] := va_S.rf
  have hl := lv_entry ([.ref (A 0)]) (n := 2) (Nat.le_of_ble_eq_true rfl)
  rw [lg_entry_eq]
  generalize (lg_sl ([.ref (A 0)]) ++ List.replicate (2 - (lg_sl ([.ref (A 0)])).length) Slot.unset).toArray = ls at hl ⊢
  have hl : lv_has ls 2 [(0, .ref (A 0))] := hl
  refine W_gen (fun Q hQ => ?_)
  obtain ⟨W0, me, co, sc, hP, hSx, hrb, hbl, hk5, hR0, hRh⟩ := id hH
  obtain ⟨hi, hO, hQ9, hX⟩ := id hP
  refine lv_aload_n hx hb dX3_undo_0 rfl (lv_at hl 0 rfl) ?_
  refine r_get (C := RX3) (Tb := TX3) (N := 5) hx hb hts in_wsX30 hown hK (hO) rfl 2 (by decide) (hts (.fieldLink RX3 20 "PieceSets" "kept" "I") (by decide +kernel)) rfl (v := .int (nI fi.2.2.1)) rfl dX3_undo_1 ?_
  refine lv_iconst (v := (nI 1)) hx hb dX3_undo_4 (by decide) ?_
  refine lv_icmp_lt (tgt := 16) hx hb dX3_undo_5 (by decide) (fun c_1 => ?_) (fun c_1 => ?_)
  · skip
    have c_1 : fi.2.2.1 < 1 := (nI_ltI (a := fi.2.2.1) (b := 1) (by omega) (by omega)).mp c_1
    refine lv_bipush (v := (-9)) hx hb dX3_undo_16 (by decide) ?_
    subst hQ
    have h00 : fi.2.2.1 = 0 := by omega
    have hfin : PSE D T s.heap A Sx (undN fi) := by unfold undN; rw [if_pos h00]; exact hH
    exact W.iret (v := (-9)) hx hb hr (fun t ht hW => ⟨⟨(-9), (), rfl, (if_pos h00).symm, by have h9 := exB (A := A) rfl hfin; rw [← ht] at h9; exact h9⟩, hS.F ht⟩) hS.2.2 dX3_undo_18
  · skip
    have c_1 : ¬ (fi.2.2.1 < 1) := fun z => c_1 ((nI_ltI (a := fi.2.2.1) (b := 1) (by omega) (by omega)).mpr z)
    refine lv_aload_n hx hb dX3_undo_8 rfl (lv_at hl 0 rfl) ?_
    refine r_get (C := RX3) (Tb := TX3) (N := 5) hx hb hts in_wsX30 hown hK (hO) rfl 2 (by decide) (hts (.fieldLink RX3 20 "PieceSets" "kept" "I") (by decide +kernel)) rfl (v := .int (nI fi.2.2.1)) rfl dX3_undo_9 ?_
    refine lv_iconst (v := (nI 5)) hx hb dX3_undo_12 (by decide) ?_
    refine lv_icmp_le (tgt := 19) hx hb dX3_undo_13 (by decide) (fun c_2 => ?_) (fun c_2 => ?_)
    · skip
      have c_2 : fi.2.2.1 ≤ 5 := (nI_leI (a := fi.2.2.1) (b := 5) (by omega) (by omega)).mp c_2
      refine lv_aload_n hx hb dX3_undo_19 rfl (lv_at hl 0 rfl) ?_
      refine lv_dup hx hb dX3_undo_20 rfl ?_
      refine r_get (C := RX3) (Tb := TX3) (N := 5) hx hb hts in_wsX30 hown hK (hO) rfl 2 (by decide) (hts (.fieldLink RX3 20 "PieceSets" "kept" "I") (by decide +kernel)) rfl (v := .int (nI fi.2.2.1)) rfl dX3_undo_21 ?_
      refine lv_iconst (v := (nI 1)) hx hb dX3_undo_24 (by decide) ?_
      refine lv_isub hx hb dX3_undo_25 ?_
      refine top_i (pk_sub (a := fi.2.2.1) (b := 1) (by omega)) ?_
      refine r_put (C := RX3) (Tb := TX3) (N := 5) hx hb hts in_wsX30 tyX3 tyX3_ok nmX3 hown hK hS (hSx 0 (by decide)) hO rfl 2 (by decide) (hts (.fieldLink RX3 20 "PieceSets" "kept" "I") (by decide +kernel)) rfl rfl (ty := .int) (by decide +kernel) rfl rfl (show (2 : Nat) < 5 by decide) dX3_undo_26 (fun H_1 locs hat oq hS => ?_)
      have hX := hX.fr (Fr.oq oq) (fun i h1 h2 => hi.ne i 0 h2 (by decide) (by omega))
      have hQ9 := (Fr.oq oq).at hQ9 (hi.ne 1 0 (by decide) (by decide) (by decide))
      have hO := hat
      refine lv_aload_n hx hb dX3_undo_29 rfl (lv_at hl 0 rfl) ?_
      refine r_get (C := RX3) (Tb := TX3) (N := 5) hx hb hts in_wsX30 hown hK (hO) rfl 0 (by decide) (hts (.fieldLink RX3 10 "PieceSets" "now" "LPieceSets$State;") (by decide +kernel)) rfl (v := .ref (slA A 0 0)) rfl dX3_undo_30 ?_
      refine lv_astore_n (lv' := [(1, .ref (slA A 0 0)), (0, .ref (A 0))]) hx hb dX3_undo_33 rfl hl (by decide) rfl (fun ls hl => ?_)
      refine lv_aload_n hx hb dX3_undo_34 rfl (lv_at hl 1 rfl) ?_
      refine lv_aload_n hx hb dX3_undo_35 rfl (lv_at hl 1 rfl) ?_
      refine r_get (C := RX3) (Tb := TX3) (N := 5) hx hb hts in_wsX30 hown hK (hO) rfl 1 (by decide) (hts (.fieldLink RX3 16 "PieceSets" "past" "[LPieceSets$State;") (by decide +kernel)) rfl (v := .ref (A 1)) rfl dX3_undo_36 ?_
      refine lv_aload_n hx hb dX3_undo_39 rfl (lv_at hl 1 rfl) ?_
      refine r_get (C := RX3) (Tb := TX3) (N := 5) hx hb hts in_wsX30 hown hK (hO) rfl 2 (by decide) (hts (.fieldLink RX3 20 "PieceSets" "kept" "I") (by decide +kernel)) rfl (v := .int (nI (fi.2.2.1 - 1))) rfl dX3_undo_40 ?_
      refine r_sald hx hb hK (hQ9) (i := fi.2.2.1 - 1) (by omega) (by decide) (q := (slA A (1 + (fi.2.2.1 - 1)) 0)) (rfl) dX3_undo_43 ?_
      refine r_put (C := RX3) (Tb := TX3) (N := 5) hx hb hts in_wsX30 tyX3 tyX3_ok nmX3 hown hK hS (hSx 0 (by decide)) hO rfl 0 (by decide) (hts (.fieldLink RX3 10 "PieceSets" "now" "LPieceSets$State;") (by decide +kernel)) rfl rfl (ty := .object "PieceSets$State") (by decide +kernel) rfl rfl (show (0 : Nat) < 5 by decide) dX3_undo_44 (fun H_2 locs hat oq hS => ?_)
      have hX := hX.fr (Fr.oq oq) (fun i h1 h2 => hi.ne i 0 h2 (by decide) (by omega))
      have hQ9 := (Fr.oq oq).at hQ9 (hi.ne 1 0 (by decide) (by decide) (by decide))
      have hO := hat
      refine lv_aload_n hx hb dX3_undo_47 rfl (lv_at hl 1 rfl) ?_
      refine r_get (C := RX3) (Tb := TX3) (N := 5) hx hb hts in_wsX30 hown hK (hO) rfl 1 (by decide) (hts (.fieldLink RX3 16 "PieceSets" "past" "[LPieceSets$State;") (by decide +kernel)) rfl (v := .ref (A 1)) rfl dX3_undo_48 ?_
      refine lv_aload_n hx hb dX3_undo_51 rfl (lv_at hl 1 rfl) ?_
      refine r_get (C := RX3) (Tb := TX3) (N := 5) hx hb hts in_wsX30 hown hK (hO) rfl 2 (by decide) (hts (.fieldLink RX3 20 "PieceSets" "kept" "I") (by decide +kernel)) rfl (v := .int (nI (fi.2.2.1 - 1))) rfl dX3_undo_52 ?_
      refine lv_aload_n hx hb dX3_undo_55 rfl (lv_at hl 0 rfl) ?_
      refine r_sast hx hb hK hS (hSx 1 (by decide)) hQ9 ((hX.2.2 0 (by decide)).1) (i := fi.2.2.1 - 1) (by omega) (by decide) dX3_undo_56 (fun H_3 locs hat oq hS => ?_)
      have hX := hX.fr (Fr.oq oq) (fun i h1 h2 => hi.ne i 1 h2 (by decide) (by omega))
      have hO := (Fr.oq oq).at hO (hi.ne 0 1 (by decide) (by decide) (by decide))
      refine lv_aload_n hx hb dX3_undo_57 rfl (lv_at hl 1 rfl) ?_
      refine r_get (C := RX3) (Tb := TX3) (N := 5) hx hb hts in_wsX30 hown hK (hO) rfl 2 (by decide) (hts (.fieldLink RX3 20 "PieceSets" "kept" "I") (by decide +kernel)) rfl (v := .int (nI (fi.2.2.1 - 1))) rfl dX3_undo_58 ?_
      subst hQ
      have hfin := PSE.undo (Sx := Sx) (p := fi) (by omega) hSx hrb hbl hk5 hRh (PSr.swap (by omega) (by omega) hi (by rw [show 1 + (fi.2.2.1 - 1) = fi.2.2.1 by omega] at hO; exact hO) hat hX)
      exact W.iret (v := (nI (fi.2.2.1 - 1))) hx hb hr (fun t ht hW => ⟨⟨(nI (fi.2.2.1 - 1)), (), rfl, (if_neg (show ¬ fi.2.2.1 = 0 by omega)).symm, by have h9 := exB (A := A) (swA_lo A fi.2.2.1 (j := 0) (by decide)) hfin; rw [← ht] at h9; exact h9⟩, hS.F ht⟩) hS.2.2 dX3_undo_61
    · skip
      have c_2 : ¬ (fi.2.2.1 ≤ 5) := fun z => c_2 ((nI_leI (a := fi.2.2.1) (b := 5) (by omega) (by omega)).mpr z)
      exact absurd hk5 (by omega)
