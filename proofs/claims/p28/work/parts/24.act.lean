set_option maxHeartbeats 4000000 in
set_option maxRecDepth 100000 in
theorem k_X3_add (l : Launch) (D : va_G) (T : Nat → ClassId) (A : Nat → Nat) (Sx : Nat → Prop) (fi : FS) (ss : Int32) (x : Int32) (y : Int32) : Met l yX3_add wsX3_add ({ frames := 4, cells := 0, slots := 0, locals := 125 }) (va_Pc [.ref (A 0), .int ss, .int x, .int y] (fun U => KS D T U ∧ PSE D T U.heap A Sx fi)) (va_Qi (fun (r : Int32) (u : Unit) => r = (addR fi ss x y)) (fun u t => ∃ B, B 0 = A 0 ∧ PSE D T t.heap B Sx (addN fi ss x y)) (Sx)) 0 0 (Sx) := by
  refine Met.ofW (cc := cX3_add) (maxL := 6) (ret := (some .int)) (by decide) rfl ?_
  intro pg ev s m args below meth c s₁ B hml hv
  obtain ⟨rfl, hK, hH⟩ := hv
  have hx := B.exec
  have hb := B.bytes
  have hr := B.returns
  have hts := atoms_spec (ws := wsX3_add) B.pre
  have hown : s.vm.findClass RX3 = some m.cls := findClass_of_methodNamed B.named
  have hlocks := B.notSynchronized
  have in_wsX20 : ∀ w ∈ wsX20, w ∈ wsX3_add := fun w h => List.mem_cons_of_mem _ (List.mem_append_left _ (List.mem_append_left _ (List.mem_append_right _ h)))
  have in_wsX30 : ∀ w ∈ wsX30, w ∈ wsX3_add := fun w h => List.mem_cons_of_mem _ (List.mem_append_left _ (List.mem_append_right _ h))
  have in_wsX10 : ∀ w ∈ wsX10, w ∈ wsX3_add := fun w h => List.mem_cons_of_mem _ (List.mem_append_right _ h)
  have hS : va_S (Sx) s.heap s.heap [] := va_S.rf
  have hl := lv_entry ([.ref (A 0), .int ss, .int x, .int y]) (n := 6) (Nat.le_of_ble_eq_true rfl)
  rw [lg_entry_eq]
  generalize (lg_sl ([.ref (A 0), .int ss, .int x, .int y]) ++ List.replicate (6 - (lg_sl ([.ref (A 0), .int ss, .int x, .int y])).length) Slot.unset).toArray = ls at hl ⊢
  have hl : lv_has ls 6 [(0, .ref (A 0)), (1, .int ss), (2, .int x), (3, .int y)] := hl
  refine W_gen (fun Q hQ => ?_)
  obtain ⟨W0, me, co, sc, hP, hSx, hrb, hbl, hk5, hR0, hRh⟩ := id hH
  refine lv_iload_n hx hb dX3_add_0 rfl (lv_at hl 1 rfl) ?_
  refine vp_callSi (va_Run.run (va_runS (As := [.int ss]) (rest := []) ⟨hx, hb, hml, hown, hts⟩ (k_X3_isSet l D T ss ) (va_cwS 1 hts gX3_add_X3_isSet rfl rfl rfl (by decide +kernel) ⟨Nat.le_of_ble_eq_true rfl, Nat.le_of_ble_eq_true rfl⟩) (pre_S (Φ := fun X => True) hK trivial) rfl rfl hl.1 rfl (lv_room (Nat.le_of_ble_eq_true rfl)) dX3_add_1 ⟨Nat.le_of_ble_eq_true rfl, Nat.le_of_ble_eq_true rfl⟩)) (fun r_1 hr_1 => ?_)
  subst hr_1
  refine lv_if_eq (tgt := 15) hx hb dX3_add_4 (by decide) (fun c_1 => ?_) (fun c_1 => ?_)
  · skip
    have c_1 : (decide (¬ ss < 0 ∧ ss < nI 6)) = false := b2i_0.mp c_1
    have c_1 : ¬ (¬ ss < 0 ∧ ss < nI 6) := of_decide_eq_false c_1
    refine lv_iconst (v := (-1)) hx hb dX3_add_15 (by decide) ?_
    subst hQ
    have hfin : PSE D T s.heap A Sx (addN fi ss x y) := by unfold addN; rw [if_neg (fun z => c_1 z.1)]; exact hH
    exact W.iret (v := (-1)) hx hb hr (fun t ht hW => ⟨⟨(-1), (), rfl, ((if_neg (fun z => c_1 z.1)).symm), by have h9 := exB (A := A) rfl hfin; rw [← ht] at h9; exact h9⟩, hS.F ht⟩) hS.2.2 dX3_add_16
  · skip
    have c_1 : (decide (¬ ss < 0 ∧ ss < nI 6)) = true := b2i_n0.mp c_1
    have c_1 : ¬ ss < 0 ∧ ss < nI 6 := of_decide_eq_true c_1
    refine lv_iload_n hx hb dX3_add_7 rfl (lv_at hl 2 rfl) ?_
    refine lv_iload_n hx hb dX3_add_8 rfl (lv_at hl 3 rfl) ?_
    refine vp_callSi (va_Run.run (va_runS (As := [.int x, .int y]) (rest := []) ⟨hx, hb, hml, hown, hts⟩ (k_X3_isRange l D T x y ) (va_cwS 2 hts gX3_add_X3_isRange rfl rfl rfl (by decide +kernel) ⟨Nat.le_of_ble_eq_true rfl, Nat.le_of_ble_eq_true rfl⟩) (pre_S (Φ := fun X => True) hK trivial) rfl rfl hl.1 rfl (lv_room (Nat.le_of_ble_eq_true rfl)) dX3_add_9 ⟨Nat.le_of_ble_eq_true rfl, Nat.le_of_ble_eq_true rfl⟩)) (fun r_2 hr_2 => ?_)
    subst hr_2
    refine lv_if_ne (tgt := 17) hx hb dX3_add_12 (by decide) (fun c_2 => ?_) (fun c_2 => ?_)
    · skip
      have c_2 : (decide (¬ x < 0 ∧ x < nI 4096 ∧ ¬ y < 0 ∧ y < nI 4096 ∧ x ≤ y)) = true := b2i_n0.mp c_2
      have c_2 : ¬ x < 0 ∧ x < nI 4096 ∧ ¬ y < 0 ∧ y < nI 4096 ∧ x ≤ y := of_decide_eq_true c_2
      obtain ⟨sN, hsN, rfl⟩ := okX (N := 6) (by decide) c_1
      obtain ⟨hr1, hr2, hr3, hr4, hr5⟩ := c_2
      obtain ⟨fN, hfN, rfl⟩ := okX (N := 4096) (by decide) ⟨hr1, hr2⟩
      obtain ⟨tN, htN, rfl⟩ := okX (N := 4096) (by decide) ⟨hr3, hr4⟩
      have hft : fN ≤ tN := (nI_leI (by omega) (by omega)).mp hr5
      have hok : ok6 (nI sN) ∧ okR (nI fN) (nI tN) := ⟨okN hsN (by decide), (okN hfN (by decide)).1, (okN hfN (by decide)).2, (okN htN (by decide)).1, (okN htN (by decide)).2, hr5⟩
      refine lv_aload_n hx hb dX3_add_17 rfl (lv_at hl 0 rfl) ?_
      refine va_callr (va_runV (As := []) (rest := []) ⟨hx, hb, hml, hown, hts⟩ (k_X3_keepState l D T A fi.2.2.1 fi.2.2.2.1 fi.2.2.2.2 sc W0 me co (by omega)) (cwV 0 hts gX3_add_X3_keepState rfl rfl rfl (by decide +kernel) ⟨Nat.le_of_ble_eq_true rfl, Nat.le_of_ble_eq_true rfl⟩) (pre_V (Φ := fun X => PSr D T X A fi.2.2.1 fi.2.2.2.1 fi.2.2.2.2 sc W0 me co) hK (hP.2.1) rfl hP) rfl rfl hl.1 rfl (lv_room (Nat.le_of_ble_eq_true rfl)) dX3_add_18 ⟨Nat.le_of_ble_eq_true rfl, Nat.le_of_ble_eq_true rfl⟩) hS (fun q _ h => by obtain ⟨i, h1, h2⟩ := h; rw [h2]; exact hSx i h1) (fun q h => by obtain ⟨i, h1, h2⟩ := h; rw [h2]; exact hSx i h1) (fun u_1 r_3 t H_1 locs ht hvm hw hB hz hk hS => ?_)
      rw [ht] at hB
      try dsimp only at hw
      try dsimp only at hB
      obtain ⟨hres, hP⟩ := hB
      subst hres
      have hSy := Sx_rot hSx fi.2.2.1
      have hkp := kpt_lt (k := fi.2.2.1)
      have hNb : Num D T H_1 (slA (rotA A fi.2.2.1) (kpt fi.2.2.1) (4 + 2 * sN)) (slA (rotA A fi.2.2.1) (kpt fi.2.2.1) (5 + 2 * sN)) (W0 0 sN) := by have h := (hP.2.2.2.2.2 (kpt fi.2.2.1) (by omega)).2.2.2.2 sN hsN; rw [rotW_k] at h; exact h
      have hNu : Num D T H_1 (slA (rotA A fi.2.2.1) 0 (4 + 2 * sN)) (slA (rotA A fi.2.2.1) 0 (5 + 2 * sN)) (W0 0 sN) := by have h := (hP.2.2.2.2.2 0 (by omega)).2.2.2.2 sN hsN; rw [rotW_0] at h; exact h
      refine r_getN (C := RX2) (Tb := TX2) (N := 3) (host := "PieceSets") hx hb hts in_wsX20 hown hK ((hP.2.2.2.2.2 (kpt fi.2.2.1) (by omega)).1) rfl 0 (by decide) (hK.2.f (args := ([.ref (A 0), .int (nI sN), .int (nI fN), .int (nI tN)] : List Value).toArray) 3 rfl) rfl (v := .ref (slA (rotA A fi.2.2.1) (kpt fi.2.2.1) 1)) rfl dX3_add_21 ?_
      refine lv_iload_n hx hb dX3_add_24 rfl (lv_at hl 1 rfl) ?_
      refine r_nald hx hb hK ((hP.2.2.2.2.2 (kpt fi.2.2.1) (by omega)).2.1) (i := sN) (by omega) (by decide) (q := (slA (rotA A fi.2.2.1) (kpt fi.2.2.1) (4 + 2 * sN))) (rfl) dX3_add_25 ?_
      refine lv_astore (lv' := [(4, .ref (slA (rotA A fi.2.2.1) (kpt fi.2.2.1) (4 + 2 * sN))), (0, .ref (A 0)), (1, .int (nI sN)), (2, .int (nI fN)), (3, .int (nI tN))]) hx hb dX3_add_26 hl (by decide) rfl (fun ls hl => ?_)
      refine lv_aload_n hx hb dX3_add_28 rfl (lv_at hl 1 rfl) ?_
      refine r_get (C := RX3) (Tb := TX3) (N := 5) hx hb hts in_wsX30 hown hK (hP.2.1) rfl 0 (by decide) (hts (.fieldLink RX3 10 "PieceSets" "now" "LPieceSets$State;") (by decide +kernel)) rfl (v := .ref (slA (rotA A fi.2.2.1) 0 0)) rfl dX3_add_29 ?_
      refine r_getN (C := RX2) (Tb := TX2) (N := 3) (host := "PieceSets") hx hb hts in_wsX20 hown hK ((hP.2.2.2.2.2 0 (by omega)).1) rfl 0 (by decide) (hK.2.f (args := ([.ref (A 0), .int (nI sN), .int (nI fN), .int (nI tN)] : List Value).toArray) 3 rfl) rfl (v := .ref (slA (rotA A fi.2.2.1) 0 1)) rfl dX3_add_32 ?_
      refine lv_iload_n hx hb dX3_add_35 rfl (lv_at hl 2 rfl) ?_
      refine r_nald hx hb hK ((hP.2.2.2.2.2 0 (by omega)).2.1) (i := sN) (by omega) (by decide) (q := (slA (rotA A fi.2.2.1) 0 (4 + 2 * sN))) (rfl) dX3_add_36 ?_
      refine lv_astore (lv' := [(5, .ref (slA (rotA A fi.2.2.1) 0 (4 + 2 * sN))), (4, .ref (slA (rotA A fi.2.2.1) (kpt fi.2.2.1) (4 + 2 * sN))), (0, .ref (A 0)), (1, .int (nI sN)), (2, .int (nI fN)), (3, .int (nI tN))]) hx hb dX3_add_37 hl (by decide) rfl (fun ls hl => ?_)
      refine lv_aload hx hb dX3_add_39 (lv_at hl 0 rfl) ?_
      refine lv_iload_n hx hb dX3_add_41 rfl (lv_at hl 4 rfl) ?_
      refine lv_iload_n hx hb dX3_add_42 rfl (lv_at hl 5 rfl) ?_
      refine va_callv (va_runVN (As := [.int (nI fN), .int (nI tN)]) (rest := []) ⟨hx, hb, hml, hown, hts⟩ (k_X1_includeAll l D T (slA (rotA A fi.2.2.1) 0 (4 + 2 * sN)) (slA (rotA A fi.2.2.1) 0 (5 + 2 * sN)) (W0 0 sN) (nI fN) (nI tN) ) (⟨va_cnB 2 hts ggX3_add_X1_includeAll rfl rfl rfl (hK.2.m (args := ([.ref (A 0), .int (nI sN), .int (nI fN), .int (nI tN)] : List Value).toArray) 11 rfl) (hts (.initialized RX1) (by decide +kernel)) (by decide +kernel) ⟨Nat.le_of_ble_eq_true rfl, Nat.le_of_ble_eq_true rfl⟩, hts (.instanceMethod yX1_includeAll) (by decide +kernel), hts (.selects RX1 yX1_includeAll yX1_includeAll) (by decide +kernel)⟩) (pre_V (Φ := fun X => Num D T X (slA (rotA A fi.2.2.1) 0 (4 + 2 * sN)) (slA (rotA A fi.2.2.1) 0 (5 + 2 * sN)) (W0 0 sN)) hK (hNu.1) rfl hNu) rfl rfl hl.1 rfl (lv_room (Nat.le_of_ble_eq_true rfl)) dX3_add_43 ⟨Nat.le_of_ble_eq_true rfl, Nat.le_of_ble_eq_true rfl⟩) hS (fun q _ h => by rw [h]; exact hSy (6 + 16 * 0 + (5 + 2 * sN)) (by omega)) (fun q h => by rw [h]; exact hSy (6 + 16 * 0 + (5 + 2 * sN)) (by omega)) (fun u_2 t H_2 locs ht hvm hw hB hz hk hS => ?_)
      rw [ht] at hB
      try dsimp only at hw
      try dsimp only at hB
      have hbits : Eq4 (bitL u_2) (addB (bitL (W0 0 sN)) fN tN) := fun z hz => (hw z hz).trans (by rw [inr_n (by omega) (by omega) (by omega)]; rfl)
      have hF9 : Fr _ _ _ := hk
      have hNb := hF9.num hNb (fun z => absurd (slA_inj hP.1 (by omega) (by omega) (by omega) (by omega) z) (by omega)) (fun z => absurd (slA_inj hP.1 (by omega) (by omega) (by omega) (by omega) z) (by omega))
      have hNu := hB
      have hP := hP.setW (n := 0) (s := sN) (by decide) hsN hB hF9
      refine lv_aload_n hx hb dX3_add_46 rfl (lv_at hl 2 rfl) ?_
      refine r_get (C := RX3) (Tb := TX3) (N := 5) hx hb hts in_wsX30 hown hK (hP.2.1) rfl 0 (by decide) (hts (.fieldLink RX3 10 "PieceSets" "now" "LPieceSets$State;") (by decide +kernel)) rfl (v := .ref (slA (rotA A fi.2.2.1) 0 0)) rfl dX3_add_47 ?_
      refine lv_aload hx hb dX3_add_50 (lv_at hl 1 rfl) ?_
      refine lv_aload hx hb dX3_add_52 (lv_at hl 0 rfl) ?_
      refine va_callv (va_runVN (As := [.ref (slA (rotA A fi.2.2.1) (kpt fi.2.2.1) (4 + 2 * sN)), .ref (slA (rotA A fi.2.2.1) 0 (4 + 2 * sN))]) (rest := []) ⟨hx, hb, hml, hown, hts⟩ (k_X2_countConversions l D T (slA (rotA A fi.2.2.1) 0 0) (slA (rotA A fi.2.2.1) 0 1) (slA (rotA A fi.2.2.1) 0 2) (slA (rotA A fi.2.2.1) 0 3) ((rotW co fi.2.2.1) 0) (slA (rotA A fi.2.2.1) (kpt fi.2.2.1) (4 + 2 * sN)) (slA (rotA A fi.2.2.1) (kpt fi.2.2.1) (5 + 2 * sN)) (W0 0 sN) (slA (rotA A fi.2.2.1) 0 (4 + 2 * sN)) (slA (rotA A fi.2.2.1) 0 (5 + 2 * sN)) u_2 ) (⟨va_cnB 2 hts ggX3_add_X2_countConversions rfl rfl rfl (hK.2.m (args := ([.ref (A 0), .int (nI sN), .int (nI fN), .int (nI tN)] : List Value).toArray) 12 rfl) (hts (.initialized RX2) (by decide +kernel)) (by decide +kernel) ⟨Nat.le_of_ble_eq_true rfl, Nat.le_of_ble_eq_true rfl⟩, hts (.instanceMethod yX2_countConversions) (by decide +kernel), hts (.selects RX2 yX2_countConversions yX2_countConversions) (by decide +kernel)⟩) (pre_V (Φ := fun X => va_at D vwCl ((slA (rotA A fi.2.2.1) 0 0), .inr (2, [.ref (slA (rotA A fi.2.2.1) 0 1), .ref (slA (rotA A fi.2.2.1) 0 2), .ref (slA (rotA A fi.2.2.1) 0 3)])) X ∧ va_at D vwCl ((slA (rotA A fi.2.2.1) 0 3), eI T 9 ((rotW co fi.2.2.1) 0)) X ∧ Num D T X (slA (rotA A fi.2.2.1) (kpt fi.2.2.1) (4 + 2 * sN)) (slA (rotA A fi.2.2.1) (kpt fi.2.2.1) (5 + 2 * sN)) (W0 0 sN) ∧ Num D T X (slA (rotA A fi.2.2.1) 0 (4 + 2 * sN)) (slA (rotA A fi.2.2.1) 0 (5 + 2 * sN)) u_2) hK ((hP.2.2.2.2.2 0 (by omega)).1) rfl ⟨(hP.2.2.2.2.2 0 (by omega)).1, (hP.2.2.2.2.2 0 (by omega)).2.2.2.1, hNb, hNu⟩) rfl rfl hl.1 rfl (lv_room (Nat.le_of_ble_eq_true rfl)) dX3_add_54 ⟨Nat.le_of_ble_eq_true rfl, Nat.le_of_ble_eq_true rfl⟩) hS (fun q _ h => by rw [h]; exact hSy (6 + 16 * 0 + 3) (by omega)) (fun q h => by rw [h]; exact hSy (6 + 16 * 0 + 3) (by omega)) (fun u_3 t H_3 locs ht hvm hw hB hz hk hS => ?_)
      rw [ht] at hB
      try dsimp only at hw
      try dsimp only at hB
      have hF9 : Fr _ _ _ := hk
      have hNb := hF9.num hNb (fun z => absurd (slA_inj hP.1 (by omega) (by omega) (by omega) (by omega) z) (by omega)) (fun z => absurd (slA_inj hP.1 (by omega) (by omega) (by omega) (by omega) z) (by omega))
      have hNu := hF9.num hNu (fun z => absurd (slA_inj hP.1 (by omega) (by omega) (by omega) (by omega) z) (by omega)) (fun z => absurd (slA_inj hP.1 (by omega) (by omega) (by omega) (by omega) z) (by omega))
      have hP := hP.setC (n := 0) (by decide) hB hF9
      refine lv_aload hx hb dX3_add_57 (lv_at hl 0 rfl) ?_
      refine vp_callSi (va_Run.run (va_runVN (As := []) (rest := []) ⟨hx, hb, hml, hown, hts⟩ (k_X1_count l D T (slA (rotA A fi.2.2.1) 0 (4 + 2 * sN)) (slA (rotA A fi.2.2.1) 0 (5 + 2 * sN)) u_2 ) (⟨va_cnB 0 hts ggX3_add_X1_count rfl rfl rfl (hK.2.m (args := ([.ref (A 0), .int (nI sN), .int (nI fN), .int (nI tN)] : List Value).toArray) 15 rfl) (hts (.initialized RX1) (by decide +kernel)) (by decide +kernel) ⟨Nat.le_of_ble_eq_true rfl, Nat.le_of_ble_eq_true rfl⟩, hts (.instanceMethod yX1_count) (by decide +kernel), hts (.selects RX1 yX1_count yX1_count) (by decide +kernel)⟩) (pre_V (Φ := fun X => Num D T X (slA (rotA A fi.2.2.1) 0 (4 + 2 * sN)) (slA (rotA A fi.2.2.1) 0 (5 + 2 * sN)) u_2) hK (hNu.1) rfl hNu) rfl rfl hl.1 rfl (lv_room (Nat.le_of_ble_eq_true rfl)) dX3_add_59 ⟨Nat.le_of_ble_eq_true rfl, Nat.le_of_ble_eq_true rfl⟩)) (fun r_6 hr_6 => ?_)
      subst hr_6
      refine lv_aload hx hb dX3_add_62 (lv_at hl 1 rfl) ?_
      refine vp_callSi (va_Run.run (va_runVN (As := []) (rest := [.int (nI (ct (bitL u_2) 0 4096))]) ⟨hx, hb, hml, hown, hts⟩ (k_X1_count l D T (slA (rotA A fi.2.2.1) (kpt fi.2.2.1) (4 + 2 * sN)) (slA (rotA A fi.2.2.1) (kpt fi.2.2.1) (5 + 2 * sN)) (W0 0 sN) ) (⟨va_cnB 0 hts ggX3_add_X1_count rfl rfl rfl (hK.2.m (args := ([.ref (A 0), .int (nI sN), .int (nI fN), .int (nI tN)] : List Value).toArray) 15 rfl) (hts (.initialized RX1) (by decide +kernel)) (by decide +kernel) ⟨Nat.le_of_ble_eq_true rfl, Nat.le_of_ble_eq_true rfl⟩, hts (.instanceMethod yX1_count) (by decide +kernel), hts (.selects RX1 yX1_count yX1_count) (by decide +kernel)⟩) (pre_V (Φ := fun X => Num D T X (slA (rotA A fi.2.2.1) (kpt fi.2.2.1) (4 + 2 * sN)) (slA (rotA A fi.2.2.1) (kpt fi.2.2.1) (5 + 2 * sN)) (W0 0 sN)) hK (hNb.1) rfl hNb) rfl rfl hl.1 rfl (lv_room (Nat.le_of_ble_eq_true rfl)) dX3_add_64 ⟨Nat.le_of_ble_eq_true rfl, Nat.le_of_ble_eq_true rfl⟩)) (fun r_7 hr_7 => ?_)
      subst hr_7
      refine lv_isub hx hb dX3_add_67 ?_
      subst hQ
      have hfin : PSE D T H_3 (rotA A fi.2.2.1) Sx (addN fi (nI sN) (nI fN) (nI tN)) := by
        unfold addN
        rw [if_pos hok, cl_n (by omega), cl_n (by omega), cl_n (by omega)]
        refine PSE.mk hSx hrb hbl hk5 hR0 hRh hP (fun n h => up_n h) (fun n _ => rfl) (fun n h => up_n h) ?_
        rw [up_0, up_0, rotW_0, rotW_0, rotW_0]
        exact act_rep hR0 hsN (fun z hz => (hbits z hz).trans (by unfold addB; rw [hR0.1 sN hsN z hz]))
      have hcb := ct_cong (p := bitL (W0 0 sN)) (q := fi.1.1 sN) (a := fN) (n := tN - fN + 1) (fun z _ hz => hR0.1 sN hsN z (by omega))
      exact W.iret (v := ((nI (ct (bitL u_2) 0 4096)) - (nI (ct (bitL (W0 0 sN)) 0 4096)))) hx hb hr (fun t ht hW => ⟨⟨((nI (ct (bitL u_2) 0 4096)) - (nI (ct (bitL (W0 0 sN)) 0 4096))), (), rfl, (by unfold addR; rw [if_pos hok, cl_n (by omega), cl_n (by omega), cl_n (by omega), ← hcb]; have h9 := cnt_add hft htN hbits; have h8 := ct_le (bitL u_2) 0 4096; rw [pk_sub (by omega)]; congr 1; omega), by have h9 := exB (A := A) (rotA_lo A fi.2.2.1 (j := 0) (by decide)) hfin; rw [← ht] at h9; exact h9⟩, hS.F ht⟩) hS.2.2 dX3_add_68
    · skip
      have c_2 : (decide (¬ x < 0 ∧ x < nI 4096 ∧ ¬ y < 0 ∧ y < nI 4096 ∧ x ≤ y)) = false := b2i_0.mp c_2
      have c_2 : ¬ (¬ x < 0 ∧ x < nI 4096 ∧ ¬ y < 0 ∧ y < nI 4096 ∧ x ≤ y) := of_decide_eq_false c_2
      refine lv_iconst (v := (-1)) hx hb dX3_add_15 (by decide) ?_
      subst hQ
      have hfin : PSE D T s.heap A Sx (addN fi ss x y) := by unfold addN; rw [if_neg (fun z => c_2 z.2)]; exact hH
      exact W.iret (v := (-1)) hx hb hr (fun t ht hW => ⟨⟨(-1), (), rfl, ((if_neg (fun z => c_2 z.2)).symm), by have h9 := exB (A := A) rfl hfin; rw [← ht] at h9; exact h9⟩, hS.F ht⟩) hS.2.2 dX3_add_16
set_option maxHeartbeats 4000000 in
set_option maxRecDepth 100000 in
theorem k_X3_remove (l : Launch) (D : va_G) (T : Nat → ClassId) (A : Nat → Nat) (Sx : Nat → Prop) (fi : FS) (ss : Int32) (x : Int32) (y : Int32) : Met l yX3_remove wsX3_remove ({ frames := 4, cells := 0, slots := 0, locals := 125 }) (va_Pc [.ref (A 0), .int ss, .int x, .int y] (fun U => KS D T U ∧ PSE D T U.heap A Sx fi)) (va_Qi (fun (r : Int32) (u : Unit) => r = (remR fi ss x y)) (fun u t => ∃ B, B 0 = A 0 ∧ PSE D T t.heap B Sx (remN fi ss x y)) (Sx)) 0 0 (Sx) := by
  refine Met.ofW (cc := cX3_remove) (maxL := 6) (ret := (some .int)) (by decide) rfl ?_
  intro pg ev s m args below meth c s₁ B hml hv
  obtain ⟨rfl, hK, hH⟩ := hv
  have hx := B.exec
  have hb := B.bytes
  have hr := B.returns
  have hts := atoms_spec (ws := wsX3_remove) B.pre
  have hown : s.vm.findClass RX3 = some m.cls := findClass_of_methodNamed B.named
  have hlocks := B.notSynchronized
  have in_wsX20 : ∀ w ∈ wsX20, w ∈ wsX3_remove := fun w h => List.mem_cons_of_mem _ (List.mem_append_left _ (List.mem_append_left _ (List.mem_append_right _ h)))
  have in_wsX30 : ∀ w ∈ wsX30, w ∈ wsX3_remove := fun w h => List.mem_cons_of_mem _ (List.mem_append_left _ (List.mem_append_right _ h))
  have in_wsX10 : ∀ w ∈ wsX10, w ∈ wsX3_remove := fun w h => List.mem_cons_of_mem _ (List.mem_append_right _ h)
  have hS : va_S (Sx) s.heap s.heap [] := va_S.rf
  have hl := lv_entry ([.ref (A 0), .int ss, .int x, .int y]) (n := 6) (Nat.le_of_ble_eq_true rfl)
  rw [lg_entry_eq]
  generalize (lg_sl ([.ref (A 0), .int ss, .int x, .int y]) ++ List.replicate (6 - (lg_sl ([.ref (A 0), .int ss, .int x, .int y])).length) Slot.unset).toArray = ls at hl ⊢
  have hl : lv_has ls 6 [(0, .ref (A 0)), (1, .int ss), (2, .int x), (3, .int y)] := hl
  refine W_gen (fun Q hQ => ?_)
  obtain ⟨W0, me, co, sc, hP, hSx, hrb, hbl, hk5, hR0, hRh⟩ := id hH
  refine lv_iload_n hx hb dX3_remove_0 rfl (lv_at hl 1 rfl) ?_
  refine vp_callSi (va_Run.run (va_runS (As := [.int ss]) (rest := []) ⟨hx, hb, hml, hown, hts⟩ (k_X3_isSet l D T ss ) (va_cwS 1 hts gX3_remove_X3_isSet rfl rfl rfl (by decide +kernel) ⟨Nat.le_of_ble_eq_true rfl, Nat.le_of_ble_eq_true rfl⟩) (pre_S (Φ := fun X => True) hK trivial) rfl rfl hl.1 rfl (lv_room (Nat.le_of_ble_eq_true rfl)) dX3_remove_1 ⟨Nat.le_of_ble_eq_true rfl, Nat.le_of_ble_eq_true rfl⟩)) (fun r_1 hr_1 => ?_)
  subst hr_1
  refine lv_if_eq (tgt := 15) hx hb dX3_remove_4 (by decide) (fun c_1 => ?_) (fun c_1 => ?_)
  · skip
    have c_1 : (decide (¬ ss < 0 ∧ ss < nI 6)) = false := b2i_0.mp c_1
    have c_1 : ¬ (¬ ss < 0 ∧ ss < nI 6) := of_decide_eq_false c_1
    refine lv_iconst (v := (-1)) hx hb dX3_remove_15 (by decide) ?_
    subst hQ
    have hfin : PSE D T s.heap A Sx (remN fi ss x y) := by unfold remN; rw [if_neg (fun z => c_1 z.1)]; exact hH
    exact W.iret (v := (-1)) hx hb hr (fun t ht hW => ⟨⟨(-1), (), rfl, ((if_neg (fun z => c_1 z.1)).symm), by have h9 := exB (A := A) rfl hfin; rw [← ht] at h9; exact h9⟩, hS.F ht⟩) hS.2.2 dX3_remove_16
  · skip
    have c_1 : (decide (¬ ss < 0 ∧ ss < nI 6)) = true := b2i_n0.mp c_1
    have c_1 : ¬ ss < 0 ∧ ss < nI 6 := of_decide_eq_true c_1
    refine lv_iload_n hx hb dX3_remove_7 rfl (lv_at hl 2 rfl) ?_
    refine lv_iload_n hx hb dX3_remove_8 rfl (lv_at hl 3 rfl) ?_
    refine vp_callSi (va_Run.run (va_runS (As := [.int x, .int y]) (rest := []) ⟨hx, hb, hml, hown, hts⟩ (k_X3_isRange l D T x y ) (va_cwS 2 hts gX3_remove_X3_isRange rfl rfl rfl (by decide +kernel) ⟨Nat.le_of_ble_eq_true rfl, Nat.le_of_ble_eq_true rfl⟩) (pre_S (Φ := fun X => True) hK trivial) rfl rfl hl.1 rfl (lv_room (Nat.le_of_ble_eq_true rfl)) dX3_remove_9 ⟨Nat.le_of_ble_eq_true rfl, Nat.le_of_ble_eq_true rfl⟩)) (fun r_2 hr_2 => ?_)
    subst hr_2
    refine lv_if_ne (tgt := 17) hx hb dX3_remove_12 (by decide) (fun c_2 => ?_) (fun c_2 => ?_)
    · skip
      have c_2 : (decide (¬ x < 0 ∧ x < nI 4096 ∧ ¬ y < 0 ∧ y < nI 4096 ∧ x ≤ y)) = true := b2i_n0.mp c_2
      have c_2 : ¬ x < 0 ∧ x < nI 4096 ∧ ¬ y < 0 ∧ y < nI 4096 ∧ x ≤ y := of_decide_eq_true c_2
      obtain ⟨sN, hsN, rfl⟩ := okX (N := 6) (by decide) c_1
      obtain ⟨hr1, hr2, hr3, hr4, hr5⟩ := c_2
      obtain ⟨fN, hfN, rfl⟩ := okX (N := 4096) (by decide) ⟨hr1, hr2⟩
      obtain ⟨tN, htN, rfl⟩ := okX (N := 4096) (by decide) ⟨hr3, hr4⟩
      have hft : fN ≤ tN := (nI_leI (by omega) (by omega)).mp hr5
      have hok : ok6 (nI sN) ∧ okR (nI fN) (nI tN) := ⟨okN hsN (by decide), (okN hfN (by decide)).1, (okN hfN (by decide)).2, (okN htN (by decide)).1, (okN htN (by decide)).2, hr5⟩
      refine lv_aload_n hx hb dX3_remove_17 rfl (lv_at hl 0 rfl) ?_
      refine va_callr (va_runV (As := []) (rest := []) ⟨hx, hb, hml, hown, hts⟩ (k_X3_keepState l D T A fi.2.2.1 fi.2.2.2.1 fi.2.2.2.2 sc W0 me co (by omega)) (cwV 0 hts gX3_remove_X3_keepState rfl rfl rfl (by decide +kernel) ⟨Nat.le_of_ble_eq_true rfl, Nat.le_of_ble_eq_true rfl⟩) (pre_V (Φ := fun X => PSr D T X A fi.2.2.1 fi.2.2.2.1 fi.2.2.2.2 sc W0 me co) hK (hP.2.1) rfl hP) rfl rfl hl.1 rfl (lv_room (Nat.le_of_ble_eq_true rfl)) dX3_remove_18 ⟨Nat.le_of_ble_eq_true rfl, Nat.le_of_ble_eq_true rfl⟩) hS (fun q _ h => by obtain ⟨i, h1, h2⟩ := h; rw [h2]; exact hSx i h1) (fun q h => by obtain ⟨i, h1, h2⟩ := h; rw [h2]; exact hSx i h1) (fun u_1 r_3 t H_1 locs ht hvm hw hB hz hk hS => ?_)
      rw [ht] at hB
      try dsimp only at hw
      try dsimp only at hB
      obtain ⟨hres, hP⟩ := hB
      subst hres
      have hSy := Sx_rot hSx fi.2.2.1
      have hkp := kpt_lt (k := fi.2.2.1)
      have hNb : Num D T H_1 (slA (rotA A fi.2.2.1) (kpt fi.2.2.1) (4 + 2 * sN)) (slA (rotA A fi.2.2.1) (kpt fi.2.2.1) (5 + 2 * sN)) (W0 0 sN) := by have h := (hP.2.2.2.2.2 (kpt fi.2.2.1) (by omega)).2.2.2.2 sN hsN; rw [rotW_k] at h; exact h
      have hNu : Num D T H_1 (slA (rotA A fi.2.2.1) 0 (4 + 2 * sN)) (slA (rotA A fi.2.2.1) 0 (5 + 2 * sN)) (W0 0 sN) := by have h := (hP.2.2.2.2.2 0 (by omega)).2.2.2.2 sN hsN; rw [rotW_0] at h; exact h
      refine r_getN (C := RX2) (Tb := TX2) (N := 3) (host := "PieceSets") hx hb hts in_wsX20 hown hK ((hP.2.2.2.2.2 (kpt fi.2.2.1) (by omega)).1) rfl 0 (by decide) (hK.2.f (args := ([.ref (A 0), .int (nI sN), .int (nI fN), .int (nI tN)] : List Value).toArray) 3 rfl) rfl (v := .ref (slA (rotA A fi.2.2.1) (kpt fi.2.2.1) 1)) rfl dX3_remove_21 ?_
      refine lv_iload_n hx hb dX3_remove_24 rfl (lv_at hl 1 rfl) ?_
      refine r_nald hx hb hK ((hP.2.2.2.2.2 (kpt fi.2.2.1) (by omega)).2.1) (i := sN) (by omega) (by decide) (q := (slA (rotA A fi.2.2.1) (kpt fi.2.2.1) (4 + 2 * sN))) (rfl) dX3_remove_25 ?_
      refine lv_astore (lv' := [(4, .ref (slA (rotA A fi.2.2.1) (kpt fi.2.2.1) (4 + 2 * sN))), (0, .ref (A 0)), (1, .int (nI sN)), (2, .int (nI fN)), (3, .int (nI tN))]) hx hb dX3_remove_26 hl (by decide) rfl (fun ls hl => ?_)
      refine lv_aload_n hx hb dX3_remove_28 rfl (lv_at hl 1 rfl) ?_
      refine r_get (C := RX3) (Tb := TX3) (N := 5) hx hb hts in_wsX30 hown hK (hP.2.1) rfl 0 (by decide) (hts (.fieldLink RX3 10 "PieceSets" "now" "LPieceSets$State;") (by decide +kernel)) rfl (v := .ref (slA (rotA A fi.2.2.1) 0 0)) rfl dX3_remove_29 ?_
      refine r_getN (C := RX2) (Tb := TX2) (N := 3) (host := "PieceSets") hx hb hts in_wsX20 hown hK ((hP.2.2.2.2.2 0 (by omega)).1) rfl 0 (by decide) (hK.2.f (args := ([.ref (A 0), .int (nI sN), .int (nI fN), .int (nI tN)] : List Value).toArray) 3 rfl) rfl (v := .ref (slA (rotA A fi.2.2.1) 0 1)) rfl dX3_remove_32 ?_
      refine lv_iload_n hx hb dX3_remove_35 rfl (lv_at hl 2 rfl) ?_
      refine r_nald hx hb hK ((hP.2.2.2.2.2 0 (by omega)).2.1) (i := sN) (by omega) (by decide) (q := (slA (rotA A fi.2.2.1) 0 (4 + 2 * sN))) (rfl) dX3_remove_36 ?_
      refine lv_astore (lv' := [(5, .ref (slA (rotA A fi.2.2.1) 0 (4 + 2 * sN))), (4, .ref (slA (rotA A fi.2.2.1) (kpt fi.2.2.1) (4 + 2 * sN))), (0, .ref (A 0)), (1, .int (nI sN)), (2, .int (nI fN)), (3, .int (nI tN))]) hx hb dX3_remove_37 hl (by decide) rfl (fun ls hl => ?_)
      refine lv_aload hx hb dX3_remove_39 (lv_at hl 0 rfl) ?_
      refine lv_iload_n hx hb dX3_remove_41 rfl (lv_at hl 4 rfl) ?_
      refine lv_iload_n hx hb dX3_remove_42 rfl (lv_at hl 5 rfl) ?_
      refine va_callv (va_runVN (As := [.int (nI fN), .int (nI tN)]) (rest := []) ⟨hx, hb, hml, hown, hts⟩ (k_X1_excludeAll l D T (slA (rotA A fi.2.2.1) 0 (4 + 2 * sN)) (slA (rotA A fi.2.2.1) 0 (5 + 2 * sN)) (W0 0 sN) (nI fN) (nI tN) ) (⟨va_cnB 2 hts ggX3_remove_X1_excludeAll rfl rfl rfl (hK.2.m (args := ([.ref (A 0), .int (nI sN), .int (nI fN), .int (nI tN)] : List Value).toArray) 16 rfl) (hts (.initialized RX1) (by decide +kernel)) (by decide +kernel) ⟨Nat.le_of_ble_eq_true rfl, Nat.le_of_ble_eq_true rfl⟩, hts (.instanceMethod yX1_excludeAll) (by decide +kernel), hts (.selects RX1 yX1_excludeAll yX1_excludeAll) (by decide +kernel)⟩) (pre_V (Φ := fun X => Num D T X (slA (rotA A fi.2.2.1) 0 (4 + 2 * sN)) (slA (rotA A fi.2.2.1) 0 (5 + 2 * sN)) (W0 0 sN)) hK (hNu.1) rfl hNu) rfl rfl hl.1 rfl (lv_room (Nat.le_of_ble_eq_true rfl)) dX3_remove_43 ⟨Nat.le_of_ble_eq_true rfl, Nat.le_of_ble_eq_true rfl⟩) hS (fun q _ h => by rw [h]; exact hSy (6 + 16 * 0 + (5 + 2 * sN)) (by omega)) (fun q h => by rw [h]; exact hSy (6 + 16 * 0 + (5 + 2 * sN)) (by omega)) (fun u_2 t H_2 locs ht hvm hw hB hz hk hS => ?_)
      rw [ht] at hB
      try dsimp only at hw
      try dsimp only at hB
      have hbits : Eq4 (bitL u_2) (remB (bitL (W0 0 sN)) fN tN) := fun z hz => (hw z hz).trans (by rw [inr_n (by omega) (by omega) (by omega)]; rfl)
      have hF9 : Fr _ _ _ := hk
      have hNb := hF9.num hNb (fun z => absurd (slA_inj hP.1 (by omega) (by omega) (by omega) (by omega) z) (by omega)) (fun z => absurd (slA_inj hP.1 (by omega) (by omega) (by omega) (by omega) z) (by omega))
      have hNu := hB
      have hP := hP.setW (n := 0) (s := sN) (by decide) hsN hB hF9
      refine lv_aload_n hx hb dX3_remove_46 rfl (lv_at hl 2 rfl) ?_
      refine r_get (C := RX3) (Tb := TX3) (N := 5) hx hb hts in_wsX30 hown hK (hP.2.1) rfl 0 (by decide) (hts (.fieldLink RX3 10 "PieceSets" "now" "LPieceSets$State;") (by decide +kernel)) rfl (v := .ref (slA (rotA A fi.2.2.1) 0 0)) rfl dX3_remove_47 ?_
      refine lv_aload hx hb dX3_remove_50 (lv_at hl 1 rfl) ?_
      refine lv_aload hx hb dX3_remove_52 (lv_at hl 0 rfl) ?_
      refine va_callv (va_runVN (As := [.ref (slA (rotA A fi.2.2.1) (kpt fi.2.2.1) (4 + 2 * sN)), .ref (slA (rotA A fi.2.2.1) 0 (4 + 2 * sN))]) (rest := []) ⟨hx, hb, hml, hown, hts⟩ (k_X2_countConversions l D T (slA (rotA A fi.2.2.1) 0 0) (slA (rotA A fi.2.2.1) 0 1) (slA (rotA A fi.2.2.1) 0 2) (slA (rotA A fi.2.2.1) 0 3) ((rotW co fi.2.2.1) 0) (slA (rotA A fi.2.2.1) (kpt fi.2.2.1) (4 + 2 * sN)) (slA (rotA A fi.2.2.1) (kpt fi.2.2.1) (5 + 2 * sN)) (W0 0 sN) (slA (rotA A fi.2.2.1) 0 (4 + 2 * sN)) (slA (rotA A fi.2.2.1) 0 (5 + 2 * sN)) u_2 ) (⟨va_cnB 2 hts ggX3_remove_X2_countConversions rfl rfl rfl (hK.2.m (args := ([.ref (A 0), .int (nI sN), .int (nI fN), .int (nI tN)] : List Value).toArray) 12 rfl) (hts (.initialized RX2) (by decide +kernel)) (by decide +kernel) ⟨Nat.le_of_ble_eq_true rfl, Nat.le_of_ble_eq_true rfl⟩, hts (.instanceMethod yX2_countConversions) (by decide +kernel), hts (.selects RX2 yX2_countConversions yX2_countConversions) (by decide +kernel)⟩) (pre_V (Φ := fun X => va_at D vwCl ((slA (rotA A fi.2.2.1) 0 0), .inr (2, [.ref (slA (rotA A fi.2.2.1) 0 1), .ref (slA (rotA A fi.2.2.1) 0 2), .ref (slA (rotA A fi.2.2.1) 0 3)])) X ∧ va_at D vwCl ((slA (rotA A fi.2.2.1) 0 3), eI T 9 ((rotW co fi.2.2.1) 0)) X ∧ Num D T X (slA (rotA A fi.2.2.1) (kpt fi.2.2.1) (4 + 2 * sN)) (slA (rotA A fi.2.2.1) (kpt fi.2.2.1) (5 + 2 * sN)) (W0 0 sN) ∧ Num D T X (slA (rotA A fi.2.2.1) 0 (4 + 2 * sN)) (slA (rotA A fi.2.2.1) 0 (5 + 2 * sN)) u_2) hK ((hP.2.2.2.2.2 0 (by omega)).1) rfl ⟨(hP.2.2.2.2.2 0 (by omega)).1, (hP.2.2.2.2.2 0 (by omega)).2.2.2.1, hNb, hNu⟩) rfl rfl hl.1 rfl (lv_room (Nat.le_of_ble_eq_true rfl)) dX3_remove_54 ⟨Nat.le_of_ble_eq_true rfl, Nat.le_of_ble_eq_true rfl⟩) hS (fun q _ h => by rw [h]; exact hSy (6 + 16 * 0 + 3) (by omega)) (fun q h => by rw [h]; exact hSy (6 + 16 * 0 + 3) (by omega)) (fun u_3 t H_3 locs ht hvm hw hB hz hk hS => ?_)
      rw [ht] at hB
      try dsimp only at hw
      try dsimp only at hB
      have hF9 : Fr _ _ _ := hk
      have hNb := hF9.num hNb (fun z => absurd (slA_inj hP.1 (by omega) (by omega) (by omega) (by omega) z) (by omega)) (fun z => absurd (slA_inj hP.1 (by omega) (by omega) (by omega) (by omega) z) (by omega))
      have hNu := hF9.num hNu (fun z => absurd (slA_inj hP.1 (by omega) (by omega) (by omega) (by omega) z) (by omega)) (fun z => absurd (slA_inj hP.1 (by omega) (by omega) (by omega) (by omega) z) (by omega))
      have hP := hP.setC (n := 0) (by decide) hB hF9
      refine lv_aload hx hb dX3_remove_57 (lv_at hl 1 rfl) ?_
      refine vp_callSi (va_Run.run (va_runVN (As := []) (rest := []) ⟨hx, hb, hml, hown, hts⟩ (k_X1_count l D T (slA (rotA A fi.2.2.1) (kpt fi.2.2.1) (4 + 2 * sN)) (slA (rotA A fi.2.2.1) (kpt fi.2.2.1) (5 + 2 * sN)) (W0 0 sN) ) (⟨va_cnB 0 hts ggX3_remove_X1_count rfl rfl rfl (hK.2.m (args := ([.ref (A 0), .int (nI sN), .int (nI fN), .int (nI tN)] : List Value).toArray) 15 rfl) (hts (.initialized RX1) (by decide +kernel)) (by decide +kernel) ⟨Nat.le_of_ble_eq_true rfl, Nat.le_of_ble_eq_true rfl⟩, hts (.instanceMethod yX1_count) (by decide +kernel), hts (.selects RX1 yX1_count yX1_count) (by decide +kernel)⟩) (pre_V (Φ := fun X => Num D T X (slA (rotA A fi.2.2.1) (kpt fi.2.2.1) (4 + 2 * sN)) (slA (rotA A fi.2.2.1) (kpt fi.2.2.1) (5 + 2 * sN)) (W0 0 sN)) hK (hNb.1) rfl hNb) rfl rfl hl.1 rfl (lv_room (Nat.le_of_ble_eq_true rfl)) dX3_remove_59 ⟨Nat.le_of_ble_eq_true rfl, Nat.le_of_ble_eq_true rfl⟩)) (fun r_6 hr_6 => ?_)
      subst hr_6
      refine lv_aload hx hb dX3_remove_62 (lv_at hl 0 rfl) ?_
      refine vp_callSi (va_Run.run (va_runVN (As := []) (rest := [.int (nI (ct (bitL (W0 0 sN)) 0 4096))]) ⟨hx, hb, hml, hown, hts⟩ (k_X1_count l D T (slA (rotA A fi.2.2.1) 0 (4 + 2 * sN)) (slA (rotA A fi.2.2.1) 0 (5 + 2 * sN)) u_2 ) (⟨va_cnB 0 hts ggX3_remove_X1_count rfl rfl rfl (hK.2.m (args := ([.ref (A 0), .int (nI sN), .int (nI fN), .int (nI tN)] : List Value).toArray) 15 rfl) (hts (.initialized RX1) (by decide +kernel)) (by decide +kernel) ⟨Nat.le_of_ble_eq_true rfl, Nat.le_of_ble_eq_true rfl⟩, hts (.instanceMethod yX1_count) (by decide +kernel), hts (.selects RX1 yX1_count yX1_count) (by decide +kernel)⟩) (pre_V (Φ := fun X => Num D T X (slA (rotA A fi.2.2.1) 0 (4 + 2 * sN)) (slA (rotA A fi.2.2.1) 0 (5 + 2 * sN)) u_2) hK (hNu.1) rfl hNu) rfl rfl hl.1 rfl (lv_room (Nat.le_of_ble_eq_true rfl)) dX3_remove_64 ⟨Nat.le_of_ble_eq_true rfl, Nat.le_of_ble_eq_true rfl⟩)) (fun r_7 hr_7 => ?_)
      subst hr_7
      refine lv_isub hx hb dX3_remove_67 ?_
      subst hQ
      have hfin : PSE D T H_3 (rotA A fi.2.2.1) Sx (remN fi (nI sN) (nI fN) (nI tN)) := by
        unfold remN
        rw [if_pos hok, cl_n (by omega), cl_n (by omega), cl_n (by omega)]
        refine PSE.mk hSx hrb hbl hk5 hR0 hRh hP (fun n h => up_n h) (fun n _ => rfl) (fun n h => up_n h) ?_
        rw [up_0, up_0, rotW_0, rotW_0, rotW_0]
        exact act_rep hR0 hsN (fun z hz => (hbits z hz).trans (by unfold remB; rw [hR0.1 sN hsN z hz]))
      have hcb := ct_cong (p := bitL (W0 0 sN)) (q := fi.1.1 sN) (a := fN) (n := tN - fN + 1) (fun z _ hz => hR0.1 sN hsN z (by omega))
      exact W.iret (v := ((nI (ct (bitL (W0 0 sN)) 0 4096)) - (nI (ct (bitL u_2) 0 4096)))) hx hb hr (fun t ht hW => ⟨⟨((nI (ct (bitL (W0 0 sN)) 0 4096)) - (nI (ct (bitL u_2) 0 4096))), (), rfl, (by unfold remR; rw [if_pos hok, cl_n (by omega), cl_n (by omega), cl_n (by omega), ← hcb]; have h9 := cnt_rem hft htN hbits; have h8 := ct_le (bitL (W0 0 sN)) 0 4096; rw [pk_sub (by omega)]; congr 1; omega), by have h9 := exB (A := A) (rotA_lo A fi.2.2.1 (j := 0) (by decide)) hfin; rw [← ht] at h9; exact h9⟩, hS.F ht⟩) hS.2.2 dX3_remove_68
    · skip
      have c_2 : (decide (¬ x < 0 ∧ x < nI 4096 ∧ ¬ y < 0 ∧ y < nI 4096 ∧ x ≤ y)) = false := b2i_0.mp c_2
      have c_2 : ¬ (¬ x < 0 ∧ x < nI 4096 ∧ ¬ y < 0 ∧ y < nI 4096 ∧ x ≤ y) := of_decide_eq_false c_2
      refine lv_iconst (v := (-1)) hx hb dX3_remove_15 (by decide) ?_
      subst hQ
      have hfin : PSE D T s.heap A Sx (remN fi ss x y) := by unfold remN; rw [if_neg (fun z => c_2 z.2)]; exact hH
      exact W.iret (v := (-1)) hx hb hr (fun t ht hW => ⟨⟨(-1), (), rfl, ((if_neg (fun z => c_2 z.2)).symm), by have h9 := exB (A := A) rfl hfin; rw [← ht] at h9; exact h9⟩, hS.F ht⟩) hS.2.2 dX3_remove_16
set_option maxHeartbeats 4000000 in
set_option maxRecDepth 100000 in
theorem k_X3_flip (l : Launch) (D : va_G) (T : Nat → ClassId) (A : Nat → Nat) (Sx : Nat → Prop) (fi : FS) (ss : Int32) (x : Int32) (y : Int32) : Met l yX3_flip wsX3_flip ({ frames := 4, cells := 0, slots := 0, locals := 125 }) (va_Pc [.ref (A 0), .int ss, .int x, .int y] (fun U => KS D T U ∧ PSE D T U.heap A Sx fi)) (va_Qi (fun (r : Int32) (u : Unit) => r = (addR fi ss x y)) (fun u t => ∃ B, B 0 = A 0 ∧ PSE D T t.heap B Sx (flpN fi ss x y)) (Sx)) 0 0 (Sx) := by
  refine Met.ofW (cc := cX3_flip) (maxL := 6) (ret := (some .int)) (by decide) rfl ?_
  intro pg ev s m args below meth c s₁ B hml hv
  obtain ⟨rfl, hK, hH⟩ := hv
  have hx := B.exec
  have hb := B.bytes
  have hr := B.returns
  have hts := atoms_spec (ws := wsX3_flip) B.pre
  have hown : s.vm.findClass RX3 = some m.cls := findClass_of_methodNamed B.named
  have hlocks := B.notSynchronized
  have in_wsX20 : ∀ w ∈ wsX20, w ∈ wsX3_flip := fun w h => List.mem_cons_of_mem _ (List.mem_append_left _ (List.mem_append_left _ (List.mem_append_right _ h)))
  have in_wsX30 : ∀ w ∈ wsX30, w ∈ wsX3_flip := fun w h => List.mem_cons_of_mem _ (List.mem_append_left _ (List.mem_append_right _ h))
  have in_wsX10 : ∀ w ∈ wsX10, w ∈ wsX3_flip := fun w h => List.mem_cons_of_mem _ (List.mem_append_right _ h)
  have hS : va_S (Sx) s.heap s.heap [] := va_S.rf
  have hl := lv_entry ([.ref (A 0), .int ss, .int x, .int y]) (n := 6) (Nat.le_of_ble_eq_true rfl)
  rw [lg_entry_eq]
  generalize (lg_sl ([.ref (A 0), .int ss, .int x, .int y]) ++ List.replicate (6 - (lg_sl ([.ref (A 0), .int ss, .int x, .int y])).length) Slot.unset).toArray = ls at hl ⊢
  have hl : lv_has ls 6 [(0, .ref (A 0)), (1, .int ss), (2, .int x), (3, .int y)] := hl
  refine W_gen (fun Q hQ => ?_)
  obtain ⟨W0, me, co, sc, hP, hSx, hrb, hbl, hk5, hR0, hRh⟩ := id hH
  refine lv_iload_n hx hb dX3_flip_0 rfl (lv_at hl 1 rfl) ?_
  refine vp_callSi (va_Run.run (va_runS (As := [.int ss]) (rest := []) ⟨hx, hb, hml, hown, hts⟩ (k_X3_isSet l D T ss ) (va_cwS 1 hts gX3_flip_X3_isSet rfl rfl rfl (by decide +kernel) ⟨Nat.le_of_ble_eq_true rfl, Nat.le_of_ble_eq_true rfl⟩) (pre_S (Φ := fun X => True) hK trivial) rfl rfl hl.1 rfl (lv_room (Nat.le_of_ble_eq_true rfl)) dX3_flip_1 ⟨Nat.le_of_ble_eq_true rfl, Nat.le_of_ble_eq_true rfl⟩)) (fun r_1 hr_1 => ?_)
  subst hr_1
  refine lv_if_eq (tgt := 15) hx hb dX3_flip_4 (by decide) (fun c_1 => ?_) (fun c_1 => ?_)
  · skip
    have c_1 : (decide (¬ ss < 0 ∧ ss < nI 6)) = false := b2i_0.mp c_1
    have c_1 : ¬ (¬ ss < 0 ∧ ss < nI 6) := of_decide_eq_false c_1
    refine lv_iconst (v := (-1)) hx hb dX3_flip_15 (by decide) ?_
    subst hQ
    have hfin : PSE D T s.heap A Sx (flpN fi ss x y) := by unfold flpN; rw [if_neg (fun z => c_1 z.1)]; exact hH
    exact W.iret (v := (-1)) hx hb hr (fun t ht hW => ⟨⟨(-1), (), rfl, ((if_neg (fun z => c_1 z.1)).symm), by have h9 := exB (A := A) rfl hfin; rw [← ht] at h9; exact h9⟩, hS.F ht⟩) hS.2.2 dX3_flip_16
  · skip
    have c_1 : (decide (¬ ss < 0 ∧ ss < nI 6)) = true := b2i_n0.mp c_1
    have c_1 : ¬ ss < 0 ∧ ss < nI 6 := of_decide_eq_true c_1
    refine lv_iload_n hx hb dX3_flip_7 rfl (lv_at hl 2 rfl) ?_
    refine lv_iload_n hx hb dX3_flip_8 rfl (lv_at hl 3 rfl) ?_
    refine vp_callSi (va_Run.run (va_runS (As := [.int x, .int y]) (rest := []) ⟨hx, hb, hml, hown, hts⟩ (k_X3_isRange l D T x y ) (va_cwS 2 hts gX3_flip_X3_isRange rfl rfl rfl (by decide +kernel) ⟨Nat.le_of_ble_eq_true rfl, Nat.le_of_ble_eq_true rfl⟩) (pre_S (Φ := fun X => True) hK trivial) rfl rfl hl.1 rfl (lv_room (Nat.le_of_ble_eq_true rfl)) dX3_flip_9 ⟨Nat.le_of_ble_eq_true rfl, Nat.le_of_ble_eq_true rfl⟩)) (fun r_2 hr_2 => ?_)
    subst hr_2
    refine lv_if_ne (tgt := 17) hx hb dX3_flip_12 (by decide) (fun c_2 => ?_) (fun c_2 => ?_)
    · skip
      have c_2 : (decide (¬ x < 0 ∧ x < nI 4096 ∧ ¬ y < 0 ∧ y < nI 4096 ∧ x ≤ y)) = true := b2i_n0.mp c_2
      have c_2 : ¬ x < 0 ∧ x < nI 4096 ∧ ¬ y < 0 ∧ y < nI 4096 ∧ x ≤ y := of_decide_eq_true c_2
      obtain ⟨sN, hsN, rfl⟩ := okX (N := 6) (by decide) c_1
      obtain ⟨hr1, hr2, hr3, hr4, hr5⟩ := c_2
      obtain ⟨fN, hfN, rfl⟩ := okX (N := 4096) (by decide) ⟨hr1, hr2⟩
      obtain ⟨tN, htN, rfl⟩ := okX (N := 4096) (by decide) ⟨hr3, hr4⟩
      have hft : fN ≤ tN := (nI_leI (by omega) (by omega)).mp hr5
      have hok : ok6 (nI sN) ∧ okR (nI fN) (nI tN) := ⟨okN hsN (by decide), (okN hfN (by decide)).1, (okN hfN (by decide)).2, (okN htN (by decide)).1, (okN htN (by decide)).2, hr5⟩
      refine lv_aload_n hx hb dX3_flip_17 rfl (lv_at hl 0 rfl) ?_
      refine va_callr (va_runV (As := []) (rest := []) ⟨hx, hb, hml, hown, hts⟩ (k_X3_keepState l D T A fi.2.2.1 fi.2.2.2.1 fi.2.2.2.2 sc W0 me co (by omega)) (cwV 0 hts gX3_flip_X3_keepState rfl rfl rfl (by decide +kernel) ⟨Nat.le_of_ble_eq_true rfl, Nat.le_of_ble_eq_true rfl⟩) (pre_V (Φ := fun X => PSr D T X A fi.2.2.1 fi.2.2.2.1 fi.2.2.2.2 sc W0 me co) hK (hP.2.1) rfl hP) rfl rfl hl.1 rfl (lv_room (Nat.le_of_ble_eq_true rfl)) dX3_flip_18 ⟨Nat.le_of_ble_eq_true rfl, Nat.le_of_ble_eq_true rfl⟩) hS (fun q _ h => by obtain ⟨i, h1, h2⟩ := h; rw [h2]; exact hSx i h1) (fun q h => by obtain ⟨i, h1, h2⟩ := h; rw [h2]; exact hSx i h1) (fun u_1 r_3 t H_1 locs ht hvm hw hB hz hk hS => ?_)
      rw [ht] at hB
      try dsimp only at hw
      try dsimp only at hB
      obtain ⟨hres, hP⟩ := hB
      subst hres
      have hSy := Sx_rot hSx fi.2.2.1
      have hkp := kpt_lt (k := fi.2.2.1)
      have hNb : Num D T H_1 (slA (rotA A fi.2.2.1) (kpt fi.2.2.1) (4 + 2 * sN)) (slA (rotA A fi.2.2.1) (kpt fi.2.2.1) (5 + 2 * sN)) (W0 0 sN) := by have h := (hP.2.2.2.2.2 (kpt fi.2.2.1) (by omega)).2.2.2.2 sN hsN; rw [rotW_k] at h; exact h
      have hNu : Num D T H_1 (slA (rotA A fi.2.2.1) 0 (4 + 2 * sN)) (slA (rotA A fi.2.2.1) 0 (5 + 2 * sN)) (W0 0 sN) := by have h := (hP.2.2.2.2.2 0 (by omega)).2.2.2.2 sN hsN; rw [rotW_0] at h; exact h
      refine r_getN (C := RX2) (Tb := TX2) (N := 3) (host := "PieceSets") hx hb hts in_wsX20 hown hK ((hP.2.2.2.2.2 (kpt fi.2.2.1) (by omega)).1) rfl 0 (by decide) (hK.2.f (args := ([.ref (A 0), .int (nI sN), .int (nI fN), .int (nI tN)] : List Value).toArray) 3 rfl) rfl (v := .ref (slA (rotA A fi.2.2.1) (kpt fi.2.2.1) 1)) rfl dX3_flip_21 ?_
      refine lv_iload_n hx hb dX3_flip_24 rfl (lv_at hl 1 rfl) ?_
      refine r_nald hx hb hK ((hP.2.2.2.2.2 (kpt fi.2.2.1) (by omega)).2.1) (i := sN) (by omega) (by decide) (q := (slA (rotA A fi.2.2.1) (kpt fi.2.2.1) (4 + 2 * sN))) (rfl) dX3_flip_25 ?_
      refine lv_astore (lv' := [(4, .ref (slA (rotA A fi.2.2.1) (kpt fi.2.2.1) (4 + 2 * sN))), (0, .ref (A 0)), (1, .int (nI sN)), (2, .int (nI fN)), (3, .int (nI tN))]) hx hb dX3_flip_26 hl (by decide) rfl (fun ls hl => ?_)
      refine lv_aload_n hx hb dX3_flip_28 rfl (lv_at hl 1 rfl) ?_
      refine r_get (C := RX3) (Tb := TX3) (N := 5) hx hb hts in_wsX30 hown hK (hP.2.1) rfl 0 (by decide) (hts (.fieldLink RX3 10 "PieceSets" "now" "LPieceSets$State;") (by decide +kernel)) rfl (v := .ref (slA (rotA A fi.2.2.1) 0 0)) rfl dX3_flip_29 ?_
      refine r_getN (C := RX2) (Tb := TX2) (N := 3) (host := "PieceSets") hx hb hts in_wsX20 hown hK ((hP.2.2.2.2.2 0 (by omega)).1) rfl 0 (by decide) (hK.2.f (args := ([.ref (A 0), .int (nI sN), .int (nI fN), .int (nI tN)] : List Value).toArray) 3 rfl) rfl (v := .ref (slA (rotA A fi.2.2.1) 0 1)) rfl dX3_flip_32 ?_
      refine lv_iload_n hx hb dX3_flip_35 rfl (lv_at hl 2 rfl) ?_
      refine r_nald hx hb hK ((hP.2.2.2.2.2 0 (by omega)).2.1) (i := sN) (by omega) (by decide) (q := (slA (rotA A fi.2.2.1) 0 (4 + 2 * sN))) (rfl) dX3_flip_36 ?_
      refine lv_astore (lv' := [(5, .ref (slA (rotA A fi.2.2.1) 0 (4 + 2 * sN))), (4, .ref (slA (rotA A fi.2.2.1) (kpt fi.2.2.1) (4 + 2 * sN))), (0, .ref (A 0)), (1, .int (nI sN)), (2, .int (nI fN)), (3, .int (nI tN))]) hx hb dX3_flip_37 hl (by decide) rfl (fun ls hl => ?_)
      refine lv_aload hx hb dX3_flip_39 (lv_at hl 0 rfl) ?_
      refine lv_iload_n hx hb dX3_flip_41 rfl (lv_at hl 4 rfl) ?_
      refine lv_iload_n hx hb dX3_flip_42 rfl (lv_at hl 5 rfl) ?_
      refine va_callv (va_runVN (As := [.int (nI fN), .int (nI tN)]) (rest := []) ⟨hx, hb, hml, hown, hts⟩ (k_X1_turnAll l D T (slA (rotA A fi.2.2.1) 0 (4 + 2 * sN)) (slA (rotA A fi.2.2.1) 0 (5 + 2 * sN)) (W0 0 sN) (nI fN) (nI tN) ) (⟨va_cnB 2 hts ggX3_flip_X1_turnAll rfl rfl rfl (hK.2.m (args := ([.ref (A 0), .int (nI sN), .int (nI fN), .int (nI tN)] : List Value).toArray) 17 rfl) (hts (.initialized RX1) (by decide +kernel)) (by decide +kernel) ⟨Nat.le_of_ble_eq_true rfl, Nat.le_of_ble_eq_true rfl⟩, hts (.instanceMethod yX1_turnAll) (by decide +kernel), hts (.selects RX1 yX1_turnAll yX1_turnAll) (by decide +kernel)⟩) (pre_V (Φ := fun X => Num D T X (slA (rotA A fi.2.2.1) 0 (4 + 2 * sN)) (slA (rotA A fi.2.2.1) 0 (5 + 2 * sN)) (W0 0 sN)) hK (hNu.1) rfl hNu) rfl rfl hl.1 rfl (lv_room (Nat.le_of_ble_eq_true rfl)) dX3_flip_43 ⟨Nat.le_of_ble_eq_true rfl, Nat.le_of_ble_eq_true rfl⟩) hS (fun q _ h => by rw [h]; exact hSy (6 + 16 * 0 + (5 + 2 * sN)) (by omega)) (fun q h => by rw [h]; exact hSy (6 + 16 * 0 + (5 + 2 * sN)) (by omega)) (fun u_2 t H_2 locs ht hvm hw hB hz hk hS => ?_)
      rw [ht] at hB
      try dsimp only at hw
      try dsimp only at hB
      have hbits : Eq4 (bitL u_2) (flpB (bitL (W0 0 sN)) fN tN) := fun z hz => (hw z hz).trans (by rw [inr_n (by omega) (by omega) (by omega)]; rfl)
      have hF9 : Fr _ _ _ := hk
      have hNb := hF9.num hNb (fun z => absurd (slA_inj hP.1 (by omega) (by omega) (by omega) (by omega) z) (by omega)) (fun z => absurd (slA_inj hP.1 (by omega) (by omega) (by omega) (by omega) z) (by omega))
      have hNu := hB
      have hP := hP.setW (n := 0) (s := sN) (by decide) hsN hB hF9
      refine lv_aload_n hx hb dX3_flip_46 rfl (lv_at hl 2 rfl) ?_
      refine r_get (C := RX3) (Tb := TX3) (N := 5) hx hb hts in_wsX30 hown hK (hP.2.1) rfl 0 (by decide) (hts (.fieldLink RX3 10 "PieceSets" "now" "LPieceSets$State;") (by decide +kernel)) rfl (v := .ref (slA (rotA A fi.2.2.1) 0 0)) rfl dX3_flip_47 ?_
      refine lv_aload hx hb dX3_flip_50 (lv_at hl 1 rfl) ?_
      refine lv_aload hx hb dX3_flip_52 (lv_at hl 0 rfl) ?_
      refine va_callv (va_runVN (As := [.ref (slA (rotA A fi.2.2.1) (kpt fi.2.2.1) (4 + 2 * sN)), .ref (slA (rotA A fi.2.2.1) 0 (4 + 2 * sN))]) (rest := []) ⟨hx, hb, hml, hown, hts⟩ (k_X2_countConversions l D T (slA (rotA A fi.2.2.1) 0 0) (slA (rotA A fi.2.2.1) 0 1) (slA (rotA A fi.2.2.1) 0 2) (slA (rotA A fi.2.2.1) 0 3) ((rotW co fi.2.2.1) 0) (slA (rotA A fi.2.2.1) (kpt fi.2.2.1) (4 + 2 * sN)) (slA (rotA A fi.2.2.1) (kpt fi.2.2.1) (5 + 2 * sN)) (W0 0 sN) (slA (rotA A fi.2.2.1) 0 (4 + 2 * sN)) (slA (rotA A fi.2.2.1) 0 (5 + 2 * sN)) u_2 ) (⟨va_cnB 2 hts ggX3_flip_X2_countConversions rfl rfl rfl (hK.2.m (args := ([.ref (A 0), .int (nI sN), .int (nI fN), .int (nI tN)] : List Value).toArray) 12 rfl) (hts (.initialized RX2) (by decide +kernel)) (by decide +kernel) ⟨Nat.le_of_ble_eq_true rfl, Nat.le_of_ble_eq_true rfl⟩, hts (.instanceMethod yX2_countConversions) (by decide +kernel), hts (.selects RX2 yX2_countConversions yX2_countConversions) (by decide +kernel)⟩) (pre_V (Φ := fun X => va_at D vwCl ((slA (rotA A fi.2.2.1) 0 0), .inr (2, [.ref (slA (rotA A fi.2.2.1) 0 1), .ref (slA (rotA A fi.2.2.1) 0 2), .ref (slA (rotA A fi.2.2.1) 0 3)])) X ∧ va_at D vwCl ((slA (rotA A fi.2.2.1) 0 3), eI T 9 ((rotW co fi.2.2.1) 0)) X ∧ Num D T X (slA (rotA A fi.2.2.1) (kpt fi.2.2.1) (4 + 2 * sN)) (slA (rotA A fi.2.2.1) (kpt fi.2.2.1) (5 + 2 * sN)) (W0 0 sN) ∧ Num D T X (slA (rotA A fi.2.2.1) 0 (4 + 2 * sN)) (slA (rotA A fi.2.2.1) 0 (5 + 2 * sN)) u_2) hK ((hP.2.2.2.2.2 0 (by omega)).1) rfl ⟨(hP.2.2.2.2.2 0 (by omega)).1, (hP.2.2.2.2.2 0 (by omega)).2.2.2.1, hNb, hNu⟩) rfl rfl hl.1 rfl (lv_room (Nat.le_of_ble_eq_true rfl)) dX3_flip_54 ⟨Nat.le_of_ble_eq_true rfl, Nat.le_of_ble_eq_true rfl⟩) hS (fun q _ h => by rw [h]; exact hSy (6 + 16 * 0 + 3) (by omega)) (fun q h => by rw [h]; exact hSy (6 + 16 * 0 + 3) (by omega)) (fun u_3 t H_3 locs ht hvm hw hB hz hk hS => ?_)
      rw [ht] at hB
      try dsimp only at hw
      try dsimp only at hB
      have hF9 : Fr _ _ _ := hk
      have hNb := hF9.num hNb (fun z => absurd (slA_inj hP.1 (by omega) (by omega) (by omega) (by omega) z) (by omega)) (fun z => absurd (slA_inj hP.1 (by omega) (by omega) (by omega) (by omega) z) (by omega))
      have hNu := hF9.num hNu (fun z => absurd (slA_inj hP.1 (by omega) (by omega) (by omega) (by omega) z) (by omega)) (fun z => absurd (slA_inj hP.1 (by omega) (by omega) (by omega) (by omega) z) (by omega))
      have hP := hP.setC (n := 0) (by decide) hB hF9
      refine lv_aload hx hb dX3_flip_57 (lv_at hl 0 rfl) ?_
      refine lv_iload_n hx hb dX3_flip_59 rfl (lv_at hl 4 rfl) ?_
      refine lv_iload_n hx hb dX3_flip_60 rfl (lv_at hl 5 rfl) ?_
      refine vp_callSi (va_Run.run (va_runVN (As := [.int (nI fN), .int (nI tN)]) (rest := []) ⟨hx, hb, hml, hown, hts⟩ (k_X1_countIn l D T (slA (rotA A fi.2.2.1) 0 (4 + 2 * sN)) (slA (rotA A fi.2.2.1) 0 (5 + 2 * sN)) u_2 (nI fN) (nI tN) ) (⟨va_cnB 2 hts ggX3_flip_X1_countIn rfl rfl rfl (hK.2.m (args := ([.ref (A 0), .int (nI sN), .int (nI fN), .int (nI tN)] : List Value).toArray) 18 rfl) (hts (.initialized RX1) (by decide +kernel)) (by decide +kernel) ⟨Nat.le_of_ble_eq_true rfl, Nat.le_of_ble_eq_true rfl⟩, hts (.instanceMethod yX1_countIn) (by decide +kernel), hts (.selects RX1 yX1_countIn yX1_countIn) (by decide +kernel)⟩) (pre_V (Φ := fun X => Num D T X (slA (rotA A fi.2.2.1) 0 (4 + 2 * sN)) (slA (rotA A fi.2.2.1) 0 (5 + 2 * sN)) u_2) hK (hNu.1) rfl hNu) rfl rfl hl.1 rfl (lv_room (Nat.le_of_ble_eq_true rfl)) dX3_flip_61 ⟨Nat.le_of_ble_eq_true rfl, Nat.le_of_ble_eq_true rfl⟩)) (fun r_6 hr_6 => ?_)
      subst hr_6
      subst hQ
      have hfin : PSE D T H_3 (rotA A fi.2.2.1) Sx (flpN fi (nI sN) (nI fN) (nI tN)) := by
        unfold flpN
        rw [if_pos hok, cl_n (by omega), cl_n (by omega), cl_n (by omega)]
        refine PSE.mk hSx hrb hbl hk5 hR0 hRh hP (fun n h => up_n h) (fun n _ => rfl) (fun n h => up_n h) ?_
        rw [up_0, up_0, rotW_0, rotW_0, rotW_0]
        exact act_rep hR0 hsN (fun z hz => (hbits z hz).trans (by unfold flpB; rw [hR0.1 sN hsN z hz]))
      have hcb := ct_cong (p := bitL (W0 0 sN)) (q := fi.1.1 sN) (a := fN) (n := tN - fN + 1) (fun z _ hz => hR0.1 sN hsN z (by omega))
      exact W.iret (v := (nI (ctr (bitL u_2) (nI fN) (nI tN)))) hx hb hr (fun t ht hW => ⟨⟨(nI (ctr (bitL u_2) (nI fN) (nI tN))), (), rfl, (by unfold addR; rw [if_pos hok, cl_n (by omega), cl_n (by omega), cl_n (by omega), ← hcb]; rw [cnt_flp hft htN hbits]), by have h9 := exB (A := A) (rotA_lo A fi.2.2.1 (j := 0) (by decide)) hfin; rw [← ht] at h9; exact h9⟩, hS.F ht⟩) hS.2.2 dX3_flip_64
    · skip
      have c_2 : (decide (¬ x < 0 ∧ x < nI 4096 ∧ ¬ y < 0 ∧ y < nI 4096 ∧ x ≤ y)) = false := b2i_0.mp c_2
      have c_2 : ¬ (¬ x < 0 ∧ x < nI 4096 ∧ ¬ y < 0 ∧ y < nI 4096 ∧ x ≤ y) := of_decide_eq_false c_2
      refine lv_iconst (v := (-1)) hx hb dX3_flip_15 (by decide) ?_
      subst hQ
      have hfin : PSE D T s.heap A Sx (flpN fi ss x y) := by unfold flpN; rw [if_neg (fun z => c_2 z.2)]; exact hH
      exact W.iret (v := (-1)) hx hb hr (fun t ht hW => ⟨⟨(-1), (), rfl, ((if_neg (fun z => c_2 z.2)).symm), by have h9 := exB (A := A) rfl hfin; rw [← ht] at h9; exact h9⟩, hS.F ht⟩) hS.2.2 dX3_flip_16
