set_option maxHeartbeats 4000000 in
set_option maxRecDepth 100000 in
theorem k_X3_scatter (l : Launch) (D : va_G) (T : Nat → ClassId) (A : Nat → Nat) (Sx : Nat → Prop) (fi : FS) (ss : Int32) (x : Int32) (y : Int32) : Met l yX3_scatter wsX3_scatter ({ frames := 4, cells := 0, slots := 0, locals := 125 }) (va_Pc [.ref (A 0), .int ss, .int x, .int y] (fun U => KS D T U ∧ PSE D T U.heap A Sx fi)) (va_Qi (fun (r : Int32) (u : Unit) => r = (scaR fi ss x y)) (fun u t => ∃ B, B 0 = A 0 ∧ PSE D T t.heap B Sx (scaN fi ss x y)) (Sx)) 0 0 (Sx) := by
  refine Met.ofW (cc := cX3_scatter) (maxL := 8) (ret := (some .int)) (by decide) rfl ?_
  intro pg ev s m args below meth c s₁ B hml hv
  obtain ⟨rfl, hK, hH⟩ := hv
  have hx := B.exec
  have hb := B.bytes
  have hr := B.returns
  have hts := atoms_spec (ws := wsX3_scatter) B.pre
  have hown : s.vm.findClass RX3 = some m.cls := findClass_of_methodNamed B.named
  have hlocks := B.notSynchronized
  have in_wsX20 : ∀ w ∈ wsX20, w ∈ wsX3_scatter := fun w h => List.mem_cons_of_mem _ (List.mem_append_left _ (List.mem_append_left _ (List.mem_append_right _ h)))
  have in_wsX30 : ∀ w ∈ wsX30, w ∈ wsX3_scatter := fun w h => List.mem_cons_of_mem _ (List.mem_append_left _ (List.mem_append_right _ h))
  have in_wsX10 : ∀ w ∈ wsX10, w ∈ wsX3_scatter := fun w h => List.mem_cons_of_mem _ (List.mem_append_right _ h)
  have hS : va_S (Sx) s.heap s.heap [] := va_S.rf
  have hl := lv_entry ([.ref (A 0), .int ss, .int x, .int y]) (n := 8) (Nat.le_of_ble_eq_true rfl)
  rw [lg_entry_eq]
  generalize (lg_sl ([.ref (A 0), .int ss, .int x, .int y]) ++ List.replicate (8 - (lg_sl ([.ref (A 0), .int ss, .int x, .int y])).length) Slot.unset).toArray = ls at hl ⊢
  have hl : lv_has ls 8 [(0, .ref (A 0)), (1, .int ss), (2, .int x), (3, .int y)] := hl
  refine W_gen (fun Q hQ => ?_)
  obtain ⟨W0, me, co, sc, hP, hSx, hrb, hbl, hk5, hR0, hRh⟩ := id hH
  refine lv_iload_n hx hb dX3_scatter_0 rfl (lv_at hl 1 rfl) ?_
  refine vp_callSi (va_Run.run (va_runS (As := [.int ss]) (rest := []) ⟨hx, hb, hml, hown, hts⟩ (k_X3_isSet l D T ss ) (va_cwS 1 hts gX3_scatter_X3_isSet rfl rfl rfl (by decide +kernel) ⟨Nat.le_of_ble_eq_true rfl, Nat.le_of_ble_eq_true rfl⟩) (pre_S (Φ := fun X => True) hK trivial) rfl rfl hl.1 rfl (lv_room (Nat.le_of_ble_eq_true rfl)) dX3_scatter_1 ⟨Nat.le_of_ble_eq_true rfl, Nat.le_of_ble_eq_true rfl⟩)) (fun r_1 hr_1 => ?_)
  subst hr_1
  refine lv_if_eq (tgt := 19) hx hb dX3_scatter_4 (by decide) (fun c_1 => ?_) (fun c_1 => ?_)
  · skip
    have c_1 : (decide (¬ ss < 0 ∧ ss < nI 6)) = false := b2i_0.mp c_1
    have c_1 : ¬ (¬ ss < 0 ∧ ss < nI 6) := of_decide_eq_false c_1
    refine lv_iconst (v := (-1)) hx hb dX3_scatter_19 (by decide) ?_
    subst hQ
    have hfin : PSE D T s.heap A Sx (scaN fi ss x y) := by unfold scaN; rw [if_neg (fun z => c_1 z.1)]; exact hH
    exact W.iret (v := (-1)) hx hb hr (fun t ht hW => ⟨⟨(-1), (), rfl, ((if_neg (fun z => c_1 z.1)).symm), by have h9 := exB (A := A) rfl hfin; rw [← ht] at h9; exact h9⟩, hS.F ht⟩) hS.2.2 dX3_scatter_20
  · skip
    have c_1 : (decide (¬ ss < 0 ∧ ss < nI 6)) = true := b2i_n0.mp c_1
    have c_1 : ¬ ss < 0 ∧ ss < nI 6 := of_decide_eq_true c_1
    refine lv_iload_n hx hb dX3_scatter_7 rfl (lv_at hl 3 rfl) ?_
    refine lv_iconst (v := (nI 1)) hx hb dX3_scatter_8 (by decide) ?_
    refine lv_icmp_lt (tgt := 19) hx hb dX3_scatter_9 (by decide) (fun c_2 => ?_) (fun c_2 => ?_)
    · skip
      refine lv_iconst (v := (-1)) hx hb dX3_scatter_19 (by decide) ?_
      subst hQ
      have hfin : PSE D T s.heap A Sx (scaN fi ss x y) := by unfold scaN; rw [if_neg (fun z => z.2.1 c_2)]; exact hH
      exact W.iret (v := (-1)) hx hb hr (fun t ht hW => ⟨⟨(-1), (), rfl, ((if_neg (fun z => z.2.1 c_2)).symm), by have h9 := exB (A := A) rfl hfin; rw [← ht] at h9; exact h9⟩, hS.F ht⟩) hS.2.2 dX3_scatter_20
    · skip
      refine lv_iload_n hx hb dX3_scatter_12 rfl (lv_at hl 3 rfl) ?_
      refine lv_sipush (v := (nI 300)) hx hb dX3_scatter_13 (by decide) ?_
      refine lv_icmp_le (tgt := 21) hx hb dX3_scatter_16 (by decide) (fun c_3 => ?_) (fun c_3 => ?_)
      · skip
        obtain ⟨sN, hsN, rfl⟩ := okX (N := 6) (by decide) c_1
        obtain ⟨mN, hm1, hm2, rfl⟩ := okMn c_2 c_3
        have hok : ok6 (nI sN) ∧ okM (nI mN) := ⟨okN hsN (by decide), c_2, Int32.not_lt.mpr c_3⟩
        refine lv_aload_n hx hb dX3_scatter_21 rfl (lv_at hl 0 rfl) ?_
        refine va_callr (va_runV (As := []) (rest := []) ⟨hx, hb, hml, hown, hts⟩ (k_X3_keepState l D T A fi.2.2.1 fi.2.2.2.1 fi.2.2.2.2 sc W0 me co (by omega)) (cwV 0 hts gX3_scatter_X3_keepState rfl rfl rfl (by decide +kernel) ⟨Nat.le_of_ble_eq_true rfl, Nat.le_of_ble_eq_true rfl⟩) (pre_V (Φ := fun X => PSr D T X A fi.2.2.1 fi.2.2.2.1 fi.2.2.2.2 sc W0 me co) hK (hP.2.1) rfl hP) rfl rfl hl.1 rfl (lv_room (Nat.le_of_ble_eq_true rfl)) dX3_scatter_22 ⟨Nat.le_of_ble_eq_true rfl, Nat.le_of_ble_eq_true rfl⟩) hS (fun q _ h => by obtain ⟨i, h1, h2⟩ := h; rw [h2]; exact hSx i h1) (fun q h => by obtain ⟨i, h1, h2⟩ := h; rw [h2]; exact hSx i h1) (fun u_1 r_2 t H_1 locs ht hvm hw hB hz hk hS => ?_)
        rw [ht] at hB
        try dsimp only at hw
        try dsimp only at hB
        obtain ⟨hres, hP⟩ := hB
        subst hres
        have hSy := Sx_rot hSx fi.2.2.1
        have hkp := kpt_lt (k := fi.2.2.1)
        refine r_getN (C := RX2) (Tb := TX2) (N := 3) (host := "PieceSets") hx hb hts in_wsX20 hown hK ((hP.2.2.2.2.2 (kpt fi.2.2.1) (by omega)).1) rfl 0 (by decide) (hK.2.f (args := ([.ref (A 0), .int (nI sN), .int x, .int (nI mN)] : List Value).toArray) 3 rfl) rfl (v := .ref (slA (rotA A fi.2.2.1) (kpt fi.2.2.1) 1)) rfl dX3_scatter_25 ?_
        refine lv_iload_n hx hb dX3_scatter_28 rfl (lv_at hl 1 rfl) ?_
        refine r_nald hx hb hK ((hP.2.2.2.2.2 (kpt fi.2.2.1) (by omega)).2.1) (i := sN) (by omega) (by decide) (q := (slA (rotA A fi.2.2.1) (kpt fi.2.2.1) (4 + 2 * sN))) (rfl) dX3_scatter_29 ?_
        refine lv_astore (lv' := [(4, .ref (slA (rotA A fi.2.2.1) (kpt fi.2.2.1) (4 + 2 * sN))), (0, .ref (A 0)), (1, .int (nI sN)), (2, .int x), (3, .int (nI mN))]) hx hb dX3_scatter_30 hl (by decide) rfl (fun ls hl => ?_)
        refine lv_aload_n hx hb dX3_scatter_32 rfl (lv_at hl 1 rfl) ?_
        refine r_get (C := RX3) (Tb := TX3) (N := 5) hx hb hts in_wsX30 hown hK (hP.2.1) rfl 0 (by decide) (hts (.fieldLink RX3 10 "PieceSets" "now" "LPieceSets$State;") (by decide +kernel)) rfl (v := .ref (slA (rotA A fi.2.2.1) 0 0)) rfl dX3_scatter_33 ?_
        refine r_getN (C := RX2) (Tb := TX2) (N := 3) (host := "PieceSets") hx hb hts in_wsX20 hown hK ((hP.2.2.2.2.2 0 (by omega)).1) rfl 0 (by decide) (hK.2.f (args := ([.ref (A 0), .int (nI sN), .int x, .int (nI mN)] : List Value).toArray) 3 rfl) rfl (v := .ref (slA (rotA A fi.2.2.1) 0 1)) rfl dX3_scatter_36 ?_
        refine lv_iload_n hx hb dX3_scatter_39 rfl (lv_at hl 2 rfl) ?_
        refine r_nald hx hb hK ((hP.2.2.2.2.2 0 (by omega)).2.1) (i := sN) (by omega) (by decide) (q := (slA (rotA A fi.2.2.1) 0 (4 + 2 * sN))) (rfl) dX3_scatter_40 ?_
        refine lv_astore (lv' := [(5, .ref (slA (rotA A fi.2.2.1) 0 (4 + 2 * sN))), (4, .ref (slA (rotA A fi.2.2.1) (kpt fi.2.2.1) (4 + 2 * sN))), (0, .ref (A 0)), (1, .int (nI sN)), (2, .int x), (3, .int (nI mN))]) hx hb dX3_scatter_41 hl (by decide) rfl (fun ls hl => ?_)
        refine lv_iload_n hx hb dX3_scatter_43 rfl (lv_at hl 4 rfl) ?_
        refine lv_istore (lv' := [(6, .int x), (5, .ref (slA (rotA A fi.2.2.1) 0 (4 + 2 * sN))), (4, .ref (slA (rotA A fi.2.2.1) (kpt fi.2.2.1) (4 + 2 * sN))), (0, .ref (A 0)), (1, .int (nI sN)), (2, .int x), (3, .int (nI mN))]) hx hb dX3_scatter_44 hl (by decide) rfl (fun ls hl => ?_)
        refine lv_iconst (v := (nI 0)) hx hb dX3_scatter_46 (by decide) ?_
        refine lv_istore (lv' := [(7, .int (nI 0)), (6, .int x), (5, .ref (slA (rotA A fi.2.2.1) 0 (4 + 2 * sN))), (4, .ref (slA (rotA A fi.2.2.1) (kpt fi.2.2.1) (4 + 2 * sN))), (0, .ref (A 0)), (1, .int (nI sN)), (2, .int x), (3, .int (nI mN))]) hx hb dX3_scatter_47 hl (by decide) rfl (fun ls hl => ?_)
        have loop49 : ∀ (n49 : Nat) (i : Nat) (xx : Int32) (W9 : Nat → Nat → Nat → Int64) (hi : i ≤ mN) (e1 : ∀ n, n ≠ 0 → W9 n = (rotW W0 fi.2.2.1) n) (e3 : ∀ s', s' ≠ sN → W9 0 s' = W0 0 s') (hv : Eq4 (scF (mN - i) xx (bitL (W9 0 sN))) (scF mN x (bitL (W0 0 sN)))) (H : Heap) (locs : List Loc) (hP : PSr D T H (rotA A fi.2.2.1) (kpt fi.2.2.1) fi.2.2.2.1 fi.2.2.2.2 sc W9 (rotW me fi.2.2.1) (rotW co fi.2.2.1)) (hS : va_S (Sx) s.heap H locs) (ls : Array Slot) (hl : lv_has ls 8 [(0, .ref (A 0)), (1, .int (nI sN)), (3, .int (nI mN)), (4, .ref (slA (rotA A fi.2.2.1) (kpt fi.2.2.1) (4 + 2 * sN))), (5, .ref (slA (rotA A fi.2.2.1) 0 (4 + 2 * sN))), (6, .int xx), (7, .int (nI i))]) (hn49 : mN - i < n49), W pg l ev (headSpec wsX3_scatter ({ frames := 4, cells := 0, slots := 0, locals := 125 })).room s m ([.ref (A 0), .int (nI sN), .int x, .int (nI mN)] : List Value).toArray below meth c H locs 0 0 Q (F0 m 49 ls []) := by
          intro n49
          induction n49 with
          | zero =>
            intro i xx W9 hi e1 e3 hv H locs hP hS ls hl hn49
            exact absurd hn49 (Nat.not_lt_zero _)
          | succ n49 ih49 =>
            intro i xx W9 hi e1 e3 hv H locs hP hS ls hl hn49
            refine lv_iload hx hb dX3_scatter_49 (lv_at hl 6 rfl) ?_
            refine lv_iload_n hx hb dX3_scatter_51 rfl (lv_at hl 2 rfl) ?_
            refine lv_icmp_ge (tgt := 86) hx hb dX3_scatter_52 (by decide) (fun c_4 => ?_) (fun c_4 => ?_)
            · skip
              have c_4 : mN ≤ i := (nI_leI (a := mN) (b := i) (by omega) (by omega)).mp c_4
              have hNb : Num D T H (slA (rotA A fi.2.2.1) (kpt fi.2.2.1) (4 + 2 * sN)) (slA (rotA A fi.2.2.1) (kpt fi.2.2.1) (5 + 2 * sN)) (W0 0 sN) := by have h := (hP.2.2.2.2.2 (kpt fi.2.2.1) (by omega)).2.2.2.2 sN hsN; rw [e1 _ (by omega), rotW_k] at h; exact h
              have hNu : Num D T H (slA (rotA A fi.2.2.1) 0 (4 + 2 * sN)) (slA (rotA A fi.2.2.1) 0 (5 + 2 * sN)) (W9 0 sN) := (hP.2.2.2.2.2 0 (by omega)).2.2.2.2 sN hsN
              have hu9 := hv
              rw [show mN - i = 0 by omega] at hu9
              have hu : Eq4 (bitL (W9 0 sN)) (scF mN x (fi.1.1 sN)) := fun z hz => (hu9 z hz).trans (scF_cong mN x (fun x h => hR0.1 _ hsN x h) z hz)
              refine lv_aload_n hx hb dX3_scatter_86 rfl (lv_at hl 0 rfl) ?_
              refine r_get (C := RX3) (Tb := TX3) (N := 5) hx hb hts in_wsX30 hown hK (hP.2.1) rfl 0 (by decide) (hts (.fieldLink RX3 10 "PieceSets" "now" "LPieceSets$State;") (by decide +kernel)) rfl (v := .ref (slA (rotA A fi.2.2.1) 0 0)) rfl dX3_scatter_87 ?_
              refine lv_aload hx hb dX3_scatter_90 (lv_at hl 3 rfl) ?_
              refine lv_aload hx hb dX3_scatter_92 (lv_at hl 4 rfl) ?_
              refine va_callv (va_runVN (As := [.ref (slA (rotA A fi.2.2.1) (kpt fi.2.2.1) (4 + 2 * sN)), .ref (slA (rotA A fi.2.2.1) 0 (4 + 2 * sN))]) (rest := []) ⟨hx, hb, hml, hown, hts⟩ (k_X2_countConversions l D T (slA (rotA A fi.2.2.1) 0 0) (slA (rotA A fi.2.2.1) 0 1) (slA (rotA A fi.2.2.1) 0 2) (slA (rotA A fi.2.2.1) 0 3) ((rotW co fi.2.2.1) 0) (slA (rotA A fi.2.2.1) (kpt fi.2.2.1) (4 + 2 * sN)) (slA (rotA A fi.2.2.1) (kpt fi.2.2.1) (5 + 2 * sN)) (W0 0 sN) (slA (rotA A fi.2.2.1) 0 (4 + 2 * sN)) (slA (rotA A fi.2.2.1) 0 (5 + 2 * sN)) (W9 0 sN) ) (⟨va_cnB 2 hts ggX3_scatter_X2_countConversions rfl rfl rfl (hK.2.m (args := ([.ref (A 0), .int (nI sN), .int x, .int (nI mN)] : List Value).toArray) 12 rfl) (hts (.initialized RX2) (by decide +kernel)) (by decide +kernel) ⟨Nat.le_of_ble_eq_true rfl, Nat.le_of_ble_eq_true rfl⟩, hts (.instanceMethod yX2_countConversions) (by decide +kernel), hts (.selects RX2 yX2_countConversions yX2_countConversions) (by decide +kernel)⟩) (pre_V (Φ := fun X => va_at D vwCl ((slA (rotA A fi.2.2.1) 0 0), .inr (2, [.ref (slA (rotA A fi.2.2.1) 0 1), .ref (slA (rotA A fi.2.2.1) 0 2), .ref (slA (rotA A fi.2.2.1) 0 3)])) X ∧ va_at D vwCl ((slA (rotA A fi.2.2.1) 0 3), eI T 9 ((rotW co fi.2.2.1) 0)) X ∧ Num D T X (slA (rotA A fi.2.2.1) (kpt fi.2.2.1) (4 + 2 * sN)) (slA (rotA A fi.2.2.1) (kpt fi.2.2.1) (5 + 2 * sN)) (W0 0 sN) ∧ Num D T X (slA (rotA A fi.2.2.1) 0 (4 + 2 * sN)) (slA (rotA A fi.2.2.1) 0 (5 + 2 * sN)) (W9 0 sN)) hK ((hP.2.2.2.2.2 0 (by omega)).1) rfl ⟨(hP.2.2.2.2.2 0 (by omega)).1, (hP.2.2.2.2.2 0 (by omega)).2.2.2.1, hNb, hNu⟩) rfl rfl hl.1 rfl (lv_room (Nat.le_of_ble_eq_true rfl)) dX3_scatter_94 ⟨Nat.le_of_ble_eq_true rfl, Nat.le_of_ble_eq_true rfl⟩) hS (fun q _ h => by rw [h]; exact hSy (6 + 16 * 0 + 3) (by omega)) (fun q h => by rw [h]; exact hSy (6 + 16 * 0 + 3) (by omega)) (fun u_2 t H_2 locs ht hvm hw hB hz hk hS => ?_)
              rw [ht] at hB
              try dsimp only at hw
              try dsimp only at hB
              have hF9 : Fr _ _ _ := hk
              have hNb := hF9.num hNb (fun z => absurd (slA_inj hP.1 (by omega) (by omega) (by omega) (by omega) z) (by omega)) (fun z => absurd (slA_inj hP.1 (by omega) (by omega) (by omega) (by omega) z) (by omega))
              have hNu := hF9.num hNu (fun z => absurd (slA_inj hP.1 (by omega) (by omega) (by omega) (by omega) z) (by omega)) (fun z => absurd (slA_inj hP.1 (by omega) (by omega) (by omega) (by omega) z) (by omega))
              have hP := hP.setC (n := 0) (by decide) hB hF9
              refine lv_aload hx hb dX3_scatter_97 (lv_at hl 4 rfl) ?_
              refine vp_callSi (va_Run.run (va_runVN (As := []) (rest := []) ⟨hx, hb, hml, hown, hts⟩ (k_X1_count l D T (slA (rotA A fi.2.2.1) 0 (4 + 2 * sN)) (slA (rotA A fi.2.2.1) 0 (5 + 2 * sN)) (W9 0 sN) ) (⟨va_cnB 0 hts ggX3_scatter_X1_count rfl rfl rfl (hK.2.m (args := ([.ref (A 0), .int (nI sN), .int x, .int (nI mN)] : List Value).toArray) 15 rfl) (hts (.initialized RX1) (by decide +kernel)) (by decide +kernel) ⟨Nat.le_of_ble_eq_true rfl, Nat.le_of_ble_eq_true rfl⟩, hts (.instanceMethod yX1_count) (by decide +kernel), hts (.selects RX1 yX1_count yX1_count) (by decide +kernel)⟩) (pre_V (Φ := fun X => Num D T X (slA (rotA A fi.2.2.1) 0 (4 + 2 * sN)) (slA (rotA A fi.2.2.1) 0 (5 + 2 * sN)) (W9 0 sN)) hK (hNu.1) rfl hNu) rfl rfl hl.1 rfl (lv_room (Nat.le_of_ble_eq_true rfl)) dX3_scatter_99 ⟨Nat.le_of_ble_eq_true rfl, Nat.le_of_ble_eq_true rfl⟩)) (fun r_4 hr_4 => ?_)
              subst hr_4
              subst hQ
              have hfin : PSE D T H_2 (rotA A fi.2.2.1) Sx (scaN fi (nI sN) x (nI mN)) := by
                unfold scaN
                rw [if_pos hok, cl_n (by omega), cl_n (by omega)]
                refine PSE.mk hSx hrb hbl hk5 hR0 hRh hP e1 (fun n _ => rfl) (fun n h => up_n h) ?_
                rw [up_0, rotW_0, rotW_0]
                exact act_rep2 hR0 hsN rfl e3 hu
              exact W.iret (v := (nI (ct (bitL (W9 0 sN)) 0 4096))) hx hb hr (fun t ht hW => ⟨⟨(nI (ct (bitL (W9 0 sN)) 0 4096)), (), rfl, (by unfold scaR; rw [if_pos hok, cl_n (by omega), cl_n (by omega)]; exact congrArg nI (ct_cong (fun z _ hz => hu z (by omega)))), by have h9 := exB (A := A) (rotA_lo A fi.2.2.1 (j := 0) (by decide)) hfin; rw [← ht] at h9; exact h9⟩, hS.F ht⟩) hS.2.2 dX3_scatter_102
            · skip
              have c_4 : ¬ (mN ≤ i) := fun z => c_4 ((nI_leI (a := mN) (b := i) (by omega) (by omega)).mpr z)
              refine lv_ldc hx hb hown (hts (.constant RX3 76 (1103515245)) (by decide +kernel)) dX3_scatter_55 ?_
              refine lv_iload hx hb dX3_scatter_57 (lv_at hl 5 rfl) ?_
              refine lv_imul hx hb dX3_scatter_59 ?_
              refine lv_sipush (v := (nI 12345)) hx hb dX3_scatter_60 (by decide) ?_
              refine lv_iadd hx hb dX3_scatter_63 ?_
              refine top_i (x' := (nxI xx)) (rfl) ?_
              refine lv_istore (lv' := [(6, .int (nxI xx)), (0, .ref (A 0)), (1, .int (nI sN)), (3, .int (nI mN)), (4, .ref (slA (rotA A fi.2.2.1) (kpt fi.2.2.1) (4 + 2 * sN))), (5, .ref (slA (rotA A fi.2.2.1) 0 (4 + 2 * sN))), (7, .int (nI i))]) hx hb dX3_scatter_64 hl (by decide) rfl (fun ls hl => ?_)
              refine lv_aload hx hb dX3_scatter_66 (lv_at hl 5 rfl) ?_
              refine lv_iload hx hb dX3_scatter_68 (lv_at hl 0 rfl) ?_
              refine lv_bipush (v := (nI 16)) hx hb dX3_scatter_70 (by decide) ?_
              refine lv_iushr (v := (ushrI (nxI xx) (nI 16))) hx hb dX3_scatter_72 rfl ?_
              refine lv_sipush (v := (nI 4096)) hx hb dX3_scatter_73 (by decide) ?_
              refine lv_irem hx hb dX3_scatter_76 (by decide) ?_
              refine top_i (x' := (remI (ushrI (nxI xx) (nI 16)) (nI 4096))) rfl ?_
              refine top_i (x' := (nI (ixN (nxI xx)))) (rem_ix _) ?_
              have hix := ixN_lt (nxI xx)
              refine va_callv (va_runVN (As := [.int (nI (ixN (nxI xx)))]) (rest := []) ⟨hx, hb, hml, hown, hts⟩ (k_X1_include l D T (slA (rotA A fi.2.2.1) 0 (4 + 2 * sN)) (slA (rotA A fi.2.2.1) 0 (5 + 2 * sN)) (W9 0 sN) (ixN (nxI xx)) (by omega)) (⟨va_cnB 1 hts ggX3_scatter_X1_include rfl rfl rfl (hK.2.m (args := ([.ref (A 0), .int (nI sN), .int x, .int (nI mN)] : List Value).toArray) 19 rfl) (hts (.initialized RX1) (by decide +kernel)) (by decide +kernel) ⟨Nat.le_of_ble_eq_true rfl, Nat.le_of_ble_eq_true rfl⟩, hts (.instanceMethod yX1_include) (by decide +kernel), hts (.selects RX1 yX1_include yX1_include) (by decide +kernel)⟩) (pre_V (Φ := fun X => Num D T X (slA (rotA A fi.2.2.1) 0 (4 + 2 * sN)) (slA (rotA A fi.2.2.1) 0 (5 + 2 * sN)) (W9 0 sN)) hK (((hP.2.2.2.2.2 0 (by omega)).2.2.2.2 sN (by omega)).1) rfl ((hP.2.2.2.2.2 0 (by omega)).2.2.2.2 sN (by omega))) rfl rfl hl.1 rfl (lv_room (Nat.le_of_ble_eq_true rfl)) dX3_scatter_77 ⟨Nat.le_of_ble_eq_true rfl, Nat.le_of_ble_eq_true rfl⟩) hS (fun q _ h => by rw [h]; exact hSy (6 + 16 * 0 + (5 + 2 * sN)) (by omega)) (fun q h => by rw [h]; exact hSy (6 + 16 * 0 + (5 + 2 * sN)) (by omega)) (fun u_2 t H_2 locs ht hvm hw hB hz hk hS => ?_)
              rw [ht] at hB
              try dsimp only at hw
              try dsimp only at hB
              have hF9 : Fr _ _ _ := hk
              have hP := hP.setW (n := 0) (s := sN) (by decide) hsN hB hF9
              refine lv_iinc (v := (nI (i + 1))) (lv' := [(7, .int (nI (i + 1))), (6, .int (nxI xx)), (0, .ref (A 0)), (1, .int (nI sN)), (3, .int (nI mN)), (4, .ref (slA (rotA A fi.2.2.1) (kpt fi.2.2.1) (4 + 2 * sN))), (5, .ref (slA (rotA A fi.2.2.1) 0 (4 + 2 * sN)))]) hx hb dX3_scatter_80 hl (k := 6) rfl (iinc_n i 1) (by decide) rfl (fun ls hl => ?_)
              refine lv_goto (tgt := 49) hx hb dX3_scatter_83 (by decide) ?_
              have hl := lv_sub hl (l' := [(0, .ref (A 0)), (1, .int (nI sN)), (3, .int (nI mN)), (4, .ref (slA (rotA A fi.2.2.1) (kpt fi.2.2.1) (4 + 2 * sN))), (5, .ref (slA (rotA A fi.2.2.1) 0 (4 + 2 * sN))), (6, .int (nxI xx)), (7, .int (nI (i + 1)))]) [2, 3, 4, 5, 6, 1, 0] rfl
              exact ih49 (i + 1) (nxI xx) (va_up W9 0 (va_up (W9 0) sN u_2)) (by omega) (fun n h => (up_n h).trans (e1 n h)) (fun s' h => (va_up_oth h).trans (e3 s' h)) (by rw [va_up_row]; exact sca_next (by omega) hv hw) H_2 _ hP hS ls hl (by omega)
        have hl := lv_sub hl (l' := [(0, .ref (A 0)), (1, .int (nI sN)), (3, .int (nI mN)), (4, .ref (slA (rotA A fi.2.2.1) (kpt fi.2.2.1) (4 + 2 * sN))), (5, .ref (slA (rotA A fi.2.2.1) 0 (4 + 2 * sN))), (6, .int x), (7, .int (nI 0))]) [4, 5, 7, 3, 2, 1, 0] rfl
        exact loop49 (mN - 0 + 1) 0 x (rotW W0 fi.2.2.1) (Nat.zero_le _) (fun _ _ => rfl) (fun s' _ => by rw [rotW_0]) (by rw [rotW_0]; exact fun _ _ => rfl) H_1 _ hP hS ls hl (Nat.lt_succ_self _)
      · skip
        refine lv_iconst (v := (-1)) hx hb dX3_scatter_19 (by decide) ?_
        subst hQ
        have hfin : PSE D T s.heap A Sx (scaN fi ss x y) := by unfold scaN; rw [if_neg (fun z => c_3 (Int32.not_lt.mp z.2.2))]; exact hH
        exact W.iret (v := (-1)) hx hb hr (fun t ht hW => ⟨⟨(-1), (), rfl, ((if_neg (fun z => c_3 (Int32.not_lt.mp z.2.2))).symm), by have h9 := exB (A := A) rfl hfin; rw [← ht] at h9; exact h9⟩, hS.F ht⟩) hS.2.2 dX3_scatter_20
set_option maxHeartbeats 4000000 in
set_option maxRecDepth 100000 in
theorem k_X3_combine (l : Launch) (D : va_G) (T : Nat → ClassId) (A : Nat → Nat) (Sx : Nat → Prop) (fi : FS) (oo : Int32) (ss : Int32) (tt : Int32) (uu : Int32) : Met l yX3_combine wsX3_combine ({ frames := 4, cells := 0, slots := 0, locals := 125 }) (va_Pc [.ref (A 0), .int oo, .int ss, .int tt, .int uu] (fun U => KS D T U ∧ PSE D T U.heap A Sx fi)) (va_Qi (fun (r : Int32) (u : Unit) => r = (comR fi oo ss tt uu)) (fun u t => ∃ B, B 0 = A 0 ∧ PSE D T t.heap B Sx (comN fi oo ss tt uu)) (Sx)) 0 0 (Sx) := by
  refine Met.ofW (cc := cX3_combine) (maxL := 7) (ret := (some .int)) (by decide) rfl ?_
  intro pg ev s m args below meth c s₁ B hml hv
  obtain ⟨rfl, hK, hH⟩ := hv
  have hx := B.exec
  have hb := B.bytes
  have hr := B.returns
  have hts := atoms_spec (ws := wsX3_combine) B.pre
  have hown : s.vm.findClass RX3 = some m.cls := findClass_of_methodNamed B.named
  have hlocks := B.notSynchronized
  have in_wsX30 : ∀ w ∈ wsX30, w ∈ wsX3_combine := fun w h => List.mem_cons_of_mem _ (List.mem_append_left _ (List.mem_append_left _ (List.mem_append_right _ h)))
  have in_wsX20 : ∀ w ∈ wsX20, w ∈ wsX3_combine := fun w h => List.mem_cons_of_mem _ (List.mem_append_left _ (List.mem_append_right _ h))
  have in_wsX10 : ∀ w ∈ wsX10, w ∈ wsX3_combine := fun w h => List.mem_cons_of_mem _ (List.mem_append_right _ h)
  have hS : va_S (Sx) s.heap s.heap [] := va_S.rf
  have hl := lv_entry ([.ref (A 0), .int oo, .int ss, .int tt, .int uu]) (n := 7) (Nat.le_of_ble_eq_true rfl)
  rw [lg_entry_eq]
  generalize (lg_sl ([.ref (A 0), .int oo, .int ss, .int tt, .int uu]) ++ List.replicate (7 - (lg_sl ([.ref (A 0), .int oo, .int ss, .int tt, .int uu])).length) Slot.unset).toArray = ls at hl ⊢
  have hl : lv_has ls 7 [(0, .ref (A 0)), (1, .int oo), (2, .int ss), (3, .int tt), (4, .int uu)] := hl
  refine W_gen (fun Q hQ => ?_)
  obtain ⟨W0, me, co, sc, hP, hSx, hrb, hbl, hk5, hR0, hRh⟩ := id hH
  refine lv_iload_n hx hb dX3_combine_0 rfl (lv_at hl 1 rfl) ?_
  refine lv_if_lt (tgt := 31) hx hb dX3_combine_1 (by decide) (fun c_1 => ?_) (fun c_1 => ?_)
  · skip
    refine lv_iconst (v := (-1)) hx hb dX3_combine_31 (by decide) ?_
    subst hQ
    have hfin : PSE D T s.heap A Sx (comN fi oo ss tt uu) := by unfold comN; rw [if_neg (fun z => z.1 c_1)]; exact hH
    exact W.iret (v := (-1)) hx hb hr (fun t ht hW => ⟨⟨(-1), (), rfl, ((if_neg (fun z => z.1 c_1)).symm), by have h9 := exB (A := A) rfl hfin; rw [← ht] at h9; exact h9⟩, hS.F ht⟩) hS.2.2 dX3_combine_32
  · skip
    refine lv_iload_n hx hb dX3_combine_4 rfl (lv_at hl 1 rfl) ?_
    refine lv_iconst (v := (nI 3)) hx hb dX3_combine_5 (by decide) ?_
    refine lv_icmp_gt (tgt := 31) hx hb dX3_combine_6 (by decide) (fun c_2 => ?_) (fun c_2 => ?_)
    · skip
      refine lv_iconst (v := (-1)) hx hb dX3_combine_31 (by decide) ?_
      subst hQ
      have hfin : PSE D T s.heap A Sx (comN fi oo ss tt uu) := by unfold comN; rw [if_neg (fun z => z.2.1 c_2)]; exact hH
      exact W.iret (v := (-1)) hx hb hr (fun t ht hW => ⟨⟨(-1), (), rfl, ((if_neg (fun z => z.2.1 c_2)).symm), by have h9 := exB (A := A) rfl hfin; rw [← ht] at h9; exact h9⟩, hS.F ht⟩) hS.2.2 dX3_combine_32
    · skip
      refine lv_iload_n hx hb dX3_combine_9 rfl (lv_at hl 2 rfl) ?_
      refine vp_callSi (va_Run.run (va_runS (As := [.int ss]) (rest := []) ⟨hx, hb, hml, hown, hts⟩ (k_X3_isSet l D T ss ) (va_cwS 1 hts gX3_combine_X3_isSet rfl rfl rfl (by decide +kernel) ⟨Nat.le_of_ble_eq_true rfl, Nat.le_of_ble_eq_true rfl⟩) (pre_S (Φ := fun X => True) hK trivial) rfl rfl hl.1 rfl (lv_room (Nat.le_of_ble_eq_true rfl)) dX3_combine_10 ⟨Nat.le_of_ble_eq_true rfl, Nat.le_of_ble_eq_true rfl⟩)) (fun r_1 hr_1 => ?_)
      subst hr_1
      refine lv_if_eq (tgt := 31) hx hb dX3_combine_13 (by decide) (fun c_3 => ?_) (fun c_3 => ?_)
      · skip
        have c_3 : (decide (¬ ss < 0 ∧ ss < nI 6)) = false := b2i_0.mp c_3
        have c_3 : ¬ (¬ ss < 0 ∧ ss < nI 6) := of_decide_eq_false c_3
        refine lv_iconst (v := (-1)) hx hb dX3_combine_31 (by decide) ?_
        subst hQ
        have hfin : PSE D T s.heap A Sx (comN fi oo ss tt uu) := by unfold comN; rw [if_neg (fun z => c_3 z.2.2.1)]; exact hH
        exact W.iret (v := (-1)) hx hb hr (fun t ht hW => ⟨⟨(-1), (), rfl, ((if_neg (fun z => c_3 z.2.2.1)).symm), by have h9 := exB (A := A) rfl hfin; rw [← ht] at h9; exact h9⟩, hS.F ht⟩) hS.2.2 dX3_combine_32
      · skip
        have c_3 : (decide (¬ ss < 0 ∧ ss < nI 6)) = true := b2i_n0.mp c_3
        have c_3 : ¬ ss < 0 ∧ ss < nI 6 := of_decide_eq_true c_3
        refine lv_iload_n hx hb dX3_combine_16 rfl (lv_at hl 3 rfl) ?_
        refine vp_callSi (va_Run.run (va_runS (As := [.int tt]) (rest := []) ⟨hx, hb, hml, hown, hts⟩ (k_X3_isSet l D T tt ) (va_cwS 1 hts gX3_combine_X3_isSet rfl rfl rfl (by decide +kernel) ⟨Nat.le_of_ble_eq_true rfl, Nat.le_of_ble_eq_true rfl⟩) (pre_S (Φ := fun X => True) hK trivial) rfl rfl hl.1 rfl (lv_room (Nat.le_of_ble_eq_true rfl)) dX3_combine_17 ⟨Nat.le_of_ble_eq_true rfl, Nat.le_of_ble_eq_true rfl⟩)) (fun r_2 hr_2 => ?_)
        subst hr_2
        refine lv_if_eq (tgt := 31) hx hb dX3_combine_20 (by decide) (fun c_4 => ?_) (fun c_4 => ?_)
        · skip
          have c_4 : (decide (¬ tt < 0 ∧ tt < nI 6)) = false := b2i_0.mp c_4
          have c_4 : ¬ (¬ tt < 0 ∧ tt < nI 6) := of_decide_eq_false c_4
          refine lv_iconst (v := (-1)) hx hb dX3_combine_31 (by decide) ?_
          subst hQ
          have hfin : PSE D T s.heap A Sx (comN fi oo ss tt uu) := by unfold comN; rw [if_neg (fun z => c_4 z.2.2.2.1)]; exact hH
          exact W.iret (v := (-1)) hx hb hr (fun t ht hW => ⟨⟨(-1), (), rfl, ((if_neg (fun z => c_4 z.2.2.2.1)).symm), by have h9 := exB (A := A) rfl hfin; rw [← ht] at h9; exact h9⟩, hS.F ht⟩) hS.2.2 dX3_combine_32
        · skip
          have c_4 : (decide (¬ tt < 0 ∧ tt < nI 6)) = true := b2i_n0.mp c_4
          have c_4 : ¬ tt < 0 ∧ tt < nI 6 := of_decide_eq_true c_4
          refine lv_iload hx hb dX3_combine_23 (lv_at hl 4 rfl) ?_
          refine vp_callSi (va_Run.run (va_runS (As := [.int uu]) (rest := []) ⟨hx, hb, hml, hown, hts⟩ (k_X3_isSet l D T uu ) (va_cwS 1 hts gX3_combine_X3_isSet rfl rfl rfl (by decide +kernel) ⟨Nat.le_of_ble_eq_true rfl, Nat.le_of_ble_eq_true rfl⟩) (pre_S (Φ := fun X => True) hK trivial) rfl rfl hl.1 rfl (lv_room (Nat.le_of_ble_eq_true rfl)) dX3_combine_25 ⟨Nat.le_of_ble_eq_true rfl, Nat.le_of_ble_eq_true rfl⟩)) (fun r_3 hr_3 => ?_)
          subst hr_3
          refine lv_if_ne (tgt := 33) hx hb dX3_combine_28 (by decide) (fun c_5 => ?_) (fun c_5 => ?_)
          · skip
            have c_5 : (decide (¬ uu < 0 ∧ uu < nI 6)) = true := b2i_n0.mp c_5
            have c_5 : ¬ uu < 0 ∧ uu < nI 6 := of_decide_eq_true c_5
            obtain ⟨oN, hoN, rfl⟩ := okOn c_1 c_2
            obtain ⟨sN, hsN, rfl⟩ := okX (N := 6) (by decide) c_3
            obtain ⟨tN, htN, rfl⟩ := okX (N := 6) (by decide) c_4
            obtain ⟨uN, huN, rfl⟩ := okX (N := 6) (by decide) c_5
            have hok : okC (nI oN) (nI sN) (nI tN) (nI uN) := ⟨c_1, c_2, okN hsN (by decide), okN htN (by decide), okN huN (by decide)⟩
            refine lv_aload_n hx hb dX3_combine_33 rfl (lv_at hl 0 rfl) ?_
            refine va_callr (va_runV (As := []) (rest := []) ⟨hx, hb, hml, hown, hts⟩ (k_X3_keepState l D T A fi.2.2.1 fi.2.2.2.1 fi.2.2.2.2 sc W0 me co (by omega)) (cwV 0 hts gX3_combine_X3_keepState rfl rfl rfl (by decide +kernel) ⟨Nat.le_of_ble_eq_true rfl, Nat.le_of_ble_eq_true rfl⟩) (pre_V (Φ := fun X => PSr D T X A fi.2.2.1 fi.2.2.2.1 fi.2.2.2.2 sc W0 me co) hK (hP.2.1) rfl hP) rfl rfl hl.1 rfl (lv_room (Nat.le_of_ble_eq_true rfl)) dX3_combine_34 ⟨Nat.le_of_ble_eq_true rfl, Nat.le_of_ble_eq_true rfl⟩) hS (fun q _ h => by obtain ⟨i, h1, h2⟩ := h; rw [h2]; exact hSx i h1) (fun q h => by obtain ⟨i, h1, h2⟩ := h; rw [h2]; exact hSx i h1) (fun u_1 r_4 t H_1 locs ht hvm hw hB hz hk hS => ?_)
            rw [ht] at hB
            try dsimp only at hw
            try dsimp only at hB
            obtain ⟨hres, hP⟩ := hB
            subst hres
            have hSy := Sx_rot hSx fi.2.2.1
            have hkp := kpt_lt (k := fi.2.2.1)
            have hNs : Num D T H_1 (slA (rotA A fi.2.2.1) (kpt fi.2.2.1) (4 + 2 * sN)) (slA (rotA A fi.2.2.1) (kpt fi.2.2.1) (5 + 2 * sN)) (W0 0 sN) := by have h := (hP.2.2.2.2.2 (kpt fi.2.2.1) (by omega)).2.2.2.2 sN hsN; rw [rotW_k] at h; exact h
            have hNt : Num D T H_1 (slA (rotA A fi.2.2.1) (kpt fi.2.2.1) (4 + 2 * tN)) (slA (rotA A fi.2.2.1) (kpt fi.2.2.1) (5 + 2 * tN)) (W0 0 tN) := by have h := (hP.2.2.2.2.2 (kpt fi.2.2.1) (by omega)).2.2.2.2 tN htN; rw [rotW_k] at h; exact h
            have hNb : Num D T H_1 (slA (rotA A fi.2.2.1) (kpt fi.2.2.1) (4 + 2 * uN)) (slA (rotA A fi.2.2.1) (kpt fi.2.2.1) (5 + 2 * uN)) (W0 0 uN) := by have h := (hP.2.2.2.2.2 (kpt fi.2.2.1) (by omega)).2.2.2.2 uN huN; rw [rotW_k] at h; exact h
            have hNu : Num D T H_1 (slA (rotA A fi.2.2.1) 0 (4 + 2 * uN)) (slA (rotA A fi.2.2.1) 0 (5 + 2 * uN)) (W0 0 uN) := by have h := (hP.2.2.2.2.2 0 (by omega)).2.2.2.2 uN huN; rw [rotW_0] at h; exact h
            refine lv_astore (lv' := [(5, .ref (slA (rotA A fi.2.2.1) (kpt fi.2.2.1) 0)), (0, .ref (A 0)), (1, .int (nI oN)), (2, .int (nI sN)), (3, .int (nI tN)), (4, .int (nI uN))]) hx hb dX3_combine_37 hl (by decide) rfl (fun ls hl => ?_)
            refine lv_aload_n hx hb dX3_combine_39 rfl (lv_at hl 1 rfl) ?_
            refine r_get (C := RX3) (Tb := TX3) (N := 5) hx hb hts in_wsX30 hown hK (hP.2.1) rfl 0 (by decide) (hts (.fieldLink RX3 10 "PieceSets" "now" "LPieceSets$State;") (by decide +kernel)) rfl (v := .ref (slA (rotA A fi.2.2.1) 0 0)) rfl dX3_combine_40 ?_
            refine r_getN (C := RX2) (Tb := TX2) (N := 3) (host := "PieceSets") hx hb hts in_wsX20 hown hK ((hP.2.2.2.2.2 0 (by omega)).1) rfl 0 (by decide) (hK.2.f (args := ([.ref (A 0), .int (nI oN), .int (nI sN), .int (nI tN), .int (nI uN)] : List Value).toArray) 3 rfl) rfl (v := .ref (slA (rotA A fi.2.2.1) 0 1)) rfl dX3_combine_43 ?_
            refine lv_iload hx hb dX3_combine_46 (lv_at hl 5 rfl) ?_
            refine r_nald hx hb hK ((hP.2.2.2.2.2 0 (by omega)).2.1) (i := uN) (by omega) (by decide) (q := (slA (rotA A fi.2.2.1) 0 (4 + 2 * uN))) (rfl) dX3_combine_48 ?_
            refine lv_astore (lv' := [(6, .ref (slA (rotA A fi.2.2.1) 0 (4 + 2 * uN))), (5, .ref (slA (rotA A fi.2.2.1) (kpt fi.2.2.1) 0)), (0, .ref (A 0)), (1, .int (nI oN)), (2, .int (nI sN)), (3, .int (nI tN)), (4, .int (nI uN))]) hx hb dX3_combine_49 hl (by decide) rfl (fun ls hl => ?_)
            refine lv_aload hx hb dX3_combine_51 (lv_at hl 0 rfl) ?_
            refine lv_iload_n hx hb dX3_combine_53 rfl (lv_at hl 3 rfl) ?_
            refine lv_aload hx hb dX3_combine_54 (lv_at hl 1 rfl) ?_
            refine r_getN (C := RX2) (Tb := TX2) (N := 3) (host := "PieceSets") hx hb hts in_wsX20 hown hK ((hP.2.2.2.2.2 (kpt fi.2.2.1) (by omega)).1) rfl 0 (by decide) (hK.2.f (args := ([.ref (A 0), .int (nI oN), .int (nI sN), .int (nI tN), .int (nI uN)] : List Value).toArray) 3 rfl) rfl (v := .ref (slA (rotA A fi.2.2.1) (kpt fi.2.2.1) 1)) rfl dX3_combine_56 ?_
            refine lv_iload_n hx hb dX3_combine_59 rfl (lv_at hl 4 rfl) ?_
            refine r_nald hx hb hK ((hP.2.2.2.2.2 (kpt fi.2.2.1) (by omega)).2.1) (i := sN) (by omega) (by decide) (q := (slA (rotA A fi.2.2.1) (kpt fi.2.2.1) (4 + 2 * sN))) (rfl) dX3_combine_60 ?_
            refine lv_aload hx hb dX3_combine_61 (lv_at hl 1 rfl) ?_
            refine r_getN (C := RX2) (Tb := TX2) (N := 3) (host := "PieceSets") hx hb hts in_wsX20 hown hK ((hP.2.2.2.2.2 (kpt fi.2.2.1) (by omega)).1) rfl 0 (by decide) (hK.2.f (args := ([.ref (A 0), .int (nI oN), .int (nI sN), .int (nI tN), .int (nI uN)] : List Value).toArray) 3 rfl) rfl (v := .ref (slA (rotA A fi.2.2.1) (kpt fi.2.2.1) 1)) rfl dX3_combine_63 ?_
            refine lv_iload_n hx hb dX3_combine_66 rfl (lv_at hl 5 rfl) ?_
            refine r_nald hx hb hK ((hP.2.2.2.2.2 (kpt fi.2.2.1) (by omega)).2.1) (i := tN) (by omega) (by decide) (q := (slA (rotA A fi.2.2.1) (kpt fi.2.2.1) (4 + 2 * tN))) (rfl) dX3_combine_67 ?_
            refine va_callv (va_runVN (As := [.int (nI oN), .ref (slA (rotA A fi.2.2.1) (kpt fi.2.2.1) (4 + 2 * sN)), .ref (slA (rotA A fi.2.2.1) (kpt fi.2.2.1) (4 + 2 * tN))]) (rest := []) ⟨hx, hb, hml, hown, hts⟩ (k_X1_becomeJoin l D T oN (slA (rotA A fi.2.2.1) 0 (4 + 2 * uN)) (slA (rotA A fi.2.2.1) 0 (5 + 2 * uN)) (W0 0 uN) (slA (rotA A fi.2.2.1) (kpt fi.2.2.1) (4 + 2 * sN)) (slA (rotA A fi.2.2.1) (kpt fi.2.2.1) (5 + 2 * sN)) (W0 0 sN) (slA (rotA A fi.2.2.1) (kpt fi.2.2.1) (4 + 2 * tN)) (slA (rotA A fi.2.2.1) (kpt fi.2.2.1) (5 + 2 * tN)) (W0 0 tN) (by omega) ((fun z => absurd (slA_inj hP.1 (by omega) (by omega) (by omega) (by omega) z) (by omega))) ((fun z => absurd (slA_inj hP.1 (by omega) (by omega) (by omega) (by omega) z) (by omega)))) (⟨va_cnB 3 hts ggX3_combine_X1_becomeJoin rfl rfl rfl (hK.2.m (args := ([.ref (A 0), .int (nI oN), .int (nI sN), .int (nI tN), .int (nI uN)] : List Value).toArray) 31 rfl) (hts (.initialized RX1) (by decide +kernel)) (by decide +kernel) ⟨Nat.le_of_ble_eq_true rfl, Nat.le_of_ble_eq_true rfl⟩, hts (.instanceMethod yX1_becomeJoin) (by decide +kernel), hts (.selects RX1 yX1_becomeJoin yX1_becomeJoin) (by decide +kernel)⟩) (pre_V (Φ := fun X => Num D T X (slA (rotA A fi.2.2.1) 0 (4 + 2 * uN)) (slA (rotA A fi.2.2.1) 0 (5 + 2 * uN)) (W0 0 uN) ∧ Num D T X (slA (rotA A fi.2.2.1) (kpt fi.2.2.1) (4 + 2 * sN)) (slA (rotA A fi.2.2.1) (kpt fi.2.2.1) (5 + 2 * sN)) (W0 0 sN) ∧ Num D T X (slA (rotA A fi.2.2.1) (kpt fi.2.2.1) (4 + 2 * tN)) (slA (rotA A fi.2.2.1) (kpt fi.2.2.1) (5 + 2 * tN)) (W0 0 tN)) hK (hNu.1) rfl ⟨hNu, hNs, hNt⟩) rfl rfl hl.1 rfl (lv_room (Nat.le_of_ble_eq_true rfl)) dX3_combine_68 ⟨Nat.le_of_ble_eq_true rfl, Nat.le_of_ble_eq_true rfl⟩) hS (fun q _ h => by rw [h]; exact hSy (6 + 16 * 0 + (5 + 2 * uN)) (by omega)) (fun q h => by rw [h]; exact hSy (6 + 16 * 0 + (5 + 2 * uN)) (by omega)) (fun u_2 t H_2 locs ht hvm hw hB hz hk hS => ?_)
            rw [ht] at hB
            try dsimp only at hw
            try dsimp only at hB
            have hF9 : Fr _ _ _ := hk
            have hNb := hF9.num hNb (fun z => absurd (slA_inj hP.1 (by omega) (by omega) (by omega) (by omega) z) (by omega)) (fun z => absurd (slA_inj hP.1 (by omega) (by omega) (by omega) (by omega) z) (by omega))
            have hNs := hF9.num hNs (fun z => absurd (slA_inj hP.1 (by omega) (by omega) (by omega) (by omega) z) (by omega)) (fun z => absurd (slA_inj hP.1 (by omega) (by omega) (by omega) (by omega) z) (by omega))
            have hNt := hF9.num hNt (fun z => absurd (slA_inj hP.1 (by omega) (by omega) (by omega) (by omega) z) (by omega)) (fun z => absurd (slA_inj hP.1 (by omega) (by omega) (by omega) (by omega) z) (by omega))
            have hNu := hB
            have hP := hP.setW (n := 0) (s := uN) (by decide) huN hB hF9
            refine lv_aload_n hx hb dX3_combine_71 rfl (lv_at hl 2 rfl) ?_
            refine r_get (C := RX3) (Tb := TX3) (N := 5) hx hb hts in_wsX30 hown hK (hP.2.1) rfl 0 (by decide) (hts (.fieldLink RX3 10 "PieceSets" "now" "LPieceSets$State;") (by decide +kernel)) rfl (v := .ref (slA (rotA A fi.2.2.1) 0 0)) rfl dX3_combine_72 ?_
            refine lv_aload hx hb dX3_combine_75 (lv_at hl 1 rfl) ?_
            refine r_getN (C := RX2) (Tb := TX2) (N := 3) (host := "PieceSets") hx hb hts in_wsX20 hown hK ((hP.2.2.2.2.2 (kpt fi.2.2.1) (by omega)).1) rfl 0 (by decide) (hK.2.f (args := ([.ref (A 0), .int (nI oN), .int (nI sN), .int (nI tN), .int (nI uN)] : List Value).toArray) 3 rfl) rfl (v := .ref (slA (rotA A fi.2.2.1) (kpt fi.2.2.1) 1)) rfl dX3_combine_77 ?_
            refine lv_iload_n hx hb dX3_combine_80 rfl (lv_at hl 4 rfl) ?_
            refine r_nald hx hb hK ((hP.2.2.2.2.2 (kpt fi.2.2.1) (by omega)).2.1) (i := sN) (by omega) (by decide) (q := (slA (rotA A fi.2.2.1) (kpt fi.2.2.1) (4 + 2 * sN))) (rfl) dX3_combine_81 ?_
            refine lv_aload hx hb dX3_combine_82 (lv_at hl 1 rfl) ?_
            refine r_getN (C := RX2) (Tb := TX2) (N := 3) (host := "PieceSets") hx hb hts in_wsX20 hown hK ((hP.2.2.2.2.2 (kpt fi.2.2.1) (by omega)).1) rfl 0 (by decide) (hK.2.f (args := ([.ref (A 0), .int (nI oN), .int (nI sN), .int (nI tN), .int (nI uN)] : List Value).toArray) 3 rfl) rfl (v := .ref (slA (rotA A fi.2.2.1) (kpt fi.2.2.1) 1)) rfl dX3_combine_84 ?_
            refine lv_iload_n hx hb dX3_combine_87 rfl (lv_at hl 5 rfl) ?_
            refine r_nald hx hb hK ((hP.2.2.2.2.2 (kpt fi.2.2.1) (by omega)).2.1) (i := tN) (by omega) (by decide) (q := (slA (rotA A fi.2.2.1) (kpt fi.2.2.1) (4 + 2 * tN))) (rfl) dX3_combine_88 ?_
            refine va_callv (va_runVN (As := [.ref (slA (rotA A fi.2.2.1) (kpt fi.2.2.1) (4 + 2 * sN)), .ref (slA (rotA A fi.2.2.1) (kpt fi.2.2.1) (4 + 2 * tN))]) (rest := []) ⟨hx, hb, hml, hown, hts⟩ (k_X2_countMeetings l D T (slA (rotA A fi.2.2.1) 0 0) (slA (rotA A fi.2.2.1) 0 1) (slA (rotA A fi.2.2.1) 0 2) (slA (rotA A fi.2.2.1) 0 3) ((rotW me fi.2.2.1) 0) (slA (rotA A fi.2.2.1) (kpt fi.2.2.1) (4 + 2 * sN)) (slA (rotA A fi.2.2.1) (kpt fi.2.2.1) (5 + 2 * sN)) (W0 0 sN) (slA (rotA A fi.2.2.1) (kpt fi.2.2.1) (4 + 2 * tN)) (slA (rotA A fi.2.2.1) (kpt fi.2.2.1) (5 + 2 * tN)) (W0 0 tN) ) (⟨va_cnB 2 hts ggX3_combine_X2_countMeetings rfl rfl rfl (hK.2.m (args := ([.ref (A 0), .int (nI oN), .int (nI sN), .int (nI tN), .int (nI uN)] : List Value).toArray) 34 rfl) (hts (.initialized RX2) (by decide +kernel)) (by decide +kernel) ⟨Nat.le_of_ble_eq_true rfl, Nat.le_of_ble_eq_true rfl⟩, hts (.instanceMethod yX2_countMeetings) (by decide +kernel), hts (.selects RX2 yX2_countMeetings yX2_countMeetings) (by decide +kernel)⟩) (pre_V (Φ := fun X => va_at D vwCl ((slA (rotA A fi.2.2.1) 0 0), .inr (2, [.ref (slA (rotA A fi.2.2.1) 0 1), .ref (slA (rotA A fi.2.2.1) 0 2), .ref (slA (rotA A fi.2.2.1) 0 3)])) X ∧ va_at D vwCl ((slA (rotA A fi.2.2.1) 0 2), eI T 9 ((rotW me fi.2.2.1) 0)) X ∧ Num D T X (slA (rotA A fi.2.2.1) (kpt fi.2.2.1) (4 + 2 * sN)) (slA (rotA A fi.2.2.1) (kpt fi.2.2.1) (5 + 2 * sN)) (W0 0 sN) ∧ Num D T X (slA (rotA A fi.2.2.1) (kpt fi.2.2.1) (4 + 2 * tN)) (slA (rotA A fi.2.2.1) (kpt fi.2.2.1) (5 + 2 * tN)) (W0 0 tN)) hK ((hP.2.2.2.2.2 0 (by omega)).1) rfl ⟨(hP.2.2.2.2.2 0 (by omega)).1, (hP.2.2.2.2.2 0 (by omega)).2.2.1, hNs, hNt⟩) rfl rfl hl.1 rfl (lv_room (Nat.le_of_ble_eq_true rfl)) dX3_combine_89 ⟨Nat.le_of_ble_eq_true rfl, Nat.le_of_ble_eq_true rfl⟩) hS (fun q _ h => by rw [h]; exact hSy (6 + 16 * 0 + 2) (by omega)) (fun q h => by rw [h]; exact hSy (6 + 16 * 0 + 2) (by omega)) (fun u_3 t H_3 locs ht hvm hw hB hz hk hS => ?_)
            rw [ht] at hB
            try dsimp only at hw
            try dsimp only at hB
            have hF9 : Fr _ _ _ := hk
            have hNu := hF9.num hNu (fun z => absurd (slA_inj hP.1 (by omega) (by omega) (by omega) (by omega) z) (by omega)) (fun z => absurd (slA_inj hP.1 (by omega) (by omega) (by omega) (by omega) z) (by omega))
            have hNb := hF9.num hNb (fun z => absurd (slA_inj hP.1 (by omega) (by omega) (by omega) (by omega) z) (by omega)) (fun z => absurd (slA_inj hP.1 (by omega) (by omega) (by omega) (by omega) z) (by omega))
            have hP := hP.setM (n := 0) (by decide) hB hF9
            refine lv_aload_n hx hb dX3_combine_92 rfl (lv_at hl 2 rfl) ?_
            refine r_get (C := RX3) (Tb := TX3) (N := 5) hx hb hts in_wsX30 hown hK (hP.2.1) rfl 0 (by decide) (hts (.fieldLink RX3 10 "PieceSets" "now" "LPieceSets$State;") (by decide +kernel)) rfl (v := .ref (slA (rotA A fi.2.2.1) 0 0)) rfl dX3_combine_93 ?_
            refine lv_aload hx hb dX3_combine_96 (lv_at hl 1 rfl) ?_
            refine r_getN (C := RX2) (Tb := TX2) (N := 3) (host := "PieceSets") hx hb hts in_wsX20 hown hK ((hP.2.2.2.2.2 (kpt fi.2.2.1) (by omega)).1) rfl 0 (by decide) (hK.2.f (args := ([.ref (A 0), .int (nI oN), .int (nI sN), .int (nI tN), .int (nI uN)] : List Value).toArray) 3 rfl) rfl (v := .ref (slA (rotA A fi.2.2.1) (kpt fi.2.2.1) 1)) rfl dX3_combine_98 ?_
            refine lv_iload hx hb dX3_combine_101 (lv_at hl 6 rfl) ?_
            refine r_nald hx hb hK ((hP.2.2.2.2.2 (kpt fi.2.2.1) (by omega)).2.1) (i := uN) (by omega) (by decide) (q := (slA (rotA A fi.2.2.1) (kpt fi.2.2.1) (4 + 2 * uN))) (rfl) dX3_combine_103 ?_
            refine lv_aload hx hb dX3_combine_104 (lv_at hl 0 rfl) ?_
            refine va_callv (va_runVN (As := [.ref (slA (rotA A fi.2.2.1) (kpt fi.2.2.1) (4 + 2 * uN)), .ref (slA (rotA A fi.2.2.1) 0 (4 + 2 * uN))]) (rest := []) ⟨hx, hb, hml, hown, hts⟩ (k_X2_countConversions l D T (slA (rotA A fi.2.2.1) 0 0) (slA (rotA A fi.2.2.1) 0 1) (slA (rotA A fi.2.2.1) 0 2) (slA (rotA A fi.2.2.1) 0 3) ((rotW co fi.2.2.1) 0) (slA (rotA A fi.2.2.1) (kpt fi.2.2.1) (4 + 2 * uN)) (slA (rotA A fi.2.2.1) (kpt fi.2.2.1) (5 + 2 * uN)) (W0 0 uN) (slA (rotA A fi.2.2.1) 0 (4 + 2 * uN)) (slA (rotA A fi.2.2.1) 0 (5 + 2 * uN)) (fun j => jn oN (W0 0 sN j) (W0 0 tN j)) ) (⟨va_cnB 2 hts ggX3_combine_X2_countConversions rfl rfl rfl (hK.2.m (args := ([.ref (A 0), .int (nI oN), .int (nI sN), .int (nI tN), .int (nI uN)] : List Value).toArray) 12 rfl) (hts (.initialized RX2) (by decide +kernel)) (by decide +kernel) ⟨Nat.le_of_ble_eq_true rfl, Nat.le_of_ble_eq_true rfl⟩, hts (.instanceMethod yX2_countConversions) (by decide +kernel), hts (.selects RX2 yX2_countConversions yX2_countConversions) (by decide +kernel)⟩) (pre_V (Φ := fun X => va_at D vwCl ((slA (rotA A fi.2.2.1) 0 0), .inr (2, [.ref (slA (rotA A fi.2.2.1) 0 1), .ref (slA (rotA A fi.2.2.1) 0 2), .ref (slA (rotA A fi.2.2.1) 0 3)])) X ∧ va_at D vwCl ((slA (rotA A fi.2.2.1) 0 3), eI T 9 ((rotW co fi.2.2.1) 0)) X ∧ Num D T X (slA (rotA A fi.2.2.1) (kpt fi.2.2.1) (4 + 2 * uN)) (slA (rotA A fi.2.2.1) (kpt fi.2.2.1) (5 + 2 * uN)) (W0 0 uN) ∧ Num D T X (slA (rotA A fi.2.2.1) 0 (4 + 2 * uN)) (slA (rotA A fi.2.2.1) 0 (5 + 2 * uN)) (fun j => jn oN (W0 0 sN j) (W0 0 tN j))) hK ((hP.2.2.2.2.2 0 (by omega)).1) rfl ⟨(hP.2.2.2.2.2 0 (by omega)).1, (hP.2.2.2.2.2 0 (by omega)).2.2.2.1, hNb, hNu⟩) rfl rfl hl.1 rfl (lv_room (Nat.le_of_ble_eq_true rfl)) dX3_combine_106 ⟨Nat.le_of_ble_eq_true rfl, Nat.le_of_ble_eq_true rfl⟩) hS (fun q _ h => by rw [h]; exact hSy (6 + 16 * 0 + 3) (by omega)) (fun q h => by rw [h]; exact hSy (6 + 16 * 0 + 3) (by omega)) (fun u_4 t H_4 locs ht hvm hw hB hz hk hS => ?_)
            rw [ht] at hB
            try dsimp only at hw
            try dsimp only at hB
            have hF9 : Fr _ _ _ := hk
            have hNb := hF9.num hNb (fun z => absurd (slA_inj hP.1 (by omega) (by omega) (by omega) (by omega) z) (by omega)) (fun z => absurd (slA_inj hP.1 (by omega) (by omega) (by omega) (by omega) z) (by omega))
            have hNu := hF9.num hNu (fun z => absurd (slA_inj hP.1 (by omega) (by omega) (by omega) (by omega) z) (by omega)) (fun z => absurd (slA_inj hP.1 (by omega) (by omega) (by omega) (by omega) z) (by omega))
            have hP := hP.setC (n := 0) (by decide) hB hF9
            refine lv_aload hx hb dX3_combine_109 (lv_at hl 0 rfl) ?_
            refine vp_callSi (va_Run.run (va_runVN (As := []) (rest := []) ⟨hx, hb, hml, hown, hts⟩ (k_X1_count l D T (slA (rotA A fi.2.2.1) 0 (4 + 2 * uN)) (slA (rotA A fi.2.2.1) 0 (5 + 2 * uN)) (fun j => jn oN (W0 0 sN j) (W0 0 tN j)) ) (⟨va_cnB 0 hts ggX3_combine_X1_count rfl rfl rfl (hK.2.m (args := ([.ref (A 0), .int (nI oN), .int (nI sN), .int (nI tN), .int (nI uN)] : List Value).toArray) 15 rfl) (hts (.initialized RX1) (by decide +kernel)) (by decide +kernel) ⟨Nat.le_of_ble_eq_true rfl, Nat.le_of_ble_eq_true rfl⟩, hts (.instanceMethod yX1_count) (by decide +kernel), hts (.selects RX1 yX1_count yX1_count) (by decide +kernel)⟩) (pre_V (Φ := fun X => Num D T X (slA (rotA A fi.2.2.1) 0 (4 + 2 * uN)) (slA (rotA A fi.2.2.1) 0 (5 + 2 * uN)) (fun j => jn oN (W0 0 sN j) (W0 0 tN j))) hK (hNu.1) rfl hNu) rfl rfl hl.1 rfl (lv_room (Nat.le_of_ble_eq_true rfl)) dX3_combine_111 ⟨Nat.le_of_ble_eq_true rfl, Nat.le_of_ble_eq_true rfl⟩)) (fun r_8 hr_8 => ?_)
            subst hr_8
            subst hQ
            have hu : Eq4 (bitL (fun j => jn oN (W0 0 sN j) (W0 0 tN j))) (fun z => jb oN (fi.1.1 sN z) (fi.1.1 tN z)) := fun z hz => (bit_jn oN _ _ z hz).trans (jb_cong (o := oN) (fun x h => hR0.1 _ hsN x h) (fun x h => hR0.1 _ htN x h) z hz)
            have hfin : PSE D T H_4 (rotA A fi.2.2.1) Sx (comN fi (nI oN) (nI sN) (nI tN) (nI uN)) := by
              unfold comN comB
              rw [if_pos hok, cl_n (n := oN) (by omega), cl_n (n := sN) (by omega), cl_n (n := tN) (by omega), cl_n (n := uN) (by omega)]
              refine PSE.mk hSx hrb hbl hk5 hR0 hRh hP (fun n h => up_n h) (fun n h => up_n h) (fun n h => up_n h) ?_
              rw [up_0, up_0, up_0, rotW_0, rotW_0, rotW_0]
              exact com_rep hR0 hsN htN huN (if_pos rfl) (fun s' h => if_neg h) hu
            exact W.iret (v := (nI (ct (bitL (fun j => jn oN (W0 0 sN j) (W0 0 tN j))) 0 4096))) hx hb hr (fun t ht hW => ⟨⟨(nI (ct (bitL (fun j => jn oN (W0 0 sN j) (W0 0 tN j))) 0 4096)), (), rfl, (by unfold comR comB; rw [if_pos hok, cl_n (n := oN) (by omega), cl_n (n := sN) (by omega), cl_n (n := tN) (by omega)]; exact congrArg nI (ct_cong (fun z _ hz => hu z (by omega)))), by have h9 := exB (A := A) (rotA_lo A fi.2.2.1 (j := 0) (by decide)) hfin; rw [← ht] at h9; exact h9⟩, hS.F ht⟩) hS.2.2 dX3_combine_114
          · skip
            have c_5 : (decide (¬ uu < 0 ∧ uu < nI 6)) = false := b2i_0.mp c_5
            have c_5 : ¬ (¬ uu < 0 ∧ uu < nI 6) := of_decide_eq_false c_5
            refine lv_iconst (v := (-1)) hx hb dX3_combine_31 (by decide) ?_
            subst hQ
            have hfin : PSE D T s.heap A Sx (comN fi oo ss tt uu) := by unfold comN; rw [if_neg (fun z => c_5 z.2.2.2.2)]; exact hH
            exact W.iret (v := (-1)) hx hb hr (fun t ht hW => ⟨⟨(-1), (), rfl, ((if_neg (fun z => c_5 z.2.2.2.2)).symm), by have h9 := exB (A := A) rfl hfin; rw [← ht] at h9; exact h9⟩, hS.F ht⟩) hS.2.2 dX3_combine_32
set_option maxHeartbeats 4000000 in
set_option maxRecDepth 100000 in
theorem k_X3_read (l : Launch) (D : va_G) (T : Nat → ClassId) (A : Nat → Nat) (Sx : Nat → Prop) (fi : FS) (ss : Int32) : Met l yX3_read wsX3_read ({ frames := 6, cells := 0, slots := 0, locals := 165 }) (va_Pc [.ref (A 0), .int ss] (fun U => KS D T U ∧ PSE D T U.heap A Sx fi)) (va_Qi (fun (r : Int32) (u : Unit) => r = (reaR fi ss)) (fun u t => ∃ B, B 0 = A 0 ∧ PSE D T t.heap B Sx (reaN fi ss)) (Sx)) 0 0 (Sx) := by
  refine Met.ofW (cc := cX3_read) (maxL := 5) (ret := (some .int)) (by decide) rfl ?_
  intro pg ev s m args below meth c s₁ B hml hv
  obtain ⟨rfl, hK, hH⟩ := hv
  have hx := B.exec
  have hb := B.bytes
  have hr := B.returns
  have hts := atoms_spec (ws := wsX3_read) B.pre
  have hown : s.vm.findClass RX3 = some m.cls := findClass_of_methodNamed B.named
  have hlocks := B.notSynchronized
  have in_wsX30 : ∀ w ∈ wsX30, w ∈ wsX3_read := fun w h => List.mem_cons_of_mem _ (List.mem_append_left _ (List.mem_append_left _ (List.mem_append_left _ (List.mem_append_right _ h))))
  have in_wsX20 : ∀ w ∈ wsX20, w ∈ wsX3_read := fun w h => List.mem_cons_of_mem _ (List.mem_append_left _ (List.mem_append_left _ (List.mem_append_right _ h)))
  have in_wsX00 : ∀ w ∈ wsX00, w ∈ wsX3_read := fun w h => List.mem_cons_of_mem _ (List.mem_append_left _ (List.mem_append_right _ h))
  have in_wsX10 : ∀ w ∈ wsX10, w ∈ wsX3_read := fun w h => List.mem_cons_of_mem _ (List.mem_append_right _ h)
  have hS : va_S (Sx) s.heap s.heap [] := va_S.rf
  have hl := lv_entry ([.ref (A 0), .int ss]) (n := 5) (Nat.le_of_ble_eq_true rfl)
  rw [lg_entry_eq]
  generalize (lg_sl ([.ref (A 0), .int ss]) ++ List.replicate (5 - (lg_sl ([.ref (A 0), .int ss])).length) Slot.unset).toArray = ls at hl ⊢
  have hl : lv_has ls 5 [(0, .ref (A 0)), (1, .int ss)] := hl
  refine W_gen (fun Q hQ => ?_)
  obtain ⟨W0, me, co, sc, hP, hSx, hrb, hbl, hk5, hR0, hRh⟩ := id hH
  refine lv_iload_n hx hb dX3_read_0 rfl (lv_at hl 1 rfl) ?_
  refine vp_callSi (va_Run.run (va_runS (As := [.int ss]) (rest := []) ⟨hx, hb, hml, hown, hts⟩ (k_X3_isSet l D T ss ) (va_cwS 1 hts gX3_read_X3_isSet rfl rfl rfl (by decide +kernel) ⟨Nat.le_of_ble_eq_true rfl, Nat.le_of_ble_eq_true rfl⟩) (pre_S (Φ := fun X => True) hK trivial) rfl rfl hl.1 rfl (lv_room (Nat.le_of_ble_eq_true rfl)) dX3_read_1 ⟨Nat.le_of_ble_eq_true rfl, Nat.le_of_ble_eq_true rfl⟩)) (fun r_1 hr_1 => ?_)
  subst hr_1
  refine lv_if_ne (tgt := 9) hx hb dX3_read_4 (by decide) (fun c_1 => ?_) (fun c_1 => ?_)
  · skip
    have c_1 : (decide (¬ ss < 0 ∧ ss < nI 6)) = true := b2i_n0.mp c_1
    have c_1 : ¬ ss < 0 ∧ ss < nI 6 := of_decide_eq_true c_1
    obtain ⟨sN, hsN, rfl⟩ := okX (N := 6) (by decide) c_1
    refine lv_aload_n hx hb dX3_read_9 rfl (lv_at hl 0 rfl) ?_
    refine r_get (C := RX3) (Tb := TX3) (N := 5) hx hb hts in_wsX30 hown hK (hP.2.1) rfl 3 (by decide) (hts (.fieldLink RX3 27 "PieceSets" "buffer" "LPieceSets$Buffer;") (by decide +kernel)) rfl (v := .ref (A 2)) rfl dX3_read_10 ?_
    refine lv_aload_n hx hb dX3_read_13 rfl (lv_at hl 0 rfl) ?_
    refine r_get (C := RX3) (Tb := TX3) (N := 5) hx hb hts in_wsX30 hown hK (hP.2.1) rfl 4 (by decide) (hts (.fieldLink RX3 34 "PieceSets" "scratch" "LPieceSets$Numbers;") (by decide +kernel)) rfl (v := .ref (A 4)) rfl dX3_read_14 ?_
    refine va_calli (va_runVN (As := [.ref (A 4)]) (rest := []) ⟨hx, hb, hml, hown, hts⟩ (k_X0_parse l D T (A 2) (A 3) fi.2.2.2.1 fi.2.2.2.2 (A 4) (A 5) sc (hrb) (hbl)) (⟨va_cnB 1 hts ggX3_read_X0_parse rfl rfl rfl (hK.2.m (args := ([.ref (A 0), .int (nI sN)] : List Value).toArray) 24 rfl) (hts (.initialized RX0) (by decide +kernel)) (by decide +kernel) ⟨Nat.le_of_ble_eq_true rfl, Nat.le_of_ble_eq_true rfl⟩, hts (.instanceMethod yX0_parse) (by decide +kernel), hts (.selects RX0 yX0_parse yX0_parse) (by decide +kernel)⟩) (pre_V (Φ := fun X => Buf D T X (A 2) (A 3) fi.2.2.2.1 fi.2.2.2.2 ∧ Num D T X (A 4) (A 5) sc) hK (hP.2.2.2.1.1) rfl ⟨hP.2.2.2.1, hP.2.2.2.2.1⟩) rfl rfl hl.1 rfl (lv_room (Nat.le_of_ble_eq_true rfl)) dX3_read_17 ⟨Nat.le_of_ble_eq_true rfl, Nat.le_of_ble_eq_true rfl⟩) hS (fun q _ h => by rw [h]; exact hSx 5 (by decide)) (fun q h => by rw [h]; exact hSx 5 (by decide)) (fun r_2 u_1 t H_1 locs ht hvm hw hB hz hk hS => ?_)
    rw [ht] at hB
    try dsimp only at hw
    try dsimp only at hB
    have hwp : PAllR (reaP fi) r_2 u_1 := hw
    have hF9 : Fr _ _ _ := hk
    have hP := hP.setN hB hF9
    refine lv_istore_n (lv' := [(2, .int r_2), (0, .ref (A 0)), (1, .int (nI sN))]) hx hb dX3_read_20 rfl hl (by decide) rfl (fun ls hl => ?_)
    refine lv_iload_n hx hb dX3_read_21 rfl (lv_at hl 0 rfl) ?_
    refine lv_if_lt (tgt := 30) hx hb dX3_read_22 (by decide) (fun c_2 => ?_) (fun c_2 => ?_)
    · skip
      have htr := rea_t hwp hbl c_2
      refine lv_aload_n hx hb dX3_read_30 rfl (lv_at hl 1 rfl) ?_
      refine va_callr (va_runV (As := []) (rest := []) ⟨hx, hb, hml, hown, hts⟩ (k_X3_keepState l D T A fi.2.2.1 fi.2.2.2.1 fi.2.2.2.2 u_1 W0 me co (by omega)) (cwV 0 hts gX3_read_X3_keepState rfl rfl rfl (by decide +kernel) ⟨Nat.le_of_ble_eq_true rfl, Nat.le_of_ble_eq_true rfl⟩) (pre_V (Φ := fun X => PSr D T X A fi.2.2.1 fi.2.2.2.1 fi.2.2.2.2 u_1 W0 me co) hK (hP.2.1) rfl hP) rfl rfl hl.1 rfl (lv_room (Nat.le_of_ble_eq_true rfl)) dX3_read_31 ⟨Nat.le_of_ble_eq_true rfl, Nat.le_of_ble_eq_true rfl⟩) hS (fun q _ h => by obtain ⟨i, h1, h2⟩ := h; rw [h2]; exact hSx i h1) (fun q h => by obtain ⟨i, h1, h2⟩ := h; rw [h2]; exact hSx i h1) (fun u_2 r_3 t H_2 locs ht hvm hw hB hz hk hS => ?_)
      rw [ht] at hB
      try dsimp only at hw
      try dsimp only at hB
      obtain ⟨hres, hP⟩ := hB
      subst hres
      have hSy := Sx_rot hSx fi.2.2.1
      have hkp := kpt_lt (k := fi.2.2.1)
      have hNb : Num D T H_2 (slA (rotA A fi.2.2.1) (kpt fi.2.2.1) (4 + 2 * sN)) (slA (rotA A fi.2.2.1) (kpt fi.2.2.1) (5 + 2 * sN)) (W0 0 sN) := by have h := (hP.2.2.2.2.2 (kpt fi.2.2.1) (by omega)).2.2.2.2 sN hsN; rw [rotW_k] at h; exact h
      have hNu : Num D T H_2 (slA (rotA A fi.2.2.1) 0 (4 + 2 * sN)) (slA (rotA A fi.2.2.1) 0 (5 + 2 * sN)) (W0 0 sN) := by have h := (hP.2.2.2.2.2 0 (by omega)).2.2.2.2 sN hsN; rw [rotW_0] at h; exact h
      refine r_getN (C := RX2) (Tb := TX2) (N := 3) (host := "PieceSets") hx hb hts in_wsX20 hown hK ((hP.2.2.2.2.2 (kpt fi.2.2.1) (by omega)).1) rfl 0 (by decide) (hK.2.f (args := ([.ref (A 0), .int (nI sN)] : List Value).toArray) 3 rfl) rfl (v := .ref (slA (rotA A fi.2.2.1) (kpt fi.2.2.1) 1)) rfl dX3_read_34 ?_
      refine lv_iload_n hx hb dX3_read_37 rfl (lv_at hl 2 rfl) ?_
      refine r_nald hx hb hK ((hP.2.2.2.2.2 (kpt fi.2.2.1) (by omega)).2.1) (i := sN) (by omega) (by decide) (q := (slA (rotA A fi.2.2.1) (kpt fi.2.2.1) (4 + 2 * sN))) (rfl) dX3_read_38 ?_
      refine lv_astore_n (lv' := [(3, .ref (slA (rotA A fi.2.2.1) (kpt fi.2.2.1) (4 + 2 * sN))), (2, .int r_2), (0, .ref (A 0)), (1, .int (nI sN))]) hx hb dX3_read_39 rfl hl (by decide) rfl (fun ls hl => ?_)
      refine lv_aload_n hx hb dX3_read_40 rfl (lv_at hl 2 rfl) ?_
      refine r_get (C := RX3) (Tb := TX3) (N := 5) hx hb hts in_wsX30 hown hK (hP.2.1) rfl 0 (by decide) (hts (.fieldLink RX3 10 "PieceSets" "now" "LPieceSets$State;") (by decide +kernel)) rfl (v := .ref (slA (rotA A fi.2.2.1) 0 0)) rfl dX3_read_41 ?_
      refine r_getN (C := RX2) (Tb := TX2) (N := 3) (host := "PieceSets") hx hb hts in_wsX20 hown hK ((hP.2.2.2.2.2 0 (by omega)).1) rfl 0 (by decide) (hK.2.f (args := ([.ref (A 0), .int (nI sN)] : List Value).toArray) 3 rfl) rfl (v := .ref (slA (rotA A fi.2.2.1) 0 1)) rfl dX3_read_44 ?_
      refine lv_iload_n hx hb dX3_read_47 rfl (lv_at hl 3 rfl) ?_
      refine r_nald hx hb hK ((hP.2.2.2.2.2 0 (by omega)).2.1) (i := sN) (by omega) (by decide) (q := (slA (rotA A fi.2.2.1) 0 (4 + 2 * sN))) (rfl) dX3_read_48 ?_
      refine lv_astore (lv' := [(4, .ref (slA (rotA A fi.2.2.1) 0 (4 + 2 * sN))), (3, .ref (slA (rotA A fi.2.2.1) (kpt fi.2.2.1) (4 + 2 * sN))), (2, .int r_2), (0, .ref (A 0)), (1, .int (nI sN))]) hx hb dX3_read_49 hl (by decide) rfl (fun ls hl => ?_)
      refine lv_aload hx hb dX3_read_51 (lv_at hl 0 rfl) ?_
      refine lv_aload_n hx hb dX3_read_53 rfl (lv_at hl 3 rfl) ?_
      refine r_get (C := RX3) (Tb := TX3) (N := 5) hx hb hts in_wsX30 hown hK (hP.2.1) rfl 4 (by decide) (hts (.fieldLink RX3 34 "PieceSets" "scratch" "LPieceSets$Numbers;") (by decide +kernel)) rfl (v := .ref ((rotA A fi.2.2.1) 4)) rfl dX3_read_54 ?_
      refine va_callv (va_runVN (As := [.ref ((rotA A fi.2.2.1) 4)]) (rest := []) ⟨hx, hb, hml, hown, hts⟩ (k_X1_become l D T (slA (rotA A fi.2.2.1) 0 (4 + 2 * sN)) (slA (rotA A fi.2.2.1) 0 (5 + 2 * sN)) (W0 0 sN) ((rotA A fi.2.2.1) 4) ((rotA A fi.2.2.1) 5) u_1 ((slA_lo hP.1 (by decide) (by omega) (by decide)))) (⟨va_cnB 1 hts ggX3_read_X1_become rfl rfl rfl (hK.2.m (args := ([.ref (A 0), .int (nI sN)] : List Value).toArray) 30 rfl) (hts (.initialized RX1) (by decide +kernel)) (by decide +kernel) ⟨Nat.le_of_ble_eq_true rfl, Nat.le_of_ble_eq_true rfl⟩, hts (.instanceMethod yX1_become) (by decide +kernel), hts (.selects RX1 yX1_become yX1_become) (by decide +kernel)⟩) (pre_V (Φ := fun X => Num D T X (slA (rotA A fi.2.2.1) 0 (4 + 2 * sN)) (slA (rotA A fi.2.2.1) 0 (5 + 2 * sN)) (W0 0 sN) ∧ Num D T X ((rotA A fi.2.2.1) 4) ((rotA A fi.2.2.1) 5) u_1) hK (hNu.1) rfl ⟨hNu, hP.2.2.2.2.1⟩) rfl rfl hl.1 rfl (lv_room (Nat.le_of_ble_eq_true rfl)) dX3_read_57 ⟨Nat.le_of_ble_eq_true rfl, Nat.le_of_ble_eq_true rfl⟩) hS (fun q _ h => by rw [h]; exact hSy (6 + 16 * 0 + (5 + 2 * sN)) (by omega)) (fun q h => by rw [h]; exact hSy (6 + 16 * 0 + (5 + 2 * sN)) (by omega)) (fun u_3 t H_3 locs ht hvm hw hB hz hk hS => ?_)
      rw [ht] at hB
      try dsimp only at hw
      try dsimp only at hB
      have hF9 : Fr _ _ _ := hk
      have hNb := hF9.num hNb (fun z => absurd (slA_inj hP.1 (by omega) (by omega) (by omega) (by omega) z) (by omega)) (fun z => absurd (slA_inj hP.1 (by omega) (by omega) (by omega) (by omega) z) (by omega))
      have hNu := hB
      have hP := hP.setW (n := 0) (s := sN) (by decide) hsN hB hF9
      refine lv_aload_n hx hb dX3_read_60 rfl (lv_at hl 3 rfl) ?_
      refine r_get (C := RX3) (Tb := TX3) (N := 5) hx hb hts in_wsX30 hown hK (hP.2.1) rfl 0 (by decide) (hts (.fieldLink RX3 10 "PieceSets" "now" "LPieceSets$State;") (by decide +kernel)) rfl (v := .ref (slA (rotA A fi.2.2.1) 0 0)) rfl dX3_read_61 ?_
      refine lv_aload_n hx hb dX3_read_64 rfl (lv_at hl 1 rfl) ?_
      refine lv_aload hx hb dX3_read_65 (lv_at hl 0 rfl) ?_
      refine va_callv (va_runVN (As := [.ref (slA (rotA A fi.2.2.1) (kpt fi.2.2.1) (4 + 2 * sN)), .ref (slA (rotA A fi.2.2.1) 0 (4 + 2 * sN))]) (rest := []) ⟨hx, hb, hml, hown, hts⟩ (k_X2_countConversions l D T (slA (rotA A fi.2.2.1) 0 0) (slA (rotA A fi.2.2.1) 0 1) (slA (rotA A fi.2.2.1) 0 2) (slA (rotA A fi.2.2.1) 0 3) ((rotW co fi.2.2.1) 0) (slA (rotA A fi.2.2.1) (kpt fi.2.2.1) (4 + 2 * sN)) (slA (rotA A fi.2.2.1) (kpt fi.2.2.1) (5 + 2 * sN)) (W0 0 sN) (slA (rotA A fi.2.2.1) 0 (4 + 2 * sN)) (slA (rotA A fi.2.2.1) 0 (5 + 2 * sN)) u_1 ) (⟨va_cnB 2 hts ggX3_read_X2_countConversions rfl rfl rfl (hK.2.m (args := ([.ref (A 0), .int (nI sN)] : List Value).toArray) 12 rfl) (hts (.initialized RX2) (by decide +kernel)) (by decide +kernel) ⟨Nat.le_of_ble_eq_true rfl, Nat.le_of_ble_eq_true rfl⟩, hts (.instanceMethod yX2_countConversions) (by decide +kernel), hts (.selects RX2 yX2_countConversions yX2_countConversions) (by decide +kernel)⟩) (pre_V (Φ := fun X => va_at D vwCl ((slA (rotA A fi.2.2.1) 0 0), .inr (2, [.ref (slA (rotA A fi.2.2.1) 0 1), .ref (slA (rotA A fi.2.2.1) 0 2), .ref (slA (rotA A fi.2.2.1) 0 3)])) X ∧ va_at D vwCl ((slA (rotA A fi.2.2.1) 0 3), eI T 9 ((rotW co fi.2.2.1) 0)) X ∧ Num D T X (slA (rotA A fi.2.2.1) (kpt fi.2.2.1) (4 + 2 * sN)) (slA (rotA A fi.2.2.1) (kpt fi.2.2.1) (5 + 2 * sN)) (W0 0 sN) ∧ Num D T X (slA (rotA A fi.2.2.1) 0 (4 + 2 * sN)) (slA (rotA A fi.2.2.1) 0 (5 + 2 * sN)) u_1) hK ((hP.2.2.2.2.2 0 (by omega)).1) rfl ⟨(hP.2.2.2.2.2 0 (by omega)).1, (hP.2.2.2.2.2 0 (by omega)).2.2.2.1, hNb, hNu⟩) rfl rfl hl.1 rfl (lv_room (Nat.le_of_ble_eq_true rfl)) dX3_read_67 ⟨Nat.le_of_ble_eq_true rfl, Nat.le_of_ble_eq_true rfl⟩) hS (fun q _ h => by rw [h]; exact hSy (6 + 16 * 0 + 3) (by omega)) (fun q h => by rw [h]; exact hSy (6 + 16 * 0 + 3) (by omega)) (fun u_4 t H_4 locs ht hvm hw hB hz hk hS => ?_)
      rw [ht] at hB
      try dsimp only at hw
      try dsimp only at hB
      have hF9 : Fr _ _ _ := hk
      have hNb := hF9.num hNb (fun z => absurd (slA_inj hP.1 (by omega) (by omega) (by omega) (by omega) z) (by omega)) (fun z => absurd (slA_inj hP.1 (by omega) (by omega) (by omega) (by omega) z) (by omega))
      have hNu := hF9.num hNu (fun z => absurd (slA_inj hP.1 (by omega) (by omega) (by omega) (by omega) z) (by omega)) (fun z => absurd (slA_inj hP.1 (by omega) (by omega) (by omega) (by omega) z) (by omega))
      have hP := hP.setC (n := 0) (by decide) hB hF9
      refine lv_aload_n hx hb dX3_read_70 rfl (lv_at hl 3 rfl) ?_
      refine r_get (C := RX3) (Tb := TX3) (N := 5) hx hb hts in_wsX30 hown hK (hP.2.1) rfl 3 (by decide) (hts (.fieldLink RX3 27 "PieceSets" "buffer" "LPieceSets$Buffer;") (by decide +kernel)) rfl (v := .ref ((rotA A fi.2.2.1) 2)) rfl dX3_read_71 ?_
      refine lv_iconst (v := (nI 0)) hx hb dX3_read_74 (by decide) ?_
      refine r_putN (C := RX0) (Tb := TX0) (N := 2) (host := "PieceSets") hx hb hts in_wsX00 tyX0 tyX0_ok nmX0 hown hK hS (hSy 2 (by decide)) hP.2.2.2.1.1 rfl 1 (by decide) (hK.2.f (args := ([.ref (A 0), .int (nI sN)] : List Value).toArray) 7 rfl) rfl rfl (ty := .int) (by decide +kernel) rfl rfl (show (1 : Nat) < 2 by decide) dX3_read_75 (fun H_5 locs hat oq hS => ?_)
      have hF9 := Fr.oq oq
      have hNb := hF9.num hNb (slA_lo hP.1 (by omega) (by omega) (by decide)).symm (slA_lo hP.1 (by omega) (by omega) (by decide)).symm
      have hNu := hF9.num hNu (slA_lo hP.1 (by omega) (by omega) (by decide)).symm (slA_lo hP.1 (by omega) (by omega) (by decide)).symm
      have hP := hP.setB (rb' := fi.2.2.2.1) (bl' := 0) ⟨hat, hF9.at hP.2.2.2.1.2 (hP.1.ne 3 2 (by decide) (by decide) (by decide))⟩ hF9 (fun q e => Or.inl e)
      refine lv_aload hx hb dX3_read_78 (lv_at hl 0 rfl) ?_
      refine vp_callSi (va_Run.run (va_runVN (As := []) (rest := []) ⟨hx, hb, hml, hown, hts⟩ (k_X1_count l D T (slA (rotA A fi.2.2.1) 0 (4 + 2 * sN)) (slA (rotA A fi.2.2.1) 0 (5 + 2 * sN)) u_1 ) (⟨va_cnB 0 hts ggX3_read_X1_count rfl rfl rfl (hK.2.m (args := ([.ref (A 0), .int (nI sN)] : List Value).toArray) 15 rfl) (hts (.initialized RX1) (by decide +kernel)) (by decide +kernel) ⟨Nat.le_of_ble_eq_true rfl, Nat.le_of_ble_eq_true rfl⟩, hts (.instanceMethod yX1_count) (by decide +kernel), hts (.selects RX1 yX1_count yX1_count) (by decide +kernel)⟩) (pre_V (Φ := fun X => Num D T X (slA (rotA A fi.2.2.1) 0 (4 + 2 * sN)) (slA (rotA A fi.2.2.1) 0 (5 + 2 * sN)) u_1) hK (hNu.1) rfl hNu) rfl rfl hl.1 rfl (lv_room (Nat.le_of_ble_eq_true rfl)) dX3_read_80 ⟨Nat.le_of_ble_eq_true rfl, Nat.le_of_ble_eq_true rfl⟩)) (fun r_6 hr_6 => ?_)
      subst hr_6
      subst hQ
      have hfin : PSE D T H_5 (rotA A fi.2.2.1) Sx (reaN fi (nI sN)) := by
        unfold reaN
        rw [if_pos ⟨okN hsN (by decide), htr⟩, cl_n (by omega)]
        refine PSE.mk hSx hrb (Nat.zero_le _) hk5 hR0 hRh hP (fun n h => up_n h) (fun n _ => rfl) (fun n h => up_n h) ?_
        rw [up_0, up_0, rotW_0, rotW_0, rotW_0]
        exact act_rep hR0 hsN ((hwp.1 htr).2)
      exact W.iret (v := (nI (ct (bitL u_1) 0 4096))) hx hb hr (fun t ht hW => ⟨⟨(nI (ct (bitL u_1) 0 4096)), (), rfl, (by unfold reaR; rw [if_pos (okN hsN (by decide)), if_pos htr]; exact congrArg nI (ct_cong (fun z _ hz => (hwp.1 htr).2 z (by omega)))), by have h9 := exB (A := A) (rotA_lo A fi.2.2.1 (j := 0) (by decide)) hfin; rw [← ht] at h9; exact h9⟩, hS.F ht⟩) hS.2.2 dX3_read_83
    · skip
      refine lv_bipush (v := (-100)) hx hb dX3_read_25 (by decide) ?_
      refine lv_iload_n hx hb dX3_read_27 rfl (lv_at hl 0 rfl) ?_
      refine lv_isub hx hb dX3_read_28 ?_
      subst hQ
      have hfl := rea_f hwp c_2
      have hfin : PSE D T H_1 A Sx (reaN fi (nI sN)) := by
        unfold reaN
        rw [if_neg (fun z => by have h9 := z.2; rw [hfl] at h9; exact absurd h9 (by decide))]
        exact ⟨W0, me, co, _, hP, hSx, hrb, hbl, hk5, hR0, hRh⟩
      exact W.iret (v := ((-100) - r_2)) hx hb hr (fun t ht hW => ⟨⟨((-100) - r_2), (), rfl, (by unfold reaR; rw [if_pos (okN hsN (by decide)), if_neg (by rw [hfl]; decide), ← hwp.2 hfl]), by have h9 := exB (A := A) rfl hfin; rw [← ht] at h9; exact h9⟩, hS.F ht⟩) hS.2.2 dX3_read_29
  · skip
    have c_1 : (decide (¬ ss < 0 ∧ ss < nI 6)) = false := b2i_0.mp c_1
    have c_1 : ¬ (¬ ss < 0 ∧ ss < nI 6) := of_decide_eq_false c_1
    refine lv_iconst (v := (-1)) hx hb dX3_read_7 (by decide) ?_
    subst hQ
    have hfin : PSE D T s.heap A Sx (reaN fi ss) := by unfold reaN; rw [if_neg (fun z => c_1 z.1)]; exact hH
    exact W.iret (v := (-1)) hx hb hr (fun t ht hW => ⟨⟨(-1), (), rfl, ((if_neg c_1).symm), by have h9 := exB (A := A) rfl hfin; rw [← ht] at h9; exact h9⟩, hS.F ht⟩) hS.2.2 dX3_read_8
