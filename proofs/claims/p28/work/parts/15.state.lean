set_option maxHeartbeats 4000000 in
set_option maxRecDepth 100000 in
theorem k_X2_become (l : Launch) (D : va_G) (T : Nat → ClassId) (a : Nat → Nat) (W0 : Nat → Nat → Int64) (me : Nat → Int32) (co : Nat → Int32) (b : Nat → Nat) (V0 : Nat → Nat → Int64) (mf : Nat → Int32) (cf : Nat → Int32) (hi : inj a 16) (hd : ∀ i j, i < 16 → j < 16 → a i ≠ b j) : Met l yX2_become wsX2_become ({ frames := 2, cells := 0, slots := 0, locals := 81 }) (va_Pc [.ref (a 0), .ref (b 0)] (fun U => KS D T U ∧ Sta D T U.heap a W0 me co ∧ Sta D T U.heap b V0 mf cf)) (va_Qv (fun (u : Unit) => True) (fun u t => Sta D T t.heap a V0 mf cf) (fun q => ∃ i, i < 16 ∧ q = a i)) 0 0 (fun q => ∃ i, i < 16 ∧ q = a i) := by
  refine Met.ofW (cc := cX2_become) (maxL := 3) (ret := none) (by decide) rfl ?_
  intro pg ev s m args below meth c s₁ B hml hv
  obtain ⟨rfl, hK, hH⟩ := hv
  have hx := B.exec
  have hb := B.bytes
  have hr := B.returns
  have hts := atoms_spec (ws := wsX2_become) B.pre
  have hown : s.vm.findClass RX2 = some m.cls := findClass_of_methodNamed B.named
  have hlocks := B.notSynchronized
  have in_wsX20 : ∀ w ∈ wsX20, w ∈ wsX2_become := fun w h => List.mem_cons_of_mem _ (List.mem_append_left _ (List.mem_append_right _ h))
  have in_wsX10 : ∀ w ∈ wsX10, w ∈ wsX2_become := fun w h => List.mem_cons_of_mem _ (List.mem_append_right _ h)
  have hS : va_S (fun q => ∃ i, i < 16 ∧ q = a i) s.heap s.heap [] := va_S.rf
  have hl := lv_entry ([.ref (a 0), .ref (b 0)]) (n := 3) (Nat.le_of_ble_eq_true rfl)
  rw [lg_entry_eq]
  generalize (lg_sl ([.ref (a 0), .ref (b 0)]) ++ List.replicate (3 - (lg_sl ([.ref (a 0), .ref (b 0)])).length) Slot.unset).toArray = ls at hl ⊢
  have hl : lv_has ls 3 [(0, .ref (a 0)), (1, .ref (b 0))] := hl
  refine W_gen (fun Q hQ => ?_)
  have hA := hH.1
  have hE := hH.2
  refine lv_iconst (v := (nI 0)) hx hb dX2_become_0 (by decide) ?_
  refine lv_istore_n (lv' := [(2, .int (nI 0)), (0, .ref (a 0)), (1, .ref (b 0))]) hx hb dX2_become_1 rfl hl (by decide) rfl (fun ls hl => ?_)
  have loop2 : ∀ (n2 : Nat) (k : Nat) (hk6 : k ≤ 6) (H : Heap) (locs : List Loc) (hA : Sta D T H a (stW V0 W0 k) me co) (hE : Sta D T H b V0 mf cf) (hS : va_S (fun q => ∃ i, i < 16 ∧ q = a i) s.heap H locs) (ls : Array Slot) (hl : lv_has ls 3 [(0, .ref (a 0)), (1, .ref (b 0)), (2, .int (nI k))]) (hn2 : 6 - k < n2), W pg l ev (headSpec wsX2_become ({ frames := 2, cells := 0, slots := 0, locals := 81 })).room s m ([.ref (a 0), .ref (b 0)] : List Value).toArray below meth c H locs 0 0 Q (F0 m 2 ls []) := by
    intro n2
    induction n2 with
    | zero =>
      intro k hk6 H locs hA hE hS ls hl hn2
      exact absurd hn2 (Nat.not_lt_zero _)
    | succ n2 ih2 =>
      intro k hk6 H locs hA hE hS ls hl hn2
      refine lv_iload_n hx hb dX2_become_2 rfl (lv_at hl 2 rfl) ?_
      refine lv_bipush (v := (nI 6)) hx hb dX2_become_3 (by decide) ?_
      refine lv_icmp_ge (tgt := 29) hx hb dX2_become_5 (by decide) (fun c_1 => ?_) (fun c_1 => ?_)
      · skip
        have c_1 : 6 ≤ k := (nI_leI (a := 6) (b := k) (by omega) (by omega)).mp c_1
        refine lv_aload_n hx hb dX2_become_29 rfl (lv_at hl 1 rfl) ?_
        refine r_get (C := RX2) (Tb := TX2) (N := 3) hx hb hts in_wsX20 hown hK (hE.1) rfl 1 (by decide) (hts (.fieldLink RX2 18 "PieceSets$State" "meetings" "[I") (by decide +kernel)) rfl (v := .ref (b 2)) rfl dX2_become_30 ?_
        refine lv_iconst (v := (nI 0)) hx hb dX2_become_33 (by decide) ?_
        refine lv_aload_n hx hb dX2_become_34 rfl (lv_at hl 0 rfl) ?_
        refine r_get (C := RX2) (Tb := TX2) (N := 3) hx hb hts in_wsX20 hown hK (hA.1) rfl 1 (by decide) (hts (.fieldLink RX2 18 "PieceSets$State" "meetings" "[I") (by decide +kernel)) rfl (v := .ref (a 2)) rfl dX2_become_35 ?_
        refine lv_iconst (v := (nI 0)) hx hb dX2_become_38 (by decide) ?_
        refine lv_bipush (v := (nI 9)) hx hb dX2_become_39 (by decide) ?_
        refine r_copyI hx hb (hml.trans hl.1.symm) hown (hts (.methodLink RX2 29 arraycopyName) (by decide +kernel)) (hts (.native arraycopyName) (by decide +kernel)) (hts (.static arraycopyName) (by decide +kernel)) (hts (.initialized "java/lang/System") (by decide +kernel)) hK hS ⟨2, by omega, rfl⟩ hE.2.2.1 hA.2.2.1 (by decide) (Nat.le_of_ble_eq_true rfl) (Nat.le_of_ble_eq_true rfl) dX2_become_41 (fun H_1 locs hat oq hS => ?_)
        have hA := hA.setM hi hat (Fr.oq oq)
        have hE := hE.fr (Fr.oq oq) (fun i h z => hd _ _ (by omega) h z.symm)
        refine lv_aload_n hx hb dX2_become_44 rfl (lv_at hl 1 rfl) ?_
        refine r_get (C := RX2) (Tb := TX2) (N := 3) hx hb hts in_wsX20 hown hK (hE.1) rfl 2 (by decide) (hts (.fieldLink RX2 22 "PieceSets$State" "conversions" "[I") (by decide +kernel)) rfl (v := .ref (b 3)) rfl dX2_become_45 ?_
        refine lv_iconst (v := (nI 0)) hx hb dX2_become_48 (by decide) ?_
        refine lv_aload_n hx hb dX2_become_49 rfl (lv_at hl 0 rfl) ?_
        refine r_get (C := RX2) (Tb := TX2) (N := 3) hx hb hts in_wsX20 hown hK (hA.1) rfl 2 (by decide) (hts (.fieldLink RX2 22 "PieceSets$State" "conversions" "[I") (by decide +kernel)) rfl (v := .ref (a 3)) rfl dX2_become_50 ?_
        refine lv_iconst (v := (nI 0)) hx hb dX2_become_53 (by decide) ?_
        refine lv_bipush (v := (nI 9)) hx hb dX2_become_54 (by decide) ?_
        refine r_copyI hx hb (hml.trans hl.1.symm) hown (hts (.methodLink RX2 29 arraycopyName) (by decide +kernel)) (hts (.native arraycopyName) (by decide +kernel)) (hts (.static arraycopyName) (by decide +kernel)) (hts (.initialized "java/lang/System") (by decide +kernel)) hK hS ⟨3, by omega, rfl⟩ hE.2.2.2.1 hA.2.2.2.1 (by decide) (Nat.le_of_ble_eq_true rfl) (Nat.le_of_ble_eq_true rfl) dX2_become_56 (fun H_2 locs hat oq hS => ?_)
        have hA := hA.setC hi hat (Fr.oq oq)
        have hE := hE.fr (Fr.oq oq) (fun i h z => hd _ _ (by omega) h z.symm)
        subst hQ
        exact W.vret hx hb hr (fun t ht hW => ⟨⟨(), rfl, trivial, by have h9 := hA.cong (fun s hs => (if_pos (show s < k by omega)).symm); rw [← ht] at h9; exact h9⟩, hS.F ht⟩) hS.2.2 dX2_become_59
      · skip
        have c_1 : ¬ (6 ≤ k) := fun z => c_1 ((nI_leI (a := 6) (b := k) (by omega) (by omega)).mpr z)
        refine lv_aload_n hx hb dX2_become_8 rfl (lv_at hl 0 rfl) ?_
        refine r_get (C := RX2) (Tb := TX2) (N := 3) hx hb hts in_wsX20 hown hK (hA.1) rfl 0 (by decide) (hts (.fieldLink RX2 11 "PieceSets$State" "sets" "[LPieceSets$Numbers;") (by decide +kernel)) rfl (v := .ref (a 1)) rfl dX2_become_9 ?_
        refine lv_iload_n hx hb dX2_become_12 rfl (lv_at hl 2 rfl) ?_
        refine r_nald hx hb hK (hA.2.1) (i := k) (by omega) (by decide) (q := (a (4 + 2 * k))) (rfl) dX2_become_13 ?_
        refine lv_aload_n hx hb dX2_become_14 rfl (lv_at hl 1 rfl) ?_
        refine r_get (C := RX2) (Tb := TX2) (N := 3) hx hb hts in_wsX20 hown hK (hE.1) rfl 0 (by decide) (hts (.fieldLink RX2 11 "PieceSets$State" "sets" "[LPieceSets$Numbers;") (by decide +kernel)) rfl (v := .ref (b 1)) rfl dX2_become_15 ?_
        refine lv_iload_n hx hb dX2_become_18 rfl (lv_at hl 2 rfl) ?_
        refine r_nald hx hb hK (hE.2.1) (i := k) (by omega) (by decide) (q := (b (4 + 2 * k))) (rfl) dX2_become_19 ?_
        refine va_callv (va_runVN (As := [.ref (b (4 + 2 * k))]) (rest := []) ⟨hx, hb, hml, hown, hts⟩ (k_X1_become l D T (a (4 + 2 * k)) (a (5 + 2 * k)) (stW V0 W0 k k) (b (4 + 2 * k)) (b (5 + 2 * k)) (V0 k) ((hd _ _ (by omega) (by omega)).symm)) (⟨va_cnB 1 hts ggX2_become_X1_become rfl rfl rfl (hK.2.m (args := ([.ref (a 0), .ref (b 0)] : List Value).toArray) 10 rfl) (hts (.initialized RX1) (by decide +kernel)) (by decide +kernel) ⟨Nat.le_of_ble_eq_true rfl, Nat.le_of_ble_eq_true rfl⟩, hts (.instanceMethod yX1_become) (by decide +kernel), hts (.selects RX1 yX1_become yX1_become) (by decide +kernel)⟩) (pre_V (Φ := fun X => Num D T X (a (4 + 2 * k)) (a (5 + 2 * k)) (stW V0 W0 k k) ∧ Num D T X (b (4 + 2 * k)) (b (5 + 2 * k)) (V0 k)) hK ((hA.2.2.2.2 k (by omega)).1) rfl ⟨hA.2.2.2.2 k (by omega), hE.2.2.2.2 k (by omega)⟩) rfl rfl hl.1 rfl (lv_room (Nat.le_of_ble_eq_true rfl)) dX2_become_20 ⟨Nat.le_of_ble_eq_true rfl, Nat.le_of_ble_eq_true rfl⟩) hS (fun q _ h => ⟨5 + 2 * k, by omega, h⟩) (fun q h => ⟨5 + 2 * k, by omega, h⟩) (fun u_1 t H_1 locs ht hvm hw hB hz hk hS => ?_)
        rw [ht] at hB
        try dsimp only at hw
        try dsimp only at hB
        have hF : Fr _ _ _ := hk
        have hA := hA.setW (V := stW V0 W0 (k + 1)) hi (by omega) hB hF (if_pos (Nat.lt_succ_self _)) (fun s _ h => by unfold stW; by_cases z : s < k; rw [if_pos z, if_pos (by omega)]; rw [if_neg z, if_neg (by omega)])
        have hE := hE.fr hF (fun i h z => hd _ _ (by omega) h z.symm)
        refine lv_iinc (v := (nI (k + 1))) (lv' := [(2, .int (nI (k + 1))), (0, .ref (a 0)), (1, .ref (b 0))]) hx hb dX2_become_23 hl (k := 2) rfl (iinc_n k 1) (by decide) rfl (fun ls hl => ?_)
        refine lv_goto (tgt := 2) hx hb dX2_become_26 (by decide) ?_
        have hl := lv_sub hl (l' := [(0, .ref (a 0)), (1, .ref (b 0)), (2, .int (nI (k + 1)))]) [1, 2, 0] rfl
        exact ih2 (k + 1) (by omega) H_1 _ hA hE hS ls hl (by omega)
  have hA := hA.cong (V := stW V0 W0 0) (fun s _ => if_neg (Nat.not_lt_zero _))
  have hl := lv_sub hl (l' := [(0, .ref (a 0)), (1, .ref (b 0)), (2, .int (nI 0))]) [1, 2, 0] rfl
  exact loop2 (6 - 0 + 1) 0 (Nat.zero_le _) s.heap _ hA hE hS ls hl (Nat.lt_succ_self _)
set_option maxHeartbeats 4000000 in
set_option maxRecDepth 100000 in
theorem k_X2_countMeetings (l : Launch) (D : va_G) (T : Nat → ClassId) (o : Nat) (x1 : Nat) (x2 : Nat) (x3 : Nat) (m9 : Nat → Int32) (h1 : Nat) (w1 : Nat) (f : Nat → Int64) (h2 : Nat) (w2 : Nat) (g : Nat → Int64) : Met l yX2_countMeetings wsX2_countMeetings ({ frames := 3, cells := 0, slots := 0, locals := 73 }) (va_Pc [.ref o, .ref h1, .ref h2] (fun U => KS D T U ∧ va_at D vwCl (o, .inr (2, [.ref x1, .ref x2, .ref x3])) U.heap ∧ va_at D vwCl (x2, eI T 9 m9) U.heap ∧ Num D T U.heap h1 w1 f ∧ Num D T U.heap h2 w2 g)) (va_Qv (fun (u : Unit) => True) (fun u t => va_at D vwCl (x2, eI T 9 (mtF (bitL f) (bitL g) 16 m9)) t.heap) (fun q => q = x2)) 0 0 (fun q => q = x2) := by
  refine Met.ofW (cc := cX2_countMeetings) (maxL := 6) (ret := none) (by decide) rfl ?_
  intro pg ev s m args below meth c s₁ B hml hv
  obtain ⟨rfl, hK, hH⟩ := hv
  have hx := B.exec
  have hb := B.bytes
  have hr := B.returns
  have hts := atoms_spec (ws := wsX2_countMeetings) B.pre
  have hown : s.vm.findClass RX2 = some m.cls := findClass_of_methodNamed B.named
  have hlocks := B.notSynchronized
  have in_wsX20 : ∀ w ∈ wsX20, w ∈ wsX2_countMeetings := fun w h => List.mem_cons_of_mem _ (List.mem_append_left _ (List.mem_append_right _ h))
  have in_wsX10 : ∀ w ∈ wsX10, w ∈ wsX2_countMeetings := fun w h => List.mem_cons_of_mem _ (List.mem_append_right _ h)
  have hS : va_S (fun q => q = x2) s.heap s.heap [] := va_S.rf
  have hl := lv_entry ([.ref o, .ref h1, .ref h2]) (n := 6) (Nat.le_of_ble_eq_true rfl)
  rw [lg_entry_eq]
  generalize (lg_sl ([.ref o, .ref h1, .ref h2]) ++ List.replicate (6 - (lg_sl ([.ref o, .ref h1, .ref h2])).length) Slot.unset).toArray = ls at hl ⊢
  have hl : lv_has ls 6 [(0, .ref o), (1, .ref h1), (2, .ref h2)] := hl
  refine W_gen (fun Q hQ => ?_)
  have hO := hH.1
  have hR := hH.2.1
  have hM := hH.2.2.1
  have hL := hH.2.2.2
  refine lv_iconst (v := (nI 0)) hx hb dX2_countMeetings_0 (by decide) ?_
  refine lv_istore_n (lv' := [(3, .int (nI 0)), (0, .ref o), (1, .ref h1), (2, .ref h2)]) hx hb dX2_countMeetings_1 rfl hl (by decide) rfl (fun ls hl => ?_)
  have loop2 : ∀ (n2 : Nat) (k : Nat) (hk16 : k ≤ 16) (H : Heap) (locs : List Loc) (hO : va_at D vwCl (o, .inr (2, [.ref x1, .ref x2, .ref x3])) H) (hR : va_at D vwCl (x2, eI T 9 (mtF (bitL f) (bitL g) k m9)) H) (hM : Num D T H h1 w1 f) (hL : Num D T H h2 w2 g) (hS : va_S (fun q => q = x2) s.heap H locs) (ls : Array Slot) (hl : lv_has ls 6 [(0, .ref o), (1, .ref h1), (2, .ref h2), (3, .int (nI k))]) (hn2 : 16 - k < n2), W pg l ev (headSpec wsX2_countMeetings ({ frames := 3, cells := 0, slots := 0, locals := 73 })).room s m ([.ref o, .ref h1, .ref h2] : List Value).toArray below meth c H locs 0 0 Q (F0 m 2 ls []) := by
    intro n2
    induction n2 with
    | zero =>
      intro k hk16 H locs hO hR hM hL hS ls hl hn2
      exact absurd hn2 (Nat.not_lt_zero _)
    | succ n2 ih2 =>
      intro k hk16 H locs hO hR hM hL hS ls hl hn2
      have hkf := kk_lt (bitL f) k
      have hkg := kk_lt (bitL g) k
      refine lv_iload_n hx hb dX2_countMeetings_2 rfl (lv_at hl 3 rfl) ?_
      refine lv_bipush (v := (nI 16)) hx hb dX2_countMeetings_3 (by decide) ?_
      refine lv_icmp_ge (tgt := 60) hx hb dX2_countMeetings_5 (by decide) (fun c_1 => ?_) (fun c_1 => ?_)
      · skip
        have c_1 : 16 ≤ k := (nI_leI (a := 16) (b := k) (by omega) (by omega)).mp c_1
        subst hQ
        exact W.vret hx hb hr (fun t ht hW => ⟨⟨(), rfl, trivial, by have h9 := at_congI hR (g := mtF (bitL f) (bitL g) 16 m9) (fun j _ => by rw [show k = 16 by omega]); rw [← ht] at h9; exact h9⟩, hS.F ht⟩) hS.2.2 dX2_countMeetings_60
      · skip
        have c_1 : ¬ (16 ≤ k) := fun z => c_1 ((nI_leI (a := 16) (b := k) (by omega) (by omega)).mpr z)
        refine lv_aload_n hx hb dX2_countMeetings_8 rfl (lv_at hl 1 rfl) ?_
        refine lv_iload_n hx hb dX2_countMeetings_9 rfl (lv_at hl 3 rfl) ?_
        refine vp_callSi (va_Run.run (va_runVN (As := [.int (nI k)]) (rest := []) ⟨hx, hb, hml, hown, hts⟩ (k_X1_kindOf l D T h1 w1 f k (by omega)) (⟨va_cnB 1 hts ggX2_countMeetings_X1_kindOf rfl rfl rfl (hK.2.m (args := ([.ref o, .ref h1, .ref h2] : List Value).toArray) 13 rfl) (hts (.initialized RX1) (by decide +kernel)) (by decide +kernel) ⟨Nat.le_of_ble_eq_true rfl, Nat.le_of_ble_eq_true rfl⟩, hts (.instanceMethod yX1_kindOf) (by decide +kernel), hts (.selects RX1 yX1_kindOf yX1_kindOf) (by decide +kernel)⟩) (pre_V (Φ := fun X => Num D T X h1 w1 f) hK (hM.1) rfl hM) rfl rfl hl.1 rfl (lv_room (Nat.le_of_ble_eq_true rfl)) dX2_countMeetings_10 ⟨Nat.le_of_ble_eq_true rfl, Nat.le_of_ble_eq_true rfl⟩)) (fun r_1 hr_1 => ?_)
        subst hr_1
        refine lv_istore (lv' := [(4, .int (pkd (bitL f) k)), (0, .ref o), (1, .ref h1), (2, .ref h2), (3, .int (nI k))]) hx hb dX2_countMeetings_13 hl (by decide) rfl (fun ls hl => ?_)
        refine lv_aload_n hx hb dX2_countMeetings_15 rfl (lv_at hl 3 rfl) ?_
        refine lv_iload_n hx hb dX2_countMeetings_16 rfl (lv_at hl 4 rfl) ?_
        refine vp_callSi (va_Run.run (va_runVN (As := [.int (nI k)]) (rest := []) ⟨hx, hb, hml, hown, hts⟩ (k_X1_kindOf l D T h2 w2 g k (by omega)) (⟨va_cnB 1 hts ggX2_countMeetings_X1_kindOf rfl rfl rfl (hK.2.m (args := ([.ref o, .ref h1, .ref h2] : List Value).toArray) 13 rfl) (hts (.initialized RX1) (by decide +kernel)) (by decide +kernel) ⟨Nat.le_of_ble_eq_true rfl, Nat.le_of_ble_eq_true rfl⟩, hts (.instanceMethod yX1_kindOf) (by decide +kernel), hts (.selects RX1 yX1_kindOf yX1_kindOf) (by decide +kernel)⟩) (pre_V (Φ := fun X => Num D T X h2 w2 g) hK (hL.1) rfl hL) rfl rfl hl.1 rfl (lv_room (Nat.le_of_ble_eq_true rfl)) dX2_countMeetings_17 ⟨Nat.le_of_ble_eq_true rfl, Nat.le_of_ble_eq_true rfl⟩)) (fun r_2 hr_2 => ?_)
        subst hr_2
        refine lv_istore (lv' := [(5, .int (pkd (bitL g) k)), (4, .int (pkd (bitL f) k)), (0, .ref o), (1, .ref h1), (2, .ref h2), (3, .int (nI k))]) hx hb dX2_countMeetings_20 hl (by decide) rfl (fun ls hl => ?_)
        refine lv_iload hx hb dX2_countMeetings_22 (lv_at hl 1 rfl) ?_
        refine vp_callSi (va_Run.run (va_runSN (As := [.int (pkd (bitL f) k)]) (rest := []) ⟨hx, hb, hml, hown, hts⟩ (k_X3_isKind l D T (pkd (bitL f) k) ) (⟨va_cnB 1 hts ggX2_countMeetings_X3_isKind rfl rfl rfl (hK.2.m (args := ([.ref o, .ref h1, .ref h2] : List Value).toArray) 14 rfl) (hts (.initialized RX3) (by decide +kernel)) (by decide +kernel) ⟨Nat.le_of_ble_eq_true rfl, Nat.le_of_ble_eq_true rfl⟩, hts (.static yX3_isKind) (by decide +kernel), trivial⟩) (pre_S (Φ := fun X => True) hK trivial) rfl rfl hl.1 rfl (lv_room (Nat.le_of_ble_eq_true rfl)) dX2_countMeetings_24 ⟨Nat.le_of_ble_eq_true rfl, Nat.le_of_ble_eq_true rfl⟩)) (fun r_3 hr_3 => ?_)
        subst hr_3
        refine lv_if_eq (tgt := 54) hx hb dX2_countMeetings_27 (by decide) (fun c_2 => ?_) (fun c_2 => ?_)
        · skip
          have c_2 : (decide (¬ (pkd (bitL f) k) < 0 ∧ (pkd (bitL f) k) < nI 3)) = false := b2i_0.mp c_2
          have c_2 : ¬ (¬ (pkd (bitL f) k) < 0 ∧ (pkd (bitL f) k) < nI 3) := of_decide_eq_false c_2
          have hR := at_congI hR (g := mtF (bitL f) (bitL g) (k + 1) m9) (fun j _ => by simp only [mtF]; rw [if_neg (fun z => c_2 ((isk _ _).mpr z.1))])
          refine lv_iinc (v := (nI (k + 1))) (lv' := [(3, .int (nI (k + 1))), (5, .int (pkd (bitL g) k)), (4, .int (pkd (bitL f) k)), (0, .ref o), (1, .ref h1), (2, .ref h2)]) hx hb dX2_countMeetings_54 hl (k := 5) rfl (iinc_n k 1) (by decide) rfl (fun ls hl => ?_)
          refine lv_goto (tgt := 2) hx hb dX2_countMeetings_57 (by decide) ?_
          have hl := lv_sub hl (l' := [(0, .ref o), (1, .ref h1), (2, .ref h2), (3, .int (nI (k + 1)))]) [3, 4, 5, 0] rfl
          exact ih2 (k + 1) (by omega) H _ hO hR hM hL hS ls hl (by omega)
        · skip
          have c_2 : (decide (¬ (pkd (bitL f) k) < 0 ∧ (pkd (bitL f) k) < nI 3)) = true := b2i_n0.mp c_2
          have c_2 : ¬ (pkd (bitL f) k) < 0 ∧ (pkd (bitL f) k) < nI 3 := of_decide_eq_true c_2
          refine lv_iload hx hb dX2_countMeetings_30 (lv_at hl 0 rfl) ?_
          refine vp_callSi (va_Run.run (va_runSN (As := [.int (pkd (bitL g) k)]) (rest := []) ⟨hx, hb, hml, hown, hts⟩ (k_X3_isKind l D T (pkd (bitL g) k) ) (⟨va_cnB 1 hts ggX2_countMeetings_X3_isKind rfl rfl rfl (hK.2.m (args := ([.ref o, .ref h1, .ref h2] : List Value).toArray) 14 rfl) (hts (.initialized RX3) (by decide +kernel)) (by decide +kernel) ⟨Nat.le_of_ble_eq_true rfl, Nat.le_of_ble_eq_true rfl⟩, hts (.static yX3_isKind) (by decide +kernel), trivial⟩) (pre_S (Φ := fun X => True) hK trivial) rfl rfl hl.1 rfl (lv_room (Nat.le_of_ble_eq_true rfl)) dX2_countMeetings_32 ⟨Nat.le_of_ble_eq_true rfl, Nat.le_of_ble_eq_true rfl⟩)) (fun r_4 hr_4 => ?_)
          subst hr_4
          refine lv_if_eq (tgt := 54) hx hb dX2_countMeetings_35 (by decide) (fun c_3 => ?_) (fun c_3 => ?_)
          · skip
            have c_3 : (decide (¬ (pkd (bitL g) k) < 0 ∧ (pkd (bitL g) k) < nI 3)) = false := b2i_0.mp c_3
            have c_3 : ¬ (¬ (pkd (bitL g) k) < 0 ∧ (pkd (bitL g) k) < nI 3) := of_decide_eq_false c_3
            have hR := at_congI hR (g := mtF (bitL f) (bitL g) (k + 1) m9) (fun j _ => by simp only [mtF]; rw [if_neg (fun z => c_3 ((isk _ _).mpr z.2))])
            refine lv_iinc (v := (nI (k + 1))) (lv' := [(3, .int (nI (k + 1))), (5, .int (pkd (bitL g) k)), (4, .int (pkd (bitL f) k)), (0, .ref o), (1, .ref h1), (2, .ref h2)]) hx hb dX2_countMeetings_54 hl (k := 5) rfl (iinc_n k 1) (by decide) rfl (fun ls hl => ?_)
            refine lv_goto (tgt := 2) hx hb dX2_countMeetings_57 (by decide) ?_
            have hl := lv_sub hl (l' := [(0, .ref o), (1, .ref h1), (2, .ref h2), (3, .int (nI (k + 1)))]) [3, 4, 5, 0] rfl
            exact ih2 (k + 1) (by omega) H _ hO hR hM hL hS ls hl (by omega)
          · skip
            have c_3 : (decide (¬ (pkd (bitL g) k) < 0 ∧ (pkd (bitL g) k) < nI 3)) = true := b2i_n0.mp c_3
            have c_3 : ¬ (pkd (bitL g) k) < 0 ∧ (pkd (bitL g) k) < nI 3 := of_decide_eq_true c_3
            have hz1 := (isk _ _).mp c_2
            have hz2 := (isk _ _).mp c_3
            refine lv_aload_n hx hb dX2_countMeetings_38 rfl (lv_at hl 2 rfl) ?_
            refine r_get (C := RX2) (Tb := TX2) (N := 3) hx hb hts in_wsX20 hown hK (hO) rfl 1 (by decide) (hts (.fieldLink RX2 18 "PieceSets$State" "meetings" "[I") (by decide +kernel)) rfl (v := .ref x2) rfl dX2_countMeetings_39 ?_
            refine lv_iconst (v := (nI 3)) hx hb dX2_countMeetings_42 (by decide) ?_
            refine lv_iload hx hb dX2_countMeetings_43 (lv_at hl 1 rfl) ?_
            refine top_i (x' := (nI (kk (bitL f) k))) (pkd_n hz1) ?_
            refine lv_imul hx hb dX2_countMeetings_45 ?_
            refine top_i (pk_mul 3 (kk (bitL f) k)) ?_
            refine lv_iload hx hb dX2_countMeetings_46 (lv_at hl 0 rfl) ?_
            refine top_i (x' := (nI (kk (bitL g) k))) (pkd_n hz2) ?_
            refine lv_iadd hx hb dX2_countMeetings_48 ?_
            refine top_i (nI_add (3 * (kk (bitL f) k)) (kk (bitL g) k)) ?_
            refine lv_dup2_11 hx hb dX2_countMeetings_49 rfl rfl ?_
            refine r_iald hx hb hK (hR) (i := (3 * (kk (bitL f) k)) + (kk (bitL g) k)) (by omega) (by decide) dX2_countMeetings_50 ?_
            refine lv_iconst (v := (nI 1)) hx hb dX2_countMeetings_51 (by decide) ?_
            refine lv_iadd hx hb dX2_countMeetings_52 ?_
            refine r_iast hx hb hK hS (rfl) (hR) (i := (3 * (kk (bitL f) k)) + (kk (bitL g) k)) (by omega) (by decide) dX2_countMeetings_53 (fun H_1 locs hat oq hS => ?_)
            have hF := Fr.oq oq
            have hO := hF.at hO (ne_oI (q := (RX2, TX2, 3)) rfl (by decide) hO hR)
            have hM := hF.num hM (ne_oI (q := (RX1, TX1, 1)) rfl (by decide) hM.1 hR) (ne_IJ (by decide) hR hM.2).symm
            have hL := hF.num hL (ne_oI (q := (RX1, TX1, 1)) rfl (by decide) hL.1 hR) (ne_IJ (by decide) hR hL.2).symm
            have hR := at_congI hat (g := mtF (bitL f) (bitL g) (k + 1) m9) (fun j _ => by simp only [mtF]; rw [if_pos ⟨hz1, hz2⟩])
            refine lv_iinc (v := (nI (k + 1))) (lv' := [(3, .int (nI (k + 1))), (5, .int (pkd (bitL g) k)), (4, .int (pkd (bitL f) k)), (0, .ref o), (1, .ref h1), (2, .ref h2)]) hx hb dX2_countMeetings_54 hl (k := 5) rfl (iinc_n k 1) (by decide) rfl (fun ls hl => ?_)
            refine lv_goto (tgt := 2) hx hb dX2_countMeetings_57 (by decide) ?_
            have hl := lv_sub hl (l' := [(0, .ref o), (1, .ref h1), (2, .ref h2), (3, .int (nI (k + 1)))]) [3, 4, 5, 0] rfl
            exact ih2 (k + 1) (by omega) H_1 _ hO hR hM hL hS ls hl (by omega)
  have hl := lv_sub hl (l' := [(0, .ref o), (1, .ref h1), (2, .ref h2), (3, .int (nI 0))]) [1, 2, 3, 0] rfl
  exact loop2 (16 - 0 + 1) 0 (Nat.zero_le _) s.heap _ hO hR hM hL hS ls hl (Nat.lt_succ_self _)
set_option maxHeartbeats 4000000 in
set_option maxRecDepth 100000 in
theorem k_X2_countConversions (l : Launch) (D : va_G) (T : Nat → ClassId) (o : Nat) (x1 : Nat) (x2 : Nat) (x3 : Nat) (m9 : Nat → Int32) (h1 : Nat) (w1 : Nat) (f : Nat → Int64) (h2 : Nat) (w2 : Nat) (g : Nat → Int64) : Met l yX2_countConversions wsX2_countConversions ({ frames := 3, cells := 0, slots := 0, locals := 73 }) (va_Pc [.ref o, .ref h1, .ref h2] (fun U => KS D T U ∧ va_at D vwCl (o, .inr (2, [.ref x1, .ref x2, .ref x3])) U.heap ∧ va_at D vwCl (x3, eI T 9 m9) U.heap ∧ Num D T U.heap h1 w1 f ∧ Num D T U.heap h2 w2 g)) (va_Qv (fun (u : Unit) => True) (fun u t => va_at D vwCl (x3, eI T 9 (cvF (bitL f) (bitL g) 16 m9)) t.heap) (fun q => q = x3)) 0 0 (fun q => q = x3) := by
  refine Met.ofW (cc := cX2_countConversions) (maxL := 6) (ret := none) (by decide) rfl ?_
  intro pg ev s m args below meth c s₁ B hml hv
  obtain ⟨rfl, hK, hH⟩ := hv
  have hx := B.exec
  have hb := B.bytes
  have hr := B.returns
  have hts := atoms_spec (ws := wsX2_countConversions) B.pre
  have hown : s.vm.findClass RX2 = some m.cls := findClass_of_methodNamed B.named
  have hlocks := B.notSynchronized
  have in_wsX20 : ∀ w ∈ wsX20, w ∈ wsX2_countConversions := fun w h => List.mem_cons_of_mem _ (List.mem_append_left _ (List.mem_append_right _ h))
  have in_wsX10 : ∀ w ∈ wsX10, w ∈ wsX2_countConversions := fun w h => List.mem_cons_of_mem _ (List.mem_append_right _ h)
  have hS : va_S (fun q => q = x3) s.heap s.heap [] := va_S.rf
  have hl := lv_entry ([.ref o, .ref h1, .ref h2]) (n := 6) (Nat.le_of_ble_eq_true rfl)
  rw [lg_entry_eq]
  generalize (lg_sl ([.ref o, .ref h1, .ref h2]) ++ List.replicate (6 - (lg_sl ([.ref o, .ref h1, .ref h2])).length) Slot.unset).toArray = ls at hl ⊢
  have hl : lv_has ls 6 [(0, .ref o), (1, .ref h1), (2, .ref h2)] := hl
  refine W_gen (fun Q hQ => ?_)
  have hO := hH.1
  have hR := hH.2.1
  have hM := hH.2.2.1
  have hL := hH.2.2.2
  refine lv_iconst (v := (nI 0)) hx hb dX2_countConversions_0 (by decide) ?_
  refine lv_istore_n (lv' := [(3, .int (nI 0)), (0, .ref o), (1, .ref h1), (2, .ref h2)]) hx hb dX2_countConversions_1 rfl hl (by decide) rfl (fun ls hl => ?_)
  have loop2 : ∀ (n2 : Nat) (k : Nat) (hk16 : k ≤ 16) (H : Heap) (locs : List Loc) (hO : va_at D vwCl (o, .inr (2, [.ref x1, .ref x2, .ref x3])) H) (hR : va_at D vwCl (x3, eI T 9 (cvF (bitL f) (bitL g) k m9)) H) (hM : Num D T H h1 w1 f) (hL : Num D T H h2 w2 g) (hS : va_S (fun q => q = x3) s.heap H locs) (ls : Array Slot) (hl : lv_has ls 6 [(0, .ref o), (1, .ref h1), (2, .ref h2), (3, .int (nI k))]) (hn2 : 16 - k < n2), W pg l ev (headSpec wsX2_countConversions ({ frames := 3, cells := 0, slots := 0, locals := 73 })).room s m ([.ref o, .ref h1, .ref h2] : List Value).toArray below meth c H locs 0 0 Q (F0 m 2 ls []) := by
    intro n2
    induction n2 with
    | zero =>
      intro k hk16 H locs hO hR hM hL hS ls hl hn2
      exact absurd hn2 (Nat.not_lt_zero _)
    | succ n2 ih2 =>
      intro k hk16 H locs hO hR hM hL hS ls hl hn2
      have hkf := kk_lt (bitL f) k
      have hkg := kk_lt (bitL g) k
      refine lv_iload_n hx hb dX2_countConversions_2 rfl (lv_at hl 3 rfl) ?_
      refine lv_bipush (v := (nI 16)) hx hb dX2_countConversions_3 (by decide) ?_
      refine lv_icmp_ge (tgt := 67) hx hb dX2_countConversions_5 (by decide) (fun c_1 => ?_) (fun c_1 => ?_)
      · skip
        have c_1 : 16 ≤ k := (nI_leI (a := 16) (b := k) (by omega) (by omega)).mp c_1
        subst hQ
        exact W.vret hx hb hr (fun t ht hW => ⟨⟨(), rfl, trivial, by have h9 := at_congI hR (g := cvF (bitL f) (bitL g) 16 m9) (fun j _ => by rw [show k = 16 by omega]); rw [← ht] at h9; exact h9⟩, hS.F ht⟩) hS.2.2 dX2_countConversions_67
      · skip
        have c_1 : ¬ (16 ≤ k) := fun z => c_1 ((nI_leI (a := 16) (b := k) (by omega) (by omega)).mpr z)
        refine lv_aload_n hx hb dX2_countConversions_8 rfl (lv_at hl 1 rfl) ?_
        refine lv_iload_n hx hb dX2_countConversions_9 rfl (lv_at hl 3 rfl) ?_
        refine vp_callSi (va_Run.run (va_runVN (As := [.int (nI k)]) (rest := []) ⟨hx, hb, hml, hown, hts⟩ (k_X1_kindOf l D T h1 w1 f k (by omega)) (⟨va_cnB 1 hts ggX2_countConversions_X1_kindOf rfl rfl rfl (hK.2.m (args := ([.ref o, .ref h1, .ref h2] : List Value).toArray) 13 rfl) (hts (.initialized RX1) (by decide +kernel)) (by decide +kernel) ⟨Nat.le_of_ble_eq_true rfl, Nat.le_of_ble_eq_true rfl⟩, hts (.instanceMethod yX1_kindOf) (by decide +kernel), hts (.selects RX1 yX1_kindOf yX1_kindOf) (by decide +kernel)⟩) (pre_V (Φ := fun X => Num D T X h1 w1 f) hK (hM.1) rfl hM) rfl rfl hl.1 rfl (lv_room (Nat.le_of_ble_eq_true rfl)) dX2_countConversions_10 ⟨Nat.le_of_ble_eq_true rfl, Nat.le_of_ble_eq_true rfl⟩)) (fun r_1 hr_1 => ?_)
        subst hr_1
        refine lv_istore (lv' := [(4, .int (pkd (bitL f) k)), (0, .ref o), (1, .ref h1), (2, .ref h2), (3, .int (nI k))]) hx hb dX2_countConversions_13 hl (by decide) rfl (fun ls hl => ?_)
        refine lv_aload_n hx hb dX2_countConversions_15 rfl (lv_at hl 3 rfl) ?_
        refine lv_iload_n hx hb dX2_countConversions_16 rfl (lv_at hl 4 rfl) ?_
        refine vp_callSi (va_Run.run (va_runVN (As := [.int (nI k)]) (rest := []) ⟨hx, hb, hml, hown, hts⟩ (k_X1_kindOf l D T h2 w2 g k (by omega)) (⟨va_cnB 1 hts ggX2_countConversions_X1_kindOf rfl rfl rfl (hK.2.m (args := ([.ref o, .ref h1, .ref h2] : List Value).toArray) 13 rfl) (hts (.initialized RX1) (by decide +kernel)) (by decide +kernel) ⟨Nat.le_of_ble_eq_true rfl, Nat.le_of_ble_eq_true rfl⟩, hts (.instanceMethod yX1_kindOf) (by decide +kernel), hts (.selects RX1 yX1_kindOf yX1_kindOf) (by decide +kernel)⟩) (pre_V (Φ := fun X => Num D T X h2 w2 g) hK (hL.1) rfl hL) rfl rfl hl.1 rfl (lv_room (Nat.le_of_ble_eq_true rfl)) dX2_countConversions_17 ⟨Nat.le_of_ble_eq_true rfl, Nat.le_of_ble_eq_true rfl⟩)) (fun r_2 hr_2 => ?_)
        subst hr_2
        refine lv_istore (lv' := [(5, .int (pkd (bitL g) k)), (4, .int (pkd (bitL f) k)), (0, .ref o), (1, .ref h1), (2, .ref h2), (3, .int (nI k))]) hx hb dX2_countConversions_20 hl (by decide) rfl (fun ls hl => ?_)
        refine lv_iload hx hb dX2_countConversions_22 (lv_at hl 1 rfl) ?_
        refine vp_callSi (va_Run.run (va_runSN (As := [.int (pkd (bitL f) k)]) (rest := []) ⟨hx, hb, hml, hown, hts⟩ (k_X3_isKind l D T (pkd (bitL f) k) ) (⟨va_cnB 1 hts ggX2_countConversions_X3_isKind rfl rfl rfl (hK.2.m (args := ([.ref o, .ref h1, .ref h2] : List Value).toArray) 14 rfl) (hts (.initialized RX3) (by decide +kernel)) (by decide +kernel) ⟨Nat.le_of_ble_eq_true rfl, Nat.le_of_ble_eq_true rfl⟩, hts (.static yX3_isKind) (by decide +kernel), trivial⟩) (pre_S (Φ := fun X => True) hK trivial) rfl rfl hl.1 rfl (lv_room (Nat.le_of_ble_eq_true rfl)) dX2_countConversions_24 ⟨Nat.le_of_ble_eq_true rfl, Nat.le_of_ble_eq_true rfl⟩)) (fun r_3 hr_3 => ?_)
        subst hr_3
        refine lv_if_eq (tgt := 61) hx hb dX2_countConversions_27 (by decide) (fun c_2 => ?_) (fun c_2 => ?_)
        · skip
          have c_2 : (decide (¬ (pkd (bitL f) k) < 0 ∧ (pkd (bitL f) k) < nI 3)) = false := b2i_0.mp c_2
          have c_2 : ¬ (¬ (pkd (bitL f) k) < 0 ∧ (pkd (bitL f) k) < nI 3) := of_decide_eq_false c_2
          have hR := at_congI hR (g := cvF (bitL f) (bitL g) (k + 1) m9) (fun j _ => by simp only [cvF]; rw [if_neg (fun z => c_2 ((isk _ _).mpr z.1))])
          refine lv_iinc (v := (nI (k + 1))) (lv' := [(3, .int (nI (k + 1))), (5, .int (pkd (bitL g) k)), (4, .int (pkd (bitL f) k)), (0, .ref o), (1, .ref h1), (2, .ref h2)]) hx hb dX2_countConversions_61 hl (k := 5) rfl (iinc_n k 1) (by decide) rfl (fun ls hl => ?_)
          refine lv_goto (tgt := 2) hx hb dX2_countConversions_64 (by decide) ?_
          have hl := lv_sub hl (l' := [(0, .ref o), (1, .ref h1), (2, .ref h2), (3, .int (nI (k + 1)))]) [3, 4, 5, 0] rfl
          exact ih2 (k + 1) (by omega) H _ hO hR hM hL hS ls hl (by omega)
        · skip
          have c_2 : (decide (¬ (pkd (bitL f) k) < 0 ∧ (pkd (bitL f) k) < nI 3)) = true := b2i_n0.mp c_2
          have c_2 : ¬ (pkd (bitL f) k) < 0 ∧ (pkd (bitL f) k) < nI 3 := of_decide_eq_true c_2
          refine lv_iload hx hb dX2_countConversions_30 (lv_at hl 0 rfl) ?_
          refine vp_callSi (va_Run.run (va_runSN (As := [.int (pkd (bitL g) k)]) (rest := []) ⟨hx, hb, hml, hown, hts⟩ (k_X3_isKind l D T (pkd (bitL g) k) ) (⟨va_cnB 1 hts ggX2_countConversions_X3_isKind rfl rfl rfl (hK.2.m (args := ([.ref o, .ref h1, .ref h2] : List Value).toArray) 14 rfl) (hts (.initialized RX3) (by decide +kernel)) (by decide +kernel) ⟨Nat.le_of_ble_eq_true rfl, Nat.le_of_ble_eq_true rfl⟩, hts (.static yX3_isKind) (by decide +kernel), trivial⟩) (pre_S (Φ := fun X => True) hK trivial) rfl rfl hl.1 rfl (lv_room (Nat.le_of_ble_eq_true rfl)) dX2_countConversions_32 ⟨Nat.le_of_ble_eq_true rfl, Nat.le_of_ble_eq_true rfl⟩)) (fun r_4 hr_4 => ?_)
          subst hr_4
          refine lv_if_eq (tgt := 61) hx hb dX2_countConversions_35 (by decide) (fun c_3 => ?_) (fun c_3 => ?_)
          · skip
            have c_3 : (decide (¬ (pkd (bitL g) k) < 0 ∧ (pkd (bitL g) k) < nI 3)) = false := b2i_0.mp c_3
            have c_3 : ¬ (¬ (pkd (bitL g) k) < 0 ∧ (pkd (bitL g) k) < nI 3) := of_decide_eq_false c_3
            have hR := at_congI hR (g := cvF (bitL f) (bitL g) (k + 1) m9) (fun j _ => by simp only [cvF]; rw [if_neg (fun z => c_3 ((isk _ _).mpr z.2.1))])
            refine lv_iinc (v := (nI (k + 1))) (lv' := [(3, .int (nI (k + 1))), (5, .int (pkd (bitL g) k)), (4, .int (pkd (bitL f) k)), (0, .ref o), (1, .ref h1), (2, .ref h2)]) hx hb dX2_countConversions_61 hl (k := 5) rfl (iinc_n k 1) (by decide) rfl (fun ls hl => ?_)
            refine lv_goto (tgt := 2) hx hb dX2_countConversions_64 (by decide) ?_
            have hl := lv_sub hl (l' := [(0, .ref o), (1, .ref h1), (2, .ref h2), (3, .int (nI (k + 1)))]) [3, 4, 5, 0] rfl
            exact ih2 (k + 1) (by omega) H _ hO hR hM hL hS ls hl (by omega)
          · skip
            have c_3 : (decide (¬ (pkd (bitL g) k) < 0 ∧ (pkd (bitL g) k) < nI 3)) = true := b2i_n0.mp c_3
            have c_3 : ¬ (pkd (bitL g) k) < 0 ∧ (pkd (bitL g) k) < nI 3 := of_decide_eq_true c_3
            have hz1 := (isk _ _).mp c_2
            have hz2 := (isk _ _).mp c_3
            refine lv_iload hx hb dX2_countConversions_38 (lv_at hl 1 rfl) ?_
            refine top_i (x' := (nI (kk (bitL f) k))) (pkd_n hz1) ?_
            refine lv_iload hx hb dX2_countConversions_40 (lv_at hl 0 rfl) ?_
            refine top_i (x' := (nI (kk (bitL g) k))) (pkd_n hz2) ?_
            refine lv_icmp_eq (tgt := 61) hx hb dX2_countConversions_42 (by decide) (fun c_4 => ?_) (fun c_4 => ?_)
            · skip
              have c_4 : (kk (bitL f) k) = (kk (bitL g) k) := (nI_eq (a := (kk (bitL f) k)) (b := (kk (bitL g) k)) (by omega) (by omega)).mp c_4
              have hR := at_congI hR (g := cvF (bitL f) (bitL g) (k + 1) m9) (fun j _ => by simp only [cvF]; rw [if_neg (fun z => z.2.2 c_4)])
              refine lv_iinc (v := (nI (k + 1))) (lv' := [(3, .int (nI (k + 1))), (5, .int (pkd (bitL g) k)), (4, .int (pkd (bitL f) k)), (0, .ref o), (1, .ref h1), (2, .ref h2)]) hx hb dX2_countConversions_61 hl (k := 5) rfl (iinc_n k 1) (by decide) rfl (fun ls hl => ?_)
              refine lv_goto (tgt := 2) hx hb dX2_countConversions_64 (by decide) ?_
              have hl := lv_sub hl (l' := [(0, .ref o), (1, .ref h1), (2, .ref h2), (3, .int (nI (k + 1)))]) [3, 4, 5, 0] rfl
              exact ih2 (k + 1) (by omega) H _ hO hR hM hL hS ls hl (by omega)
            · skip
              have c_4 : ¬ ((kk (bitL f) k) = (kk (bitL g) k)) := fun z => c_4 ((nI_eq (a := (kk (bitL f) k)) (b := (kk (bitL g) k)) (by omega) (by omega)).mpr z)
              refine lv_aload_n hx hb dX2_countConversions_45 rfl (lv_at hl 2 rfl) ?_
              refine r_get (C := RX2) (Tb := TX2) (N := 3) hx hb hts in_wsX20 hown hK (hO) rfl 2 (by decide) (hts (.fieldLink RX2 22 "PieceSets$State" "conversions" "[I") (by decide +kernel)) rfl (v := .ref x3) rfl dX2_countConversions_46 ?_
              refine lv_iconst (v := (nI 3)) hx hb dX2_countConversions_49 (by decide) ?_
              refine lv_iload hx hb dX2_countConversions_50 (lv_at hl 1 rfl) ?_
              refine top_i (x' := (nI (kk (bitL f) k))) (pkd_n hz1) ?_
              refine lv_imul hx hb dX2_countConversions_52 ?_
              refine top_i (pk_mul 3 (kk (bitL f) k)) ?_
              refine lv_iload hx hb dX2_countConversions_53 (lv_at hl 0 rfl) ?_
              refine top_i (x' := (nI (kk (bitL g) k))) (pkd_n hz2) ?_
              refine lv_iadd hx hb dX2_countConversions_55 ?_
              refine top_i (nI_add (3 * (kk (bitL f) k)) (kk (bitL g) k)) ?_
              refine lv_dup2_11 hx hb dX2_countConversions_56 rfl rfl ?_
              refine r_iald hx hb hK (hR) (i := (3 * (kk (bitL f) k)) + (kk (bitL g) k)) (by omega) (by decide) dX2_countConversions_57 ?_
              refine lv_iconst (v := (nI 1)) hx hb dX2_countConversions_58 (by decide) ?_
              refine lv_iadd hx hb dX2_countConversions_59 ?_
              refine r_iast hx hb hK hS (rfl) (hR) (i := (3 * (kk (bitL f) k)) + (kk (bitL g) k)) (by omega) (by decide) dX2_countConversions_60 (fun H_1 locs hat oq hS => ?_)
              have hF := Fr.oq oq
              have hO := hF.at hO (ne_oI (q := (RX2, TX2, 3)) rfl (by decide) hO hR)
              have hM := hF.num hM (ne_oI (q := (RX1, TX1, 1)) rfl (by decide) hM.1 hR) (ne_IJ (by decide) hR hM.2).symm
              have hL := hF.num hL (ne_oI (q := (RX1, TX1, 1)) rfl (by decide) hL.1 hR) (ne_IJ (by decide) hR hL.2).symm
              have hR := at_congI hat (g := cvF (bitL f) (bitL g) (k + 1) m9) (fun j _ => by simp only [cvF]; rw [if_pos ⟨hz1, hz2, c_4⟩])
              refine lv_iinc (v := (nI (k + 1))) (lv' := [(3, .int (nI (k + 1))), (5, .int (pkd (bitL g) k)), (4, .int (pkd (bitL f) k)), (0, .ref o), (1, .ref h1), (2, .ref h2)]) hx hb dX2_countConversions_61 hl (k := 5) rfl (iinc_n k 1) (by decide) rfl (fun ls hl => ?_)
              refine lv_goto (tgt := 2) hx hb dX2_countConversions_64 (by decide) ?_
              have hl := lv_sub hl (l' := [(0, .ref o), (1, .ref h1), (2, .ref h2), (3, .int (nI (k + 1)))]) [3, 4, 5, 0] rfl
              exact ih2 (k + 1) (by omega) H_1 _ hO hR hM hL hS ls hl (by omega)
  have hl := lv_sub hl (l' := [(0, .ref o), (1, .ref h1), (2, .ref h2), (3, .int (nI 0))]) [1, 2, 3, 0] rfl
  exact loop2 (16 - 0 + 1) 0 (Nat.zero_le _) s.heap _ hO hR hM hL hS ls hl (Nat.lt_succ_self _)
