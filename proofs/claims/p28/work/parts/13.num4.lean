set_option maxHeartbeats 4000000 in
set_option maxRecDepth 100000 in
theorem k_J7_fill_d0a16 (l : Launch) (D : va_G) (T : Nat → ClassId) (w0 : Nat) (f : Nat → Int64) (v : Int64) : Met l yJ7_fill_d0a16 wsJ7_fill_d0a16 ({ frames := 0, cells := 0, slots := 0, locals := 0 }) (va_Pc [.ref w0, .long v] (fun U => KS D T U ∧ va_at D vwCl (w0, eJ T 64 f) U.heap)) (va_Qv (fun (u : Unit) => True) (fun u t => va_at D vwCl (w0, eJ T 64 (fun _ => v)) t.heap) (fun q => q = w0)) 0 0 (fun q => q = w0) := by
  refine Met.ofW (cc := cJ7_fill_d0a16) (maxL := 5) (ret := none) (by decide) rfl ?_
  intro pg ev s m args below meth c s₁ B hml hv
  obtain ⟨rfl, hK, hH⟩ := hv
  have hx := B.exec
  have hb := B.bytes
  have hr := B.returns
  have hts := atoms_spec (ws := wsJ7_fill_d0a16) B.pre
  have hown : s.vm.findClass RJ7 = some m.cls := findClass_of_methodNamed B.named
  have hlocks := B.notSynchronized
  have hS : va_S (fun q => q = w0) s.heap s.heap [] := va_S.rf
  have hl := lv_entry ([.ref w0, .long v]) (n := 5) (Nat.le_of_ble_eq_true rfl)
  rw [lg_entry_eq]
  generalize (lg_sl ([.ref w0, .long v]) ++ List.replicate (5 - (lg_sl ([.ref w0, .long v])).length) Slot.unset).toArray = ls at hl ⊢
  have hl : lv_has ls 5 [(0, .ref w0), (1, .long v)] := hl
  refine W_gen (fun Q hQ => ?_)
  have hN := hH
  refine lv_iconst (v := (nI 0)) hx hb dJ7_fill_d0a16_0 (by decide) ?_
  refine lv_istore_n (lv' := [(3, .int (nI 0)), (0, .ref w0), (1, .long v)]) hx hb dJ7_fill_d0a16_1 rfl hl (by decide) rfl (fun ls hl => ?_)
  refine lv_aload_n hx hb dJ7_fill_d0a16_2 rfl (lv_at hl 1 rfl) ?_
  refine r_alenJ hx hb hK (hN) dJ7_fill_d0a16_3 ?_
  refine lv_istore (lv' := [(4, .int (nI 64)), (3, .int (nI 0)), (0, .ref w0), (1, .long v)]) hx hb dJ7_fill_d0a16_4 hl (by decide) rfl (fun ls hl => ?_)
  have loop6 : ∀ (n6 : Nat) (i : Nat) (hi : i ≤ 64) (H : Heap) (locs : List Loc) (hN : va_at D vwCl (w0, eJ T 64 (stepJ (fun _ => v) f i)) H) (hS : va_S (fun q => q = w0) s.heap H locs) (ls : Array Slot) (hl : lv_has ls 5 [(0, .ref w0), (1, .long v), (3, .int (nI i)), (4, .int (nI 64))]) (hn6 : 64 - i < n6), W pg l ev (headSpec wsJ7_fill_d0a16 ({ frames := 0, cells := 0, slots := 0, locals := 0 })).room s m ([.ref w0, .long v] : List Value).toArray below meth c H locs 0 0 Q (F0 m 6 ls []) := by
    intro n6
    induction n6 with
    | zero =>
      intro i hi H locs hN hS ls hl hn6
      exact absurd hn6 (Nat.not_lt_zero _)
    | succ n6 ih6 =>
      intro i hi H locs hN hS ls hl hn6
      refine lv_iload_n hx hb dJ7_fill_d0a16_6 rfl (lv_at hl 2 rfl) ?_
      refine lv_iload hx hb dJ7_fill_d0a16_7 (lv_at hl 3 rfl) ?_
      refine lv_icmp_ge (tgt := 22) hx hb dJ7_fill_d0a16_9 (by decide) (fun c_1 => ?_) (fun c_1 => ?_)
      · skip
        have c_1 : 64 ≤ i := (nI_leI (a := 64) (b := i) (by omega) (by omega)).mp c_1
        subst hQ
        exact W.vret hx hb hr (fun t ht hW => ⟨⟨(), rfl, trivial, by have h9 := at_congJ hN (by rw [show i = 64 by omega]; exact stepJ_end); rw [← ht] at h9; exact h9⟩, hS.F ht⟩) hS.2.2 dJ7_fill_d0a16_22
      · skip
        have c_1 : ¬ (64 ≤ i) := fun z => c_1 ((nI_leI (a := 64) (b := i) (by omega) (by omega)).mpr z)
        refine lv_aload_n hx hb dJ7_fill_d0a16_12 rfl (lv_at hl 0 rfl) ?_
        refine lv_iload_n hx hb dJ7_fill_d0a16_13 rfl (lv_at hl 2 rfl) ?_
        refine lv_lload_n hx hb dJ7_fill_d0a16_14 rfl (lv_at hl 1 rfl) ?_
        refine r_last hx hb hK hS (rfl) (hN) (i := i) (by omega) (by decide) dJ7_fill_d0a16_15 (fun H_1 locs hat oq hS => ?_)
        have hN := at_congJ hat (stepJ_upd (by rfl) 64)
        refine lv_iinc (v := (nI (i + 1))) (lv' := [(3, .int (nI (i + 1))), (0, .ref w0), (1, .long v), (4, .int (nI 64))]) hx hb dJ7_fill_d0a16_16 hl (k := 2) rfl (iinc_n i 1) (by decide) rfl (fun ls hl => ?_)
        refine lv_goto (tgt := 6) hx hb dJ7_fill_d0a16_19 (by decide) ?_
        have hl := lv_sub hl (l' := [(0, .ref w0), (1, .long v), (3, .int (nI (i + 1))), (4, .int (nI 64))]) [1, 2, 0, 3] rfl
        exact ih6 (i + 1) (by omega) H_1 _ hN hS ls hl (by omega)
  have hN := at_congJ hN (g := stepJ (fun _ => v) f 0) (fun j _ => (stepJ_0 _ _ j).symm)
  have hl := lv_sub hl (l' := [(0, .ref w0), (1, .long v), (3, .int (nI 0)), (4, .int (nI 64))]) [2, 3, 1, 0] rfl
  exact loop6 (64 - 0 + 1) 0 (Nat.zero_le _) s.heap _ hN hS ls hl (Nat.lt_succ_self _)
set_option maxHeartbeats 4000000 in
set_option maxRecDepth 100000 in
theorem k_X1_becomeEmpty (l : Launch) (D : va_G) (T : Nat → ClassId) (h0 : Nat) (w0 : Nat) (f : Nat → Int64) : Met l yX1_becomeEmpty wsX1_becomeEmpty ({ frames := 1, cells := 0, slots := 0, locals := 24 }) (va_Pc [.ref h0] (fun U => KS D T U ∧ Num D T U.heap h0 w0 f)) (va_Qv (fun (u : Unit) => True) (fun u t => Num D T t.heap h0 w0 (fun _ => 0)) (fun q => q = w0)) 0 0 (fun q => q = w0) := by
  refine Met.ofW (cc := cX1_becomeEmpty) (maxL := 1) (ret := none) (by decide) rfl ?_
  intro pg ev s m args below meth c s₁ B hml hv
  obtain ⟨rfl, hK, hH⟩ := hv
  have hx := B.exec
  have hb := B.bytes
  have hr := B.returns
  have hts := atoms_spec (ws := wsX1_becomeEmpty) B.pre
  have hown : s.vm.findClass RX1 = some m.cls := findClass_of_methodNamed B.named
  have hlocks := B.notSynchronized
  have in_wsX10 : ∀ w ∈ wsX10, w ∈ wsX1_becomeEmpty := fun w h => List.mem_cons_of_mem _ (List.mem_append_right _ h)
  have hS : va_S (fun q => q = w0) s.heap s.heap [] := va_S.rf
  have hl := lv_entry ([.ref h0]) (n := 1) (Nat.le_of_ble_eq_true rfl)
  rw [lg_entry_eq]
  generalize (lg_sl ([.ref h0]) ++ List.replicate (1 - (lg_sl ([.ref h0])).length) Slot.unset).toArray = ls at hl ⊢
  have hl : lv_has ls 1 [(0, .ref h0)] := hl
  refine W_gen (fun Q hQ => ?_)
  have hN := hH
  refine lv_aload_n hx hb dX1_becomeEmpty_0 rfl (lv_at hl 0 rfl) ?_
  refine r_get (C := RX1) (Tb := TX1) (N := 1) hx hb hts in_wsX10 hown hK (hN.1) rfl 0 (by decide) (hts (.fieldLink RX1 9 "PieceSets$Numbers" "words" "[J") (by decide +kernel)) rfl (v := .ref w0) rfl dX1_becomeEmpty_1 ?_
  refine lv_lconst (v := 0) hx hb dX1_becomeEmpty_4 rfl ?_
  refine va_callv (va_runS (As := [.ref w0, .long 0]) (rest := []) ⟨hx, hb, hml, hown, hts⟩ (k_J7_fill_d0a16 l D T w0 f 0 ) (va_cwS 2 hts gX1_becomeEmpty_J7_fill_d0a16 rfl rfl rfl (by decide +kernel) ⟨Nat.le_of_ble_eq_true rfl, Nat.le_of_ble_eq_true rfl⟩) (pre_S (Φ := fun X => va_at D vwCl (w0, eJ T 64 f) X) hK hN.2) rfl rfl hl.1 rfl (lv_room (Nat.le_of_ble_eq_true rfl)) dX1_becomeEmpty_5 ⟨Nat.le_of_ble_eq_true rfl, Nat.le_of_ble_eq_true rfl⟩) hS (fun q _ h => h) (fun q h => h) (fun u_1 t H_1 locs ht hvm hw hB hz hk hS => ?_)
  rw [ht] at hB
  try dsimp only at hw
  try dsimp only at hB
  have hN : Num D T H_1 h0 w0 (fun _ => 0) := ⟨hN.1.kept (hk _ hN.lt.1 hN.ne), hB⟩
  subst hQ
  exact W.vret hx hb hr (fun t ht hW => ⟨⟨(), rfl, trivial, by have h9 := hN; rw [← ht] at h9; exact h9⟩, hS.F ht⟩) hS.2.2 dX1_becomeEmpty_8
set_option maxHeartbeats 4000000 in
set_option maxRecDepth 100000 in
theorem k_X1_become (l : Launch) (D : va_G) (T : Nat → ClassId) (h0 : Nat) (w0 : Nat) (f : Nat → Int64) (h1 : Nat) (w1 : Nat) (g : Nat → Int64) (hne : w1 ≠ w0) : Met l yX1_become wsX1_become ({ frames := 1, cells := 0, slots := 0, locals := 60 }) (va_Pc [.ref h0, .ref h1] (fun U => KS D T U ∧ Num D T U.heap h0 w0 f ∧ Num D T U.heap h1 w1 g)) (va_Qv (fun (u : Unit) => True) (fun u t => Num D T t.heap h0 w0 g) (fun q => q = w0)) 0 0 (fun q => q = w0) := by
  refine Met.ofW (cc := cX1_become) (maxL := 2) (ret := none) (by decide) rfl ?_
  intro pg ev s m args below meth c s₁ B hml hv
  obtain ⟨rfl, hK, hH⟩ := hv
  have hx := B.exec
  have hb := B.bytes
  have hr := B.returns
  have hts := atoms_spec (ws := wsX1_become) B.pre
  have hown : s.vm.findClass RX1 = some m.cls := findClass_of_methodNamed B.named
  have hlocks := B.notSynchronized
  have in_wsX10 : ∀ w ∈ wsX10, w ∈ wsX1_become := fun w h => List.mem_cons_of_mem _ (List.mem_append_right _ h)
  have hS : va_S (fun q => q = w0) s.heap s.heap [] := va_S.rf
  have hl := lv_entry ([.ref h0, .ref h1]) (n := 2) (Nat.le_of_ble_eq_true rfl)
  rw [lg_entry_eq]
  generalize (lg_sl ([.ref h0, .ref h1]) ++ List.replicate (2 - (lg_sl ([.ref h0, .ref h1])).length) Slot.unset).toArray = ls at hl ⊢
  have hl : lv_has ls 2 [(0, .ref h0), (1, .ref h1)] := hl
  refine W_gen (fun Q hQ => ?_)
  have hN := hH.1
  have hM := hH.2
  refine lv_aload_n hx hb dX1_become_0 rfl (lv_at hl 1 rfl) ?_
  refine r_get (C := RX1) (Tb := TX1) (N := 1) hx hb hts in_wsX10 hown hK (hM.1) rfl 0 (by decide) (hts (.fieldLink RX1 9 "PieceSets$Numbers" "words" "[J") (by decide +kernel)) rfl (v := .ref w1) rfl dX1_become_1 ?_
  refine lv_iconst (v := (nI 0)) hx hb dX1_become_4 (by decide) ?_
  refine lv_aload_n hx hb dX1_become_5 rfl (lv_at hl 0 rfl) ?_
  refine r_get (C := RX1) (Tb := TX1) (N := 1) hx hb hts in_wsX10 hown hK (hN.1) rfl 0 (by decide) (hts (.fieldLink RX1 9 "PieceSets$Numbers" "words" "[J") (by decide +kernel)) rfl (v := .ref w0) rfl dX1_become_6 ?_
  refine lv_iconst (v := (nI 0)) hx hb dX1_become_9 (by decide) ?_
  refine lv_bipush (v := (nI 64)) hx hb dX1_become_10 (by decide) ?_
  refine r_copyJ hx hb (hml.trans hl.1.symm) hown (hts (.methodLink RX1 15 arraycopyName) (by decide +kernel)) (hts (.native arraycopyName) (by decide +kernel)) (hts (.static arraycopyName) (by decide +kernel)) (hts (.initialized "java/lang/System") (by decide +kernel)) hK hS rfl hM.2 hN.2 (by decide) (Nat.le_of_ble_eq_true rfl) (Nat.le_of_ble_eq_true rfl) dX1_become_12 (fun H_1 locs hat oq hS => ?_)
  have hN := hN.set hat oq
  subst hQ
  exact W.vret hx hb hr (fun t ht hW => ⟨⟨(), rfl, trivial, by have h9 := hN; rw [← ht] at h9; exact h9⟩, hS.F ht⟩) hS.2.2 dX1_become_15
set_option maxHeartbeats 4000000 in
set_option maxRecDepth 100000 in
theorem k_X1_becomeJoin (l : Launch) (D : va_G) (T : Nat → ClassId) (o : Nat) (h0 : Nat) (w0 : Nat) (f : Nat → Int64) (h1 : Nat) (w1 : Nat) (g : Nat → Int64) (h2 : Nat) (w2 : Nat) (h : Nat → Int64) (ho : o ≤ 3) (hn1 : w1 ≠ w0) (hn2 : w2 ≠ w0) : Met l yX1_becomeJoin wsX1_becomeJoin ({ frames := 1, cells := 0, slots := 0, locals := 24 }) (va_Pc [.ref h0, .int (nI o), .ref h1, .ref h2] (fun U => KS D T U ∧ Num D T U.heap h0 w0 f ∧ Num D T U.heap h1 w1 g ∧ Num D T U.heap h2 w2 h)) (va_Qv (fun (u : Unit) => True) (fun u t => Num D T t.heap h0 w0 (fun j => jn o (g j) (h j))) (fun q => q = w0)) 0 0 (fun q => q = w0) := by
  refine Met.ofW (cc := cX1_becomeJoin) (maxL := 5) (ret := none) (by decide) rfl ?_
  intro pg ev s m args below meth c s₁ B hml hv
  obtain ⟨rfl, hK, hH⟩ := hv
  have hx := B.exec
  have hb := B.bytes
  have hr := B.returns
  have hts := atoms_spec (ws := wsX1_becomeJoin) B.pre
  have hown : s.vm.findClass RX1 = some m.cls := findClass_of_methodNamed B.named
  have hlocks := B.notSynchronized
  have in_wsX10 : ∀ w ∈ wsX10, w ∈ wsX1_becomeJoin := fun w h => List.mem_cons_of_mem _ (List.mem_append_right _ h)
  have hS : va_S (fun q => q = w0) s.heap s.heap [] := va_S.rf
  have hl := lv_entry ([.ref h0, .int (nI o), .ref h1, .ref h2]) (n := 5) (Nat.le_of_ble_eq_true rfl)
  rw [lg_entry_eq]
  generalize (lg_sl ([.ref h0, .int (nI o), .ref h1, .ref h2]) ++ List.replicate (5 - (lg_sl ([.ref h0, .int (nI o), .ref h1, .ref h2])).length) Slot.unset).toArray = ls at hl ⊢
  have hl : lv_has ls 5 [(0, .ref h0), (1, .int (nI o)), (2, .ref h1), (3, .ref h2)] := hl
  refine W_gen (fun Q hQ => ?_)
  have hN := hH.1
  have hM := hH.2.1
  have hL := hH.2.2
  refine lv_iconst (v := (nI 0)) hx hb dX1_becomeJoin_0 (by decide) ?_
  refine lv_istore (lv' := [(4, .int (nI 0)), (0, .ref h0), (1, .int (nI o)), (2, .ref h1), (3, .ref h2)]) hx hb dX1_becomeJoin_1 hl (by decide) rfl (fun ls hl => ?_)
  have loop3 : ∀ (n3 : Nat) (k : Nat) (hk : k ≤ 64) (H : Heap) (locs : List Loc) (hN : Num D T H h0 w0 (stepJ (fun j => jn o (g j) (h j)) f k)) (hM : Num D T H h1 w1 g) (hL : Num D T H h2 w2 h) (hS : va_S (fun q => q = w0) s.heap H locs) (ls : Array Slot) (hl : lv_has ls 5 [(0, .ref h0), (1, .int (nI o)), (2, .ref h1), (3, .ref h2), (4, .int (nI k))]) (hn3 : 64 - k < n3), W pg l ev (headSpec wsX1_becomeJoin ({ frames := 1, cells := 0, slots := 0, locals := 24 })).room s m ([.ref h0, .int (nI o), .ref h1, .ref h2] : List Value).toArray below meth c H locs 0 0 Q (F0 m 3 ls []) := by
    intro n3
    induction n3 with
    | zero =>
      intro k hk H locs hN hM hL hS ls hl hn3
      exact absurd hn3 (Nat.not_lt_zero _)
    | succ n3 ih3 =>
      intro k hk H locs hN hM hL hS ls hl hn3
      refine lv_iload hx hb dX1_becomeJoin_3 (lv_at hl 4 rfl) ?_
      refine lv_bipush (v := (nI 64)) hx hb dX1_becomeJoin_5 (by decide) ?_
      refine lv_icmp_ge (tgt := 41) hx hb dX1_becomeJoin_7 (by decide) (fun c_1 => ?_) (fun c_1 => ?_)
      · skip
        have c_1 : 64 ≤ k := (nI_leI (a := 64) (b := k) (by omega) (by omega)).mp c_1
        subst hQ
        exact W.vret hx hb hr (fun t ht hW => ⟨⟨(), rfl, trivial, by have h9 := (hN.cong (by rw [show k = 64 by omega]; exact stepJ_end)); rw [← ht] at h9; exact h9⟩, hS.F ht⟩) hS.2.2 dX1_becomeJoin_41
      · skip
        have c_1 : ¬ (64 ≤ k) := fun z => c_1 ((nI_leI (a := 64) (b := k) (by omega) (by omega)).mpr z)
        refine lv_aload_n hx hb dX1_becomeJoin_10 rfl (lv_at hl 0 rfl) ?_
        refine r_get (C := RX1) (Tb := TX1) (N := 1) hx hb hts in_wsX10 hown hK (hN.1) rfl 0 (by decide) (hts (.fieldLink RX1 9 "PieceSets$Numbers" "words" "[J") (by decide +kernel)) rfl (v := .ref w0) rfl dX1_becomeJoin_11 ?_
        refine lv_iload hx hb dX1_becomeJoin_14 (lv_at hl 4 rfl) ?_
        refine lv_iload_n hx hb dX1_becomeJoin_16 rfl (lv_at hl 1 rfl) ?_
        refine lv_aload_n hx hb dX1_becomeJoin_17 rfl (lv_at hl 2 rfl) ?_
        refine r_get (C := RX1) (Tb := TX1) (N := 1) hx hb hts in_wsX10 hown hK (hM.1) rfl 0 (by decide) (hts (.fieldLink RX1 9 "PieceSets$Numbers" "words" "[J") (by decide +kernel)) rfl (v := .ref w1) rfl dX1_becomeJoin_18 ?_
        refine lv_iload hx hb dX1_becomeJoin_21 (lv_at hl 4 rfl) ?_
        refine r_lald hx hb hK (hM.2) (i := k) (by omega) (by decide) dX1_becomeJoin_23 ?_
        refine lv_aload_n hx hb dX1_becomeJoin_24 rfl (lv_at hl 3 rfl) ?_
        refine r_get (C := RX1) (Tb := TX1) (N := 1) hx hb hts in_wsX10 hown hK (hL.1) rfl 0 (by decide) (hts (.fieldLink RX1 9 "PieceSets$Numbers" "words" "[J") (by decide +kernel)) rfl (v := .ref w2) rfl dX1_becomeJoin_25 ?_
        refine lv_iload hx hb dX1_becomeJoin_28 (lv_at hl 4 rfl) ?_
        refine r_lald hx hb hK (hL.2) (i := k) (by omega) (by decide) dX1_becomeJoin_30 ?_
        refine vp_callSl (va_Run.run (va_runS (As := [.int (nI o), .long (g k), .long (h k)]) (rest := [.int (nI k), .ref w0]) ⟨hx, hb, hml, hown, hts⟩ (k_X1_join l D T o (g k) (h k) (by omega)) (va_cwS 3 hts gX1_becomeJoin_X1_join rfl rfl rfl (by decide +kernel) ⟨Nat.le_of_ble_eq_true rfl, Nat.le_of_ble_eq_true rfl⟩) (pre_S (Φ := fun X => True) hK trivial) rfl rfl hl.1 rfl (lv_room (Nat.le_of_ble_eq_true rfl)) dX1_becomeJoin_31 ⟨Nat.le_of_ble_eq_true rfl, Nat.le_of_ble_eq_true rfl⟩)) (fun r_1 hr_1 => ?_)
        subst hr_1
        refine r_last hx hb hK hS (rfl) (hN.2) (i := k) (by omega) (by decide) dX1_becomeJoin_34 (fun H_1 locs hat oq hS => ?_)
        have hM := hM.keep hN hn1 oq
        have hL := hL.keep hN hn2 oq
        have hN := (hN.set hat oq).cong (stepJ_upd (by rfl) 64)
        refine lv_iinc (v := (nI (k + 1))) (lv' := [(4, .int (nI (k + 1))), (0, .ref h0), (1, .int (nI o)), (2, .ref h1), (3, .ref h2)]) hx hb dX1_becomeJoin_35 hl (k := 4) rfl (iinc_n k 1) (by decide) rfl (fun ls hl => ?_)
        refine lv_goto (tgt := 3) hx hb dX1_becomeJoin_38 (by decide) ?_
        have hl := lv_sub hl (l' := [(0, .ref h0), (1, .int (nI o)), (2, .ref h1), (3, .ref h2), (4, .int (nI (k + 1)))]) [1, 2, 3, 4, 0] rfl
        exact ih3 (k + 1) (by omega) H_1 _ hN hM hL hS ls hl (by omega)
  have hN := hN.cong (g := stepJ (fun j => jn o (g j) (h j)) f 0) (fun j _ => (stepJ_0 _ _ j).symm)
  have hl := lv_sub hl (l' := [(0, .ref h0), (1, .int (nI o)), (2, .ref h1), (3, .ref h2), (4, .int (nI 0))]) [1, 2, 3, 4, 0] rfl
  exact loop3 (64 - 0 + 1) 0 (Nat.zero_le _) s.heap _ hN hM hL hS ls hl (Nat.lt_succ_self _)
set_option maxHeartbeats 4000000 in
set_option maxRecDepth 100000 in
theorem k_X1_becomeJoin_b (l : Launch) (D : va_G) (T : Nat → ClassId) (o : Nat) (h0 : Nat) (w0 : Nat) (f : Nat → Int64) (h1 : Nat) (w1 : Nat) (g : Nat → Int64) (ho : o ≤ 3) (hn1 : w1 ≠ w0) : Met l yX1_becomeJoin wsX1_becomeJoin ({ frames := 1, cells := 0, slots := 0, locals := 24 }) (va_Pc [.ref h0, .int (nI o), .ref h1, .ref h0] (fun U => KS D T U ∧ Num D T U.heap h0 w0 f ∧ Num D T U.heap h1 w1 g)) (va_Qv (fun (u : Unit) => True) (fun u t => Num D T t.heap h0 w0 (fun j => jn o (g j) (f j))) (fun q => q = w0)) 0 0 (fun q => q = w0) := by
  refine Met.ofW (cc := cX1_becomeJoin) (maxL := 5) (ret := none) (by decide) rfl ?_
  intro pg ev s m args below meth c s₁ B hml hv
  obtain ⟨rfl, hK, hH⟩ := hv
  have hx := B.exec
  have hb := B.bytes
  have hr := B.returns
  have hts := atoms_spec (ws := wsX1_becomeJoin) B.pre
  have hown : s.vm.findClass RX1 = some m.cls := findClass_of_methodNamed B.named
  have hlocks := B.notSynchronized
  have in_wsX10 : ∀ w ∈ wsX10, w ∈ wsX1_becomeJoin := fun w h => List.mem_cons_of_mem _ (List.mem_append_right _ h)
  have hS : va_S (fun q => q = w0) s.heap s.heap [] := va_S.rf
  have hl := lv_entry ([.ref h0, .int (nI o), .ref h1, .ref h0]) (n := 5) (Nat.le_of_ble_eq_true rfl)
  rw [lg_entry_eq]
  generalize (lg_sl ([.ref h0, .int (nI o), .ref h1, .ref h0]) ++ List.replicate (5 - (lg_sl ([.ref h0, .int (nI o), .ref h1, .ref h0])).length) Slot.unset).toArray = ls at hl ⊢
  have hl : lv_has ls 5 [(0, .ref h0), (1, .int (nI o)), (2, .ref h1), (3, .ref h0)] := hl
  refine W_gen (fun Q hQ => ?_)
  have hN := hH.1
  have hM := hH.2
  refine lv_iconst (v := (nI 0)) hx hb dX1_becomeJoin_0 (by decide) ?_
  refine lv_istore (lv' := [(4, .int (nI 0)), (0, .ref h0), (1, .int (nI o)), (2, .ref h1), (3, .ref h0)]) hx hb dX1_becomeJoin_1 hl (by decide) rfl (fun ls hl => ?_)
  have loop3 : ∀ (n3 : Nat) (k : Nat) (hk : k ≤ 64) (H : Heap) (locs : List Loc) (hN : Num D T H h0 w0 (stepJ (fun j => jn o (g j) (f j)) f k)) (hM : Num D T H h1 w1 g) (hS : va_S (fun q => q = w0) s.heap H locs) (ls : Array Slot) (hl : lv_has ls 5 [(0, .ref h0), (1, .int (nI o)), (2, .ref h1), (3, .ref h0), (4, .int (nI k))]) (hn3 : 64 - k < n3), W pg l ev (headSpec wsX1_becomeJoin ({ frames := 1, cells := 0, slots := 0, locals := 24 })).room s m ([.ref h0, .int (nI o), .ref h1, .ref h0] : List Value).toArray below meth c H locs 0 0 Q (F0 m 3 ls []) := by
    intro n3
    induction n3 with
    | zero =>
      intro k hk H locs hN hM hS ls hl hn3
      exact absurd hn3 (Nat.not_lt_zero _)
    | succ n3 ih3 =>
      intro k hk H locs hN hM hS ls hl hn3
      refine lv_iload hx hb dX1_becomeJoin_3 (lv_at hl 4 rfl) ?_
      refine lv_bipush (v := (nI 64)) hx hb dX1_becomeJoin_5 (by decide) ?_
      refine lv_icmp_ge (tgt := 41) hx hb dX1_becomeJoin_7 (by decide) (fun c_1 => ?_) (fun c_1 => ?_)
      · skip
        have c_1 : 64 ≤ k := (nI_leI (a := 64) (b := k) (by omega) (by omega)).mp c_1
        subst hQ
        exact W.vret hx hb hr (fun t ht hW => ⟨⟨(), rfl, trivial, by have h9 := (hN.cong (by rw [show k = 64 by omega]; exact stepJ_end)); rw [← ht] at h9; exact h9⟩, hS.F ht⟩) hS.2.2 dX1_becomeJoin_41
      · skip
        have c_1 : ¬ (64 ≤ k) := fun z => c_1 ((nI_leI (a := 64) (b := k) (by omega) (by omega)).mpr z)
        refine lv_aload_n hx hb dX1_becomeJoin_10 rfl (lv_at hl 0 rfl) ?_
        refine r_get (C := RX1) (Tb := TX1) (N := 1) hx hb hts in_wsX10 hown hK (hN.1) rfl 0 (by decide) (hts (.fieldLink RX1 9 "PieceSets$Numbers" "words" "[J") (by decide +kernel)) rfl (v := .ref w0) rfl dX1_becomeJoin_11 ?_
        refine lv_iload hx hb dX1_becomeJoin_14 (lv_at hl 4 rfl) ?_
        refine lv_iload_n hx hb dX1_becomeJoin_16 rfl (lv_at hl 1 rfl) ?_
        refine lv_aload_n hx hb dX1_becomeJoin_17 rfl (lv_at hl 2 rfl) ?_
        refine r_get (C := RX1) (Tb := TX1) (N := 1) hx hb hts in_wsX10 hown hK (hM.1) rfl 0 (by decide) (hts (.fieldLink RX1 9 "PieceSets$Numbers" "words" "[J") (by decide +kernel)) rfl (v := .ref w1) rfl dX1_becomeJoin_18 ?_
        refine lv_iload hx hb dX1_becomeJoin_21 (lv_at hl 4 rfl) ?_
        refine r_lald hx hb hK (hM.2) (i := k) (by omega) (by decide) dX1_becomeJoin_23 ?_
        refine lv_aload_n hx hb dX1_becomeJoin_24 rfl (lv_at hl 3 rfl) ?_
        refine r_get (C := RX1) (Tb := TX1) (N := 1) hx hb hts in_wsX10 hown hK (hN.1) rfl 0 (by decide) (hts (.fieldLink RX1 9 "PieceSets$Numbers" "words" "[J") (by decide +kernel)) rfl (v := .ref w0) rfl dX1_becomeJoin_25 ?_
        refine lv_iload hx hb dX1_becomeJoin_28 (lv_at hl 4 rfl) ?_
        refine r_lald hx hb hK (hN.2) (i := k) (by omega) (by decide) dX1_becomeJoin_30 ?_
        refine vp_callSl (va_Run.run (va_runS (As := [.int (nI o), .long (g k), .long ((stepJ (fun j => jn o (g j) (f j)) f k) k)]) (rest := [.int (nI k), .ref w0]) ⟨hx, hb, hml, hown, hts⟩ (k_X1_join l D T o (g k) ((stepJ (fun j => jn o (g j) (f j)) f k) k) (by omega)) (va_cwS 3 hts gX1_becomeJoin_X1_join rfl rfl rfl (by decide +kernel) ⟨Nat.le_of_ble_eq_true rfl, Nat.le_of_ble_eq_true rfl⟩) (pre_S (Φ := fun X => True) hK trivial) rfl rfl hl.1 rfl (lv_room (Nat.le_of_ble_eq_true rfl)) dX1_becomeJoin_31 ⟨Nat.le_of_ble_eq_true rfl, Nat.le_of_ble_eq_true rfl⟩)) (fun r_1 hr_1 => ?_)
        subst hr_1
        refine r_last hx hb hK hS (rfl) (hN.2) (i := k) (by omega) (by decide) dX1_becomeJoin_34 (fun H_1 locs hat oq hS => ?_)
        have hM := hM.keep hN hn1 oq
        have hN := (hN.set hat oq).cong (stepJ_upd (by rw [stepJ_at]) 64)
        refine lv_iinc (v := (nI (k + 1))) (lv' := [(4, .int (nI (k + 1))), (0, .ref h0), (1, .int (nI o)), (2, .ref h1), (3, .ref h0)]) hx hb dX1_becomeJoin_35 hl (k := 4) rfl (iinc_n k 1) (by decide) rfl (fun ls hl => ?_)
        refine lv_goto (tgt := 3) hx hb dX1_becomeJoin_38 (by decide) ?_
        have hl := lv_sub hl (l' := [(0, .ref h0), (1, .int (nI o)), (2, .ref h1), (3, .ref h0), (4, .int (nI (k + 1)))]) [1, 2, 3, 4, 0] rfl
        exact ih3 (k + 1) (by omega) H_1 _ hN hM hS ls hl (by omega)
  have hN := hN.cong (g := stepJ (fun j => jn o (g j) (f j)) f 0) (fun j _ => (stepJ_0 _ _ j).symm)
  have hl := lv_sub hl (l' := [(0, .ref h0), (1, .int (nI o)), (2, .ref h1), (3, .ref h0), (4, .int (nI 0))]) [1, 2, 3, 4, 0] rfl
  exact loop3 (64 - 0 + 1) 0 (Nat.zero_le _) s.heap _ hN hM hS ls hl (Nat.lt_succ_self _)
set_option maxHeartbeats 4000000 in
set_option maxRecDepth 100000 in
theorem k_X1_becomeMoved (l : Launch) (D : va_G) (T : Nat → ClassId) (h0 : Nat) (w0 : Nat) (f : Nat → Int64) (h1 : Nat) (w1 : Nat) (g : Nat → Int64) (y : Int32) (hne : w1 ≠ w0) : Met l yX1_becomeMoved wsX1_becomeMoved ({ frames := 1, cells := 0, slots := 0, locals := 21 }) (va_Pc [.ref h0, .ref h1, .int y] (fun U => KS D T U ∧ Num D T U.heap h0 w0 f ∧ Num D T U.heap h1 w1 g)) (va_Qv (fun (u : Unit) => True) (fun u t => Num D T t.heap h0 w0 (mvw g y)) (fun q => q = w0)) 0 0 (fun q => q = w0) := by
  refine Met.ofW (cc := cX1_becomeMoved) (maxL := 10) (ret := none) (by decide) rfl ?_
  intro pg ev s m args below meth c s₁ B hml hv
  obtain ⟨rfl, hK, hH⟩ := hv
  have hx := B.exec
  have hb := B.bytes
  have hr := B.returns
  have hts := atoms_spec (ws := wsX1_becomeMoved) B.pre
  have hown : s.vm.findClass RX1 = some m.cls := findClass_of_methodNamed B.named
  have hlocks := B.notSynchronized
  have in_wsX10 : ∀ w ∈ wsX10, w ∈ wsX1_becomeMoved := fun w h => List.mem_cons_of_mem _ (List.mem_append_right _ h)
  have hS : va_S (fun q => q = w0) s.heap s.heap [] := va_S.rf
  have hl := lv_entry ([.ref h0, .ref h1, .int y]) (n := 10) (Nat.le_of_ble_eq_true rfl)
  rw [lg_entry_eq]
  generalize (lg_sl ([.ref h0, .ref h1, .int y]) ++ List.replicate (10 - (lg_sl ([.ref h0, .ref h1, .int y])).length) Slot.unset).toArray = ls at hl ⊢
  have hl : lv_has ls 10 [(0, .ref h0), (1, .ref h1), (2, .int y)] := hl
  refine W_gen (fun Q hQ => ?_)
  have hN := hH.1
  have hM := hH.2
  refine lv_iconst (v := (nI 0)) hx hb dX1_becomeMoved_0 (by decide) ?_
  refine lv_istore_n (lv' := [(3, .int (nI 0)), (0, .ref h0), (1, .ref h1), (2, .int y)]) hx hb dX1_becomeMoved_1 rfl hl (by decide) rfl (fun ls hl => ?_)
  have loop2 : ∀ (n2 : Nat) (k : Nat) (hk : k ≤ 64) (H : Heap) (locs : List Loc) (hN : Num D T H h0 w0 (stepJ (mvw g y) f k)) (hM : Num D T H h1 w1 g) (hS : va_S (fun q => q = w0) s.heap H locs) (ls : Array Slot) (hl : lv_has ls 10 [(0, .ref h0), (1, .ref h1), (2, .int y), (3, .int (nI k))]) (hn2 : 64 - k < n2), W pg l ev (headSpec wsX1_becomeMoved ({ frames := 1, cells := 0, slots := 0, locals := 21 })).room s m ([.ref h0, .ref h1, .int y] : List Value).toArray below meth c H locs 0 0 Q (F0 m 2 ls []) := by
    intro n2
    induction n2 with
    | zero =>
      intro k hk H locs hN hM hS ls hl hn2
      exact absurd hn2 (Nat.not_lt_zero _)
    | succ n2 ih2 =>
      intro k hk H locs hN hM hS ls hl hn2
      refine lv_iload_n hx hb dX1_becomeMoved_2 rfl (lv_at hl 3 rfl) ?_
      refine lv_bipush (v := (nI 64)) hx hb dX1_becomeMoved_3 (by decide) ?_
      refine lv_icmp_ge (tgt := 82) hx hb dX1_becomeMoved_5 (by decide) (fun c_1 => ?_) (fun c_1 => ?_)
      · skip
        have c_1 : 64 ≤ k := (nI_leI (a := 64) (b := k) (by omega) (by omega)).mp c_1
        subst hQ
        exact W.vret hx hb hr (fun t ht hW => ⟨⟨(), rfl, trivial, by have h9 := (hN.cong (by rw [show k = 64 by omega]; exact stepJ_end)); rw [← ht] at h9; exact h9⟩, hS.F ht⟩) hS.2.2 dX1_becomeMoved_82
      · skip
        have c_1 : ¬ (64 ≤ k) := fun z => c_1 ((nI_leI (a := 64) (b := k) (by omega) (by omega)).mpr z)
        refine lv_bipush (v := (nI 64)) hx hb dX1_becomeMoved_8 (by decide) ?_
        refine lv_iload_n hx hb dX1_becomeMoved_10 rfl (lv_at hl 3 rfl) ?_
        refine lv_imul hx hb dX1_becomeMoved_11 ?_
        refine top_i (pk_mul 64 k) ?_
        refine lv_iload_n hx hb dX1_becomeMoved_12 rfl (lv_at hl 2 rfl) ?_
        refine lv_isub hx hb dX1_becomeMoved_13 ?_
        refine lv_istore (lv' := [(4, .int ((nI (64 * k)) - y)), (0, .ref h0), (1, .ref h1), (2, .int y), (3, .int (nI k))]) hx hb dX1_becomeMoved_14 hl (by decide) rfl (fun ls hl => ?_)
        refine lv_iload hx hb dX1_becomeMoved_16 (lv_at hl 0 rfl) ?_
        refine lv_bipush (v := (nI 63)) hx hb dX1_becomeMoved_18 (by decide) ?_
        refine lv_iand hx hb dX1_becomeMoved_20 ?_
        refine lv_istore (lv' := [(5, .int (((nI (64 * k)) - y) &&& (nI 63))), (4, .int ((nI (64 * k)) - y)), (0, .ref h0), (1, .ref h1), (2, .int y), (3, .int (nI k))]) hx hb dX1_becomeMoved_21 hl (by decide) rfl (fun ls hl => ?_)
        refine lv_aload_n hx hb dX1_becomeMoved_23 rfl (lv_at hl 3 rfl) ?_
        refine lv_iload hx hb dX1_becomeMoved_24 (lv_at hl 1 rfl) ?_
        refine lv_bipush (v := (nI 6)) hx hb dX1_becomeMoved_26 (by decide) ?_
        refine lv_ishr hx hb dX1_becomeMoved_28 ?_
        refine top_i (x' := (shrI ((nI (64 * k)) - y) (nI 6))) rfl ?_
        refine vp_callSl (va_Run.run (va_runV (As := [.int (shrI ((nI (64 * k)) - y) (nI 6))]) (rest := []) ⟨hx, hb, hml, hown, hts⟩ (k_X1_wordAt l D T h1 w1 g (shrI ((nI (64 * k)) - y) (nI 6)) ) (cwV 1 hts gX1_becomeMoved_X1_wordAt rfl rfl rfl (by decide +kernel) ⟨Nat.le_of_ble_eq_true rfl, Nat.le_of_ble_eq_true rfl⟩) (pre_V (Φ := fun X => Num D T X h1 w1 g) hK (hM.1) rfl hM) rfl rfl hl.1 rfl (lv_room (Nat.le_of_ble_eq_true rfl)) dX1_becomeMoved_29 ⟨Nat.le_of_ble_eq_true rfl, Nat.le_of_ble_eq_true rfl⟩)) (fun r_1 hr_1 => ?_)
        subst hr_1
        refine lv_iload hx hb dX1_becomeMoved_32 (lv_at hl 0 rfl) ?_
        refine lv_lushr (v := (ushrL (wAt g (shrI ((nI (64 * k)) - y) (nI 6))) (((nI (64 * k)) - y) &&& (nI 63)))) hx hb dX1_becomeMoved_34 rfl ?_
        refine lv_lstore (lv' := [(6, .long (ushrL (wAt g (shrI ((nI (64 * k)) - y) (nI 6))) (((nI (64 * k)) - y) &&& (nI 63)))), (5, .int (((nI (64 * k)) - y) &&& (nI 63))), (4, .int ((nI (64 * k)) - y)), (0, .ref h0), (1, .ref h1), (2, .int y), (3, .int (nI k))]) hx hb dX1_becomeMoved_35 hl (by decide) rfl (fun ls hl => ?_)
        refine lv_iload hx hb dX1_becomeMoved_37 (lv_at hl 1 rfl) ?_
        refine lv_if_ne (tgt := 46) hx hb dX1_becomeMoved_39 (by decide) (fun c_2 => ?_) (fun c_2 => ?_)
        · skip
          refine lv_aload_n hx hb dX1_becomeMoved_46 rfl (lv_at hl 4 rfl) ?_
          refine lv_iload hx hb dX1_becomeMoved_47 (lv_at hl 2 rfl) ?_
          refine lv_bipush (v := (nI 6)) hx hb dX1_becomeMoved_49 (by decide) ?_
          refine lv_ishr hx hb dX1_becomeMoved_51 ?_
          refine top_i (x' := (shrI ((nI (64 * k)) - y) (nI 6))) rfl ?_
          refine lv_iconst (v := (nI 1)) hx hb dX1_becomeMoved_52 (by decide) ?_
          refine lv_iadd hx hb dX1_becomeMoved_53 ?_
          refine vp_callSl (va_Run.run (va_runV (As := [.int ((shrI ((nI (64 * k)) - y) (nI 6)) + (nI 1))]) (rest := []) ⟨hx, hb, hml, hown, hts⟩ (k_X1_wordAt l D T h1 w1 g ((shrI ((nI (64 * k)) - y) (nI 6)) + (nI 1)) ) (cwV 1 hts gX1_becomeMoved_X1_wordAt rfl rfl rfl (by decide +kernel) ⟨Nat.le_of_ble_eq_true rfl, Nat.le_of_ble_eq_true rfl⟩) (pre_V (Φ := fun X => Num D T X h1 w1 g) hK (hM.1) rfl hM) rfl rfl hl.1 rfl (lv_room (Nat.le_of_ble_eq_true rfl)) dX1_becomeMoved_54 ⟨Nat.le_of_ble_eq_true rfl, Nat.le_of_ble_eq_true rfl⟩)) (fun r_2 hr_2 => ?_)
          subst hr_2
          refine lv_bipush (v := (nI 64)) hx hb dX1_becomeMoved_57 (by decide) ?_
          refine lv_iload hx hb dX1_becomeMoved_59 (lv_at hl 1 rfl) ?_
          refine lv_isub hx hb dX1_becomeMoved_61 ?_
          refine lv_lshl (v := (shlL (wAt g ((shrI ((nI (64 * k)) - y) (nI 6)) + (nI 1))) ((nI 64) - (((nI (64 * k)) - y) &&& (nI 63))))) hx hb dX1_becomeMoved_62 rfl ?_
          refine lv_lstore (lv' := [(8, .long (shlL (wAt g ((shrI ((nI (64 * k)) - y) (nI 6)) + (nI 1))) ((nI 64) - (((nI (64 * k)) - y) &&& (nI 63))))), (6, .long (ushrL (wAt g (shrI ((nI (64 * k)) - y) (nI 6))) (((nI (64 * k)) - y) &&& (nI 63)))), (5, .int (((nI (64 * k)) - y) &&& (nI 63))), (4, .int ((nI (64 * k)) - y)), (0, .ref h0), (1, .ref h1), (2, .int y), (3, .int (nI k))]) hx hb dX1_becomeMoved_63 hl (by decide) rfl (fun ls hl => ?_)
          refine lv_aload_n hx hb dX1_becomeMoved_65 rfl (lv_at hl 4 rfl) ?_
          refine r_get (C := RX1) (Tb := TX1) (N := 1) hx hb hts in_wsX10 hown hK (hN.1) rfl 0 (by decide) (hts (.fieldLink RX1 9 "PieceSets$Numbers" "words" "[J") (by decide +kernel)) rfl (v := .ref w0) rfl dX1_becomeMoved_66 ?_
          refine lv_iload_n hx hb dX1_becomeMoved_69 rfl (lv_at hl 7 rfl) ?_
          refine lv_lload hx hb dX1_becomeMoved_70 (lv_at hl 1 rfl) ?_
          refine lv_lload hx hb dX1_becomeMoved_72 (lv_at hl 0 rfl) ?_
          refine lv_lor hx hb dX1_becomeMoved_74 ?_
          refine r_last hx hb hK hS (rfl) (hN.2) (i := k) (by omega) (by decide) dX1_becomeMoved_75 (fun H_1 locs hat oq hS => ?_)
          have hM := hM.keep hN hne oq
          have hN := (hN.set hat oq).cong (stepJ_upd (F := mvw g y) (by unfold mvw; rw [(if_neg c_2)]) 64)
          refine lv_iinc (v := (nI (k + 1))) (lv' := [(3, .int (nI (k + 1))), (8, .long (shlL (wAt g ((shrI ((nI (64 * k)) - y) (nI 6)) + (nI 1))) ((nI 64) - (((nI (64 * k)) - y) &&& (nI 63))))), (6, .long (ushrL (wAt g (shrI ((nI (64 * k)) - y) (nI 6))) (((nI (64 * k)) - y) &&& (nI 63)))), (5, .int (((nI (64 * k)) - y) &&& (nI 63))), (4, .int ((nI (64 * k)) - y)), (0, .ref h0), (1, .ref h1), (2, .int y)]) hx hb dX1_becomeMoved_76 hl (k := 7) rfl (iinc_n k 1) (by decide) rfl (fun ls hl => ?_)
          refine lv_goto (tgt := 2) hx hb dX1_becomeMoved_79 (by decide) ?_
          have hl := lv_sub hl (l' := [(0, .ref h0), (1, .ref h1), (2, .int y), (3, .int (nI (k + 1)))]) [5, 6, 7, 0] rfl
          exact ih2 (k + 1) (by omega) H_1 _ hN hM hS ls hl (by omega)
        · skip
          refine lv_lconst (v := 0) hx hb dX1_becomeMoved_42 rfl ?_
          refine lv_goto (tgt := 63) hx hb dX1_becomeMoved_43 (by decide) ?_
          refine lv_lstore (lv' := [(8, .long 0), (6, .long (ushrL (wAt g (shrI ((nI (64 * k)) - y) (nI 6))) (((nI (64 * k)) - y) &&& (nI 63)))), (5, .int (((nI (64 * k)) - y) &&& (nI 63))), (4, .int ((nI (64 * k)) - y)), (0, .ref h0), (1, .ref h1), (2, .int y), (3, .int (nI k))]) hx hb dX1_becomeMoved_63 hl (by decide) rfl (fun ls hl => ?_)
          refine lv_aload_n hx hb dX1_becomeMoved_65 rfl (lv_at hl 4 rfl) ?_
          refine r_get (C := RX1) (Tb := TX1) (N := 1) hx hb hts in_wsX10 hown hK (hN.1) rfl 0 (by decide) (hts (.fieldLink RX1 9 "PieceSets$Numbers" "words" "[J") (by decide +kernel)) rfl (v := .ref w0) rfl dX1_becomeMoved_66 ?_
          refine lv_iload_n hx hb dX1_becomeMoved_69 rfl (lv_at hl 7 rfl) ?_
          refine lv_lload hx hb dX1_becomeMoved_70 (lv_at hl 1 rfl) ?_
          refine lv_lload hx hb dX1_becomeMoved_72 (lv_at hl 0 rfl) ?_
          refine lv_lor hx hb dX1_becomeMoved_74 ?_
          refine r_last hx hb hK hS (rfl) (hN.2) (i := k) (by omega) (by decide) dX1_becomeMoved_75 (fun H_1 locs hat oq hS => ?_)
          have hM := hM.keep hN hne oq
          have hN := (hN.set hat oq).cong (stepJ_upd (F := mvw g y) (by unfold mvw; rw [(if_pos c_2)]) 64)
          refine lv_iinc (v := (nI (k + 1))) (lv' := [(3, .int (nI (k + 1))), (8, .long 0), (6, .long (ushrL (wAt g (shrI ((nI (64 * k)) - y) (nI 6))) (((nI (64 * k)) - y) &&& (nI 63)))), (5, .int (((nI (64 * k)) - y) &&& (nI 63))), (4, .int ((nI (64 * k)) - y)), (0, .ref h0), (1, .ref h1), (2, .int y)]) hx hb dX1_becomeMoved_76 hl (k := 7) rfl (iinc_n k 1) (by decide) rfl (fun ls hl => ?_)
          refine lv_goto (tgt := 2) hx hb dX1_becomeMoved_79 (by decide) ?_
          have hl := lv_sub hl (l' := [(0, .ref h0), (1, .ref h1), (2, .int y), (3, .int (nI (k + 1)))]) [5, 6, 7, 0] rfl
          exact ih2 (k + 1) (by omega) H_1 _ hN hM hS ls hl (by omega)
  have hN := hN.cong (g := stepJ (mvw g y) f 0) (fun j _ => (stepJ_0 _ _ j).symm)
  have hl := lv_sub hl (l' := [(0, .ref h0), (1, .ref h1), (2, .int y), (3, .int (nI 0))]) [1, 2, 3, 0] rfl
  exact loop2 (64 - 0 + 1) 0 (Nat.zero_le _) s.heap _ hN hM hS ls hl (Nat.lt_succ_self _)
