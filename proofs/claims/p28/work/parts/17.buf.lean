set_option maxHeartbeats 4000000 in
set_option maxRecDepth 100000 in
theorem k_X0_append (l : Launch) (D : va_G) (T : Nat → ClassId) (o : Nat) (rr : Nat) (rb : Nat → Nat) (bl : Nat) (v : Nat) (hrb : ∀ i, rb i < 256) (hbl : bl ≤ 200) (hv : v < 256) : Met l yX0_append wsX0_append ({ frames := 0, cells := 0, slots := 0, locals := 0 }) (va_Pc [.ref o, .int (nI v)] (fun U => KS D T U ∧ Buf D T U.heap o rr rb bl)) (va_Qi (fun (r : Int32) (u : Unit) => r = (b2i (decide (bl < 200)))) (fun u t => Buf D T t.heap o rr (apR rb bl v) (apL bl)) (fun q => q = o ∨ q = rr)) 0 0 (fun q => q = o ∨ q = rr) := by
  refine Met.ofW (cc := cX0_append) (maxL := 2) (ret := (some .boolean)) (by decide) rfl ?_
  intro pg ev s m args below meth c s₁ B hml hv
  obtain ⟨rfl, hK, hH⟩ := hv
  have hx := B.exec
  have hb := B.bytes
  have hr := B.returns
  have hts := atoms_spec (ws := wsX0_append) B.pre
  have hown : s.vm.findClass RX0 = some m.cls := findClass_of_methodNamed B.named
  have hlocks := B.notSynchronized
  have in_wsX00 : ∀ w ∈ wsX00, w ∈ wsX0_append := fun w h => List.mem_cons_of_mem _ (List.mem_append_right _ h)
  have hS : va_S (fun q => q = o ∨ q = rr) s.heap s.heap [] := va_S.rf
  have hl := lv_entry ([.ref o, .int (nI v)]) (n := 2) (Nat.le_of_ble_eq_true rfl)
  rw [lg_entry_eq]
  generalize (lg_sl ([.ref o, .int (nI v)]) ++ List.replicate (2 - (lg_sl ([.ref o, .int (nI v)])).length) Slot.unset).toArray = ls at hl ⊢
  have hl : lv_has ls 2 [(0, .ref o), (1, .int (nI v))] := hl
  refine W_gen (fun Q hQ => ?_)
  have hU := hH
  refine lv_aload_n hx hb dX0_append_0 rfl (lv_at hl 0 rfl) ?_
  refine r_get (C := RX0) (Tb := TX0) (N := 2) hx hb hts in_wsX00 hown hK (hU.1) rfl 1 (by decide) (hts (.fieldLink RX0 15 "PieceSets$Buffer" "length" "I") (by decide +kernel)) rfl (v := .int (nI bl)) rfl dX0_append_1 ?_
  refine lv_if_lt (tgt := 17) hx hb dX0_append_4 (by decide) (fun c_1 => ?_) (fun c_1 => ?_)
  · skip
    exact absurd c_1 (nI_pos (n := bl) (by omega))
  · skip
    refine lv_aload_n hx hb dX0_append_7 rfl (lv_at hl 0 rfl) ?_
    refine r_get (C := RX0) (Tb := TX0) (N := 2) hx hb hts in_wsX00 hown hK (hU.1) rfl 1 (by decide) (hts (.fieldLink RX0 15 "PieceSets$Buffer" "length" "I") (by decide +kernel)) rfl (v := .int (nI bl)) rfl dX0_append_8 ?_
    refine lv_sipush (v := (nI 200)) hx hb dX0_append_11 (by decide) ?_
    refine lv_icmp_lt (tgt := 19) hx hb dX0_append_14 (by decide) (fun c_2 => ?_) (fun c_2 => ?_)
    · skip
      have c_2 : bl < 200 := (nI_ltI (a := bl) (b := 200) (by omega) (by omega)).mp c_2
      refine lv_aload_n hx hb dX0_append_19 rfl (lv_at hl 0 rfl) ?_
      refine r_get (C := RX0) (Tb := TX0) (N := 2) hx hb hts in_wsX00 hown hK (hU.1) rfl 0 (by decide) (hts (.fieldLink RX0 9 "PieceSets$Buffer" "row" "[I") (by decide +kernel)) rfl (v := .ref rr) rfl dX0_append_20 ?_
      refine lv_aload_n hx hb dX0_append_23 rfl (lv_at hl 0 rfl) ?_
      refine r_get (C := RX0) (Tb := TX0) (N := 2) hx hb hts in_wsX00 hown hK (hU.1) rfl 1 (by decide) (hts (.fieldLink RX0 15 "PieceSets$Buffer" "length" "I") (by decide +kernel)) rfl (v := .int (nI bl)) rfl dX0_append_24 ?_
      refine lv_iload_n hx hb dX0_append_27 rfl (lv_at hl 1 rfl) ?_
      refine r_iast hx hb hK hS (Or.inr rfl) (hU.2) (i := bl) (by omega) (by decide) dX0_append_28 (fun H_1 locs hat oq hS => ?_)
      have hU := show Buf D T _ o rr (fun i => if i = bl then v else rb i) bl from ⟨(Fr.oq oq).at hU.1 (ne_oI (q := (RX0, TX0, 2)) rfl (by decide) hU.1 hU.2), at_congI hat (fun j _ => by show upd (fun i => nI (rb i)) bl (nI v) j = nI (if j = bl then v else rb j); unfold upd; split <;> rfl)⟩
      refine lv_aload_n hx hb dX0_append_29 rfl (lv_at hl 0 rfl) ?_
      refine lv_dup hx hb dX0_append_30 rfl ?_
      refine r_get (C := RX0) (Tb := TX0) (N := 2) hx hb hts in_wsX00 hown hK (hU.1) rfl 1 (by decide) (hts (.fieldLink RX0 15 "PieceSets$Buffer" "length" "I") (by decide +kernel)) rfl (v := .int (nI bl)) rfl dX0_append_31 ?_
      refine lv_iconst (v := (nI 1)) hx hb dX0_append_34 (by decide) ?_
      refine lv_iadd hx hb dX0_append_35 ?_
      refine top_i (nI_add bl 1) ?_
      refine r_put (C := RX0) (Tb := TX0) (N := 2) hx hb hts in_wsX00 tyX0 tyX0_ok nmX0 hown hK hS (Or.inl rfl) hU.1 rfl 1 (by decide) (hts (.fieldLink RX0 15 "PieceSets$Buffer" "length" "I") (by decide +kernel)) rfl rfl (ty := .int) (by decide +kernel) rfl rfl (show (1 : Nat) < 2 by decide) dX0_append_36 (fun H_2 locs hat oq hS => ?_)
      have hU : Buf D T H_2 o rr (fun i => if i = bl then v else rb i) (bl + 1) := ⟨hat, (Fr.oq oq).at hU.2 (ne_oI (q := (RX0, TX0, 2)) rfl (by decide) hU.1 hU.2).symm⟩
      refine lv_iconst (v := (nI 1)) hx hb dX0_append_39 (by decide) ?_
      subst hQ
      have hU : Buf D T H_2 o rr (apR rb bl v) (apL bl) := by unfold apR apL; rw [if_pos c_2, if_pos c_2]; exact hU
      exact W.zret (v := (nI 1)) hx hb hr nb1 (fun t ht hW => ⟨⟨(nI 1), (), rfl, r1 (decide_eq_true c_2), by have h9 := hU; rw [← ht] at h9; exact h9⟩, hS.F ht⟩) hS.2.2 dX0_append_40
    · skip
      have c_2 : ¬ (bl < 200) := fun z => c_2 ((nI_ltI (a := bl) (b := 200) (by omega) (by omega)).mpr z)
      refine lv_iconst (v := (nI 0)) hx hb dX0_append_17 (by decide) ?_
      subst hQ
      have hU : Buf D T s.heap o rr (apR rb bl v) (apL bl) := by unfold apR apL; rw [if_neg c_2, if_neg c_2]; exact hU
      exact W.zret (v := (nI 0)) hx hb hr nb0 (fun t ht hW => ⟨⟨(nI 0), (), rfl, r0 (decide_eq_false c_2), by have h9 := hU; rw [← ht] at h9; exact h9⟩, hS.F ht⟩) hS.2.2 dX0_append_18
set_option maxHeartbeats 4000000 in
set_option maxRecDepth 100000 in
theorem k_X0_parseArray (l : Launch) (D : va_G) (T : Nat → ClassId) (o : Nat) (rr : Nat) (rb : Nat → Nat) (bl : Nat) (k : Nat) (n1 : Nat) (at0 : Nat) (h0 : Nat) (w0 : Nat) (f : Nat → Int64) (b : Nat → Bool) (hrb : ∀ i, rb i < 256) (hbl : bl ≤ 200) (hk : k < 16) (hn1 : n1 < 256) (hat0 : at0 ≤ bl) (hbf : ∀ x, x < 4096 → bitL f x = b x) : Met l yX0_parseArray wsX0_parseArray ({ frames := 2, cells := 0, slots := 0, locals := 41 }) (va_Pc [.ref o, .int (nI k), .int (nI n1), .int (nI at0), .ref h0] (fun U => KS D T U ∧ Buf D T U.heap o rr rb bl ∧ Num D T U.heap h0 w0 f)) (va_Qi (fun (r : Int32) (u : Nat → Int64) => PRes (pAr rb bl (256 * k) n1 at0 0 b) r u) (fun u t => Num D T t.heap h0 w0 u) (fun q => q = w0)) 0 0 (fun q => q = w0) := by
  refine Met.ofW (cc := cX0_parseArray) (maxL := 7) (ret := (some .int)) (by decide) rfl ?_
  intro pg ev s m args below meth c s₁ B hml hv
  obtain ⟨rfl, hK, hH⟩ := hv
  have hx := B.exec
  have hb := B.bytes
  have hr := B.returns
  have hts := atoms_spec (ws := wsX0_parseArray) B.pre
  have hown : s.vm.findClass RX0 = some m.cls := findClass_of_methodNamed B.named
  have hlocks := B.notSynchronized
  have in_wsX00 : ∀ w ∈ wsX00, w ∈ wsX0_parseArray := fun w h => List.mem_cons_of_mem _ (List.mem_append_left _ (List.mem_append_right _ h))
  have in_wsX10 : ∀ w ∈ wsX10, w ∈ wsX0_parseArray := fun w h => List.mem_cons_of_mem _ (List.mem_append_right _ h)
  have hS : va_S (fun q => q = w0) s.heap s.heap [] := va_S.rf
  have hl := lv_entry ([.ref o, .int (nI k), .int (nI n1), .int (nI at0), .ref h0]) (n := 7) (Nat.le_of_ble_eq_true rfl)
  rw [lg_entry_eq]
  generalize (lg_sl ([.ref o, .int (nI k), .int (nI n1), .int (nI at0), .ref h0]) ++ List.replicate (7 - (lg_sl ([.ref o, .int (nI k), .int (nI n1), .int (nI at0), .ref h0])).length) Slot.unset).toArray = ls at hl ⊢
  have hl : lv_has ls 7 [(0, .ref o), (1, .int (nI k)), (2, .int (nI n1)), (3, .int (nI at0)), (4, .ref h0)] := hl
  refine W_gen (fun Q hQ => ?_)
  have hU := hH.1
  have hN := hH.2
  refine lv_iconst (v := (nI 0)) hx hb dX0_parseArray_0 (by decide) ?_
  refine lv_istore (lv' := [(5, .int (nI 0)), (0, .ref o), (1, .int (nI k)), (2, .int (nI n1)), (3, .int (nI at0)), (4, .ref h0)]) hx hb dX0_parseArray_1 hl (by decide) rfl (fun ls hl => ?_)
  refine lv_iload_n hx hb dX0_parseArray_3 rfl (lv_at hl 4 rfl) ?_
  refine lv_istore (lv' := [(6, .int (nI at0)), (5, .int (nI 0)), (0, .ref o), (1, .int (nI k)), (2, .int (nI n1)), (3, .int (nI at0)), (4, .ref h0)]) hx hb dX0_parseArray_4 hl (by decide) rfl (fun ls hl => ?_)
  have loop6 : ∀ (n6 : Nat) (i : Nat) (l1 : Nat) (g : Nat → Int64) (bb : Nat → Bool) (hi1 : at0 ≤ i) (hi2 : i ≤ at0 + n1) (hi3 : i ≤ bl) (hl1 : l1 < 2 ^ 30) (hg : ∀ x, x < 4096 → bitL g x = bb x) (hv : pAr rb bl (256 * k) (at0 + n1 - i) i l1 bb = pAr rb bl (256 * k) n1 at0 0 b) (H : Heap) (locs : List Loc) (hU : Buf D T H o rr rb bl) (hN : Num D T H h0 w0 g) (hS : va_S (fun q => q = w0) s.heap H locs) (ls : Array Slot) (hl : lv_has ls 7 [(0, .ref o), (1, .int (nI k)), (2, .int (nI n1)), (3, .int (nI at0)), (4, .ref h0), (5, .int (nI l1)), (6, .int (nI i))]) (hn6 : at0 + n1 - i < n6), W pg l ev (headSpec wsX0_parseArray ({ frames := 2, cells := 0, slots := 0, locals := 41 })).room s m ([.ref o, .int (nI k), .int (nI n1), .int (nI at0), .ref h0] : List Value).toArray below meth c H locs 0 0 Q (F0 m 6 ls []) := by
    intro n6
    induction n6 with
    | zero =>
      intro i l1 g bb hi1 hi2 hi3 hl1 hg hv H locs hU hN hS ls hl hn6
      exact absurd hn6 (Nat.not_lt_zero _)
    | succ n6 ih6 =>
      intro i l1 g bb hi1 hi2 hi3 hl1 hg hv H locs hU hN hS ls hl hn6
      have hrbi := hrb i
      refine lv_iload hx hb dX0_parseArray_6 (lv_at hl 6 rfl) ?_
      refine lv_iload_n hx hb dX0_parseArray_8 rfl (lv_at hl 3 rfl) ?_
      refine lv_iload_n hx hb dX0_parseArray_9 rfl (lv_at hl 2 rfl) ?_
      refine lv_iadd hx hb dX0_parseArray_10 ?_
      refine top_i (nI_add at0 n1) ?_
      refine lv_icmp_ge (tgt := 82) hx hb dX0_parseArray_11 (by decide) (fun c_1 => ?_) (fun c_1 => ?_)
      · skip
        have c_1 : (at0 + n1) ≤ i := (nI_leI (a := (at0 + n1)) (b := i) (by omega) (by omega)).mp c_1
        refine lv_iload_n hx hb dX0_parseArray_82 rfl (lv_at hl 3 rfl) ?_
        refine lv_iload_n hx hb dX0_parseArray_83 rfl (lv_at hl 2 rfl) ?_
        refine lv_iadd hx hb dX0_parseArray_84 ?_
        refine top_i (nI_add at0 n1) ?_
        subst hQ
        exact W.iret (v := (nI (at0 + n1))) hx hb hr (fun t ht hW => ⟨⟨(nI (at0 + n1)), g, rfl, PRes_t (hv.symm.trans (by rw [show at0 + n1 - i = 0 by omega]; rfl)) (by rw [show i = at0 + n1 by omega]) hg, by have h9 := hN; rw [← ht] at h9; exact h9⟩, hS.F ht⟩) hS.2.2 dX0_parseArray_85
      · skip
        have c_1 : ¬ ((at0 + n1) ≤ i) := fun z => c_1 ((nI_leI (a := (at0 + n1)) (b := i) (by omega) (by omega)).mpr z)
        refine lv_iload hx hb dX0_parseArray_14 (lv_at hl 6 rfl) ?_
        refine lv_aload_n hx hb dX0_parseArray_16 rfl (lv_at hl 0 rfl) ?_
        refine r_get (C := RX0) (Tb := TX0) (N := 2) hx hb hts in_wsX00 hown hK (hU.1) rfl 1 (by decide) (hts (.fieldLink RX0 15 "PieceSets$Buffer" "length" "I") (by decide +kernel)) rfl (v := .int (nI bl)) rfl dX0_parseArray_17 ?_
        refine lv_icmp_lt (tgt := 30) hx hb dX0_parseArray_20 (by decide) (fun c_2 => ?_) (fun c_2 => ?_)
        · skip
          have c_2 : i < bl := (nI_ltI (a := i) (b := bl) (by omega) (by omega)).mp c_2
          refine lv_aload_n hx hb dX0_parseArray_30 rfl (lv_at hl 0 rfl) ?_
          refine r_get (C := RX0) (Tb := TX0) (N := 2) hx hb hts in_wsX00 hown hK (hU.1) rfl 0 (by decide) (hts (.fieldLink RX0 9 "PieceSets$Buffer" "row" "[I") (by decide +kernel)) rfl (v := .ref rr) rfl dX0_parseArray_31 ?_
          refine lv_iload hx hb dX0_parseArray_34 (lv_at hl 6 rfl) ?_
          refine r_iald hx hb hK (hU.2) (i := i) (by omega) (by decide) dX0_parseArray_36 ?_
          refine top_i (x' := (nI (rb i))) rfl ?_
          refine lv_iload hx hb dX0_parseArray_37 (lv_at hl 5 rfl) ?_
          refine lv_icmp_ge (tgt := 47) hx hb dX0_parseArray_39 (by decide) (fun c_3 => ?_) (fun c_3 => ?_)
          · skip
            have c_3 : l1 ≤ (rb i) := (nI_leI (a := l1) (b := (rb i)) (by omega) (by omega)).mp c_3
            refine lv_aload hx hb dX0_parseArray_47 (lv_at hl 4 rfl) ?_
            refine lv_sipush (v := (nI 256)) hx hb dX0_parseArray_49 (by decide) ?_
            refine lv_iload_n hx hb dX0_parseArray_52 rfl (lv_at hl 1 rfl) ?_
            refine lv_imul hx hb dX0_parseArray_53 ?_
            refine top_i (pk_mul 256 k) ?_
            refine lv_aload_n hx hb dX0_parseArray_54 rfl (lv_at hl 0 rfl) ?_
            refine r_get (C := RX0) (Tb := TX0) (N := 2) hx hb hts in_wsX00 hown hK (hU.1) rfl 0 (by decide) (hts (.fieldLink RX0 9 "PieceSets$Buffer" "row" "[I") (by decide +kernel)) rfl (v := .ref rr) rfl dX0_parseArray_55 ?_
            refine lv_iload hx hb dX0_parseArray_58 (lv_at hl 6 rfl) ?_
            refine r_iald hx hb hK (hU.2) (i := i) (by omega) (by decide) dX0_parseArray_60 ?_
            refine top_i (x' := (nI (rb i))) rfl ?_
            refine lv_iadd hx hb dX0_parseArray_61 ?_
            refine top_i (nI_add (256 * k) (rb i)) ?_
            refine va_callv (va_runVN (As := [.int (nI ((256 * k) + (rb i)))]) (rest := []) ⟨hx, hb, hml, hown, hts⟩ (k_X1_include l D T h0 w0 g ((256 * k) + (rb i)) (by omega)) (⟨va_cnB 1 hts ggX0_parseArray_X1_include rfl rfl rfl (hK.2.m (args := ([.ref o, .int (nI k), .int (nI n1), .int (nI at0), .ref h0] : List Value).toArray) 27 rfl) (hts (.initialized RX1) (by decide +kernel)) (by decide +kernel) ⟨Nat.le_of_ble_eq_true rfl, Nat.le_of_ble_eq_true rfl⟩, hts (.instanceMethod yX1_include) (by decide +kernel), hts (.selects RX1 yX1_include yX1_include) (by decide +kernel)⟩) (pre_V (Φ := fun X => Num D T X h0 w0 g) hK (hN.1) rfl hN) rfl rfl hl.1 rfl (lv_room (Nat.le_of_ble_eq_true rfl)) dX0_parseArray_62 ⟨Nat.le_of_ble_eq_true rfl, Nat.le_of_ble_eq_true rfl⟩) hS (fun q _ h => h) (fun q h => h) (fun u_1 t H_1 locs ht hvm hw hB hz hk hS => ?_)
            rw [ht] at hB
            try dsimp only at hw
            try dsimp only at hB
            have hF : Fr _ _ _ := hk
            have hU := hU.keep hN hF
            have hN := hB
            refine lv_aload_n hx hb dX0_parseArray_65 rfl (lv_at hl 0 rfl) ?_
            refine r_get (C := RX0) (Tb := TX0) (N := 2) hx hb hts in_wsX00 hown hK (hU.1) rfl 0 (by decide) (hts (.fieldLink RX0 9 "PieceSets$Buffer" "row" "[I") (by decide +kernel)) rfl (v := .ref rr) rfl dX0_parseArray_66 ?_
            refine lv_iload hx hb dX0_parseArray_69 (lv_at hl 6 rfl) ?_
            refine r_iald hx hb hK (hU.2) (i := i) (by omega) (by decide) dX0_parseArray_71 ?_
            refine top_i (x' := (nI (rb i))) rfl ?_
            refine lv_iconst (v := (nI 1)) hx hb dX0_parseArray_72 (by decide) ?_
            refine lv_iadd hx hb dX0_parseArray_73 ?_
            refine top_i (nI_add (rb i) 1) ?_
            refine lv_istore (lv' := [(5, .int (nI ((rb i) + 1))), (0, .ref o), (1, .int (nI k)), (2, .int (nI n1)), (3, .int (nI at0)), (4, .ref h0), (6, .int (nI i))]) hx hb dX0_parseArray_74 hl (by decide) rfl (fun ls hl => ?_)
            refine lv_iinc (v := (nI (i + 1))) (lv' := [(6, .int (nI (i + 1))), (5, .int (nI ((rb i) + 1))), (0, .ref o), (1, .int (nI k)), (2, .int (nI n1)), (3, .int (nI at0)), (4, .ref h0)]) hx hb dX0_parseArray_76 hl (k := 6) rfl (iinc_n i 1) (by decide) rfl (fun ls hl => ?_)
            refine lv_goto (tgt := 6) hx hb dX0_parseArray_79 (by decide) ?_
            have hl := lv_sub hl (l' := [(0, .ref o), (1, .int (nI k)), (2, .int (nI n1)), (3, .int (nI at0)), (4, .ref h0), (5, .int (nI ((rb i) + 1))), (6, .int (nI (i + 1)))]) [2, 3, 4, 5, 6, 1, 0] rfl
            exact ih6 (i + 1) ((rb i) + 1) u_1 (fun x => bb x || decide (x = 256 * k + rb i)) (by omega) (by omega) (by omega) (by omega) (fun x hx => by rw [hw x hx, hg x hx]) (by rw [show at0 + n1 - i = (at0 + n1 - (i + 1)) + 1 by omega, pAr_s, if_neg (by omega)] at hv; exact hv) H_1 _ hU hN hS ls hl (by omega)
          · skip
            have c_3 : ¬ (l1 ≤ (rb i)) := fun z => c_3 ((nI_leI (a := l1) (b := (rb i)) (by omega) (by omega)).mpr z)
            refine lv_iconst (v := (-1)) hx hb dX0_parseArray_42 (by decide) ?_
            refine lv_iload hx hb dX0_parseArray_43 (lv_at hl 6 rfl) ?_
            refine lv_isub hx hb dX0_parseArray_45 ?_
            subst hQ
            exact W.iret (v := ((-1) - (nI i))) hx hb hr (fun t ht hW => ⟨⟨((-1) - (nI i)), g, rfl, PRes_e (hv.symm.trans (by rw [show at0 + n1 - i = (at0 + n1 - (i + 1)) + 1 by omega, pAr_s, if_pos (by omega)])) rfl, by have h9 := hN; rw [← ht] at h9; exact h9⟩, hS.F ht⟩) hS.2.2 dX0_parseArray_46
        · skip
          have c_2 : ¬ (i < bl) := fun z => c_2 ((nI_ltI (a := i) (b := bl) (by omega) (by omega)).mpr z)
          refine lv_iconst (v := (-1)) hx hb dX0_parseArray_23 (by decide) ?_
          refine lv_aload_n hx hb dX0_parseArray_24 rfl (lv_at hl 0 rfl) ?_
          refine r_get (C := RX0) (Tb := TX0) (N := 2) hx hb hts in_wsX00 hown hK (hU.1) rfl 1 (by decide) (hts (.fieldLink RX0 15 "PieceSets$Buffer" "length" "I") (by decide +kernel)) rfl (v := .int (nI bl)) rfl dX0_parseArray_25 ?_
          refine lv_isub hx hb dX0_parseArray_28 ?_
          subst hQ
          exact W.iret (v := ((-1) - (nI bl))) hx hb hr (fun t ht hW => ⟨⟨((-1) - (nI bl)), g, rfl, PRes_e (hv.symm.trans (by rw [show at0 + n1 - i = (at0 + n1 - (i + 1)) + 1 by omega, pAr_s, if_pos (by omega)])) (by rw [show bl = i by omega]), by have h9 := hN; rw [← ht] at h9; exact h9⟩, hS.F ht⟩) hS.2.2 dX0_parseArray_29
  have hl := lv_sub hl (l' := [(0, .ref o), (1, .int (nI k)), (2, .int (nI n1)), (3, .int (nI at0)), (4, .ref h0), (5, .int (nI 0)), (6, .int (nI at0))]) [2, 3, 4, 5, 6, 1, 0] rfl
  exact loop6 (at0 + n1 - at0 + 1) at0 0 f b (Nat.le_refl _) (by omega) (hat0) (by decide) (hbf) (by rw [Nat.add_sub_cancel_left]) s.heap _ hU hN hS ls hl (Nat.lt_succ_self _)
set_option maxHeartbeats 4000000 in
set_option maxRecDepth 100000 in
theorem k_X0_parseRuns (l : Launch) (D : va_G) (T : Nat → ClassId) (o : Nat) (rr : Nat) (rb : Nat → Nat) (bl : Nat) (k : Nat) (n1 : Nat) (at0 : Nat) (h0 : Nat) (w0 : Nat) (f : Nat → Int64) (b : Nat → Bool) (hrb : ∀ i, rb i < 256) (hbl : bl ≤ 200) (hk : k < 16) (hn1 : n1 < 256) (hat0 : at0 ≤ bl) (hbf : ∀ x, x < 4096 → bitL f x = b x) : Met l yX0_parseRuns wsX0_parseRuns ({ frames := 3, cells := 0, slots := 0, locals := 87 }) (va_Pc [.ref o, .int (nI k), .int (nI n1), .int (nI at0), .ref h0] (fun U => KS D T U ∧ Buf D T U.heap o rr rb bl ∧ Num D T U.heap h0 w0 f)) (va_Qi (fun (r : Int32) (u : Nat → Int64) => PRes (pRs rb bl (256 * k) (2 * n1) at0 false 0 b) r u) (fun u t => Num D T t.heap h0 w0 u) (fun q => q = w0)) 0 0 (fun q => q = w0) := by
  refine Met.ofW (cc := cX0_parseRuns) (maxL := 8) (ret := (some .int)) (by decide) rfl ?_
  intro pg ev s m args below meth c s₁ B hml hv
  obtain ⟨rfl, hK, hH⟩ := hv
  have hx := B.exec
  have hb := B.bytes
  have hr := B.returns
  have hts := atoms_spec (ws := wsX0_parseRuns) B.pre
  have hown : s.vm.findClass RX0 = some m.cls := findClass_of_methodNamed B.named
  have hlocks := B.notSynchronized
  have in_wsX00 : ∀ w ∈ wsX00, w ∈ wsX0_parseRuns := fun w h => List.mem_cons_of_mem _ (List.mem_append_left _ (List.mem_append_right _ h))
  have in_wsX10 : ∀ w ∈ wsX10, w ∈ wsX0_parseRuns := fun w h => List.mem_cons_of_mem _ (List.mem_append_right _ h)
  have hS : va_S (fun q => q = w0) s.heap s.heap [] := va_S.rf
  have hl := lv_entry ([.ref o, .int (nI k), .int (nI n1), .int (nI at0), .ref h0]) (n := 8) (Nat.le_of_ble_eq_true rfl)
  rw [lg_entry_eq]
  generalize (lg_sl ([.ref o, .int (nI k), .int (nI n1), .int (nI at0), .ref h0]) ++ List.replicate (8 - (lg_sl ([.ref o, .int (nI k), .int (nI n1), .int (nI at0), .ref h0])).length) Slot.unset).toArray = ls at hl ⊢
  have hl : lv_has ls 8 [(0, .ref o), (1, .int (nI k)), (2, .int (nI n1)), (3, .int (nI at0)), (4, .ref h0)] := hl
  refine W_gen (fun Q hQ => ?_)
  have hU := hH.1
  have hN := hH.2
  refine lv_iconst (v := (nI 0)) hx hb dX0_parseRuns_0 (by decide) ?_
  refine lv_istore (lv' := [(5, .int (nI 0)), (0, .ref o), (1, .int (nI k)), (2, .int (nI n1)), (3, .int (nI at0)), (4, .ref h0)]) hx hb dX0_parseRuns_1 hl (by decide) rfl (fun ls hl => ?_)
  refine lv_iload_n hx hb dX0_parseRuns_3 rfl (lv_at hl 4 rfl) ?_
  refine lv_istore (lv' := [(6, .int (nI at0)), (5, .int (nI 0)), (0, .ref o), (1, .int (nI k)), (2, .int (nI n1)), (3, .int (nI at0)), (4, .ref h0)]) hx hb dX0_parseRuns_4 hl (by decide) rfl (fun ls hl => ?_)
  have loop6 : ∀ (n6 : Nat) (i : Nat) (l1 : Nat) (g : Nat → Int64) (bb : Nat → Bool) (hi1 : at0 ≤ i) (hi2 : i ≤ at0 + 2 * n1) (hi3 : i ≤ bl) (hl1 : l1 < 2 ^ 30) (hg : ∀ x, x < 4096 → bitL g x = bb x) (hv : pRs rb bl (256 * k) (at0 + 2 * n1 - i) i (decide ((i - at0) % 2 = 1)) l1 bb = pRs rb bl (256 * k) (2 * n1) at0 false 0 b) (hsec : (i - at0) % 2 = 1 → 0 < i) (H : Heap) (locs : List Loc) (hU : Buf D T H o rr rb bl) (hN : Num D T H h0 w0 g) (hS : va_S (fun q => q = w0) s.heap H locs) (ls : Array Slot) (hl : lv_has ls 8 [(0, .ref o), (1, .int (nI k)), (2, .int (nI n1)), (3, .int (nI at0)), (4, .ref h0), (5, .int (nI l1)), (6, .int (nI i))]) (hn6 : at0 + 2 * n1 - i < n6), W pg l ev (headSpec wsX0_parseRuns ({ frames := 3, cells := 0, slots := 0, locals := 87 })).room s m ([.ref o, .int (nI k), .int (nI n1), .int (nI at0), .ref h0] : List Value).toArray below meth c H locs 0 0 Q (F0 m 6 ls []) := by
    intro n6
    induction n6 with
    | zero =>
      intro i l1 g bb hi1 hi2 hi3 hl1 hg hv hsec H locs hU hN hS ls hl hn6
      exact absurd hn6 (Nat.not_lt_zero _)
    | succ n6 ih6 =>
      intro i l1 g bb hi1 hi2 hi3 hl1 hg hv hsec H locs hU hN hS ls hl hn6
      have hrbi := hrb i
      have hrbj := hrb (i - 1)
      refine lv_iload hx hb dX0_parseRuns_6 (lv_at hl 6 rfl) ?_
      refine lv_iload_n hx hb dX0_parseRuns_8 rfl (lv_at hl 3 rfl) ?_
      refine lv_iconst (v := (nI 2)) hx hb dX0_parseRuns_9 (by decide) ?_
      refine lv_iload_n hx hb dX0_parseRuns_10 rfl (lv_at hl 2 rfl) ?_
      refine lv_imul hx hb dX0_parseRuns_11 ?_
      refine top_i (pk_mul 2 n1) ?_
      refine lv_iadd hx hb dX0_parseRuns_12 ?_
      refine top_i (nI_add at0 (2 * n1)) ?_
      refine lv_icmp_ge (tgt := 136) hx hb dX0_parseRuns_13 (by decide) (fun c_1 => ?_) (fun c_1 => ?_)
      · skip
        have c_1 : (at0 + (2 * n1)) ≤ i := (nI_leI (a := (at0 + (2 * n1))) (b := i) (by omega) (by omega)).mp c_1
        refine lv_iload_n hx hb dX0_parseRuns_136 rfl (lv_at hl 3 rfl) ?_
        refine lv_iconst (v := (nI 2)) hx hb dX0_parseRuns_137 (by decide) ?_
        refine lv_iload_n hx hb dX0_parseRuns_138 rfl (lv_at hl 2 rfl) ?_
        refine lv_imul hx hb dX0_parseRuns_139 ?_
        refine top_i (pk_mul 2 n1) ?_
        refine lv_iadd hx hb dX0_parseRuns_140 ?_
        refine top_i (nI_add at0 (2 * n1)) ?_
        subst hQ
        exact W.iret (v := (nI (at0 + (2 * n1)))) hx hb hr (fun t ht hW => ⟨⟨(nI (at0 + (2 * n1))), g, rfl, PRes_t (hv.symm.trans (by rw [show at0 + 2 * n1 - i = 0 by omega]; rfl)) (by rw [show i = at0 + 2 * n1 by omega]) hg, by have h9 := hN; rw [← ht] at h9; exact h9⟩, hS.F ht⟩) hS.2.2 dX0_parseRuns_141
      · skip
        have c_1 : ¬ ((at0 + (2 * n1)) ≤ i) := fun z => c_1 ((nI_leI (a := (at0 + (2 * n1))) (b := i) (by omega) (by omega)).mpr z)
        refine lv_iload hx hb dX0_parseRuns_16 (lv_at hl 6 rfl) ?_
        refine lv_aload_n hx hb dX0_parseRuns_18 rfl (lv_at hl 0 rfl) ?_
        refine r_get (C := RX0) (Tb := TX0) (N := 2) hx hb hts in_wsX00 hown hK (hU.1) rfl 1 (by decide) (hts (.fieldLink RX0 15 "PieceSets$Buffer" "length" "I") (by decide +kernel)) rfl (v := .int (nI bl)) rfl dX0_parseRuns_19 ?_
        refine lv_icmp_lt (tgt := 32) hx hb dX0_parseRuns_22 (by decide) (fun c_2 => ?_) (fun c_2 => ?_)
        · skip
          have c_2 : i < bl := (nI_ltI (a := i) (b := bl) (by omega) (by omega)).mp c_2
          refine lv_aload_n hx hb dX0_parseRuns_32 rfl (lv_at hl 0 rfl) ?_
          refine r_get (C := RX0) (Tb := TX0) (N := 2) hx hb hts in_wsX00 hown hK (hU.1) rfl 0 (by decide) (hts (.fieldLink RX0 9 "PieceSets$Buffer" "row" "[I") (by decide +kernel)) rfl (v := .ref rr) rfl dX0_parseRuns_33 ?_
          refine lv_iload hx hb dX0_parseRuns_36 (lv_at hl 6 rfl) ?_
          refine r_iald hx hb hK (hU.2) (i := i) (by omega) (by decide) dX0_parseRuns_38 ?_
          refine top_i (x' := (nI (rb i))) rfl ?_
          refine lv_iload hx hb dX0_parseRuns_39 (lv_at hl 5 rfl) ?_
          refine lv_icmp_ge (tgt := 49) hx hb dX0_parseRuns_41 (by decide) (fun c_3 => ?_) (fun c_3 => ?_)
          · skip
            have c_3 : l1 ≤ (rb i) := (nI_leI (a := l1) (b := (rb i)) (by omega) (by omega)).mp c_3
            refine lv_iload hx hb dX0_parseRuns_49 (lv_at hl 6 rfl) ?_
            refine lv_iload_n hx hb dX0_parseRuns_51 rfl (lv_at hl 3 rfl) ?_
            refine lv_isub hx hb dX0_parseRuns_52 ?_
            refine top_i (pk_sub (a := i) (b := at0) (by omega)) ?_
            refine lv_iconst (v := (nI 2)) hx hb dX0_parseRuns_53 (by decide) ?_
            refine lv_irem hx hb dX0_parseRuns_54 (by decide) ?_
            refine top_i (pk_rem (a := i - at0) (d := 2) (by omega) (by omega) (by omega)) ?_
            refine lv_iconst (v := (nI 1)) hx hb dX0_parseRuns_55 (by decide) ?_
            refine lv_icmp_ne (tgt := 63) hx hb dX0_parseRuns_56 (by decide) (fun c_4 => ?_) (fun c_4 => ?_)
            · skip
              have c_4 : ¬ (((i - at0) % 2) = 1) := fun z => c_4 ((nI_eq (a := ((i - at0) % 2)) (b := 1) (by omega) (by omega)).mpr z)
              refine lv_iconst (v := (nI 0)) hx hb dX0_parseRuns_63 (by decide) ?_
              refine lv_istore (lv' := [(7, .int (nI 0)), (0, .ref o), (1, .int (nI k)), (2, .int (nI n1)), (3, .int (nI at0)), (4, .ref h0), (5, .int (nI l1)), (6, .int (nI i))]) hx hb dX0_parseRuns_64 hl (by decide) rfl (fun ls hl => ?_)
              refine lv_iload hx hb dX0_parseRuns_66 (lv_at hl 0 rfl) ?_
              refine lv_if_eq (tgt := 104) hx hb dX0_parseRuns_68 (by decide) (fun c_5 => ?_) (fun c_5 => ?_)
              · skip
                refine lv_iload hx hb dX0_parseRuns_104 (lv_at hl 0 rfl) ?_
                refine lv_if_eq (tgt := 121) hx hb dX0_parseRuns_106 (by decide) (fun c_6 => ?_) (fun c_6 => ?_)
                · skip
                  refine lv_aload_n hx hb dX0_parseRuns_121 rfl (lv_at hl 1 rfl) ?_
                  refine r_get (C := RX0) (Tb := TX0) (N := 2) hx hb hts in_wsX00 hown hK (hU.1) rfl 0 (by decide) (hts (.fieldLink RX0 9 "PieceSets$Buffer" "row" "[I") (by decide +kernel)) rfl (v := .ref rr) rfl dX0_parseRuns_122 ?_
                  refine lv_iload hx hb dX0_parseRuns_125 (lv_at hl 7 rfl) ?_
                  refine r_iald hx hb hK (hU.2) (i := i) (by omega) (by decide) dX0_parseRuns_127 ?_
                  refine top_i (x' := (nI (rb i))) rfl ?_
                  refine lv_istore (lv' := [(5, .int (nI (rb i))), (7, .int (nI 0)), (0, .ref o), (1, .int (nI k)), (2, .int (nI n1)), (3, .int (nI at0)), (4, .ref h0), (6, .int (nI i))]) hx hb dX0_parseRuns_128 hl (by decide) rfl (fun ls hl => ?_)
                  refine lv_iinc (v := (nI (i + 1))) (lv' := [(6, .int (nI (i + 1))), (5, .int (nI (rb i))), (7, .int (nI 0)), (0, .ref o), (1, .int (nI k)), (2, .int (nI n1)), (3, .int (nI at0)), (4, .ref h0)]) hx hb dX0_parseRuns_130 hl (k := 7) rfl (iinc_n i 1) (by decide) rfl (fun ls hl => ?_)
                  refine lv_goto (tgt := 6) hx hb dX0_parseRuns_133 (by decide) ?_
                  have hl := lv_sub hl (l' := [(0, .ref o), (1, .int (nI k)), (2, .int (nI n1)), (3, .int (nI at0)), (4, .ref h0), (5, .int (nI (rb i))), (6, .int (nI (i + 1)))]) [3, 4, 5, 6, 7, 1, 0] rfl
                  exact ih6 (i + 1) (rb i) g bb (by omega) (by omega) (by omega) (by omega) (hg) (by rw [show at0 + 2 * n1 - i = (at0 + 2 * n1 - (i + 1)) + 1 by omega, pRs_s, if_neg (by omega)] at hv; rw [if_neg (by rw [decide_eq_false c_4]; exact Bool.false_ne_true)] at hv; rw [decide_eq_true (show (i + 1 - at0) % 2 = 1 by omega)]; exact hv) (fun z => by omega) H _ hU hN hS ls hl (by omega)
                · skip
                  exact absurd (by decide) c_6
              · skip
                exact absurd (by decide) c_5
            · skip
              have c_4 : ((i - at0) % 2) = 1 := (nI_eq (a := ((i - at0) % 2)) (b := 1) (by omega) (by omega)).mp c_4
              refine lv_iconst (v := (nI 1)) hx hb dX0_parseRuns_59 (by decide) ?_
              refine lv_goto (tgt := 64) hx hb dX0_parseRuns_60 (by decide) ?_
              refine lv_istore (lv' := [(7, .int (nI 1)), (0, .ref o), (1, .int (nI k)), (2, .int (nI n1)), (3, .int (nI at0)), (4, .ref h0), (5, .int (nI l1)), (6, .int (nI i))]) hx hb dX0_parseRuns_64 hl (by decide) rfl (fun ls hl => ?_)
              refine lv_iload hx hb dX0_parseRuns_66 (lv_at hl 0 rfl) ?_
              refine lv_if_eq (tgt := 104) hx hb dX0_parseRuns_68 (by decide) (fun c_5 => ?_) (fun c_5 => ?_)
              · skip
                exact absurd c_5 (by decide)
              · skip
                refine lv_aload hx hb dX0_parseRuns_71 (lv_at hl 5 rfl) ?_
                refine lv_sipush (v := (nI 256)) hx hb dX0_parseRuns_73 (by decide) ?_
                refine lv_iload_n hx hb dX0_parseRuns_76 rfl (lv_at hl 2 rfl) ?_
                refine lv_imul hx hb dX0_parseRuns_77 ?_
                refine top_i (pk_mul 256 k) ?_
                refine lv_aload_n hx hb dX0_parseRuns_78 rfl (lv_at hl 1 rfl) ?_
                refine r_get (C := RX0) (Tb := TX0) (N := 2) hx hb hts in_wsX00 hown hK (hU.1) rfl 0 (by decide) (hts (.fieldLink RX0 9 "PieceSets$Buffer" "row" "[I") (by decide +kernel)) rfl (v := .ref rr) rfl dX0_parseRuns_79 ?_
                refine lv_iload hx hb dX0_parseRuns_82 (lv_at hl 7 rfl) ?_
                refine lv_iconst (v := (nI 1)) hx hb dX0_parseRuns_84 (by decide) ?_
                refine lv_isub hx hb dX0_parseRuns_85 ?_
                refine top_i (pk_sub (a := i) (b := 1) (by omega)) ?_
                refine r_iald hx hb hK (hU.2) (i := i - 1) (by omega) (by decide) dX0_parseRuns_86 ?_
                refine top_i (x' := (nI (rb (i - 1)))) rfl ?_
                refine lv_iadd hx hb dX0_parseRuns_87 ?_
                refine top_i (nI_add (256 * k) (rb (i - 1))) ?_
                refine lv_sipush (v := (nI 256)) hx hb dX0_parseRuns_88 (by decide) ?_
                refine lv_iload_n hx hb dX0_parseRuns_91 rfl (lv_at hl 2 rfl) ?_
                refine lv_imul hx hb dX0_parseRuns_92 ?_
                refine top_i (pk_mul 256 k) ?_
                refine lv_aload_n hx hb dX0_parseRuns_93 rfl (lv_at hl 1 rfl) ?_
                refine r_get (C := RX0) (Tb := TX0) (N := 2) hx hb hts in_wsX00 hown hK (hU.1) rfl 0 (by decide) (hts (.fieldLink RX0 9 "PieceSets$Buffer" "row" "[I") (by decide +kernel)) rfl (v := .ref rr) rfl dX0_parseRuns_94 ?_
                refine lv_iload hx hb dX0_parseRuns_97 (lv_at hl 7 rfl) ?_
                refine r_iald hx hb hK (hU.2) (i := i) (by omega) (by decide) dX0_parseRuns_99 ?_
                refine top_i (x' := (nI (rb i))) rfl ?_
                refine lv_iadd hx hb dX0_parseRuns_100 ?_
                refine top_i (nI_add (256 * k) (rb i)) ?_
                refine va_callv (va_runVN (As := [.int (nI ((256 * k) + (rb (i - 1)))), .int (nI ((256 * k) + (rb i)))]) (rest := []) ⟨hx, hb, hml, hown, hts⟩ (k_X1_includeAll l D T h0 w0 g (nI ((256 * k) + (rb (i - 1)))) (nI ((256 * k) + (rb i))) ) (⟨va_cnB 2 hts ggX0_parseRuns_X1_includeAll rfl rfl rfl (hK.2.m (args := ([.ref o, .int (nI k), .int (nI n1), .int (nI at0), .ref h0] : List Value).toArray) 28 rfl) (hts (.initialized RX1) (by decide +kernel)) (by decide +kernel) ⟨Nat.le_of_ble_eq_true rfl, Nat.le_of_ble_eq_true rfl⟩, hts (.instanceMethod yX1_includeAll) (by decide +kernel), hts (.selects RX1 yX1_includeAll yX1_includeAll) (by decide +kernel)⟩) (pre_V (Φ := fun X => Num D T X h0 w0 g) hK (hN.1) rfl hN) rfl rfl hl.1 rfl (lv_room (Nat.le_of_ble_eq_true rfl)) dX0_parseRuns_101 ⟨Nat.le_of_ble_eq_true rfl, Nat.le_of_ble_eq_true rfl⟩) hS (fun q _ h => h) (fun q h => h) (fun u_1 t H_1 locs ht hvm hw hB hz hk hS => ?_)
                rw [ht] at hB
                try dsimp only at hw
                try dsimp only at hB
                have hF : Fr _ _ _ := hk
                have hU := hU.keep hN hF
                have hN := hB
                refine lv_iload hx hb dX0_parseRuns_104 (lv_at hl 0 rfl) ?_
                refine lv_if_eq (tgt := 121) hx hb dX0_parseRuns_106 (by decide) (fun c_6 => ?_) (fun c_6 => ?_)
                · skip
                  exact absurd c_6 (by decide)
                · skip
                  refine lv_aload_n hx hb dX0_parseRuns_109 rfl (lv_at hl 1 rfl) ?_
                  refine r_get (C := RX0) (Tb := TX0) (N := 2) hx hb hts in_wsX00 hown hK (hU.1) rfl 0 (by decide) (hts (.fieldLink RX0 9 "PieceSets$Buffer" "row" "[I") (by decide +kernel)) rfl (v := .ref rr) rfl dX0_parseRuns_110 ?_
                  refine lv_iload hx hb dX0_parseRuns_113 (lv_at hl 7 rfl) ?_
                  refine r_iald hx hb hK (hU.2) (i := i) (by omega) (by decide) dX0_parseRuns_115 ?_
                  refine top_i (x' := (nI (rb i))) rfl ?_
                  refine lv_iconst (v := (nI 2)) hx hb dX0_parseRuns_116 (by decide) ?_
                  refine lv_iadd hx hb dX0_parseRuns_117 ?_
                  refine top_i (nI_add (rb i) 2) ?_
                  refine lv_goto (tgt := 128) hx hb dX0_parseRuns_118 (by decide) ?_
                  refine lv_istore (lv' := [(5, .int (nI ((rb i) + 2))), (7, .int (nI 1)), (0, .ref o), (1, .int (nI k)), (2, .int (nI n1)), (3, .int (nI at0)), (4, .ref h0), (6, .int (nI i))]) hx hb dX0_parseRuns_128 hl (by decide) rfl (fun ls hl => ?_)
                  refine lv_iinc (v := (nI (i + 1))) (lv' := [(6, .int (nI (i + 1))), (5, .int (nI ((rb i) + 2))), (7, .int (nI 1)), (0, .ref o), (1, .int (nI k)), (2, .int (nI n1)), (3, .int (nI at0)), (4, .ref h0)]) hx hb dX0_parseRuns_130 hl (k := 7) rfl (iinc_n i 1) (by decide) rfl (fun ls hl => ?_)
                  refine lv_goto (tgt := 6) hx hb dX0_parseRuns_133 (by decide) ?_
                  have hl := lv_sub hl (l' := [(0, .ref o), (1, .int (nI k)), (2, .int (nI n1)), (3, .int (nI at0)), (4, .ref h0), (5, .int (nI ((rb i) + 2))), (6, .int (nI (i + 1)))]) [3, 4, 5, 6, 7, 1, 0] rfl
                  exact ih6 (i + 1) ((rb i) + 2) u_1 (fun x => bb x || decide (256 * k + rb (i - 1) ≤ x ∧ x ≤ 256 * k + rb i)) (by omega) (by omega) (by omega) (by omega) (fun x hx => by rw [hw x hx, hg x hx, inr_n (by omega) (by omega) (by omega)]) (by rw [show at0 + 2 * n1 - i = (at0 + 2 * n1 - (i + 1)) + 1 by omega, pRs_s, if_neg (by omega)] at hv; rw [if_pos (decide_eq_true c_4)] at hv; rw [decide_eq_false (show ¬ ((i + 1 - at0) % 2 = 1) by omega)]; exact hv) (fun z => by omega) H_1 _ hU hN hS ls hl (by omega)
          · skip
            have c_3 : ¬ (l1 ≤ (rb i)) := fun z => c_3 ((nI_leI (a := l1) (b := (rb i)) (by omega) (by omega)).mpr z)
            refine lv_iconst (v := (-1)) hx hb dX0_parseRuns_44 (by decide) ?_
            refine lv_iload hx hb dX0_parseRuns_45 (lv_at hl 6 rfl) ?_
            refine lv_isub hx hb dX0_parseRuns_47 ?_
            subst hQ
            exact W.iret (v := ((-1) - (nI i))) hx hb hr (fun t ht hW => ⟨⟨((-1) - (nI i)), g, rfl, PRes_e (hv.symm.trans (by rw [show at0 + 2 * n1 - i = (at0 + 2 * n1 - (i + 1)) + 1 by omega, pRs_s, if_pos (by omega)])) rfl, by have h9 := hN; rw [← ht] at h9; exact h9⟩, hS.F ht⟩) hS.2.2 dX0_parseRuns_48
        · skip
          have c_2 : ¬ (i < bl) := fun z => c_2 ((nI_ltI (a := i) (b := bl) (by omega) (by omega)).mpr z)
          refine lv_iconst (v := (-1)) hx hb dX0_parseRuns_25 (by decide) ?_
          refine lv_aload_n hx hb dX0_parseRuns_26 rfl (lv_at hl 0 rfl) ?_
          refine r_get (C := RX0) (Tb := TX0) (N := 2) hx hb hts in_wsX00 hown hK (hU.1) rfl 1 (by decide) (hts (.fieldLink RX0 15 "PieceSets$Buffer" "length" "I") (by decide +kernel)) rfl (v := .int (nI bl)) rfl dX0_parseRuns_27 ?_
          refine lv_isub hx hb dX0_parseRuns_30 ?_
          subst hQ
          exact W.iret (v := ((-1) - (nI bl))) hx hb hr (fun t ht hW => ⟨⟨((-1) - (nI bl)), g, rfl, PRes_e (hv.symm.trans (by rw [show at0 + 2 * n1 - i = (at0 + 2 * n1 - (i + 1)) + 1 by omega, pRs_s, if_pos (by omega)])) (by rw [show bl = i by omega]), by have h9 := hN; rw [← ht] at h9; exact h9⟩, hS.F ht⟩) hS.2.2 dX0_parseRuns_31
  have hl := lv_sub hl (l' := [(0, .ref o), (1, .int (nI k)), (2, .int (nI n1)), (3, .int (nI at0)), (4, .ref h0), (5, .int (nI 0)), (6, .int (nI at0))]) [2, 3, 4, 5, 6, 1, 0] rfl
  exact loop6 (at0 + 2 * n1 - at0 + 1) at0 0 f b (Nat.le_refl _) (by omega) (hat0) (by decide) (hbf) (by rw [Nat.add_sub_cancel_left, Nat.sub_self]; rfl) (fun z => by omega) s.heap _ hU hN hS ls hl (Nat.lt_succ_self _)
set_option maxHeartbeats 4000000 in
set_option maxRecDepth 100000 in
theorem k_X0_parseBitmap (l : Launch) (D : va_G) (T : Nat → ClassId) (o : Nat) (rr : Nat) (rb : Nat → Nat) (bl : Nat) (k : Nat) (at0 : Nat) (h0 : Nat) (w0 : Nat) (f : Nat → Int64) (b : Nat → Bool) (hrb : ∀ i, rb i < 256) (hbl : bl ≤ 200) (hk : k < 16) (hat0 : at0 ≤ bl) (hbf : ∀ x, x < 4096 → bitL f x = b x) : Met l yX0_parseBitmap wsX0_parseBitmap ({ frames := 2, cells := 0, slots := 0, locals := 41 }) (va_Pc [.ref o, .int (nI k), .int (nI at0), .ref h0] (fun U => KS D T U ∧ Buf D T U.heap o rr rb bl ∧ Num D T U.heap h0 w0 f)) (va_Qi (fun (r : Int32) (u : Nat → Int64) => PRes (pBm rb bl 32 at0 (256 * k) b) r u) (fun u t => Num D T t.heap h0 w0 u) (fun q => q = w0)) 0 0 (fun q => q = w0) := by
  refine Met.ofW (cc := cX0_parseBitmap) (maxL := 6) (ret := (some .int)) (by decide) rfl ?_
  intro pg ev s m args below meth c s₁ B hml hv
  obtain ⟨rfl, hK, hH⟩ := hv
  have hx := B.exec
  have hb := B.bytes
  have hr := B.returns
  have hts := atoms_spec (ws := wsX0_parseBitmap) B.pre
  have hown : s.vm.findClass RX0 = some m.cls := findClass_of_methodNamed B.named
  have hlocks := B.notSynchronized
  have in_wsX00 : ∀ w ∈ wsX00, w ∈ wsX0_parseBitmap := fun w h => List.mem_cons_of_mem _ (List.mem_append_left _ (List.mem_append_right _ h))
  have in_wsX10 : ∀ w ∈ wsX10, w ∈ wsX0_parseBitmap := fun w h => List.mem_cons_of_mem _ (List.mem_append_right _ h)
  have hS : va_S (fun q => q = w0) s.heap s.heap [] := va_S.rf
  have hl := lv_entry ([.ref o, .int (nI k), .int (nI at0), .ref h0]) (n := 6) (Nat.le_of_ble_eq_true rfl)
  rw [lg_entry_eq]
  generalize (lg_sl ([.ref o, .int (nI k), .int (nI at0), .ref h0]) ++ List.replicate (6 - (lg_sl ([.ref o, .int (nI k), .int (nI at0), .ref h0])).length) Slot.unset).toArray = ls at hl ⊢
  have hl : lv_has ls 6 [(0, .ref o), (1, .int (nI k)), (2, .int (nI at0)), (3, .ref h0)] := hl
  refine W_gen (fun Q hQ => ?_)
  have hU := hH.1
  have hN := hH.2
  refine lv_iconst (v := (nI 0)) hx hb dX0_parseBitmap_0 (by decide) ?_
  refine lv_istore (lv' := [(4, .int (nI 0)), (0, .ref o), (1, .int (nI k)), (2, .int (nI at0)), (3, .ref h0)]) hx hb dX0_parseBitmap_1 hl (by decide) rfl (fun ls hl => ?_)
  have loop3 : ∀ (n3 : Nat) (i : Nat) (g : Nat → Int64) (bb : Nat → Bool) (hi2 : i ≤ 32) (hi3 : at0 + i ≤ bl) (hg : ∀ x, x < 4096 → bitL g x = bb x) (hv : pBm rb bl (32 - i) (at0 + i) (256 * k + 8 * i) bb = pBm rb bl 32 at0 (256 * k) b) (H : Heap) (locs : List Loc) (hU : Buf D T H o rr rb bl) (hN : Num D T H h0 w0 g) (hS : va_S (fun q => q = w0) s.heap H locs) (ls : Array Slot) (hl : lv_has ls 6 [(0, .ref o), (1, .int (nI k)), (2, .int (nI at0)), (3, .ref h0), (4, .int (nI i))]) (hn3 : 32 - i < n3), W pg l ev (headSpec wsX0_parseBitmap ({ frames := 2, cells := 0, slots := 0, locals := 41 })).room s m ([.ref o, .int (nI k), .int (nI at0), .ref h0] : List Value).toArray below meth c H locs 0 0 Q (F0 m 3 ls []) := by
    intro n3
    induction n3 with
    | zero =>
      intro i g bb hi2 hi3 hg hv H locs hU hN hS ls hl hn3
      exact absurd hn3 (Nat.not_lt_zero _)
    | succ n3 ih3 =>
      intro i g bb hi2 hi3 hg hv H locs hU hN hS ls hl hn3
      refine lv_iload hx hb dX0_parseBitmap_3 (lv_at hl 4 rfl) ?_
      refine lv_bipush (v := (nI 32)) hx hb dX0_parseBitmap_5 (by decide) ?_
      refine lv_icmp_ge (tgt := 85) hx hb dX0_parseBitmap_7 (by decide) (fun c_1 => ?_) (fun c_1 => ?_)
      · skip
        have c_1 : 32 ≤ i := (nI_leI (a := 32) (b := i) (by omega) (by omega)).mp c_1
        refine lv_iload_n hx hb dX0_parseBitmap_85 rfl (lv_at hl 2 rfl) ?_
        refine lv_bipush (v := (nI 33)) hx hb dX0_parseBitmap_86 (by decide) ?_
        refine lv_iadd hx hb dX0_parseBitmap_88 ?_
        refine top_i (nI_add at0 33) ?_
        refine lv_iconst (v := (nI 1)) hx hb dX0_parseBitmap_89 (by decide) ?_
        refine lv_isub hx hb dX0_parseBitmap_90 ?_
        refine top_i (pk_sub (a := at0 + 33) (b := 1) (by omega)) ?_
        subst hQ
        exact W.iret (v := (nI ((at0 + 33) - 1))) hx hb hr (fun t ht hW => ⟨⟨(nI ((at0 + 33) - 1)), g, rfl, PRes_t (hv.symm.trans (by rw [show 32 - i = 0 by omega]; rfl)) (by rw [show at0 + i = at0 + 33 - 1 by omega]) hg, by have h9 := hN; rw [← ht] at h9; exact h9⟩, hS.F ht⟩) hS.2.2 dX0_parseBitmap_91
      · skip
        have c_1 : ¬ (32 ≤ i) := fun z => c_1 ((nI_leI (a := 32) (b := i) (by omega) (by omega)).mpr z)
        refine lv_iload_n hx hb dX0_parseBitmap_10 rfl (lv_at hl 2 rfl) ?_
        refine lv_iload hx hb dX0_parseBitmap_11 (lv_at hl 4 rfl) ?_
        refine lv_iadd hx hb dX0_parseBitmap_13 ?_
        refine top_i (nI_add at0 i) ?_
        refine lv_aload_n hx hb dX0_parseBitmap_14 rfl (lv_at hl 0 rfl) ?_
        refine r_get (C := RX0) (Tb := TX0) (N := 2) hx hb hts in_wsX00 hown hK (hU.1) rfl 1 (by decide) (hts (.fieldLink RX0 15 "PieceSets$Buffer" "length" "I") (by decide +kernel)) rfl (v := .int (nI bl)) rfl dX0_parseBitmap_15 ?_
        refine lv_icmp_lt (tgt := 28) hx hb dX0_parseBitmap_18 (by decide) (fun c_2 => ?_) (fun c_2 => ?_)
        · skip
          have c_2 : (at0 + i) < bl := (nI_ltI (a := (at0 + i)) (b := bl) (by omega) (by omega)).mp c_2
          refine lv_iconst (v := (nI 0)) hx hb dX0_parseBitmap_28 (by decide) ?_
          refine lv_istore (lv' := [(5, .int (nI 0)), (0, .ref o), (1, .int (nI k)), (2, .int (nI at0)), (3, .ref h0), (4, .int (nI i))]) hx hb dX0_parseBitmap_29 hl (by decide) rfl (fun ls hl => ?_)
          have loop31 : ∀ (n31 : Nat) (j : Nat) (g2 : Nat → Int64) (hj : j ≤ 8) (hg2 : ∀ x, x < 4096 → bitL g2 x = bset bb (256 * k + 8 * i) (rb (at0 + i)) j x) (H : Heap) (locs : List Loc) (hU : Buf D T H o rr rb bl) (hN : Num D T H h0 w0 g2) (hS : va_S (fun q => q = w0) s.heap H locs) (ls : Array Slot) (hl : lv_has ls 6 [(0, .ref o), (1, .int (nI k)), (2, .int (nI at0)), (3, .ref h0), (4, .int (nI i)), (5, .int (nI j))]) (hn31 : 8 - j < n31), W pg l ev (headSpec wsX0_parseBitmap ({ frames := 2, cells := 0, slots := 0, locals := 41 })).room s m ([.ref o, .int (nI k), .int (nI at0), .ref h0] : List Value).toArray below meth c H locs 0 0 Q (F0 m 31 ls []) := by
            intro n31
            induction n31 with
            | zero =>
              intro j g2 hj hg2 H locs hU hN hS ls hl hn31
              exact absurd hn31 (Nat.not_lt_zero _)
            | succ n31 ih31 =>
              intro j g2 hj hg2 H locs hU hN hS ls hl hn31
              refine lv_iload hx hb dX0_parseBitmap_31 (lv_at hl 5 rfl) ?_
              refine lv_bipush (v := (nI 8)) hx hb dX0_parseBitmap_33 (by decide) ?_
              refine lv_icmp_ge (tgt := 79) hx hb dX0_parseBitmap_35 (by decide) (fun c_3 => ?_) (fun c_3 => ?_)
              · skip
                have c_3 : 8 ≤ j := (nI_leI (a := 8) (b := j) (by omega) (by omega)).mp c_3
                refine lv_iinc (v := (nI (i + 1))) (lv' := [(4, .int (nI (i + 1))), (0, .ref o), (1, .int (nI k)), (2, .int (nI at0)), (3, .ref h0), (5, .int (nI j))]) hx hb dX0_parseBitmap_79 hl (k := 4) rfl (iinc_n i 1) (by decide) rfl (fun ls hl => ?_)
                refine lv_goto (tgt := 3) hx hb dX0_parseBitmap_82 (by decide) ?_
                have hl := lv_sub hl (l' := [(0, .ref o), (1, .int (nI k)), (2, .int (nI at0)), (3, .ref h0), (4, .int (nI (i + 1)))]) [1, 2, 3, 4, 0] rfl
                exact ih3 (i + 1) g2 (bset bb (256 * k + 8 * i) (rb (at0 + i)) 8) (by omega) (by omega) (fun x hx => (hg2 x hx).trans (by rw [show j = 8 by omega])) (by rw [show 32 - i = (32 - (i + 1)) + 1 by omega, pBm_s, if_neg (by omega)] at hv; exact hv) H _ hU hN hS ls hl (by omega)
              · skip
                have c_3 : ¬ (8 ≤ j) := fun z => c_3 ((nI_leI (a := 8) (b := j) (by omega) (by omega)).mpr z)
                refine lv_aload_n hx hb dX0_parseBitmap_38 rfl (lv_at hl 0 rfl) ?_
                refine r_get (C := RX0) (Tb := TX0) (N := 2) hx hb hts in_wsX00 hown hK (hU.1) rfl 0 (by decide) (hts (.fieldLink RX0 9 "PieceSets$Buffer" "row" "[I") (by decide +kernel)) rfl (v := .ref rr) rfl dX0_parseBitmap_39 ?_
                refine lv_iload_n hx hb dX0_parseBitmap_42 rfl (lv_at hl 2 rfl) ?_
                refine lv_iload hx hb dX0_parseBitmap_43 (lv_at hl 4 rfl) ?_
                refine lv_iadd hx hb dX0_parseBitmap_45 ?_
                refine top_i (nI_add at0 i) ?_
                refine r_iald hx hb hK (hU.2) (i := at0 + i) (by omega) (by decide) dX0_parseBitmap_46 ?_
                refine top_i (x' := (nI (rb (at0 + i)))) rfl ?_
                refine lv_iload hx hb dX0_parseBitmap_47 (lv_at hl 5 rfl) ?_
                refine lv_ishr hx hb dX0_parseBitmap_49 ?_
                refine top_i (x' := (shrI (nI (rb (at0 + i))) (nI j))) rfl ?_
                refine lv_iconst (v := (nI 1)) hx hb dX0_parseBitmap_50 (by decide) ?_
                refine lv_iand hx hb dX0_parseBitmap_51 ?_
                refine top_i (x' := (b2i ((rb (at0 + i)).testBit j))) (shr_bit (hrb _) (by omega)) ?_
                refine lv_if_eq (tgt := 73) hx hb dX0_parseBitmap_52 (by decide) (fun c_4 => ?_) (fun c_4 => ?_)
                · skip
                  have c_4 : (rb (at0 + i)).testBit j = false := b2i_0.mp c_4
                  refine lv_iinc (v := (nI (j + 1))) (lv' := [(5, .int (nI (j + 1))), (0, .ref o), (1, .int (nI k)), (2, .int (nI at0)), (3, .ref h0), (4, .int (nI i))]) hx hb dX0_parseBitmap_73 hl (k := 5) rfl (iinc_n j 1) (by decide) rfl (fun ls hl => ?_)
                  refine lv_goto (tgt := 31) hx hb dX0_parseBitmap_76 (by decide) ?_
                  have hl := lv_sub hl (l' := [(0, .ref o), (1, .int (nI k)), (2, .int (nI at0)), (3, .ref h0), (4, .int (nI i)), (5, .int (nI (j + 1)))]) [1, 2, 3, 4, 5, 0] rfl
                  exact ih31 (j + 1) g2 (by omega) (fun x hx => by rw [hg2 x hx, bset_s0 _ _ _ _ _ c_4]) H _ hU hN hS ls hl (by omega)
                · skip
                  have c_4 : (rb (at0 + i)).testBit j = true := b2i_n0.mp c_4
                  refine lv_aload_n hx hb dX0_parseBitmap_55 rfl (lv_at hl 3 rfl) ?_
                  refine lv_sipush (v := (nI 256)) hx hb dX0_parseBitmap_56 (by decide) ?_
                  refine lv_iload_n hx hb dX0_parseBitmap_59 rfl (lv_at hl 1 rfl) ?_
                  refine lv_imul hx hb dX0_parseBitmap_60 ?_
                  refine top_i (pk_mul 256 k) ?_
                  refine lv_bipush (v := (nI 8)) hx hb dX0_parseBitmap_61 (by decide) ?_
                  refine lv_iload hx hb dX0_parseBitmap_63 (lv_at hl 4 rfl) ?_
                  refine lv_imul hx hb dX0_parseBitmap_65 ?_
                  refine top_i (pk_mul 8 i) ?_
                  refine lv_iadd hx hb dX0_parseBitmap_66 ?_
                  refine top_i (nI_add (256 * k) (8 * i)) ?_
                  refine lv_iload hx hb dX0_parseBitmap_67 (lv_at hl 5 rfl) ?_
                  refine lv_iadd hx hb dX0_parseBitmap_69 ?_
                  refine top_i (nI_add ((256 * k) + (8 * i)) j) ?_
                  refine va_callv (va_runVN (As := [.int (nI (((256 * k) + (8 * i)) + j))]) (rest := []) ⟨hx, hb, hml, hown, hts⟩ (k_X1_include l D T h0 w0 g2 (((256 * k) + (8 * i)) + j) (by omega)) (⟨va_cnB 1 hts ggX0_parseBitmap_X1_include rfl rfl rfl (hK.2.m (args := ([.ref o, .int (nI k), .int (nI at0), .ref h0] : List Value).toArray) 27 rfl) (hts (.initialized RX1) (by decide +kernel)) (by decide +kernel) ⟨Nat.le_of_ble_eq_true rfl, Nat.le_of_ble_eq_true rfl⟩, hts (.instanceMethod yX1_include) (by decide +kernel), hts (.selects RX1 yX1_include yX1_include) (by decide +kernel)⟩) (pre_V (Φ := fun X => Num D T X h0 w0 g2) hK (hN.1) rfl hN) rfl rfl hl.1 rfl (lv_room (Nat.le_of_ble_eq_true rfl)) dX0_parseBitmap_70 ⟨Nat.le_of_ble_eq_true rfl, Nat.le_of_ble_eq_true rfl⟩) hS (fun q _ h => h) (fun q h => h) (fun u_1 t H_1 locs ht hvm hw hB hz hk hS => ?_)
                  rw [ht] at hB
                  try dsimp only at hw
                  try dsimp only at hB
                  have hF : Fr _ _ _ := hk
                  have hU := hU.keep hN hF
                  have hN := hB
                  refine lv_iinc (v := (nI (j + 1))) (lv' := [(5, .int (nI (j + 1))), (0, .ref o), (1, .int (nI k)), (2, .int (nI at0)), (3, .ref h0), (4, .int (nI i))]) hx hb dX0_parseBitmap_73 hl (k := 5) rfl (iinc_n j 1) (by decide) rfl (fun ls hl => ?_)
                  refine lv_goto (tgt := 31) hx hb dX0_parseBitmap_76 (by decide) ?_
                  have hl := lv_sub hl (l' := [(0, .ref o), (1, .int (nI k)), (2, .int (nI at0)), (3, .ref h0), (4, .int (nI i)), (5, .int (nI (j + 1)))]) [1, 2, 3, 4, 5, 0] rfl
                  exact ih31 (j + 1) u_1 (by omega) (fun x hx => by rw [hw x hx, hg2 x hx, bset_s1 _ _ _ _ _ c_4]) H_1 _ hU hN hS ls hl (by omega)
          have hl := lv_sub hl (l' := [(0, .ref o), (1, .int (nI k)), (2, .int (nI at0)), (3, .ref h0), (4, .int (nI i)), (5, .int (nI 0))]) [1, 2, 3, 4, 5, 0] rfl
          exact loop31 (8 - 0 + 1) 0 g (Nat.zero_le _) (fun x hx => by rw [bset_0]; exact hg x hx) H _ hU hN hS ls hl (Nat.lt_succ_self _)
        · skip
          have c_2 : ¬ ((at0 + i) < bl) := fun z => c_2 ((nI_ltI (a := (at0 + i)) (b := bl) (by omega) (by omega)).mpr z)
          refine lv_iconst (v := (-1)) hx hb dX0_parseBitmap_21 (by decide) ?_
          refine lv_aload_n hx hb dX0_parseBitmap_22 rfl (lv_at hl 0 rfl) ?_
          refine r_get (C := RX0) (Tb := TX0) (N := 2) hx hb hts in_wsX00 hown hK (hU.1) rfl 1 (by decide) (hts (.fieldLink RX0 15 "PieceSets$Buffer" "length" "I") (by decide +kernel)) rfl (v := .int (nI bl)) rfl dX0_parseBitmap_23 ?_
          refine lv_isub hx hb dX0_parseBitmap_26 ?_
          subst hQ
          exact W.iret (v := ((-1) - (nI bl))) hx hb hr (fun t ht hW => ⟨⟨((-1) - (nI bl)), g, rfl, PRes_e (hv.symm.trans (by rw [show 32 - i = (32 - (i + 1)) + 1 by omega, pBm_s, if_pos (by omega)])) (by rw [show bl = at0 + i by omega]), by have h9 := hN; rw [← ht] at h9; exact h9⟩, hS.F ht⟩) hS.2.2 dX0_parseBitmap_27
  have hl := lv_sub hl (l' := [(0, .ref o), (1, .int (nI k)), (2, .int (nI at0)), (3, .ref h0), (4, .int (nI 0))]) [1, 2, 3, 4, 0] rfl
  exact loop3 (32 - 0 + 1) 0 f b (Nat.zero_le _) (by omega) (hbf) (rfl) s.heap _ hU hN hS ls hl (Nat.lt_succ_self _)
set_option maxHeartbeats 4000000 in
set_option maxRecDepth 100000 in
theorem k_X0_parsePiece (l : Launch) (D : va_G) (T : Nat → ClassId) (o : Nat) (rr : Nat) (rb : Nat → Nat) (bl : Nat) (k : Nat) (kd1 : Nat) (at0 : Nat) (h0 : Nat) (w0 : Nat) (f : Nat → Int64) (b : Nat → Bool) (hrb : ∀ i, rb i < 256) (hbl : bl ≤ 200) (hk : k < 16) (hkd : kd1 < 3) (hat0 : at0 ≤ bl) (hbf : ∀ x, x < 4096 → bitL f x = b x) : Met l yX0_parsePiece wsX0_parsePiece ({ frames := 4, cells := 0, slots := 0, locals := 114 }) (va_Pc [.ref o, .int (nI k), .int (nI kd1), .int (nI at0), .ref h0] (fun U => KS D T U ∧ Buf D T U.heap o rr rb bl ∧ Num D T U.heap h0 w0 f)) (va_Qi (fun (r : Int32) (u : Nat → Int64) => PRes (pPc rb bl k kd1 at0 b) r u) (fun u t => Num D T t.heap h0 w0 u) (fun q => q = w0)) 0 0 (fun q => q = w0) := by
  refine Met.ofW (cc := cX0_parsePiece) (maxL := 5) (ret := (some .int)) (by decide) rfl ?_
  intro pg ev s m args below meth c s₁ B hml hv
  obtain ⟨rfl, hK, hH⟩ := hv
  have hx := B.exec
  have hb := B.bytes
  have hr := B.returns
  have hts := atoms_spec (ws := wsX0_parsePiece) B.pre
  have hown : s.vm.findClass RX0 = some m.cls := findClass_of_methodNamed B.named
  have hlocks := B.notSynchronized
  have in_wsX00 : ∀ w ∈ wsX00, w ∈ wsX0_parsePiece := fun w h => List.mem_cons_of_mem _ (List.mem_append_left _ (List.mem_append_right _ h))
  have in_wsX10 : ∀ w ∈ wsX10, w ∈ wsX0_parsePiece := fun w h => List.mem_cons_of_mem _ (List.mem_append_right _ h)
  have hS : va_S (fun q => q = w0) s.heap s.heap [] := va_S.rf
  have hl := lv_entry ([.ref o, .int (nI k), .int (nI kd1), .int (nI at0), .ref h0]) (n := 5) (Nat.le_of_ble_eq_true rfl)
  rw [lg_entry_eq]
  generalize (lg_sl ([.ref o, .int (nI k), .int (nI kd1), .int (nI at0), .ref h0]) ++ List.replicate (5 - (lg_sl ([.ref o, .int (nI k), .int (nI kd1), .int (nI at0), .ref h0])).length) Slot.unset).toArray = ls at hl ⊢
  have hl : lv_has ls 5 [(0, .ref o), (1, .int (nI k)), (2, .int (nI kd1)), (3, .int (nI at0)), (4, .ref h0)] := hl
  refine W_gen (fun Q hQ => ?_)
  have hU := hH.1
  have hN := hH.2
  have hrb0 := hrb at0
  refine lv_iload_n hx hb dX0_parsePiece_0 rfl (lv_at hl 2 rfl) ?_
  refine lv_iconst (v := (nI 2)) hx hb dX0_parsePiece_1 (by decide) ?_
  refine lv_icmp_ne (tgt := 14) hx hb dX0_parsePiece_2 (by decide) (fun c_1 => ?_) (fun c_1 => ?_)
  · skip
    have c_1 : ¬ (kd1 = 2) := fun z => c_1 ((nI_eq (a := kd1) (b := 2) (by omega) (by omega)).mpr z)
    refine lv_iload_n hx hb dX0_parsePiece_14 rfl (lv_at hl 3 rfl) ?_
    refine lv_aload_n hx hb dX0_parsePiece_15 rfl (lv_at hl 0 rfl) ?_
    refine r_get (C := RX0) (Tb := TX0) (N := 2) hx hb hts in_wsX00 hown hK (hU.1) rfl 1 (by decide) (hts (.fieldLink RX0 15 "PieceSets$Buffer" "length" "I") (by decide +kernel)) rfl (v := .int (nI bl)) rfl dX0_parsePiece_16 ?_
    refine lv_icmp_lt (tgt := 29) hx hb dX0_parsePiece_19 (by decide) (fun c_2 => ?_) (fun c_2 => ?_)
    · skip
      have c_2 : at0 < bl := (nI_ltI (a := at0) (b := bl) (by omega) (by omega)).mp c_2
      refine lv_aload_n hx hb dX0_parsePiece_29 rfl (lv_at hl 0 rfl) ?_
      refine r_get (C := RX0) (Tb := TX0) (N := 2) hx hb hts in_wsX00 hown hK (hU.1) rfl 0 (by decide) (hts (.fieldLink RX0 9 "PieceSets$Buffer" "row" "[I") (by decide +kernel)) rfl (v := .ref rr) rfl dX0_parsePiece_30 ?_
      refine lv_iload_n hx hb dX0_parsePiece_33 rfl (lv_at hl 3 rfl) ?_
      refine r_iald hx hb hK (hU.2) (i := at0) (by omega) (by decide) dX0_parsePiece_34 ?_
      refine top_i (x' := (nI (rb at0))) rfl ?_
      refine lv_iconst (v := (nI 1)) hx hb dX0_parsePiece_35 (by decide) ?_
      refine lv_icmp_ge (tgt := 43) hx hb dX0_parsePiece_36 (by decide) (fun c_3 => ?_) (fun c_3 => ?_)
      · skip
        have c_3 : 1 ≤ (rb at0) := (nI_leI (a := 1) (b := (rb at0)) (by omega) (by omega)).mp c_3
        refine lv_iload_n hx hb dX0_parsePiece_43 rfl (lv_at hl 2 rfl) ?_
        refine lv_if_ne (tgt := 66) hx hb dX0_parsePiece_44 (by decide) (fun c_4 => ?_) (fun c_4 => ?_)
        · skip
          have c_4 : ¬ (kd1 = 0) := fun z => c_4 ((nI_e0 (a := kd1) (by omega)).mpr z)
          refine lv_aload_n hx hb dX0_parsePiece_66 rfl (lv_at hl 0 rfl) ?_
          refine lv_iload_n hx hb dX0_parsePiece_67 rfl (lv_at hl 1 rfl) ?_
          refine lv_aload_n hx hb dX0_parsePiece_68 rfl (lv_at hl 0 rfl) ?_
          refine r_get (C := RX0) (Tb := TX0) (N := 2) hx hb hts in_wsX00 hown hK (hU.1) rfl 0 (by decide) (hts (.fieldLink RX0 9 "PieceSets$Buffer" "row" "[I") (by decide +kernel)) rfl (v := .ref rr) rfl dX0_parsePiece_69 ?_
          refine lv_iload_n hx hb dX0_parsePiece_72 rfl (lv_at hl 3 rfl) ?_
          refine r_iald hx hb hK (hU.2) (i := at0) (by omega) (by decide) dX0_parsePiece_73 ?_
          refine top_i (x' := (nI (rb at0))) rfl ?_
          refine lv_iload_n hx hb dX0_parsePiece_74 rfl (lv_at hl 3 rfl) ?_
          refine lv_iconst (v := (nI 1)) hx hb dX0_parsePiece_75 (by decide) ?_
          refine lv_iadd hx hb dX0_parsePiece_76 ?_
          refine top_i (nI_add at0 1) ?_
          refine lv_aload hx hb dX0_parsePiece_77 (lv_at hl 4 rfl) ?_
          refine va_calli (va_runV (As := [.int (nI k), .int (nI (rb at0)), .int (nI (at0 + 1)), .ref h0]) (rest := []) ⟨hx, hb, hml, hown, hts⟩ (k_X0_parseRuns l D T o rr rb bl k (rb at0) (at0 + 1) h0 w0 f b (hrb) (by omega) (by omega) (hrb _) (by omega) (hbf)) (cwV 4 hts gX0_parsePiece_X0_parseRuns rfl rfl rfl (by decide +kernel) ⟨Nat.le_of_ble_eq_true rfl, Nat.le_of_ble_eq_true rfl⟩) (pre_V (Φ := fun X => Buf D T X o rr rb bl ∧ Num D T X h0 w0 f) hK (hU.1) rfl ⟨hU, hN⟩) rfl rfl hl.1 rfl (lv_room (Nat.le_of_ble_eq_true rfl)) dX0_parsePiece_79 ⟨Nat.le_of_ble_eq_true rfl, Nat.le_of_ble_eq_true rfl⟩) hS (fun q _ h => h) (fun q h => h) (fun r_1 u_1 t H_1 locs ht hvm hw hB hz hk hS => ?_)
          rw [ht] at hB
          try dsimp only at hw
          try dsimp only at hB
          have hN := hB
          subst hQ
          exact W.iret (v := r_1) hx hb hr (fun t ht hW => ⟨⟨r_1, u_1, rfl, (by unfold pPc; rw [if_neg c_1, if_neg (by omega)]; first | (rw [if_pos c_4]; exact hw) | (rw [if_neg c_4]; exact hw)), by have h9 := hN; rw [← ht] at h9; exact h9⟩, hS.F ht⟩) hS.2.2 dX0_parsePiece_82
        · skip
          have c_4 : kd1 = 0 := (nI_e0 (a := kd1) (by omega)).mp c_4
          refine lv_aload_n hx hb dX0_parsePiece_47 rfl (lv_at hl 0 rfl) ?_
          refine lv_iload_n hx hb dX0_parsePiece_48 rfl (lv_at hl 1 rfl) ?_
          refine lv_aload_n hx hb dX0_parsePiece_49 rfl (lv_at hl 0 rfl) ?_
          refine r_get (C := RX0) (Tb := TX0) (N := 2) hx hb hts in_wsX00 hown hK (hU.1) rfl 0 (by decide) (hts (.fieldLink RX0 9 "PieceSets$Buffer" "row" "[I") (by decide +kernel)) rfl (v := .ref rr) rfl dX0_parsePiece_50 ?_
          refine lv_iload_n hx hb dX0_parsePiece_53 rfl (lv_at hl 3 rfl) ?_
          refine r_iald hx hb hK (hU.2) (i := at0) (by omega) (by decide) dX0_parsePiece_54 ?_
          refine top_i (x' := (nI (rb at0))) rfl ?_
          refine lv_iload_n hx hb dX0_parsePiece_55 rfl (lv_at hl 3 rfl) ?_
          refine lv_iconst (v := (nI 1)) hx hb dX0_parsePiece_56 (by decide) ?_
          refine lv_iadd hx hb dX0_parsePiece_57 ?_
          refine top_i (nI_add at0 1) ?_
          refine lv_aload hx hb dX0_parsePiece_58 (lv_at hl 4 rfl) ?_
          refine va_calli (va_runV (As := [.int (nI k), .int (nI (rb at0)), .int (nI (at0 + 1)), .ref h0]) (rest := []) ⟨hx, hb, hml, hown, hts⟩ (k_X0_parseArray l D T o rr rb bl k (rb at0) (at0 + 1) h0 w0 f b (hrb) (by omega) (by omega) (hrb _) (by omega) (hbf)) (cwV 4 hts gX0_parsePiece_X0_parseArray rfl rfl rfl (by decide +kernel) ⟨Nat.le_of_ble_eq_true rfl, Nat.le_of_ble_eq_true rfl⟩) (pre_V (Φ := fun X => Buf D T X o rr rb bl ∧ Num D T X h0 w0 f) hK (hU.1) rfl ⟨hU, hN⟩) rfl rfl hl.1 rfl (lv_room (Nat.le_of_ble_eq_true rfl)) dX0_parsePiece_60 ⟨Nat.le_of_ble_eq_true rfl, Nat.le_of_ble_eq_true rfl⟩) hS (fun q _ h => h) (fun q h => h) (fun r_1 u_1 t H_1 locs ht hvm hw hB hz hk hS => ?_)
          rw [ht] at hB
          try dsimp only at hw
          try dsimp only at hB
          have hN := hB
          refine lv_goto (tgt := 82) hx hb dX0_parsePiece_63 (by decide) ?_
          subst hQ
          exact W.iret (v := r_1) hx hb hr (fun t ht hW => ⟨⟨r_1, u_1, rfl, (by unfold pPc; rw [if_neg c_1, if_neg (by omega)]; first | (rw [if_pos c_4]; exact hw) | (rw [if_neg c_4]; exact hw)), by have h9 := hN; rw [← ht] at h9; exact h9⟩, hS.F ht⟩) hS.2.2 dX0_parsePiece_82
      · skip
        have c_3 : ¬ (1 ≤ (rb at0)) := fun z => c_3 ((nI_leI (a := 1) (b := (rb at0)) (by omega) (by omega)).mpr z)
        refine lv_iconst (v := (-1)) hx hb dX0_parsePiece_39 (by decide) ?_
        refine lv_iload_n hx hb dX0_parsePiece_40 rfl (lv_at hl 3 rfl) ?_
        refine lv_isub hx hb dX0_parsePiece_41 ?_
        subst hQ
        exact W.iret (v := ((-1) - (nI at0))) hx hb hr (fun t ht hW => ⟨⟨((-1) - (nI at0)), f, rfl, (PRes_e (by unfold pPc; rw [if_neg c_1, if_pos (by omega)]) rfl), by have h9 := hN; rw [← ht] at h9; exact h9⟩, hS.F ht⟩) hS.2.2 dX0_parsePiece_42
    · skip
      have c_2 : ¬ (at0 < bl) := fun z => c_2 ((nI_ltI (a := at0) (b := bl) (by omega) (by omega)).mpr z)
      refine lv_iconst (v := (-1)) hx hb dX0_parsePiece_22 (by decide) ?_
      refine lv_aload_n hx hb dX0_parsePiece_23 rfl (lv_at hl 0 rfl) ?_
      refine r_get (C := RX0) (Tb := TX0) (N := 2) hx hb hts in_wsX00 hown hK (hU.1) rfl 1 (by decide) (hts (.fieldLink RX0 15 "PieceSets$Buffer" "length" "I") (by decide +kernel)) rfl (v := .int (nI bl)) rfl dX0_parsePiece_24 ?_
      refine lv_isub hx hb dX0_parsePiece_27 ?_
      subst hQ
      exact W.iret (v := ((-1) - (nI bl))) hx hb hr (fun t ht hW => ⟨⟨((-1) - (nI bl)), f, rfl, (PRes_e (by unfold pPc; rw [if_neg c_1, if_pos (by omega)]) (by rw [show bl = at0 by omega])), by have h9 := hN; rw [← ht] at h9; exact h9⟩, hS.F ht⟩) hS.2.2 dX0_parsePiece_28
  · skip
    have c_1 : kd1 = 2 := (nI_eq (a := kd1) (b := 2) (by omega) (by omega)).mp c_1
    refine lv_aload_n hx hb dX0_parsePiece_5 rfl (lv_at hl 0 rfl) ?_
    refine lv_iload_n hx hb dX0_parsePiece_6 rfl (lv_at hl 1 rfl) ?_
    refine lv_iload_n hx hb dX0_parsePiece_7 rfl (lv_at hl 3 rfl) ?_
    refine lv_aload hx hb dX0_parsePiece_8 (lv_at hl 4 rfl) ?_
    refine va_calli (va_runV (As := [.int (nI k), .int (nI at0), .ref h0]) (rest := []) ⟨hx, hb, hml, hown, hts⟩ (k_X0_parseBitmap l D T o rr rb bl k at0 h0 w0 f b (hrb) (by omega) (by omega) (by omega) (hbf)) (cwV 3 hts gX0_parsePiece_X0_parseBitmap rfl rfl rfl (by decide +kernel) ⟨Nat.le_of_ble_eq_true rfl, Nat.le_of_ble_eq_true rfl⟩) (pre_V (Φ := fun X => Buf D T X o rr rb bl ∧ Num D T X h0 w0 f) hK (hU.1) rfl ⟨hU, hN⟩) rfl rfl hl.1 rfl (lv_room (Nat.le_of_ble_eq_true rfl)) dX0_parsePiece_10 ⟨Nat.le_of_ble_eq_true rfl, Nat.le_of_ble_eq_true rfl⟩) hS (fun q _ h => h) (fun q h => h) (fun r_1 u_1 t H_1 locs ht hvm hw hB hz hk hS => ?_)
    rw [ht] at hB
    try dsimp only at hw
    try dsimp only at hB
    have hN := hB
    subst hQ
    exact W.iret (v := r_1) hx hb hr (fun t ht hW => ⟨⟨r_1, u_1, rfl, (by unfold pPc; rw [if_pos c_1]; exact hw), by have h9 := hN; rw [← ht] at h9; exact h9⟩, hS.F ht⟩) hS.2.2 dX0_parsePiece_13
set_option maxHeartbeats 4000000 in
set_option maxRecDepth 100000 in
theorem k_X0_parse (l : Launch) (D : va_G) (T : Nat → ClassId) (o : Nat) (rr : Nat) (rb : Nat → Nat) (bl : Nat) (h0 : Nat) (w0 : Nat) (f : Nat → Int64) (hrb : ∀ i, rb i < 256) (hbl : bl ≤ 200) : Met l yX0_parse wsX0_parse ({ frames := 5, cells := 0, slots := 0, locals := 138 }) (va_Pc [.ref o, .ref h0] (fun U => KS D T U ∧ Buf D T U.heap o rr rb bl ∧ Num D T U.heap h0 w0 f)) (va_Qi (fun (r : Int32) (u : Nat → Int64) => PAllR (pAll rb bl 17 0 0 (fun _ => false)) r u) (fun u t => Num D T t.heap h0 w0 u) (fun q => q = w0)) 0 0 (fun q => q = w0) := by
  refine Met.ofW (cc := cX0_parse) (maxL := 8) (ret := (some .int)) (by decide) rfl ?_
  intro pg ev s m args below meth c s₁ B hml hv
  obtain ⟨rfl, hK, hH⟩ := hv
  have hx := B.exec
  have hb := B.bytes
  have hr := B.returns
  have hts := atoms_spec (ws := wsX0_parse) B.pre
  have hown : s.vm.findClass RX0 = some m.cls := findClass_of_methodNamed B.named
  have hlocks := B.notSynchronized
  have in_wsX00 : ∀ w ∈ wsX00, w ∈ wsX0_parse := fun w h => List.mem_cons_of_mem _ (List.mem_append_left _ (List.mem_append_right _ h))
  have in_wsX10 : ∀ w ∈ wsX10, w ∈ wsX0_parse := fun w h => List.mem_cons_of_mem _ (List.mem_append_right _ h)
  have hS : va_S (fun q => q = w0) s.heap s.heap [] := va_S.rf
  have hl := lv_entry ([.ref o, .ref h0]) (n := 8) (Nat.le_of_ble_eq_true rfl)
  rw [lg_entry_eq]
  generalize (lg_sl ([.ref o, .ref h0]) ++ List.replicate (8 - (lg_sl ([.ref o, .ref h0])).length) Slot.unset).toArray = ls at hl ⊢
  have hl : lv_has ls 8 [(0, .ref o), (1, .ref h0)] := hl
  refine W_gen (fun Q hQ => ?_)
  have hU := hH.1
  have hN := hH.2
  obtain ⟨R0, hR0⟩ : ∃ R, R = pAll rb bl 17 0 0 (fun _ => false) := ⟨_, rfl⟩
  refine lv_aload_n hx hb dX0_parse_0 rfl (lv_at hl 1 rfl) ?_
  refine va_callv (va_runVN (As := []) (rest := []) ⟨hx, hb, hml, hown, hts⟩ (k_X1_becomeEmpty l D T h0 w0 f ) (⟨va_cnB 0 hts ggX0_parse_X1_becomeEmpty rfl rfl rfl (hK.2.m (args := ([.ref o, .ref h0] : List Value).toArray) 25 rfl) (hts (.initialized RX1) (by decide +kernel)) (by decide +kernel) ⟨Nat.le_of_ble_eq_true rfl, Nat.le_of_ble_eq_true rfl⟩, hts (.instanceMethod yX1_becomeEmpty) (by decide +kernel), hts (.selects RX1 yX1_becomeEmpty yX1_becomeEmpty) (by decide +kernel)⟩) (pre_V (Φ := fun X => Num D T X h0 w0 f) hK (hN.1) rfl hN) rfl rfl hl.1 rfl (lv_room (Nat.le_of_ble_eq_true rfl)) dX0_parse_1 ⟨Nat.le_of_ble_eq_true rfl, Nat.le_of_ble_eq_true rfl⟩) hS (fun q _ h => h) (fun q h => h) (fun u_1 t H_1 locs ht hvm hw hB hz hk hS => ?_)
  rw [ht] at hB
  try dsimp only at hw
  try dsimp only at hB
  have hF : Fr _ _ _ := hk
  have hU := hU.keep hN hF
  have hN := hB
  refine lv_iconst (v := (nI 0)) hx hb dX0_parse_4 (by decide) ?_
  refine lv_istore_n (lv' := [(2, .int (nI 0)), (0, .ref o), (1, .ref h0)]) hx hb dX0_parse_5 rfl hl (by decide) rfl (fun ls hl => ?_)
  refine lv_iconst (v := (-1)) hx hb dX0_parse_6 (by decide) ?_
  refine lv_istore_n (lv' := [(3, .int (-1)), (2, .int (nI 0)), (0, .ref o), (1, .ref h0)]) hx hb dX0_parse_7 rfl hl (by decide) rfl (fun ls hl => ?_)
  refine lv_iconst (v := (nI 0)) hx hb dX0_parse_8 (by decide) ?_
  refine lv_istore (lv' := [(4, .int (nI 0)), (3, .int (-1)), (2, .int (nI 0)), (0, .ref o), (1, .ref h0)]) hx hb dX0_parse_9 hl (by decide) rfl (fun ls hl => ?_)
  have loop11 : ∀ (n11 : Nat) (i : Nat) (j : Nat) (bf : Nat) (g : Nat → Int64) (bb : Nat → Bool) (hi1 : i ≤ 17) (hj1 : j ≤ bl) (hbf1 : i ≤ bf) (hbf2 : bf ≤ 16) (hg : ∀ x, x < 4096 → bitL g x = bb x) (hv : pAll rb bl (17 - i) j bf bb = R0) (H : Heap) (locs : List Loc) (hU : Buf D T H o rr rb bl) (hN : Num D T H h0 w0 g) (hS : va_S (fun q => q = w0) s.heap H locs) (ls : Array Slot) (hl : lv_has ls 8 [(0, .ref o), (1, .ref h0), (2, .int (nI j)), (3, .int (bfI bf)), (4, .int (nI i))]) (hn11 : 17 - i < n11), W pg l ev (headSpec wsX0_parse ({ frames := 5, cells := 0, slots := 0, locals := 138 })).room s m ([.ref o, .ref h0] : List Value).toArray below meth c H locs 0 0 Q (F0 m 11 ls []) := by
    intro n11
    induction n11 with
    | zero =>
      intro i j bf g bb hi1 hj1 hbf1 hbf2 hg hv H locs hU hN hS ls hl hn11
      exact absurd hn11 (Nat.not_lt_zero _)
    | succ n11 ih11 =>
      intro i j bf g bb hi1 hj1 hbf1 hbf2 hg hv H locs hU hN hS ls hl hn11
      have hrbi := hrb j
      refine lv_iload hx hb dX0_parse_11 (lv_at hl 4 rfl) ?_
      refine lv_bipush (v := (nI 16)) hx hb dX0_parse_13 (by decide) ?_
      refine lv_icmp_gt (tgt := 118) hx hb dX0_parse_15 (by decide) (fun c_1 => ?_) (fun c_1 => ?_)
      · skip
        have c_1 : 16 < i := (nI_ltI (a := 16) (b := i) (by omega) (by omega)).mp c_1
        refine lv_bipush (v := (-9)) hx hb dX0_parse_118 (by decide) ?_
        subst hQ
        exact W.iret (v := (-9)) hx hb hr (fun t ht hW => ⟨⟨(-9), g, rfl, (by rw [← hR0]; exact PAll_t (hv.symm.trans (by rw [show 17 - i = (17 - (i + 1)) + 1 by omega, pAll_s rb bl (17 - (i + 1)) j bf bb, if_neg (by omega)])) hg), by have h9 := hN; rw [← ht] at h9; exact h9⟩, hS.F ht⟩) hS.2.2 dX0_parse_120
      · skip
        have c_1 : ¬ (16 < i) := fun z => c_1 ((nI_ltI (a := 16) (b := i) (by omega) (by omega)).mpr z)
        refine lv_iload_n hx hb dX0_parse_18 rfl (lv_at hl 2 rfl) ?_
        refine lv_aload_n hx hb dX0_parse_19 rfl (lv_at hl 0 rfl) ?_
        refine r_get (C := RX0) (Tb := TX0) (N := 2) hx hb hts in_wsX00 hown hK (hU.1) rfl 1 (by decide) (hts (.fieldLink RX0 15 "PieceSets$Buffer" "length" "I") (by decide +kernel)) rfl (v := .int (nI bl)) rfl dX0_parse_20 ?_
        refine lv_icmp_ge (tgt := 118) hx hb dX0_parse_23 (by decide) (fun c_2 => ?_) (fun c_2 => ?_)
        · skip
          have c_2 : bl ≤ j := (nI_leI (a := bl) (b := j) (by omega) (by omega)).mp c_2
          refine lv_bipush (v := (-9)) hx hb dX0_parse_118 (by decide) ?_
          subst hQ
          exact W.iret (v := (-9)) hx hb hr (fun t ht hW => ⟨⟨(-9), g, rfl, (by rw [← hR0]; exact PAll_t (hv.symm.trans (by rw [show 17 - i = (17 - (i + 1)) + 1 by omega, pAll_s rb bl (17 - (i + 1)) j bf bb, if_neg (by omega)])) hg), by have h9 := hN; rw [← ht] at h9; exact h9⟩, hS.F ht⟩) hS.2.2 dX0_parse_120
        · skip
          have c_2 : ¬ (bl ≤ j) := fun z => c_2 ((nI_leI (a := bl) (b := j) (by omega) (by omega)).mpr z)
          refine lv_aload_n hx hb dX0_parse_26 rfl (lv_at hl 0 rfl) ?_
          refine r_get (C := RX0) (Tb := TX0) (N := 2) hx hb hts in_wsX00 hown hK (hU.1) rfl 0 (by decide) (hts (.fieldLink RX0 9 "PieceSets$Buffer" "row" "[I") (by decide +kernel)) rfl (v := .ref rr) rfl dX0_parse_27 ?_
          refine lv_iload_n hx hb dX0_parse_30 rfl (lv_at hl 2 rfl) ?_
          refine r_iald hx hb hK (hU.2) (i := j) (by omega) (by decide) dX0_parse_31 ?_
          refine top_i (x' := (nI (rb j))) rfl ?_
          refine lv_iconst (v := (nI 4)) hx hb dX0_parse_32 (by decide) ?_
          refine lv_idiv hx hb dX0_parse_33 (by decide) ?_
          refine top_i (pk_div (a := rb j) (d := 4) (by omega) (by omega) (by omega)) ?_
          refine lv_istore (lv' := [(5, .int (nI ((rb j) / 4))), (0, .ref o), (1, .ref h0), (2, .int (nI j)), (3, .int (bfI bf)), (4, .int (nI i))]) hx hb dX0_parse_34 hl (by decide) rfl (fun ls hl => ?_)
          refine lv_aload_n hx hb dX0_parse_36 rfl (lv_at hl 1 rfl) ?_
          refine r_get (C := RX0) (Tb := TX0) (N := 2) hx hb hts in_wsX00 hown hK (hU.1) rfl 0 (by decide) (hts (.fieldLink RX0 9 "PieceSets$Buffer" "row" "[I") (by decide +kernel)) rfl (v := .ref rr) rfl dX0_parse_37 ?_
          refine lv_iload_n hx hb dX0_parse_40 rfl (lv_at hl 3 rfl) ?_
          refine r_iald hx hb hK (hU.2) (i := j) (by omega) (by decide) dX0_parse_41 ?_
          refine top_i (x' := (nI (rb j))) rfl ?_
          refine lv_iconst (v := (nI 4)) hx hb dX0_parse_42 (by decide) ?_
          refine lv_irem hx hb dX0_parse_43 (by decide) ?_
          refine top_i (pk_rem (a := rb j) (d := 4) (by omega) (by omega) (by omega)) ?_
          refine lv_istore (lv' := [(6, .int (nI ((rb j) % 4))), (5, .int (nI ((rb j) / 4))), (0, .ref o), (1, .ref h0), (2, .int (nI j)), (3, .int (bfI bf)), (4, .int (nI i))]) hx hb dX0_parse_44 hl (by decide) rfl (fun ls hl => ?_)
          refine lv_iload hx hb dX0_parse_46 (lv_at hl 1 rfl) ?_
          refine lv_bipush (v := (nI 16)) hx hb dX0_parse_48 (by decide) ?_
          refine lv_icmp_ge (tgt := 67) hx hb dX0_parse_50 (by decide) (fun c_3 => ?_) (fun c_3 => ?_)
          · skip
            have c_3 : 16 ≤ ((rb j) / 4) := (nI_leI (a := 16) (b := ((rb j) / 4)) (by omega) (by omega)).mp c_3
            have hbad : 16 ≤ rb j / 4 ∨ rb j % 4 = 3 ∨ rb j / 4 < bf := Or.inl c_3
            refine lv_iload_n hx hb dX0_parse_67 rfl (lv_at hl 4 rfl) ?_
            subst hQ
            exact W.iret (v := (nI j)) hx hb hr (fun t ht hW => ⟨⟨(nI j), g, rfl, (by rw [← hR0]; exact PAll_e (hv.symm.trans (by rw [show 17 - i = (17 - (i + 1)) + 1 by omega, pAll_s rb bl (17 - (i + 1)) j bf bb, if_pos (by omega), if_pos hbad])) rfl), by have h9 := hN; rw [← ht] at h9; exact h9⟩, hS.F ht⟩) hS.2.2 dX0_parse_68
          · skip
            have c_3 : ¬ (16 ≤ ((rb j) / 4)) := fun z => c_3 ((nI_leI (a := 16) (b := ((rb j) / 4)) (by omega) (by omega)).mpr z)
            refine lv_iload hx hb dX0_parse_53 (lv_at hl 0 rfl) ?_
            refine vp_callSi (va_Run.run (va_runSN (As := [.int (nI ((rb j) % 4))]) (rest := []) ⟨hx, hb, hml, hown, hts⟩ (k_X3_isKind l D T (nI ((rb j) % 4)) ) (⟨va_cnB 1 hts ggX0_parse_X3_isKind rfl rfl rfl (hK.2.m (args := ([.ref o, .ref h0] : List Value).toArray) 26 rfl) (hts (.initialized RX3) (by decide +kernel)) (by decide +kernel) ⟨Nat.le_of_ble_eq_true rfl, Nat.le_of_ble_eq_true rfl⟩, hts (.static yX3_isKind) (by decide +kernel), trivial⟩) (pre_S (Φ := fun X => True) hK trivial) rfl rfl hl.1 rfl (lv_room (Nat.le_of_ble_eq_true rfl)) dX0_parse_55 ⟨Nat.le_of_ble_eq_true rfl, Nat.le_of_ble_eq_true rfl⟩)) (fun r_2 hr_2 => ?_)
            subst hr_2
            refine lv_if_eq (tgt := 67) hx hb dX0_parse_58 (by decide) (fun c_4 => ?_) (fun c_4 => ?_)
            · skip
              have c_4 : (decide (¬ (nI ((rb j) % 4)) < 0 ∧ (nI ((rb j) % 4)) < nI 3)) = false := b2i_0.mp c_4
              have c_4 : ¬ (¬ (nI ((rb j) % 4)) < 0 ∧ (nI ((rb j) % 4)) < nI 3) := of_decide_eq_false c_4
              have hbad : 16 ≤ rb j / 4 ∨ rb j % 4 = 3 ∨ rb j / 4 < bf := Or.inr (Or.inl (by have h3 : ¬ (rb j % 4 < 3) := fun z => c_4 ⟨nI_pos (by omega), (nI_ltI (by omega) (by omega)).mpr z⟩; omega))
              refine lv_iload_n hx hb dX0_parse_67 rfl (lv_at hl 4 rfl) ?_
              subst hQ
              exact W.iret (v := (nI j)) hx hb hr (fun t ht hW => ⟨⟨(nI j), g, rfl, (by rw [← hR0]; exact PAll_e (hv.symm.trans (by rw [show 17 - i = (17 - (i + 1)) + 1 by omega, pAll_s rb bl (17 - (i + 1)) j bf bb, if_pos (by omega), if_pos hbad])) rfl), by have h9 := hN; rw [← ht] at h9; exact h9⟩, hS.F ht⟩) hS.2.2 dX0_parse_68
            · skip
              have c_4 : (decide (¬ (nI ((rb j) % 4)) < 0 ∧ (nI ((rb j) % 4)) < nI 3)) = true := b2i_n0.mp c_4
              have c_4 : ¬ (nI ((rb j) % 4)) < 0 ∧ (nI ((rb j) % 4)) < nI 3 := of_decide_eq_true c_4
              refine lv_iload hx hb dX0_parse_61 (lv_at hl 1 rfl) ?_
              refine lv_iload_n hx hb dX0_parse_63 rfl (lv_at hl 5 rfl) ?_
              refine lv_icmp_gt (tgt := 69) hx hb dX0_parse_64 (by decide) (fun c_5 => ?_) (fun c_5 => ?_)
              · skip
                have hlt3 : rb j % 4 < 3 := (nI_ltI (by omega) (by omega)).mp c_4.2
                have hbf3 : bf ≤ rb j / 4 := (bfI_lt (by omega) (by omega)).mp c_5
                have hgood : ¬ (16 ≤ rb j / 4 ∨ rb j % 4 = 3 ∨ rb j / 4 < bf) := by omega
                refine lv_aload_n hx hb dX0_parse_69 rfl (lv_at hl 2 rfl) ?_
                refine lv_iload hx hb dX0_parse_70 (lv_at hl 1 rfl) ?_
                refine lv_iload hx hb dX0_parse_72 (lv_at hl 0 rfl) ?_
                refine lv_iload_n hx hb dX0_parse_74 rfl (lv_at hl 4 rfl) ?_
                refine lv_iconst (v := (nI 1)) hx hb dX0_parse_75 (by decide) ?_
                refine lv_iadd hx hb dX0_parse_76 ?_
                refine top_i (nI_add j 1) ?_
                refine lv_aload_n hx hb dX0_parse_77 rfl (lv_at hl 3 rfl) ?_
                refine va_calli (va_runV (As := [.int (nI ((rb j) / 4)), .int (nI ((rb j) % 4)), .int (nI (j + 1)), .ref h0]) (rest := []) ⟨hx, hb, hml, hown, hts⟩ (k_X0_parsePiece l D T o rr rb bl ((rb j) / 4) ((rb j) % 4) (j + 1) h0 w0 g bb (hrb) (by omega) (by omega) ((nI_ltI (by omega) (by omega)).mp c_4.2) (by omega) (hg)) (cwV 4 hts gX0_parse_X0_parsePiece rfl rfl rfl (by decide +kernel) ⟨Nat.le_of_ble_eq_true rfl, Nat.le_of_ble_eq_true rfl⟩) (pre_V (Φ := fun X => Buf D T X o rr rb bl ∧ Num D T X h0 w0 g) hK (hU.1) rfl ⟨hU, hN⟩) rfl rfl hl.1 rfl (lv_room (Nat.le_of_ble_eq_true rfl)) dX0_parse_78 ⟨Nat.le_of_ble_eq_true rfl, Nat.le_of_ble_eq_true rfl⟩) hS (fun q _ h => h) (fun q h => h) (fun r_3 u_2 t H_2 locs ht hvm hw hB hz hk hS => ?_)
                rw [ht] at hB
                try dsimp only at hw
                try dsimp only at hB
                have hF : Fr _ _ _ := hk
                have hU := hU.keep hN hF
                have hN := hB
                have hpat := pPc_at rb bl (rb j / 4) (rb j % 4) (j + 1) bb (by omega)
                refine lv_istore (lv' := [(7, .int r_3), (6, .int (nI ((rb j) % 4))), (5, .int (nI ((rb j) / 4))), (0, .ref o), (1, .ref h0), (2, .int (nI j)), (3, .int (bfI bf)), (4, .int (nI i))]) hx hb dX0_parse_81 hl (by decide) rfl (fun ls hl => ?_)
                refine lv_iload hx hb dX0_parse_83 (lv_at hl 0 rfl) ?_
                refine lv_if_ge (tgt := 93) hx hb dX0_parse_85 (by decide) (fun c_6 => ?_) (fun c_6 => ?_)
                · skip
                  have hpp := PRes_pos hw (by omega) c_6
                  refine lv_aload_n hx hb dX0_parse_93 rfl (lv_at hl 4 rfl) ?_
                  refine lv_iload hx hb dX0_parse_94 (lv_at hl 2 rfl) ?_
                  refine vp_callSi (va_Run.run (va_runVN (As := [.int (nI ((rb j) / 4))]) (rest := []) ⟨hx, hb, hml, hown, hts⟩ (k_X1_kindOf l D T h0 w0 u_2 ((rb j) / 4) (by omega)) (⟨va_cnB 1 hts ggX0_parse_X1_kindOf rfl rfl rfl (hK.2.m (args := ([.ref o, .ref h0] : List Value).toArray) 29 rfl) (hts (.initialized RX1) (by decide +kernel)) (by decide +kernel) ⟨Nat.le_of_ble_eq_true rfl, Nat.le_of_ble_eq_true rfl⟩, hts (.instanceMethod yX1_kindOf) (by decide +kernel), hts (.selects RX1 yX1_kindOf yX1_kindOf) (by decide +kernel)⟩) (pre_V (Φ := fun X => Num D T X h0 w0 u_2) hK (hN.1) rfl hN) rfl rfl hl.1 rfl (lv_room (Nat.le_of_ble_eq_true rfl)) dX0_parse_96 ⟨Nat.le_of_ble_eq_true rfl, Nat.le_of_ble_eq_true rfl⟩)) (fun r_4 hr_4 => ?_)
                  subst hr_4
                  refine lv_iload hx hb dX0_parse_99 (lv_at hl 1 rfl) ?_
                  refine lv_icmp_eq (tgt := 106) hx hb dX0_parse_101 (by decide) (fun c_7 => ?_) (fun c_7 => ?_)
                  · skip
                    refine lv_iload hx hb dX0_parse_106 (lv_at hl 2 rfl) ?_
                    refine lv_istore_n (lv' := [(3, .int (nI ((rb j) / 4))), (7, .int r_3), (6, .int (nI ((rb j) % 4))), (5, .int (nI ((rb j) / 4))), (0, .ref o), (1, .ref h0), (2, .int (nI j)), (4, .int (nI i))]) hx hb dX0_parse_108 rfl hl (by decide) rfl (fun ls hl => ?_)
                    refine lv_iload hx hb dX0_parse_109 (lv_at hl 1 rfl) ?_
                    refine top_i (x' := (nI ((pPc rb bl (rb j / 4) (rb j % 4) (j + 1) bb).2.1))) (hpp.2.1) ?_
                    refine lv_istore_n (lv' := [(2, .int (nI ((pPc rb bl (rb j / 4) (rb j % 4) (j + 1) bb).2.1))), (3, .int (nI ((rb j) / 4))), (7, .int r_3), (6, .int (nI ((rb j) % 4))), (5, .int (nI ((rb j) / 4))), (0, .ref o), (1, .ref h0), (4, .int (nI i))]) hx hb dX0_parse_111 rfl hl (by decide) rfl (fun ls hl => ?_)
                    refine lv_iinc (v := (nI (i + 1))) (lv' := [(4, .int (nI (i + 1))), (2, .int (nI ((pPc rb bl (rb j / 4) (rb j % 4) (j + 1) bb).2.1))), (3, .int (nI ((rb j) / 4))), (7, .int r_3), (6, .int (nI ((rb j) % 4))), (5, .int (nI ((rb j) / 4))), (0, .ref o), (1, .ref h0)]) hx hb dX0_parse_112 hl (k := 7) rfl (iinc_n i 1) (by decide) rfl (fun ls hl => ?_)
                    refine lv_goto (tgt := 11) hx hb dX0_parse_115 (by decide) ?_
                    have hl := lv_sub hl (l' := [(0, .ref o), (1, .ref h0), (2, .int (nI ((pPc rb bl (rb j / 4) (rb j % 4) (j + 1) bb).2.1))), (3, .int (nI ((rb j) / 4))), (4, .int (nI (i + 1)))]) [6, 7, 1, 2, 0] rfl
                    have q_1 : (nI ((rb j) / 4)) = (bfI (rb j / 4 + 1)) := by unfold bfI; rw [if_neg (by omega), Nat.add_sub_cancel]
                    have hl : lv_has ls 8 [(0, .ref o), (1, .ref h0), (2, .int (nI ((pPc rb bl (rb j / 4) (rb j % 4) (j + 1) bb).2.1))), (3, .int (bfI (rb j / 4 + 1))), (4, .int (nI (i + 1)))] := by
                      have h := hl
                      rw [q_1] at h
                      exact h
                    exact ih11 (i + 1) ((pPc rb bl (rb j / 4) (rb j % 4) (j + 1) bb).2.1) (rb j / 4 + 1) u_2 ((pPc rb bl (rb j / 4) (rb j % 4) (j + 1) bb).2.2) (by omega) (by omega) (by omega) (by omega) (hpp.2.2) (by rw [show 17 - i = (17 - (i + 1)) + 1 by omega, pAll_s rb bl (17 - (i + 1)) j bf bb, if_pos (by omega), if_neg hgood, if_neg (by rw [hpp.1]; exact fun z => Bool.false_ne_true z.symm), if_pos (by rw [← pkd_cong (fun x h1 h2 => hpp.2.2 x (by omega))]; exact c_7)] at hv; exact hv) H_2 _ hU hN hS ls hl (by omega)
                  · skip
                    refine lv_iload_n hx hb dX0_parse_104 rfl (lv_at hl 5 rfl) ?_
                    subst hQ
                    exact W.iret (v := (nI j)) hx hb hr (fun t ht hW => ⟨⟨(nI j), u_2, rfl, (by rw [← hR0]; exact PAll_e (hv.symm.trans (by rw [show 17 - i = (17 - (i + 1)) + 1 by omega, pAll_s rb bl (17 - (i + 1)) j bf bb, if_pos (by omega), if_neg hgood, if_neg (by rw [hpp.1]; exact fun z => Bool.false_ne_true z.symm), if_neg (by rw [← pkd_cong (fun x h1 h2 => hpp.2.2 x (by omega))]; exact c_7)])) rfl), by have h9 := hN; rw [← ht] at h9; exact h9⟩, hS.F ht⟩) hS.2.2 dX0_parse_105
                · skip
                  have hpp := PRes_neg hw (by omega) c_6
                  refine lv_iconst (v := (-1)) hx hb dX0_parse_88 (by decide) ?_
                  refine lv_iload hx hb dX0_parse_89 (lv_at hl 0 rfl) ?_
                  refine lv_isub hx hb dX0_parse_91 ?_
                  subst hQ
                  exact W.iret (v := ((-1) - r_3)) hx hb hr (fun t ht hW => ⟨⟨((-1) - r_3), u_2, rfl, (by rw [← hR0, ← hv, show 17 - i = (17 - (i + 1)) + 1 by omega, pAll_s rb bl (17 - (i + 1)) j bf bb, if_pos (by omega), if_neg hgood, if_pos hpp.1]; exact PAll_f hpp.1 hpp.2), by have h9 := hN; rw [← ht] at h9; exact h9⟩, hS.F ht⟩) hS.2.2 dX0_parse_92
              · skip
                have hbad : 16 ≤ rb j / 4 ∨ rb j % 4 = 3 ∨ rb j / 4 < bf := Or.inr (Or.inr (by have h3 : ¬ (bf ≤ rb j / 4) := fun z => c_5 ((bfI_lt (by omega) (by omega)).mpr z); omega))
                refine lv_iload_n hx hb dX0_parse_67 rfl (lv_at hl 4 rfl) ?_
                subst hQ
                exact W.iret (v := (nI j)) hx hb hr (fun t ht hW => ⟨⟨(nI j), g, rfl, (by rw [← hR0]; exact PAll_e (hv.symm.trans (by rw [show 17 - i = (17 - (i + 1)) + 1 by omega, pAll_s rb bl (17 - (i + 1)) j bf bb, if_pos (by omega), if_pos hbad])) rfl), by have h9 := hN; rw [← ht] at h9; exact h9⟩, hS.F ht⟩) hS.2.2 dX0_parse_68
  have hl := lv_sub hl (l' := [(0, .ref o), (1, .ref h0), (2, .int (nI 0)), (3, .int (-1)), (4, .int (nI 0))]) [3, 4, 2, 1, 0] rfl
  have q_1 : (-1) = (bfI 0) := rfl
  have hl : lv_has ls 8 [(0, .ref o), (1, .ref h0), (2, .int (nI 0)), (3, .int (bfI 0)), (4, .int (nI 0))] := by
    have h := hl
    rw [q_1] at h
    exact h
  exact loop11 (17 - 0 + 1) 0 0 0 (fun _ => 0) (fun _ => false) (by omega) (Nat.zero_le _) (Nat.le_refl _) (by omega) (fun x _ => (bitL_dm _ x).trans (lb_0 _)) (hR0.symm) H_1 _ hU hN hS ls hl (Nat.lt_succ_self _)
