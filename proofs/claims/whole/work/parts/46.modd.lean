set_option maxHeartbeats 4000000 in
set_option maxRecDepth 100000 in
theorem k_X4_readsPlaces (l : Launch) (D : va_G) (T : Nat → ClassId) (M : Nat → Nat) (v : Nat → Int32) (as : Nat → Int32) (pa : Nat → Int32) (pk : Nat) (rb : Nat → Nat) (bm : Nat) (bi : Nat → Int32) (at0 : Nat) (k : Nat) (b : Nat → Bool) (hbm : bm ≤ 200) (hrb : ∀ i, rb i < 256) (hat0 : at0 ≤ bm) (hk : k < 16) (hbf : ∀ x, x < 4096 → bB bi x = b x) : Met l yX4_readsPlaces wsX4_readsPlaces ({ frames := 1, cells := 0, slots := 0, locals := 21 }) (va_Pc [.ref (M 0), .int (nI (256 * k)), .int (nI 1)] (fun U => KS D T U ∧ MO D T U.heap M v as pa pk (fun i => nI (rb i)) bm bi at0)) (va_Qi (fun (r : Int32) (u : (Nat → Int32) × Nat) => PMo (pPc rb bm k 1 at0 b) r u.1 u.2) (fun u t => MO D T t.heap M v as pa pk (fun i => nI (rb i)) bm u.1 u.2) (fun q => q = M 5 ∨ q = M 0)) 0 0 (fun q => q = M 5 ∨ q = M 0) := by
  refine Met.ofW (cc := cX4_readsPlaces) (maxL := 8) (ret := (some .boolean)) (by decide) rfl ?_
  intro pg ev s m args below meth c s₁ B hml hv
  obtain ⟨rfl, hK, hH⟩ := hv
  have hx := B.exec
  have hb := B.bytes
  have hr := B.returns
  have hts := atoms_spec (ws := wsX4_readsPlaces) B.pre
  have hown : s.vm.findClass RX4 = some m.cls := findClass_of_methodNamed B.named
  have hlocks := B.notSynchronized
  have in_wsX40 : ∀ w ∈ wsX40, w ∈ wsX4_readsPlaces := fun w h => List.mem_cons_of_mem _ (List.mem_append_right _ h)
  have hS : va_S (fun q => q = M 5 ∨ q = M 0) s.heap s.heap [] := va_S.rf
  have hl := lv_entry ([.ref (M 0), .int (nI (256 * k)), .int (nI 1)]) (n := 8) (Nat.le_of_ble_eq_true rfl)
  rw [lg_entry_eq]
  generalize (lg_sl ([.ref (M 0), .int (nI (256 * k)), .int (nI 1)]) ++ List.replicate (8 - (lg_sl ([.ref (M 0), .int (nI (256 * k)), .int (nI 1)])).length) Slot.unset).toArray = ls at hl ⊢
  have hl : lv_has ls 8 [(0, .ref (M 0)), (1, .int (nI (256 * k))), (2, .int (nI 1))] := hl
  refine W_gen (fun Q hQ => ?_)
  have hM := hH
  have hrb0 := hrb at0
  refine lv_aload_n hx hb dX4_readsPlaces_0 rfl (lv_at hl 0 rfl) ?_
  refine vp_callSi (va_Run.run (va_runV (As := []) (rest := []) ⟨hx, hb, hml, hown, hts⟩ (k_X4_next l D T M v as pa pk rb bm bi at0 (hbm) (hrb) (by omega)) (cwV 0 hts gX4_readsPlaces_X4_next rfl rfl rfl (by decide +kernel) ⟨Nat.le_of_ble_eq_true rfl, Nat.le_of_ble_eq_true rfl⟩) (pre_V (Φ := fun X => MO D T X M v as pa pk (fun i => nI (rb i)) bm bi at0) hK (hM.2.1) rfl hM) rfl rfl hl.1 rfl (lv_room (Nat.le_of_ble_eq_true rfl)) dX4_readsPlaces_1 ⟨Nat.le_of_ble_eq_true rfl, Nat.le_of_ble_eq_true rfl⟩)) (fun r_1 hr_1 => ?_)
  subst hr_1
  refine lv_istore_n (lv' := [(3, .int (nxt rb bm at0)), (0, .ref (M 0)), (1, .int (nI (256 * k))), (2, .int (nI 1))]) hx hb dX4_readsPlaces_4 rfl hl (by decide) rfl (fun ls hl => ?_)
  refine lv_iload_n hx hb dX4_readsPlaces_5 rfl (lv_at hl 0 rfl) ?_
  refine lv_iconst (v := (nI 1)) hx hb dX4_readsPlaces_6 (by decide) ?_
  refine lv_icmp_ge (tgt := 12) hx hb dX4_readsPlaces_7 (by decide) (fun c_1 => ?_) (fun c_1 => ?_)
  · skip
    have hgood := nxt_i hrb (by decide) c_1
    have k_1 : nxt rb bm at0 = nI (rb at0) := nxt_n (fun z => hgood (Or.inl z))
    have hl : lv_has ls 8 [(3, .int (nI (rb at0))), (0, .ref (M 0)), (1, .int (nI (256 * k))), (2, .int (nI 1))] := by have h := hl; rw [k_1] at h; exact h
    refine lv_aload_n hx hb dX4_readsPlaces_12 rfl (lv_at hl 1 rfl) ?_
    refine lv_dup hx hb dX4_readsPlaces_13 rfl ?_
    refine r_get (C := RX4) (Tb := TX4) (N := 8) hx hb hts in_wsX40 hown hK (hM.2.1) rfl 7 (by decide) (hts (.fieldLink RX4 98 "PieceSetsModel" "at" "I") (by decide +kernel)) rfl (v := .int (nI at0)) rfl dX4_readsPlaces_14 ?_
    refine lv_iconst (v := (nI 1)) hx hb dX4_readsPlaces_17 (by decide) ?_
    refine lv_iadd hx hb dX4_readsPlaces_18 ?_
    refine top_i (nI_add at0 1) ?_
    refine r_put (C := RX4) (Tb := TX4) (N := 8) hx hb hts in_wsX40 tyX4 tyX4_ok nmX4 hown hK hS (Or.inr rfl) hM.2.1 rfl 7 (by decide) (hts (.fieldLink RX4 98 "PieceSetsModel" "at" "I") (by decide +kernel)) rfl rfl (ty := .int) (by decide +kernel) rfl rfl (show (7 : Nat) < 8 by decide) dX4_readsPlaces_19 (fun H_1 locs hat oq hS => ?_)
    have hM := hM.set0 (pk' := pk) (bm' := bm) (at' := at0 + 1) hat (Fr.oq oq)
    refine lv_iload_n hx hb dX4_readsPlaces_22 rfl (lv_at hl 3 rfl) ?_
    refine lv_if_eq (tgt := 31) hx hb dX4_readsPlaces_23 (by decide) (fun c_2 => ?_) (fun c_2 => ?_)
    · skip
      exact absurd c_2 (by decide)
    · skip
      refine lv_bipush (v := (-2)) hx hb dX4_readsPlaces_26 (by decide) ?_
      refine lv_goto (tgt := 32) hx hb dX4_readsPlaces_28 (by decide) ?_
      refine lv_istore (lv' := [(4, .int (-2)), (3, .int (nI (rb at0))), (0, .ref (M 0)), (1, .int (nI (256 * k))), (2, .int (nI 1))]) hx hb dX4_readsPlaces_32 hl (by decide) rfl (fun ls hl => ?_)
      refine lv_iconst (v := (nI 0)) hx hb dX4_readsPlaces_34 (by decide) ?_
      refine lv_istore (lv' := [(5, .int (nI 0)), (4, .int (-2)), (3, .int (nI (rb at0))), (0, .ref (M 0)), (1, .int (nI (256 * k))), (2, .int (nI 1))]) hx hb dX4_readsPlaces_35 hl (by decide) rfl (fun ls hl => ?_)
      have loop37 : ∀ (n37 : Nat) (i : Nat) (j : Nat) (f0 : Nat) (g : Nat → Int32) (bb : Nat → Bool) (hi : i ≤ rb at0) (hj : j ≤ bm) (hf0 : f0 < 1000) (hg : ∀ x, x < 4096 → bB g x = bb x) (hv : pRs rb bm (256 * k) (2 * (rb at0 - i)) j false f0 bb = pRs rb bm (256 * k) (2 * rb at0) (at0 + 1) false 0 b) (H : Heap) (locs : List Loc) (hM : MO D T H M v as pa pk (fun i => nI (rb i)) bm g j) (hS : va_S (fun q => q = M 5 ∨ q = M 0) s.heap H locs) (ls : Array Slot) (hl : lv_has ls 8 [(0, .ref (M 0)), (1, .int (nI (256 * k))), (2, .int (nI 1)), (3, .int (nI (rb at0))), (4, .int (lsI 2 f0)), (5, .int (nI i))]) (hn37 : rb at0 - i < n37), W pg l ev (headSpec wsX4_readsPlaces ({ frames := 1, cells := 0, slots := 0, locals := 21 })).room s m ([.ref (M 0), .int (nI (256 * k)), .int (nI 1)] : List Value).toArray below meth c H locs 0 0 Q (F0 m 37 ls []) := by
        intro n37
        induction n37 with
        | zero =>
          intro i j f0 g bb hi hj hf0 hg hv H locs hM hS ls hl hn37
          exact absurd hn37 (Nat.not_lt_zero _)
        | succ n37 ih37 =>
          intro i j f0 g bb hi hj hf0 hg hv H locs hM hS ls hl hn37
          have hrbj := hrb j
          have hrbk := hrb (j + 1)
          have hrb0 := hrb at0
          refine lv_iload hx hb dX4_readsPlaces_37 (lv_at hl 5 rfl) ?_
          refine lv_iload_n hx hb dX4_readsPlaces_39 rfl (lv_at hl 3 rfl) ?_
          refine lv_icmp_ge (tgt := 153) hx hb dX4_readsPlaces_40 (by decide) (fun c_3 => ?_) (fun c_3 => ?_)
          · skip
            have c_3 : (rb at0) ≤ i := (nI_leI (a := (rb at0)) (b := i) (by omega) (by omega)).mp c_3
            refine lv_iconst (v := (nI 1)) hx hb dX4_readsPlaces_153 (by decide) ?_
            subst hQ
            exact W.zret (v := (nI 1)) hx hb hr nb1 (fun t ht hW => ⟨⟨(nI 1), (g, j), rfl, (PMo_t ((pPc_r hgood).trans (hv.symm.trans (by rw [show 2 * (rb at0 - i) = 0 by omega]; rfl))) hg), by have h9 := hM; rw [← ht] at h9; exact h9⟩, hS.F ht⟩) hS.2.2 dX4_readsPlaces_154
          · skip
            have c_3 : ¬ ((rb at0) ≤ i) := fun z => c_3 ((nI_leI (a := (rb at0)) (b := i) (by omega) (by omega)).mpr z)
            refine lv_aload_n hx hb dX4_readsPlaces_43 rfl (lv_at hl 0 rfl) ?_
            refine vp_callSi (va_Run.run (va_runV (As := []) (rest := []) ⟨hx, hb, hml, hown, hts⟩ (k_X4_next l D T M v as pa pk rb bm g j (hbm) (hrb) (by omega)) (cwV 0 hts gX4_readsPlaces_X4_next rfl rfl rfl (by decide +kernel) ⟨Nat.le_of_ble_eq_true rfl, Nat.le_of_ble_eq_true rfl⟩) (pre_V (Φ := fun X => MO D T X M v as pa pk (fun i => nI (rb i)) bm g j) hK (hM.2.1) rfl hM) rfl rfl hl.1 rfl (lv_room (Nat.le_of_ble_eq_true rfl)) dX4_readsPlaces_44 ⟨Nat.le_of_ble_eq_true rfl, Nat.le_of_ble_eq_true rfl⟩)) (fun r_2 hr_2 => ?_)
            subst hr_2
            refine lv_iload hx hb dX4_readsPlaces_47 (lv_at hl 4 rfl) ?_
            refine lv_iload_n hx hb dX4_readsPlaces_49 rfl (lv_at hl 2 rfl) ?_
            refine lv_if_eq (tgt := 57) hx hb dX4_readsPlaces_50 (by decide) (fun c_4 => ?_) (fun c_4 => ?_)
            · skip
              exact absurd c_4 (by decide)
            · skip
              refine lv_iconst (v := (nI 2)) hx hb dX4_readsPlaces_53 (by decide) ?_
              refine lv_goto (tgt := 58) hx hb dX4_readsPlaces_54 (by decide) ?_
              refine lv_iadd hx hb dX4_readsPlaces_58 ?_
              refine top_i (x' := (nI f0)) (ls_add _ _) ?_
              refine lv_icmp_lt (tgt := 69) hx hb dX4_readsPlaces_59 (by decide) (fun c_5 => ?_) (fun c_5 => ?_)
              · skip
                have hbad := (nxt_lt hrb (show f0 < 2 ^ 31 by omega)).mp c_5
                refine lv_iconst (v := (nI 0)) hx hb dX4_readsPlaces_69 (by decide) ?_
                subst hQ
                exact W.zret (v := (nI 0)) hx hb hr nb0 (fun t ht hW => ⟨⟨(nI 0), (g, j), rfl, (PMo_e ((pPc_r hgood).trans (hv.symm.trans (by rw [show 2 * (rb at0 - i) = (2 * (rb at0 - (i + 1)) + 1) + 1 by omega, pRs_s, if_pos hbad])))), by have h9 := hM; rw [← ht] at h9; exact h9⟩, hS.F ht⟩) hS.2.2 dX4_readsPlaces_70
              · skip
                refine lv_aload_n hx hb dX4_readsPlaces_62 rfl (lv_at hl 0 rfl) ?_
                refine vp_callSi (va_Run.run (va_runV (As := []) (rest := []) ⟨hx, hb, hml, hown, hts⟩ (k_X4_next l D T M v as pa pk rb bm g j (hbm) (hrb) (by omega)) (cwV 0 hts gX4_readsPlaces_X4_next rfl rfl rfl (by decide +kernel) ⟨Nat.le_of_ble_eq_true rfl, Nat.le_of_ble_eq_true rfl⟩) (pre_V (Φ := fun X => MO D T X M v as pa pk (fun i => nI (rb i)) bm g j) hK (hM.2.1) rfl hM) rfl rfl hl.1 rfl (lv_room (Nat.le_of_ble_eq_true rfl)) dX4_readsPlaces_63 ⟨Nat.le_of_ble_eq_true rfl, Nat.le_of_ble_eq_true rfl⟩)) (fun r_3 hr_3 => ?_)
                subst hr_3
                refine lv_if_ge (tgt := 71) hx hb dX4_readsPlaces_66 (by decide) (fun c_6 => ?_) (fun c_6 => ?_)
                · skip
                  have hnj := nxt_ge hrb c_6
                  have hgd : ¬ (bm ≤ j ∨ rb j < f0) := fun z => c_5 ((nxt_lt hrb (by omega)).mpr z)
                  refine lv_aload_n hx hb dX4_readsPlaces_71 rfl (lv_at hl 0 rfl) ?_
                  refine vp_callSi (va_Run.run (va_runV (As := []) (rest := []) ⟨hx, hb, hml, hown, hts⟩ (k_X4_next l D T M v as pa pk rb bm g j (hbm) (hrb) (by omega)) (cwV 0 hts gX4_readsPlaces_X4_next rfl rfl rfl (by decide +kernel) ⟨Nat.le_of_ble_eq_true rfl, Nat.le_of_ble_eq_true rfl⟩) (pre_V (Φ := fun X => MO D T X M v as pa pk (fun i => nI (rb i)) bm g j) hK (hM.2.1) rfl hM) rfl rfl hl.1 rfl (lv_room (Nat.le_of_ble_eq_true rfl)) dX4_readsPlaces_72 ⟨Nat.le_of_ble_eq_true rfl, Nat.le_of_ble_eq_true rfl⟩)) (fun r_4 hr_4 => ?_)
                  subst hr_4
                  refine top_i (x' := (nI (rb j))) (nxt_n hnj) ?_
                  refine lv_istore (lv' := [(6, .int (nI (rb j))), (0, .ref (M 0)), (1, .int (nI (256 * k))), (2, .int (nI 1)), (3, .int (nI (rb at0))), (4, .int (lsI 2 f0)), (5, .int (nI i))]) hx hb dX4_readsPlaces_75 hl (by decide) rfl (fun ls hl => ?_)
                  refine lv_iload hx hb dX4_readsPlaces_77 (lv_at hl 0 rfl) ?_
                  refine lv_istore (lv' := [(4, .int (nI (rb j))), (6, .int (nI (rb j))), (0, .ref (M 0)), (1, .int (nI (256 * k))), (2, .int (nI 1)), (3, .int (nI (rb at0))), (5, .int (nI i))]) hx hb dX4_readsPlaces_79 hl (by decide) rfl (fun ls hl => ?_)
                  refine lv_aload_n hx hb dX4_readsPlaces_81 rfl (lv_at hl 2 rfl) ?_
                  refine lv_dup hx hb dX4_readsPlaces_82 rfl ?_
                  refine r_get (C := RX4) (Tb := TX4) (N := 8) hx hb hts in_wsX40 hown hK (hM.2.1) rfl 7 (by decide) (hts (.fieldLink RX4 98 "PieceSetsModel" "at" "I") (by decide +kernel)) rfl (v := .int (nI j)) rfl dX4_readsPlaces_83 ?_
                  refine lv_iconst (v := (nI 1)) hx hb dX4_readsPlaces_86 (by decide) ?_
                  refine lv_iadd hx hb dX4_readsPlaces_87 ?_
                  refine top_i (nI_add j 1) ?_
                  refine r_put (C := RX4) (Tb := TX4) (N := 8) hx hb hts in_wsX40 tyX4 tyX4_ok nmX4 hown hK hS (Or.inr rfl) hM.2.1 rfl 7 (by decide) (hts (.fieldLink RX4 98 "PieceSetsModel" "at" "I") (by decide +kernel)) rfl rfl (ty := .int) (by decide +kernel) rfl rfl (show (7 : Nat) < 8 by decide) dX4_readsPlaces_88 (fun H_2 locs hat oq hS => ?_)
                  have hM := hM.set0 (pk' := pk) (bm' := bm) (at' := j + 1) hat (Fr.oq oq)
                  refine lv_iload_n hx hb dX4_readsPlaces_91 rfl (lv_at hl 4 rfl) ?_
                  refine lv_if_eq (tgt := 122) hx hb dX4_readsPlaces_92 (by decide) (fun c_7 => ?_) (fun c_7 => ?_)
                  · skip
                    exact absurd c_7 (by decide)
                  · skip
                    refine lv_aload_n hx hb dX4_readsPlaces_95 rfl (lv_at hl 2 rfl) ?_
                    refine vp_callSi (va_Run.run (va_runV (As := []) (rest := []) ⟨hx, hb, hml, hown, hts⟩ (k_X4_next l D T M v as pa pk rb bm g (j + 1) (hbm) (hrb) (by omega)) (cwV 0 hts gX4_readsPlaces_X4_next rfl rfl rfl (by decide +kernel) ⟨Nat.le_of_ble_eq_true rfl, Nat.le_of_ble_eq_true rfl⟩) (pre_V (Φ := fun X => MO D T X M v as pa pk (fun i => nI (rb i)) bm g (j + 1)) hK (hM.2.1) rfl hM) rfl rfl hl.1 rfl (lv_room (Nat.le_of_ble_eq_true rfl)) dX4_readsPlaces_96 ⟨Nat.le_of_ble_eq_true rfl, Nat.le_of_ble_eq_true rfl⟩)) (fun r_5 hr_5 => ?_)
                    subst hr_5
                    refine lv_iload hx hb dX4_readsPlaces_99 (lv_at hl 1 rfl) ?_
                    refine lv_icmp_ge (tgt := 106) hx hb dX4_readsPlaces_101 (by decide) (fun c_8 => ?_) (fun c_8 => ?_)
                    · skip
                      have hgd2 := nxt_i hrb (by omega) c_8
                      refine lv_aload_n hx hb dX4_readsPlaces_106 rfl (lv_at hl 2 rfl) ?_
                      refine vp_callSi (va_Run.run (va_runV (As := []) (rest := []) ⟨hx, hb, hml, hown, hts⟩ (k_X4_next l D T M v as pa pk rb bm g (j + 1) (hbm) (hrb) (by omega)) (cwV 0 hts gX4_readsPlaces_X4_next rfl rfl rfl (by decide +kernel) ⟨Nat.le_of_ble_eq_true rfl, Nat.le_of_ble_eq_true rfl⟩) (pre_V (Φ := fun X => MO D T X M v as pa pk (fun i => nI (rb i)) bm g (j + 1)) hK (hM.2.1) rfl hM) rfl rfl hl.1 rfl (lv_room (Nat.le_of_ble_eq_true rfl)) dX4_readsPlaces_107 ⟨Nat.le_of_ble_eq_true rfl, Nat.le_of_ble_eq_true rfl⟩)) (fun r_6 hr_6 => ?_)
                      subst hr_6
                      refine top_i (x' := (nI (rb (j + 1)))) (nxt_n (fun z => hgd2 (Or.inl z))) ?_
                      refine lv_istore (lv' := [(4, .int (nI (rb (j + 1)))), (6, .int (nI (rb j))), (0, .ref (M 0)), (1, .int (nI (256 * k))), (2, .int (nI 1)), (3, .int (nI (rb at0))), (5, .int (nI i))]) hx hb dX4_readsPlaces_110 hl (by decide) rfl (fun ls hl => ?_)
                      refine lv_aload_n hx hb dX4_readsPlaces_112 rfl (lv_at hl 2 rfl) ?_
                      refine lv_dup hx hb dX4_readsPlaces_113 rfl ?_
                      refine r_get (C := RX4) (Tb := TX4) (N := 8) hx hb hts in_wsX40 hown hK (hM.2.1) rfl 7 (by decide) (hts (.fieldLink RX4 98 "PieceSetsModel" "at" "I") (by decide +kernel)) rfl (v := .int (nI (j + 1))) rfl dX4_readsPlaces_114 ?_
                      refine lv_iconst (v := (nI 1)) hx hb dX4_readsPlaces_117 (by decide) ?_
                      refine lv_iadd hx hb dX4_readsPlaces_118 ?_
                      refine top_i (nI_add (j + 1) 1) ?_
                      refine r_put (C := RX4) (Tb := TX4) (N := 8) hx hb hts in_wsX40 tyX4 tyX4_ok nmX4 hown hK hS (Or.inr rfl) hM.2.1 rfl 7 (by decide) (hts (.fieldLink RX4 98 "PieceSetsModel" "at" "I") (by decide +kernel)) rfl rfl (ty := .int) (by decide +kernel) rfl rfl (show (7 : Nat) < 8 by decide) dX4_readsPlaces_119 (fun H_3 locs hat oq hS => ?_)
                      have hM := hM.set0 (pk' := pk) (bm' := bm) (at' := (j + 1) + 1) hat (Fr.oq oq)
                      refine lv_iload hx hb dX4_readsPlaces_122 (lv_at hl 1 rfl) ?_
                      refine lv_istore (lv' := [(7, .int (nI (rb j))), (4, .int (nI (rb (j + 1)))), (6, .int (nI (rb j))), (0, .ref (M 0)), (1, .int (nI (256 * k))), (2, .int (nI 1)), (3, .int (nI (rb at0))), (5, .int (nI i))]) hx hb dX4_readsPlaces_124 hl (by decide) rfl (fun ls hl => ?_)
                      have loop126 : ∀ (n126 : Nat) (zz : Nat) (g2 : Nat → Int32) (hz : zz ≤ rb (j + 1) + 1 - rb j) (hg2 : ∀ x, x < 4096 → bB g2 x = rnB bb (256 * k + rb j) zz x) (H : Heap) (locs : List Loc) (hM : MO D T H M v as pa pk (fun i => nI (rb i)) bm g2 (j + 1 + 1)) (hS : va_S (fun q => q = M 5 ∨ q = M 0) s.heap H locs) (ls : Array Slot) (hl : lv_has ls 8 [(0, .ref (M 0)), (1, .int (nI (256 * k))), (2, .int (nI 1)), (3, .int (nI (rb at0))), (4, .int (nI (rb (j + 1)))), (5, .int (nI i)), (6, .int (nI (rb j))), (7, .int (nI (rb j + zz)))]) (hn126 : rb (j + 1) + 1 - rb j - zz < n126), W pg l ev (headSpec wsX4_readsPlaces ({ frames := 1, cells := 0, slots := 0, locals := 21 })).room s m ([.ref (M 0), .int (nI (256 * k)), .int (nI 1)] : List Value).toArray below meth c H locs 0 0 Q (F0 m 126 ls []) := by
                        intro n126
                        induction n126 with
                        | zero =>
                          intro zz g2 hz hg2 H locs hM hS ls hl hn126
                          exact absurd hn126 (Nat.not_lt_zero _)
                        | succ n126 ih126 =>
                          intro zz g2 hz hg2 H locs hM hS ls hl hn126
                          refine lv_iload hx hb dX4_readsPlaces_126 (lv_at hl 7 rfl) ?_
                          refine lv_iload hx hb dX4_readsPlaces_128 (lv_at hl 4 rfl) ?_
                          refine lv_icmp_gt (tgt := 147) hx hb dX4_readsPlaces_130 (by decide) (fun c_9 => ?_) (fun c_9 => ?_)
                          · skip
                            have c_9 : (rb (j + 1)) < (rb j + zz) := (nI_ltI (a := (rb (j + 1))) (b := (rb j + zz)) (by omega) (by omega)).mp c_9
                            refine lv_iinc (v := (nI (i + 1))) (lv' := [(5, .int (nI (i + 1))), (0, .ref (M 0)), (1, .int (nI (256 * k))), (2, .int (nI 1)), (3, .int (nI (rb at0))), (4, .int (nI (rb (j + 1)))), (6, .int (nI (rb j))), (7, .int (nI (rb j + zz)))]) hx hb dX4_readsPlaces_147 hl (k := 5) rfl (iinc_n i 1) (by decide) rfl (fun ls hl => ?_)
                            refine lv_goto (tgt := 37) hx hb dX4_readsPlaces_150 (by decide) ?_
                            have hl := lv_sub hl (l' := [(0, .ref (M 0)), (1, .int (nI (256 * k))), (2, .int (nI 1)), (3, .int (nI (rb at0))), (4, .int (nI (rb (j + 1)))), (5, .int (nI (i + 1)))]) [1, 2, 3, 4, 5, 0] rfl
                            have q_1 : (nI (rb (j + 1))) = (lsI 2 (rb (j + 1) + 2)) := ls_n
                            have hl : lv_has ls 8 [(0, .ref (M 0)), (1, .int (nI (256 * k))), (2, .int (nI 1)), (3, .int (nI (rb at0))), (4, .int (lsI 2 (rb (j + 1) + 2))), (5, .int (nI (i + 1)))] := by
                              have h := hl
                              rw [q_1] at h
                              exact h
                            exact ih37 (i + 1) (j + 1 + 1) (rb (j + 1) + 2) g2 (fun x => bb x || decide (256 * k + rb j ≤ x ∧ x ≤ 256 * k + rb (j + 1))) (by omega) (by omega) (by omega) (fun x hx => by rw [hg2 x hx]; exact rnB_r bb (by omega) x) (by rw [show 2 * (rb at0 - i) = (2 * (rb at0 - (i + 1)) + 1) + 1 by omega, pRs_s, if_neg hgd, if_neg Bool.false_ne_true, pRs_s, if_neg hgd2, if_pos rfl] at hv; exact hv) H _ hM hS ls hl (by omega)
                          · skip
                            have c_9 : ¬ ((rb (j + 1)) < (rb j + zz)) := fun z => c_9 ((nI_ltI (a := (rb (j + 1))) (b := (rb j + zz)) (by omega) (by omega)).mpr z)
                            refine lv_aload_n hx hb dX4_readsPlaces_133 rfl (lv_at hl 0 rfl) ?_
                            refine lv_iload_n hx hb dX4_readsPlaces_134 rfl (lv_at hl 1 rfl) ?_
                            refine lv_iload hx hb dX4_readsPlaces_135 (lv_at hl 7 rfl) ?_
                            refine lv_iadd hx hb dX4_readsPlaces_137 ?_
                            refine top_i (nI_add (256 * k) (rb j + zz)) ?_
                            refine va_callv (va_runV (As := [.int (nI ((256 * k) + (rb j + zz)))]) (rest := []) ⟨hx, hb, hml, hown, hts⟩ (k_X4_takes l D T M v as pa pk rb bm g2 (j + 1 + 1) ((256 * k) + (rb j + zz)) (hbm) (hrb) (by omega) (by omega)) (cwV 1 hts gX4_readsPlaces_X4_takes rfl rfl rfl (by decide +kernel) ⟨Nat.le_of_ble_eq_true rfl, Nat.le_of_ble_eq_true rfl⟩) (pre_V (Φ := fun X => MO D T X M v as pa pk (fun i => nI (rb i)) bm g2 (j + 1 + 1)) hK (hM.2.1) rfl hM) rfl rfl hl.1 rfl (lv_room (Nat.le_of_ble_eq_true rfl)) dX4_readsPlaces_138 ⟨Nat.le_of_ble_eq_true rfl, Nat.le_of_ble_eq_true rfl⟩) hS (fun q _ h => Or.inl h) (fun q h => Or.inl h) (fun u_1 t H_4 locs ht hvm hw hB hz hk hS => ?_)
                            rw [ht] at hB
                            try dsimp only at hw
                            try dsimp only at hB
                            have hM := hB
                            refine lv_iinc (v := (nI ((rb j + zz) + 1))) (lv' := [(7, .int (nI ((rb j + zz) + 1))), (0, .ref (M 0)), (1, .int (nI (256 * k))), (2, .int (nI 1)), (3, .int (nI (rb at0))), (4, .int (nI (rb (j + 1)))), (5, .int (nI i)), (6, .int (nI (rb j)))]) hx hb dX4_readsPlaces_141 hl (k := 7) rfl (iinc_n (rb j + zz) 1) (by decide) rfl (fun ls hl => ?_)
                            refine lv_goto (tgt := 126) hx hb dX4_readsPlaces_144 (by decide) ?_
                            have hl := lv_sub hl (l' := [(0, .ref (M 0)), (1, .int (nI (256 * k))), (2, .int (nI 1)), (3, .int (nI (rb at0))), (4, .int (nI (rb (j + 1)))), (5, .int (nI i)), (6, .int (nI (rb j))), (7, .int (nI ((rb j + zz) + 1)))]) [1, 2, 3, 4, 5, 6, 7, 0] rfl
                            exact ih126 (zz + 1) u_1 (by omega) (fun x hx => by rw [hw x, hg2 x hx, rnB_s, Nat.add_assoc]) H_4 _ hM hS ls hl (by omega)
                      have hl := lv_sub hl (l' := [(0, .ref (M 0)), (1, .int (nI (256 * k))), (2, .int (nI 1)), (3, .int (nI (rb at0))), (4, .int (nI (rb (j + 1)))), (5, .int (nI i)), (6, .int (nI (rb j))), (7, .int (nI (rb j)))]) [3, 4, 5, 6, 1, 7, 2, 0] rfl
                      have q_1 : (nI (rb j)) = (nI (rb j + 0)) := by first | rfl | (congr 1; omega) | omega
                      have hl : lv_has ls 8 [(0, .ref (M 0)), (1, .int (nI (256 * k))), (2, .int (nI 1)), (3, .int (nI (rb at0))), (4, .int (nI (rb (j + 1)))), (5, .int (nI i)), (6, .int (nI (rb j))), (7, .int (nI (rb j + 0)))] := by
                        have h := hl
                        rw [q_1] at h
                        exact h
                      exact loop126 (rb (j + 1) + 1 - rb j - 0 + 1) 0 g (Nat.zero_le _) (fun x hx => by rw [rnB_0]; exact hg x hx) H_3 _ hM hS ls hl (Nat.lt_succ_self _)
                    · skip
                      refine lv_iconst (v := (nI 0)) hx hb dX4_readsPlaces_104 (by decide) ?_
                      subst hQ
                      exact W.zret (v := (nI 0)) hx hb hr nb0 (fun t ht hW => ⟨⟨(nI 0), (g, j + 1), rfl, (PMo_e ((pPc_r hgood).trans (hv.symm.trans (by rw [show 2 * (rb at0 - i) = (2 * (rb at0 - (i + 1)) + 1) + 1 by omega, pRs_s, if_neg hgd, if_neg Bool.false_ne_true, pRs_s, if_pos (nxt_ni hrb (by omega) c_8)])))), by have h9 := hM; rw [← ht] at h9; exact h9⟩, hS.F ht⟩) hS.2.2 dX4_readsPlaces_105
                · skip
                  have hbad : bm ≤ j ∨ rb j < f0 := Or.inl (nxt_nge hrb c_6)
                  refine lv_iconst (v := (nI 0)) hx hb dX4_readsPlaces_69 (by decide) ?_
                  subst hQ
                  exact W.zret (v := (nI 0)) hx hb hr nb0 (fun t ht hW => ⟨⟨(nI 0), (g, j), rfl, (PMo_e ((pPc_r hgood).trans (hv.symm.trans (by rw [show 2 * (rb at0 - i) = (2 * (rb at0 - (i + 1)) + 1) + 1 by omega, pRs_s, if_pos hbad])))), by have h9 := hM; rw [← ht] at h9; exact h9⟩, hS.F ht⟩) hS.2.2 dX4_readsPlaces_70
      have hl := lv_sub hl (l' := [(0, .ref (M 0)), (1, .int (nI (256 * k))), (2, .int (nI 1)), (3, .int (nI (rb at0))), (4, .int (-2)), (5, .int (nI 0))]) [3, 4, 5, 2, 1, 0] rfl
      have q_1 : (-2) = (lsI 2 0) := by decide
      have hl : lv_has ls 8 [(0, .ref (M 0)), (1, .int (nI (256 * k))), (2, .int (nI 1)), (3, .int (nI (rb at0))), (4, .int (lsI 2 0)), (5, .int (nI 0))] := by
        have h := hl
        rw [q_1] at h
        exact h
      exact loop37 (rb at0 - 0 + 1) 0 (at0 + 1) 0 bi b (Nat.zero_le _) (by omega) (by decide) (hbf) (rfl) H_1 _ hM hS ls hl (Nat.lt_succ_self _)
  · skip
    refine lv_iconst (v := (nI 0)) hx hb dX4_readsPlaces_10 (by decide) ?_
    subst hQ
    exact W.zret (v := (nI 0)) hx hb hr nb0 (fun t ht hW => ⟨⟨(nI 0), (bi, at0), rfl, (PMo_e (pPc_e (by decide) (nxt_ni hrb (by decide) c_1))), by have h9 := hM; rw [← ht] at h9; exact h9⟩, hS.F ht⟩) hS.2.2 dX4_readsPlaces_11
set_option maxHeartbeats 4000000 in
set_option maxRecDepth 100000 in
theorem k_X4_readsPlaces_b (l : Launch) (D : va_G) (T : Nat → ClassId) (M : Nat → Nat) (v : Nat → Int32) (as : Nat → Int32) (pa : Nat → Int32) (pk : Nat) (rb : Nat → Nat) (bm : Nat) (bi : Nat → Int32) (at0 : Nat) (k : Nat) (b : Nat → Bool) (hbm : bm ≤ 200) (hrb : ∀ i, rb i < 256) (hat0 : at0 ≤ bm) (hk : k < 16) (hbf : ∀ x, x < 4096 → bB bi x = b x) : Met l yX4_readsPlaces wsX4_readsPlaces ({ frames := 1, cells := 0, slots := 0, locals := 21 }) (va_Pc [.ref (M 0), .int (nI (256 * k)), .int (nI 0)] (fun U => KS D T U ∧ MO D T U.heap M v as pa pk (fun i => nI (rb i)) bm bi at0)) (va_Qi (fun (r : Int32) (u : (Nat → Int32) × Nat) => PMo (pPc rb bm k 0 at0 b) r u.1 u.2) (fun u t => MO D T t.heap M v as pa pk (fun i => nI (rb i)) bm u.1 u.2) (fun q => q = M 5 ∨ q = M 0)) 0 0 (fun q => q = M 5 ∨ q = M 0) := by
  refine Met.ofW (cc := cX4_readsPlaces) (maxL := 8) (ret := (some .boolean)) (by decide) rfl ?_
  intro pg ev s m args below meth c s₁ B hml hv
  obtain ⟨rfl, hK, hH⟩ := hv
  have hx := B.exec
  have hb := B.bytes
  have hr := B.returns
  have hts := atoms_spec (ws := wsX4_readsPlaces) B.pre
  have hown : s.vm.findClass RX4 = some m.cls := findClass_of_methodNamed B.named
  have hlocks := B.notSynchronized
  have in_wsX40 : ∀ w ∈ wsX40, w ∈ wsX4_readsPlaces := fun w h => List.mem_cons_of_mem _ (List.mem_append_right _ h)
  have hS : va_S (fun q => q = M 5 ∨ q = M 0) s.heap s.heap [] := va_S.rf
  have hl := lv_entry ([.ref (M 0), .int (nI (256 * k)), .int (nI 0)]) (n := 8) (Nat.le_of_ble_eq_true rfl)
  rw [lg_entry_eq]
  generalize (lg_sl ([.ref (M 0), .int (nI (256 * k)), .int (nI 0)]) ++ List.replicate (8 - (lg_sl ([.ref (M 0), .int (nI (256 * k)), .int (nI 0)])).length) Slot.unset).toArray = ls at hl ⊢
  have hl : lv_has ls 8 [(0, .ref (M 0)), (1, .int (nI (256 * k))), (2, .int (nI 0))] := hl
  refine W_gen (fun Q hQ => ?_)
  have hM := hH
  have hrb0 := hrb at0
  refine lv_aload_n hx hb dX4_readsPlaces_0 rfl (lv_at hl 0 rfl) ?_
  refine vp_callSi (va_Run.run (va_runV (As := []) (rest := []) ⟨hx, hb, hml, hown, hts⟩ (k_X4_next l D T M v as pa pk rb bm bi at0 (hbm) (hrb) (by omega)) (cwV 0 hts gX4_readsPlaces_X4_next rfl rfl rfl (by decide +kernel) ⟨Nat.le_of_ble_eq_true rfl, Nat.le_of_ble_eq_true rfl⟩) (pre_V (Φ := fun X => MO D T X M v as pa pk (fun i => nI (rb i)) bm bi at0) hK (hM.2.1) rfl hM) rfl rfl hl.1 rfl (lv_room (Nat.le_of_ble_eq_true rfl)) dX4_readsPlaces_1 ⟨Nat.le_of_ble_eq_true rfl, Nat.le_of_ble_eq_true rfl⟩)) (fun r_1 hr_1 => ?_)
  subst hr_1
  refine lv_istore_n (lv' := [(3, .int (nxt rb bm at0)), (0, .ref (M 0)), (1, .int (nI (256 * k))), (2, .int (nI 0))]) hx hb dX4_readsPlaces_4 rfl hl (by decide) rfl (fun ls hl => ?_)
  refine lv_iload_n hx hb dX4_readsPlaces_5 rfl (lv_at hl 0 rfl) ?_
  refine lv_iconst (v := (nI 1)) hx hb dX4_readsPlaces_6 (by decide) ?_
  refine lv_icmp_ge (tgt := 12) hx hb dX4_readsPlaces_7 (by decide) (fun c_1 => ?_) (fun c_1 => ?_)
  · skip
    have hgood := nxt_i hrb (by decide) c_1
    have k_1 : nxt rb bm at0 = nI (rb at0) := nxt_n (fun z => hgood (Or.inl z))
    have hl : lv_has ls 8 [(3, .int (nI (rb at0))), (0, .ref (M 0)), (1, .int (nI (256 * k))), (2, .int (nI 0))] := by have h := hl; rw [k_1] at h; exact h
    refine lv_aload_n hx hb dX4_readsPlaces_12 rfl (lv_at hl 1 rfl) ?_
    refine lv_dup hx hb dX4_readsPlaces_13 rfl ?_
    refine r_get (C := RX4) (Tb := TX4) (N := 8) hx hb hts in_wsX40 hown hK (hM.2.1) rfl 7 (by decide) (hts (.fieldLink RX4 98 "PieceSetsModel" "at" "I") (by decide +kernel)) rfl (v := .int (nI at0)) rfl dX4_readsPlaces_14 ?_
    refine lv_iconst (v := (nI 1)) hx hb dX4_readsPlaces_17 (by decide) ?_
    refine lv_iadd hx hb dX4_readsPlaces_18 ?_
    refine top_i (nI_add at0 1) ?_
    refine r_put (C := RX4) (Tb := TX4) (N := 8) hx hb hts in_wsX40 tyX4 tyX4_ok nmX4 hown hK hS (Or.inr rfl) hM.2.1 rfl 7 (by decide) (hts (.fieldLink RX4 98 "PieceSetsModel" "at" "I") (by decide +kernel)) rfl rfl (ty := .int) (by decide +kernel) rfl rfl (show (7 : Nat) < 8 by decide) dX4_readsPlaces_19 (fun H_1 locs hat oq hS => ?_)
    have hM := hM.set0 (pk' := pk) (bm' := bm) (at' := at0 + 1) hat (Fr.oq oq)
    refine lv_iload_n hx hb dX4_readsPlaces_22 rfl (lv_at hl 3 rfl) ?_
    refine lv_if_eq (tgt := 31) hx hb dX4_readsPlaces_23 (by decide) (fun c_2 => ?_) (fun c_2 => ?_)
    · skip
      refine lv_iconst (v := (-1)) hx hb dX4_readsPlaces_31 (by decide) ?_
      refine lv_istore (lv' := [(4, .int (-1)), (3, .int (nI (rb at0))), (0, .ref (M 0)), (1, .int (nI (256 * k))), (2, .int (nI 0))]) hx hb dX4_readsPlaces_32 hl (by decide) rfl (fun ls hl => ?_)
      refine lv_iconst (v := (nI 0)) hx hb dX4_readsPlaces_34 (by decide) ?_
      refine lv_istore (lv' := [(5, .int (nI 0)), (4, .int (-1)), (3, .int (nI (rb at0))), (0, .ref (M 0)), (1, .int (nI (256 * k))), (2, .int (nI 0))]) hx hb dX4_readsPlaces_35 hl (by decide) rfl (fun ls hl => ?_)
      have loop37 : ∀ (n37 : Nat) (i : Nat) (j : Nat) (f0 : Nat) (g : Nat → Int32) (bb : Nat → Bool) (hi : i ≤ rb at0) (hj : j ≤ bm) (hf0 : f0 < 1000) (hg : ∀ x, x < 4096 → bB g x = bb x) (hv : pAr rb bm (256 * k) (rb at0 - i) j f0 bb = pAr rb bm (256 * k) (rb at0) (at0 + 1) 0 b) (H : Heap) (locs : List Loc) (hM : MO D T H M v as pa pk (fun i => nI (rb i)) bm g j) (hS : va_S (fun q => q = M 5 ∨ q = M 0) s.heap H locs) (ls : Array Slot) (hl : lv_has ls 8 [(0, .ref (M 0)), (1, .int (nI (256 * k))), (2, .int (nI 0)), (3, .int (nI (rb at0))), (4, .int (lsI 1 f0)), (5, .int (nI i))]) (hn37 : rb at0 - i < n37), W pg l ev (headSpec wsX4_readsPlaces ({ frames := 1, cells := 0, slots := 0, locals := 21 })).room s m ([.ref (M 0), .int (nI (256 * k)), .int (nI 0)] : List Value).toArray below meth c H locs 0 0 Q (F0 m 37 ls []) := by
        intro n37
        induction n37 with
        | zero =>
          intro i j f0 g bb hi hj hf0 hg hv H locs hM hS ls hl hn37
          exact absurd hn37 (Nat.not_lt_zero _)
        | succ n37 ih37 =>
          intro i j f0 g bb hi hj hf0 hg hv H locs hM hS ls hl hn37
          have hrbj := hrb j
          have hrbk := hrb (j + 1)
          have hrb0 := hrb at0
          refine lv_iload hx hb dX4_readsPlaces_37 (lv_at hl 5 rfl) ?_
          refine lv_iload_n hx hb dX4_readsPlaces_39 rfl (lv_at hl 3 rfl) ?_
          refine lv_icmp_ge (tgt := 153) hx hb dX4_readsPlaces_40 (by decide) (fun c_3 => ?_) (fun c_3 => ?_)
          · skip
            have c_3 : (rb at0) ≤ i := (nI_leI (a := (rb at0)) (b := i) (by omega) (by omega)).mp c_3
            refine lv_iconst (v := (nI 1)) hx hb dX4_readsPlaces_153 (by decide) ?_
            subst hQ
            exact W.zret (v := (nI 1)) hx hb hr nb1 (fun t ht hW => ⟨⟨(nI 1), (g, j), rfl, (PMo_t ((pPc_a hgood).trans (hv.symm.trans (by rw [show rb at0 - i = 0 by omega]; rfl))) hg), by have h9 := hM; rw [← ht] at h9; exact h9⟩, hS.F ht⟩) hS.2.2 dX4_readsPlaces_154
          · skip
            have c_3 : ¬ ((rb at0) ≤ i) := fun z => c_3 ((nI_leI (a := (rb at0)) (b := i) (by omega) (by omega)).mpr z)
            refine lv_aload_n hx hb dX4_readsPlaces_43 rfl (lv_at hl 0 rfl) ?_
            refine vp_callSi (va_Run.run (va_runV (As := []) (rest := []) ⟨hx, hb, hml, hown, hts⟩ (k_X4_next l D T M v as pa pk rb bm g j (hbm) (hrb) (by omega)) (cwV 0 hts gX4_readsPlaces_X4_next rfl rfl rfl (by decide +kernel) ⟨Nat.le_of_ble_eq_true rfl, Nat.le_of_ble_eq_true rfl⟩) (pre_V (Φ := fun X => MO D T X M v as pa pk (fun i => nI (rb i)) bm g j) hK (hM.2.1) rfl hM) rfl rfl hl.1 rfl (lv_room (Nat.le_of_ble_eq_true rfl)) dX4_readsPlaces_44 ⟨Nat.le_of_ble_eq_true rfl, Nat.le_of_ble_eq_true rfl⟩)) (fun r_2 hr_2 => ?_)
            subst hr_2
            refine lv_iload hx hb dX4_readsPlaces_47 (lv_at hl 4 rfl) ?_
            refine lv_iload_n hx hb dX4_readsPlaces_49 rfl (lv_at hl 2 rfl) ?_
            refine lv_if_eq (tgt := 57) hx hb dX4_readsPlaces_50 (by decide) (fun c_4 => ?_) (fun c_4 => ?_)
            · skip
              refine lv_iconst (v := (nI 1)) hx hb dX4_readsPlaces_57 (by decide) ?_
              refine lv_iadd hx hb dX4_readsPlaces_58 ?_
              refine top_i (x' := (nI f0)) (ls_add _ _) ?_
              refine lv_icmp_lt (tgt := 69) hx hb dX4_readsPlaces_59 (by decide) (fun c_5 => ?_) (fun c_5 => ?_)
              · skip
                have hbad := (nxt_lt hrb (show f0 < 2 ^ 31 by omega)).mp c_5
                refine lv_iconst (v := (nI 0)) hx hb dX4_readsPlaces_69 (by decide) ?_
                subst hQ
                exact W.zret (v := (nI 0)) hx hb hr nb0 (fun t ht hW => ⟨⟨(nI 0), (g, j), rfl, (PMo_e ((pPc_a hgood).trans (hv.symm.trans (by rw [show rb at0 - i = (rb at0 - (i + 1)) + 1 by omega, pAr_s, if_pos hbad])))), by have h9 := hM; rw [← ht] at h9; exact h9⟩, hS.F ht⟩) hS.2.2 dX4_readsPlaces_70
              · skip
                refine lv_aload_n hx hb dX4_readsPlaces_62 rfl (lv_at hl 0 rfl) ?_
                refine vp_callSi (va_Run.run (va_runV (As := []) (rest := []) ⟨hx, hb, hml, hown, hts⟩ (k_X4_next l D T M v as pa pk rb bm g j (hbm) (hrb) (by omega)) (cwV 0 hts gX4_readsPlaces_X4_next rfl rfl rfl (by decide +kernel) ⟨Nat.le_of_ble_eq_true rfl, Nat.le_of_ble_eq_true rfl⟩) (pre_V (Φ := fun X => MO D T X M v as pa pk (fun i => nI (rb i)) bm g j) hK (hM.2.1) rfl hM) rfl rfl hl.1 rfl (lv_room (Nat.le_of_ble_eq_true rfl)) dX4_readsPlaces_63 ⟨Nat.le_of_ble_eq_true rfl, Nat.le_of_ble_eq_true rfl⟩)) (fun r_3 hr_3 => ?_)
                subst hr_3
                refine lv_if_ge (tgt := 71) hx hb dX4_readsPlaces_66 (by decide) (fun c_6 => ?_) (fun c_6 => ?_)
                · skip
                  have hnj := nxt_ge hrb c_6
                  have hgd : ¬ (bm ≤ j ∨ rb j < f0) := fun z => c_5 ((nxt_lt hrb (by omega)).mpr z)
                  refine lv_aload_n hx hb dX4_readsPlaces_71 rfl (lv_at hl 0 rfl) ?_
                  refine vp_callSi (va_Run.run (va_runV (As := []) (rest := []) ⟨hx, hb, hml, hown, hts⟩ (k_X4_next l D T M v as pa pk rb bm g j (hbm) (hrb) (by omega)) (cwV 0 hts gX4_readsPlaces_X4_next rfl rfl rfl (by decide +kernel) ⟨Nat.le_of_ble_eq_true rfl, Nat.le_of_ble_eq_true rfl⟩) (pre_V (Φ := fun X => MO D T X M v as pa pk (fun i => nI (rb i)) bm g j) hK (hM.2.1) rfl hM) rfl rfl hl.1 rfl (lv_room (Nat.le_of_ble_eq_true rfl)) dX4_readsPlaces_72 ⟨Nat.le_of_ble_eq_true rfl, Nat.le_of_ble_eq_true rfl⟩)) (fun r_4 hr_4 => ?_)
                  subst hr_4
                  refine top_i (x' := (nI (rb j))) (nxt_n hnj) ?_
                  refine lv_istore (lv' := [(6, .int (nI (rb j))), (0, .ref (M 0)), (1, .int (nI (256 * k))), (2, .int (nI 0)), (3, .int (nI (rb at0))), (4, .int (lsI 1 f0)), (5, .int (nI i))]) hx hb dX4_readsPlaces_75 hl (by decide) rfl (fun ls hl => ?_)
                  refine lv_iload hx hb dX4_readsPlaces_77 (lv_at hl 0 rfl) ?_
                  refine lv_istore (lv' := [(4, .int (nI (rb j))), (6, .int (nI (rb j))), (0, .ref (M 0)), (1, .int (nI (256 * k))), (2, .int (nI 0)), (3, .int (nI (rb at0))), (5, .int (nI i))]) hx hb dX4_readsPlaces_79 hl (by decide) rfl (fun ls hl => ?_)
                  refine lv_aload_n hx hb dX4_readsPlaces_81 rfl (lv_at hl 2 rfl) ?_
                  refine lv_dup hx hb dX4_readsPlaces_82 rfl ?_
                  refine r_get (C := RX4) (Tb := TX4) (N := 8) hx hb hts in_wsX40 hown hK (hM.2.1) rfl 7 (by decide) (hts (.fieldLink RX4 98 "PieceSetsModel" "at" "I") (by decide +kernel)) rfl (v := .int (nI j)) rfl dX4_readsPlaces_83 ?_
                  refine lv_iconst (v := (nI 1)) hx hb dX4_readsPlaces_86 (by decide) ?_
                  refine lv_iadd hx hb dX4_readsPlaces_87 ?_
                  refine top_i (nI_add j 1) ?_
                  refine r_put (C := RX4) (Tb := TX4) (N := 8) hx hb hts in_wsX40 tyX4 tyX4_ok nmX4 hown hK hS (Or.inr rfl) hM.2.1 rfl 7 (by decide) (hts (.fieldLink RX4 98 "PieceSetsModel" "at" "I") (by decide +kernel)) rfl rfl (ty := .int) (by decide +kernel) rfl rfl (show (7 : Nat) < 8 by decide) dX4_readsPlaces_88 (fun H_2 locs hat oq hS => ?_)
                  have hM := hM.set0 (pk' := pk) (bm' := bm) (at' := j + 1) hat (Fr.oq oq)
                  refine lv_iload_n hx hb dX4_readsPlaces_91 rfl (lv_at hl 4 rfl) ?_
                  refine lv_if_eq (tgt := 122) hx hb dX4_readsPlaces_92 (by decide) (fun c_7 => ?_) (fun c_7 => ?_)
                  · skip
                    refine lv_iload hx hb dX4_readsPlaces_122 (lv_at hl 1 rfl) ?_
                    refine lv_istore (lv' := [(7, .int (nI (rb j))), (4, .int (nI (rb j))), (6, .int (nI (rb j))), (0, .ref (M 0)), (1, .int (nI (256 * k))), (2, .int (nI 0)), (3, .int (nI (rb at0))), (5, .int (nI i))]) hx hb dX4_readsPlaces_124 hl (by decide) rfl (fun ls hl => ?_)
                    have loop126 : ∀ (n126 : Nat) (zz : Nat) (g2 : Nat → Int32) (hz : zz ≤ rb j + 1 - rb j) (hg2 : ∀ x, x < 4096 → bB g2 x = rnB bb (256 * k + rb j) zz x) (H : Heap) (locs : List Loc) (hM : MO D T H M v as pa pk (fun i => nI (rb i)) bm g2 (j + 1)) (hS : va_S (fun q => q = M 5 ∨ q = M 0) s.heap H locs) (ls : Array Slot) (hl : lv_has ls 8 [(0, .ref (M 0)), (1, .int (nI (256 * k))), (2, .int (nI 0)), (3, .int (nI (rb at0))), (4, .int (nI (rb j))), (5, .int (nI i)), (6, .int (nI (rb j))), (7, .int (nI (rb j + zz)))]) (hn126 : rb j + 1 - rb j - zz < n126), W pg l ev (headSpec wsX4_readsPlaces ({ frames := 1, cells := 0, slots := 0, locals := 21 })).room s m ([.ref (M 0), .int (nI (256 * k)), .int (nI 0)] : List Value).toArray below meth c H locs 0 0 Q (F0 m 126 ls []) := by
                      intro n126
                      induction n126 with
                      | zero =>
                        intro zz g2 hz hg2 H locs hM hS ls hl hn126
                        exact absurd hn126 (Nat.not_lt_zero _)
                      | succ n126 ih126 =>
                        intro zz g2 hz hg2 H locs hM hS ls hl hn126
                        refine lv_iload hx hb dX4_readsPlaces_126 (lv_at hl 7 rfl) ?_
                        refine lv_iload hx hb dX4_readsPlaces_128 (lv_at hl 4 rfl) ?_
                        refine lv_icmp_gt (tgt := 147) hx hb dX4_readsPlaces_130 (by decide) (fun c_8 => ?_) (fun c_8 => ?_)
                        · skip
                          have c_8 : (rb j) < (rb j + zz) := (nI_ltI (a := (rb j)) (b := (rb j + zz)) (by omega) (by omega)).mp c_8
                          refine lv_iinc (v := (nI (i + 1))) (lv' := [(5, .int (nI (i + 1))), (0, .ref (M 0)), (1, .int (nI (256 * k))), (2, .int (nI 0)), (3, .int (nI (rb at0))), (4, .int (nI (rb j))), (6, .int (nI (rb j))), (7, .int (nI (rb j + zz)))]) hx hb dX4_readsPlaces_147 hl (k := 5) rfl (iinc_n i 1) (by decide) rfl (fun ls hl => ?_)
                          refine lv_goto (tgt := 37) hx hb dX4_readsPlaces_150 (by decide) ?_
                          have hl := lv_sub hl (l' := [(0, .ref (M 0)), (1, .int (nI (256 * k))), (2, .int (nI 0)), (3, .int (nI (rb at0))), (4, .int (nI (rb j))), (5, .int (nI (i + 1)))]) [1, 2, 3, 4, 5, 0] rfl
                          have q_1 : (nI (rb j)) = (lsI 1 (rb j + 1)) := ls_n
                          have hl : lv_has ls 8 [(0, .ref (M 0)), (1, .int (nI (256 * k))), (2, .int (nI 0)), (3, .int (nI (rb at0))), (4, .int (lsI 1 (rb j + 1))), (5, .int (nI (i + 1)))] := by
                            have h := hl
                            rw [q_1] at h
                            exact h
                          exact ih37 (i + 1) (j + 1) (rb j + 1) g2 (fun x => bb x || decide (x = 256 * k + rb j)) (by omega) (by omega) (by omega) (fun x hx => by rw [hg2 x hx, show zz = 1 by omega, rnB_1]) (by rw [show rb at0 - i = (rb at0 - (i + 1)) + 1 by omega, pAr_s, if_neg hgd] at hv; exact hv) H _ hM hS ls hl (by omega)
                        · skip
                          have c_8 : ¬ ((rb j) < (rb j + zz)) := fun z => c_8 ((nI_ltI (a := (rb j)) (b := (rb j + zz)) (by omega) (by omega)).mpr z)
                          refine lv_aload_n hx hb dX4_readsPlaces_133 rfl (lv_at hl 0 rfl) ?_
                          refine lv_iload_n hx hb dX4_readsPlaces_134 rfl (lv_at hl 1 rfl) ?_
                          refine lv_iload hx hb dX4_readsPlaces_135 (lv_at hl 7 rfl) ?_
                          refine lv_iadd hx hb dX4_readsPlaces_137 ?_
                          refine top_i (nI_add (256 * k) (rb j + zz)) ?_
                          refine va_callv (va_runV (As := [.int (nI ((256 * k) + (rb j + zz)))]) (rest := []) ⟨hx, hb, hml, hown, hts⟩ (k_X4_takes l D T M v as pa pk rb bm g2 (j + 1) ((256 * k) + (rb j + zz)) (hbm) (hrb) (by omega) (by omega)) (cwV 1 hts gX4_readsPlaces_X4_takes rfl rfl rfl (by decide +kernel) ⟨Nat.le_of_ble_eq_true rfl, Nat.le_of_ble_eq_true rfl⟩) (pre_V (Φ := fun X => MO D T X M v as pa pk (fun i => nI (rb i)) bm g2 (j + 1)) hK (hM.2.1) rfl hM) rfl rfl hl.1 rfl (lv_room (Nat.le_of_ble_eq_true rfl)) dX4_readsPlaces_138 ⟨Nat.le_of_ble_eq_true rfl, Nat.le_of_ble_eq_true rfl⟩) hS (fun q _ h => Or.inl h) (fun q h => Or.inl h) (fun u_1 t H_3 locs ht hvm hw hB hz hk hS => ?_)
                          rw [ht] at hB
                          try dsimp only at hw
                          try dsimp only at hB
                          have hM := hB
                          refine lv_iinc (v := (nI ((rb j + zz) + 1))) (lv' := [(7, .int (nI ((rb j + zz) + 1))), (0, .ref (M 0)), (1, .int (nI (256 * k))), (2, .int (nI 0)), (3, .int (nI (rb at0))), (4, .int (nI (rb j))), (5, .int (nI i)), (6, .int (nI (rb j)))]) hx hb dX4_readsPlaces_141 hl (k := 7) rfl (iinc_n (rb j + zz) 1) (by decide) rfl (fun ls hl => ?_)
                          refine lv_goto (tgt := 126) hx hb dX4_readsPlaces_144 (by decide) ?_
                          have hl := lv_sub hl (l' := [(0, .ref (M 0)), (1, .int (nI (256 * k))), (2, .int (nI 0)), (3, .int (nI (rb at0))), (4, .int (nI (rb j))), (5, .int (nI i)), (6, .int (nI (rb j))), (7, .int (nI ((rb j + zz) + 1)))]) [1, 2, 3, 4, 5, 6, 7, 0] rfl
                          exact ih126 (zz + 1) u_1 (by omega) (fun x hx => by rw [hw x, hg2 x hx, rnB_s, Nat.add_assoc]) H_3 _ hM hS ls hl (by omega)
                    have hl := lv_sub hl (l' := [(0, .ref (M 0)), (1, .int (nI (256 * k))), (2, .int (nI 0)), (3, .int (nI (rb at0))), (4, .int (nI (rb j))), (5, .int (nI i)), (6, .int (nI (rb j))), (7, .int (nI (rb j)))]) [3, 4, 5, 6, 1, 7, 2, 0] rfl
                    have q_1 : (nI (rb j)) = (nI (rb j + 0)) := by first | rfl | (congr 1; omega) | omega
                    have hl : lv_has ls 8 [(0, .ref (M 0)), (1, .int (nI (256 * k))), (2, .int (nI 0)), (3, .int (nI (rb at0))), (4, .int (nI (rb j))), (5, .int (nI i)), (6, .int (nI (rb j))), (7, .int (nI (rb j + 0)))] := by
                      have h := hl
                      rw [q_1] at h
                      exact h
                    exact loop126 (rb j + 1 - rb j - 0 + 1) 0 g (Nat.zero_le _) (fun x hx => by rw [rnB_0]; exact hg x hx) H_2 _ hM hS ls hl (Nat.lt_succ_self _)
                  · skip
                    exact absurd (by decide) c_7
                · skip
                  have hbad : bm ≤ j ∨ rb j < f0 := Or.inl (nxt_nge hrb c_6)
                  refine lv_iconst (v := (nI 0)) hx hb dX4_readsPlaces_69 (by decide) ?_
                  subst hQ
                  exact W.zret (v := (nI 0)) hx hb hr nb0 (fun t ht hW => ⟨⟨(nI 0), (g, j), rfl, (PMo_e ((pPc_a hgood).trans (hv.symm.trans (by rw [show rb at0 - i = (rb at0 - (i + 1)) + 1 by omega, pAr_s, if_pos hbad])))), by have h9 := hM; rw [← ht] at h9; exact h9⟩, hS.F ht⟩) hS.2.2 dX4_readsPlaces_70
            · skip
              exact absurd (by decide) c_4
      have hl := lv_sub hl (l' := [(0, .ref (M 0)), (1, .int (nI (256 * k))), (2, .int (nI 0)), (3, .int (nI (rb at0))), (4, .int (-1)), (5, .int (nI 0))]) [3, 4, 5, 2, 1, 0] rfl
      have q_1 : (-1) = (lsI 1 0) := by decide
      have hl : lv_has ls 8 [(0, .ref (M 0)), (1, .int (nI (256 * k))), (2, .int (nI 0)), (3, .int (nI (rb at0))), (4, .int (lsI 1 0)), (5, .int (nI 0))] := by
        have h := hl
        rw [q_1] at h
        exact h
      exact loop37 (rb at0 - 0 + 1) 0 (at0 + 1) 0 bi b (Nat.zero_le _) (by omega) (by decide) (hbf) (rfl) H_1 _ hM hS ls hl (Nat.lt_succ_self _)
    · skip
      exact absurd (by decide) c_2
  · skip
    refine lv_iconst (v := (nI 0)) hx hb dX4_readsPlaces_10 (by decide) ?_
    subst hQ
    exact W.zret (v := (nI 0)) hx hb hr nb0 (fun t ht hW => ⟨⟨(nI 0), (bi, at0), rfl, (PMo_e (pPc_e (by decide) (nxt_ni hrb (by decide) c_1))), by have h9 := hM; rw [← ht] at h9; exact h9⟩, hS.F ht⟩) hS.2.2 dX4_readsPlaces_11
