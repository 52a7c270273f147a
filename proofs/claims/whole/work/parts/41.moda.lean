set_option maxHeartbeats 1000000 in
set_option maxRecDepth 100000 in
theorem k_X4_act (l : Launch) (D : va_G) (T : Nat → ClassId) (M : Nat → Nat) (v : Nat → Int32) (as : Nat → Int32) (pa : Nat → Int32) (pk : Nat) (bu : Nat → Int32) (bm : Nat) (bi : Nat → Int32) (at0 : Nat) (hk5 : pk ≤ 5) : Met l yX4_act wsX4_act ({ frames := 0, cells := 0, slots := 0, locals := 0 }) (va_Pc [.ref (M 0)] (fun U => KS D T U ∧ MO D T U.heap M v as pa pk bu bm bi at0)) (va_Qv (fun (u : Unit) => True) (fun u t => MO D T t.heap M v v (acF v pa pk) (kpt pk) bu bm bi at0) (fun q => ∃ i, i < 6 ∧ q = M i)) 0 0 (fun q => ∃ i, i < 6 ∧ q = M i) := by
  refine Met.ofW (cc := cX4_act) (maxL := 2) (ret := none) (by decide) rfl ?_
  intro pg ev s m args below meth c s₁ B hml hv
  obtain ⟨rfl, hK, hH⟩ := hv
  have hx := B.exec
  have hb := B.bytes
  have hr := B.returns
  have hts := atoms_spec (ws := wsX4_act) B.pre
  have hown : s.vm.findClass RX4 = some m.cls := findClass_of_methodNamed B.named
  have hlocks := B.notSynchronized
  have in_wsX40 : ∀ w ∈ wsX40, w ∈ wsX4_act := fun w h => List.mem_cons_of_mem _ (List.mem_append_right _ h)
  have hS : va_S (fun q => ∃ i, i < 6 ∧ q = M i) s.heap s.heap [] := va_S.rf
  have hl := lv_entry ([.ref (M 0)]) (n := 2) (Nat.le_of_ble_eq_true rfl)
  rw [lg_entry_eq]
  generalize (lg_sl ([.ref (M 0)]) ++ List.replicate (2 - (lg_sl ([.ref (M 0)])).length) Slot.unset).toArray = ls at hl ⊢
  have hl : lv_has ls 2 [(0, .ref (M 0))] := hl
  refine W_gen (fun Q hQ => ?_)
  have hM := hH
  refine lv_aload_n hx hb dX4_act_0 rfl (lv_at hl 0 rfl) ?_
  refine r_get (C := RX4) (Tb := TX4) (N := 8) hx hb hts in_wsX40 hown hK (hM.2.1) rfl 3 (by decide) (hts (.fieldLink RX4 33 "PieceSetsModel" "pastMany" "I") (by decide +kernel)) rfl (v := .int (nI pk)) rfl dX4_act_1 ?_
  refine lv_iconst (v := (nI 5)) hx hb dX4_act_4 (by decide) ?_
  refine lv_icmp_ne (tgt := 49) hx hb dX4_act_5 (by decide) (fun c_1 => ?_) (fun c_1 => ?_)
  · skip
    have c_1 : ¬ (pk = 5) := fun z => c_1 ((nI_eq (a := pk) (b := 5) (by omega) (by omega)).mpr z)
    obtain ⟨kk, pb, hM, hk4, hkp, hpb⟩ : ∃ kk pb, MO D T s.heap M v as pb kk bu bm bi at0 ∧ kk < 5 ∧ kk + 1 = kpt pk ∧ cpF pb (790 * kk) v 790 = acF v pa pk := ⟨pk, pa, hM, by omega, by rw [kpt_a (show pk < 5 by omega)], by unfold acF; rw [if_pos (show pk < 5 by omega), kpt_a (show pk < 5 by omega), Nat.add_sub_cancel]⟩
    refine lv_iconst (v := (nI 0)) hx hb dX4_act_49 (by decide) ?_
    refine lv_istore_n (lv' := [(1, .int (nI 0)), (0, .ref (M 0))]) hx hb dX4_act_50 rfl hl (by decide) rfl (fun ls hl => ?_)
    have loop51 : ∀ (n51 : Nat) (i : Nat) (hi : i ≤ 790) (H : Heap) (locs : List Loc) (hM : MO D T H M v (cpF as 0 v i) (cpF pb (790 * kk) v i) kk bu bm bi at0) (hS : va_S (fun q => ∃ i, i < 6 ∧ q = M i) s.heap H locs) (ls : Array Slot) (hl : lv_has ls 2 [(0, .ref (M 0)), (1, .int (nI i))]) (hn51 : 790 - i < n51), W pg l ev (headSpec wsX4_act ({ frames := 0, cells := 0, slots := 0, locals := 0 })).room s m ([.ref (M 0)] : List Value).toArray below meth c H locs 0 0 Q (F0 m 51 ls []) := by
      intro n51
      induction n51 with
      | zero =>
        intro i hi H locs hM hS ls hl hn51
        exact absurd hn51 (Nat.not_lt_zero _)
      | succ n51 ih51 =>
        intro i hi H locs hM hS ls hl hn51
        refine lv_iload_n hx hb dX4_act_51 rfl (lv_at hl 1 rfl) ?_
        refine lv_sipush (v := (nI 790)) hx hb dX4_act_52 (by decide) ?_
        refine lv_icmp_ge (tgt := 97) hx hb dX4_act_55 (by decide) (fun c_2 => ?_) (fun c_2 => ?_)
        · skip
          have c_2 : 790 ≤ i := (nI_leI (a := 790) (b := i) (by omega) (by omega)).mp c_2
          refine lv_aload_n hx hb dX4_act_97 rfl (lv_at hl 0 rfl) ?_
          refine lv_dup hx hb dX4_act_98 rfl ?_
          refine r_get (C := RX4) (Tb := TX4) (N := 8) hx hb hts in_wsX40 hown hK (hM.2.1) rfl 3 (by decide) (hts (.fieldLink RX4 33 "PieceSetsModel" "pastMany" "I") (by decide +kernel)) rfl (v := .int (nI kk)) rfl dX4_act_99 ?_
          refine lv_iconst (v := (nI 1)) hx hb dX4_act_102 (by decide) ?_
          refine lv_iadd hx hb dX4_act_103 ?_
          refine top_i (nI_add kk 1) ?_
          refine r_put (C := RX4) (Tb := TX4) (N := 8) hx hb hts in_wsX40 tyX4 tyX4_ok nmX4 hown hK hS (⟨0, by decide, rfl⟩) hM.2.1 rfl 3 (by decide) (hts (.fieldLink RX4 33 "PieceSetsModel" "pastMany" "I") (by decide +kernel)) rfl rfl (ty := .int) (by decide +kernel) rfl rfl (show (3 : Nat) < 8 by decide) dX4_act_104 (fun H_1 locs hat oq hS => ?_)
          have hM := hM.set0 (pk' := kk + 1) (bm' := bm) (at' := at0) hat (Fr.oq oq)
          subst hQ
          have hfin : MO D T H_1 M v v (acF v pa pk) (kpt pk) bu bm bi at0 := by
            rw [← hpb, ← hkp]
            rw [show i = 790 by omega] at hM
            exact hM.eqa (fun j hj => (cpF_i (by omega)).trans (by rw [Nat.sub_zero]))
          exact W.vret hx hb hr (fun t ht hW => ⟨⟨(), rfl, trivial, by have h9 := hfin; rw [← ht] at h9; exact h9⟩, hS.F ht⟩) hS.2.2 dX4_act_107
        · skip
          have c_2 : ¬ (790 ≤ i) := fun z => c_2 ((nI_leI (a := 790) (b := i) (by omega) (by omega)).mpr z)
          refine lv_aload_n hx hb dX4_act_58 rfl (lv_at hl 0 rfl) ?_
          refine r_get (C := RX4) (Tb := TX4) (N := 8) hx hb hts in_wsX40 hown hK (hM.2.1) rfl 2 (by decide) (hts (.fieldLink RX4 16 "PieceSetsModel" "past" "[I") (by decide +kernel)) rfl (v := .ref (M 3)) rfl dX4_act_59 ?_
          refine lv_sipush (v := (nI 790)) hx hb dX4_act_62 (by decide) ?_
          refine lv_aload_n hx hb dX4_act_65 rfl (lv_at hl 0 rfl) ?_
          refine r_get (C := RX4) (Tb := TX4) (N := 8) hx hb hts in_wsX40 hown hK (hM.2.1) rfl 3 (by decide) (hts (.fieldLink RX4 33 "PieceSetsModel" "pastMany" "I") (by decide +kernel)) rfl (v := .int (nI kk)) rfl dX4_act_66 ?_
          refine lv_imul hx hb dX4_act_69 ?_
          refine top_i (pk_mul 790 kk) ?_
          refine lv_iload_n hx hb dX4_act_70 rfl (lv_at hl 1 rfl) ?_
          refine lv_iadd hx hb dX4_act_71 ?_
          refine top_i (nI_add (790 * kk) i) ?_
          refine lv_aload_n hx hb dX4_act_72 rfl (lv_at hl 0 rfl) ?_
          refine r_get (C := RX4) (Tb := TX4) (N := 8) hx hb hts in_wsX40 hown hK (hM.2.1) rfl 0 (by decide) (hts (.fieldLink RX4 7 "PieceSetsModel" "v" "[I") (by decide +kernel)) rfl (v := .ref (M 1)) rfl dX4_act_73 ?_
          refine lv_iload_n hx hb dX4_act_76 rfl (lv_at hl 1 rfl) ?_
          refine r_iald hx hb hK (hM.2.2.1) (i := i) (by omega) (by decide) dX4_act_77 ?_
          refine r_iast hx hb hK hS (⟨3, by decide, rfl⟩) (hM.2.2.2.2.1) (i := (790 * kk) + i) (by omega) (by decide) dX4_act_78 (fun H_1 locs hat oq hS => ?_)
          have hM := (hM.set3 hat (Fr.oq oq)).eqp (g := (cpF pb (790 * kk) v (i + 1))) (fun j _ => cpF_s pb (790 * kk) v i j)
          refine lv_aload_n hx hb dX4_act_79 rfl (lv_at hl 0 rfl) ?_
          refine r_get (C := RX4) (Tb := TX4) (N := 8) hx hb hts in_wsX40 hown hK (hM.2.1) rfl 1 (by decide) (hts (.fieldLink RX4 13 "PieceSetsModel" "aside" "[I") (by decide +kernel)) rfl (v := .ref (M 2)) rfl dX4_act_80 ?_
          refine lv_iload_n hx hb dX4_act_83 rfl (lv_at hl 1 rfl) ?_
          refine lv_aload_n hx hb dX4_act_84 rfl (lv_at hl 0 rfl) ?_
          refine r_get (C := RX4) (Tb := TX4) (N := 8) hx hb hts in_wsX40 hown hK (hM.2.1) rfl 0 (by decide) (hts (.fieldLink RX4 7 "PieceSetsModel" "v" "[I") (by decide +kernel)) rfl (v := .ref (M 1)) rfl dX4_act_85 ?_
          refine lv_iload_n hx hb dX4_act_88 rfl (lv_at hl 1 rfl) ?_
          refine r_iald hx hb hK (hM.2.2.1) (i := i) (by omega) (by decide) dX4_act_89 ?_
          refine r_iast hx hb hK hS (⟨2, by decide, rfl⟩) (hM.2.2.2.1) (i := i) (by omega) (by decide) dX4_act_90 (fun H_2 locs hat oq hS => ?_)
          have hM := (hM.set2 hat (Fr.oq oq)).eqa (g := (cpF as 0 v (i + 1))) (fun j _ => by have h9 := cpF_s as 0 v i j; rw [Nat.zero_add] at h9; exact h9)
          refine lv_iinc (v := (nI (i + 1))) (lv' := [(1, .int (nI (i + 1))), (0, .ref (M 0))]) hx hb dX4_act_91 hl (k := 1) rfl (iinc_n i 1) (by decide) rfl (fun ls hl => ?_)
          refine lv_goto (tgt := 51) hx hb dX4_act_94 (by decide) ?_
          have hl := lv_sub hl (l' := [(0, .ref (M 0)), (1, .int (nI (i + 1)))]) [1, 0] rfl
          exact ih51 (i + 1) (by omega) H_2 _ hM hS ls hl (by omega)
    have hM := (hM.eqp (fun j _ => cpF_0 pb (790 * kk) v j)).eqa (fun j _ => cpF_0 as 0 v j)
    have hl := lv_sub hl (l' := [(0, .ref (M 0)), (1, .int (nI 0))]) [1, 0] rfl
    exact loop51 (790 - 0 + 1) 0 (Nat.zero_le _) s.heap _ hM hS ls hl (Nat.lt_succ_self _)
  · skip
    have c_1 : pk = 5 := (nI_eq (a := pk) (b := 5) (by omega) (by omega)).mp c_1
    refine lv_iconst (v := (nI 0)) hx hb dX4_act_8 (by decide) ?_
    refine lv_istore_n (lv' := [(1, .int (nI 0)), (0, .ref (M 0))]) hx hb dX4_act_9 rfl hl (by decide) rfl (fun ls hl => ?_)
    have loop10 : ∀ (n10 : Nat) (i : Nat) (hi : i ≤ 3160) (H : Heap) (locs : List Loc) (hM : MO D T H M v as (shF pa i) pk bu bm bi at0) (hS : va_S (fun q => ∃ i, i < 6 ∧ q = M i) s.heap H locs) (ls : Array Slot) (hl : lv_has ls 2 [(0, .ref (M 0)), (1, .int (nI i))]) (hn10 : 3160 - i < n10), W pg l ev (headSpec wsX4_act ({ frames := 0, cells := 0, slots := 0, locals := 0 })).room s m ([.ref (M 0)] : List Value).toArray below meth c H locs 0 0 Q (F0 m 10 ls []) := by
      intro n10
      induction n10 with
      | zero =>
        intro i hi H locs hM hS ls hl hn10
        exact absurd hn10 (Nat.not_lt_zero _)
      | succ n10 ih10 =>
        intro i hi H locs hM hS ls hl hn10
        refine lv_iload_n hx hb dX4_act_10 rfl (lv_at hl 1 rfl) ?_
        refine lv_sipush (v := (nI 3160)) hx hb dX4_act_11 (by decide) ?_
        refine lv_icmp_ge (tgt := 39) hx hb dX4_act_14 (by decide) (fun c_2 => ?_) (fun c_2 => ?_)
        · skip
          have c_2 : 3160 ≤ i := (nI_leI (a := 3160) (b := i) (by omega) (by omega)).mp c_2
          refine lv_aload_n hx hb dX4_act_39 rfl (lv_at hl 0 rfl) ?_
          refine lv_dup hx hb dX4_act_40 rfl ?_
          refine r_get (C := RX4) (Tb := TX4) (N := 8) hx hb hts in_wsX40 hown hK (hM.2.1) rfl 3 (by decide) (hts (.fieldLink RX4 33 "PieceSetsModel" "pastMany" "I") (by decide +kernel)) rfl (v := .int (nI pk)) rfl dX4_act_41 ?_
          refine lv_iconst (v := (nI 1)) hx hb dX4_act_44 (by decide) ?_
          refine lv_isub hx hb dX4_act_45 ?_
          refine top_i (pk_sub (a := pk) (b := 1) (by omega)) ?_
          refine r_put (C := RX4) (Tb := TX4) (N := 8) hx hb hts in_wsX40 tyX4 tyX4_ok nmX4 hown hK hS (⟨0, by decide, rfl⟩) hM.2.1 rfl 3 (by decide) (hts (.fieldLink RX4 33 "PieceSetsModel" "pastMany" "I") (by decide +kernel)) rfl rfl (ty := .int) (by decide +kernel) rfl rfl (show (3 : Nat) < 8 by decide) dX4_act_46 (fun H_1 locs hat oq hS => ?_)
          have hM := hM.set0 (pk' := pk - 1) (bm' := bm) (at' := at0) hat (Fr.oq oq)
          obtain ⟨kk, pb, hM, hk4, hkp, hpb⟩ : ∃ kk pb, MO D T H_1 M v as pb kk bu bm bi at0 ∧ kk < 5 ∧ kk + 1 = kpt pk ∧ cpF pb (790 * kk) v 790 = acF v pa pk := ⟨pk - 1, shF pa 3160, by rw [show i = 3160 by omega] at hM; exact hM, by omega, by rw [kpt_b (show ¬ pk < 5 by omega)]; omega, by unfold acF; rw [if_neg (show ¬ pk < 5 by omega), kpt_b (show ¬ pk < 5 by omega), show 790 * (pk - 1) = 790 * (5 - 1) by omega]⟩
          refine lv_iconst (v := (nI 0)) hx hb dX4_act_49 (by decide) ?_
          refine lv_istore_n (lv' := [(1, .int (nI 0)), (0, .ref (M 0))]) hx hb dX4_act_50 rfl hl (by decide) rfl (fun ls hl => ?_)
          have loop51 : ∀ (n51 : Nat) (i : Nat) (hi : i ≤ 790) (H : Heap) (locs : List Loc) (hM : MO D T H M v (cpF as 0 v i) (cpF pb (790 * kk) v i) kk bu bm bi at0) (hS : va_S (fun q => ∃ i, i < 6 ∧ q = M i) s.heap H locs) (ls : Array Slot) (hl : lv_has ls 2 [(0, .ref (M 0)), (1, .int (nI i))]) (hn51 : 790 - i < n51), W pg l ev (headSpec wsX4_act ({ frames := 0, cells := 0, slots := 0, locals := 0 })).room s m ([.ref (M 0)] : List Value).toArray below meth c H locs 0 0 Q (F0 m 51 ls []) := by
            intro n51
            induction n51 with
            | zero =>
              intro i hi H locs hM hS ls hl hn51
              exact absurd hn51 (Nat.not_lt_zero _)
            | succ n51 ih51 =>
              intro i hi H locs hM hS ls hl hn51
              refine lv_iload_n hx hb dX4_act_51 rfl (lv_at hl 1 rfl) ?_
              refine lv_sipush (v := (nI 790)) hx hb dX4_act_52 (by decide) ?_
              refine lv_icmp_ge (tgt := 97) hx hb dX4_act_55 (by decide) (fun c_3 => ?_) (fun c_3 => ?_)
              · skip
                have c_3 : 790 ≤ i := (nI_leI (a := 790) (b := i) (by omega) (by omega)).mp c_3
                refine lv_aload_n hx hb dX4_act_97 rfl (lv_at hl 0 rfl) ?_
                refine lv_dup hx hb dX4_act_98 rfl ?_
                refine r_get (C := RX4) (Tb := TX4) (N := 8) hx hb hts in_wsX40 hown hK (hM.2.1) rfl 3 (by decide) (hts (.fieldLink RX4 33 "PieceSetsModel" "pastMany" "I") (by decide +kernel)) rfl (v := .int (nI kk)) rfl dX4_act_99 ?_
                refine lv_iconst (v := (nI 1)) hx hb dX4_act_102 (by decide) ?_
                refine lv_iadd hx hb dX4_act_103 ?_
                refine top_i (nI_add kk 1) ?_
                refine r_put (C := RX4) (Tb := TX4) (N := 8) hx hb hts in_wsX40 tyX4 tyX4_ok nmX4 hown hK hS (⟨0, by decide, rfl⟩) hM.2.1 rfl 3 (by decide) (hts (.fieldLink RX4 33 "PieceSetsModel" "pastMany" "I") (by decide +kernel)) rfl rfl (ty := .int) (by decide +kernel) rfl rfl (show (3 : Nat) < 8 by decide) dX4_act_104 (fun H_2 locs hat oq hS => ?_)
                have hM := hM.set0 (pk' := kk + 1) (bm' := bm) (at' := at0) hat (Fr.oq oq)
                subst hQ
                have hfin : MO D T H_2 M v v (acF v pa pk) (kpt pk) bu bm bi at0 := by
                  rw [← hpb, ← hkp]
                  rw [show i = 790 by omega] at hM
                  exact hM.eqa (fun j hj => (cpF_i (by omega)).trans (by rw [Nat.sub_zero]))
                exact W.vret hx hb hr (fun t ht hW => ⟨⟨(), rfl, trivial, by have h9 := hfin; rw [← ht] at h9; exact h9⟩, hS.F ht⟩) hS.2.2 dX4_act_107
              · skip
                have c_3 : ¬ (790 ≤ i) := fun z => c_3 ((nI_leI (a := 790) (b := i) (by omega) (by omega)).mpr z)
                refine lv_aload_n hx hb dX4_act_58 rfl (lv_at hl 0 rfl) ?_
                refine r_get (C := RX4) (Tb := TX4) (N := 8) hx hb hts in_wsX40 hown hK (hM.2.1) rfl 2 (by decide) (hts (.fieldLink RX4 16 "PieceSetsModel" "past" "[I") (by decide +kernel)) rfl (v := .ref (M 3)) rfl dX4_act_59 ?_
                refine lv_sipush (v := (nI 790)) hx hb dX4_act_62 (by decide) ?_
                refine lv_aload_n hx hb dX4_act_65 rfl (lv_at hl 0 rfl) ?_
                refine r_get (C := RX4) (Tb := TX4) (N := 8) hx hb hts in_wsX40 hown hK (hM.2.1) rfl 3 (by decide) (hts (.fieldLink RX4 33 "PieceSetsModel" "pastMany" "I") (by decide +kernel)) rfl (v := .int (nI kk)) rfl dX4_act_66 ?_
                refine lv_imul hx hb dX4_act_69 ?_
                refine top_i (pk_mul 790 kk) ?_
                refine lv_iload_n hx hb dX4_act_70 rfl (lv_at hl 1 rfl) ?_
                refine lv_iadd hx hb dX4_act_71 ?_
                refine top_i (nI_add (790 * kk) i) ?_
                refine lv_aload_n hx hb dX4_act_72 rfl (lv_at hl 0 rfl) ?_
                refine r_get (C := RX4) (Tb := TX4) (N := 8) hx hb hts in_wsX40 hown hK (hM.2.1) rfl 0 (by decide) (hts (.fieldLink RX4 7 "PieceSetsModel" "v" "[I") (by decide +kernel)) rfl (v := .ref (M 1)) rfl dX4_act_73 ?_
                refine lv_iload_n hx hb dX4_act_76 rfl (lv_at hl 1 rfl) ?_
                refine r_iald hx hb hK (hM.2.2.1) (i := i) (by omega) (by decide) dX4_act_77 ?_
                refine r_iast hx hb hK hS (⟨3, by decide, rfl⟩) (hM.2.2.2.2.1) (i := (790 * kk) + i) (by omega) (by decide) dX4_act_78 (fun H_2 locs hat oq hS => ?_)
                have hM := (hM.set3 hat (Fr.oq oq)).eqp (g := (cpF pb (790 * kk) v (i + 1))) (fun j _ => cpF_s pb (790 * kk) v i j)
                refine lv_aload_n hx hb dX4_act_79 rfl (lv_at hl 0 rfl) ?_
                refine r_get (C := RX4) (Tb := TX4) (N := 8) hx hb hts in_wsX40 hown hK (hM.2.1) rfl 1 (by decide) (hts (.fieldLink RX4 13 "PieceSetsModel" "aside" "[I") (by decide +kernel)) rfl (v := .ref (M 2)) rfl dX4_act_80 ?_
                refine lv_iload_n hx hb dX4_act_83 rfl (lv_at hl 1 rfl) ?_
                refine lv_aload_n hx hb dX4_act_84 rfl (lv_at hl 0 rfl) ?_
                refine r_get (C := RX4) (Tb := TX4) (N := 8) hx hb hts in_wsX40 hown hK (hM.2.1) rfl 0 (by decide) (hts (.fieldLink RX4 7 "PieceSetsModel" "v" "[I") (by decide +kernel)) rfl (v := .ref (M 1)) rfl dX4_act_85 ?_
                refine lv_iload_n hx hb dX4_act_88 rfl (lv_at hl 1 rfl) ?_
                refine r_iald hx hb hK (hM.2.2.1) (i := i) (by omega) (by decide) dX4_act_89 ?_
                refine r_iast hx hb hK hS (⟨2, by decide, rfl⟩) (hM.2.2.2.1) (i := i) (by omega) (by decide) dX4_act_90 (fun H_3 locs hat oq hS => ?_)
                have hM := (hM.set2 hat (Fr.oq oq)).eqa (g := (cpF as 0 v (i + 1))) (fun j _ => by have h9 := cpF_s as 0 v i j; rw [Nat.zero_add] at h9; exact h9)
                refine lv_iinc (v := (nI (i + 1))) (lv' := [(1, .int (nI (i + 1))), (0, .ref (M 0))]) hx hb dX4_act_91 hl (k := 1) rfl (iinc_n i 1) (by decide) rfl (fun ls hl => ?_)
                refine lv_goto (tgt := 51) hx hb dX4_act_94 (by decide) ?_
                have hl := lv_sub hl (l' := [(0, .ref (M 0)), (1, .int (nI (i + 1)))]) [1, 0] rfl
                exact ih51 (i + 1) (by omega) H_3 _ hM hS ls hl (by omega)
          have hM := (hM.eqp (fun j _ => cpF_0 pb (790 * kk) v j)).eqa (fun j _ => cpF_0 as 0 v j)
          have hl := lv_sub hl (l' := [(0, .ref (M 0)), (1, .int (nI 0))]) [1, 0] rfl
          exact loop51 (790 - 0 + 1) 0 (Nat.zero_le _) H_1 _ hM hS ls hl (Nat.lt_succ_self _)
        · skip
          have c_2 : ¬ (3160 ≤ i) := fun z => c_2 ((nI_leI (a := 3160) (b := i) (by omega) (by omega)).mpr z)
          refine lv_aload_n hx hb dX4_act_17 rfl (lv_at hl 0 rfl) ?_
          refine r_get (C := RX4) (Tb := TX4) (N := 8) hx hb hts in_wsX40 hown hK (hM.2.1) rfl 2 (by decide) (hts (.fieldLink RX4 16 "PieceSetsModel" "past" "[I") (by decide +kernel)) rfl (v := .ref (M 3)) rfl dX4_act_18 ?_
          refine lv_iload_n hx hb dX4_act_21 rfl (lv_at hl 1 rfl) ?_
          refine lv_aload_n hx hb dX4_act_22 rfl (lv_at hl 0 rfl) ?_
          refine r_get (C := RX4) (Tb := TX4) (N := 8) hx hb hts in_wsX40 hown hK (hM.2.1) rfl 2 (by decide) (hts (.fieldLink RX4 16 "PieceSetsModel" "past" "[I") (by decide +kernel)) rfl (v := .ref (M 3)) rfl dX4_act_23 ?_
          refine lv_iload_n hx hb dX4_act_26 rfl (lv_at hl 1 rfl) ?_
          refine lv_sipush (v := (nI 790)) hx hb dX4_act_27 (by decide) ?_
          refine lv_iadd hx hb dX4_act_30 ?_
          refine top_i (nI_add i 790) ?_
          refine r_iald hx hb hK (hM.2.2.2.2.1) (i := i + 790) (by omega) (by decide) dX4_act_31 ?_
          refine r_iast hx hb hK hS (⟨3, by decide, rfl⟩) (hM.2.2.2.2.1) (i := i) (by omega) (by decide) dX4_act_32 (fun H_1 locs hat oq hS => ?_)
          have hM := (hM.set3 hat (Fr.oq oq)).eqp (g := (shF pa (i + 1))) (fun j _ => shF_s pa i j)
          refine lv_iinc (v := (nI (i + 1))) (lv' := [(1, .int (nI (i + 1))), (0, .ref (M 0))]) hx hb dX4_act_33 hl (k := 1) rfl (iinc_n i 1) (by decide) rfl (fun ls hl => ?_)
          refine lv_goto (tgt := 10) hx hb dX4_act_36 (by decide) ?_
          have hl := lv_sub hl (l' := [(0, .ref (M 0)), (1, .int (nI (i + 1)))]) [1, 0] rfl
          exact ih10 (i + 1) (by omega) H_1 _ hM hS ls hl (by omega)
    have hM := hM.eqp (fun j _ => shF_0 pa j)
    have hl := lv_sub hl (l' := [(0, .ref (M 0)), (1, .int (nI 0))]) [1, 0] rfl
    exact loop10 (3160 - 0 + 1) 0 (Nat.zero_le _) s.heap _ hM hS ls hl (Nat.lt_succ_self _)
set_option maxHeartbeats 1000000 in
set_option maxRecDepth 100000 in
theorem k_X4_converts (l : Launch) (D : va_G) (T : Nat → ClassId) (M : Nat → Nat) (v : Nat → Int32) (as : Nat → Int32) (pa : Nat → Int32) (pk : Nat) (bu : Nat → Int32) (bm : Nat) (bi : Nat → Int32) (at0 : Nat) (ss : Nat) (hs : ss < 6) : Met l yX4_converts wsX4_converts ({ frames := 3, cells := 0, slots := 0, locals := 68 }) (va_Pc [.ref (M 0), .int (nI ss)] (fun U => KS D T U ∧ MO D T U.heap M v as pa pk bu bm bi at0)) (va_Qv (fun (u : Unit) => True) (fun u t => MO D T t.heap M (cvU as v ss 16) as pa pk bu bm bi at0) (fun q => q = M 1)) 0 0 (fun q => q = M 1) := by
  refine Met.ofW (cc := cX4_converts) (maxL := 5) (ret := none) (by decide) rfl ?_
  intro pg ev s m args below meth c s₁ B hml hv
  obtain ⟨rfl, hK, hH⟩ := hv
  have hx := B.exec
  have hb := B.bytes
  have hr := B.returns
  have hts := atoms_spec (ws := wsX4_converts) B.pre
  have hown : s.vm.findClass RX4 = some m.cls := findClass_of_methodNamed B.named
  have hlocks := B.notSynchronized
  have in_wsX40 : ∀ w ∈ wsX40, w ∈ wsX4_converts := fun w h => List.mem_cons_of_mem _ (List.mem_append_right _ h)
  have hS : va_S (fun q => q = M 1) s.heap s.heap [] := va_S.rf
  have hl := lv_entry ([.ref (M 0), .int (nI ss)]) (n := 5) (Nat.le_of_ble_eq_true rfl)
  rw [lg_entry_eq]
  generalize (lg_sl ([.ref (M 0), .int (nI ss)]) ++ List.replicate (5 - (lg_sl ([.ref (M 0), .int (nI ss)])).length) Slot.unset).toArray = ls at hl ⊢
  have hl : lv_has ls 5 [(0, .ref (M 0)), (1, .int (nI ss))] := hl
  refine W_gen (fun Q hQ => ?_)
  have hM := hH
  refine lv_iconst (v := (nI 0)) hx hb dX4_converts_0 (by decide) ?_
  refine lv_istore_n (lv' := [(2, .int (nI 0)), (0, .ref (M 0)), (1, .int (nI ss))]) hx hb dX4_converts_1 rfl hl (by decide) rfl (fun ls hl => ?_)
  have loop2 : ∀ (n2 : Nat) (i : Nat) (hi : i ≤ 16) (H : Heap) (locs : List Loc) (hM : MO D T H M (cvU as v ss i) as pa pk bu bm bi at0) (hS : va_S (fun q => q = M 1) s.heap H locs) (ls : Array Slot) (hl : lv_has ls 5 [(0, .ref (M 0)), (1, .int (nI ss)), (2, .int (nI i))]) (hn2 : 16 - i < n2), W pg l ev (headSpec wsX4_converts ({ frames := 3, cells := 0, slots := 0, locals := 68 })).room s m ([.ref (M 0), .int (nI ss)] : List Value).toArray below meth c H locs 0 0 Q (F0 m 2 ls []) := by
    intro n2
    induction n2 with
    | zero =>
      intro i hi H locs hM hS ls hl hn2
      exact absurd hn2 (Nat.not_lt_zero _)
    | succ n2 ih2 =>
      intro i hi H locs hM hS ls hl hn2
      refine lv_iload_n hx hb dX4_converts_2 rfl (lv_at hl 2 rfl) ?_
      refine lv_bipush (v := (nI 16)) hx hb dX4_converts_3 (by decide) ?_
      refine lv_icmp_ge (tgt := 69) hx hb dX4_converts_5 (by decide) (fun c_1 => ?_) (fun c_1 => ?_)
      · skip
        have c_1 : 16 ≤ i := (nI_leI (a := 16) (b := i) (by omega) (by omega)).mp c_1
        subst hQ
        rw [show i = 16 by omega] at hM
        exact W.vret hx hb hr (fun t ht hW => ⟨⟨(), rfl, trivial, by have h9 := hM; rw [← ht] at h9; exact h9⟩, hS.F ht⟩) hS.2.2 dX4_converts_69
      · skip
        have c_1 : ¬ (16 ≤ i) := fun z => c_1 ((nI_leI (a := 16) (b := i) (by omega) (by omega)).mpr z)
        refine lv_aload_n hx hb dX4_converts_8 rfl (lv_at hl 0 rfl) ?_
        refine r_get (C := RX4) (Tb := TX4) (N := 8) hx hb hts in_wsX40 hown hK (hM.2.1) rfl 1 (by decide) (hts (.fieldLink RX4 13 "PieceSetsModel" "aside" "[I") (by decide +kernel)) rfl (v := .ref (M 2)) rfl dX4_converts_9 ?_
        refine lv_iload_n hx hb dX4_converts_12 rfl (lv_at hl 1 rfl) ?_
        refine lv_iload_n hx hb dX4_converts_13 rfl (lv_at hl 2 rfl) ?_
        refine vp_callSi (va_Run.run (va_runS (As := [.ref (M 2), .int (nI ss), .int (nI i)]) (rest := []) ⟨hx, hb, hml, hown, hts⟩ (k_X4_kindIn l D T (M 2) as ss i (by omega) (by omega)) (va_cwS 3 hts gX4_converts_X4_kindIn rfl rfl rfl (by decide +kernel) ⟨Nat.le_of_ble_eq_true rfl, Nat.le_of_ble_eq_true rfl⟩) (pre_S (Φ := fun X => va_at D vwCl ((M 2), eI T 790 as) X) hK hM.2.2.2.1) rfl rfl hl.1 rfl (lv_room (Nat.le_of_ble_eq_true rfl)) dX4_converts_14 ⟨Nat.le_of_ble_eq_true rfl, Nat.le_of_ble_eq_true rfl⟩)) (fun r_1 hr_1 => ?_)
        subst hr_1
        refine lv_istore_n (lv' := [(3, .int (pkd (bI as ss) i)), (0, .ref (M 0)), (1, .int (nI ss)), (2, .int (nI i))]) hx hb dX4_converts_17 rfl hl (by decide) rfl (fun ls hl => ?_)
        refine lv_aload_n hx hb dX4_converts_18 rfl (lv_at hl 1 rfl) ?_
        refine r_get (C := RX4) (Tb := TX4) (N := 8) hx hb hts in_wsX40 hown hK (hM.2.1) rfl 0 (by decide) (hts (.fieldLink RX4 7 "PieceSetsModel" "v" "[I") (by decide +kernel)) rfl (v := .ref (M 1)) rfl dX4_converts_19 ?_
        refine lv_iload_n hx hb dX4_converts_22 rfl (lv_at hl 2 rfl) ?_
        refine lv_iload_n hx hb dX4_converts_23 rfl (lv_at hl 3 rfl) ?_
        refine vp_callSi (va_Run.run (va_runS (As := [.ref (M 1), .int (nI ss), .int (nI i)]) (rest := []) ⟨hx, hb, hml, hown, hts⟩ (k_X4_kindIn l D T (M 1) (cvU as v ss i) ss i (by omega) (by omega)) (va_cwS 3 hts gX4_converts_X4_kindIn rfl rfl rfl (by decide +kernel) ⟨Nat.le_of_ble_eq_true rfl, Nat.le_of_ble_eq_true rfl⟩) (pre_S (Φ := fun X => va_at D vwCl ((M 1), eI T 790 (cvU as v ss i)) X) hK hM.2.2.1) rfl rfl hl.1 rfl (lv_room (Nat.le_of_ble_eq_true rfl)) dX4_converts_24 ⟨Nat.le_of_ble_eq_true rfl, Nat.le_of_ble_eq_true rfl⟩)) (fun r_2 hr_2 => ?_)
        subst hr_2
        refine top_i (x' := (pkd (bI v ss) i)) (pkd_cong (in4 (bI_cvU hs) (by omega))) ?_
        refine lv_istore (lv' := [(4, .int (pkd (bI v ss) i)), (3, .int (pkd (bI as ss) i)), (0, .ref (M 0)), (1, .int (nI ss)), (2, .int (nI i))]) hx hb dX4_converts_27 hl (by decide) rfl (fun ls hl => ?_)
        refine lv_iload_n hx hb dX4_converts_29 rfl (lv_at hl 1 rfl) ?_
        refine lv_if_lt (tgt := 63) hx hb dX4_converts_30 (by decide) (fun c_2 => ?_) (fun c_2 => ?_)
        · skip
          refine lv_iinc (v := (nI (i + 1))) (lv' := [(2, .int (nI (i + 1))), (4, .int (pkd (bI v ss) i)), (3, .int (pkd (bI as ss) i)), (0, .ref (M 0)), (1, .int (nI ss))]) hx hb dX4_converts_63 hl (k := 4) rfl (iinc_n i 1) (by decide) rfl (fun ls hl => ?_)
          refine lv_goto (tgt := 2) hx hb dX4_converts_66 (by decide) ?_
          have hM := hM.eqv (fun j _ => cvU_s0 (fun z => z.1 (pkd_neg c_2)) j)
          have hl := lv_sub hl (l' := [(0, .ref (M 0)), (1, .int (nI ss)), (2, .int (nI (i + 1)))]) [3, 4, 0] rfl
          exact ih2 (i + 1) (by omega) H _ hM hS ls hl (by omega)
        · skip
          refine lv_iload hx hb dX4_converts_33 (lv_at hl 0 rfl) ?_
          refine lv_if_lt (tgt := 63) hx hb dX4_converts_35 (by decide) (fun c_3 => ?_) (fun c_3 => ?_)
          · skip
            refine lv_iinc (v := (nI (i + 1))) (lv' := [(2, .int (nI (i + 1))), (4, .int (pkd (bI v ss) i)), (3, .int (pkd (bI as ss) i)), (0, .ref (M 0)), (1, .int (nI ss))]) hx hb dX4_converts_63 hl (k := 4) rfl (iinc_n i 1) (by decide) rfl (fun ls hl => ?_)
            refine lv_goto (tgt := 2) hx hb dX4_converts_66 (by decide) ?_
            have hM := hM.eqv (fun j _ => cvU_s0 (fun z => z.2.1 (pkd_neg c_3)) j)
            have hl := lv_sub hl (l' := [(0, .ref (M 0)), (1, .int (nI ss)), (2, .int (nI (i + 1)))]) [3, 4, 0] rfl
            exact ih2 (i + 1) (by omega) H _ hM hS ls hl (by omega)
          · skip
            have hp1 := pkd_pos c_2
            have hp2 := pkd_pos c_3
            have hk1 := kk_lt (bI as ss) i
            have hk2 := kk_lt (bI v ss) i
            have k_1 : pkd (bI as ss) i = nI (kk (bI as ss) i) := pkd_n hp1
            have hl : lv_has ls 5 [(4, .int (pkd (bI v ss) i)), (3, .int (nI (kk (bI as ss) i))), (0, .ref (M 0)), (1, .int (nI ss)), (2, .int (nI i))] := by have h := hl; rw [k_1] at h; exact h
            have k_2 : pkd (bI v ss) i = nI (kk (bI v ss) i) := pkd_n hp2
            have hl : lv_has ls 5 [(4, .int (nI (kk (bI v ss) i))), (3, .int (nI (kk (bI as ss) i))), (0, .ref (M 0)), (1, .int (nI ss)), (2, .int (nI i))] := by have h := hl; rw [k_2] at h; exact h
            refine lv_iload_n hx hb dX4_converts_38 rfl (lv_at hl 1 rfl) ?_
            refine lv_iload hx hb dX4_converts_39 (lv_at hl 0 rfl) ?_
            refine lv_icmp_eq (tgt := 63) hx hb dX4_converts_41 (by decide) (fun c_4 => ?_) (fun c_4 => ?_)
            · skip
              have c_4 : (kk (bI as ss) i) = (kk (bI v ss) i) := (nI_eq (a := (kk (bI as ss) i)) (b := (kk (bI v ss) i)) (by omega) (by omega)).mp c_4
              refine lv_iinc (v := (nI (i + 1))) (lv' := [(2, .int (nI (i + 1))), (4, .int (nI (kk (bI v ss) i))), (3, .int (nI (kk (bI as ss) i))), (0, .ref (M 0)), (1, .int (nI ss))]) hx hb dX4_converts_63 hl (k := 4) rfl (iinc_n i 1) (by decide) rfl (fun ls hl => ?_)
              refine lv_goto (tgt := 2) hx hb dX4_converts_66 (by decide) ?_
              have hM := hM.eqv (fun j _ => cvU_s0 (fun z => z.2.2 c_4) j)
              have hl := lv_sub hl (l' := [(0, .ref (M 0)), (1, .int (nI ss)), (2, .int (nI (i + 1)))]) [3, 4, 0] rfl
              exact ih2 (i + 1) (by omega) H _ hM hS ls hl (by omega)
            · skip
              have c_4 : ¬ ((kk (bI as ss) i) = (kk (bI v ss) i)) := fun z => c_4 ((nI_eq (a := (kk (bI as ss) i)) (b := (kk (bI v ss) i)) (by omega) (by omega)).mpr z)
              refine lv_aload_n hx hb dX4_converts_44 rfl (lv_at hl 2 rfl) ?_
              refine r_get (C := RX4) (Tb := TX4) (N := 8) hx hb hts in_wsX40 hown hK (hM.2.1) rfl 0 (by decide) (hts (.fieldLink RX4 7 "PieceSetsModel" "v" "[I") (by decide +kernel)) rfl (v := .ref (M 1)) rfl dX4_converts_45 ?_
              refine lv_sipush (v := (nI 777)) hx hb dX4_converts_48 (by decide) ?_
              refine lv_iconst (v := (nI 3)) hx hb dX4_converts_51 (by decide) ?_
              refine lv_iload_n hx hb dX4_converts_52 rfl (lv_at hl 1 rfl) ?_
              refine lv_imul hx hb dX4_converts_53 ?_
              refine top_i (pk_mul 3 (kk (bI as ss) i)) ?_
              refine lv_iadd hx hb dX4_converts_54 ?_
              refine top_i (nI_add 777 (3 * (kk (bI as ss) i))) ?_
              refine lv_iload hx hb dX4_converts_55 (lv_at hl 0 rfl) ?_
              refine lv_iadd hx hb dX4_converts_57 ?_
              refine top_i (nI_add (777 + (3 * (kk (bI as ss) i))) (kk (bI v ss) i)) ?_
              refine lv_dup2_11 hx hb dX4_converts_58 rfl rfl ?_
              refine r_iald hx hb hK (hM.2.2.1) (i := (777 + (3 * (kk (bI as ss) i))) + (kk (bI v ss) i)) (by omega) (by decide) dX4_converts_59 ?_
              refine lv_iconst (v := (nI 1)) hx hb dX4_converts_60 (by decide) ?_
              refine lv_iadd hx hb dX4_converts_61 ?_
              refine r_iast hx hb hK hS (rfl) (hM.2.2.1) (i := (777 + (3 * (kk (bI as ss) i))) + (kk (bI v ss) i)) (by omega) (by decide) dX4_converts_62 (fun H_1 locs hat oq hS => ?_)
              have hM := (hM.set1 hat (Fr.oq oq)).eqv (g := (cvU as v ss (i + 1))) (fun j _ => cvU_s1 ⟨hp1, hp2, c_4⟩ j)
              refine lv_iinc (v := (nI (i + 1))) (lv' := [(2, .int (nI (i + 1))), (4, .int (nI (kk (bI v ss) i))), (3, .int (nI (kk (bI as ss) i))), (0, .ref (M 0)), (1, .int (nI ss))]) hx hb dX4_converts_63 hl (k := 4) rfl (iinc_n i 1) (by decide) rfl (fun ls hl => ?_)
              refine lv_goto (tgt := 2) hx hb dX4_converts_66 (by decide) ?_
              have hl := lv_sub hl (l' := [(0, .ref (M 0)), (1, .int (nI ss)), (2, .int (nI (i + 1)))]) [3, 4, 0] rfl
              exact ih2 (i + 1) (by omega) H_1 _ hM hS ls hl (by omega)
  have hM := hM.eqv (fun j _ => cvU_0 (as := as) (s := ss) j)
  have hl := lv_sub hl (l' := [(0, .ref (M 0)), (1, .int (nI ss)), (2, .int (nI 0))]) [1, 2, 0] rfl
  exact loop2 (16 - 0 + 1) 0 (Nat.zero_le _) s.heap _ hM hS ls hl (Nat.lt_succ_self _)
set_option maxHeartbeats 1000000 in
set_option maxRecDepth 100000 in
theorem k_X4_turns (l : Launch) (D : va_G) (T : Nat → ClassId) (M : Nat → Nat) (Sy : Nat → Prop) (fi : FS) (ss : Nat) (fN : Nat) (tN : Nat) (how : Nat) (hs : ss < 6) (hft : fN ≤ tN) (ht4 : tN < 4096) (hho : how < 3) : Met l yX4_turns wsX4_turns ({ frames := 4, cells := 0, slots := 0, locals := 92 }) (va_Pc [.ref (M 0), .int (nI ss), .int (nI fN), .int (nI tN), .int (nI how)] (fun U => KS D T U ∧ MSE D T U.heap M Sy fi)) (va_Qi (fun (r : Int32) (u : Unit) => r = (nI (ct (fi.1.1 ss) fN (tN - fN + 1)))) (fun u t => MSE D T t.heap M Sy (actF fi ss (tnB how (fi.1.1 ss) fN tN))) (Sy)) 0 0 (Sy) := by
  refine Met.ofW (cc := cX4_turns) (maxL := 7) (ret := (some .int)) (by decide) rfl ?_
  intro pg ev s m args below meth c s₁ B hml hv
  obtain ⟨rfl, hK, hH⟩ := hv
  have hx := B.exec
  have hb := B.bytes
  have hr := B.returns
  have hts := atoms_spec (ws := wsX4_turns) B.pre
  have hown : s.vm.findClass RX4 = some m.cls := findClass_of_methodNamed B.named
  have hlocks := B.notSynchronized
  have in_wsX40 : ∀ w ∈ wsX40, w ∈ wsX4_turns := fun w h => List.mem_cons_of_mem _ (List.mem_append_right _ h)
  have hS : va_S (Sy) s.heap s.heap [] := va_S.rf
  have hl := lv_entry ([.ref (M 0), .int (nI ss), .int (nI fN), .int (nI tN), .int (nI how)]) (n := 7) (Nat.le_of_ble_eq_true rfl)
  rw [lg_entry_eq]
  generalize (lg_sl ([.ref (M 0), .int (nI ss), .int (nI fN), .int (nI tN), .int (nI how)]) ++ List.replicate (7 - (lg_sl ([.ref (M 0), .int (nI ss), .int (nI fN), .int (nI tN), .int (nI how)])).length) Slot.unset).toArray = ls at hl ⊢
  have hl : lv_has ls 7 [(0, .ref (M 0)), (1, .int (nI ss)), (2, .int (nI fN)), (3, .int (nI tN)), (4, .int (nI how))] := hl
  refine W_gen (fun Q hQ => ?_)
  obtain ⟨v, as, pa, bi, at0, hM, hSy, hrb, hbl, hk5, hR0, hRh⟩ := id hH
  refine lv_aload_n hx hb dX4_turns_0 rfl (lv_at hl 0 rfl) ?_
  refine va_callv (va_runV (As := []) (rest := []) ⟨hx, hb, hml, hown, hts⟩ (k_X4_act l D T M v as pa fi.2.2.1 (buF fi) fi.2.2.2.2 bi at0 (hk5)) (cwV 0 hts gX4_turns_X4_act rfl rfl rfl (by decide +kernel) ⟨Nat.le_of_ble_eq_true rfl, Nat.le_of_ble_eq_true rfl⟩) (pre_V (Φ := fun X => MO D T X M v as pa fi.2.2.1 (buF fi) fi.2.2.2.2 bi at0) hK (hM.2.1) rfl hM) rfl rfl hl.1 rfl (lv_room (Nat.le_of_ble_eq_true rfl)) dX4_turns_1 ⟨Nat.le_of_ble_eq_true rfl, Nat.le_of_ble_eq_true rfl⟩) hS (fun q _ h => by obtain ⟨i, h1, h2⟩ := h; rw [h2]; exact hSy i h1) (fun q h => by obtain ⟨i, h1, h2⟩ := h; rw [h2]; exact hSy i h1) (fun u_1 t H_1 locs ht hvm hw hB hz hk hS => ?_)
  rw [ht] at hB
  try dsimp only at hw
  try dsimp only at hB
  have hM := hB
  refine lv_iconst (v := (nI 0)) hx hb dX4_turns_4 (by decide) ?_
  refine lv_istore (lv' := [(5, .int (nI 0)), (0, .ref (M 0)), (1, .int (nI ss)), (2, .int (nI fN)), (3, .int (nI tN)), (4, .int (nI how))]) hx hb dX4_turns_5 hl (by decide) rfl (fun ls hl => ?_)
  refine lv_iload_n hx hb dX4_turns_7 rfl (lv_at hl 3 rfl) ?_
  refine lv_istore (lv' := [(6, .int (nI fN)), (5, .int (nI 0)), (0, .ref (M 0)), (1, .int (nI ss)), (2, .int (nI fN)), (3, .int (nI tN)), (4, .int (nI how))]) hx hb dX4_turns_8 hl (by decide) rfl (fun ls hl => ?_)
  have loop10 : ∀ (n10 : Nat) (x : Nat) (w9 : Nat → Int32) (hfx : fN ≤ x) (hxt : x ≤ tN + 1) (hv9 : ∀ t', t' < 6 → ∀ y, y < 4096 → bI w9 t' y = if t' = ss ∧ fN ≤ y ∧ y < x then tbv how (bI v ss y) else bI v t' y) (hmm : ∀ j, 768 ≤ j → w9 j = v j) (H : Heap) (locs : List Loc) (hM : MO D T H M w9 v (acF v pa fi.2.2.1) (kpt fi.2.2.1) (buF fi) fi.2.2.2.2 bi at0) (hS : va_S (Sy) s.heap H locs) (ls : Array Slot) (hl : lv_has ls 7 [(0, .ref (M 0)), (1, .int (nI ss)), (2, .int (nI fN)), (3, .int (nI tN)), (4, .int (nI how)), (5, .int (nI (ct (bI v ss) fN (x - fN)))), (6, .int (nI x))]) (hn10 : tN + 1 - x < n10), W pg l ev (headSpec wsX4_turns ({ frames := 4, cells := 0, slots := 0, locals := 92 })).room s m ([.ref (M 0), .int (nI ss), .int (nI fN), .int (nI tN), .int (nI how)] : List Value).toArray below meth c H locs 0 0 Q (F0 m 10 ls []) := by
    intro n10
    induction n10 with
    | zero =>
      intro x w9 hfx hxt hv9 hmm H locs hM hS ls hl hn10
      exact absurd hn10 (Nat.not_lt_zero _)
    | succ n10 ih10 =>
      intro x w9 hfx hxt hv9 hmm H locs hM hS ls hl hn10
      refine lv_iload hx hb dX4_turns_10 (lv_at hl 6 rfl) ?_
      refine lv_iload_n hx hb dX4_turns_12 rfl (lv_at hl 3 rfl) ?_
      refine lv_icmp_gt (tgt := 84) hx hb dX4_turns_13 (by decide) (fun c_1 => ?_) (fun c_1 => ?_)
      · skip
        have c_1 : tN < x := (nI_ltI (a := tN) (b := x) (by omega) (by omega)).mp c_1
        refine lv_aload_n hx hb dX4_turns_84 rfl (lv_at hl 0 rfl) ?_
        refine lv_iload_n hx hb dX4_turns_85 rfl (lv_at hl 1 rfl) ?_
        refine va_callv (va_runV (As := [.int (nI ss)]) (rest := []) ⟨hx, hb, hml, hown, hts⟩ (k_X4_converts l D T M w9 v (acF v pa fi.2.2.1) (kpt fi.2.2.1) (buF fi) fi.2.2.2.2 bi at0 ss (by omega)) (cwV 1 hts gX4_turns_X4_converts rfl rfl rfl (by decide +kernel) ⟨Nat.le_of_ble_eq_true rfl, Nat.le_of_ble_eq_true rfl⟩) (pre_V (Φ := fun X => MO D T X M w9 v (acF v pa fi.2.2.1) (kpt fi.2.2.1) (buF fi) fi.2.2.2.2 bi at0) hK (hM.2.1) rfl hM) rfl rfl hl.1 rfl (lv_room (Nat.le_of_ble_eq_true rfl)) dX4_turns_86 ⟨Nat.le_of_ble_eq_true rfl, Nat.le_of_ble_eq_true rfl⟩) hS (fun q _ h => by rw [h]; exact hSy 1 (by decide)) (fun q h => by rw [h]; exact hSy 1 (by decide)) (fun u_2 t H_2 locs ht hvm hw hB hz hk hS => ?_)
        rw [ht] at hB
        try dsimp only at hw
        try dsimp only at hB
        have hM := hB
        refine lv_iload hx hb dX4_turns_89 (lv_at hl 5 rfl) ?_
        subst hQ
        have hwe := turn_e hv9 (show x = tN + 1 by omega) hs (hR0.1 ss hs)
        have hfin : MSE D T H_2 M Sy (actF fi ss (tnB how (fi.1.1 ss) fN tN)) := ⟨_, _, _, _, _, hM, hSy, hrb, hbl, kpt_5, MRp_act hs hR0 hwe (fun j hj => (hmm _ (by omega)).trans (hR0.2.1 j hj)) (fun j hj => hmm _ (by omega)), MRp_push hk5 hR0 hRh⟩
        exact W.iret (v := (nI (ct (bI v ss) fN (x - fN)))) hx hb hr (fun t ht hW => ⟨⟨(nI (ct (bI v ss) fN (x - fN))), (), rfl, (by rw [show x - fN = tN - fN + 1 by omega]; exact congrArg nI (ct_cong (fun z h1 h2 => hR0.1 ss hs z (by omega)))), by have h9 := hfin; rw [← ht] at h9; exact h9⟩, hS.F ht⟩) hS.2.2 dX4_turns_91
      · skip
        have c_1 : ¬ (tN < x) := fun z => c_1 ((nI_ltI (a := tN) (b := x) (by omega) (by omega)).mpr z)
        have hx9 : bI w9 ss x = bI v ss x := (hv9 ss hs x (by omega)).trans (if_neg (by omega))
        refine lv_iload hx hb dX4_turns_16 (lv_at hl 5 rfl) ?_
        refine lv_aload_n hx hb dX4_turns_18 rfl (lv_at hl 0 rfl) ?_
        refine lv_iload_n hx hb dX4_turns_19 rfl (lv_at hl 1 rfl) ?_
        refine lv_iload hx hb dX4_turns_20 (lv_at hl 6 rfl) ?_
        refine vp_callSi (va_Run.run (va_runV (As := [.int (nI ss), .int (nI x)]) (rest := [.int (nI (ct (bI v ss) fN (x - fN)))]) ⟨hx, hb, hml, hown, hts⟩ (k_X4_has l D T M w9 v (acF v pa fi.2.2.1) (kpt fi.2.2.1) (buF fi) fi.2.2.2.2 bi at0 ss x (by omega) (by omega)) (cwV 2 hts gX4_turns_X4_has rfl rfl rfl (by decide +kernel) ⟨Nat.le_of_ble_eq_true rfl, Nat.le_of_ble_eq_true rfl⟩) (pre_V (Φ := fun X => MO D T X M w9 v (acF v pa fi.2.2.1) (kpt fi.2.2.1) (buF fi) fi.2.2.2.2 bi at0) hK (hM.2.1) rfl hM) rfl rfl hl.1 rfl (lv_room (Nat.le_of_ble_eq_true rfl)) dX4_turns_22 ⟨Nat.le_of_ble_eq_true rfl, Nat.le_of_ble_eq_true rfl⟩)) (fun r_2 hr_2 => ?_)
        subst hr_2
        refine lv_if_eq (tgt := 32) hx hb dX4_turns_25 (by decide) (fun c_2 => ?_) (fun c_2 => ?_)
        · skip
          have c_2 : bI w9 ss x = false := b2i_0.mp c_2
          refine lv_iconst (v := (nI 0)) hx hb dX4_turns_32 (by decide) ?_
          refine lv_iadd hx hb dX4_turns_33 ?_
          refine top_i (nI_add (ct (bI v ss) fN (x - fN)) 0) ?_
          refine lv_istore (lv' := [(5, .int (nI ((ct (bI v ss) fN (x - fN)) + 0))), (0, .ref (M 0)), (1, .int (nI ss)), (2, .int (nI fN)), (3, .int (nI tN)), (4, .int (nI how)), (6, .int (nI x))]) hx hb dX4_turns_34 hl (by decide) rfl (fun ls hl => ?_)
          refine lv_aload_n hx hb dX4_turns_36 rfl (lv_at hl 1 rfl) ?_
          refine lv_iload_n hx hb dX4_turns_37 rfl (lv_at hl 2 rfl) ?_
          refine lv_iload hx hb dX4_turns_38 (lv_at hl 6 rfl) ?_
          refine lv_iload hx hb dX4_turns_40 (lv_at hl 5 rfl) ?_
          refine lv_iconst (v := (nI 2)) hx hb dX4_turns_42 (by decide) ?_
          refine lv_icmp_ne (tgt := 64) hx hb dX4_turns_43 (by decide) (fun c_3 => ?_) (fun c_3 => ?_)
          · skip
            have c_3 : ¬ (how = 2) := fun z => c_3 ((nI_eq (a := how) (b := 2) (by omega) (by omega)).mpr z)
            refine lv_iload hx hb dX4_turns_64 (lv_at hl 5 rfl) ?_
            refine lv_iconst (v := (nI 1)) hx hb dX4_turns_66 (by decide) ?_
            refine lv_icmp_ne (tgt := 74) hx hb dX4_turns_67 (by decide) (fun c_4 => ?_) (fun c_4 => ?_)
            · skip
              have c_4 : ¬ (how = 1) := fun z => c_4 ((nI_eq (a := how) (b := 1) (by omega) (by omega)).mpr z)
              refine lv_iconst (v := (nI 0)) hx hb dX4_turns_74 (by decide) ?_
              refine top_i (x' := b2i false) rfl ?_
              have hbb : false = tbv how (bI v ss x) := by unfold tbv; rw [if_neg c_3]; exact (decide_eq_false c_4).symm
              refine va_callv (va_runV (As := [.int (nI ss), .int (nI x), .int (b2i false)]) (rest := []) ⟨hx, hb, hml, hown, hts⟩ (k_X4_puts l D T M w9 v (acF v pa fi.2.2.1) (kpt fi.2.2.1) (buF fi) fi.2.2.2.2 bi at0 ss x false (by omega) (by omega)) (cwV 3 hts gX4_turns_X4_puts rfl rfl rfl (by decide +kernel) ⟨Nat.le_of_ble_eq_true rfl, Nat.le_of_ble_eq_true rfl⟩) (pre_V (Φ := fun X => MO D T X M w9 v (acF v pa fi.2.2.1) (kpt fi.2.2.1) (buF fi) fi.2.2.2.2 bi at0) hK (hM.2.1) rfl hM) rfl rfl hl.1 rfl (lv_room (Nat.le_of_ble_eq_true rfl)) dX4_turns_75 ⟨Nat.le_of_ble_eq_true rfl, Nat.le_of_ble_eq_true rfl⟩) hS (fun q _ h => by rw [h]; exact hSy 1 (by decide)) (fun q h => by rw [h]; exact hSy 1 (by decide)) (fun u_2 t H_2 locs ht hvm hw hB hz hk hS => ?_)
              rw [ht] at hB
              try dsimp only at hw
              try dsimp only at hB
              have hM := hB
              refine lv_iinc (v := (nI (x + 1))) (lv' := [(6, .int (nI (x + 1))), (5, .int (nI ((ct (bI v ss) fN (x - fN)) + 0))), (0, .ref (M 0)), (1, .int (nI ss)), (2, .int (nI fN)), (3, .int (nI tN)), (4, .int (nI how))]) hx hb dX4_turns_78 hl (k := 6) rfl (iinc_n x 1) (by decide) rfl (fun ls hl => ?_)
              refine lv_goto (tgt := 10) hx hb dX4_turns_81 (by decide) ?_
              have hl := lv_sub hl (l' := [(0, .ref (M 0)), (1, .int (nI ss)), (2, .int (nI fN)), (3, .int (nI tN)), (4, .int (nI how)), (5, .int (nI ((ct (bI v ss) fN (x - fN)) + 0))), (6, .int (nI (x + 1)))]) [2, 3, 4, 5, 6, 1, 0] rfl
              have q_1 : (nI ((ct (bI v ss) fN (x - fN)) + 0)) = (nI (ct (bI v ss) fN ((x + 1) - fN))) := by rw [ct_end2 _ hfx]; first | rw [if_pos (hx9.symm.trans c_2)] | rw [if_neg (by rw [← hx9, c_2]; exact Bool.false_ne_true), Nat.add_zero]
              have hl : lv_has ls 7 [(0, .ref (M 0)), (1, .int (nI ss)), (2, .int (nI fN)), (3, .int (nI tN)), (4, .int (nI how)), (5, .int (nI (ct (bI v ss) fN ((x + 1) - fN)))), (6, .int (nI (x + 1)))] := by
                have h := hl
                rw [q_1] at h
                exact h
              exact ih10 (x + 1) u_2 (by omega) (by omega) (turn_s hv9 hw.1 hfx hbb) (fun j hj => (hw.2 j hj).trans (hmm j hj)) H_2 _ hM hS ls hl (by omega)
            · skip
              have c_4 : how = 1 := (nI_eq (a := how) (b := 1) (by omega) (by omega)).mp c_4
              refine lv_iconst (v := (nI 1)) hx hb dX4_turns_70 (by decide) ?_
              refine lv_goto (tgt := 75) hx hb dX4_turns_71 (by decide) ?_
              refine top_i (x' := b2i true) rfl ?_
              have hbb : true = tbv how (bI v ss x) := by unfold tbv; rw [if_neg c_3]; exact (decide_eq_true c_4).symm
              refine va_callv (va_runV (As := [.int (nI ss), .int (nI x), .int (b2i true)]) (rest := []) ⟨hx, hb, hml, hown, hts⟩ (k_X4_puts l D T M w9 v (acF v pa fi.2.2.1) (kpt fi.2.2.1) (buF fi) fi.2.2.2.2 bi at0 ss x true (by omega) (by omega)) (cwV 3 hts gX4_turns_X4_puts rfl rfl rfl (by decide +kernel) ⟨Nat.le_of_ble_eq_true rfl, Nat.le_of_ble_eq_true rfl⟩) (pre_V (Φ := fun X => MO D T X M w9 v (acF v pa fi.2.2.1) (kpt fi.2.2.1) (buF fi) fi.2.2.2.2 bi at0) hK (hM.2.1) rfl hM) rfl rfl hl.1 rfl (lv_room (Nat.le_of_ble_eq_true rfl)) dX4_turns_75 ⟨Nat.le_of_ble_eq_true rfl, Nat.le_of_ble_eq_true rfl⟩) hS (fun q _ h => by rw [h]; exact hSy 1 (by decide)) (fun q h => by rw [h]; exact hSy 1 (by decide)) (fun u_2 t H_2 locs ht hvm hw hB hz hk hS => ?_)
              rw [ht] at hB
              try dsimp only at hw
              try dsimp only at hB
              have hM := hB
              refine lv_iinc (v := (nI (x + 1))) (lv' := [(6, .int (nI (x + 1))), (5, .int (nI ((ct (bI v ss) fN (x - fN)) + 0))), (0, .ref (M 0)), (1, .int (nI ss)), (2, .int (nI fN)), (3, .int (nI tN)), (4, .int (nI how))]) hx hb dX4_turns_78 hl (k := 6) rfl (iinc_n x 1) (by decide) rfl (fun ls hl => ?_)
              refine lv_goto (tgt := 10) hx hb dX4_turns_81 (by decide) ?_
              have hl := lv_sub hl (l' := [(0, .ref (M 0)), (1, .int (nI ss)), (2, .int (nI fN)), (3, .int (nI tN)), (4, .int (nI how)), (5, .int (nI ((ct (bI v ss) fN (x - fN)) + 0))), (6, .int (nI (x + 1)))]) [2, 3, 4, 5, 6, 1, 0] rfl
              have q_1 : (nI ((ct (bI v ss) fN (x - fN)) + 0)) = (nI (ct (bI v ss) fN ((x + 1) - fN))) := by rw [ct_end2 _ hfx]; first | rw [if_pos (hx9.symm.trans c_2)] | rw [if_neg (by rw [← hx9, c_2]; exact Bool.false_ne_true), Nat.add_zero]
              have hl : lv_has ls 7 [(0, .ref (M 0)), (1, .int (nI ss)), (2, .int (nI fN)), (3, .int (nI tN)), (4, .int (nI how)), (5, .int (nI (ct (bI v ss) fN ((x + 1) - fN)))), (6, .int (nI (x + 1)))] := by
                have h := hl
                rw [q_1] at h
                exact h
              exact ih10 (x + 1) u_2 (by omega) (by omega) (turn_s hv9 hw.1 hfx hbb) (fun j hj => (hw.2 j hj).trans (hmm j hj)) H_2 _ hM hS ls hl (by omega)
          · skip
            have c_3 : how = 2 := (nI_eq (a := how) (b := 2) (by omega) (by omega)).mp c_3
            refine lv_aload_n hx hb dX4_turns_46 rfl (lv_at hl 1 rfl) ?_
            refine lv_iload_n hx hb dX4_turns_47 rfl (lv_at hl 2 rfl) ?_
            refine lv_iload hx hb dX4_turns_48 (lv_at hl 6 rfl) ?_
            refine vp_callSi (va_Run.run (va_runV (As := [.int (nI ss), .int (nI x)]) (rest := [.int (nI x), .int (nI ss), .ref (M 0)]) ⟨hx, hb, hml, hown, hts⟩ (k_X4_has l D T M w9 v (acF v pa fi.2.2.1) (kpt fi.2.2.1) (buF fi) fi.2.2.2.2 bi at0 ss x (by omega) (by omega)) (cwV 2 hts gX4_turns_X4_has rfl rfl rfl (by decide +kernel) ⟨Nat.le_of_ble_eq_true rfl, Nat.le_of_ble_eq_true rfl⟩) (pre_V (Φ := fun X => MO D T X M w9 v (acF v pa fi.2.2.1) (kpt fi.2.2.1) (buF fi) fi.2.2.2.2 bi at0) hK (hM.2.1) rfl hM) rfl rfl hl.1 rfl (lv_room (Nat.le_of_ble_eq_true rfl)) dX4_turns_50 ⟨Nat.le_of_ble_eq_true rfl, Nat.le_of_ble_eq_true rfl⟩)) (fun r_3 hr_3 => ?_)
            subst hr_3
            refine lv_if_ne (tgt := 60) hx hb dX4_turns_53 (by decide) (fun c_4 => ?_) (fun c_4 => ?_)
            · skip
              have c_4 : bI w9 ss x = true := b2i_n0.mp c_4
              refine lv_iconst (v := (nI 0)) hx hb dX4_turns_60 (by decide) ?_
              refine lv_goto (tgt := 75) hx hb dX4_turns_61 (by decide) ?_
              refine top_i (x' := b2i false) rfl ?_
              have hbb : false = tbv how (bI v ss x) := by unfold tbv; rw [if_pos c_3, ← hx9, c_4]; rfl
              refine va_callv (va_runV (As := [.int (nI ss), .int (nI x), .int (b2i false)]) (rest := []) ⟨hx, hb, hml, hown, hts⟩ (k_X4_puts l D T M w9 v (acF v pa fi.2.2.1) (kpt fi.2.2.1) (buF fi) fi.2.2.2.2 bi at0 ss x false (by omega) (by omega)) (cwV 3 hts gX4_turns_X4_puts rfl rfl rfl (by decide +kernel) ⟨Nat.le_of_ble_eq_true rfl, Nat.le_of_ble_eq_true rfl⟩) (pre_V (Φ := fun X => MO D T X M w9 v (acF v pa fi.2.2.1) (kpt fi.2.2.1) (buF fi) fi.2.2.2.2 bi at0) hK (hM.2.1) rfl hM) rfl rfl hl.1 rfl (lv_room (Nat.le_of_ble_eq_true rfl)) dX4_turns_75 ⟨Nat.le_of_ble_eq_true rfl, Nat.le_of_ble_eq_true rfl⟩) hS (fun q _ h => by rw [h]; exact hSy 1 (by decide)) (fun q h => by rw [h]; exact hSy 1 (by decide)) (fun u_2 t H_2 locs ht hvm hw hB hz hk hS => ?_)
              rw [ht] at hB
              try dsimp only at hw
              try dsimp only at hB
              have hM := hB
              refine lv_iinc (v := (nI (x + 1))) (lv' := [(6, .int (nI (x + 1))), (5, .int (nI ((ct (bI v ss) fN (x - fN)) + 0))), (0, .ref (M 0)), (1, .int (nI ss)), (2, .int (nI fN)), (3, .int (nI tN)), (4, .int (nI how))]) hx hb dX4_turns_78 hl (k := 6) rfl (iinc_n x 1) (by decide) rfl (fun ls hl => ?_)
              refine lv_goto (tgt := 10) hx hb dX4_turns_81 (by decide) ?_
              have hl := lv_sub hl (l' := [(0, .ref (M 0)), (1, .int (nI ss)), (2, .int (nI fN)), (3, .int (nI tN)), (4, .int (nI how)), (5, .int (nI ((ct (bI v ss) fN (x - fN)) + 0))), (6, .int (nI (x + 1)))]) [2, 3, 4, 5, 6, 1, 0] rfl
              have q_1 : (nI ((ct (bI v ss) fN (x - fN)) + 0)) = (nI (ct (bI v ss) fN ((x + 1) - fN))) := by rw [ct_end2 _ hfx]; first | rw [if_pos (hx9.symm.trans c_2)] | rw [if_neg (by rw [← hx9, c_2]; exact Bool.false_ne_true), Nat.add_zero]
              have hl : lv_has ls 7 [(0, .ref (M 0)), (1, .int (nI ss)), (2, .int (nI fN)), (3, .int (nI tN)), (4, .int (nI how)), (5, .int (nI (ct (bI v ss) fN ((x + 1) - fN)))), (6, .int (nI (x + 1)))] := by
                have h := hl
                rw [q_1] at h
                exact h
              exact ih10 (x + 1) u_2 (by omega) (by omega) (turn_s hv9 hw.1 hfx hbb) (fun j hj => (hw.2 j hj).trans (hmm j hj)) H_2 _ hM hS ls hl (by omega)
            · skip
              have c_4 : bI w9 ss x = false := b2i_0.mp c_4
              refine lv_iconst (v := (nI 1)) hx hb dX4_turns_56 (by decide) ?_
              refine lv_goto (tgt := 75) hx hb dX4_turns_57 (by decide) ?_
              refine top_i (x' := b2i true) rfl ?_
              have hbb : true = tbv how (bI v ss x) := by unfold tbv; rw [if_pos c_3, ← hx9, c_4]; rfl
              refine va_callv (va_runV (As := [.int (nI ss), .int (nI x), .int (b2i true)]) (rest := []) ⟨hx, hb, hml, hown, hts⟩ (k_X4_puts l D T M w9 v (acF v pa fi.2.2.1) (kpt fi.2.2.1) (buF fi) fi.2.2.2.2 bi at0 ss x true (by omega) (by omega)) (cwV 3 hts gX4_turns_X4_puts rfl rfl rfl (by decide +kernel) ⟨Nat.le_of_ble_eq_true rfl, Nat.le_of_ble_eq_true rfl⟩) (pre_V (Φ := fun X => MO D T X M w9 v (acF v pa fi.2.2.1) (kpt fi.2.2.1) (buF fi) fi.2.2.2.2 bi at0) hK (hM.2.1) rfl hM) rfl rfl hl.1 rfl (lv_room (Nat.le_of_ble_eq_true rfl)) dX4_turns_75 ⟨Nat.le_of_ble_eq_true rfl, Nat.le_of_ble_eq_true rfl⟩) hS (fun q _ h => by rw [h]; exact hSy 1 (by decide)) (fun q h => by rw [h]; exact hSy 1 (by decide)) (fun u_2 t H_2 locs ht hvm hw hB hz hk hS => ?_)
              rw [ht] at hB
              try dsimp only at hw
              try dsimp only at hB
              have hM := hB
              refine lv_iinc (v := (nI (x + 1))) (lv' := [(6, .int (nI (x + 1))), (5, .int (nI ((ct (bI v ss) fN (x - fN)) + 0))), (0, .ref (M 0)), (1, .int (nI ss)), (2, .int (nI fN)), (3, .int (nI tN)), (4, .int (nI how))]) hx hb dX4_turns_78 hl (k := 6) rfl (iinc_n x 1) (by decide) rfl (fun ls hl => ?_)
              refine lv_goto (tgt := 10) hx hb dX4_turns_81 (by decide) ?_
              have hl := lv_sub hl (l' := [(0, .ref (M 0)), (1, .int (nI ss)), (2, .int (nI fN)), (3, .int (nI tN)), (4, .int (nI how)), (5, .int (nI ((ct (bI v ss) fN (x - fN)) + 0))), (6, .int (nI (x + 1)))]) [2, 3, 4, 5, 6, 1, 0] rfl
              have q_1 : (nI ((ct (bI v ss) fN (x - fN)) + 0)) = (nI (ct (bI v ss) fN ((x + 1) - fN))) := by rw [ct_end2 _ hfx]; first | rw [if_pos (hx9.symm.trans c_2)] | rw [if_neg (by rw [← hx9, c_2]; exact Bool.false_ne_true), Nat.add_zero]
              have hl : lv_has ls 7 [(0, .ref (M 0)), (1, .int (nI ss)), (2, .int (nI fN)), (3, .int (nI tN)), (4, .int (nI how)), (5, .int (nI (ct (bI v ss) fN ((x + 1) - fN)))), (6, .int (nI (x + 1)))] := by
                have h := hl
                rw [q_1] at h
                exact h
              exact ih10 (x + 1) u_2 (by omega) (by omega) (turn_s hv9 hw.1 hfx hbb) (fun j hj => (hw.2 j hj).trans (hmm j hj)) H_2 _ hM hS ls hl (by omega)
        · skip
          have c_2 : bI w9 ss x = true := b2i_n0.mp c_2
          refine lv_iconst (v := (nI 1)) hx hb dX4_turns_28 (by decide) ?_
          refine lv_goto (tgt := 33) hx hb dX4_turns_29 (by decide) ?_
          refine lv_iadd hx hb dX4_turns_33 ?_
          refine top_i (nI_add (ct (bI v ss) fN (x - fN)) 1) ?_
          refine lv_istore (lv' := [(5, .int (nI ((ct (bI v ss) fN (x - fN)) + 1))), (0, .ref (M 0)), (1, .int (nI ss)), (2, .int (nI fN)), (3, .int (nI tN)), (4, .int (nI how)), (6, .int (nI x))]) hx hb dX4_turns_34 hl (by decide) rfl (fun ls hl => ?_)
          refine lv_aload_n hx hb dX4_turns_36 rfl (lv_at hl 1 rfl) ?_
          refine lv_iload_n hx hb dX4_turns_37 rfl (lv_at hl 2 rfl) ?_
          refine lv_iload hx hb dX4_turns_38 (lv_at hl 6 rfl) ?_
          refine lv_iload hx hb dX4_turns_40 (lv_at hl 5 rfl) ?_
          refine lv_iconst (v := (nI 2)) hx hb dX4_turns_42 (by decide) ?_
          refine lv_icmp_ne (tgt := 64) hx hb dX4_turns_43 (by decide) (fun c_3 => ?_) (fun c_3 => ?_)
          · skip
            have c_3 : ¬ (how = 2) := fun z => c_3 ((nI_eq (a := how) (b := 2) (by omega) (by omega)).mpr z)
            refine lv_iload hx hb dX4_turns_64 (lv_at hl 5 rfl) ?_
            refine lv_iconst (v := (nI 1)) hx hb dX4_turns_66 (by decide) ?_
            refine lv_icmp_ne (tgt := 74) hx hb dX4_turns_67 (by decide) (fun c_4 => ?_) (fun c_4 => ?_)
            · skip
              have c_4 : ¬ (how = 1) := fun z => c_4 ((nI_eq (a := how) (b := 1) (by omega) (by omega)).mpr z)
              refine lv_iconst (v := (nI 0)) hx hb dX4_turns_74 (by decide) ?_
              refine top_i (x' := b2i false) rfl ?_
              have hbb : false = tbv how (bI v ss x) := by unfold tbv; rw [if_neg c_3]; exact (decide_eq_false c_4).symm
              refine va_callv (va_runV (As := [.int (nI ss), .int (nI x), .int (b2i false)]) (rest := []) ⟨hx, hb, hml, hown, hts⟩ (k_X4_puts l D T M w9 v (acF v pa fi.2.2.1) (kpt fi.2.2.1) (buF fi) fi.2.2.2.2 bi at0 ss x false (by omega) (by omega)) (cwV 3 hts gX4_turns_X4_puts rfl rfl rfl (by decide +kernel) ⟨Nat.le_of_ble_eq_true rfl, Nat.le_of_ble_eq_true rfl⟩) (pre_V (Φ := fun X => MO D T X M w9 v (acF v pa fi.2.2.1) (kpt fi.2.2.1) (buF fi) fi.2.2.2.2 bi at0) hK (hM.2.1) rfl hM) rfl rfl hl.1 rfl (lv_room (Nat.le_of_ble_eq_true rfl)) dX4_turns_75 ⟨Nat.le_of_ble_eq_true rfl, Nat.le_of_ble_eq_true rfl⟩) hS (fun q _ h => by rw [h]; exact hSy 1 (by decide)) (fun q h => by rw [h]; exact hSy 1 (by decide)) (fun u_2 t H_2 locs ht hvm hw hB hz hk hS => ?_)
              rw [ht] at hB
              try dsimp only at hw
              try dsimp only at hB
              have hM := hB
              refine lv_iinc (v := (nI (x + 1))) (lv' := [(6, .int (nI (x + 1))), (5, .int (nI ((ct (bI v ss) fN (x - fN)) + 1))), (0, .ref (M 0)), (1, .int (nI ss)), (2, .int (nI fN)), (3, .int (nI tN)), (4, .int (nI how))]) hx hb dX4_turns_78 hl (k := 6) rfl (iinc_n x 1) (by decide) rfl (fun ls hl => ?_)
              refine lv_goto (tgt := 10) hx hb dX4_turns_81 (by decide) ?_
              have hl := lv_sub hl (l' := [(0, .ref (M 0)), (1, .int (nI ss)), (2, .int (nI fN)), (3, .int (nI tN)), (4, .int (nI how)), (5, .int (nI ((ct (bI v ss) fN (x - fN)) + 1))), (6, .int (nI (x + 1)))]) [2, 3, 4, 5, 6, 1, 0] rfl
              have q_1 : (nI ((ct (bI v ss) fN (x - fN)) + 1)) = (nI (ct (bI v ss) fN ((x + 1) - fN))) := by rw [ct_end2 _ hfx]; first | rw [if_pos (hx9.symm.trans c_2)] | rw [if_neg (by rw [← hx9, c_2]; exact Bool.false_ne_true), Nat.add_zero]
              have hl : lv_has ls 7 [(0, .ref (M 0)), (1, .int (nI ss)), (2, .int (nI fN)), (3, .int (nI tN)), (4, .int (nI how)), (5, .int (nI (ct (bI v ss) fN ((x + 1) - fN)))), (6, .int (nI (x + 1)))] := by
                have h := hl
                rw [q_1] at h
                exact h
              exact ih10 (x + 1) u_2 (by omega) (by omega) (turn_s hv9 hw.1 hfx hbb) (fun j hj => (hw.2 j hj).trans (hmm j hj)) H_2 _ hM hS ls hl (by omega)
            · skip
              have c_4 : how = 1 := (nI_eq (a := how) (b := 1) (by omega) (by omega)).mp c_4
              refine lv_iconst (v := (nI 1)) hx hb dX4_turns_70 (by decide) ?_
              refine lv_goto (tgt := 75) hx hb dX4_turns_71 (by decide) ?_
              refine top_i (x' := b2i true) rfl ?_
              have hbb : true = tbv how (bI v ss x) := by unfold tbv; rw [if_neg c_3]; exact (decide_eq_true c_4).symm
              refine va_callv (va_runV (As := [.int (nI ss), .int (nI x), .int (b2i true)]) (rest := []) ⟨hx, hb, hml, hown, hts⟩ (k_X4_puts l D T M w9 v (acF v pa fi.2.2.1) (kpt fi.2.2.1) (buF fi) fi.2.2.2.2 bi at0 ss x true (by omega) (by omega)) (cwV 3 hts gX4_turns_X4_puts rfl rfl rfl (by decide +kernel) ⟨Nat.le_of_ble_eq_true rfl, Nat.le_of_ble_eq_true rfl⟩) (pre_V (Φ := fun X => MO D T X M w9 v (acF v pa fi.2.2.1) (kpt fi.2.2.1) (buF fi) fi.2.2.2.2 bi at0) hK (hM.2.1) rfl hM) rfl rfl hl.1 rfl (lv_room (Nat.le_of_ble_eq_true rfl)) dX4_turns_75 ⟨Nat.le_of_ble_eq_true rfl, Nat.le_of_ble_eq_true rfl⟩) hS (fun q _ h => by rw [h]; exact hSy 1 (by decide)) (fun q h => by rw [h]; exact hSy 1 (by decide)) (fun u_2 t H_2 locs ht hvm hw hB hz hk hS => ?_)
              rw [ht] at hB
              try dsimp only at hw
              try dsimp only at hB
              have hM := hB
              refine lv_iinc (v := (nI (x + 1))) (lv' := [(6, .int (nI (x + 1))), (5, .int (nI ((ct (bI v ss) fN (x - fN)) + 1))), (0, .ref (M 0)), (1, .int (nI ss)), (2, .int (nI fN)), (3, .int (nI tN)), (4, .int (nI how))]) hx hb dX4_turns_78 hl (k := 6) rfl (iinc_n x 1) (by decide) rfl (fun ls hl => ?_)
              refine lv_goto (tgt := 10) hx hb dX4_turns_81 (by decide) ?_
              have hl := lv_sub hl (l' := [(0, .ref (M 0)), (1, .int (nI ss)), (2, .int (nI fN)), (3, .int (nI tN)), (4, .int (nI how)), (5, .int (nI ((ct (bI v ss) fN (x - fN)) + 1))), (6, .int (nI (x + 1)))]) [2, 3, 4, 5, 6, 1, 0] rfl
              have q_1 : (nI ((ct (bI v ss) fN (x - fN)) + 1)) = (nI (ct (bI v ss) fN ((x + 1) - fN))) := by rw [ct_end2 _ hfx]; first | rw [if_pos (hx9.symm.trans c_2)] | rw [if_neg (by rw [← hx9, c_2]; exact Bool.false_ne_true), Nat.add_zero]
              have hl : lv_has ls 7 [(0, .ref (M 0)), (1, .int (nI ss)), (2, .int (nI fN)), (3, .int (nI tN)), (4, .int (nI how)), (5, .int (nI (ct (bI v ss) fN ((x + 1) - fN)))), (6, .int (nI (x + 1)))] := by
                have h := hl
                rw [q_1] at h
                exact h
              exact ih10 (x + 1) u_2 (by omega) (by omega) (turn_s hv9 hw.1 hfx hbb) (fun j hj => (hw.2 j hj).trans (hmm j hj)) H_2 _ hM hS ls hl (by omega)
          · skip
            have c_3 : how = 2 := (nI_eq (a := how) (b := 2) (by omega) (by omega)).mp c_3
            refine lv_aload_n hx hb dX4_turns_46 rfl (lv_at hl 1 rfl) ?_
            refine lv_iload_n hx hb dX4_turns_47 rfl (lv_at hl 2 rfl) ?_
            refine lv_iload hx hb dX4_turns_48 (lv_at hl 6 rfl) ?_
            refine vp_callSi (va_Run.run (va_runV (As := [.int (nI ss), .int (nI x)]) (rest := [.int (nI x), .int (nI ss), .ref (M 0)]) ⟨hx, hb, hml, hown, hts⟩ (k_X4_has l D T M w9 v (acF v pa fi.2.2.1) (kpt fi.2.2.1) (buF fi) fi.2.2.2.2 bi at0 ss x (by omega) (by omega)) (cwV 2 hts gX4_turns_X4_has rfl rfl rfl (by decide +kernel) ⟨Nat.le_of_ble_eq_true rfl, Nat.le_of_ble_eq_true rfl⟩) (pre_V (Φ := fun X => MO D T X M w9 v (acF v pa fi.2.2.1) (kpt fi.2.2.1) (buF fi) fi.2.2.2.2 bi at0) hK (hM.2.1) rfl hM) rfl rfl hl.1 rfl (lv_room (Nat.le_of_ble_eq_true rfl)) dX4_turns_50 ⟨Nat.le_of_ble_eq_true rfl, Nat.le_of_ble_eq_true rfl⟩)) (fun r_3 hr_3 => ?_)
            subst hr_3
            refine lv_if_ne (tgt := 60) hx hb dX4_turns_53 (by decide) (fun c_4 => ?_) (fun c_4 => ?_)
            · skip
              have c_4 : bI w9 ss x = true := b2i_n0.mp c_4
              refine lv_iconst (v := (nI 0)) hx hb dX4_turns_60 (by decide) ?_
              refine lv_goto (tgt := 75) hx hb dX4_turns_61 (by decide) ?_
              refine top_i (x' := b2i false) rfl ?_
              have hbb : false = tbv how (bI v ss x) := by unfold tbv; rw [if_pos c_3, ← hx9, c_4]; rfl
              refine va_callv (va_runV (As := [.int (nI ss), .int (nI x), .int (b2i false)]) (rest := []) ⟨hx, hb, hml, hown, hts⟩ (k_X4_puts l D T M w9 v (acF v pa fi.2.2.1) (kpt fi.2.2.1) (buF fi) fi.2.2.2.2 bi at0 ss x false (by omega) (by omega)) (cwV 3 hts gX4_turns_X4_puts rfl rfl rfl (by decide +kernel) ⟨Nat.le_of_ble_eq_true rfl, Nat.le_of_ble_eq_true rfl⟩) (pre_V (Φ := fun X => MO D T X M w9 v (acF v pa fi.2.2.1) (kpt fi.2.2.1) (buF fi) fi.2.2.2.2 bi at0) hK (hM.2.1) rfl hM) rfl rfl hl.1 rfl (lv_room (Nat.le_of_ble_eq_true rfl)) dX4_turns_75 ⟨Nat.le_of_ble_eq_true rfl, Nat.le_of_ble_eq_true rfl⟩) hS (fun q _ h => by rw [h]; exact hSy 1 (by decide)) (fun q h => by rw [h]; exact hSy 1 (by decide)) (fun u_2 t H_2 locs ht hvm hw hB hz hk hS => ?_)
              rw [ht] at hB
              try dsimp only at hw
              try dsimp only at hB
              have hM := hB
              refine lv_iinc (v := (nI (x + 1))) (lv' := [(6, .int (nI (x + 1))), (5, .int (nI ((ct (bI v ss) fN (x - fN)) + 1))), (0, .ref (M 0)), (1, .int (nI ss)), (2, .int (nI fN)), (3, .int (nI tN)), (4, .int (nI how))]) hx hb dX4_turns_78 hl (k := 6) rfl (iinc_n x 1) (by decide) rfl (fun ls hl => ?_)
              refine lv_goto (tgt := 10) hx hb dX4_turns_81 (by decide) ?_
              have hl := lv_sub hl (l' := [(0, .ref (M 0)), (1, .int (nI ss)), (2, .int (nI fN)), (3, .int (nI tN)), (4, .int (nI how)), (5, .int (nI ((ct (bI v ss) fN (x - fN)) + 1))), (6, .int (nI (x + 1)))]) [2, 3, 4, 5, 6, 1, 0] rfl
              have q_1 : (nI ((ct (bI v ss) fN (x - fN)) + 1)) = (nI (ct (bI v ss) fN ((x + 1) - fN))) := by rw [ct_end2 _ hfx]; first | rw [if_pos (hx9.symm.trans c_2)] | rw [if_neg (by rw [← hx9, c_2]; exact Bool.false_ne_true), Nat.add_zero]
              have hl : lv_has ls 7 [(0, .ref (M 0)), (1, .int (nI ss)), (2, .int (nI fN)), (3, .int (nI tN)), (4, .int (nI how)), (5, .int (nI (ct (bI v ss) fN ((x + 1) - fN)))), (6, .int (nI (x + 1)))] := by
                have h := hl
                rw [q_1] at h
                exact h
              exact ih10 (x + 1) u_2 (by omega) (by omega) (turn_s hv9 hw.1 hfx hbb) (fun j hj => (hw.2 j hj).trans (hmm j hj)) H_2 _ hM hS ls hl (by omega)
            · skip
              have c_4 : bI w9 ss x = false := b2i_0.mp c_4
              refine lv_iconst (v := (nI 1)) hx hb dX4_turns_56 (by decide) ?_
              refine lv_goto (tgt := 75) hx hb dX4_turns_57 (by decide) ?_
              refine top_i (x' := b2i true) rfl ?_
              have hbb : true = tbv how (bI v ss x) := by unfold tbv; rw [if_pos c_3, ← hx9, c_4]; rfl
              refine va_callv (va_runV (As := [.int (nI ss), .int (nI x), .int (b2i true)]) (rest := []) ⟨hx, hb, hml, hown, hts⟩ (k_X4_puts l D T M w9 v (acF v pa fi.2.2.1) (kpt fi.2.2.1) (buF fi) fi.2.2.2.2 bi at0 ss x true (by omega) (by omega)) (cwV 3 hts gX4_turns_X4_puts rfl rfl rfl (by decide +kernel) ⟨Nat.le_of_ble_eq_true rfl, Nat.le_of_ble_eq_true rfl⟩) (pre_V (Φ := fun X => MO D T X M w9 v (acF v pa fi.2.2.1) (kpt fi.2.2.1) (buF fi) fi.2.2.2.2 bi at0) hK (hM.2.1) rfl hM) rfl rfl hl.1 rfl (lv_room (Nat.le_of_ble_eq_true rfl)) dX4_turns_75 ⟨Nat.le_of_ble_eq_true rfl, Nat.le_of_ble_eq_true rfl⟩) hS (fun q _ h => by rw [h]; exact hSy 1 (by decide)) (fun q h => by rw [h]; exact hSy 1 (by decide)) (fun u_2 t H_2 locs ht hvm hw hB hz hk hS => ?_)
              rw [ht] at hB
              try dsimp only at hw
              try dsimp only at hB
              have hM := hB
              refine lv_iinc (v := (nI (x + 1))) (lv' := [(6, .int (nI (x + 1))), (5, .int (nI ((ct (bI v ss) fN (x - fN)) + 1))), (0, .ref (M 0)), (1, .int (nI ss)), (2, .int (nI fN)), (3, .int (nI tN)), (4, .int (nI how))]) hx hb dX4_turns_78 hl (k := 6) rfl (iinc_n x 1) (by decide) rfl (fun ls hl => ?_)
              refine lv_goto (tgt := 10) hx hb dX4_turns_81 (by decide) ?_
              have hl := lv_sub hl (l' := [(0, .ref (M 0)), (1, .int (nI ss)), (2, .int (nI fN)), (3, .int (nI tN)), (4, .int (nI how)), (5, .int (nI ((ct (bI v ss) fN (x - fN)) + 1))), (6, .int (nI (x + 1)))]) [2, 3, 4, 5, 6, 1, 0] rfl
              have q_1 : (nI ((ct (bI v ss) fN (x - fN)) + 1)) = (nI (ct (bI v ss) fN ((x + 1) - fN))) := by rw [ct_end2 _ hfx]; first | rw [if_pos (hx9.symm.trans c_2)] | rw [if_neg (by rw [← hx9, c_2]; exact Bool.false_ne_true), Nat.add_zero]
              have hl : lv_has ls 7 [(0, .ref (M 0)), (1, .int (nI ss)), (2, .int (nI fN)), (3, .int (nI tN)), (4, .int (nI how)), (5, .int (nI (ct (bI v ss) fN ((x + 1) - fN)))), (6, .int (nI (x + 1)))] := by
                have h := hl
                rw [q_1] at h
                exact h
              exact ih10 (x + 1) u_2 (by omega) (by omega) (turn_s hv9 hw.1 hfx hbb) (fun j hj => (hw.2 j hj).trans (hmm j hj)) H_2 _ hM hS ls hl (by omega)
  have hl := lv_sub hl (l' := [(0, .ref (M 0)), (1, .int (nI ss)), (2, .int (nI fN)), (3, .int (nI tN)), (4, .int (nI how)), (5, .int (nI 0)), (6, .int (nI fN))]) [2, 3, 4, 5, 6, 1, 0] rfl
  have q_1 : (nI 0) = (nI (ct (bI v ss) fN (fN - fN))) := by rw [Nat.sub_self]; rfl
  have hl : lv_has ls 7 [(0, .ref (M 0)), (1, .int (nI ss)), (2, .int (nI fN)), (3, .int (nI tN)), (4, .int (nI how)), (5, .int (nI (ct (bI v ss) fN (fN - fN)))), (6, .int (nI fN))] := by
    have h := hl
    rw [q_1] at h
    exact h
  exact loop10 (tN + 1 - fN + 1) fN v (Nat.le_refl _) (by omega) (fun t' _ y _ => (if_neg (by omega)).symm) (fun _ _ => rfl) H_1 _ hM hS ls hl (Nat.lt_succ_self _)
set_option maxHeartbeats 1000000 in
set_option maxRecDepth 100000 in
theorem k_X4_add (l : Launch) (D : va_G) (T : Nat → ClassId) (M : Nat → Nat) (Sy : Nat → Prop) (fi : FS) (ss : Int32) (x : Int32) (y : Int32) : Met l yX4_add wsX4_add ({ frames := 5, cells := 0, slots := 0, locals := 118 }) (va_Pc [.ref (M 0), .int ss, .int x, .int y] (fun U => KS D T U ∧ MSE D T U.heap M Sy fi)) (va_Qi (fun (r : Int32) (u : Unit) => r = (addR fi ss x y)) (fun u t => MSE D T t.heap M Sy (addN fi ss x y)) (Sy)) 0 0 (Sy) := by
  refine Met.ofW (cc := cX4_add) (maxL := 4) (ret := (some .int)) (by decide) rfl ?_
  intro pg ev s m args below meth c s₁ B hml hv
  obtain ⟨rfl, hK, hH⟩ := hv
  have hx := B.exec
  have hb := B.bytes
  have hr := B.returns
  have hts := atoms_spec (ws := wsX4_add) B.pre
  have hown : s.vm.findClass RX4 = some m.cls := findClass_of_methodNamed B.named
  have hlocks := B.notSynchronized
  have in_wsX40 : ∀ w ∈ wsX40, w ∈ wsX4_add := fun w h => List.mem_cons_of_mem _ (List.mem_append_right _ h)
  have hS : va_S (Sy) s.heap s.heap [] := va_S.rf
  have hl := lv_entry ([.ref (M 0), .int ss, .int x, .int y]) (n := 4) (Nat.le_of_ble_eq_true rfl)
  rw [lg_entry_eq]
  generalize (lg_sl ([.ref (M 0), .int ss, .int x, .int y]) ++ List.replicate (4 - (lg_sl ([.ref (M 0), .int ss, .int x, .int y])).length) Slot.unset).toArray = ls at hl ⊢
  have hl : lv_has ls 4 [(0, .ref (M 0)), (1, .int ss), (2, .int x), (3, .int y)] := hl
  refine W_gen (fun Q hQ => ?_)
  obtain ⟨v, as, pa, bi, at0, hM, hSy, hrb, hbl, hk5, hR0, hRh⟩ := id hH
  refine lv_iload_n hx hb dX4_add_0 rfl (lv_at hl 1 rfl) ?_
  refine lv_iload_n hx hb dX4_add_1 rfl (lv_at hl 2 rfl) ?_
  refine lv_iload_n hx hb dX4_add_2 rfl (lv_at hl 3 rfl) ?_
  refine vp_callSi (va_Run.run (va_runS (As := [.int ss, .int x, .int y]) (rest := []) ⟨hx, hb, hml, hown, hts⟩ (k_X4_isRange l D T ss x y ) (va_cwS 3 hts gX4_add_X4_isRange rfl rfl rfl (by decide +kernel) ⟨Nat.le_of_ble_eq_true rfl, Nat.le_of_ble_eq_true rfl⟩) (pre_S (Φ := fun X => True) hK trivial) rfl rfl hl.1 rfl (lv_room (Nat.le_of_ble_eq_true rfl)) dX4_add_3 ⟨Nat.le_of_ble_eq_true rfl, Nat.le_of_ble_eq_true rfl⟩)) (fun r_1 hr_1 => ?_)
  subst hr_1
  refine lv_if_eq (tgt := 26) hx hb dX4_add_6 (by decide) (fun c_1 => ?_) (fun c_1 => ?_)
  · skip
    have c_1 : (decide (ok6 ss ∧ okR x y)) = false := b2i_0.mp c_1
    have c_1 : ¬ (ok6 ss ∧ okR x y) := of_decide_eq_false c_1
    refine lv_iconst (v := (-1)) hx hb dX4_add_26 (by decide) ?_
    subst hQ
    have hfin : MSE D T s.heap M Sy (addN fi ss x y) := by unfold addN; rw [if_neg c_1]; exact hH
    exact W.iret (v := (-1)) hx hb hr (fun t ht hW => ⟨⟨(-1), (), rfl, ((if_neg c_1).symm), by have h9 := hfin; rw [← ht] at h9; exact h9⟩, hS.F ht⟩) hS.2.2 dX4_add_27
  · skip
    have c_1 : (decide (ok6 ss ∧ okR x y)) = true := b2i_n0.mp c_1
    have c_1 : ok6 ss ∧ okR x y := of_decide_eq_true c_1
    obtain ⟨⟨hs1, hs2⟩, hr1, hr2, hr3, hr4, hr5⟩ := c_1
    obtain ⟨sN, hsN, rfl⟩ := okX (N := 6) (by decide) ⟨hs1, hs2⟩
    obtain ⟨fN, hfN, rfl⟩ := okX (N := 4096) (by decide) ⟨hr1, hr2⟩
    obtain ⟨tN, htN, rfl⟩ := okX (N := 4096) (by decide) ⟨hr3, hr4⟩
    have hft : fN ≤ tN := (nI_leI (by omega) (by omega)).mp hr5
    have hok : ok6 (nI sN) ∧ okR (nI fN) (nI tN) := ⟨okN hsN (by decide), (okN hfN (by decide)).1, (okN hfN (by decide)).2, (okN htN (by decide)).1, (okN htN (by decide)).2, hr5⟩
    have h8 := ct_le (fi.1.1 sN) fN (tN - fN + 1)
    refine lv_iload_n hx hb dX4_add_9 rfl (lv_at hl 3 rfl) ?_
    refine lv_iload_n hx hb dX4_add_10 rfl (lv_at hl 2 rfl) ?_
    refine lv_isub hx hb dX4_add_11 ?_
    refine top_i (pk_sub (a := tN) (b := fN) (by omega)) ?_
    refine lv_iconst (v := (nI 1)) hx hb dX4_add_12 (by decide) ?_
    refine lv_iadd hx hb dX4_add_13 ?_
    refine top_i (nI_add (tN - fN) 1) ?_
    refine lv_aload_n hx hb dX4_add_14 rfl (lv_at hl 0 rfl) ?_
    refine lv_iload_n hx hb dX4_add_15 rfl (lv_at hl 1 rfl) ?_
    refine lv_iload_n hx hb dX4_add_16 rfl (lv_at hl 2 rfl) ?_
    refine lv_iload_n hx hb dX4_add_17 rfl (lv_at hl 3 rfl) ?_
    refine lv_iconst (v := (nI 1)) hx hb dX4_add_18 (by decide) ?_
    refine va_calli (va_runV (As := [.int (nI sN), .int (nI fN), .int (nI tN), .int (nI 1)]) (rest := [.int (nI ((tN - fN) + 1))]) ⟨hx, hb, hml, hown, hts⟩ (k_X4_turns l D T M Sy fi sN fN tN 1 (hsN) (hft) (htN) (by decide)) (cwV 4 hts gX4_add_X4_turns rfl rfl rfl (by decide +kernel) ⟨Nat.le_of_ble_eq_true rfl, Nat.le_of_ble_eq_true rfl⟩) (pre_V (Φ := fun X => MSE D T X M Sy fi) hK (hM.2.1) rfl hH) rfl rfl hl.1 rfl (lv_room (Nat.le_of_ble_eq_true rfl)) dX4_add_19 ⟨Nat.le_of_ble_eq_true rfl, Nat.le_of_ble_eq_true rfl⟩) hS (fun q _ h => h) (fun q h => h) (fun r_2 u_1 t H_1 locs ht hvm hw hB hz hk hS => ?_)
    rw [ht] at hB
    try dsimp only at hw
    try dsimp only at hB
    subst hw
    have hM9 := hB
    refine lv_isub hx hb dX4_add_22 ?_
    refine top_i (pk_sub (a := (tN - fN) + 1) (b := ct (fi.1.1 sN) fN (tN - fN + 1)) (by omega)) ?_
    refine lv_goto (tgt := 27) hx hb dX4_add_23 (by decide) ?_
    subst hQ
    have hfin : MSE D T H_1 M Sy (addN fi (nI sN) (nI fN) (nI tN)) := by
      unfold addN
      rw [if_pos hok, cl_n (by omega), cl_n (by omega), cl_n (by omega)]
      exact hM9
    exact W.iret (v := (nI (((tN - fN) + 1) - (ct (fi.1.1 sN) fN (tN - fN + 1))))) hx hb hr (fun t ht hW => ⟨⟨(nI (((tN - fN) + 1) - (ct (fi.1.1 sN) fN (tN - fN + 1)))), (), rfl, (by unfold addR; rw [if_pos hok, cl_n (by omega), cl_n (by omega), cl_n (by omega)]), by have h9 := hfin; rw [← ht] at h9; exact h9⟩, hS.F ht⟩) hS.2.2 dX4_add_27
set_option maxHeartbeats 1000000 in
set_option maxRecDepth 100000 in
theorem k_X4_remove (l : Launch) (D : va_G) (T : Nat → ClassId) (M : Nat → Nat) (Sy : Nat → Prop) (fi : FS) (ss : Int32) (x : Int32) (y : Int32) : Met l yX4_remove wsX4_remove ({ frames := 5, cells := 0, slots := 0, locals := 118 }) (va_Pc [.ref (M 0), .int ss, .int x, .int y] (fun U => KS D T U ∧ MSE D T U.heap M Sy fi)) (va_Qi (fun (r : Int32) (u : Unit) => r = (remR fi ss x y)) (fun u t => MSE D T t.heap M Sy (remN fi ss x y)) (Sy)) 0 0 (Sy) := by
  refine Met.ofW (cc := cX4_remove) (maxL := 4) (ret := (some .int)) (by decide) rfl ?_
  intro pg ev s m args below meth c s₁ B hml hv
  obtain ⟨rfl, hK, hH⟩ := hv
  have hx := B.exec
  have hb := B.bytes
  have hr := B.returns
  have hts := atoms_spec (ws := wsX4_remove) B.pre
  have hown : s.vm.findClass RX4 = some m.cls := findClass_of_methodNamed B.named
  have hlocks := B.notSynchronized
  have in_wsX40 : ∀ w ∈ wsX40, w ∈ wsX4_remove := fun w h => List.mem_cons_of_mem _ (List.mem_append_right _ h)
  have hS : va_S (Sy) s.heap s.heap [] := va_S.rf
  have hl := lv_entry ([.ref (M 0), .int ss, .int x, .int y]) (n := 4) (Nat.le_of_ble_eq_true rfl)
  rw [lg_entry_eq]
  generalize (lg_sl ([.ref (M 0), .int ss, .int x, .int y]) ++ List.replicate (4 - (lg_sl ([.ref (M 0), .int ss, .int x, .int y])).length) Slot.unset).toArray = ls at hl ⊢
  have hl : lv_has ls 4 [(0, .ref (M 0)), (1, .int ss), (2, .int x), (3, .int y)] := hl
  refine W_gen (fun Q hQ => ?_)
  obtain ⟨v, as, pa, bi, at0, hM, hSy, hrb, hbl, hk5, hR0, hRh⟩ := id hH
  refine lv_iload_n hx hb dX4_remove_0 rfl (lv_at hl 1 rfl) ?_
  refine lv_iload_n hx hb dX4_remove_1 rfl (lv_at hl 2 rfl) ?_
  refine lv_iload_n hx hb dX4_remove_2 rfl (lv_at hl 3 rfl) ?_
  refine vp_callSi (va_Run.run (va_runS (As := [.int ss, .int x, .int y]) (rest := []) ⟨hx, hb, hml, hown, hts⟩ (k_X4_isRange l D T ss x y ) (va_cwS 3 hts gX4_remove_X4_isRange rfl rfl rfl (by decide +kernel) ⟨Nat.le_of_ble_eq_true rfl, Nat.le_of_ble_eq_true rfl⟩) (pre_S (Φ := fun X => True) hK trivial) rfl rfl hl.1 rfl (lv_room (Nat.le_of_ble_eq_true rfl)) dX4_remove_3 ⟨Nat.le_of_ble_eq_true rfl, Nat.le_of_ble_eq_true rfl⟩)) (fun r_1 hr_1 => ?_)
  subst hr_1
  refine lv_if_eq (tgt := 20) hx hb dX4_remove_6 (by decide) (fun c_1 => ?_) (fun c_1 => ?_)
  · skip
    have c_1 : (decide (ok6 ss ∧ okR x y)) = false := b2i_0.mp c_1
    have c_1 : ¬ (ok6 ss ∧ okR x y) := of_decide_eq_false c_1
    refine lv_iconst (v := (-1)) hx hb dX4_remove_20 (by decide) ?_
    subst hQ
    have hfin : MSE D T s.heap M Sy (remN fi ss x y) := by unfold remN; rw [if_neg c_1]; exact hH
    exact W.iret (v := (-1)) hx hb hr (fun t ht hW => ⟨⟨(-1), (), rfl, ((if_neg c_1).symm), by have h9 := hfin; rw [← ht] at h9; exact h9⟩, hS.F ht⟩) hS.2.2 dX4_remove_21
  · skip
    have c_1 : (decide (ok6 ss ∧ okR x y)) = true := b2i_n0.mp c_1
    have c_1 : ok6 ss ∧ okR x y := of_decide_eq_true c_1
    obtain ⟨⟨hs1, hs2⟩, hr1, hr2, hr3, hr4, hr5⟩ := c_1
    obtain ⟨sN, hsN, rfl⟩ := okX (N := 6) (by decide) ⟨hs1, hs2⟩
    obtain ⟨fN, hfN, rfl⟩ := okX (N := 4096) (by decide) ⟨hr1, hr2⟩
    obtain ⟨tN, htN, rfl⟩ := okX (N := 4096) (by decide) ⟨hr3, hr4⟩
    have hft : fN ≤ tN := (nI_leI (by omega) (by omega)).mp hr5
    have hok : ok6 (nI sN) ∧ okR (nI fN) (nI tN) := ⟨okN hsN (by decide), (okN hfN (by decide)).1, (okN hfN (by decide)).2, (okN htN (by decide)).1, (okN htN (by decide)).2, hr5⟩
    have h8 := ct_le (fi.1.1 sN) fN (tN - fN + 1)
    refine lv_aload_n hx hb dX4_remove_9 rfl (lv_at hl 0 rfl) ?_
    refine lv_iload_n hx hb dX4_remove_10 rfl (lv_at hl 1 rfl) ?_
    refine lv_iload_n hx hb dX4_remove_11 rfl (lv_at hl 2 rfl) ?_
    refine lv_iload_n hx hb dX4_remove_12 rfl (lv_at hl 3 rfl) ?_
    refine lv_iconst (v := (nI 0)) hx hb dX4_remove_13 (by decide) ?_
    refine va_calli (va_runV (As := [.int (nI sN), .int (nI fN), .int (nI tN), .int (nI 0)]) (rest := []) ⟨hx, hb, hml, hown, hts⟩ (k_X4_turns l D T M Sy fi sN fN tN 0 (hsN) (hft) (htN) (by decide)) (cwV 4 hts gX4_remove_X4_turns rfl rfl rfl (by decide +kernel) ⟨Nat.le_of_ble_eq_true rfl, Nat.le_of_ble_eq_true rfl⟩) (pre_V (Φ := fun X => MSE D T X M Sy fi) hK (hM.2.1) rfl hH) rfl rfl hl.1 rfl (lv_room (Nat.le_of_ble_eq_true rfl)) dX4_remove_14 ⟨Nat.le_of_ble_eq_true rfl, Nat.le_of_ble_eq_true rfl⟩) hS (fun q _ h => h) (fun q h => h) (fun r_2 u_1 t H_1 locs ht hvm hw hB hz hk hS => ?_)
    rw [ht] at hB
    try dsimp only at hw
    try dsimp only at hB
    subst hw
    have hM9 := hB
    refine lv_goto (tgt := 21) hx hb dX4_remove_17 (by decide) ?_
    subst hQ
    have hfin : MSE D T H_1 M Sy (remN fi (nI sN) (nI fN) (nI tN)) := by
      unfold remN
      rw [if_pos hok, cl_n (by omega), cl_n (by omega), cl_n (by omega)]
      exact hM9
    exact W.iret (v := (nI (ct (fi.1.1 sN) fN (tN - fN + 1)))) hx hb hr (fun t ht hW => ⟨⟨(nI (ct (fi.1.1 sN) fN (tN - fN + 1))), (), rfl, (by unfold remR; rw [if_pos hok, cl_n (by omega), cl_n (by omega), cl_n (by omega)]), by have h9 := hfin; rw [← ht] at h9; exact h9⟩, hS.F ht⟩) hS.2.2 dX4_remove_21
set_option maxHeartbeats 1000000 in
set_option maxRecDepth 100000 in
theorem k_X4_flip (l : Launch) (D : va_G) (T : Nat → ClassId) (M : Nat → Nat) (Sy : Nat → Prop) (fi : FS) (ss : Int32) (x : Int32) (y : Int32) : Met l yX4_flip wsX4_flip ({ frames := 5, cells := 0, slots := 0, locals := 118 }) (va_Pc [.ref (M 0), .int ss, .int x, .int y] (fun U => KS D T U ∧ MSE D T U.heap M Sy fi)) (va_Qi (fun (r : Int32) (u : Unit) => r = (addR fi ss x y)) (fun u t => MSE D T t.heap M Sy (flpN fi ss x y)) (Sy)) 0 0 (Sy) := by
  refine Met.ofW (cc := cX4_flip) (maxL := 4) (ret := (some .int)) (by decide) rfl ?_
  intro pg ev s m args below meth c s₁ B hml hv
  obtain ⟨rfl, hK, hH⟩ := hv
  have hx := B.exec
  have hb := B.bytes
  have hr := B.returns
  have hts := atoms_spec (ws := wsX4_flip) B.pre
  have hown : s.vm.findClass RX4 = some m.cls := findClass_of_methodNamed B.named
  have hlocks := B.notSynchronized
  have in_wsX40 : ∀ w ∈ wsX40, w ∈ wsX4_flip := fun w h => List.mem_cons_of_mem _ (List.mem_append_right _ h)
  have hS : va_S (Sy) s.heap s.heap [] := va_S.rf
  have hl := lv_entry ([.ref (M 0), .int ss, .int x, .int y]) (n := 4) (Nat.le_of_ble_eq_true rfl)
  rw [lg_entry_eq]
  generalize (lg_sl ([.ref (M 0), .int ss, .int x, .int y]) ++ List.replicate (4 - (lg_sl ([.ref (M 0), .int ss, .int x, .int y])).length) Slot.unset).toArray = ls at hl ⊢
  have hl : lv_has ls 4 [(0, .ref (M 0)), (1, .int ss), (2, .int x), (3, .int y)] := hl
  refine W_gen (fun Q hQ => ?_)
  obtain ⟨v, as, pa, bi, at0, hM, hSy, hrb, hbl, hk5, hR0, hRh⟩ := id hH
  refine lv_iload_n hx hb dX4_flip_0 rfl (lv_at hl 1 rfl) ?_
  refine lv_iload_n hx hb dX4_flip_1 rfl (lv_at hl 2 rfl) ?_
  refine lv_iload_n hx hb dX4_flip_2 rfl (lv_at hl 3 rfl) ?_
  refine vp_callSi (va_Run.run (va_runS (As := [.int ss, .int x, .int y]) (rest := []) ⟨hx, hb, hml, hown, hts⟩ (k_X4_isRange l D T ss x y ) (va_cwS 3 hts gX4_flip_X4_isRange rfl rfl rfl (by decide +kernel) ⟨Nat.le_of_ble_eq_true rfl, Nat.le_of_ble_eq_true rfl⟩) (pre_S (Φ := fun X => True) hK trivial) rfl rfl hl.1 rfl (lv_room (Nat.le_of_ble_eq_true rfl)) dX4_flip_3 ⟨Nat.le_of_ble_eq_true rfl, Nat.le_of_ble_eq_true rfl⟩)) (fun r_1 hr_1 => ?_)
  subst hr_1
  refine lv_if_eq (tgt := 26) hx hb dX4_flip_6 (by decide) (fun c_1 => ?_) (fun c_1 => ?_)
  · skip
    have c_1 : (decide (ok6 ss ∧ okR x y)) = false := b2i_0.mp c_1
    have c_1 : ¬ (ok6 ss ∧ okR x y) := of_decide_eq_false c_1
    refine lv_iconst (v := (-1)) hx hb dX4_flip_26 (by decide) ?_
    subst hQ
    have hfin : MSE D T s.heap M Sy (flpN fi ss x y) := by unfold flpN; rw [if_neg c_1]; exact hH
    exact W.iret (v := (-1)) hx hb hr (fun t ht hW => ⟨⟨(-1), (), rfl, ((if_neg c_1).symm), by have h9 := hfin; rw [← ht] at h9; exact h9⟩, hS.F ht⟩) hS.2.2 dX4_flip_27
  · skip
    have c_1 : (decide (ok6 ss ∧ okR x y)) = true := b2i_n0.mp c_1
    have c_1 : ok6 ss ∧ okR x y := of_decide_eq_true c_1
    obtain ⟨⟨hs1, hs2⟩, hr1, hr2, hr3, hr4, hr5⟩ := c_1
    obtain ⟨sN, hsN, rfl⟩ := okX (N := 6) (by decide) ⟨hs1, hs2⟩
    obtain ⟨fN, hfN, rfl⟩ := okX (N := 4096) (by decide) ⟨hr1, hr2⟩
    obtain ⟨tN, htN, rfl⟩ := okX (N := 4096) (by decide) ⟨hr3, hr4⟩
    have hft : fN ≤ tN := (nI_leI (by omega) (by omega)).mp hr5
    have hok : ok6 (nI sN) ∧ okR (nI fN) (nI tN) := ⟨okN hsN (by decide), (okN hfN (by decide)).1, (okN hfN (by decide)).2, (okN htN (by decide)).1, (okN htN (by decide)).2, hr5⟩
    have h8 := ct_le (fi.1.1 sN) fN (tN - fN + 1)
    refine lv_iload_n hx hb dX4_flip_9 rfl (lv_at hl 3 rfl) ?_
    refine lv_iload_n hx hb dX4_flip_10 rfl (lv_at hl 2 rfl) ?_
    refine lv_isub hx hb dX4_flip_11 ?_
    refine top_i (pk_sub (a := tN) (b := fN) (by omega)) ?_
    refine lv_iconst (v := (nI 1)) hx hb dX4_flip_12 (by decide) ?_
    refine lv_iadd hx hb dX4_flip_13 ?_
    refine top_i (nI_add (tN - fN) 1) ?_
    refine lv_aload_n hx hb dX4_flip_14 rfl (lv_at hl 0 rfl) ?_
    refine lv_iload_n hx hb dX4_flip_15 rfl (lv_at hl 1 rfl) ?_
    refine lv_iload_n hx hb dX4_flip_16 rfl (lv_at hl 2 rfl) ?_
    refine lv_iload_n hx hb dX4_flip_17 rfl (lv_at hl 3 rfl) ?_
    refine lv_iconst (v := (nI 2)) hx hb dX4_flip_18 (by decide) ?_
    refine va_calli (va_runV (As := [.int (nI sN), .int (nI fN), .int (nI tN), .int (nI 2)]) (rest := [.int (nI ((tN - fN) + 1))]) ⟨hx, hb, hml, hown, hts⟩ (k_X4_turns l D T M Sy fi sN fN tN 2 (hsN) (hft) (htN) (by decide)) (cwV 4 hts gX4_flip_X4_turns rfl rfl rfl (by decide +kernel) ⟨Nat.le_of_ble_eq_true rfl, Nat.le_of_ble_eq_true rfl⟩) (pre_V (Φ := fun X => MSE D T X M Sy fi) hK (hM.2.1) rfl hH) rfl rfl hl.1 rfl (lv_room (Nat.le_of_ble_eq_true rfl)) dX4_flip_19 ⟨Nat.le_of_ble_eq_true rfl, Nat.le_of_ble_eq_true rfl⟩) hS (fun q _ h => h) (fun q h => h) (fun r_2 u_1 t H_1 locs ht hvm hw hB hz hk hS => ?_)
    rw [ht] at hB
    try dsimp only at hw
    try dsimp only at hB
    subst hw
    have hM9 := hB
    refine lv_isub hx hb dX4_flip_22 ?_
    refine top_i (pk_sub (a := (tN - fN) + 1) (b := ct (fi.1.1 sN) fN (tN - fN + 1)) (by omega)) ?_
    refine lv_goto (tgt := 27) hx hb dX4_flip_23 (by decide) ?_
    subst hQ
    have hfin : MSE D T H_1 M Sy (flpN fi (nI sN) (nI fN) (nI tN)) := by
      unfold flpN
      rw [if_pos hok, cl_n (by omega), cl_n (by omega), cl_n (by omega)]
      exact hM9
    exact W.iret (v := (nI (((tN - fN) + 1) - (ct (fi.1.1 sN) fN (tN - fN + 1))))) hx hb hr (fun t ht hW => ⟨⟨(nI (((tN - fN) + 1) - (ct (fi.1.1 sN) fN (tN - fN + 1)))), (), rfl, (by unfold addR; rw [if_pos hok, cl_n (by omega), cl_n (by omega), cl_n (by omega)]), by have h9 := hfin; rw [← ht] at h9; exact h9⟩, hS.F ht⟩) hS.2.2 dX4_flip_27
