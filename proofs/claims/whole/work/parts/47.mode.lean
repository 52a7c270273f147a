set_option maxHeartbeats 1000000 in
set_option maxRecDepth 100000 in
theorem k_X4_isKind (l : Launch) (D : va_G) (T : Nat → ClassId) (M : Nat → Nat) (v : Nat → Int32) (as : Nat → Int32) (pa : Nat → Int32) (pk : Nat) (rb : Nat → Nat) (bm : Nat) (bi : Nat → Int32) (at0 : Nat) (k : Nat) (kq : Nat) (hbm : bm ≤ 200) (hrb : ∀ i, rb i < 256) (hat0 : at0 ≤ bm) (hk : k < 16) (hkq : kq < 3) : Met l yX4_isKind wsX4_isKind ({ frames := 1, cells := 0, slots := 0, locals := 23 }) (va_Pc [.ref (M 0), .int (nI k), .int (nI kq)] (fun U => KS D T U ∧ MO D T U.heap M v as pa pk (fun i => nI (rb i)) bm bi at0)) (vp_Si (fun r => r = (b2i (decide (pkd (bB bi) k = nI kq))))) 0 0 (fun _ => False) := by
  refine Met.ofW (cc := cX4_isKind) (maxL := 8) (ret := (some .boolean)) (by decide) rfl ?_
  intro pg ev s m args below meth c s₁ B hml hv
  obtain ⟨rfl, hK, hH⟩ := hv
  have hx := B.exec
  have hb := B.bytes
  have hr := B.returns
  have hts := atoms_spec (ws := wsX4_isKind) B.pre
  have hown : s.vm.findClass RX4 = some m.cls := findClass_of_methodNamed B.named
  have hlocks := B.notSynchronized
  have in_wsX40 : ∀ w ∈ wsX40, w ∈ wsX4_isKind := fun w h => List.mem_cons_of_mem _ (List.mem_append_right _ h)
  have hl := lv_entry ([.ref (M 0), .int (nI k), .int (nI kq)]) (n := 8) (Nat.le_of_ble_eq_true rfl)
  rw [lg_entry_eq]
  generalize (lg_sl ([.ref (M 0), .int (nI k), .int (nI kq)]) ++ List.replicate (8 - (lg_sl ([.ref (M 0), .int (nI k), .int (nI kq)])).length) Slot.unset).toArray = ls at hl ⊢
  have hl : lv_has ls 8 [(0, .ref (M 0)), (1, .int (nI k)), (2, .int (nI kq))] := hl
  refine W_gen (fun Q hQ => ?_)
  have hM := hH
  refine lv_iconst (v := (nI 0)) hx hb dX4_isKind_0 (by decide) ?_
  refine lv_istore_n (lv' := [(3, .int (nI 0)), (0, .ref (M 0)), (1, .int (nI k)), (2, .int (nI kq))]) hx hb dX4_isKind_1 rfl hl (by decide) rfl (fun ls hl => ?_)
  refine lv_iconst (v := (nI 0)) hx hb dX4_isKind_2 (by decide) ?_
  refine lv_istore (lv' := [(4, .int (nI 0)), (3, .int (nI 0)), (0, .ref (M 0)), (1, .int (nI k)), (2, .int (nI kq))]) hx hb dX4_isKind_3 hl (by decide) rfl (fun ls hl => ?_)
  refine lv_iconst (v := (nI 0)) hx hb dX4_isKind_5 (by decide) ?_
  refine lv_istore (lv' := [(5, .int (nI 0)), (4, .int (nI 0)), (3, .int (nI 0)), (0, .ref (M 0)), (1, .int (nI k)), (2, .int (nI kq))]) hx hb dX4_isKind_6 hl (by decide) rfl (fun ls hl => ?_)
  refine lv_sipush (v := (nI 256)) hx hb dX4_isKind_8 (by decide) ?_
  refine lv_iload_n hx hb dX4_isKind_11 rfl (lv_at hl 4 rfl) ?_
  refine lv_imul hx hb dX4_isKind_12 ?_
  refine top_i (pk_mul 256 k) ?_
  refine lv_istore (lv' := [(6, .int (nI (256 * k))), (5, .int (nI 0)), (4, .int (nI 0)), (3, .int (nI 0)), (0, .ref (M 0)), (1, .int (nI k)), (2, .int (nI kq))]) hx hb dX4_isKind_13 hl (by decide) rfl (fun ls hl => ?_)
  have loop15 : ∀ (n15 : Nat) (i : Nat) (hi : i ≤ 256) (ls : Array Slot) (hl : lv_has ls 8 [(0, .ref (M 0)), (1, .int (nI k)), (2, .int (nI kq)), (3, .int (nI (ct (bB bi) (256 * k) i))), (4, .int (nI (ct (rsG (bB bi) (256 * k)) (256 * k) i))), (5, .int (b2i (wsB (bB bi) (256 * k) i))), (6, .int (nI (256 * k + i)))]) (hn15 : 256 - i < n15), W pg l ev (headSpec wsX4_isKind ({ frames := 1, cells := 0, slots := 0, locals := 23 })).room s m ([.ref (M 0), .int (nI k), .int (nI kq)] : List Value).toArray below meth c s.heap [] 0 0 Q (F0 m 15 ls []) := by
    intro n15
    induction n15 with
    | zero =>
      intro i hi ls hl hn15
      exact absurd hn15 (Nat.not_lt_zero _)
    | succ n15 ih15 =>
      intro i hi ls hl hn15
      refine lv_iload hx hb dX4_isKind_15 (lv_at hl 6 rfl) ?_
      refine lv_sipush (v := (nI 256)) hx hb dX4_isKind_17 (by decide) ?_
      refine lv_iload_n hx hb dX4_isKind_20 rfl (lv_at hl 1 rfl) ?_
      refine lv_imul hx hb dX4_isKind_21 ?_
      refine top_i (pk_mul 256 k) ?_
      refine lv_sipush (v := (nI 256)) hx hb dX4_isKind_22 (by decide) ?_
      refine lv_iadd hx hb dX4_isKind_25 ?_
      refine top_i (nI_add (256 * k) 256) ?_
      refine lv_icmp_ge (tgt := 101) hx hb dX4_isKind_26 (by decide) (fun c_1 => ?_) (fun c_1 => ?_)
      · skip
        have c_1 : ((256 * k) + 256) ≤ (256 * k + i) := (nI_leI (a := ((256 * k) + 256)) (b := (256 * k + i)) (by omega) (by omega)).mp c_1
        have hn9 := ct_le (bB bi) (256 * k) i
        have hr9 := ct_le (rsG (bB bi) (256 * k)) (256 * k) i
        refine lv_iload_n hx hb dX4_isKind_101 rfl (lv_at hl 3 rfl) ?_
        refine lv_iload hx hb dX4_isKind_102 (lv_at hl 4 rfl) ?_
        refine vp_callSi (va_Run.run (va_runS (As := [.int (nI (ct (bB bi) (256 * k) i)), .int (nI (ct (rsG (bB bi) (256 * k)) (256 * k) i))]) (rest := []) ⟨hx, hb, hml, hown, hts⟩ (k_X4_kindBy l D T (ct (bB bi) (256 * k) i) (ct (rsG (bB bi) (256 * k)) (256 * k) i) (by omega) (by omega)) (va_cwS 2 hts gX4_isKind_X4_kindBy rfl rfl rfl (by decide +kernel) ⟨Nat.le_of_ble_eq_true rfl, Nat.le_of_ble_eq_true rfl⟩) (pre_S (Φ := fun X => True) hK trivial) rfl rfl hl.1 rfl (lv_room (Nat.le_of_ble_eq_true rfl)) dX4_isKind_104 ⟨Nat.le_of_ble_eq_true rfl, Nat.le_of_ble_eq_true rfl⟩)) (fun r_1 hr_1 => ?_)
        subst hr_1
        refine lv_iload_n hx hb dX4_isKind_107 rfl (lv_at hl 2 rfl) ?_
        refine lv_icmp_ne (tgt := 115) hx hb dX4_isKind_108 (by decide) (fun c_2 => ?_) (fun c_2 => ?_)
        · skip
          refine lv_iconst (v := (nI 0)) hx hb dX4_isKind_115 (by decide) ?_
          subst hQ
          refine W.zret (v := (nI 0)) hx hb hr nb0 (fun t ht hW => ⟨(nI 0), rfl, ?_, ht⟩) (fun q h => absurd h List.not_mem_nil) dX4_isKind_116
          rw [show i = 256 by omega] at c_2
          exact r0 (decide_eq_false c_2)
        · skip
          refine lv_iconst (v := (nI 1)) hx hb dX4_isKind_111 (by decide) ?_
          refine lv_goto (tgt := 116) hx hb dX4_isKind_112 (by decide) ?_
          subst hQ
          refine W.zret (v := (nI 1)) hx hb hr nb1 (fun t ht hW => ⟨(nI 1), rfl, ?_, ht⟩) (fun q h => absurd h List.not_mem_nil) dX4_isKind_116
          rw [show i = 256 by omega] at c_2
          exact r1 (decide_eq_true c_2)
      · skip
        have c_1 : ¬ (((256 * k) + 256) ≤ (256 * k + i)) := fun z => c_1 ((nI_leI (a := ((256 * k) + 256)) (b := (256 * k + i)) (by omega) (by omega)).mpr z)
        refine lv_aload_n hx hb dX4_isKind_29 rfl (lv_at hl 0 rfl) ?_
        refine r_get (C := RX4) (Tb := TX4) (N := 8) hx hb hts in_wsX40 hown hK (hM.2.1) rfl 6 (by decide) (hts (.fieldLink RX4 22 "PieceSetsModel" "bits" "[I") (by decide +kernel)) rfl (v := .ref (M 5)) rfl dX4_isKind_30 ?_
        refine lv_iload hx hb dX4_isKind_33 (lv_at hl 6 rfl) ?_
        refine lv_bipush (v := (nI 32)) hx hb dX4_isKind_35 (by decide) ?_
        refine lv_idiv hx hb dX4_isKind_37 (by decide) ?_
        refine top_i (pk_div (a := 256 * k + i) (d := 32) (by omega) (by omega) (by omega)) ?_
        refine r_iald hx hb hK (hM.2.2.2.2.2.2) (i := (256 * k + i) / 32) (by omega) (by decide) dX4_isKind_38 ?_
        refine lv_iload hx hb dX4_isKind_39 (lv_at hl 6 rfl) ?_
        refine lv_bipush (v := (nI 32)) hx hb dX4_isKind_41 (by decide) ?_
        refine lv_irem hx hb dX4_isKind_43 (by decide) ?_
        refine top_i (pk_rem (a := 256 * k + i) (d := 32) (by omega) (by omega) (by omega)) ?_
        refine lv_ishr hx hb dX4_isKind_44 ?_
        refine top_i (x' := (shrI (bi ((256 * k + i) / 32)) (nI ((256 * k + i) % 32)))) rfl ?_
        refine lv_iconst (v := (nI 1)) hx hb dX4_isKind_45 (by decide) ?_
        refine lv_iand hx hb dX4_isKind_46 ?_
        refine top_i (x' := (b2i (bB bi (256 * k + i)))) (sh_bit _ (by omega)) ?_
        refine lv_iconst (v := (nI 1)) hx hb dX4_isKind_47 (by decide) ?_
        refine lv_icmp_ne (tgt := 55) hx hb dX4_isKind_48 (by decide) (fun c_2 => ?_) (fun c_2 => ?_)
        · skip
          have c_2 : bB bi (256 * k + i) = false := Bool.eq_false_iff.mpr (fun z => c_2 (b2i_e1.mpr z))
          refine lv_iconst (v := (nI 0)) hx hb dX4_isKind_55 (by decide) ?_
          refine lv_istore (lv' := [(7, .int (nI 0)), (0, .ref (M 0)), (1, .int (nI k)), (2, .int (nI kq)), (3, .int (nI (ct (bB bi) (256 * k) i))), (4, .int (nI (ct (rsG (bB bi) (256 * k)) (256 * k) i))), (5, .int (b2i (wsB (bB bi) (256 * k) i))), (6, .int (nI (256 * k + i)))]) hx hb dX4_isKind_56 hl (by decide) rfl (fun ls hl => ?_)
          refine lv_iload_n hx hb dX4_isKind_58 rfl (lv_at hl 4 rfl) ?_
          refine lv_iload hx hb dX4_isKind_59 (lv_at hl 0 rfl) ?_
          refine lv_if_eq (tgt := 68) hx hb dX4_isKind_61 (by decide) (fun c_3 => ?_) (fun c_3 => ?_)
          · skip
            refine lv_iconst (v := (nI 0)) hx hb dX4_isKind_68 (by decide) ?_
            refine lv_iadd hx hb dX4_isKind_69 ?_
            refine top_i (nI_add (ct (bB bi) (256 * k) i) 0) ?_
            refine lv_istore_n (lv' := [(3, .int (nI ((ct (bB bi) (256 * k) i) + 0))), (7, .int (nI 0)), (0, .ref (M 0)), (1, .int (nI k)), (2, .int (nI kq)), (4, .int (nI (ct (rsG (bB bi) (256 * k)) (256 * k) i))), (5, .int (b2i (wsB (bB bi) (256 * k) i))), (6, .int (nI (256 * k + i)))]) hx hb dX4_isKind_70 rfl hl (by decide) rfl (fun ls hl => ?_)
            refine lv_iload hx hb dX4_isKind_71 (lv_at hl 5 rfl) ?_
            refine lv_iload hx hb dX4_isKind_73 (lv_at hl 1 rfl) ?_
            refine lv_if_eq (tgt := 87) hx hb dX4_isKind_75 (by decide) (fun c_4 => ?_) (fun c_4 => ?_)
            · skip
              refine lv_iconst (v := (nI 0)) hx hb dX4_isKind_87 (by decide) ?_
              refine lv_iadd hx hb dX4_isKind_88 ?_
              refine top_i (nI_add (ct (rsG (bB bi) (256 * k)) (256 * k) i) 0) ?_
              refine lv_istore (lv' := [(4, .int (nI ((ct (rsG (bB bi) (256 * k)) (256 * k) i) + 0))), (3, .int (nI ((ct (bB bi) (256 * k) i) + 0))), (7, .int (nI 0)), (0, .ref (M 0)), (1, .int (nI k)), (2, .int (nI kq)), (5, .int (b2i (wsB (bB bi) (256 * k) i))), (6, .int (nI (256 * k + i)))]) hx hb dX4_isKind_89 hl (by decide) rfl (fun ls hl => ?_)
              refine lv_iload hx hb dX4_isKind_91 (lv_at hl 2 rfl) ?_
              refine lv_istore (lv' := [(5, .int (nI 0)), (4, .int (nI ((ct (rsG (bB bi) (256 * k)) (256 * k) i) + 0))), (3, .int (nI ((ct (bB bi) (256 * k) i) + 0))), (7, .int (nI 0)), (0, .ref (M 0)), (1, .int (nI k)), (2, .int (nI kq)), (6, .int (nI (256 * k + i)))]) hx hb dX4_isKind_93 hl (by decide) rfl (fun ls hl => ?_)
              refine lv_iinc (v := (nI ((256 * k + i) + 1))) (lv' := [(6, .int (nI ((256 * k + i) + 1))), (5, .int (nI 0)), (4, .int (nI ((ct (rsG (bB bi) (256 * k)) (256 * k) i) + 0))), (3, .int (nI ((ct (bB bi) (256 * k) i) + 0))), (7, .int (nI 0)), (0, .ref (M 0)), (1, .int (nI k)), (2, .int (nI kq))]) hx hb dX4_isKind_95 hl (k := 7) rfl (iinc_n (256 * k + i) 1) (by decide) rfl (fun ls hl => ?_)
              refine lv_goto (tgt := 15) hx hb dX4_isKind_98 (by decide) ?_
              have hl := lv_sub hl (l' := [(0, .ref (M 0)), (1, .int (nI k)), (2, .int (nI kq)), (3, .int (nI ((ct (bB bi) (256 * k) i) + 0))), (4, .int (nI ((ct (rsG (bB bi) (256 * k)) (256 * k) i) + 0))), (5, .int (nI 0)), (6, .int (nI ((256 * k + i) + 1)))]) [5, 6, 7, 3, 2, 1, 0] rfl
              have q_1 : (nI ((ct (bB bi) (256 * k) i) + 0)) = (nI (ct (bB bi) (256 * k) (i + 1))) := by first | rw [ct_end, if_pos c_2] | rw [ct_end, c_2, if_neg Bool.false_ne_true, Nat.add_zero]
              have q_2 : (nI ((ct (rsG (bB bi) (256 * k)) (256 * k) i) + 0)) = (nI (ct (rsG (bB bi) (256 * k)) (256 * k) (i + 1))) := by rw [ct_end, rsG_w, c_2]; first | (rw [c_5]; rfl) | rfl
              have q_3 : (nI 0) = (b2i (wsB (bB bi) (256 * k) (i + 1))) := by rw [wsB_s, c_2]; rfl
              have hl : lv_has ls 8 [(0, .ref (M 0)), (1, .int (nI k)), (2, .int (nI kq)), (3, .int (nI (ct (bB bi) (256 * k) (i + 1)))), (4, .int (nI (ct (rsG (bB bi) (256 * k)) (256 * k) (i + 1)))), (5, .int (b2i (wsB (bB bi) (256 * k) (i + 1)))), (6, .int (nI (256 * k + (i + 1))))] := by
                have h := hl
                rw [q_1] at h
                rw [q_2] at h
                rw [q_3] at h
                exact h
              exact ih15 (i + 1) (by omega) ls hl (by omega)
            · skip
              exact absurd (by decide) c_4
          · skip
            exact absurd (by decide) c_3
        · skip
          have c_2 : bB bi (256 * k + i) = true := b2i_e1.mp c_2
          refine lv_iconst (v := (nI 1)) hx hb dX4_isKind_51 (by decide) ?_
          refine lv_goto (tgt := 56) hx hb dX4_isKind_52 (by decide) ?_
          refine lv_istore (lv' := [(7, .int (nI 1)), (0, .ref (M 0)), (1, .int (nI k)), (2, .int (nI kq)), (3, .int (nI (ct (bB bi) (256 * k) i))), (4, .int (nI (ct (rsG (bB bi) (256 * k)) (256 * k) i))), (5, .int (b2i (wsB (bB bi) (256 * k) i))), (6, .int (nI (256 * k + i)))]) hx hb dX4_isKind_56 hl (by decide) rfl (fun ls hl => ?_)
          refine lv_iload_n hx hb dX4_isKind_58 rfl (lv_at hl 4 rfl) ?_
          refine lv_iload hx hb dX4_isKind_59 (lv_at hl 0 rfl) ?_
          refine lv_if_eq (tgt := 68) hx hb dX4_isKind_61 (by decide) (fun c_3 => ?_) (fun c_3 => ?_)
          · skip
            exact absurd c_3 (by decide)
          · skip
            refine lv_iconst (v := (nI 1)) hx hb dX4_isKind_64 (by decide) ?_
            refine lv_goto (tgt := 69) hx hb dX4_isKind_65 (by decide) ?_
            refine lv_iadd hx hb dX4_isKind_69 ?_
            refine top_i (nI_add (ct (bB bi) (256 * k) i) 1) ?_
            refine lv_istore_n (lv' := [(3, .int (nI ((ct (bB bi) (256 * k) i) + 1))), (7, .int (nI 1)), (0, .ref (M 0)), (1, .int (nI k)), (2, .int (nI kq)), (4, .int (nI (ct (rsG (bB bi) (256 * k)) (256 * k) i))), (5, .int (b2i (wsB (bB bi) (256 * k) i))), (6, .int (nI (256 * k + i)))]) hx hb dX4_isKind_70 rfl hl (by decide) rfl (fun ls hl => ?_)
            refine lv_iload hx hb dX4_isKind_71 (lv_at hl 5 rfl) ?_
            refine lv_iload hx hb dX4_isKind_73 (lv_at hl 1 rfl) ?_
            refine lv_if_eq (tgt := 87) hx hb dX4_isKind_75 (by decide) (fun c_4 => ?_) (fun c_4 => ?_)
            · skip
              exact absurd c_4 (by decide)
            · skip
              refine lv_iload hx hb dX4_isKind_78 (lv_at hl 6 rfl) ?_
              refine lv_if_ne (tgt := 87) hx hb dX4_isKind_80 (by decide) (fun c_5 => ?_) (fun c_5 => ?_)
              · skip
                have c_5 : wsB (bB bi) (256 * k) i = true := b2i_n0.mp c_5
                refine lv_iconst (v := (nI 0)) hx hb dX4_isKind_87 (by decide) ?_
                refine lv_iadd hx hb dX4_isKind_88 ?_
                refine top_i (nI_add (ct (rsG (bB bi) (256 * k)) (256 * k) i) 0) ?_
                refine lv_istore (lv' := [(4, .int (nI ((ct (rsG (bB bi) (256 * k)) (256 * k) i) + 0))), (3, .int (nI ((ct (bB bi) (256 * k) i) + 1))), (7, .int (nI 1)), (0, .ref (M 0)), (1, .int (nI k)), (2, .int (nI kq)), (5, .int (b2i (wsB (bB bi) (256 * k) i))), (6, .int (nI (256 * k + i)))]) hx hb dX4_isKind_89 hl (by decide) rfl (fun ls hl => ?_)
                refine lv_iload hx hb dX4_isKind_91 (lv_at hl 2 rfl) ?_
                refine lv_istore (lv' := [(5, .int (nI 1)), (4, .int (nI ((ct (rsG (bB bi) (256 * k)) (256 * k) i) + 0))), (3, .int (nI ((ct (bB bi) (256 * k) i) + 1))), (7, .int (nI 1)), (0, .ref (M 0)), (1, .int (nI k)), (2, .int (nI kq)), (6, .int (nI (256 * k + i)))]) hx hb dX4_isKind_93 hl (by decide) rfl (fun ls hl => ?_)
                refine lv_iinc (v := (nI ((256 * k + i) + 1))) (lv' := [(6, .int (nI ((256 * k + i) + 1))), (5, .int (nI 1)), (4, .int (nI ((ct (rsG (bB bi) (256 * k)) (256 * k) i) + 0))), (3, .int (nI ((ct (bB bi) (256 * k) i) + 1))), (7, .int (nI 1)), (0, .ref (M 0)), (1, .int (nI k)), (2, .int (nI kq))]) hx hb dX4_isKind_95 hl (k := 7) rfl (iinc_n (256 * k + i) 1) (by decide) rfl (fun ls hl => ?_)
                refine lv_goto (tgt := 15) hx hb dX4_isKind_98 (by decide) ?_
                have hl := lv_sub hl (l' := [(0, .ref (M 0)), (1, .int (nI k)), (2, .int (nI kq)), (3, .int (nI ((ct (bB bi) (256 * k) i) + 1))), (4, .int (nI ((ct (rsG (bB bi) (256 * k)) (256 * k) i) + 0))), (5, .int (nI 1)), (6, .int (nI ((256 * k + i) + 1)))]) [5, 6, 7, 3, 2, 1, 0] rfl
                have q_1 : (nI ((ct (bB bi) (256 * k) i) + 1)) = (nI (ct (bB bi) (256 * k) (i + 1))) := by first | rw [ct_end, if_pos c_2] | rw [ct_end, c_2, if_neg Bool.false_ne_true, Nat.add_zero]
                have q_2 : (nI ((ct (rsG (bB bi) (256 * k)) (256 * k) i) + 0)) = (nI (ct (rsG (bB bi) (256 * k)) (256 * k) (i + 1))) := by rw [ct_end, rsG_w, c_2]; first | (rw [c_5]; rfl) | rfl
                have q_3 : (nI 1) = (b2i (wsB (bB bi) (256 * k) (i + 1))) := by rw [wsB_s, c_2]; rfl
                have hl : lv_has ls 8 [(0, .ref (M 0)), (1, .int (nI k)), (2, .int (nI kq)), (3, .int (nI (ct (bB bi) (256 * k) (i + 1)))), (4, .int (nI (ct (rsG (bB bi) (256 * k)) (256 * k) (i + 1)))), (5, .int (b2i (wsB (bB bi) (256 * k) (i + 1)))), (6, .int (nI (256 * k + (i + 1))))] := by
                  have h := hl
                  rw [q_1] at h
                  rw [q_2] at h
                  rw [q_3] at h
                  exact h
                exact ih15 (i + 1) (by omega) ls hl (by omega)
              · skip
                have c_5 : wsB (bB bi) (256 * k) i = false := b2i_0.mp c_5
                refine lv_iconst (v := (nI 1)) hx hb dX4_isKind_83 (by decide) ?_
                refine lv_goto (tgt := 88) hx hb dX4_isKind_84 (by decide) ?_
                refine lv_iadd hx hb dX4_isKind_88 ?_
                refine top_i (nI_add (ct (rsG (bB bi) (256 * k)) (256 * k) i) 1) ?_
                refine lv_istore (lv' := [(4, .int (nI ((ct (rsG (bB bi) (256 * k)) (256 * k) i) + 1))), (3, .int (nI ((ct (bB bi) (256 * k) i) + 1))), (7, .int (nI 1)), (0, .ref (M 0)), (1, .int (nI k)), (2, .int (nI kq)), (5, .int (b2i (wsB (bB bi) (256 * k) i))), (6, .int (nI (256 * k + i)))]) hx hb dX4_isKind_89 hl (by decide) rfl (fun ls hl => ?_)
                refine lv_iload hx hb dX4_isKind_91 (lv_at hl 2 rfl) ?_
                refine lv_istore (lv' := [(5, .int (nI 1)), (4, .int (nI ((ct (rsG (bB bi) (256 * k)) (256 * k) i) + 1))), (3, .int (nI ((ct (bB bi) (256 * k) i) + 1))), (7, .int (nI 1)), (0, .ref (M 0)), (1, .int (nI k)), (2, .int (nI kq)), (6, .int (nI (256 * k + i)))]) hx hb dX4_isKind_93 hl (by decide) rfl (fun ls hl => ?_)
                refine lv_iinc (v := (nI ((256 * k + i) + 1))) (lv' := [(6, .int (nI ((256 * k + i) + 1))), (5, .int (nI 1)), (4, .int (nI ((ct (rsG (bB bi) (256 * k)) (256 * k) i) + 1))), (3, .int (nI ((ct (bB bi) (256 * k) i) + 1))), (7, .int (nI 1)), (0, .ref (M 0)), (1, .int (nI k)), (2, .int (nI kq))]) hx hb dX4_isKind_95 hl (k := 7) rfl (iinc_n (256 * k + i) 1) (by decide) rfl (fun ls hl => ?_)
                refine lv_goto (tgt := 15) hx hb dX4_isKind_98 (by decide) ?_
                have hl := lv_sub hl (l' := [(0, .ref (M 0)), (1, .int (nI k)), (2, .int (nI kq)), (3, .int (nI ((ct (bB bi) (256 * k) i) + 1))), (4, .int (nI ((ct (rsG (bB bi) (256 * k)) (256 * k) i) + 1))), (5, .int (nI 1)), (6, .int (nI ((256 * k + i) + 1)))]) [5, 6, 7, 3, 2, 1, 0] rfl
                have q_1 : (nI ((ct (bB bi) (256 * k) i) + 1)) = (nI (ct (bB bi) (256 * k) (i + 1))) := by first | rw [ct_end, if_pos c_2] | rw [ct_end, c_2, if_neg Bool.false_ne_true, Nat.add_zero]
                have q_2 : (nI ((ct (rsG (bB bi) (256 * k)) (256 * k) i) + 1)) = (nI (ct (rsG (bB bi) (256 * k)) (256 * k) (i + 1))) := by rw [ct_end, rsG_w, c_2]; first | (rw [c_5]; rfl) | rfl
                have q_3 : (nI 1) = (b2i (wsB (bB bi) (256 * k) (i + 1))) := by rw [wsB_s, c_2]; rfl
                have hl : lv_has ls 8 [(0, .ref (M 0)), (1, .int (nI k)), (2, .int (nI kq)), (3, .int (nI (ct (bB bi) (256 * k) (i + 1)))), (4, .int (nI (ct (rsG (bB bi) (256 * k)) (256 * k) (i + 1)))), (5, .int (b2i (wsB (bB bi) (256 * k) (i + 1)))), (6, .int (nI (256 * k + (i + 1))))] := by
                  have h := hl
                  rw [q_1] at h
                  rw [q_2] at h
                  rw [q_3] at h
                  exact h
                exact ih15 (i + 1) (by omega) ls hl (by omega)
  have hl := lv_sub hl (l' := [(0, .ref (M 0)), (1, .int (nI k)), (2, .int (nI kq)), (3, .int (nI 0)), (4, .int (nI 0)), (5, .int (nI 0)), (6, .int (nI (256 * k)))]) [4, 5, 6, 3, 2, 1, 0] rfl
  have q_4 : (nI (256 * k)) = (nI (256 * k + 0)) := by first | rfl | (congr 1; omega) | omega
  have hl : lv_has ls 8 [(0, .ref (M 0)), (1, .int (nI k)), (2, .int (nI kq)), (3, .int (nI (ct (bB bi) (256 * k) 0))), (4, .int (nI (ct (rsG (bB bi) (256 * k)) (256 * k) 0))), (5, .int (b2i (wsB (bB bi) (256 * k) 0))), (6, .int (nI (256 * k + 0)))] := by
    have h := hl
    rw [q_4] at h
    exact h
  exact loop15 (256 - 0 + 1) 0 (Nat.zero_le _) ls hl (Nat.lt_succ_self _)
set_option maxHeartbeats 1000000 in
set_option maxRecDepth 100000 in
theorem k_X4_wrongAt (l : Launch) (D : va_G) (T : Nat → ClassId) (M : Nat → Nat) (v : Nat → Int32) (as : Nat → Int32) (pa : Nat → Int32) (pk : Nat) (rb : Nat → Nat) (bm : Nat) (bi : Nat → Int32) (at0 : Nat) (hbm : bm ≤ 200) (hrb : ∀ i, rb i < 256) : Met l yX4_wrongAt wsX4_wrongAt ({ frames := 2, cells := 0, slots := 0, locals := 50 }) (va_Pc [.ref (M 0)] (fun U => KS D T U ∧ MO D T U.heap M v as pa pk (fun i => nI (rb i)) bm bi at0)) (va_Qi (fun (r : Int32) (u : (Nat → Int32) × Nat) => PAllM (pAll rb bm 17 0 0 (fun _ => false)) r u.1) (fun u t => MO D T t.heap M v as pa pk (fun i => nI (rb i)) bm u.1 u.2) (fun q => q = M 5 ∨ q = M 0)) 0 0 (fun q => q = M 5 ∨ q = M 0) := by
  refine Met.ofW (cc := cX4_wrongAt) (maxL := 6) (ret := (some .int)) (by decide) rfl ?_
  intro pg ev s m args below meth c s₁ B hml hv
  obtain ⟨rfl, hK, hH⟩ := hv
  have hx := B.exec
  have hb := B.bytes
  have hr := B.returns
  have hts := atoms_spec (ws := wsX4_wrongAt) B.pre
  have hown : s.vm.findClass RX4 = some m.cls := findClass_of_methodNamed B.named
  have hlocks := B.notSynchronized
  have in_wsX40 : ∀ w ∈ wsX40, w ∈ wsX4_wrongAt := fun w h => List.mem_cons_of_mem _ (List.mem_append_right _ h)
  have hS : va_S (fun q => q = M 5 ∨ q = M 0) s.heap s.heap [] := va_S.rf
  have hl := lv_entry ([.ref (M 0)]) (n := 6) (Nat.le_of_ble_eq_true rfl)
  rw [lg_entry_eq]
  generalize (lg_sl ([.ref (M 0)]) ++ List.replicate (6 - (lg_sl ([.ref (M 0)])).length) Slot.unset).toArray = ls at hl ⊢
  have hl : lv_has ls 6 [(0, .ref (M 0))] := hl
  refine W_gen (fun Q hQ => ?_)
  have hM := hH
  obtain ⟨R0, hR0⟩ : ∃ R, R = pAll rb bm 17 0 0 (fun _ => false) := ⟨_, rfl⟩
  refine lv_iconst (v := (nI 0)) hx hb dX4_wrongAt_0 (by decide) ?_
  refine lv_istore_n (lv' := [(1, .int (nI 0)), (0, .ref (M 0))]) hx hb dX4_wrongAt_1 rfl hl (by decide) rfl (fun ls hl => ?_)
  have loop2 : ∀ (n2 : Nat) (i0 : Nat) (hi : i0 ≤ 128) (H : Heap) (locs : List Loc) (hM : MO D T H M v as pa pk (fun i => nI (rb i)) bm (cpF bi 0 (fun _ => nI 0) i0) at0) (hS : va_S (fun q => q = M 5 ∨ q = M 0) s.heap H locs) (ls : Array Slot) (hl : lv_has ls 6 [(0, .ref (M 0)), (1, .int (nI i0))]) (hn2 : 128 - i0 < n2), W pg l ev (headSpec wsX4_wrongAt ({ frames := 2, cells := 0, slots := 0, locals := 50 })).room s m ([.ref (M 0)] : List Value).toArray below meth c H locs 0 0 Q (F0 m 2 ls []) := by
    intro n2
    induction n2 with
    | zero =>
      intro i0 hi H locs hM hS ls hl hn2
      exact absurd hn2 (Nat.not_lt_zero _)
    | succ n2 ih2 =>
      intro i0 hi H locs hM hS ls hl hn2
      refine lv_iload_n hx hb dX4_wrongAt_2 rfl (lv_at hl 1 rfl) ?_
      refine lv_sipush (v := (nI 128)) hx hb dX4_wrongAt_3 (by decide) ?_
      refine lv_icmp_ge (tgt := 22) hx hb dX4_wrongAt_6 (by decide) (fun c_1 => ?_) (fun c_1 => ?_)
      · skip
        have c_1 : 128 ≤ i0 := (nI_leI (a := 128) (b := i0) (by omega) (by omega)).mp c_1
        refine lv_aload_n hx hb dX4_wrongAt_22 rfl (lv_at hl 0 rfl) ?_
        refine lv_iconst (v := (nI 0)) hx hb dX4_wrongAt_23 (by decide) ?_
        refine r_put (C := RX4) (Tb := TX4) (N := 8) hx hb hts in_wsX40 tyX4 tyX4_ok nmX4 hown hK hS (Or.inr rfl) hM.2.1 rfl 7 (by decide) (hts (.fieldLink RX4 98 "PieceSetsModel" "at" "I") (by decide +kernel)) rfl rfl (ty := .int) (by decide +kernel) rfl rfl (show (7 : Nat) < 8 by decide) dX4_wrongAt_24 (fun H_1 locs hat oq hS => ?_)
        have hM := hM.set0 (pk' := pk) (bm' := bm) (at' := 0) hat (Fr.oq oq)
        refine lv_iconst (v := (-1)) hx hb dX4_wrongAt_27 (by decide) ?_
        refine lv_istore_n (lv' := [(1, .int (-1)), (0, .ref (M 0))]) hx hb dX4_wrongAt_28 rfl hl (by decide) rfl (fun ls hl => ?_)
        have loop29 : ∀ (n29 : Nat) (i : Nat) (j : Nat) (bf : Nat) (g : Nat → Int32) (bb : Nat → Bool) (hi1 : i ≤ 17) (hj1 : j ≤ bm) (hbf1 : i ≤ bf) (hbf2 : bf ≤ 16) (hg : ∀ x, x < 4096 → bB g x = bb x) (hv : pAll rb bm (17 - i) j bf bb = R0) (H : Heap) (locs : List Loc) (hM : MO D T H M v as pa pk (fun i => nI (rb i)) bm g j) (hS : va_S (fun q => q = M 5 ∨ q = M 0) s.heap H locs) (ls : Array Slot) (hl : lv_has ls 6 [(0, .ref (M 0)), (1, .int (bfI bf))]) (hn29 : 17 - i < n29), W pg l ev (headSpec wsX4_wrongAt ({ frames := 2, cells := 0, slots := 0, locals := 50 })).room s m ([.ref (M 0)] : List Value).toArray below meth c H locs 0 0 Q (F0 m 29 ls []) := by
          intro n29
          induction n29 with
          | zero =>
            intro i j bf g bb hi1 hj1 hbf1 hbf2 hg hv H locs hM hS ls hl hn29
            exact absurd hn29 (Nat.not_lt_zero _)
          | succ n29 ih29 =>
            intro i j bf g bb hi1 hj1 hbf1 hbf2 hg hv H locs hM hS ls hl hn29
            have hrbi := hrb j
            refine lv_aload_n hx hb dX4_wrongAt_29 rfl (lv_at hl 0 rfl) ?_
            refine r_get (C := RX4) (Tb := TX4) (N := 8) hx hb hts in_wsX40 hown hK (hM.2.1) rfl 7 (by decide) (hts (.fieldLink RX4 98 "PieceSetsModel" "at" "I") (by decide +kernel)) rfl (v := .int (nI j)) rfl dX4_wrongAt_30 ?_
            refine lv_aload_n hx hb dX4_wrongAt_33 rfl (lv_at hl 0 rfl) ?_
            refine r_get (C := RX4) (Tb := TX4) (N := 8) hx hb hts in_wsX40 hown hK (hM.2.1) rfl 5 (by decide) (hts (.fieldLink RX4 95 "PieceSetsModel" "bufferMany" "I") (by decide +kernel)) rfl (v := .int (nI bm)) rfl dX4_wrongAt_34 ?_
            refine lv_icmp_ge (tgt := 177) hx hb dX4_wrongAt_37 (by decide) (fun c_2 => ?_) (fun c_2 => ?_)
            · skip
              have c_2 : bm ≤ j := (nI_leI (a := bm) (b := j) (by omega) (by omega)).mp c_2
              refine lv_iconst (v := (-1)) hx hb dX4_wrongAt_177 (by decide) ?_
              subst hQ
              exact W.iret (v := (-1)) hx hb hr (fun t ht hW => ⟨⟨(-1), (g, j), rfl, (by rw [← hR0]; exact PAllM_t (hv.symm.trans (by rw [show 17 - i = (17 - (i + 1)) + 1 by omega, pAll_s rb bm (17 - (i + 1)) j bf bb, if_neg (by omega)])) hg), by have h9 := hM; rw [← ht] at h9; exact h9⟩, hS.F ht⟩) hS.2.2 dX4_wrongAt_178
            · skip
              have c_2 : ¬ (bm ≤ j) := fun z => c_2 ((nI_leI (a := bm) (b := j) (by omega) (by omega)).mpr z)
              refine lv_aload_n hx hb dX4_wrongAt_40 rfl (lv_at hl 0 rfl) ?_
              refine r_get (C := RX4) (Tb := TX4) (N := 8) hx hb hts in_wsX40 hown hK (hM.2.1) rfl 7 (by decide) (hts (.fieldLink RX4 98 "PieceSetsModel" "at" "I") (by decide +kernel)) rfl (v := .int (nI j)) rfl dX4_wrongAt_41 ?_
              refine lv_istore_n (lv' := [(2, .int (nI j)), (0, .ref (M 0)), (1, .int (bfI bf))]) hx hb dX4_wrongAt_44 rfl hl (by decide) rfl (fun ls hl => ?_)
              refine lv_aload_n hx hb dX4_wrongAt_45 rfl (lv_at hl 1 rfl) ?_
              refine r_get (C := RX4) (Tb := TX4) (N := 8) hx hb hts in_wsX40 hown hK (hM.2.1) rfl 4 (by decide) (hts (.fieldLink RX4 19 "PieceSetsModel" "buffer" "[I") (by decide +kernel)) rfl (v := .ref (M 4)) rfl dX4_wrongAt_46 ?_
              refine lv_aload_n hx hb dX4_wrongAt_49 rfl (lv_at hl 1 rfl) ?_
              refine r_get (C := RX4) (Tb := TX4) (N := 8) hx hb hts in_wsX40 hown hK (hM.2.1) rfl 7 (by decide) (hts (.fieldLink RX4 98 "PieceSetsModel" "at" "I") (by decide +kernel)) rfl (v := .int (nI j)) rfl dX4_wrongAt_50 ?_
              refine r_iald hx hb hK (hM.2.2.2.2.2.1) (i := j) (by omega) (by decide) dX4_wrongAt_53 ?_
              refine top_i (x' := (nI (rb j))) rfl ?_
              refine lv_iconst (v := (nI 4)) hx hb dX4_wrongAt_54 (by decide) ?_
              refine lv_idiv hx hb dX4_wrongAt_55 (by decide) ?_
              refine top_i (pk_div (a := rb j) (d := 4) (by omega) (by omega) (by omega)) ?_
              refine lv_istore_n (lv' := [(3, .int (nI ((rb j) / 4))), (2, .int (nI j)), (0, .ref (M 0)), (1, .int (bfI bf))]) hx hb dX4_wrongAt_56 rfl hl (by decide) rfl (fun ls hl => ?_)
              refine lv_aload_n hx hb dX4_wrongAt_57 rfl (lv_at hl 2 rfl) ?_
              refine r_get (C := RX4) (Tb := TX4) (N := 8) hx hb hts in_wsX40 hown hK (hM.2.1) rfl 4 (by decide) (hts (.fieldLink RX4 19 "PieceSetsModel" "buffer" "[I") (by decide +kernel)) rfl (v := .ref (M 4)) rfl dX4_wrongAt_58 ?_
              refine lv_aload_n hx hb dX4_wrongAt_61 rfl (lv_at hl 2 rfl) ?_
              refine r_get (C := RX4) (Tb := TX4) (N := 8) hx hb hts in_wsX40 hown hK (hM.2.1) rfl 7 (by decide) (hts (.fieldLink RX4 98 "PieceSetsModel" "at" "I") (by decide +kernel)) rfl (v := .int (nI j)) rfl dX4_wrongAt_62 ?_
              refine r_iald hx hb hK (hM.2.2.2.2.2.1) (i := j) (by omega) (by decide) dX4_wrongAt_65 ?_
              refine top_i (x' := (nI (rb j))) rfl ?_
              refine lv_iconst (v := (nI 4)) hx hb dX4_wrongAt_66 (by decide) ?_
              refine lv_irem hx hb dX4_wrongAt_67 (by decide) ?_
              refine top_i (pk_rem (a := rb j) (d := 4) (by omega) (by omega) (by omega)) ?_
              refine lv_istore (lv' := [(4, .int (nI ((rb j) % 4))), (3, .int (nI ((rb j) / 4))), (2, .int (nI j)), (0, .ref (M 0)), (1, .int (bfI bf))]) hx hb dX4_wrongAt_68 hl (by decide) rfl (fun ls hl => ?_)
              refine lv_aload_n hx hb dX4_wrongAt_70 rfl (lv_at hl 3 rfl) ?_
              refine r_get (C := RX4) (Tb := TX4) (N := 8) hx hb hts in_wsX40 hown hK (hM.2.1) rfl 4 (by decide) (hts (.fieldLink RX4 19 "PieceSetsModel" "buffer" "[I") (by decide +kernel)) rfl (v := .ref (M 4)) rfl dX4_wrongAt_71 ?_
              refine lv_aload_n hx hb dX4_wrongAt_74 rfl (lv_at hl 3 rfl) ?_
              refine r_get (C := RX4) (Tb := TX4) (N := 8) hx hb hts in_wsX40 hown hK (hM.2.1) rfl 7 (by decide) (hts (.fieldLink RX4 98 "PieceSetsModel" "at" "I") (by decide +kernel)) rfl (v := .int (nI j)) rfl dX4_wrongAt_75 ?_
              refine r_iald hx hb hK (hM.2.2.2.2.2.1) (i := j) (by omega) (by decide) dX4_wrongAt_78 ?_
              refine top_i (x' := (nI (rb j))) rfl ?_
              refine lv_bipush (v := (nI 63)) hx hb dX4_wrongAt_79 (by decide) ?_
              refine lv_icmp_gt (tgt := 95) hx hb dX4_wrongAt_81 (by decide) (fun c_3 => ?_) (fun c_3 => ?_)
              · skip
                have c_3 : 63 < (rb j) := (nI_ltI (a := 63) (b := (rb j)) (by omega) (by omega)).mp c_3
                have hbad : 16 ≤ rb j / 4 ∨ rb j % 4 = 3 ∨ rb j / 4 < bf := Or.inl (by omega)
                refine lv_aload_n hx hb dX4_wrongAt_95 rfl (lv_at hl 3 rfl) ?_
                refine r_get (C := RX4) (Tb := TX4) (N := 8) hx hb hts in_wsX40 hown hK (hM.2.1) rfl 7 (by decide) (hts (.fieldLink RX4 98 "PieceSetsModel" "at" "I") (by decide +kernel)) rfl (v := .int (nI j)) rfl dX4_wrongAt_96 ?_
                subst hQ
                exact W.iret (v := (nI j)) hx hb hr (fun t ht hW => ⟨⟨(nI j), (g, j), rfl, (by rw [← hR0]; exact PAllM_e (hv.symm.trans (by rw [show 17 - i = (17 - (i + 1)) + 1 by omega, pAll_s rb bm (17 - (i + 1)) j bf bb, if_pos (by omega), if_pos hbad])) rfl), by have h9 := hM; rw [← ht] at h9; exact h9⟩, hS.F ht⟩) hS.2.2 dX4_wrongAt_99
              · skip
                have c_3 : ¬ (63 < (rb j)) := fun z => c_3 ((nI_ltI (a := 63) (b := (rb j)) (by omega) (by omega)).mpr z)
                refine lv_iload hx hb dX4_wrongAt_84 (lv_at hl 0 rfl) ?_
                refine lv_iconst (v := (nI 3)) hx hb dX4_wrongAt_86 (by decide) ?_
                refine lv_icmp_eq (tgt := 95) hx hb dX4_wrongAt_87 (by decide) (fun c_4 => ?_) (fun c_4 => ?_)
                · skip
                  have c_4 : ((rb j) % 4) = 3 := (nI_eq (a := ((rb j) % 4)) (b := 3) (by omega) (by omega)).mp c_4
                  have hbad : 16 ≤ rb j / 4 ∨ rb j % 4 = 3 ∨ rb j / 4 < bf := Or.inr (Or.inl c_4)
                  refine lv_aload_n hx hb dX4_wrongAt_95 rfl (lv_at hl 3 rfl) ?_
                  refine r_get (C := RX4) (Tb := TX4) (N := 8) hx hb hts in_wsX40 hown hK (hM.2.1) rfl 7 (by decide) (hts (.fieldLink RX4 98 "PieceSetsModel" "at" "I") (by decide +kernel)) rfl (v := .int (nI j)) rfl dX4_wrongAt_96 ?_
                  subst hQ
                  exact W.iret (v := (nI j)) hx hb hr (fun t ht hW => ⟨⟨(nI j), (g, j), rfl, (by rw [← hR0]; exact PAllM_e (hv.symm.trans (by rw [show 17 - i = (17 - (i + 1)) + 1 by omega, pAll_s rb bm (17 - (i + 1)) j bf bb, if_pos (by omega), if_pos hbad])) rfl), by have h9 := hM; rw [← ht] at h9; exact h9⟩, hS.F ht⟩) hS.2.2 dX4_wrongAt_99
                · skip
                  have c_4 : ¬ (((rb j) % 4) = 3) := fun z => c_4 ((nI_eq (a := ((rb j) % 4)) (b := 3) (by omega) (by omega)).mpr z)
                  refine lv_iload_n hx hb dX4_wrongAt_90 rfl (lv_at hl 1 rfl) ?_
                  refine lv_iload_n hx hb dX4_wrongAt_91 rfl (lv_at hl 4 rfl) ?_
                  refine lv_icmp_gt (tgt := 100) hx hb dX4_wrongAt_92 (by decide) (fun c_5 => ?_) (fun c_5 => ?_)
                  · skip
                    have hbf3 : bf ≤ rb j / 4 := (bfI_lt (by omega) (by omega)).mp c_5
                    have hgood : ¬ (16 ≤ rb j / 4 ∨ rb j % 4 = 3 ∨ rb j / 4 < bf) := by omega
                    have hpat := pPc_at rb bm (rb j / 4) (rb j % 4) (j + 1) bb (by omega)
                    refine lv_aload_n hx hb dX4_wrongAt_100 rfl (lv_at hl 3 rfl) ?_
                    refine lv_dup hx hb dX4_wrongAt_101 rfl ?_
                    refine r_get (C := RX4) (Tb := TX4) (N := 8) hx hb hts in_wsX40 hown hK (hM.2.1) rfl 7 (by decide) (hts (.fieldLink RX4 98 "PieceSetsModel" "at" "I") (by decide +kernel)) rfl (v := .int (nI j)) rfl dX4_wrongAt_102 ?_
                    refine lv_iconst (v := (nI 1)) hx hb dX4_wrongAt_105 (by decide) ?_
                    refine lv_iadd hx hb dX4_wrongAt_106 ?_
                    refine top_i (nI_add j 1) ?_
                    refine r_put (C := RX4) (Tb := TX4) (N := 8) hx hb hts in_wsX40 tyX4 tyX4_ok nmX4 hown hK hS (Or.inr rfl) hM.2.1 rfl 7 (by decide) (hts (.fieldLink RX4 98 "PieceSetsModel" "at" "I") (by decide +kernel)) rfl rfl (ty := .int) (by decide +kernel) rfl rfl (show (7 : Nat) < 8 by decide) dX4_wrongAt_107 (fun H_2 locs hat oq hS => ?_)
                    have hM := hM.set0 (pk' := pk) (bm' := bm) (at' := j + 1) hat (Fr.oq oq)
                    refine lv_iload hx hb dX4_wrongAt_110 (lv_at hl 0 rfl) ?_
                    refine lv_iconst (v := (nI 2)) hx hb dX4_wrongAt_112 (by decide) ?_
                    refine lv_icmp_ne (tgt := 128) hx hb dX4_wrongAt_113 (by decide) (fun c_6 => ?_) (fun c_6 => ?_)
                    · skip
                      have c_6 : ¬ (((rb j) % 4) = 2) := fun z => c_6 ((nI_eq (a := ((rb j) % 4)) (b := 2) (by omega) (by omega)).mpr z)
                      refine lv_aload_n hx hb dX4_wrongAt_128 rfl (lv_at hl 3 rfl) ?_
                      refine lv_sipush (v := (nI 256)) hx hb dX4_wrongAt_129 (by decide) ?_
                      refine lv_iload_n hx hb dX4_wrongAt_132 rfl (lv_at hl 1 rfl) ?_
                      refine lv_imul hx hb dX4_wrongAt_133 ?_
                      refine top_i (pk_mul 256 ((rb j) / 4)) ?_
                      refine lv_iload hx hb dX4_wrongAt_134 (lv_at hl 0 rfl) ?_
                      refine lv_iconst (v := (nI 1)) hx hb dX4_wrongAt_136 (by decide) ?_
                      refine lv_icmp_ne (tgt := 144) hx hb dX4_wrongAt_137 (by decide) (fun c_7 => ?_) (fun c_7 => ?_)
                      · skip
                        have c_7 : ¬ (((rb j) % 4) = 1) := fun z => c_7 ((nI_eq (a := ((rb j) % 4)) (b := 1) (by omega) (by omega)).mpr z)
                        refine lv_iconst (v := (nI 0)) hx hb dX4_wrongAt_144 (by decide) ?_
                        refine va_calli (va_runV (As := [.int (nI (256 * ((rb j) / 4))), .int (nI 0)]) (rest := []) ⟨hx, hb, hml, hown, hts⟩ (k_X4_readsPlaces_b l D T M v as pa pk rb bm g (j + 1) (rb j / 4) bb (hbm) (hrb) (by omega) (by omega) (hg)) (cwV 2 hts gX4_wrongAt_X4_readsPlaces rfl rfl rfl (by decide +kernel) ⟨Nat.le_of_ble_eq_true rfl, Nat.le_of_ble_eq_true rfl⟩) (pre_V (Φ := fun X => MO D T X M v as pa pk (fun i => nI (rb i)) bm g (j + 1)) hK (hM.2.1) rfl hM) rfl rfl hl.1 rfl (lv_room (Nat.le_of_ble_eq_true rfl)) dX4_wrongAt_145 ⟨Nat.le_of_ble_eq_true rfl, Nat.le_of_ble_eq_true rfl⟩) hS (fun q _ h => h) (fun q h => h) (fun r_1 u_1 t H_3 locs ht hvm hw hB hz hk hS => ?_)
                        rw [ht] at hB
                        try dsimp only at hw
                        try dsimp only at hB
                        have hkq : rb j % 4 = 0 := by omega
                        have hw9 : PMo (pPc rb bm (rb j / 4) (rb j % 4) (j + 1) bb) r_1 u_1.1 u_1.2 := by rw [hkq]; exact hw
                        obtain ⟨hr9, hu9, hg9⟩ := hw9
                        subst hr9
                        have hM := hB
                        rw [hu9] at hM
                        refine lv_istore (lv' := [(5, .int (b2i ((pPc rb bm (rb j / 4) (rb j % 4) (j + 1) bb).1))), (4, .int (nI ((rb j) % 4))), (3, .int (nI ((rb j) / 4))), (2, .int (nI j)), (0, .ref (M 0)), (1, .int (bfI bf))]) hx hb dX4_wrongAt_148 hl (by decide) rfl (fun ls hl => ?_)
                        refine lv_iload hx hb dX4_wrongAt_150 (lv_at hl 0 rfl) ?_
                        refine lv_if_ne (tgt := 160) hx hb dX4_wrongAt_152 (by decide) (fun c_8 => ?_) (fun c_8 => ?_)
                        · skip
                          have c_8 : (pPc rb bm (rb j / 4) (rb j % 4) (j + 1) bb).1 = true := b2i_n0.mp c_8
                          refine lv_aload_n hx hb dX4_wrongAt_160 rfl (lv_at hl 4 rfl) ?_
                          refine lv_iload_n hx hb dX4_wrongAt_161 rfl (lv_at hl 2 rfl) ?_
                          refine lv_iload hx hb dX4_wrongAt_162 (lv_at hl 1 rfl) ?_
                          refine vp_callSi (va_Run.run (va_runV (As := [.int (nI ((rb j) / 4)), .int (nI ((rb j) % 4))]) (rest := []) ⟨hx, hb, hml, hown, hts⟩ (k_X4_isKind l D T M v as pa pk rb bm u_1.1 ((pPc rb bm (rb j / 4) (rb j % 4) (j + 1) bb).2.1) ((rb j) / 4) ((rb j) % 4) (hbm) (hrb) (by omega) (by omega) (by omega)) (cwV 2 hts gX4_wrongAt_X4_isKind rfl rfl rfl (by decide +kernel) ⟨Nat.le_of_ble_eq_true rfl, Nat.le_of_ble_eq_true rfl⟩) (pre_V (Φ := fun X => MO D T X M v as pa pk (fun i => nI (rb i)) bm u_1.1 ((pPc rb bm (rb j / 4) (rb j % 4) (j + 1) bb).2.1)) hK (hM.2.1) rfl hM) rfl rfl hl.1 rfl (lv_room (Nat.le_of_ble_eq_true rfl)) dX4_wrongAt_164 ⟨Nat.le_of_ble_eq_true rfl, Nat.le_of_ble_eq_true rfl⟩)) (fun r_2 hr_2 => ?_)
                          subst hr_2
                          refine lv_if_ne (tgt := 172) hx hb dX4_wrongAt_167 (by decide) (fun c_9 => ?_) (fun c_9 => ?_)
                          · skip
                            have c_9 : (decide (pkd (bB u_1.1) ((rb j) / 4) = nI ((rb j) % 4))) = true := b2i_n0.mp c_9
                            have c_9 : pkd (bB u_1.1) ((rb j) / 4) = nI ((rb j) % 4) := of_decide_eq_true c_9
                            refine lv_iload_n hx hb dX4_wrongAt_172 rfl (lv_at hl 2 rfl) ?_
                            refine lv_istore_n (lv' := [(1, .int (nI ((rb j) / 4))), (5, .int (b2i ((pPc rb bm (rb j / 4) (rb j % 4) (j + 1) bb).1))), (4, .int (nI ((rb j) % 4))), (3, .int (nI ((rb j) / 4))), (2, .int (nI j)), (0, .ref (M 0))]) hx hb dX4_wrongAt_173 rfl hl (by decide) rfl (fun ls hl => ?_)
                            refine lv_goto (tgt := 29) hx hb dX4_wrongAt_174 (by decide) ?_
                            have hl := lv_sub hl (l' := [(0, .ref (M 0)), (1, .int (nI ((rb j) / 4)))]) [5, 0] rfl
                            have q_1 : (nI ((rb j) / 4)) = (bfI (rb j / 4 + 1)) := by unfold bfI; rw [if_neg (by omega), Nat.add_sub_cancel]
                            have hl : lv_has ls 6 [(0, .ref (M 0)), (1, .int (bfI (rb j / 4 + 1)))] := by
                              have h := hl
                              rw [q_1] at h
                              exact h
                            exact ih29 (i + 1) ((pPc rb bm (rb j / 4) (rb j % 4) (j + 1) bb).2.1) (rb j / 4 + 1) u_1.1 ((pPc rb bm (rb j / 4) (rb j % 4) (j + 1) bb).2.2) (by omega) (by omega) (by omega) (by omega) (hg9 c_8) (by rw [show 17 - i = (17 - (i + 1)) + 1 by omega, pAll_s rb bm (17 - (i + 1)) j bf bb, if_pos (by omega), if_neg hgood, if_neg (by rw [c_8]; exact fun z => Bool.false_ne_true z.symm), if_pos (by rw [← pkd_cong (fun x h1 h2 => hg9 c_8 x (by omega))]; exact c_9)] at hv; exact hv) H_3 _ hM hS ls hl (by omega)
                          · skip
                            have c_9 : (decide (pkd (bB u_1.1) ((rb j) / 4) = nI ((rb j) % 4))) = false := b2i_0.mp c_9
                            have c_9 : ¬ (pkd (bB u_1.1) ((rb j) / 4) = nI ((rb j) % 4)) := of_decide_eq_false c_9
                            refine lv_iload_n hx hb dX4_wrongAt_170 rfl (lv_at hl 3 rfl) ?_
                            subst hQ
                            exact W.iret (v := (nI j)) hx hb hr (fun t ht hW => ⟨⟨(nI j), (u_1.1, (pPc rb bm (rb j / 4) (rb j % 4) (j + 1) bb).2.1), rfl, (by rw [← hR0]; exact PAllM_e (hv.symm.trans (by rw [show 17 - i = (17 - (i + 1)) + 1 by omega, pAll_s rb bm (17 - (i + 1)) j bf bb, if_pos (by omega), if_neg hgood, if_neg (by rw [c_8]; exact fun z => Bool.false_ne_true z.symm), if_neg (by rw [← pkd_cong (fun x h1 h2 => hg9 c_8 x (by omega))]; exact c_9)])) rfl), by have h9 := hM; rw [← ht] at h9; exact h9⟩, hS.F ht⟩) hS.2.2 dX4_wrongAt_171
                        · skip
                          have c_8 : (pPc rb bm (rb j / 4) (rb j % 4) (j + 1) bb).1 = false := b2i_0.mp c_8
                          refine lv_aload_n hx hb dX4_wrongAt_155 rfl (lv_at hl 4 rfl) ?_
                          refine r_get (C := RX4) (Tb := TX4) (N := 8) hx hb hts in_wsX40 hown hK (hM.2.1) rfl 7 (by decide) (hts (.fieldLink RX4 98 "PieceSetsModel" "at" "I") (by decide +kernel)) rfl (v := .int (nI ((pPc rb bm (rb j / 4) (rb j % 4) (j + 1) bb).2.1))) rfl dX4_wrongAt_156 ?_
                          subst hQ
                          exact W.iret (v := (nI ((pPc rb bm (rb j / 4) (rb j % 4) (j + 1) bb).2.1))) hx hb hr (fun t ht hW => ⟨⟨(nI ((pPc rb bm (rb j / 4) (rb j % 4) (j + 1) bb).2.1)), (u_1.1, (pPc rb bm (rb j / 4) (rb j % 4) (j + 1) bb).2.1), rfl, (by rw [← hR0, ← hv]; rw [show 17 - i = (17 - (i + 1)) + 1 by omega, pAll_s rb bm (17 - (i + 1)) j bf bb, if_pos (by omega), if_neg hgood, if_pos c_8]; exact PAllM_f c_8 rfl), by have h9 := hM; rw [← ht] at h9; exact h9⟩, hS.F ht⟩) hS.2.2 dX4_wrongAt_159
                      · skip
                        have c_7 : ((rb j) % 4) = 1 := (nI_eq (a := ((rb j) % 4)) (b := 1) (by omega) (by omega)).mp c_7
                        refine lv_iconst (v := (nI 1)) hx hb dX4_wrongAt_140 (by decide) ?_
                        refine lv_goto (tgt := 145) hx hb dX4_wrongAt_141 (by decide) ?_
                        refine va_calli (va_runV (As := [.int (nI (256 * ((rb j) / 4))), .int (nI 1)]) (rest := []) ⟨hx, hb, hml, hown, hts⟩ (k_X4_readsPlaces l D T M v as pa pk rb bm g (j + 1) (rb j / 4) bb (hbm) (hrb) (by omega) (by omega) (hg)) (cwV 2 hts gX4_wrongAt_X4_readsPlaces rfl rfl rfl (by decide +kernel) ⟨Nat.le_of_ble_eq_true rfl, Nat.le_of_ble_eq_true rfl⟩) (pre_V (Φ := fun X => MO D T X M v as pa pk (fun i => nI (rb i)) bm g (j + 1)) hK (hM.2.1) rfl hM) rfl rfl hl.1 rfl (lv_room (Nat.le_of_ble_eq_true rfl)) dX4_wrongAt_145 ⟨Nat.le_of_ble_eq_true rfl, Nat.le_of_ble_eq_true rfl⟩) hS (fun q _ h => h) (fun q h => h) (fun r_1 u_1 t H_3 locs ht hvm hw hB hz hk hS => ?_)
                        rw [ht] at hB
                        try dsimp only at hw
                        try dsimp only at hB
                        have hkq : rb j % 4 = 1 := by omega
                        have hw9 : PMo (pPc rb bm (rb j / 4) (rb j % 4) (j + 1) bb) r_1 u_1.1 u_1.2 := by rw [hkq]; exact hw
                        obtain ⟨hr9, hu9, hg9⟩ := hw9
                        subst hr9
                        have hM := hB
                        rw [hu9] at hM
                        refine lv_istore (lv' := [(5, .int (b2i ((pPc rb bm (rb j / 4) (rb j % 4) (j + 1) bb).1))), (4, .int (nI ((rb j) % 4))), (3, .int (nI ((rb j) / 4))), (2, .int (nI j)), (0, .ref (M 0)), (1, .int (bfI bf))]) hx hb dX4_wrongAt_148 hl (by decide) rfl (fun ls hl => ?_)
                        refine lv_iload hx hb dX4_wrongAt_150 (lv_at hl 0 rfl) ?_
                        refine lv_if_ne (tgt := 160) hx hb dX4_wrongAt_152 (by decide) (fun c_8 => ?_) (fun c_8 => ?_)
                        · skip
                          have c_8 : (pPc rb bm (rb j / 4) (rb j % 4) (j + 1) bb).1 = true := b2i_n0.mp c_8
                          refine lv_aload_n hx hb dX4_wrongAt_160 rfl (lv_at hl 4 rfl) ?_
                          refine lv_iload_n hx hb dX4_wrongAt_161 rfl (lv_at hl 2 rfl) ?_
                          refine lv_iload hx hb dX4_wrongAt_162 (lv_at hl 1 rfl) ?_
                          refine vp_callSi (va_Run.run (va_runV (As := [.int (nI ((rb j) / 4)), .int (nI ((rb j) % 4))]) (rest := []) ⟨hx, hb, hml, hown, hts⟩ (k_X4_isKind l D T M v as pa pk rb bm u_1.1 ((pPc rb bm (rb j / 4) (rb j % 4) (j + 1) bb).2.1) ((rb j) / 4) ((rb j) % 4) (hbm) (hrb) (by omega) (by omega) (by omega)) (cwV 2 hts gX4_wrongAt_X4_isKind rfl rfl rfl (by decide +kernel) ⟨Nat.le_of_ble_eq_true rfl, Nat.le_of_ble_eq_true rfl⟩) (pre_V (Φ := fun X => MO D T X M v as pa pk (fun i => nI (rb i)) bm u_1.1 ((pPc rb bm (rb j / 4) (rb j % 4) (j + 1) bb).2.1)) hK (hM.2.1) rfl hM) rfl rfl hl.1 rfl (lv_room (Nat.le_of_ble_eq_true rfl)) dX4_wrongAt_164 ⟨Nat.le_of_ble_eq_true rfl, Nat.le_of_ble_eq_true rfl⟩)) (fun r_2 hr_2 => ?_)
                          subst hr_2
                          refine lv_if_ne (tgt := 172) hx hb dX4_wrongAt_167 (by decide) (fun c_9 => ?_) (fun c_9 => ?_)
                          · skip
                            have c_9 : (decide (pkd (bB u_1.1) ((rb j) / 4) = nI ((rb j) % 4))) = true := b2i_n0.mp c_9
                            have c_9 : pkd (bB u_1.1) ((rb j) / 4) = nI ((rb j) % 4) := of_decide_eq_true c_9
                            refine lv_iload_n hx hb dX4_wrongAt_172 rfl (lv_at hl 2 rfl) ?_
                            refine lv_istore_n (lv' := [(1, .int (nI ((rb j) / 4))), (5, .int (b2i ((pPc rb bm (rb j / 4) (rb j % 4) (j + 1) bb).1))), (4, .int (nI ((rb j) % 4))), (3, .int (nI ((rb j) / 4))), (2, .int (nI j)), (0, .ref (M 0))]) hx hb dX4_wrongAt_173 rfl hl (by decide) rfl (fun ls hl => ?_)
                            refine lv_goto (tgt := 29) hx hb dX4_wrongAt_174 (by decide) ?_
                            have hl := lv_sub hl (l' := [(0, .ref (M 0)), (1, .int (nI ((rb j) / 4)))]) [5, 0] rfl
                            have q_1 : (nI ((rb j) / 4)) = (bfI (rb j / 4 + 1)) := by unfold bfI; rw [if_neg (by omega), Nat.add_sub_cancel]
                            have hl : lv_has ls 6 [(0, .ref (M 0)), (1, .int (bfI (rb j / 4 + 1)))] := by
                              have h := hl
                              rw [q_1] at h
                              exact h
                            exact ih29 (i + 1) ((pPc rb bm (rb j / 4) (rb j % 4) (j + 1) bb).2.1) (rb j / 4 + 1) u_1.1 ((pPc rb bm (rb j / 4) (rb j % 4) (j + 1) bb).2.2) (by omega) (by omega) (by omega) (by omega) (hg9 c_8) (by rw [show 17 - i = (17 - (i + 1)) + 1 by omega, pAll_s rb bm (17 - (i + 1)) j bf bb, if_pos (by omega), if_neg hgood, if_neg (by rw [c_8]; exact fun z => Bool.false_ne_true z.symm), if_pos (by rw [← pkd_cong (fun x h1 h2 => hg9 c_8 x (by omega))]; exact c_9)] at hv; exact hv) H_3 _ hM hS ls hl (by omega)
                          · skip
                            have c_9 : (decide (pkd (bB u_1.1) ((rb j) / 4) = nI ((rb j) % 4))) = false := b2i_0.mp c_9
                            have c_9 : ¬ (pkd (bB u_1.1) ((rb j) / 4) = nI ((rb j) % 4)) := of_decide_eq_false c_9
                            refine lv_iload_n hx hb dX4_wrongAt_170 rfl (lv_at hl 3 rfl) ?_
                            subst hQ
                            exact W.iret (v := (nI j)) hx hb hr (fun t ht hW => ⟨⟨(nI j), (u_1.1, (pPc rb bm (rb j / 4) (rb j % 4) (j + 1) bb).2.1), rfl, (by rw [← hR0]; exact PAllM_e (hv.symm.trans (by rw [show 17 - i = (17 - (i + 1)) + 1 by omega, pAll_s rb bm (17 - (i + 1)) j bf bb, if_pos (by omega), if_neg hgood, if_neg (by rw [c_8]; exact fun z => Bool.false_ne_true z.symm), if_neg (by rw [← pkd_cong (fun x h1 h2 => hg9 c_8 x (by omega))]; exact c_9)])) rfl), by have h9 := hM; rw [← ht] at h9; exact h9⟩, hS.F ht⟩) hS.2.2 dX4_wrongAt_171
                        · skip
                          have c_8 : (pPc rb bm (rb j / 4) (rb j % 4) (j + 1) bb).1 = false := b2i_0.mp c_8
                          refine lv_aload_n hx hb dX4_wrongAt_155 rfl (lv_at hl 4 rfl) ?_
                          refine r_get (C := RX4) (Tb := TX4) (N := 8) hx hb hts in_wsX40 hown hK (hM.2.1) rfl 7 (by decide) (hts (.fieldLink RX4 98 "PieceSetsModel" "at" "I") (by decide +kernel)) rfl (v := .int (nI ((pPc rb bm (rb j / 4) (rb j % 4) (j + 1) bb).2.1))) rfl dX4_wrongAt_156 ?_
                          subst hQ
                          exact W.iret (v := (nI ((pPc rb bm (rb j / 4) (rb j % 4) (j + 1) bb).2.1))) hx hb hr (fun t ht hW => ⟨⟨(nI ((pPc rb bm (rb j / 4) (rb j % 4) (j + 1) bb).2.1)), (u_1.1, (pPc rb bm (rb j / 4) (rb j % 4) (j + 1) bb).2.1), rfl, (by rw [← hR0, ← hv]; rw [show 17 - i = (17 - (i + 1)) + 1 by omega, pAll_s rb bm (17 - (i + 1)) j bf bb, if_pos (by omega), if_neg hgood, if_pos c_8]; exact PAllM_f c_8 rfl), by have h9 := hM; rw [← ht] at h9; exact h9⟩, hS.F ht⟩) hS.2.2 dX4_wrongAt_159
                    · skip
                      have c_6 : ((rb j) % 4) = 2 := (nI_eq (a := ((rb j) % 4)) (b := 2) (by omega) (by omega)).mp c_6
                      refine lv_aload_n hx hb dX4_wrongAt_116 rfl (lv_at hl 3 rfl) ?_
                      refine lv_sipush (v := (nI 256)) hx hb dX4_wrongAt_117 (by decide) ?_
                      refine lv_iload_n hx hb dX4_wrongAt_120 rfl (lv_at hl 1 rfl) ?_
                      refine lv_imul hx hb dX4_wrongAt_121 ?_
                      refine top_i (pk_mul 256 ((rb j) / 4)) ?_
                      refine va_calli (va_runV (As := [.int (nI (256 * ((rb j) / 4)))]) (rest := []) ⟨hx, hb, hml, hown, hts⟩ (k_X4_readsBitmap l D T M v as pa pk rb bm g (j + 1) (rb j / 4) bb (hbm) (hrb) (by omega) (by omega) (hg)) (cwV 1 hts gX4_wrongAt_X4_readsBitmap rfl rfl rfl (by decide +kernel) ⟨Nat.le_of_ble_eq_true rfl, Nat.le_of_ble_eq_true rfl⟩) (pre_V (Φ := fun X => MO D T X M v as pa pk (fun i => nI (rb i)) bm g (j + 1)) hK (hM.2.1) rfl hM) rfl rfl hl.1 rfl (lv_room (Nat.le_of_ble_eq_true rfl)) dX4_wrongAt_122 ⟨Nat.le_of_ble_eq_true rfl, Nat.le_of_ble_eq_true rfl⟩) hS (fun q _ h => h) (fun q h => h) (fun r_1 u_1 t H_3 locs ht hvm hw hB hz hk hS => ?_)
                      rw [ht] at hB
                      try dsimp only at hw
                      try dsimp only at hB
                      have hkq : rb j % 4 = 2 := by omega
                      have hw9 : PMo (pPc rb bm (rb j / 4) (rb j % 4) (j + 1) bb) r_1 u_1.1 u_1.2 := by rw [hkq]; exact hw
                      obtain ⟨hr9, hu9, hg9⟩ := hw9
                      subst hr9
                      have hM := hB
                      rw [hu9] at hM
                      refine lv_goto (tgt := 148) hx hb dX4_wrongAt_125 (by decide) ?_
                      refine lv_istore (lv' := [(5, .int (b2i ((pPc rb bm (rb j / 4) (rb j % 4) (j + 1) bb).1))), (4, .int (nI ((rb j) % 4))), (3, .int (nI ((rb j) / 4))), (2, .int (nI j)), (0, .ref (M 0)), (1, .int (bfI bf))]) hx hb dX4_wrongAt_148 hl (by decide) rfl (fun ls hl => ?_)
                      refine lv_iload hx hb dX4_wrongAt_150 (lv_at hl 0 rfl) ?_
                      refine lv_if_ne (tgt := 160) hx hb dX4_wrongAt_152 (by decide) (fun c_7 => ?_) (fun c_7 => ?_)
                      · skip
                        have c_7 : (pPc rb bm (rb j / 4) (rb j % 4) (j + 1) bb).1 = true := b2i_n0.mp c_7
                        refine lv_aload_n hx hb dX4_wrongAt_160 rfl (lv_at hl 4 rfl) ?_
                        refine lv_iload_n hx hb dX4_wrongAt_161 rfl (lv_at hl 2 rfl) ?_
                        refine lv_iload hx hb dX4_wrongAt_162 (lv_at hl 1 rfl) ?_
                        refine vp_callSi (va_Run.run (va_runV (As := [.int (nI ((rb j) / 4)), .int (nI ((rb j) % 4))]) (rest := []) ⟨hx, hb, hml, hown, hts⟩ (k_X4_isKind l D T M v as pa pk rb bm u_1.1 ((pPc rb bm (rb j / 4) (rb j % 4) (j + 1) bb).2.1) ((rb j) / 4) ((rb j) % 4) (hbm) (hrb) (by omega) (by omega) (by omega)) (cwV 2 hts gX4_wrongAt_X4_isKind rfl rfl rfl (by decide +kernel) ⟨Nat.le_of_ble_eq_true rfl, Nat.le_of_ble_eq_true rfl⟩) (pre_V (Φ := fun X => MO D T X M v as pa pk (fun i => nI (rb i)) bm u_1.1 ((pPc rb bm (rb j / 4) (rb j % 4) (j + 1) bb).2.1)) hK (hM.2.1) rfl hM) rfl rfl hl.1 rfl (lv_room (Nat.le_of_ble_eq_true rfl)) dX4_wrongAt_164 ⟨Nat.le_of_ble_eq_true rfl, Nat.le_of_ble_eq_true rfl⟩)) (fun r_2 hr_2 => ?_)
                        subst hr_2
                        refine lv_if_ne (tgt := 172) hx hb dX4_wrongAt_167 (by decide) (fun c_8 => ?_) (fun c_8 => ?_)
                        · skip
                          have c_8 : (decide (pkd (bB u_1.1) ((rb j) / 4) = nI ((rb j) % 4))) = true := b2i_n0.mp c_8
                          have c_8 : pkd (bB u_1.1) ((rb j) / 4) = nI ((rb j) % 4) := of_decide_eq_true c_8
                          refine lv_iload_n hx hb dX4_wrongAt_172 rfl (lv_at hl 2 rfl) ?_
                          refine lv_istore_n (lv' := [(1, .int (nI ((rb j) / 4))), (5, .int (b2i ((pPc rb bm (rb j / 4) (rb j % 4) (j + 1) bb).1))), (4, .int (nI ((rb j) % 4))), (3, .int (nI ((rb j) / 4))), (2, .int (nI j)), (0, .ref (M 0))]) hx hb dX4_wrongAt_173 rfl hl (by decide) rfl (fun ls hl => ?_)
                          refine lv_goto (tgt := 29) hx hb dX4_wrongAt_174 (by decide) ?_
                          have hl := lv_sub hl (l' := [(0, .ref (M 0)), (1, .int (nI ((rb j) / 4)))]) [5, 0] rfl
                          have q_1 : (nI ((rb j) / 4)) = (bfI (rb j / 4 + 1)) := by unfold bfI; rw [if_neg (by omega), Nat.add_sub_cancel]
                          have hl : lv_has ls 6 [(0, .ref (M 0)), (1, .int (bfI (rb j / 4 + 1)))] := by
                            have h := hl
                            rw [q_1] at h
                            exact h
                          exact ih29 (i + 1) ((pPc rb bm (rb j / 4) (rb j % 4) (j + 1) bb).2.1) (rb j / 4 + 1) u_1.1 ((pPc rb bm (rb j / 4) (rb j % 4) (j + 1) bb).2.2) (by omega) (by omega) (by omega) (by omega) (hg9 c_7) (by rw [show 17 - i = (17 - (i + 1)) + 1 by omega, pAll_s rb bm (17 - (i + 1)) j bf bb, if_pos (by omega), if_neg hgood, if_neg (by rw [c_7]; exact fun z => Bool.false_ne_true z.symm), if_pos (by rw [← pkd_cong (fun x h1 h2 => hg9 c_7 x (by omega))]; exact c_8)] at hv; exact hv) H_3 _ hM hS ls hl (by omega)
                        · skip
                          have c_8 : (decide (pkd (bB u_1.1) ((rb j) / 4) = nI ((rb j) % 4))) = false := b2i_0.mp c_8
                          have c_8 : ¬ (pkd (bB u_1.1) ((rb j) / 4) = nI ((rb j) % 4)) := of_decide_eq_false c_8
                          refine lv_iload_n hx hb dX4_wrongAt_170 rfl (lv_at hl 3 rfl) ?_
                          subst hQ
                          exact W.iret (v := (nI j)) hx hb hr (fun t ht hW => ⟨⟨(nI j), (u_1.1, (pPc rb bm (rb j / 4) (rb j % 4) (j + 1) bb).2.1), rfl, (by rw [← hR0]; exact PAllM_e (hv.symm.trans (by rw [show 17 - i = (17 - (i + 1)) + 1 by omega, pAll_s rb bm (17 - (i + 1)) j bf bb, if_pos (by omega), if_neg hgood, if_neg (by rw [c_7]; exact fun z => Bool.false_ne_true z.symm), if_neg (by rw [← pkd_cong (fun x h1 h2 => hg9 c_7 x (by omega))]; exact c_8)])) rfl), by have h9 := hM; rw [← ht] at h9; exact h9⟩, hS.F ht⟩) hS.2.2 dX4_wrongAt_171
                      · skip
                        have c_7 : (pPc rb bm (rb j / 4) (rb j % 4) (j + 1) bb).1 = false := b2i_0.mp c_7
                        refine lv_aload_n hx hb dX4_wrongAt_155 rfl (lv_at hl 4 rfl) ?_
                        refine r_get (C := RX4) (Tb := TX4) (N := 8) hx hb hts in_wsX40 hown hK (hM.2.1) rfl 7 (by decide) (hts (.fieldLink RX4 98 "PieceSetsModel" "at" "I") (by decide +kernel)) rfl (v := .int (nI ((pPc rb bm (rb j / 4) (rb j % 4) (j + 1) bb).2.1))) rfl dX4_wrongAt_156 ?_
                        subst hQ
                        exact W.iret (v := (nI ((pPc rb bm (rb j / 4) (rb j % 4) (j + 1) bb).2.1))) hx hb hr (fun t ht hW => ⟨⟨(nI ((pPc rb bm (rb j / 4) (rb j % 4) (j + 1) bb).2.1)), (u_1.1, (pPc rb bm (rb j / 4) (rb j % 4) (j + 1) bb).2.1), rfl, (by rw [← hR0, ← hv]; rw [show 17 - i = (17 - (i + 1)) + 1 by omega, pAll_s rb bm (17 - (i + 1)) j bf bb, if_pos (by omega), if_neg hgood, if_pos c_7]; exact PAllM_f c_7 rfl), by have h9 := hM; rw [← ht] at h9; exact h9⟩, hS.F ht⟩) hS.2.2 dX4_wrongAt_159
                  · skip
                    have hbad : 16 ≤ rb j / 4 ∨ rb j % 4 = 3 ∨ rb j / 4 < bf := Or.inr (Or.inr (by have h3 : ¬ (bf ≤ rb j / 4) := fun z => c_5 ((bfI_lt (by omega) (by omega)).mpr z); omega))
                    refine lv_aload_n hx hb dX4_wrongAt_95 rfl (lv_at hl 3 rfl) ?_
                    refine r_get (C := RX4) (Tb := TX4) (N := 8) hx hb hts in_wsX40 hown hK (hM.2.1) rfl 7 (by decide) (hts (.fieldLink RX4 98 "PieceSetsModel" "at" "I") (by decide +kernel)) rfl (v := .int (nI j)) rfl dX4_wrongAt_96 ?_
                    subst hQ
                    exact W.iret (v := (nI j)) hx hb hr (fun t ht hW => ⟨⟨(nI j), (g, j), rfl, (by rw [← hR0]; exact PAllM_e (hv.symm.trans (by rw [show 17 - i = (17 - (i + 1)) + 1 by omega, pAll_s rb bm (17 - (i + 1)) j bf bb, if_pos (by omega), if_pos hbad])) rfl), by have h9 := hM; rw [← ht] at h9; exact h9⟩, hS.F ht⟩) hS.2.2 dX4_wrongAt_99
        have hM := hM.eqb (g := (fun _ => nI 0)) (fun j hj => cpF_i (by omega))
        have hl := lv_sub hl (l' := [(0, .ref (M 0)), (1, .int (-1))]) [1, 0] rfl
        have q_1 : (-1) = (bfI 0) := rfl
        have hl : lv_has ls 6 [(0, .ref (M 0)), (1, .int (bfI 0))] := by
          have h := hl
          rw [q_1] at h
          exact h
        exact loop29 (17 - 0 + 1) 0 0 0 (fun _ => nI 0) (fun _ => false) (by omega) (Nat.zero_le _) (Nat.le_refl _) (by omega) (fun x _ => zero_bB x) (hR0.symm) H_1 _ hM hS ls hl (Nat.lt_succ_self _)
      · skip
        have c_1 : ¬ (128 ≤ i0) := fun z => c_1 ((nI_leI (a := 128) (b := i0) (by omega) (by omega)).mpr z)
        refine lv_aload_n hx hb dX4_wrongAt_9 rfl (lv_at hl 0 rfl) ?_
        refine r_get (C := RX4) (Tb := TX4) (N := 8) hx hb hts in_wsX40 hown hK (hM.2.1) rfl 6 (by decide) (hts (.fieldLink RX4 22 "PieceSetsModel" "bits" "[I") (by decide +kernel)) rfl (v := .ref (M 5)) rfl dX4_wrongAt_10 ?_
        refine lv_iload_n hx hb dX4_wrongAt_13 rfl (lv_at hl 1 rfl) ?_
        refine lv_iconst (v := (nI 0)) hx hb dX4_wrongAt_14 (by decide) ?_
        refine r_iast hx hb hK hS ((Or.inl rfl)) (hM.2.2.2.2.2.2) (i := i0) (by omega) (by decide) dX4_wrongAt_15 (fun H_1 locs hat oq hS => ?_)
        have hM := (hM.set5 hat (Fr.oq oq)).eqb (g := (cpF bi 0 (fun _ => nI 0) (i0 + 1))) (fun j _ => by have h9 := cpF_s bi 0 (fun _ => nI 0) i0 j; rw [Nat.zero_add] at h9; exact h9)
        refine lv_iinc (v := (nI (i0 + 1))) (lv' := [(1, .int (nI (i0 + 1))), (0, .ref (M 0))]) hx hb dX4_wrongAt_16 hl (k := 1) rfl (iinc_n i0 1) (by decide) rfl (fun ls hl => ?_)
        refine lv_goto (tgt := 2) hx hb dX4_wrongAt_19 (by decide) ?_
        have hl := lv_sub hl (l' := [(0, .ref (M 0)), (1, .int (nI (i0 + 1)))]) [1, 0] rfl
        exact ih2 (i0 + 1) (by omega) H_1 _ hM hS ls hl (by omega)
  have hM := hM.eqb (g := (cpF bi 0 (fun _ => nI 0) 0)) (fun j _ => cpF_0 bi 0 (fun _ => nI 0) j)
  have hl := lv_sub hl (l' := [(0, .ref (M 0)), (1, .int (nI 0))]) [1, 0] rfl
  exact loop2 (128 - 0 + 1) 0 (Nat.zero_le _) s.heap _ hM hS ls hl (Nat.lt_succ_self _)
set_option maxHeartbeats 1000000 in
set_option maxRecDepth 100000 in
theorem k_X4_read (l : Launch) (D : va_G) (T : Nat → ClassId) (M : Nat → Nat) (Sy : Nat → Prop) (fi : FS) (ss : Int32) : Met l yX4_read wsX4_read ({ frames := 4, cells := 0, slots := 0, locals := 92 }) (va_Pc [.ref (M 0), .int ss] (fun U => KS D T U ∧ MSE D T U.heap M Sy fi)) (va_Qi (fun (r : Int32) (u : Unit) => r = (reaR fi ss)) (fun u t => MSE D T t.heap M Sy (reaN fi ss)) (Sy)) 0 0 (Sy) := by
  refine Met.ofW (cc := cX4_read) (maxL := 4) (ret := (some .int)) (by decide) rfl ?_
  intro pg ev s m args below meth c s₁ B hml hv
  obtain ⟨rfl, hK, hH⟩ := hv
  have hx := B.exec
  have hb := B.bytes
  have hr := B.returns
  have hts := atoms_spec (ws := wsX4_read) B.pre
  have hown : s.vm.findClass RX4 = some m.cls := findClass_of_methodNamed B.named
  have hlocks := B.notSynchronized
  have in_wsX40 : ∀ w ∈ wsX40, w ∈ wsX4_read := fun w h => List.mem_cons_of_mem _ (List.mem_append_right _ h)
  have hS : va_S (Sy) s.heap s.heap [] := va_S.rf
  have hl := lv_entry ([.ref (M 0), .int ss]) (n := 4) (Nat.le_of_ble_eq_true rfl)
  rw [lg_entry_eq]
  generalize (lg_sl ([.ref (M 0), .int ss]) ++ List.replicate (4 - (lg_sl ([.ref (M 0), .int ss])).length) Slot.unset).toArray = ls at hl ⊢
  have hl : lv_has ls 4 [(0, .ref (M 0)), (1, .int ss)] := hl
  refine W_gen (fun Q hQ => ?_)
  obtain ⟨v, as, pa, bi, at0, hM, hSy, hrb, hbl, hk5, hR0, hRh⟩ := id hH
  refine lv_iload_n hx hb dX4_read_0 rfl (lv_at hl 1 rfl) ?_
  refine vp_callSi (va_Run.run (va_runS (As := [.int ss]) (rest := []) ⟨hx, hb, hml, hown, hts⟩ (k_X4_isSet l D T ss ) (va_cwS 1 hts gX4_read_X4_isSet rfl rfl rfl (by decide +kernel) ⟨Nat.le_of_ble_eq_true rfl, Nat.le_of_ble_eq_true rfl⟩) (pre_S (Φ := fun X => True) hK trivial) rfl rfl hl.1 rfl (lv_room (Nat.le_of_ble_eq_true rfl)) dX4_read_1 ⟨Nat.le_of_ble_eq_true rfl, Nat.le_of_ble_eq_true rfl⟩)) (fun r_1 hr_1 => ?_)
  subst hr_1
  refine lv_if_ne (tgt := 9) hx hb dX4_read_4 (by decide) (fun c_1 => ?_) (fun c_1 => ?_)
  · skip
    have c_1 : (decide (¬ ss < 0 ∧ ss < nI 6)) = true := b2i_n0.mp c_1
    have c_1 : ¬ ss < 0 ∧ ss < nI 6 := of_decide_eq_true c_1
    obtain ⟨sN, hsN, rfl⟩ := okX (N := 6) (by decide) c_1
    refine lv_aload_n hx hb dX4_read_9 rfl (lv_at hl 0 rfl) ?_
    refine va_calli (va_runV (As := []) (rest := []) ⟨hx, hb, hml, hown, hts⟩ (k_X4_wrongAt l D T M v as pa fi.2.2.1 fi.2.2.2.1 fi.2.2.2.2 bi at0 (hbl) (hrb)) (cwV 0 hts gX4_read_X4_wrongAt rfl rfl rfl (by decide +kernel) ⟨Nat.le_of_ble_eq_true rfl, Nat.le_of_ble_eq_true rfl⟩) (pre_V (Φ := fun X => MO D T X M v as pa fi.2.2.1 (fun i => nI (fi.2.2.2.1 i)) fi.2.2.2.2 bi at0) hK (hM.2.1) rfl hM) rfl rfl hl.1 rfl (lv_room (Nat.le_of_ble_eq_true rfl)) dX4_read_10 ⟨Nat.le_of_ble_eq_true rfl, Nat.le_of_ble_eq_true rfl⟩) hS (fun q _ h => h.elim (fun z => by rw [z]; exact hSy 5 (by decide)) (fun z => by rw [z]; exact hSy 0 (by decide))) (fun q h => h.elim (fun z => by rw [z]; exact hSy 5 (by decide)) (fun z => by rw [z]; exact hSy 0 (by decide))) (fun r_2 u_1 t H_1 locs ht hvm hw hB hz hk hS => ?_)
    rw [ht] at hB
    try dsimp only at hw
    try dsimp only at hB
    have hwp : PAllM (reaP fi) r_2 u_1.1 := hw
    have hM := hB
    refine lv_istore_n (lv' := [(2, .int r_2), (0, .ref (M 0)), (1, .int (nI sN))]) hx hb dX4_read_13 rfl hl (by decide) rfl (fun ls hl => ?_)
    refine lv_iload_n hx hb dX4_read_14 rfl (lv_at hl 0 rfl) ?_
    refine lv_if_lt (tgt := 23) hx hb dX4_read_15 (by decide) (fun c_2 => ?_) (fun c_2 => ?_)
    · skip
      have htr := PAllM_neg hwp (Nat.le_trans (pAll_at _ _ 17 0 0 _ (Nat.zero_le _)) hbl) c_2
      refine lv_aload_n hx hb dX4_read_23 rfl (lv_at hl 1 rfl) ?_
      refine va_callv (va_runV (As := []) (rest := []) ⟨hx, hb, hml, hown, hts⟩ (k_X4_act l D T M v as pa fi.2.2.1 (buF fi) fi.2.2.2.2 u_1.1 u_1.2 (hk5)) (cwV 0 hts gX4_read_X4_act rfl rfl rfl (by decide +kernel) ⟨Nat.le_of_ble_eq_true rfl, Nat.le_of_ble_eq_true rfl⟩) (pre_V (Φ := fun X => MO D T X M v as pa fi.2.2.1 (buF fi) fi.2.2.2.2 u_1.1 u_1.2) hK (hM.2.1) rfl hM) rfl rfl hl.1 rfl (lv_room (Nat.le_of_ble_eq_true rfl)) dX4_read_24 ⟨Nat.le_of_ble_eq_true rfl, Nat.le_of_ble_eq_true rfl⟩) hS (fun q _ h => by obtain ⟨i, h1, h2⟩ := h; rw [h2]; exact hSy i h1) (fun q h => by obtain ⟨i, h1, h2⟩ := h; rw [h2]; exact hSy i h1) (fun u_2 t H_2 locs ht hvm hw hB hz hk hS => ?_)
      rw [ht] at hB
      try dsimp only at hw
      try dsimp only at hB
      have hM := hB
      refine lv_iconst (v := (nI 0)) hx hb dX4_read_27 (by decide) ?_
      refine lv_istore_n (lv' := [(3, .int (nI 0)), (2, .int r_2), (0, .ref (M 0)), (1, .int (nI sN))]) hx hb dX4_read_28 rfl hl (by decide) rfl (fun ls hl => ?_)
      have loop29 : ∀ (n29 : Nat) (i : Nat) (hi : i ≤ 128) (H : Heap) (locs : List Loc) (hM : MO D T H M (cpF v (128 * sN) u_1.1 i) v (acF v pa fi.2.2.1) (kpt fi.2.2.1) (buF fi) fi.2.2.2.2 u_1.1 u_1.2) (hS : va_S (Sy) s.heap H locs) (ls : Array Slot) (hl : lv_has ls 4 [(0, .ref (M 0)), (1, .int (nI sN)), (3, .int (nI i))]) (hn29 : 128 - i < n29), W pg l ev (headSpec wsX4_read ({ frames := 4, cells := 0, slots := 0, locals := 92 })).room s m ([.ref (M 0), .int (nI sN)] : List Value).toArray below meth c H locs 0 0 Q (F0 m 29 ls []) := by
        intro n29
        induction n29 with
        | zero =>
          intro i hi H locs hM hS ls hl hn29
          exact absurd hn29 (Nat.not_lt_zero _)
        | succ n29 ih29 =>
          intro i hi H locs hM hS ls hl hn29
          refine lv_iload_n hx hb dX4_read_29 rfl (lv_at hl 2 rfl) ?_
          refine lv_sipush (v := (nI 128)) hx hb dX4_read_30 (by decide) ?_
          refine lv_icmp_ge (tgt := 60) hx hb dX4_read_33 (by decide) (fun c_3 => ?_) (fun c_3 => ?_)
          · skip
            have c_3 : 128 ≤ i := (nI_leI (a := 128) (b := i) (by omega) (by omega)).mp c_3
            refine lv_aload_n hx hb dX4_read_60 rfl (lv_at hl 0 rfl) ?_
            refine lv_iconst (v := (nI 0)) hx hb dX4_read_61 (by decide) ?_
            refine r_put (C := RX4) (Tb := TX4) (N := 8) hx hb hts in_wsX40 tyX4 tyX4_ok nmX4 hown hK hS (hSy 0 (by decide)) hM.2.1 rfl 5 (by decide) (hts (.fieldLink RX4 95 "PieceSetsModel" "bufferMany" "I") (by decide +kernel)) rfl rfl (ty := .int) (by decide +kernel) rfl rfl (show (5 : Nat) < 8 by decide) dX4_read_62 (fun H_3 locs hat oq hS => ?_)
            have hM := hM.set0 (pk' := (kpt fi.2.2.1)) (bm' := 0) (at' := u_1.2) hat (Fr.oq oq)
            refine lv_aload_n hx hb dX4_read_65 rfl (lv_at hl 0 rfl) ?_
            refine lv_iload_n hx hb dX4_read_66 rfl (lv_at hl 1 rfl) ?_
            refine va_callv (va_runV (As := [.int (nI sN)]) (rest := []) ⟨hx, hb, hml, hown, hts⟩ (k_X4_converts l D T M (cpF v (128 * sN) u_1.1 i) v (acF v pa fi.2.2.1) (kpt fi.2.2.1) (buF fi) 0 u_1.1 u_1.2 sN (by omega)) (cwV 1 hts gX4_read_X4_converts rfl rfl rfl (by decide +kernel) ⟨Nat.le_of_ble_eq_true rfl, Nat.le_of_ble_eq_true rfl⟩) (pre_V (Φ := fun X => MO D T X M (cpF v (128 * sN) u_1.1 i) v (acF v pa fi.2.2.1) (kpt fi.2.2.1) (buF fi) 0 u_1.1 u_1.2) hK (hM.2.1) rfl hM) rfl rfl hl.1 rfl (lv_room (Nat.le_of_ble_eq_true rfl)) dX4_read_67 ⟨Nat.le_of_ble_eq_true rfl, Nat.le_of_ble_eq_true rfl⟩) hS (fun q _ h => by rw [h]; exact hSy 1 (by decide)) (fun q h => by rw [h]; exact hSy 1 (by decide)) (fun u_3 t H_4 locs ht hvm hw hB hz hk hS => ?_)
            rw [ht] at hB
            try dsimp only at hw
            try dsimp only at hB
            have hM := hB
            refine lv_aload_n hx hb dX4_read_70 rfl (lv_at hl 0 rfl) ?_
            refine lv_iload_n hx hb dX4_read_71 rfl (lv_at hl 1 rfl) ?_
            refine vp_callSi (va_Run.run (va_runV (As := [.int (nI sN)]) (rest := []) ⟨hx, hb, hml, hown, hts⟩ (k_X4_sizeOf l D T M (cvU v (cpF v (128 * sN) u_1.1 i) sN 16) v (acF v pa fi.2.2.1) (kpt fi.2.2.1) (buF fi) 0 u_1.1 u_1.2 sN (by omega)) (cwV 1 hts gX4_read_X4_sizeOf rfl rfl rfl (by decide +kernel) ⟨Nat.le_of_ble_eq_true rfl, Nat.le_of_ble_eq_true rfl⟩) (pre_V (Φ := fun X => MO D T X M (cvU v (cpF v (128 * sN) u_1.1 i) sN 16) v (acF v pa fi.2.2.1) (kpt fi.2.2.1) (buF fi) 0 u_1.1 u_1.2) hK (hM.2.1) rfl hM) rfl rfl hl.1 rfl (lv_room (Nat.le_of_ble_eq_true rfl)) dX4_read_72 ⟨Nat.le_of_ble_eq_true rfl, Nat.le_of_ble_eq_true rfl⟩)) (fun r_5 hr_5 => ?_)
            subst hr_5
            subst hQ
            have hi8 : i = 128 := by omega
            have hwe : ∀ t', t' < 6 → ∀ y, y < 4096 → bI (cpF v (128 * sN) u_1.1 i) t' y = if t' = sN then (reaP fi).2.2 y else bI v t' y := by rw [hi8]; exact read_w hsN (hwp.1 htr).2
            have hfin : MSE D T H_4 M Sy (reaN fi (nI sN)) := by
              unfold reaN
              rw [if_pos ⟨okN hsN (by decide), htr⟩, cl_n (by omega)]
              exact ⟨_, _, _, _, _, hM, hSy, hrb, Nat.zero_le _, kpt_5, MRp_act hsN hR0 hwe (fun j hj => (cpF_o (by omega)).trans (hR0.2.1 j hj)) (fun j hj => cpF_o (by omega)), MRp_push hk5 hR0 hRh⟩
            exact W.iret (v := (nI (ct (bI (cvU v (cpF v (128 * sN) u_1.1 i) sN 16) sN) 0 4096))) hx hb hr (fun t ht hW => ⟨⟨(nI (ct (bI (cvU v (cpF v (128 * sN) u_1.1 i) sN 16) sN) 0 4096)), (), rfl, (by unfold reaR; rw [if_pos (okN hsN (by decide)), if_pos htr]; exact congrArg nI (ct_cong (fun z _ hz => (bI_cvU hsN z (by omega)).trans ((hwe sN hsN z (by omega)).trans (if_pos rfl))))), by have h9 := hfin; rw [← ht] at h9; exact h9⟩, hS.F ht⟩) hS.2.2 dX4_read_75
          · skip
            have c_3 : ¬ (128 ≤ i) := fun z => c_3 ((nI_leI (a := 128) (b := i) (by omega) (by omega)).mpr z)
            refine lv_aload_n hx hb dX4_read_36 rfl (lv_at hl 0 rfl) ?_
            refine r_get (C := RX4) (Tb := TX4) (N := 8) hx hb hts in_wsX40 hown hK (hM.2.1) rfl 0 (by decide) (hts (.fieldLink RX4 7 "PieceSetsModel" "v" "[I") (by decide +kernel)) rfl (v := .ref (M 1)) rfl dX4_read_37 ?_
            refine lv_sipush (v := (nI 128)) hx hb dX4_read_40 (by decide) ?_
            refine lv_iload_n hx hb dX4_read_43 rfl (lv_at hl 1 rfl) ?_
            refine lv_imul hx hb dX4_read_44 ?_
            refine top_i (pk_mul 128 sN) ?_
            refine lv_iload_n hx hb dX4_read_45 rfl (lv_at hl 2 rfl) ?_
            refine lv_iadd hx hb dX4_read_46 ?_
            refine top_i (nI_add (128 * sN) i) ?_
            refine lv_aload_n hx hb dX4_read_47 rfl (lv_at hl 0 rfl) ?_
            refine r_get (C := RX4) (Tb := TX4) (N := 8) hx hb hts in_wsX40 hown hK (hM.2.1) rfl 6 (by decide) (hts (.fieldLink RX4 22 "PieceSetsModel" "bits" "[I") (by decide +kernel)) rfl (v := .ref (M 5)) rfl dX4_read_48 ?_
            refine lv_iload_n hx hb dX4_read_51 rfl (lv_at hl 2 rfl) ?_
            refine r_iald hx hb hK (hM.2.2.2.2.2.2) (i := i) (by omega) (by decide) dX4_read_52 ?_
            refine r_iast hx hb hK hS ((hSy 1 (by decide))) (hM.2.2.1) (i := (128 * sN) + i) (by omega) (by decide) dX4_read_53 (fun H_3 locs hat oq hS => ?_)
            have hM := (hM.set1 hat (Fr.oq oq)).eqv (g := (cpF v (128 * sN) u_1.1 (i + 1))) (fun j _ => cpF_s v (128 * sN) u_1.1 i j)
            refine lv_iinc (v := (nI (i + 1))) (lv' := [(3, .int (nI (i + 1))), (0, .ref (M 0)), (1, .int (nI sN))]) hx hb dX4_read_54 hl (k := 2) rfl (iinc_n i 1) (by decide) rfl (fun ls hl => ?_)
            refine lv_goto (tgt := 29) hx hb dX4_read_57 (by decide) ?_
            have hl := lv_sub hl (l' := [(0, .ref (M 0)), (1, .int (nI sN)), (3, .int (nI (i + 1)))]) [1, 2, 0] rfl
            exact ih29 (i + 1) (by omega) H_3 _ hM hS ls hl (by omega)
      have hM := hM.eqv (g := (cpF v (128 * sN) u_1.1 0)) (fun j _ => cpF_0 v (128 * sN) u_1.1 j)
      have hl := lv_sub hl (l' := [(0, .ref (M 0)), (1, .int (nI sN)), (3, .int (nI 0))]) [2, 3, 0] rfl
      exact loop29 (128 - 0 + 1) 0 (Nat.zero_le _) H_2 _ hM hS ls hl (Nat.lt_succ_self _)
    · skip
      refine lv_bipush (v := (-100)) hx hb dX4_read_18 (by decide) ?_
      refine lv_iload_n hx hb dX4_read_20 rfl (lv_at hl 0 rfl) ?_
      refine lv_isub hx hb dX4_read_21 ?_
      subst hQ
      have hfl := PAllM_pos hwp c_2
      have hfin : MSE D T H_1 M Sy (reaN fi (nI sN)) := by
        unfold reaN
        rw [if_neg (fun z => by have h9 := z.2; rw [hfl] at h9; exact absurd h9 (by decide))]
        exact ⟨v, as, pa, _, _, hM, hSy, hrb, hbl, hk5, hR0, hRh⟩
      exact W.iret (v := ((-100) - r_2)) hx hb hr (fun t ht hW => ⟨⟨((-100) - r_2), (), rfl, (by unfold reaR; rw [if_pos (okN hsN (by decide)), if_neg (by rw [hfl]; decide), ← hwp.2 hfl]), by have h9 := hfin; rw [← ht] at h9; exact h9⟩, hS.F ht⟩) hS.2.2 dX4_read_22
  · skip
    have c_1 : (decide (¬ ss < 0 ∧ ss < nI 6)) = false := b2i_0.mp c_1
    have c_1 : ¬ (¬ ss < 0 ∧ ss < nI 6) := of_decide_eq_false c_1
    refine lv_iconst (v := (-1)) hx hb dX4_read_7 (by decide) ?_
    subst hQ
    have hfin : MSE D T s.heap M Sy (reaN fi ss) := by unfold reaN; rw [if_neg (fun z => c_1 z.1)]; exact hH
    exact W.iret (v := (-1)) hx hb hr (fun t ht hW => ⟨⟨(-1), (), rfl, ((if_neg c_1).symm), by have h9 := hfin; rw [← ht] at h9; exact h9⟩, hS.F ht⟩) hS.2.2 dX4_read_8
