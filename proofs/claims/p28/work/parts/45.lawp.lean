set_option maxHeartbeats 4000000 in
set_option maxRecDepth 100000 in
theorem k_L_pieces (l : Launch) (D : va_G) (T : Nat → ClassId) (o : Nat) (Sx : Nat → Prop) (fi : FS) (ss : Nat) (hs6 : ss < 6) : Met l yL_pieces wsL_pieces ({ frames := 6, cells := 0, slots := 0, locals := 159 }) (va_Pc [.ref o, .int (nI ss)] (fun U => KS D T U ∧ PO D T U.heap o Sx fi)) (vp_Si (fun r => r = (nI 1))) 0 0 (fun _ => False) := by
  refine Met.ofW (cc := cL_pieces) (maxL := 13) (ret := (some .boolean)) (by decide) rfl ?_
  intro pg ev s m args below meth c s₁ B hml hv
  obtain ⟨rfl, hK, hH⟩ := hv
  have hx := B.exec
  have hb := B.bytes
  have hr := B.returns
  have hts := atoms_spec (ws := wsL_pieces) B.pre
  have hown : s.vm.findClass RL = some m.cls := findClass_of_methodNamed B.named
  have hlocks := B.notSynchronized
  have in_wsX30 : ∀ w ∈ wsX30, w ∈ wsL_pieces := fun w h => List.mem_cons_of_mem _ (List.mem_append_left _ (List.mem_append_left _ (List.mem_append_right _ h)))
  have in_wsX20 : ∀ w ∈ wsX20, w ∈ wsL_pieces := fun w h => List.mem_cons_of_mem _ (List.mem_append_left _ (List.mem_append_right _ h))
  have in_wsX10 : ∀ w ∈ wsX10, w ∈ wsL_pieces := fun w h => List.mem_cons_of_mem _ (List.mem_append_right _ h)
  have hl := lv_entry ([.ref o, .int (nI ss)]) (n := 13) (Nat.le_of_ble_eq_true rfl)
  rw [lg_entry_eq]
  generalize (lg_sl ([.ref o, .int (nI ss)]) ++ List.replicate (13 - (lg_sl ([.ref o, .int (nI ss)])).length) Slot.unset).toArray = ls at hl ⊢
  have hl : lv_has ls 13 [(0, .ref o), (1, .int (nI ss))] := hl
  refine W_gen (fun Q hQ => ?_)
  have hP := hH
  refine lv_iconst (v := (nI 0)) hx hb dL_pieces_0 (by decide) ?_
  refine lv_istore_n (lv' := [(2, .int (nI 0)), (0, .ref o), (1, .int (nI ss))]) hx hb dL_pieces_1 rfl hl (by decide) rfl (fun ls hl => ?_)
  refine lv_iconst (v := (nI 0)) hx hb dL_pieces_2 (by decide) ?_
  refine lv_istore_n (lv' := [(3, .int (nI 0)), (2, .int (nI 0)), (0, .ref o), (1, .int (nI ss))]) hx hb dL_pieces_3 rfl hl (by decide) rfl (fun ls hl => ?_)
  refine lv_iconst (v := (nI 0)) hx hb dL_pieces_4 (by decide) ?_
  refine lv_istore (lv' := [(4, .int (nI 0)), (3, .int (nI 0)), (2, .int (nI 0)), (0, .ref o), (1, .int (nI ss))]) hx hb dL_pieces_5 hl (by decide) rfl (fun ls hl => ?_)
  refine lv_iconst (v := (nI 0)) hx hb dL_pieces_7 (by decide) ?_
  refine lv_istore (lv' := [(5, .int (nI 0)), (4, .int (nI 0)), (3, .int (nI 0)), (2, .int (nI 0)), (0, .ref o), (1, .int (nI ss))]) hx hb dL_pieces_8 hl (by decide) rfl (fun ls hl => ?_)
  have loop10 : ∀ (n10 : Nat) (i : Nat) (hi : i ≤ 16) (ls : Array Slot) (hl : lv_has ls 13 [(0, .ref o), (1, .int (nI ss)), (2, .int (nI (ct (fi.1.1 ss) 0 (256 * i)))), (3, .int (nI (fb_sm (pcst (fi.1.1 ss)) i))), (4, .int (nI (fb_sm (pcst (fi.1.1 ss)) i))), (5, .int (nI i))]) (hn10 : 16 - i < n10), W pg l ev (headSpec wsL_pieces ({ frames := 6, cells := 0, slots := 0, locals := 159 })).room s m ([.ref o, .int (nI ss)] : List Value).toArray below meth c s.heap [] 0 0 Q (F0 m 10 ls []) := by
    intro n10
    induction n10 with
    | zero =>
      intro i hi ls hl hn10
      exact absurd hn10 (Nat.not_lt_zero _)
    | succ n10 ih10 =>
      intro i hi ls hl hn10
      refine lv_iload hx hb dL_pieces_10 (lv_at hl 5 rfl) ?_
      refine lv_bipush (v := (nI 16)) hx hb dL_pieces_12 (by decide) ?_
      refine lv_icmp_ge (tgt := 300) hx hb dL_pieces_14 (by decide) (fun c_1 => ?_) (fun c_1 => ?_)
      · skip
        have c_1 : 16 ≤ i := (nI_leI (a := 16) (b := i) (by omega) (by omega)).mp c_1
        have hi16 : i = 16 := by omega
        subst hi16
        have hsa : fb_sm (pcst (fi.1.1 ss)) 16 ≤ 16 * 33 := fb_sm_bound (fun k _ => pcst_le _ k)
        have hca := ct_le (fi.1.1 ss) 0 (256 * 16)
        have hcb := ct_le (fi.1.1 ss) 0 4096
        refine lv_iload_n hx hb dL_pieces_300 rfl (lv_at hl 2 rfl) ?_
        refine lv_aload_n hx hb dL_pieces_301 rfl (lv_at hl 0 rfl) ?_
        refine lv_iload_n hx hb dL_pieces_302 rfl (lv_at hl 1 rfl) ?_
        refine vp_callSi (va_Run.run (va_runV (As := [.int (nI ss)]) (rest := [.int (nI (ct (fi.1.1 ss) 0 (256 * 16)))]) ⟨hx, hb, hml, hown, hts⟩ (k_X3_size_o l D T o Sx fi (nI ss) ) (cwV 1 hts gL_pieces_X3_size rfl rfl rfl (by decide +kernel) ⟨Nat.le_of_ble_eq_true rfl, Nat.le_of_ble_eq_true rfl⟩) (pre_V (Φ := fun X => PO D T X o Sx fi) hK ((PO.recv hP).choose_spec) rfl hP) rfl rfl hl.1 rfl (lv_room (Nat.le_of_ble_eq_true rfl)) dL_pieces_303 ⟨Nat.le_of_ble_eq_true rfl, Nat.le_of_ble_eq_true rfl⟩)) (fun r_1 hr_1 => ?_)
        subst hr_1
        refine top_i (x' := (nI (ct (fi.1.1 ss) 0 4096))) (o_siz hs6) ?_
        refine lv_icmp_ne (tgt := 333) hx hb dL_pieces_306 (by decide) (fun c_2 => ?_) (fun c_2 => ?_)
        · skip
          have c_2 : ¬ ((ct (fi.1.1 ss) 0 (256 * 16)) = (ct (fi.1.1 ss) 0 4096)) := fun z => c_2 ((nI_eq (a := (ct (fi.1.1 ss) 0 (256 * 16))) (b := (ct (fi.1.1 ss) 0 4096)) (by omega) (by omega)).mpr z)
          first | exact absurd rfl c_2 | exact absurd (by omega) c_2 | exact absurd c_2 (by omega)
        · skip
          have c_2 : (ct (fi.1.1 ss) 0 (256 * 16)) = (ct (fi.1.1 ss) 0 4096) := (nI_eq (a := (ct (fi.1.1 ss) 0 (256 * 16))) (b := (ct (fi.1.1 ss) 0 4096)) (by omega) (by omega)).mp c_2
          refine lv_iload_n hx hb dL_pieces_309 rfl (lv_at hl 3 rfl) ?_
          refine lv_aload_n hx hb dL_pieces_310 rfl (lv_at hl 0 rfl) ?_
          refine lv_iload_n hx hb dL_pieces_311 rfl (lv_at hl 1 rfl) ?_
          refine vp_callSi (va_Run.run (va_runV (As := [.int (nI ss)]) (rest := [.int (nI (fb_sm (pcst (fi.1.1 ss)) 16))]) ⟨hx, hb, hml, hown, hts⟩ (k_X3_bytes_o l D T o Sx fi (nI ss) ) (cwV 1 hts gL_pieces_X3_bytes rfl rfl rfl (by decide +kernel) ⟨Nat.le_of_ble_eq_true rfl, Nat.le_of_ble_eq_true rfl⟩) (pre_V (Φ := fun X => PO D T X o Sx fi) hK ((PO.recv hP).choose_spec) rfl hP) rfl rfl hl.1 rfl (lv_room (Nat.le_of_ble_eq_true rfl)) dL_pieces_312 ⟨Nat.le_of_ble_eq_true rfl, Nat.le_of_ble_eq_true rfl⟩)) (fun r_2 hr_2 => ?_)
          subst hr_2
          refine top_i (x' := (nI (fb_sm (pcst (fi.1.1 ss)) 16))) (o_byt hs6) ?_
          refine lv_icmp_ne (tgt := 333) hx hb dL_pieces_315 (by decide) (fun c_3 => ?_) (fun c_3 => ?_)
          · skip
            have c_3 : ¬ ((fb_sm (pcst (fi.1.1 ss)) 16) = (fb_sm (pcst (fi.1.1 ss)) 16)) := fun z => c_3 ((nI_eq (a := (fb_sm (pcst (fi.1.1 ss)) 16)) (b := (fb_sm (pcst (fi.1.1 ss)) 16)) (by omega) (by omega)).mpr z)
            first | exact absurd rfl c_3 | exact absurd (by omega) c_3 | exact absurd c_3 (by omega)
          · skip
            have c_3 : (fb_sm (pcst (fi.1.1 ss)) 16) = (fb_sm (pcst (fi.1.1 ss)) 16) := (nI_eq (a := (fb_sm (pcst (fi.1.1 ss)) 16)) (b := (fb_sm (pcst (fi.1.1 ss)) 16)) (by omega) (by omega)).mp c_3
            refine lv_aload_n hx hb dL_pieces_318 rfl (lv_at hl 0 rfl) ?_
            refine lv_iload_n hx hb dL_pieces_319 rfl (lv_at hl 1 rfl) ?_
            refine lv_iload_n hx hb dL_pieces_320 rfl (lv_at hl 3 rfl) ?_
            refine vp_callSi (va_Run.run (va_runV (As := [.int (nI ss), .int (nI (fb_sm (pcst (fi.1.1 ss)) 16))]) (rest := []) ⟨hx, hb, hml, hown, hts⟩ (k_X3_byteAt_o l D T o Sx fi (nI ss) (nI (fb_sm (pcst (fi.1.1 ss)) 16)) ) (cwV 2 hts gL_pieces_X3_byteAt rfl rfl rfl (by decide +kernel) ⟨Nat.le_of_ble_eq_true rfl, Nat.le_of_ble_eq_true rfl⟩) (pre_V (Φ := fun X => PO D T X o Sx fi) hK ((PO.recv hP).choose_spec) rfl hP) rfl rfl hl.1 rfl (lv_room (Nat.le_of_ble_eq_true rfl)) dL_pieces_321 ⟨Nat.le_of_ble_eq_true rfl, Nat.le_of_ble_eq_true rfl⟩)) (fun r_3 hr_3 => ?_)
            subst hr_3
            refine top_i (x' := (-9)) ((o_bya hs6 (by omega)).trans (bf_none _ 16 0 _ (by rw [fb_sm_cong (g := pcst (fi.1.1 ss)) (fun j _ => by rw [Nat.zero_add])]; exact Nat.le_refl _))) ?_
            refine lv_bipush (v := (-9)) hx hb dL_pieces_324 (by decide) ?_
            refine lv_icmp_ne (tgt := 333) hx hb dL_pieces_326 (by decide) (fun c_4 => ?_) (fun c_4 => ?_)
            · skip
              exact absurd rfl c_4
            · skip
              refine lv_iconst (v := (nI 1)) hx hb dL_pieces_329 (by decide) ?_
              refine lv_goto (tgt := 334) hx hb dL_pieces_330 (by decide) ?_
              subst hQ
              refine W.zret (v := (nI 1)) hx hb hr nb1 (fun t ht hW => ⟨(nI 1), rfl, ?_, ht⟩) (fun q h => absurd h List.not_mem_nil) dL_pieces_334
              exact rfl
      · skip
        have c_1 : ¬ (16 ≤ i) := fun z => c_1 ((nI_leI (a := 16) (b := i) (by omega) (by omega)).mpr z)
        have hsm : fb_sm (pcst (fi.1.1 ss)) (i + 1) = fb_sm (pcst (fi.1.1 ss)) i + pcst (fi.1.1 ss) i := fb_sm_succ _ _
        have hct : ct (fi.1.1 ss) 0 (256 * i + 256) = ct (fi.1.1 ss) 0 (256 * i) + pn (fi.1.1 ss) i := by rw [ct_add, Nat.zero_add]; rfl
        have hpn := pn_le (fi.1.1 ss) i
        have hca := ct_le (fi.1.1 ss) 0 (256 * i)
        have hsa : fb_sm (pcst (fi.1.1 ss)) i ≤ i * 33 := fb_sm_bound (fun k _ => pcst_le _ k)
        rcases pc_cases (fi.1.1 ss) i with ⟨hm, hr9, hkd, hcs⟩ | ⟨hm, hr9, hrm, hcd, hkd, hcs, hw0, hw1⟩ | ⟨hm, hr9, hrm, hcd, hkd, hcs, hw0, hw1⟩ | ⟨hm, hr9, hrm, hcd, hkd, hcs, hw0⟩
        · skip
          refine lv_aload_n hx hb dL_pieces_17 rfl (lv_at hl 0 rfl) ?_
          refine lv_iload_n hx hb dL_pieces_18 rfl (lv_at hl 1 rfl) ?_
          refine lv_iload hx hb dL_pieces_19 (lv_at hl 5 rfl) ?_
          refine lv_iconst (v := (nI 1)) hx hb dL_pieces_21 (by decide) ?_
          refine vp_callSi (va_Run.run (va_runV (As := [.int (nI ss), .int (nI i), .int (nI 1)]) (rest := []) ⟨hx, hb, hml, hown, hts⟩ (k_X3_piece_o l D T o Sx fi (nI ss) (nI i) (nI 1) ) (cwV 3 hts gL_pieces_X3_piece rfl rfl rfl (by decide +kernel) ⟨Nat.le_of_ble_eq_true rfl, Nat.le_of_ble_eq_true rfl⟩) (pre_V (Φ := fun X => PO D T X o Sx fi) hK ((PO.recv hP).choose_spec) rfl hP) rfl rfl hl.1 rfl (lv_room (Nat.le_of_ble_eq_true rfl)) dL_pieces_22 ⟨Nat.le_of_ble_eq_true rfl, Nat.le_of_ble_eq_true rfl⟩)) (fun r_1 hr_1 => ?_)
          subst hr_1
          refine top_i (x' := (nI (pn (fi.1.1 ss) i))) (o_pie1 hs6 (by omega)) ?_
          refine lv_istore (lv' := [(6, .int (nI (pn (fi.1.1 ss) i))), (0, .ref o), (1, .int (nI ss)), (2, .int (nI (ct (fi.1.1 ss) 0 (256 * i)))), (3, .int (nI (fb_sm (pcst (fi.1.1 ss)) i))), (4, .int (nI (fb_sm (pcst (fi.1.1 ss)) i))), (5, .int (nI i))]) hx hb dL_pieces_25 hl (by decide) rfl (fun ls hl => ?_)
          refine lv_aload_n hx hb dL_pieces_27 rfl (lv_at hl 1 rfl) ?_
          refine lv_iload_n hx hb dL_pieces_28 rfl (lv_at hl 2 rfl) ?_
          refine lv_iload hx hb dL_pieces_29 (lv_at hl 6 rfl) ?_
          refine lv_iconst (v := (nI 2)) hx hb dL_pieces_31 (by decide) ?_
          refine vp_callSi (va_Run.run (va_runV (As := [.int (nI ss), .int (nI i), .int (nI 2)]) (rest := []) ⟨hx, hb, hml, hown, hts⟩ (k_X3_piece_o l D T o Sx fi (nI ss) (nI i) (nI 2) ) (cwV 3 hts gL_pieces_X3_piece rfl rfl rfl (by decide +kernel) ⟨Nat.le_of_ble_eq_true rfl, Nat.le_of_ble_eq_true rfl⟩) (pre_V (Φ := fun X => PO D T X o Sx fi) hK ((PO.recv hP).choose_spec) rfl hP) rfl rfl hl.1 rfl (lv_room (Nat.le_of_ble_eq_true rfl)) dL_pieces_32 ⟨Nat.le_of_ble_eq_true rfl, Nat.le_of_ble_eq_true rfl⟩)) (fun r_2 hr_2 => ?_)
          subst hr_2
          refine top_i (x' := (nI (pr (fi.1.1 ss) i))) (o_pie2 hs6 (by omega)) ?_
          refine lv_istore (lv' := [(7, .int (nI (pr (fi.1.1 ss) i))), (6, .int (nI (pn (fi.1.1 ss) i))), (0, .ref o), (1, .int (nI ss)), (2, .int (nI (ct (fi.1.1 ss) 0 (256 * i)))), (3, .int (nI (fb_sm (pcst (fi.1.1 ss)) i))), (4, .int (nI (fb_sm (pcst (fi.1.1 ss)) i))), (5, .int (nI i))]) hx hb dL_pieces_35 hl (by decide) rfl (fun ls hl => ?_)
          refine lv_aload_n hx hb dL_pieces_37 rfl (lv_at hl 2 rfl) ?_
          refine lv_iload_n hx hb dL_pieces_38 rfl (lv_at hl 3 rfl) ?_
          refine lv_iload hx hb dL_pieces_39 (lv_at hl 7 rfl) ?_
          refine lv_iconst (v := (nI 0)) hx hb dL_pieces_41 (by decide) ?_
          refine vp_callSi (va_Run.run (va_runV (As := [.int (nI ss), .int (nI i), .int (nI 0)]) (rest := []) ⟨hx, hb, hml, hown, hts⟩ (k_X3_piece_o l D T o Sx fi (nI ss) (nI i) (nI 0) ) (cwV 3 hts gL_pieces_X3_piece rfl rfl rfl (by decide +kernel) ⟨Nat.le_of_ble_eq_true rfl, Nat.le_of_ble_eq_true rfl⟩) (pre_V (Φ := fun X => PO D T X o Sx fi) hK ((PO.recv hP).choose_spec) rfl hP) rfl rfl hl.1 rfl (lv_room (Nat.le_of_ble_eq_true rfl)) dL_pieces_42 ⟨Nat.le_of_ble_eq_true rfl, Nat.le_of_ble_eq_true rfl⟩)) (fun r_3 hr_3 => ?_)
          subst hr_3
          refine top_i (x' := (-9)) ((o_pie0 hs6 (by omega)).trans hkd) ?_
          refine lv_istore (lv' := [(8, .int (-9)), (7, .int (nI (pr (fi.1.1 ss) i))), (6, .int (nI (pn (fi.1.1 ss) i))), (0, .ref o), (1, .int (nI ss)), (2, .int (nI (ct (fi.1.1 ss) 0 (256 * i)))), (3, .int (nI (fb_sm (pcst (fi.1.1 ss)) i))), (4, .int (nI (fb_sm (pcst (fi.1.1 ss)) i))), (5, .int (nI i))]) hx hb dL_pieces_45 hl (by decide) rfl (fun ls hl => ?_)
          refine lv_aload_n hx hb dL_pieces_47 rfl (lv_at hl 3 rfl) ?_
          refine lv_iload_n hx hb dL_pieces_48 rfl (lv_at hl 4 rfl) ?_
          refine lv_iload hx hb dL_pieces_49 (lv_at hl 8 rfl) ?_
          refine lv_iconst (v := (nI 3)) hx hb dL_pieces_51 (by decide) ?_
          refine vp_callSi (va_Run.run (va_runV (As := [.int (nI ss), .int (nI i), .int (nI 3)]) (rest := []) ⟨hx, hb, hml, hown, hts⟩ (k_X3_piece_o l D T o Sx fi (nI ss) (nI i) (nI 3) ) (cwV 3 hts gL_pieces_X3_piece rfl rfl rfl (by decide +kernel) ⟨Nat.le_of_ble_eq_true rfl, Nat.le_of_ble_eq_true rfl⟩) (pre_V (Φ := fun X => PO D T X o Sx fi) hK ((PO.recv hP).choose_spec) rfl hP) rfl rfl hl.1 rfl (lv_room (Nat.le_of_ble_eq_true rfl)) dL_pieces_52 ⟨Nat.le_of_ble_eq_true rfl, Nat.le_of_ble_eq_true rfl⟩)) (fun r_4 hr_4 => ?_)
          subst hr_4
          refine top_i (x' := (nI 0)) ((o_pie3 hs6 (by omega)).trans (congrArg nI hcs)) ?_
          refine lv_istore (lv' := [(9, .int (nI 0)), (8, .int (-9)), (7, .int (nI (pr (fi.1.1 ss) i))), (6, .int (nI (pn (fi.1.1 ss) i))), (0, .ref o), (1, .int (nI ss)), (2, .int (nI (ct (fi.1.1 ss) 0 (256 * i)))), (3, .int (nI (fb_sm (pcst (fi.1.1 ss)) i))), (4, .int (nI (fb_sm (pcst (fi.1.1 ss)) i))), (5, .int (nI i))]) hx hb dL_pieces_55 hl (by decide) rfl (fun ls hl => ?_)
          refine lv_iconst (v := (nI 2)) hx hb dL_pieces_57 (by decide) ?_
          refine lv_iload hx hb dL_pieces_58 (lv_at hl 3 rfl) ?_
          refine lv_iadd hx hb dL_pieces_60 ?_
          refine top_i (nI_add 2 (pn (fi.1.1 ss) i)) ?_
          refine lv_istore (lv' := [(10, .int (nI (2 + (pn (fi.1.1 ss) i)))), (9, .int (nI 0)), (8, .int (-9)), (7, .int (nI (pr (fi.1.1 ss) i))), (6, .int (nI (pn (fi.1.1 ss) i))), (0, .ref o), (1, .int (nI ss)), (2, .int (nI (ct (fi.1.1 ss) 0 (256 * i)))), (3, .int (nI (fb_sm (pcst (fi.1.1 ss)) i))), (4, .int (nI (fb_sm (pcst (fi.1.1 ss)) i))), (5, .int (nI i))]) hx hb dL_pieces_61 hl (by decide) rfl (fun ls hl => ?_)
          refine lv_iconst (v := (nI 2)) hx hb dL_pieces_63 (by decide) ?_
          refine lv_iconst (v := (nI 2)) hx hb dL_pieces_64 (by decide) ?_
          refine lv_iload hx hb dL_pieces_65 (lv_at hl 3 rfl) ?_
          refine lv_imul hx hb dL_pieces_67 ?_
          refine top_i (pk_mul 2 (pr (fi.1.1 ss) i)) ?_
          refine lv_iadd hx hb dL_pieces_68 ?_
          refine top_i (nI_add 2 (2 * (pr (fi.1.1 ss) i))) ?_
          refine lv_istore (lv' := [(11, .int (nI (2 + (2 * (pr (fi.1.1 ss) i))))), (10, .int (nI (2 + (pn (fi.1.1 ss) i)))), (9, .int (nI 0)), (8, .int (-9)), (7, .int (nI (pr (fi.1.1 ss) i))), (6, .int (nI (pn (fi.1.1 ss) i))), (0, .ref o), (1, .int (nI ss)), (2, .int (nI (ct (fi.1.1 ss) 0 (256 * i)))), (3, .int (nI (fb_sm (pcst (fi.1.1 ss)) i))), (4, .int (nI (fb_sm (pcst (fi.1.1 ss)) i))), (5, .int (nI i))]) hx hb dL_pieces_69 hl (by decide) rfl (fun ls hl => ?_)
          refine lv_iload hx hb dL_pieces_71 (lv_at hl 5 rfl) ?_
          refine lv_if_ne (tgt := 81) hx hb dL_pieces_73 (by decide) (fun c_2 => ?_) (fun c_2 => ?_)
          · skip
            have c_2 : ¬ ((pn (fi.1.1 ss) i) = 0) := fun z => c_2 ((nI_e0 (a := (pn (fi.1.1 ss) i)) (by omega)).mpr z)
            first | exact absurd rfl c_2 | exact absurd (by omega) c_2 | exact absurd c_2 (by omega)
          · skip
            have c_2 : (pn (fi.1.1 ss) i) = 0 := (nI_e0 (a := (pn (fi.1.1 ss) i)) (by omega)).mp c_2
            refine lv_bipush (v := (-9)) hx hb dL_pieces_76 (by decide) ?_
            refine lv_goto (tgt := 111) hx hb dL_pieces_78 (by decide) ?_
            refine lv_istore (lv' := [(12, .int (-9)), (11, .int (nI (2 + (2 * (pr (fi.1.1 ss) i))))), (10, .int (nI (2 + (pn (fi.1.1 ss) i)))), (9, .int (nI 0)), (8, .int (-9)), (7, .int (nI (pr (fi.1.1 ss) i))), (6, .int (nI (pn (fi.1.1 ss) i))), (0, .ref o), (1, .int (nI ss)), (2, .int (nI (ct (fi.1.1 ss) 0 (256 * i)))), (3, .int (nI (fb_sm (pcst (fi.1.1 ss)) i))), (4, .int (nI (fb_sm (pcst (fi.1.1 ss)) i))), (5, .int (nI i))]) hx hb dL_pieces_111 hl (by decide) rfl (fun ls hl => ?_)
            refine lv_iload hx hb dL_pieces_113 (lv_at hl 4 rfl) ?_
            refine lv_iload hx hb dL_pieces_115 (lv_at hl 0 rfl) ?_
            refine lv_icmp_ne (tgt := 221) hx hb dL_pieces_117 (by decide) (fun c_3 => ?_) (fun c_3 => ?_)
            · skip
              first | exact absurd rfl c_3 | exact absurd (by omega) c_3 | exact absurd c_3 (by omega)
            · skip
              refine lv_iload hx hb dL_pieces_120 (lv_at hl 3 rfl) ?_
              refine lv_iload hx hb dL_pieces_122 (lv_at hl 6 rfl) ?_
              refine lv_if_ne (tgt := 131) hx hb dL_pieces_124 (by decide) (fun c_4 => ?_) (fun c_4 => ?_)
              · skip
                have c_4 : ¬ ((pn (fi.1.1 ss) i) = 0) := fun z => c_4 ((nI_e0 (a := (pn (fi.1.1 ss) i)) (by omega)).mpr z)
                first | exact absurd rfl c_4 | exact absurd (by omega) c_4 | exact absurd c_4 (by omega)
              · skip
                have c_4 : (pn (fi.1.1 ss) i) = 0 := (nI_e0 (a := (pn (fi.1.1 ss) i)) (by omega)).mp c_4
                refine lv_iconst (v := (nI 0)) hx hb dL_pieces_127 (by decide) ?_
                refine lv_goto (tgt := 154) hx hb dL_pieces_128 (by decide) ?_
                refine lv_icmp_ne (tgt := 221) hx hb dL_pieces_154 (by decide) (fun c_5 => ?_) (fun c_5 => ?_)
                · skip
                  exact absurd rfl c_5
                · skip
                  refine lv_iload hx hb dL_pieces_157 (lv_at hl 6 rfl) ?_
                  refine lv_aload_n hx hb dL_pieces_159 rfl (lv_at hl 7 rfl) ?_
                  refine lv_iload_n hx hb dL_pieces_160 rfl (lv_at hl 8 rfl) ?_
                  refine lv_sipush (v := (nI 256)) hx hb dL_pieces_161 (by decide) ?_
                  refine lv_iload hx hb dL_pieces_164 (lv_at hl 12 rfl) ?_
                  refine lv_imul hx hb dL_pieces_166 ?_
                  refine top_i (pk_mul 256 i) ?_
                  refine lv_sipush (v := (nI 255)) hx hb dL_pieces_167 (by decide) ?_
                  refine lv_iadd hx hb dL_pieces_170 ?_
                  refine top_i (nI_add (256 * i) 255) ?_
                  refine vp_callSi (va_Run.run (va_runV (As := [.int (nI ss), .int (nI ((256 * i) + 255))]) (rest := [.int (nI (pn (fi.1.1 ss) i))]) ⟨hx, hb, hml, hown, hts⟩ (k_X3_rank_o l D T o Sx fi (nI ss) (nI ((256 * i) + 255)) ) (cwV 2 hts gL_pieces_X3_rank rfl rfl rfl (by decide +kernel) ⟨Nat.le_of_ble_eq_true rfl, Nat.le_of_ble_eq_true rfl⟩) (pre_V (Φ := fun X => PO D T X o Sx fi) hK ((PO.recv hP).choose_spec) rfl hP) rfl rfl hl.1 rfl (lv_room (Nat.le_of_ble_eq_true rfl)) dL_pieces_171 ⟨Nat.le_of_ble_eq_true rfl, Nat.le_of_ble_eq_true rfl⟩)) (fun r_5 hr_5 => ?_)
                  subst hr_5
                  refine top_i (x' := (nI (ct (fi.1.1 ss) 0 (256 * i + 256)))) (o_rann hs6 (by omega)) ?_
                  refine lv_aload_n hx hb dL_pieces_174 rfl (lv_at hl 7 rfl) ?_
                  refine lv_iload_n hx hb dL_pieces_175 rfl (lv_at hl 8 rfl) ?_
                  refine lv_sipush (v := (nI 256)) hx hb dL_pieces_176 (by decide) ?_
                  refine lv_iload hx hb dL_pieces_179 (lv_at hl 12 rfl) ?_
                  refine lv_imul hx hb dL_pieces_181 ?_
                  refine top_i (pk_mul 256 i) ?_
                  refine lv_iconst (v := (nI 1)) hx hb dL_pieces_182 (by decide) ?_
                  refine lv_isub hx hb dL_pieces_183 ?_
                  refine vp_callSi (va_Run.run (va_runV (As := [.int (nI ss), .int ((nI (256 * i)) - (nI 1))]) (rest := [.int (nI (ct (fi.1.1 ss) 0 (256 * i + 256))), .int (nI (pn (fi.1.1 ss) i))]) ⟨hx, hb, hml, hown, hts⟩ (k_X3_rank_o l D T o Sx fi (nI ss) ((nI (256 * i)) - (nI 1)) ) (cwV 2 hts gL_pieces_X3_rank rfl rfl rfl (by decide +kernel) ⟨Nat.le_of_ble_eq_true rfl, Nat.le_of_ble_eq_true rfl⟩) (pre_V (Φ := fun X => PO D T X o Sx fi) hK ((PO.recv hP).choose_spec) rfl hP) rfl rfl hl.1 rfl (lv_room (Nat.le_of_ble_eq_true rfl)) dL_pieces_184 ⟨Nat.le_of_ble_eq_true rfl, Nat.le_of_ble_eq_true rfl⟩)) (fun r_6 hr_6 => ?_)
                  subst hr_6
                  refine top_i (x' := (nI (ct (fi.1.1 ss) 0 (256 * i)))) ((o_ran hs6 _).trans (congrArg nI (ctr_lo _ (by omega)))) ?_
                  refine lv_isub hx hb dL_pieces_187 ?_
                  refine top_i (pk_sub (a := ct (fi.1.1 ss) 0 (256 * i + 256)) (b := ct (fi.1.1 ss) 0 (256 * i)) (by omega)) ?_
                  refine lv_icmp_ne (tgt := 221) hx hb dL_pieces_188 (by decide) (fun c_6 => ?_) (fun c_6 => ?_)
                  · skip
                    have c_6 : ¬ ((pn (fi.1.1 ss) i) = ((ct (fi.1.1 ss) 0 (256 * i + 256)) - (ct (fi.1.1 ss) 0 (256 * i)))) := fun z => c_6 ((nI_eq (a := (pn (fi.1.1 ss) i)) (b := ((ct (fi.1.1 ss) 0 (256 * i + 256)) - (ct (fi.1.1 ss) 0 (256 * i)))) (by omega) (by omega)).mpr z)
                    first | exact absurd rfl c_6 | exact absurd (by omega) c_6 | exact absurd c_6 (by omega)
                  · skip
                    have c_6 : (pn (fi.1.1 ss) i) = ((ct (fi.1.1 ss) 0 (256 * i + 256)) - (ct (fi.1.1 ss) 0 (256 * i))) := (nI_eq (a := (pn (fi.1.1 ss) i)) (b := ((ct (fi.1.1 ss) 0 (256 * i + 256)) - (ct (fi.1.1 ss) 0 (256 * i)))) (by omega) (by omega)).mp c_6
                    refine lv_iload hx hb dL_pieces_191 (lv_at hl 6 rfl) ?_
                    refine lv_if_ne (tgt := 200) hx hb dL_pieces_193 (by decide) (fun c_7 => ?_) (fun c_7 => ?_)
                    · skip
                      have c_7 : ¬ ((pn (fi.1.1 ss) i) = 0) := fun z => c_7 ((nI_e0 (a := (pn (fi.1.1 ss) i)) (by omega)).mpr z)
                      first | exact absurd rfl c_7 | exact absurd (by omega) c_7 | exact absurd c_7 (by omega)
                    · skip
                      have c_7 : (pn (fi.1.1 ss) i) = 0 := (nI_e0 (a := (pn (fi.1.1 ss) i)) (by omega)).mp c_7
                      refine lv_iconst (v := (nI 1)) hx hb dL_pieces_196 (by decide) ?_
                      refine lv_goto (tgt := 201) hx hb dL_pieces_197 (by decide) ?_
                      refine lv_iload hx hb dL_pieces_201 (lv_at hl 5 rfl) ?_
                      refine lv_if_ne (tgt := 210) hx hb dL_pieces_203 (by decide) (fun c_8 => ?_) (fun c_8 => ?_)
                      · skip
                        have c_8 : ¬ ((pr (fi.1.1 ss) i) = 0) := fun z => c_8 ((nI_e0 (a := (pr (fi.1.1 ss) i)) (by omega)).mpr z)
                        first | exact absurd rfl c_8 | exact absurd (by omega) c_8 | exact absurd c_8 (by omega)
                      · skip
                        have c_8 : (pr (fi.1.1 ss) i) = 0 := (nI_e0 (a := (pr (fi.1.1 ss) i)) (by omega)).mp c_8
                        refine lv_iconst (v := (nI 1)) hx hb dL_pieces_206 (by decide) ?_
                        refine lv_goto (tgt := 211) hx hb dL_pieces_207 (by decide) ?_
                        refine lv_icmp_ne (tgt := 221) hx hb dL_pieces_211 (by decide) (fun c_9 => ?_) (fun c_9 => ?_)
                        · skip
                          exact absurd rfl c_9
                        · skip
                          refine lv_iload hx hb dL_pieces_214 (lv_at hl 5 rfl) ?_
                          refine lv_iload hx hb dL_pieces_216 (lv_at hl 6 rfl) ?_
                          refine lv_icmp_le (tgt := 223) hx hb dL_pieces_218 (by decide) (fun c_10 => ?_) (fun c_10 => ?_)
                          · skip
                            have c_10 : (pr (fi.1.1 ss) i) ≤ (pn (fi.1.1 ss) i) := (nI_leI (a := (pr (fi.1.1 ss) i)) (b := (pn (fi.1.1 ss) i)) (by omega) (by omega)).mp c_10
                            refine lv_iload hx hb dL_pieces_223 (lv_at hl 6 rfl) ?_
                            refine lv_if_le (tgt := 277) hx hb dL_pieces_225 (by decide) (fun c_11 => ?_) (fun c_11 => ?_)
                            · skip
                              have c_11 : (pn (fi.1.1 ss) i) = 0 := (nI_le0 (a := (pn (fi.1.1 ss) i)) (by omega)).mp c_11
                              refine lv_iload hx hb dL_pieces_277 (lv_at hl 11 rfl) ?_
                              refine lv_iload hx hb dL_pieces_279 (lv_at hl 3 rfl) ?_
                              refine lv_iadd hx hb dL_pieces_281 ?_
                              refine top_i (nI_add (fb_sm (pcst (fi.1.1 ss)) i) 0) ?_
                              refine lv_istore (lv' := [(4, .int (nI ((fb_sm (pcst (fi.1.1 ss)) i) + 0))), (12, .int (-9)), (11, .int (nI (2 + (2 * (pr (fi.1.1 ss) i))))), (10, .int (nI (2 + (pn (fi.1.1 ss) i)))), (9, .int (nI 0)), (8, .int (-9)), (7, .int (nI (pr (fi.1.1 ss) i))), (6, .int (nI (pn (fi.1.1 ss) i))), (0, .ref o), (1, .int (nI ss)), (2, .int (nI (ct (fi.1.1 ss) 0 (256 * i)))), (3, .int (nI (fb_sm (pcst (fi.1.1 ss)) i))), (5, .int (nI i))]) hx hb dL_pieces_282 hl (by decide) rfl (fun ls hl => ?_)
                              refine lv_iload_n hx hb dL_pieces_284 rfl (lv_at hl 10 rfl) ?_
                              refine lv_iload hx hb dL_pieces_285 (lv_at hl 7 rfl) ?_
                              refine lv_iadd hx hb dL_pieces_287 ?_
                              refine top_i (nI_add (ct (fi.1.1 ss) 0 (256 * i)) (pn (fi.1.1 ss) i)) ?_
                              refine lv_istore_n (lv' := [(2, .int (nI ((ct (fi.1.1 ss) 0 (256 * i)) + (pn (fi.1.1 ss) i)))), (4, .int (nI ((fb_sm (pcst (fi.1.1 ss)) i) + 0))), (12, .int (-9)), (11, .int (nI (2 + (2 * (pr (fi.1.1 ss) i))))), (10, .int (nI (2 + (pn (fi.1.1 ss) i)))), (9, .int (nI 0)), (8, .int (-9)), (7, .int (nI (pr (fi.1.1 ss) i))), (6, .int (nI (pn (fi.1.1 ss) i))), (0, .ref o), (1, .int (nI ss)), (3, .int (nI (fb_sm (pcst (fi.1.1 ss)) i))), (5, .int (nI i))]) hx hb dL_pieces_288 rfl hl (by decide) rfl (fun ls hl => ?_)
                              refine lv_iload_n hx hb dL_pieces_289 rfl (lv_at hl 11 rfl) ?_
                              refine lv_iload hx hb dL_pieces_290 (lv_at hl 5 rfl) ?_
                              refine lv_iadd hx hb dL_pieces_292 ?_
                              refine top_i (nI_add (fb_sm (pcst (fi.1.1 ss)) i) 0) ?_
                              refine lv_istore_n (lv' := [(3, .int (nI ((fb_sm (pcst (fi.1.1 ss)) i) + 0))), (2, .int (nI ((ct (fi.1.1 ss) 0 (256 * i)) + (pn (fi.1.1 ss) i)))), (4, .int (nI ((fb_sm (pcst (fi.1.1 ss)) i) + 0))), (12, .int (-9)), (11, .int (nI (2 + (2 * (pr (fi.1.1 ss) i))))), (10, .int (nI (2 + (pn (fi.1.1 ss) i)))), (9, .int (nI 0)), (8, .int (-9)), (7, .int (nI (pr (fi.1.1 ss) i))), (6, .int (nI (pn (fi.1.1 ss) i))), (0, .ref o), (1, .int (nI ss)), (5, .int (nI i))]) hx hb dL_pieces_293 rfl hl (by decide) rfl (fun ls hl => ?_)
                              refine lv_iinc (v := (nI (i + 1))) (lv' := [(5, .int (nI (i + 1))), (3, .int (nI ((fb_sm (pcst (fi.1.1 ss)) i) + 0))), (2, .int (nI ((ct (fi.1.1 ss) 0 (256 * i)) + (pn (fi.1.1 ss) i)))), (4, .int (nI ((fb_sm (pcst (fi.1.1 ss)) i) + 0))), (12, .int (-9)), (11, .int (nI (2 + (2 * (pr (fi.1.1 ss) i))))), (10, .int (nI (2 + (pn (fi.1.1 ss) i)))), (9, .int (nI 0)), (8, .int (-9)), (7, .int (nI (pr (fi.1.1 ss) i))), (6, .int (nI (pn (fi.1.1 ss) i))), (0, .ref o), (1, .int (nI ss))]) hx hb dL_pieces_294 hl (k := 12) rfl (iinc_n i 1) (by decide) rfl (fun ls hl => ?_)
                              refine lv_goto (tgt := 10) hx hb dL_pieces_297 (by decide) ?_
                              have hl := lv_sub hl (l' := [(0, .ref o), (1, .int (nI ss)), (2, .int (nI ((ct (fi.1.1 ss) 0 (256 * i)) + (pn (fi.1.1 ss) i)))), (3, .int (nI ((fb_sm (pcst (fi.1.1 ss)) i) + 0))), (4, .int (nI ((fb_sm (pcst (fi.1.1 ss)) i) + 0))), (5, .int (nI (i + 1)))]) [11, 12, 2, 1, 3, 0] rfl
                              have q_1 : (nI ((ct (fi.1.1 ss) 0 (256 * i)) + (pn (fi.1.1 ss) i))) = (nI (ct (fi.1.1 ss) 0 (256 * (i + 1)))) := congrArg nI (by rw [show 256 * (i + 1) = 256 * i + 256 by omega]; omega)
                              have q_2 : (nI ((fb_sm (pcst (fi.1.1 ss)) i) + 0)) = (nI (fb_sm (pcst (fi.1.1 ss)) (i + 1))) := congrArg nI (by omega)
                              have q_3 : (nI ((fb_sm (pcst (fi.1.1 ss)) i) + 0)) = (nI (fb_sm (pcst (fi.1.1 ss)) (i + 1))) := congrArg nI (by omega)
                              have hl : lv_has ls 13 [(0, .ref o), (1, .int (nI ss)), (2, .int (nI (ct (fi.1.1 ss) 0 (256 * (i + 1))))), (3, .int (nI (fb_sm (pcst (fi.1.1 ss)) (i + 1)))), (4, .int (nI (fb_sm (pcst (fi.1.1 ss)) (i + 1)))), (5, .int (nI (i + 1)))] := by
                                have h := hl
                                rw [q_1] at h
                                rw [q_2] at h
                                exact h
                              exact ih10 (i + 1) (by omega) ls hl (by omega)
                            · skip
                              have c_11 : ¬ ((pn (fi.1.1 ss) i) = 0) := fun z => c_11 ((nI_le0 (a := (pn (fi.1.1 ss) i)) (by omega)).mpr z)
                              first | exact absurd rfl c_11 | exact absurd (by omega) c_11 | exact absurd c_11 (by omega)
                          · skip
                            have c_10 : ¬ ((pr (fi.1.1 ss) i) ≤ (pn (fi.1.1 ss) i)) := fun z => c_10 ((nI_leI (a := (pr (fi.1.1 ss) i)) (b := (pn (fi.1.1 ss) i)) (by omega) (by omega)).mpr z)
                            first | exact absurd rfl c_10 | exact absurd (by omega) c_10 | exact absurd c_10 (by omega)
        · skip
          refine lv_aload_n hx hb dL_pieces_17 rfl (lv_at hl 0 rfl) ?_
          refine lv_iload_n hx hb dL_pieces_18 rfl (lv_at hl 1 rfl) ?_
          refine lv_iload hx hb dL_pieces_19 (lv_at hl 5 rfl) ?_
          refine lv_iconst (v := (nI 1)) hx hb dL_pieces_21 (by decide) ?_
          refine vp_callSi (va_Run.run (va_runV (As := [.int (nI ss), .int (nI i), .int (nI 1)]) (rest := []) ⟨hx, hb, hml, hown, hts⟩ (k_X3_piece_o l D T o Sx fi (nI ss) (nI i) (nI 1) ) (cwV 3 hts gL_pieces_X3_piece rfl rfl rfl (by decide +kernel) ⟨Nat.le_of_ble_eq_true rfl, Nat.le_of_ble_eq_true rfl⟩) (pre_V (Φ := fun X => PO D T X o Sx fi) hK ((PO.recv hP).choose_spec) rfl hP) rfl rfl hl.1 rfl (lv_room (Nat.le_of_ble_eq_true rfl)) dL_pieces_22 ⟨Nat.le_of_ble_eq_true rfl, Nat.le_of_ble_eq_true rfl⟩)) (fun r_1 hr_1 => ?_)
          subst hr_1
          refine top_i (x' := (nI (pn (fi.1.1 ss) i))) (o_pie1 hs6 (by omega)) ?_
          refine lv_istore (lv' := [(6, .int (nI (pn (fi.1.1 ss) i))), (0, .ref o), (1, .int (nI ss)), (2, .int (nI (ct (fi.1.1 ss) 0 (256 * i)))), (3, .int (nI (fb_sm (pcst (fi.1.1 ss)) i))), (4, .int (nI (fb_sm (pcst (fi.1.1 ss)) i))), (5, .int (nI i))]) hx hb dL_pieces_25 hl (by decide) rfl (fun ls hl => ?_)
          refine lv_aload_n hx hb dL_pieces_27 rfl (lv_at hl 1 rfl) ?_
          refine lv_iload_n hx hb dL_pieces_28 rfl (lv_at hl 2 rfl) ?_
          refine lv_iload hx hb dL_pieces_29 (lv_at hl 6 rfl) ?_
          refine lv_iconst (v := (nI 2)) hx hb dL_pieces_31 (by decide) ?_
          refine vp_callSi (va_Run.run (va_runV (As := [.int (nI ss), .int (nI i), .int (nI 2)]) (rest := []) ⟨hx, hb, hml, hown, hts⟩ (k_X3_piece_o l D T o Sx fi (nI ss) (nI i) (nI 2) ) (cwV 3 hts gL_pieces_X3_piece rfl rfl rfl (by decide +kernel) ⟨Nat.le_of_ble_eq_true rfl, Nat.le_of_ble_eq_true rfl⟩) (pre_V (Φ := fun X => PO D T X o Sx fi) hK ((PO.recv hP).choose_spec) rfl hP) rfl rfl hl.1 rfl (lv_room (Nat.le_of_ble_eq_true rfl)) dL_pieces_32 ⟨Nat.le_of_ble_eq_true rfl, Nat.le_of_ble_eq_true rfl⟩)) (fun r_2 hr_2 => ?_)
          subst hr_2
          refine top_i (x' := (nI (pr (fi.1.1 ss) i))) (o_pie2 hs6 (by omega)) ?_
          refine lv_istore (lv' := [(7, .int (nI (pr (fi.1.1 ss) i))), (6, .int (nI (pn (fi.1.1 ss) i))), (0, .ref o), (1, .int (nI ss)), (2, .int (nI (ct (fi.1.1 ss) 0 (256 * i)))), (3, .int (nI (fb_sm (pcst (fi.1.1 ss)) i))), (4, .int (nI (fb_sm (pcst (fi.1.1 ss)) i))), (5, .int (nI i))]) hx hb dL_pieces_35 hl (by decide) rfl (fun ls hl => ?_)
          refine lv_aload_n hx hb dL_pieces_37 rfl (lv_at hl 2 rfl) ?_
          refine lv_iload_n hx hb dL_pieces_38 rfl (lv_at hl 3 rfl) ?_
          refine lv_iload hx hb dL_pieces_39 (lv_at hl 7 rfl) ?_
          refine lv_iconst (v := (nI 0)) hx hb dL_pieces_41 (by decide) ?_
          refine vp_callSi (va_Run.run (va_runV (As := [.int (nI ss), .int (nI i), .int (nI 0)]) (rest := []) ⟨hx, hb, hml, hown, hts⟩ (k_X3_piece_o l D T o Sx fi (nI ss) (nI i) (nI 0) ) (cwV 3 hts gL_pieces_X3_piece rfl rfl rfl (by decide +kernel) ⟨Nat.le_of_ble_eq_true rfl, Nat.le_of_ble_eq_true rfl⟩) (pre_V (Φ := fun X => PO D T X o Sx fi) hK ((PO.recv hP).choose_spec) rfl hP) rfl rfl hl.1 rfl (lv_room (Nat.le_of_ble_eq_true rfl)) dL_pieces_42 ⟨Nat.le_of_ble_eq_true rfl, Nat.le_of_ble_eq_true rfl⟩)) (fun r_3 hr_3 => ?_)
          subst hr_3
          refine top_i (x' := (nI 0)) ((o_pie0 hs6 (by omega)).trans hkd) ?_
          refine lv_istore (lv' := [(8, .int (nI 0)), (7, .int (nI (pr (fi.1.1 ss) i))), (6, .int (nI (pn (fi.1.1 ss) i))), (0, .ref o), (1, .int (nI ss)), (2, .int (nI (ct (fi.1.1 ss) 0 (256 * i)))), (3, .int (nI (fb_sm (pcst (fi.1.1 ss)) i))), (4, .int (nI (fb_sm (pcst (fi.1.1 ss)) i))), (5, .int (nI i))]) hx hb dL_pieces_45 hl (by decide) rfl (fun ls hl => ?_)
          refine lv_aload_n hx hb dL_pieces_47 rfl (lv_at hl 3 rfl) ?_
          refine lv_iload_n hx hb dL_pieces_48 rfl (lv_at hl 4 rfl) ?_
          refine lv_iload hx hb dL_pieces_49 (lv_at hl 8 rfl) ?_
          refine lv_iconst (v := (nI 3)) hx hb dL_pieces_51 (by decide) ?_
          refine vp_callSi (va_Run.run (va_runV (As := [.int (nI ss), .int (nI i), .int (nI 3)]) (rest := []) ⟨hx, hb, hml, hown, hts⟩ (k_X3_piece_o l D T o Sx fi (nI ss) (nI i) (nI 3) ) (cwV 3 hts gL_pieces_X3_piece rfl rfl rfl (by decide +kernel) ⟨Nat.le_of_ble_eq_true rfl, Nat.le_of_ble_eq_true rfl⟩) (pre_V (Φ := fun X => PO D T X o Sx fi) hK ((PO.recv hP).choose_spec) rfl hP) rfl rfl hl.1 rfl (lv_room (Nat.le_of_ble_eq_true rfl)) dL_pieces_52 ⟨Nat.le_of_ble_eq_true rfl, Nat.le_of_ble_eq_true rfl⟩)) (fun r_4 hr_4 => ?_)
          subst hr_4
          refine top_i (x' := (nI (2 + pn (fi.1.1 ss) i))) ((o_pie3 hs6 (by omega)).trans (congrArg nI hcs)) ?_
          refine lv_istore (lv' := [(9, .int (nI (2 + pn (fi.1.1 ss) i))), (8, .int (nI 0)), (7, .int (nI (pr (fi.1.1 ss) i))), (6, .int (nI (pn (fi.1.1 ss) i))), (0, .ref o), (1, .int (nI ss)), (2, .int (nI (ct (fi.1.1 ss) 0 (256 * i)))), (3, .int (nI (fb_sm (pcst (fi.1.1 ss)) i))), (4, .int (nI (fb_sm (pcst (fi.1.1 ss)) i))), (5, .int (nI i))]) hx hb dL_pieces_55 hl (by decide) rfl (fun ls hl => ?_)
          refine lv_iconst (v := (nI 2)) hx hb dL_pieces_57 (by decide) ?_
          refine lv_iload hx hb dL_pieces_58 (lv_at hl 3 rfl) ?_
          refine lv_iadd hx hb dL_pieces_60 ?_
          refine top_i (nI_add 2 (pn (fi.1.1 ss) i)) ?_
          refine lv_istore (lv' := [(10, .int (nI (2 + (pn (fi.1.1 ss) i)))), (9, .int (nI (2 + pn (fi.1.1 ss) i))), (8, .int (nI 0)), (7, .int (nI (pr (fi.1.1 ss) i))), (6, .int (nI (pn (fi.1.1 ss) i))), (0, .ref o), (1, .int (nI ss)), (2, .int (nI (ct (fi.1.1 ss) 0 (256 * i)))), (3, .int (nI (fb_sm (pcst (fi.1.1 ss)) i))), (4, .int (nI (fb_sm (pcst (fi.1.1 ss)) i))), (5, .int (nI i))]) hx hb dL_pieces_61 hl (by decide) rfl (fun ls hl => ?_)
          refine lv_iconst (v := (nI 2)) hx hb dL_pieces_63 (by decide) ?_
          refine lv_iconst (v := (nI 2)) hx hb dL_pieces_64 (by decide) ?_
          refine lv_iload hx hb dL_pieces_65 (lv_at hl 3 rfl) ?_
          refine lv_imul hx hb dL_pieces_67 ?_
          refine top_i (pk_mul 2 (pr (fi.1.1 ss) i)) ?_
          refine lv_iadd hx hb dL_pieces_68 ?_
          refine top_i (nI_add 2 (2 * (pr (fi.1.1 ss) i))) ?_
          refine lv_istore (lv' := [(11, .int (nI (2 + (2 * (pr (fi.1.1 ss) i))))), (10, .int (nI (2 + (pn (fi.1.1 ss) i)))), (9, .int (nI (2 + pn (fi.1.1 ss) i))), (8, .int (nI 0)), (7, .int (nI (pr (fi.1.1 ss) i))), (6, .int (nI (pn (fi.1.1 ss) i))), (0, .ref o), (1, .int (nI ss)), (2, .int (nI (ct (fi.1.1 ss) 0 (256 * i)))), (3, .int (nI (fb_sm (pcst (fi.1.1 ss)) i))), (4, .int (nI (fb_sm (pcst (fi.1.1 ss)) i))), (5, .int (nI i))]) hx hb dL_pieces_69 hl (by decide) rfl (fun ls hl => ?_)
          refine lv_iload hx hb dL_pieces_71 (lv_at hl 5 rfl) ?_
          refine lv_if_ne (tgt := 81) hx hb dL_pieces_73 (by decide) (fun c_2 => ?_) (fun c_2 => ?_)
          · skip
            have c_2 : ¬ ((pn (fi.1.1 ss) i) = 0) := fun z => c_2 ((nI_e0 (a := (pn (fi.1.1 ss) i)) (by omega)).mpr z)
            refine lv_iload hx hb dL_pieces_81 (lv_at hl 1 rfl) ?_
            refine lv_iload hx hb dL_pieces_83 (lv_at hl 0 rfl) ?_
            refine lv_icmp_gt (tgt := 99) hx hb dL_pieces_85 (by decide) (fun c_3 => ?_) (fun c_3 => ?_)
            · skip
              have c_3 : (2 + (2 * (pr (fi.1.1 ss) i))) < (2 + (pn (fi.1.1 ss) i)) := (nI_ltI (a := (2 + (2 * (pr (fi.1.1 ss) i)))) (b := (2 + (pn (fi.1.1 ss) i))) (by omega) (by omega)).mp c_3
              first | exact absurd rfl c_3 | exact absurd (by omega) c_3 | exact absurd c_3 (by omega)
            · skip
              have c_3 : ¬ ((2 + (2 * (pr (fi.1.1 ss) i))) < (2 + (pn (fi.1.1 ss) i))) := fun z => c_3 ((nI_ltI (a := (2 + (2 * (pr (fi.1.1 ss) i)))) (b := (2 + (pn (fi.1.1 ss) i))) (by omega) (by omega)).mpr z)
              refine lv_iload hx hb dL_pieces_88 (lv_at hl 1 rfl) ?_
              refine lv_bipush (v := (nI 33)) hx hb dL_pieces_90 (by decide) ?_
              refine lv_icmp_gt (tgt := 99) hx hb dL_pieces_92 (by decide) (fun c_4 => ?_) (fun c_4 => ?_)
              · skip
                have c_4 : 33 < (2 + (pn (fi.1.1 ss) i)) := (nI_ltI (a := 33) (b := (2 + (pn (fi.1.1 ss) i))) (by omega) (by omega)).mp c_4
                first | exact absurd rfl c_4 | exact absurd (by omega) c_4 | exact absurd c_4 (by omega)
              · skip
                have c_4 : ¬ (33 < (2 + (pn (fi.1.1 ss) i))) := fun z => c_4 ((nI_ltI (a := 33) (b := (2 + (pn (fi.1.1 ss) i))) (by omega) (by omega)).mpr z)
                refine lv_iconst (v := (nI 0)) hx hb dL_pieces_95 (by decide) ?_
                refine lv_goto (tgt := 111) hx hb dL_pieces_96 (by decide) ?_
                refine lv_istore (lv' := [(12, .int (nI 0)), (11, .int (nI (2 + (2 * (pr (fi.1.1 ss) i))))), (10, .int (nI (2 + (pn (fi.1.1 ss) i)))), (9, .int (nI (2 + pn (fi.1.1 ss) i))), (8, .int (nI 0)), (7, .int (nI (pr (fi.1.1 ss) i))), (6, .int (nI (pn (fi.1.1 ss) i))), (0, .ref o), (1, .int (nI ss)), (2, .int (nI (ct (fi.1.1 ss) 0 (256 * i)))), (3, .int (nI (fb_sm (pcst (fi.1.1 ss)) i))), (4, .int (nI (fb_sm (pcst (fi.1.1 ss)) i))), (5, .int (nI i))]) hx hb dL_pieces_111 hl (by decide) rfl (fun ls hl => ?_)
                refine lv_iload hx hb dL_pieces_113 (lv_at hl 4 rfl) ?_
                refine lv_iload hx hb dL_pieces_115 (lv_at hl 0 rfl) ?_
                refine lv_icmp_ne (tgt := 221) hx hb dL_pieces_117 (by decide) (fun c_5 => ?_) (fun c_5 => ?_)
                · skip
                  exact absurd rfl c_5
                · skip
                  refine lv_iload hx hb dL_pieces_120 (lv_at hl 3 rfl) ?_
                  refine lv_iload hx hb dL_pieces_122 (lv_at hl 6 rfl) ?_
                  refine lv_if_ne (tgt := 131) hx hb dL_pieces_124 (by decide) (fun c_6 => ?_) (fun c_6 => ?_)
                  · skip
                    have c_6 : ¬ ((pn (fi.1.1 ss) i) = 0) := fun z => c_6 ((nI_e0 (a := (pn (fi.1.1 ss) i)) (by omega)).mpr z)
                    refine lv_iload hx hb dL_pieces_131 (lv_at hl 0 rfl) ?_
                    refine lv_if_ne (tgt := 141) hx hb dL_pieces_133 (by decide) (fun c_7 => ?_) (fun c_7 => ?_)
                    · skip
                      exact absurd (by decide) c_7
                    · skip
                      refine lv_iload hx hb dL_pieces_136 (lv_at hl 2 rfl) ?_
                      refine lv_goto (tgt := 154) hx hb dL_pieces_138 (by decide) ?_
                      refine lv_icmp_ne (tgt := 221) hx hb dL_pieces_154 (by decide) (fun c_8 => ?_) (fun c_8 => ?_)
                      · skip
                        have c_8 : ¬ ((2 + pn (fi.1.1 ss) i) = (2 + (pn (fi.1.1 ss) i))) := fun z => c_8 ((nI_eq (a := (2 + pn (fi.1.1 ss) i)) (b := (2 + (pn (fi.1.1 ss) i))) (by omega) (by omega)).mpr z)
                        first | exact absurd rfl c_8 | exact absurd (by omega) c_8 | exact absurd c_8 (by omega)
                      · skip
                        have c_8 : (2 + pn (fi.1.1 ss) i) = (2 + (pn (fi.1.1 ss) i)) := (nI_eq (a := (2 + pn (fi.1.1 ss) i)) (b := (2 + (pn (fi.1.1 ss) i))) (by omega) (by omega)).mp c_8
                        refine lv_iload hx hb dL_pieces_157 (lv_at hl 6 rfl) ?_
                        refine lv_aload_n hx hb dL_pieces_159 rfl (lv_at hl 7 rfl) ?_
                        refine lv_iload_n hx hb dL_pieces_160 rfl (lv_at hl 8 rfl) ?_
                        refine lv_sipush (v := (nI 256)) hx hb dL_pieces_161 (by decide) ?_
                        refine lv_iload hx hb dL_pieces_164 (lv_at hl 12 rfl) ?_
                        refine lv_imul hx hb dL_pieces_166 ?_
                        refine top_i (pk_mul 256 i) ?_
                        refine lv_sipush (v := (nI 255)) hx hb dL_pieces_167 (by decide) ?_
                        refine lv_iadd hx hb dL_pieces_170 ?_
                        refine top_i (nI_add (256 * i) 255) ?_
                        refine vp_callSi (va_Run.run (va_runV (As := [.int (nI ss), .int (nI ((256 * i) + 255))]) (rest := [.int (nI (pn (fi.1.1 ss) i))]) ⟨hx, hb, hml, hown, hts⟩ (k_X3_rank_o l D T o Sx fi (nI ss) (nI ((256 * i) + 255)) ) (cwV 2 hts gL_pieces_X3_rank rfl rfl rfl (by decide +kernel) ⟨Nat.le_of_ble_eq_true rfl, Nat.le_of_ble_eq_true rfl⟩) (pre_V (Φ := fun X => PO D T X o Sx fi) hK ((PO.recv hP).choose_spec) rfl hP) rfl rfl hl.1 rfl (lv_room (Nat.le_of_ble_eq_true rfl)) dL_pieces_171 ⟨Nat.le_of_ble_eq_true rfl, Nat.le_of_ble_eq_true rfl⟩)) (fun r_5 hr_5 => ?_)
                        subst hr_5
                        refine top_i (x' := (nI (ct (fi.1.1 ss) 0 (256 * i + 256)))) (o_rann hs6 (by omega)) ?_
                        refine lv_aload_n hx hb dL_pieces_174 rfl (lv_at hl 7 rfl) ?_
                        refine lv_iload_n hx hb dL_pieces_175 rfl (lv_at hl 8 rfl) ?_
                        refine lv_sipush (v := (nI 256)) hx hb dL_pieces_176 (by decide) ?_
                        refine lv_iload hx hb dL_pieces_179 (lv_at hl 12 rfl) ?_
                        refine lv_imul hx hb dL_pieces_181 ?_
                        refine top_i (pk_mul 256 i) ?_
                        refine lv_iconst (v := (nI 1)) hx hb dL_pieces_182 (by decide) ?_
                        refine lv_isub hx hb dL_pieces_183 ?_
                        refine vp_callSi (va_Run.run (va_runV (As := [.int (nI ss), .int ((nI (256 * i)) - (nI 1))]) (rest := [.int (nI (ct (fi.1.1 ss) 0 (256 * i + 256))), .int (nI (pn (fi.1.1 ss) i))]) ⟨hx, hb, hml, hown, hts⟩ (k_X3_rank_o l D T o Sx fi (nI ss) ((nI (256 * i)) - (nI 1)) ) (cwV 2 hts gL_pieces_X3_rank rfl rfl rfl (by decide +kernel) ⟨Nat.le_of_ble_eq_true rfl, Nat.le_of_ble_eq_true rfl⟩) (pre_V (Φ := fun X => PO D T X o Sx fi) hK ((PO.recv hP).choose_spec) rfl hP) rfl rfl hl.1 rfl (lv_room (Nat.le_of_ble_eq_true rfl)) dL_pieces_184 ⟨Nat.le_of_ble_eq_true rfl, Nat.le_of_ble_eq_true rfl⟩)) (fun r_6 hr_6 => ?_)
                        subst hr_6
                        refine top_i (x' := (nI (ct (fi.1.1 ss) 0 (256 * i)))) ((o_ran hs6 _).trans (congrArg nI (ctr_lo _ (by omega)))) ?_
                        refine lv_isub hx hb dL_pieces_187 ?_
                        refine top_i (pk_sub (a := ct (fi.1.1 ss) 0 (256 * i + 256)) (b := ct (fi.1.1 ss) 0 (256 * i)) (by omega)) ?_
                        refine lv_icmp_ne (tgt := 221) hx hb dL_pieces_188 (by decide) (fun c_9 => ?_) (fun c_9 => ?_)
                        · skip
                          have c_9 : ¬ ((pn (fi.1.1 ss) i) = ((ct (fi.1.1 ss) 0 (256 * i + 256)) - (ct (fi.1.1 ss) 0 (256 * i)))) := fun z => c_9 ((nI_eq (a := (pn (fi.1.1 ss) i)) (b := ((ct (fi.1.1 ss) 0 (256 * i + 256)) - (ct (fi.1.1 ss) 0 (256 * i)))) (by omega) (by omega)).mpr z)
                          first | exact absurd rfl c_9 | exact absurd (by omega) c_9 | exact absurd c_9 (by omega)
                        · skip
                          have c_9 : (pn (fi.1.1 ss) i) = ((ct (fi.1.1 ss) 0 (256 * i + 256)) - (ct (fi.1.1 ss) 0 (256 * i))) := (nI_eq (a := (pn (fi.1.1 ss) i)) (b := ((ct (fi.1.1 ss) 0 (256 * i + 256)) - (ct (fi.1.1 ss) 0 (256 * i)))) (by omega) (by omega)).mp c_9
                          refine lv_iload hx hb dL_pieces_191 (lv_at hl 6 rfl) ?_
                          refine lv_if_ne (tgt := 200) hx hb dL_pieces_193 (by decide) (fun c_10 => ?_) (fun c_10 => ?_)
                          · skip
                            have c_10 : ¬ ((pn (fi.1.1 ss) i) = 0) := fun z => c_10 ((nI_e0 (a := (pn (fi.1.1 ss) i)) (by omega)).mpr z)
                            refine lv_iconst (v := (nI 0)) hx hb dL_pieces_200 (by decide) ?_
                            refine lv_iload hx hb dL_pieces_201 (lv_at hl 5 rfl) ?_
                            refine lv_if_ne (tgt := 210) hx hb dL_pieces_203 (by decide) (fun c_11 => ?_) (fun c_11 => ?_)
                            · skip
                              have c_11 : ¬ ((pr (fi.1.1 ss) i) = 0) := fun z => c_11 ((nI_e0 (a := (pr (fi.1.1 ss) i)) (by omega)).mpr z)
                              refine lv_iconst (v := (nI 0)) hx hb dL_pieces_210 (by decide) ?_
                              refine lv_icmp_ne (tgt := 221) hx hb dL_pieces_211 (by decide) (fun c_12 => ?_) (fun c_12 => ?_)
                              · skip
                                exact absurd rfl c_12
                              · skip
                                refine lv_iload hx hb dL_pieces_214 (lv_at hl 5 rfl) ?_
                                refine lv_iload hx hb dL_pieces_216 (lv_at hl 6 rfl) ?_
                                refine lv_icmp_le (tgt := 223) hx hb dL_pieces_218 (by decide) (fun c_13 => ?_) (fun c_13 => ?_)
                                · skip
                                  have c_13 : (pr (fi.1.1 ss) i) ≤ (pn (fi.1.1 ss) i) := (nI_leI (a := (pr (fi.1.1 ss) i)) (b := (pn (fi.1.1 ss) i)) (by omega) (by omega)).mp c_13
                                  refine lv_iload hx hb dL_pieces_223 (lv_at hl 6 rfl) ?_
                                  refine lv_if_le (tgt := 277) hx hb dL_pieces_225 (by decide) (fun c_14 => ?_) (fun c_14 => ?_)
                                  · skip
                                    have c_14 : (pn (fi.1.1 ss) i) = 0 := (nI_le0 (a := (pn (fi.1.1 ss) i)) (by omega)).mp c_14
                                    first | exact absurd rfl c_14 | exact absurd (by omega) c_14 | exact absurd c_14 (by omega)
                                  · skip
                                    have c_14 : ¬ ((pn (fi.1.1 ss) i) = 0) := fun z => c_14 ((nI_le0 (a := (pn (fi.1.1 ss) i)) (by omega)).mpr z)
                                    refine lv_aload_n hx hb dL_pieces_228 rfl (lv_at hl 7 rfl) ?_
                                    refine lv_iload_n hx hb dL_pieces_229 rfl (lv_at hl 8 rfl) ?_
                                    refine lv_iload hx hb dL_pieces_230 (lv_at hl 11 rfl) ?_
                                    refine vp_callSi (va_Run.run (va_runV (As := [.int (nI ss), .int (nI (fb_sm (pcst (fi.1.1 ss)) i))]) (rest := []) ⟨hx, hb, hml, hown, hts⟩ (k_X3_byteAt_o l D T o Sx fi (nI ss) (nI (fb_sm (pcst (fi.1.1 ss)) i)) ) (cwV 2 hts gL_pieces_X3_byteAt rfl rfl rfl (by decide +kernel) ⟨Nat.le_of_ble_eq_true rfl, Nat.le_of_ble_eq_true rfl⟩) (pre_V (Φ := fun X => PO D T X o Sx fi) hK ((PO.recv hP).choose_spec) rfl hP) rfl rfl hl.1 rfl (lv_room (Nat.le_of_ble_eq_true rfl)) dL_pieces_232 ⟨Nat.le_of_ble_eq_true rfl, Nat.le_of_ble_eq_true rfl⟩)) (fun r_7 hr_7 => ?_)
                                    subst hr_7
                                    refine top_i (x' := (nI (4 * i + 0))) ((o_bya hs6 (by omega)).trans ((bfF_at (i := 0) (by omega) (by omega)).trans hw0)) ?_
                                    refine lv_iconst (v := (nI 4)) hx hb dL_pieces_235 (by decide) ?_
                                    refine lv_iload hx hb dL_pieces_236 (lv_at hl 12 rfl) ?_
                                    refine lv_imul hx hb dL_pieces_238 ?_
                                    refine top_i (pk_mul 4 i) ?_
                                    refine lv_iload hx hb dL_pieces_239 (lv_at hl 4 rfl) ?_
                                    refine lv_iadd hx hb dL_pieces_241 ?_
                                    refine top_i (nI_add (4 * i) 0) ?_
                                    refine lv_icmp_ne (tgt := 275) hx hb dL_pieces_242 (by decide) (fun c_15 => ?_) (fun c_15 => ?_)
                                    · skip
                                      have c_15 : ¬ ((4 * i + 0) = ((4 * i) + 0)) := fun z => c_15 ((nI_eq (a := (4 * i + 0)) (b := ((4 * i) + 0)) (by omega) (by omega)).mpr z)
                                      first | exact absurd rfl c_15 | exact absurd (by omega) c_15 | exact absurd c_15 (by omega)
                                    · skip
                                      have c_15 : (4 * i + 0) = ((4 * i) + 0) := (nI_eq (a := (4 * i + 0)) (b := ((4 * i) + 0)) (by omega) (by omega)).mp c_15
                                      refine lv_iload hx hb dL_pieces_245 (lv_at hl 4 rfl) ?_
                                      refine lv_iconst (v := (nI 2)) hx hb dL_pieces_247 (by decide) ?_
                                      refine lv_icmp_ge (tgt := 277) hx hb dL_pieces_248 (by decide) (fun c_16 => ?_) (fun c_16 => ?_)
                                      · skip
                                        have c_16 : 2 ≤ 0 := (nI_leI (a := 2) (b := 0) (by omega) (by omega)).mp c_16
                                        first | exact absurd rfl c_16 | exact absurd (by omega) c_16 | exact absurd c_16 (by omega)
                                      · skip
                                        have c_16 : ¬ (2 ≤ 0) := fun z => c_16 ((nI_leI (a := 2) (b := 0) (by omega) (by omega)).mpr z)
                                        refine lv_aload_n hx hb dL_pieces_251 rfl (lv_at hl 7 rfl) ?_
                                        refine lv_iload_n hx hb dL_pieces_252 rfl (lv_at hl 8 rfl) ?_
                                        refine lv_iload hx hb dL_pieces_253 (lv_at hl 11 rfl) ?_
                                        refine lv_iconst (v := (nI 1)) hx hb dL_pieces_255 (by decide) ?_
                                        refine lv_iadd hx hb dL_pieces_256 ?_
                                        refine top_i (nI_add (fb_sm (pcst (fi.1.1 ss)) i) 1) ?_
                                        refine vp_callSi (va_Run.run (va_runV (As := [.int (nI ss), .int (nI ((fb_sm (pcst (fi.1.1 ss)) i) + 1))]) (rest := []) ⟨hx, hb, hml, hown, hts⟩ (k_X3_byteAt_o l D T o Sx fi (nI ss) (nI ((fb_sm (pcst (fi.1.1 ss)) i) + 1)) ) (cwV 2 hts gL_pieces_X3_byteAt rfl rfl rfl (by decide +kernel) ⟨Nat.le_of_ble_eq_true rfl, Nat.le_of_ble_eq_true rfl⟩) (pre_V (Φ := fun X => PO D T X o Sx fi) hK ((PO.recv hP).choose_spec) rfl hP) rfl rfl hl.1 rfl (lv_room (Nat.le_of_ble_eq_true rfl)) dL_pieces_257 ⟨Nat.le_of_ble_eq_true rfl, Nat.le_of_ble_eq_true rfl⟩)) (fun r_8 hr_8 => ?_)
                                        subst hr_8
                                        refine top_i (x' := (nI (pn (fi.1.1 ss) i))) ((o_bya hs6 (by omega)).trans ((bfF_at (i := 1) (by omega) (by omega)).trans hw1)) ?_
                                        refine lv_iload hx hb dL_pieces_260 (lv_at hl 4 rfl) ?_
                                        refine lv_if_ne (tgt := 270) hx hb dL_pieces_262 (by decide) (fun c_17 => ?_) (fun c_17 => ?_)
                                        · skip
                                          exact absurd (by decide) c_17
                                        · skip
                                          refine lv_iload hx hb dL_pieces_265 (lv_at hl 6 rfl) ?_
                                          refine lv_goto (tgt := 272) hx hb dL_pieces_267 (by decide) ?_
                                          refine lv_icmp_eq (tgt := 277) hx hb dL_pieces_272 (by decide) (fun c_18 => ?_) (fun c_18 => ?_)
                                          · skip
                                            have c_18 : (pn (fi.1.1 ss) i) = (pn (fi.1.1 ss) i) := (nI_eq (a := (pn (fi.1.1 ss) i)) (b := (pn (fi.1.1 ss) i)) (by omega) (by omega)).mp c_18
                                            refine lv_iload hx hb dL_pieces_277 (lv_at hl 11 rfl) ?_
                                            refine lv_iload hx hb dL_pieces_279 (lv_at hl 3 rfl) ?_
                                            refine lv_iadd hx hb dL_pieces_281 ?_
                                            refine top_i (nI_add (fb_sm (pcst (fi.1.1 ss)) i) (2 + pn (fi.1.1 ss) i)) ?_
                                            refine lv_istore (lv' := [(4, .int (nI ((fb_sm (pcst (fi.1.1 ss)) i) + (2 + pn (fi.1.1 ss) i)))), (12, .int (nI 0)), (11, .int (nI (2 + (2 * (pr (fi.1.1 ss) i))))), (10, .int (nI (2 + (pn (fi.1.1 ss) i)))), (9, .int (nI (2 + pn (fi.1.1 ss) i))), (8, .int (nI 0)), (7, .int (nI (pr (fi.1.1 ss) i))), (6, .int (nI (pn (fi.1.1 ss) i))), (0, .ref o), (1, .int (nI ss)), (2, .int (nI (ct (fi.1.1 ss) 0 (256 * i)))), (3, .int (nI (fb_sm (pcst (fi.1.1 ss)) i))), (5, .int (nI i))]) hx hb dL_pieces_282 hl (by decide) rfl (fun ls hl => ?_)
                                            refine lv_iload_n hx hb dL_pieces_284 rfl (lv_at hl 10 rfl) ?_
                                            refine lv_iload hx hb dL_pieces_285 (lv_at hl 7 rfl) ?_
                                            refine lv_iadd hx hb dL_pieces_287 ?_
                                            refine top_i (nI_add (ct (fi.1.1 ss) 0 (256 * i)) (pn (fi.1.1 ss) i)) ?_
                                            refine lv_istore_n (lv' := [(2, .int (nI ((ct (fi.1.1 ss) 0 (256 * i)) + (pn (fi.1.1 ss) i)))), (4, .int (nI ((fb_sm (pcst (fi.1.1 ss)) i) + (2 + pn (fi.1.1 ss) i)))), (12, .int (nI 0)), (11, .int (nI (2 + (2 * (pr (fi.1.1 ss) i))))), (10, .int (nI (2 + (pn (fi.1.1 ss) i)))), (9, .int (nI (2 + pn (fi.1.1 ss) i))), (8, .int (nI 0)), (7, .int (nI (pr (fi.1.1 ss) i))), (6, .int (nI (pn (fi.1.1 ss) i))), (0, .ref o), (1, .int (nI ss)), (3, .int (nI (fb_sm (pcst (fi.1.1 ss)) i))), (5, .int (nI i))]) hx hb dL_pieces_288 rfl hl (by decide) rfl (fun ls hl => ?_)
                                            refine lv_iload_n hx hb dL_pieces_289 rfl (lv_at hl 11 rfl) ?_
                                            refine lv_iload hx hb dL_pieces_290 (lv_at hl 5 rfl) ?_
                                            refine lv_iadd hx hb dL_pieces_292 ?_
                                            refine top_i (nI_add (fb_sm (pcst (fi.1.1 ss)) i) (2 + pn (fi.1.1 ss) i)) ?_
                                            refine lv_istore_n (lv' := [(3, .int (nI ((fb_sm (pcst (fi.1.1 ss)) i) + (2 + pn (fi.1.1 ss) i)))), (2, .int (nI ((ct (fi.1.1 ss) 0 (256 * i)) + (pn (fi.1.1 ss) i)))), (4, .int (nI ((fb_sm (pcst (fi.1.1 ss)) i) + (2 + pn (fi.1.1 ss) i)))), (12, .int (nI 0)), (11, .int (nI (2 + (2 * (pr (fi.1.1 ss) i))))), (10, .int (nI (2 + (pn (fi.1.1 ss) i)))), (9, .int (nI (2 + pn (fi.1.1 ss) i))), (8, .int (nI 0)), (7, .int (nI (pr (fi.1.1 ss) i))), (6, .int (nI (pn (fi.1.1 ss) i))), (0, .ref o), (1, .int (nI ss)), (5, .int (nI i))]) hx hb dL_pieces_293 rfl hl (by decide) rfl (fun ls hl => ?_)
                                            refine lv_iinc (v := (nI (i + 1))) (lv' := [(5, .int (nI (i + 1))), (3, .int (nI ((fb_sm (pcst (fi.1.1 ss)) i) + (2 + pn (fi.1.1 ss) i)))), (2, .int (nI ((ct (fi.1.1 ss) 0 (256 * i)) + (pn (fi.1.1 ss) i)))), (4, .int (nI ((fb_sm (pcst (fi.1.1 ss)) i) + (2 + pn (fi.1.1 ss) i)))), (12, .int (nI 0)), (11, .int (nI (2 + (2 * (pr (fi.1.1 ss) i))))), (10, .int (nI (2 + (pn (fi.1.1 ss) i)))), (9, .int (nI (2 + pn (fi.1.1 ss) i))), (8, .int (nI 0)), (7, .int (nI (pr (fi.1.1 ss) i))), (6, .int (nI (pn (fi.1.1 ss) i))), (0, .ref o), (1, .int (nI ss))]) hx hb dL_pieces_294 hl (k := 12) rfl (iinc_n i 1) (by decide) rfl (fun ls hl => ?_)
                                            refine lv_goto (tgt := 10) hx hb dL_pieces_297 (by decide) ?_
                                            have hl := lv_sub hl (l' := [(0, .ref o), (1, .int (nI ss)), (2, .int (nI ((ct (fi.1.1 ss) 0 (256 * i)) + (pn (fi.1.1 ss) i)))), (3, .int (nI ((fb_sm (pcst (fi.1.1 ss)) i) + (2 + pn (fi.1.1 ss) i)))), (4, .int (nI ((fb_sm (pcst (fi.1.1 ss)) i) + (2 + pn (fi.1.1 ss) i)))), (5, .int (nI (i + 1)))]) [11, 12, 2, 1, 3, 0] rfl
                                            have q_1 : (nI ((ct (fi.1.1 ss) 0 (256 * i)) + (pn (fi.1.1 ss) i))) = (nI (ct (fi.1.1 ss) 0 (256 * (i + 1)))) := congrArg nI (by rw [show 256 * (i + 1) = 256 * i + 256 by omega]; omega)
                                            have q_2 : (nI ((fb_sm (pcst (fi.1.1 ss)) i) + (2 + pn (fi.1.1 ss) i))) = (nI (fb_sm (pcst (fi.1.1 ss)) (i + 1))) := congrArg nI (by omega)
                                            have q_3 : (nI ((fb_sm (pcst (fi.1.1 ss)) i) + (2 + pn (fi.1.1 ss) i))) = (nI (fb_sm (pcst (fi.1.1 ss)) (i + 1))) := congrArg nI (by omega)
                                            have hl : lv_has ls 13 [(0, .ref o), (1, .int (nI ss)), (2, .int (nI (ct (fi.1.1 ss) 0 (256 * (i + 1))))), (3, .int (nI (fb_sm (pcst (fi.1.1 ss)) (i + 1)))), (4, .int (nI (fb_sm (pcst (fi.1.1 ss)) (i + 1)))), (5, .int (nI (i + 1)))] := by
                                              have h := hl
                                              rw [q_1] at h
                                              rw [q_2] at h
                                              exact h
                                            exact ih10 (i + 1) (by omega) ls hl (by omega)
                                          · skip
                                            have c_18 : ¬ ((pn (fi.1.1 ss) i) = (pn (fi.1.1 ss) i)) := fun z => c_18 ((nI_eq (a := (pn (fi.1.1 ss) i)) (b := (pn (fi.1.1 ss) i)) (by omega) (by omega)).mpr z)
                                            first | exact absurd rfl c_18 | exact absurd (by omega) c_18 | exact absurd c_18 (by omega)
                                · skip
                                  have c_13 : ¬ ((pr (fi.1.1 ss) i) ≤ (pn (fi.1.1 ss) i)) := fun z => c_13 ((nI_leI (a := (pr (fi.1.1 ss) i)) (b := (pn (fi.1.1 ss) i)) (by omega) (by omega)).mpr z)
                                  first | exact absurd rfl c_13 | exact absurd (by omega) c_13 | exact absurd c_13 (by omega)
                            · skip
                              have c_11 : (pr (fi.1.1 ss) i) = 0 := (nI_e0 (a := (pr (fi.1.1 ss) i)) (by omega)).mp c_11
                              first | exact absurd rfl c_11 | exact absurd (by omega) c_11 | exact absurd c_11 (by omega)
                          · skip
                            have c_10 : (pn (fi.1.1 ss) i) = 0 := (nI_e0 (a := (pn (fi.1.1 ss) i)) (by omega)).mp c_10
                            first | exact absurd rfl c_10 | exact absurd (by omega) c_10 | exact absurd c_10 (by omega)
                  · skip
                    have c_6 : (pn (fi.1.1 ss) i) = 0 := (nI_e0 (a := (pn (fi.1.1 ss) i)) (by omega)).mp c_6
                    first | exact absurd rfl c_6 | exact absurd (by omega) c_6 | exact absurd c_6 (by omega)
          · skip
            have c_2 : (pn (fi.1.1 ss) i) = 0 := (nI_e0 (a := (pn (fi.1.1 ss) i)) (by omega)).mp c_2
            first | exact absurd rfl c_2 | exact absurd (by omega) c_2 | exact absurd c_2 (by omega)
        · skip
          refine lv_aload_n hx hb dL_pieces_17 rfl (lv_at hl 0 rfl) ?_
          refine lv_iload_n hx hb dL_pieces_18 rfl (lv_at hl 1 rfl) ?_
          refine lv_iload hx hb dL_pieces_19 (lv_at hl 5 rfl) ?_
          refine lv_iconst (v := (nI 1)) hx hb dL_pieces_21 (by decide) ?_
          refine vp_callSi (va_Run.run (va_runV (As := [.int (nI ss), .int (nI i), .int (nI 1)]) (rest := []) ⟨hx, hb, hml, hown, hts⟩ (k_X3_piece_o l D T o Sx fi (nI ss) (nI i) (nI 1) ) (cwV 3 hts gL_pieces_X3_piece rfl rfl rfl (by decide +kernel) ⟨Nat.le_of_ble_eq_true rfl, Nat.le_of_ble_eq_true rfl⟩) (pre_V (Φ := fun X => PO D T X o Sx fi) hK ((PO.recv hP).choose_spec) rfl hP) rfl rfl hl.1 rfl (lv_room (Nat.le_of_ble_eq_true rfl)) dL_pieces_22 ⟨Nat.le_of_ble_eq_true rfl, Nat.le_of_ble_eq_true rfl⟩)) (fun r_1 hr_1 => ?_)
          subst hr_1
          refine top_i (x' := (nI (pn (fi.1.1 ss) i))) (o_pie1 hs6 (by omega)) ?_
          refine lv_istore (lv' := [(6, .int (nI (pn (fi.1.1 ss) i))), (0, .ref o), (1, .int (nI ss)), (2, .int (nI (ct (fi.1.1 ss) 0 (256 * i)))), (3, .int (nI (fb_sm (pcst (fi.1.1 ss)) i))), (4, .int (nI (fb_sm (pcst (fi.1.1 ss)) i))), (5, .int (nI i))]) hx hb dL_pieces_25 hl (by decide) rfl (fun ls hl => ?_)
          refine lv_aload_n hx hb dL_pieces_27 rfl (lv_at hl 1 rfl) ?_
          refine lv_iload_n hx hb dL_pieces_28 rfl (lv_at hl 2 rfl) ?_
          refine lv_iload hx hb dL_pieces_29 (lv_at hl 6 rfl) ?_
          refine lv_iconst (v := (nI 2)) hx hb dL_pieces_31 (by decide) ?_
          refine vp_callSi (va_Run.run (va_runV (As := [.int (nI ss), .int (nI i), .int (nI 2)]) (rest := []) ⟨hx, hb, hml, hown, hts⟩ (k_X3_piece_o l D T o Sx fi (nI ss) (nI i) (nI 2) ) (cwV 3 hts gL_pieces_X3_piece rfl rfl rfl (by decide +kernel) ⟨Nat.le_of_ble_eq_true rfl, Nat.le_of_ble_eq_true rfl⟩) (pre_V (Φ := fun X => PO D T X o Sx fi) hK ((PO.recv hP).choose_spec) rfl hP) rfl rfl hl.1 rfl (lv_room (Nat.le_of_ble_eq_true rfl)) dL_pieces_32 ⟨Nat.le_of_ble_eq_true rfl, Nat.le_of_ble_eq_true rfl⟩)) (fun r_2 hr_2 => ?_)
          subst hr_2
          refine top_i (x' := (nI (pr (fi.1.1 ss) i))) (o_pie2 hs6 (by omega)) ?_
          refine lv_istore (lv' := [(7, .int (nI (pr (fi.1.1 ss) i))), (6, .int (nI (pn (fi.1.1 ss) i))), (0, .ref o), (1, .int (nI ss)), (2, .int (nI (ct (fi.1.1 ss) 0 (256 * i)))), (3, .int (nI (fb_sm (pcst (fi.1.1 ss)) i))), (4, .int (nI (fb_sm (pcst (fi.1.1 ss)) i))), (5, .int (nI i))]) hx hb dL_pieces_35 hl (by decide) rfl (fun ls hl => ?_)
          refine lv_aload_n hx hb dL_pieces_37 rfl (lv_at hl 2 rfl) ?_
          refine lv_iload_n hx hb dL_pieces_38 rfl (lv_at hl 3 rfl) ?_
          refine lv_iload hx hb dL_pieces_39 (lv_at hl 7 rfl) ?_
          refine lv_iconst (v := (nI 0)) hx hb dL_pieces_41 (by decide) ?_
          refine vp_callSi (va_Run.run (va_runV (As := [.int (nI ss), .int (nI i), .int (nI 0)]) (rest := []) ⟨hx, hb, hml, hown, hts⟩ (k_X3_piece_o l D T o Sx fi (nI ss) (nI i) (nI 0) ) (cwV 3 hts gL_pieces_X3_piece rfl rfl rfl (by decide +kernel) ⟨Nat.le_of_ble_eq_true rfl, Nat.le_of_ble_eq_true rfl⟩) (pre_V (Φ := fun X => PO D T X o Sx fi) hK ((PO.recv hP).choose_spec) rfl hP) rfl rfl hl.1 rfl (lv_room (Nat.le_of_ble_eq_true rfl)) dL_pieces_42 ⟨Nat.le_of_ble_eq_true rfl, Nat.le_of_ble_eq_true rfl⟩)) (fun r_3 hr_3 => ?_)
          subst hr_3
          refine top_i (x' := (nI 1)) ((o_pie0 hs6 (by omega)).trans hkd) ?_
          refine lv_istore (lv' := [(8, .int (nI 1)), (7, .int (nI (pr (fi.1.1 ss) i))), (6, .int (nI (pn (fi.1.1 ss) i))), (0, .ref o), (1, .int (nI ss)), (2, .int (nI (ct (fi.1.1 ss) 0 (256 * i)))), (3, .int (nI (fb_sm (pcst (fi.1.1 ss)) i))), (4, .int (nI (fb_sm (pcst (fi.1.1 ss)) i))), (5, .int (nI i))]) hx hb dL_pieces_45 hl (by decide) rfl (fun ls hl => ?_)
          refine lv_aload_n hx hb dL_pieces_47 rfl (lv_at hl 3 rfl) ?_
          refine lv_iload_n hx hb dL_pieces_48 rfl (lv_at hl 4 rfl) ?_
          refine lv_iload hx hb dL_pieces_49 (lv_at hl 8 rfl) ?_
          refine lv_iconst (v := (nI 3)) hx hb dL_pieces_51 (by decide) ?_
          refine vp_callSi (va_Run.run (va_runV (As := [.int (nI ss), .int (nI i), .int (nI 3)]) (rest := []) ⟨hx, hb, hml, hown, hts⟩ (k_X3_piece_o l D T o Sx fi (nI ss) (nI i) (nI 3) ) (cwV 3 hts gL_pieces_X3_piece rfl rfl rfl (by decide +kernel) ⟨Nat.le_of_ble_eq_true rfl, Nat.le_of_ble_eq_true rfl⟩) (pre_V (Φ := fun X => PO D T X o Sx fi) hK ((PO.recv hP).choose_spec) rfl hP) rfl rfl hl.1 rfl (lv_room (Nat.le_of_ble_eq_true rfl)) dL_pieces_52 ⟨Nat.le_of_ble_eq_true rfl, Nat.le_of_ble_eq_true rfl⟩)) (fun r_4 hr_4 => ?_)
          subst hr_4
          refine top_i (x' := (nI (2 + 2 * pr (fi.1.1 ss) i))) ((o_pie3 hs6 (by omega)).trans (congrArg nI hcs)) ?_
          refine lv_istore (lv' := [(9, .int (nI (2 + 2 * pr (fi.1.1 ss) i))), (8, .int (nI 1)), (7, .int (nI (pr (fi.1.1 ss) i))), (6, .int (nI (pn (fi.1.1 ss) i))), (0, .ref o), (1, .int (nI ss)), (2, .int (nI (ct (fi.1.1 ss) 0 (256 * i)))), (3, .int (nI (fb_sm (pcst (fi.1.1 ss)) i))), (4, .int (nI (fb_sm (pcst (fi.1.1 ss)) i))), (5, .int (nI i))]) hx hb dL_pieces_55 hl (by decide) rfl (fun ls hl => ?_)
          refine lv_iconst (v := (nI 2)) hx hb dL_pieces_57 (by decide) ?_
          refine lv_iload hx hb dL_pieces_58 (lv_at hl 3 rfl) ?_
          refine lv_iadd hx hb dL_pieces_60 ?_
          refine top_i (nI_add 2 (pn (fi.1.1 ss) i)) ?_
          refine lv_istore (lv' := [(10, .int (nI (2 + (pn (fi.1.1 ss) i)))), (9, .int (nI (2 + 2 * pr (fi.1.1 ss) i))), (8, .int (nI 1)), (7, .int (nI (pr (fi.1.1 ss) i))), (6, .int (nI (pn (fi.1.1 ss) i))), (0, .ref o), (1, .int (nI ss)), (2, .int (nI (ct (fi.1.1 ss) 0 (256 * i)))), (3, .int (nI (fb_sm (pcst (fi.1.1 ss)) i))), (4, .int (nI (fb_sm (pcst (fi.1.1 ss)) i))), (5, .int (nI i))]) hx hb dL_pieces_61 hl (by decide) rfl (fun ls hl => ?_)
          refine lv_iconst (v := (nI 2)) hx hb dL_pieces_63 (by decide) ?_
          refine lv_iconst (v := (nI 2)) hx hb dL_pieces_64 (by decide) ?_
          refine lv_iload hx hb dL_pieces_65 (lv_at hl 3 rfl) ?_
          refine lv_imul hx hb dL_pieces_67 ?_
          refine top_i (pk_mul 2 (pr (fi.1.1 ss) i)) ?_
          refine lv_iadd hx hb dL_pieces_68 ?_
          refine top_i (nI_add 2 (2 * (pr (fi.1.1 ss) i))) ?_
          refine lv_istore (lv' := [(11, .int (nI (2 + (2 * (pr (fi.1.1 ss) i))))), (10, .int (nI (2 + (pn (fi.1.1 ss) i)))), (9, .int (nI (2 + 2 * pr (fi.1.1 ss) i))), (8, .int (nI 1)), (7, .int (nI (pr (fi.1.1 ss) i))), (6, .int (nI (pn (fi.1.1 ss) i))), (0, .ref o), (1, .int (nI ss)), (2, .int (nI (ct (fi.1.1 ss) 0 (256 * i)))), (3, .int (nI (fb_sm (pcst (fi.1.1 ss)) i))), (4, .int (nI (fb_sm (pcst (fi.1.1 ss)) i))), (5, .int (nI i))]) hx hb dL_pieces_69 hl (by decide) rfl (fun ls hl => ?_)
          refine lv_iload hx hb dL_pieces_71 (lv_at hl 5 rfl) ?_
          refine lv_if_ne (tgt := 81) hx hb dL_pieces_73 (by decide) (fun c_2 => ?_) (fun c_2 => ?_)
          · skip
            have c_2 : ¬ ((pn (fi.1.1 ss) i) = 0) := fun z => c_2 ((nI_e0 (a := (pn (fi.1.1 ss) i)) (by omega)).mpr z)
            refine lv_iload hx hb dL_pieces_81 (lv_at hl 1 rfl) ?_
            refine lv_iload hx hb dL_pieces_83 (lv_at hl 0 rfl) ?_
            refine lv_icmp_gt (tgt := 99) hx hb dL_pieces_85 (by decide) (fun c_3 => ?_) (fun c_3 => ?_)
            · skip
              have c_3 : (2 + (2 * (pr (fi.1.1 ss) i))) < (2 + (pn (fi.1.1 ss) i)) := (nI_ltI (a := (2 + (2 * (pr (fi.1.1 ss) i)))) (b := (2 + (pn (fi.1.1 ss) i))) (by omega) (by omega)).mp c_3
              refine lv_iload hx hb dL_pieces_99 (lv_at hl 0 rfl) ?_
              refine lv_bipush (v := (nI 33)) hx hb dL_pieces_101 (by decide) ?_
              refine lv_icmp_gt (tgt := 110) hx hb dL_pieces_103 (by decide) (fun c_4 => ?_) (fun c_4 => ?_)
              · skip
                have c_4 : 33 < (2 + (2 * (pr (fi.1.1 ss) i))) := (nI_ltI (a := 33) (b := (2 + (2 * (pr (fi.1.1 ss) i)))) (by omega) (by omega)).mp c_4
                first | exact absurd rfl c_4 | exact absurd (by omega) c_4 | exact absurd c_4 (by omega)
              · skip
                have c_4 : ¬ (33 < (2 + (2 * (pr (fi.1.1 ss) i)))) := fun z => c_4 ((nI_ltI (a := 33) (b := (2 + (2 * (pr (fi.1.1 ss) i)))) (by omega) (by omega)).mpr z)
                refine lv_iconst (v := (nI 1)) hx hb dL_pieces_106 (by decide) ?_
                refine lv_goto (tgt := 111) hx hb dL_pieces_107 (by decide) ?_
                refine lv_istore (lv' := [(12, .int (nI 1)), (11, .int (nI (2 + (2 * (pr (fi.1.1 ss) i))))), (10, .int (nI (2 + (pn (fi.1.1 ss) i)))), (9, .int (nI (2 + 2 * pr (fi.1.1 ss) i))), (8, .int (nI 1)), (7, .int (nI (pr (fi.1.1 ss) i))), (6, .int (nI (pn (fi.1.1 ss) i))), (0, .ref o), (1, .int (nI ss)), (2, .int (nI (ct (fi.1.1 ss) 0 (256 * i)))), (3, .int (nI (fb_sm (pcst (fi.1.1 ss)) i))), (4, .int (nI (fb_sm (pcst (fi.1.1 ss)) i))), (5, .int (nI i))]) hx hb dL_pieces_111 hl (by decide) rfl (fun ls hl => ?_)
                refine lv_iload hx hb dL_pieces_113 (lv_at hl 4 rfl) ?_
                refine lv_iload hx hb dL_pieces_115 (lv_at hl 0 rfl) ?_
                refine lv_icmp_ne (tgt := 221) hx hb dL_pieces_117 (by decide) (fun c_5 => ?_) (fun c_5 => ?_)
                · skip
                  exact absurd rfl c_5
                · skip
                  refine lv_iload hx hb dL_pieces_120 (lv_at hl 3 rfl) ?_
                  refine lv_iload hx hb dL_pieces_122 (lv_at hl 6 rfl) ?_
                  refine lv_if_ne (tgt := 131) hx hb dL_pieces_124 (by decide) (fun c_6 => ?_) (fun c_6 => ?_)
                  · skip
                    have c_6 : ¬ ((pn (fi.1.1 ss) i) = 0) := fun z => c_6 ((nI_e0 (a := (pn (fi.1.1 ss) i)) (by omega)).mpr z)
                    refine lv_iload hx hb dL_pieces_131 (lv_at hl 0 rfl) ?_
                    refine lv_if_ne (tgt := 141) hx hb dL_pieces_133 (by decide) (fun c_7 => ?_) (fun c_7 => ?_)
                    · skip
                      refine lv_iload hx hb dL_pieces_141 (lv_at hl 0 rfl) ?_
                      refine lv_iconst (v := (nI 1)) hx hb dL_pieces_143 (by decide) ?_
                      refine lv_icmp_ne (tgt := 152) hx hb dL_pieces_144 (by decide) (fun c_8 => ?_) (fun c_8 => ?_)
                      · skip
                        exact absurd rfl c_8
                      · skip
                        refine lv_iload hx hb dL_pieces_147 (lv_at hl 1 rfl) ?_
                        refine lv_goto (tgt := 154) hx hb dL_pieces_149 (by decide) ?_
                        refine lv_icmp_ne (tgt := 221) hx hb dL_pieces_154 (by decide) (fun c_9 => ?_) (fun c_9 => ?_)
                        · skip
                          have c_9 : ¬ ((2 + 2 * pr (fi.1.1 ss) i) = (2 + (2 * (pr (fi.1.1 ss) i)))) := fun z => c_9 ((nI_eq (a := (2 + 2 * pr (fi.1.1 ss) i)) (b := (2 + (2 * (pr (fi.1.1 ss) i)))) (by omega) (by omega)).mpr z)
                          first | exact absurd rfl c_9 | exact absurd (by omega) c_9 | exact absurd c_9 (by omega)
                        · skip
                          have c_9 : (2 + 2 * pr (fi.1.1 ss) i) = (2 + (2 * (pr (fi.1.1 ss) i))) := (nI_eq (a := (2 + 2 * pr (fi.1.1 ss) i)) (b := (2 + (2 * (pr (fi.1.1 ss) i)))) (by omega) (by omega)).mp c_9
                          refine lv_iload hx hb dL_pieces_157 (lv_at hl 6 rfl) ?_
                          refine lv_aload_n hx hb dL_pieces_159 rfl (lv_at hl 7 rfl) ?_
                          refine lv_iload_n hx hb dL_pieces_160 rfl (lv_at hl 8 rfl) ?_
                          refine lv_sipush (v := (nI 256)) hx hb dL_pieces_161 (by decide) ?_
                          refine lv_iload hx hb dL_pieces_164 (lv_at hl 12 rfl) ?_
                          refine lv_imul hx hb dL_pieces_166 ?_
                          refine top_i (pk_mul 256 i) ?_
                          refine lv_sipush (v := (nI 255)) hx hb dL_pieces_167 (by decide) ?_
                          refine lv_iadd hx hb dL_pieces_170 ?_
                          refine top_i (nI_add (256 * i) 255) ?_
                          refine vp_callSi (va_Run.run (va_runV (As := [.int (nI ss), .int (nI ((256 * i) + 255))]) (rest := [.int (nI (pn (fi.1.1 ss) i))]) ⟨hx, hb, hml, hown, hts⟩ (k_X3_rank_o l D T o Sx fi (nI ss) (nI ((256 * i) + 255)) ) (cwV 2 hts gL_pieces_X3_rank rfl rfl rfl (by decide +kernel) ⟨Nat.le_of_ble_eq_true rfl, Nat.le_of_ble_eq_true rfl⟩) (pre_V (Φ := fun X => PO D T X o Sx fi) hK ((PO.recv hP).choose_spec) rfl hP) rfl rfl hl.1 rfl (lv_room (Nat.le_of_ble_eq_true rfl)) dL_pieces_171 ⟨Nat.le_of_ble_eq_true rfl, Nat.le_of_ble_eq_true rfl⟩)) (fun r_5 hr_5 => ?_)
                          subst hr_5
                          refine top_i (x' := (nI (ct (fi.1.1 ss) 0 (256 * i + 256)))) (o_rann hs6 (by omega)) ?_
                          refine lv_aload_n hx hb dL_pieces_174 rfl (lv_at hl 7 rfl) ?_
                          refine lv_iload_n hx hb dL_pieces_175 rfl (lv_at hl 8 rfl) ?_
                          refine lv_sipush (v := (nI 256)) hx hb dL_pieces_176 (by decide) ?_
                          refine lv_iload hx hb dL_pieces_179 (lv_at hl 12 rfl) ?_
                          refine lv_imul hx hb dL_pieces_181 ?_
                          refine top_i (pk_mul 256 i) ?_
                          refine lv_iconst (v := (nI 1)) hx hb dL_pieces_182 (by decide) ?_
                          refine lv_isub hx hb dL_pieces_183 ?_
                          refine vp_callSi (va_Run.run (va_runV (As := [.int (nI ss), .int ((nI (256 * i)) - (nI 1))]) (rest := [.int (nI (ct (fi.1.1 ss) 0 (256 * i + 256))), .int (nI (pn (fi.1.1 ss) i))]) ⟨hx, hb, hml, hown, hts⟩ (k_X3_rank_o l D T o Sx fi (nI ss) ((nI (256 * i)) - (nI 1)) ) (cwV 2 hts gL_pieces_X3_rank rfl rfl rfl (by decide +kernel) ⟨Nat.le_of_ble_eq_true rfl, Nat.le_of_ble_eq_true rfl⟩) (pre_V (Φ := fun X => PO D T X o Sx fi) hK ((PO.recv hP).choose_spec) rfl hP) rfl rfl hl.1 rfl (lv_room (Nat.le_of_ble_eq_true rfl)) dL_pieces_184 ⟨Nat.le_of_ble_eq_true rfl, Nat.le_of_ble_eq_true rfl⟩)) (fun r_6 hr_6 => ?_)
                          subst hr_6
                          refine top_i (x' := (nI (ct (fi.1.1 ss) 0 (256 * i)))) ((o_ran hs6 _).trans (congrArg nI (ctr_lo _ (by omega)))) ?_
                          refine lv_isub hx hb dL_pieces_187 ?_
                          refine top_i (pk_sub (a := ct (fi.1.1 ss) 0 (256 * i + 256)) (b := ct (fi.1.1 ss) 0 (256 * i)) (by omega)) ?_
                          refine lv_icmp_ne (tgt := 221) hx hb dL_pieces_188 (by decide) (fun c_10 => ?_) (fun c_10 => ?_)
                          · skip
                            have c_10 : ¬ ((pn (fi.1.1 ss) i) = ((ct (fi.1.1 ss) 0 (256 * i + 256)) - (ct (fi.1.1 ss) 0 (256 * i)))) := fun z => c_10 ((nI_eq (a := (pn (fi.1.1 ss) i)) (b := ((ct (fi.1.1 ss) 0 (256 * i + 256)) - (ct (fi.1.1 ss) 0 (256 * i)))) (by omega) (by omega)).mpr z)
                            first | exact absurd rfl c_10 | exact absurd (by omega) c_10 | exact absurd c_10 (by omega)
                          · skip
                            have c_10 : (pn (fi.1.1 ss) i) = ((ct (fi.1.1 ss) 0 (256 * i + 256)) - (ct (fi.1.1 ss) 0 (256 * i))) := (nI_eq (a := (pn (fi.1.1 ss) i)) (b := ((ct (fi.1.1 ss) 0 (256 * i + 256)) - (ct (fi.1.1 ss) 0 (256 * i)))) (by omega) (by omega)).mp c_10
                            refine lv_iload hx hb dL_pieces_191 (lv_at hl 6 rfl) ?_
                            refine lv_if_ne (tgt := 200) hx hb dL_pieces_193 (by decide) (fun c_11 => ?_) (fun c_11 => ?_)
                            · skip
                              have c_11 : ¬ ((pn (fi.1.1 ss) i) = 0) := fun z => c_11 ((nI_e0 (a := (pn (fi.1.1 ss) i)) (by omega)).mpr z)
                              refine lv_iconst (v := (nI 0)) hx hb dL_pieces_200 (by decide) ?_
                              refine lv_iload hx hb dL_pieces_201 (lv_at hl 5 rfl) ?_
                              refine lv_if_ne (tgt := 210) hx hb dL_pieces_203 (by decide) (fun c_12 => ?_) (fun c_12 => ?_)
                              · skip
                                have c_12 : ¬ ((pr (fi.1.1 ss) i) = 0) := fun z => c_12 ((nI_e0 (a := (pr (fi.1.1 ss) i)) (by omega)).mpr z)
                                refine lv_iconst (v := (nI 0)) hx hb dL_pieces_210 (by decide) ?_
                                refine lv_icmp_ne (tgt := 221) hx hb dL_pieces_211 (by decide) (fun c_13 => ?_) (fun c_13 => ?_)
                                · skip
                                  exact absurd rfl c_13
                                · skip
                                  refine lv_iload hx hb dL_pieces_214 (lv_at hl 5 rfl) ?_
                                  refine lv_iload hx hb dL_pieces_216 (lv_at hl 6 rfl) ?_
                                  refine lv_icmp_le (tgt := 223) hx hb dL_pieces_218 (by decide) (fun c_14 => ?_) (fun c_14 => ?_)
                                  · skip
                                    have c_14 : (pr (fi.1.1 ss) i) ≤ (pn (fi.1.1 ss) i) := (nI_leI (a := (pr (fi.1.1 ss) i)) (b := (pn (fi.1.1 ss) i)) (by omega) (by omega)).mp c_14
                                    refine lv_iload hx hb dL_pieces_223 (lv_at hl 6 rfl) ?_
                                    refine lv_if_le (tgt := 277) hx hb dL_pieces_225 (by decide) (fun c_15 => ?_) (fun c_15 => ?_)
                                    · skip
                                      have c_15 : (pn (fi.1.1 ss) i) = 0 := (nI_le0 (a := (pn (fi.1.1 ss) i)) (by omega)).mp c_15
                                      first | exact absurd rfl c_15 | exact absurd (by omega) c_15 | exact absurd c_15 (by omega)
                                    · skip
                                      have c_15 : ¬ ((pn (fi.1.1 ss) i) = 0) := fun z => c_15 ((nI_le0 (a := (pn (fi.1.1 ss) i)) (by omega)).mpr z)
                                      refine lv_aload_n hx hb dL_pieces_228 rfl (lv_at hl 7 rfl) ?_
                                      refine lv_iload_n hx hb dL_pieces_229 rfl (lv_at hl 8 rfl) ?_
                                      refine lv_iload hx hb dL_pieces_230 (lv_at hl 11 rfl) ?_
                                      refine vp_callSi (va_Run.run (va_runV (As := [.int (nI ss), .int (nI (fb_sm (pcst (fi.1.1 ss)) i))]) (rest := []) ⟨hx, hb, hml, hown, hts⟩ (k_X3_byteAt_o l D T o Sx fi (nI ss) (nI (fb_sm (pcst (fi.1.1 ss)) i)) ) (cwV 2 hts gL_pieces_X3_byteAt rfl rfl rfl (by decide +kernel) ⟨Nat.le_of_ble_eq_true rfl, Nat.le_of_ble_eq_true rfl⟩) (pre_V (Φ := fun X => PO D T X o Sx fi) hK ((PO.recv hP).choose_spec) rfl hP) rfl rfl hl.1 rfl (lv_room (Nat.le_of_ble_eq_true rfl)) dL_pieces_232 ⟨Nat.le_of_ble_eq_true rfl, Nat.le_of_ble_eq_true rfl⟩)) (fun r_7 hr_7 => ?_)
                                      subst hr_7
                                      refine top_i (x' := (nI (4 * i + 1))) ((o_bya hs6 (by omega)).trans ((bfF_at (i := 0) (by omega) (by omega)).trans hw0)) ?_
                                      refine lv_iconst (v := (nI 4)) hx hb dL_pieces_235 (by decide) ?_
                                      refine lv_iload hx hb dL_pieces_236 (lv_at hl 12 rfl) ?_
                                      refine lv_imul hx hb dL_pieces_238 ?_
                                      refine top_i (pk_mul 4 i) ?_
                                      refine lv_iload hx hb dL_pieces_239 (lv_at hl 4 rfl) ?_
                                      refine lv_iadd hx hb dL_pieces_241 ?_
                                      refine top_i (nI_add (4 * i) 1) ?_
                                      refine lv_icmp_ne (tgt := 275) hx hb dL_pieces_242 (by decide) (fun c_16 => ?_) (fun c_16 => ?_)
                                      · skip
                                        have c_16 : ¬ ((4 * i + 1) = ((4 * i) + 1)) := fun z => c_16 ((nI_eq (a := (4 * i + 1)) (b := ((4 * i) + 1)) (by omega) (by omega)).mpr z)
                                        first | exact absurd rfl c_16 | exact absurd (by omega) c_16 | exact absurd c_16 (by omega)
                                      · skip
                                        have c_16 : (4 * i + 1) = ((4 * i) + 1) := (nI_eq (a := (4 * i + 1)) (b := ((4 * i) + 1)) (by omega) (by omega)).mp c_16
                                        refine lv_iload hx hb dL_pieces_245 (lv_at hl 4 rfl) ?_
                                        refine lv_iconst (v := (nI 2)) hx hb dL_pieces_247 (by decide) ?_
                                        refine lv_icmp_ge (tgt := 277) hx hb dL_pieces_248 (by decide) (fun c_17 => ?_) (fun c_17 => ?_)
                                        · skip
                                          have c_17 : 2 ≤ 1 := (nI_leI (a := 2) (b := 1) (by omega) (by omega)).mp c_17
                                          first | exact absurd rfl c_17 | exact absurd (by omega) c_17 | exact absurd c_17 (by omega)
                                        · skip
                                          have c_17 : ¬ (2 ≤ 1) := fun z => c_17 ((nI_leI (a := 2) (b := 1) (by omega) (by omega)).mpr z)
                                          refine lv_aload_n hx hb dL_pieces_251 rfl (lv_at hl 7 rfl) ?_
                                          refine lv_iload_n hx hb dL_pieces_252 rfl (lv_at hl 8 rfl) ?_
                                          refine lv_iload hx hb dL_pieces_253 (lv_at hl 11 rfl) ?_
                                          refine lv_iconst (v := (nI 1)) hx hb dL_pieces_255 (by decide) ?_
                                          refine lv_iadd hx hb dL_pieces_256 ?_
                                          refine top_i (nI_add (fb_sm (pcst (fi.1.1 ss)) i) 1) ?_
                                          refine vp_callSi (va_Run.run (va_runV (As := [.int (nI ss), .int (nI ((fb_sm (pcst (fi.1.1 ss)) i) + 1))]) (rest := []) ⟨hx, hb, hml, hown, hts⟩ (k_X3_byteAt_o l D T o Sx fi (nI ss) (nI ((fb_sm (pcst (fi.1.1 ss)) i) + 1)) ) (cwV 2 hts gL_pieces_X3_byteAt rfl rfl rfl (by decide +kernel) ⟨Nat.le_of_ble_eq_true rfl, Nat.le_of_ble_eq_true rfl⟩) (pre_V (Φ := fun X => PO D T X o Sx fi) hK ((PO.recv hP).choose_spec) rfl hP) rfl rfl hl.1 rfl (lv_room (Nat.le_of_ble_eq_true rfl)) dL_pieces_257 ⟨Nat.le_of_ble_eq_true rfl, Nat.le_of_ble_eq_true rfl⟩)) (fun r_8 hr_8 => ?_)
                                          subst hr_8
                                          refine top_i (x' := (nI (pr (fi.1.1 ss) i))) ((o_bya hs6 (by omega)).trans ((bfF_at (i := 1) (by omega) (by omega)).trans hw1)) ?_
                                          refine lv_iload hx hb dL_pieces_260 (lv_at hl 4 rfl) ?_
                                          refine lv_if_ne (tgt := 270) hx hb dL_pieces_262 (by decide) (fun c_18 => ?_) (fun c_18 => ?_)
                                          · skip
                                            refine lv_iload hx hb dL_pieces_270 (lv_at hl 5 rfl) ?_
                                            refine lv_icmp_eq (tgt := 277) hx hb dL_pieces_272 (by decide) (fun c_19 => ?_) (fun c_19 => ?_)
                                            · skip
                                              have c_19 : (pr (fi.1.1 ss) i) = (pr (fi.1.1 ss) i) := (nI_eq (a := (pr (fi.1.1 ss) i)) (b := (pr (fi.1.1 ss) i)) (by omega) (by omega)).mp c_19
                                              refine lv_iload hx hb dL_pieces_277 (lv_at hl 11 rfl) ?_
                                              refine lv_iload hx hb dL_pieces_279 (lv_at hl 3 rfl) ?_
                                              refine lv_iadd hx hb dL_pieces_281 ?_
                                              refine top_i (nI_add (fb_sm (pcst (fi.1.1 ss)) i) (2 + 2 * pr (fi.1.1 ss) i)) ?_
                                              refine lv_istore (lv' := [(4, .int (nI ((fb_sm (pcst (fi.1.1 ss)) i) + (2 + 2 * pr (fi.1.1 ss) i)))), (12, .int (nI 1)), (11, .int (nI (2 + (2 * (pr (fi.1.1 ss) i))))), (10, .int (nI (2 + (pn (fi.1.1 ss) i)))), (9, .int (nI (2 + 2 * pr (fi.1.1 ss) i))), (8, .int (nI 1)), (7, .int (nI (pr (fi.1.1 ss) i))), (6, .int (nI (pn (fi.1.1 ss) i))), (0, .ref o), (1, .int (nI ss)), (2, .int (nI (ct (fi.1.1 ss) 0 (256 * i)))), (3, .int (nI (fb_sm (pcst (fi.1.1 ss)) i))), (5, .int (nI i))]) hx hb dL_pieces_282 hl (by decide) rfl (fun ls hl => ?_)
                                              refine lv_iload_n hx hb dL_pieces_284 rfl (lv_at hl 10 rfl) ?_
                                              refine lv_iload hx hb dL_pieces_285 (lv_at hl 7 rfl) ?_
                                              refine lv_iadd hx hb dL_pieces_287 ?_
                                              refine top_i (nI_add (ct (fi.1.1 ss) 0 (256 * i)) (pn (fi.1.1 ss) i)) ?_
                                              refine lv_istore_n (lv' := [(2, .int (nI ((ct (fi.1.1 ss) 0 (256 * i)) + (pn (fi.1.1 ss) i)))), (4, .int (nI ((fb_sm (pcst (fi.1.1 ss)) i) + (2 + 2 * pr (fi.1.1 ss) i)))), (12, .int (nI 1)), (11, .int (nI (2 + (2 * (pr (fi.1.1 ss) i))))), (10, .int (nI (2 + (pn (fi.1.1 ss) i)))), (9, .int (nI (2 + 2 * pr (fi.1.1 ss) i))), (8, .int (nI 1)), (7, .int (nI (pr (fi.1.1 ss) i))), (6, .int (nI (pn (fi.1.1 ss) i))), (0, .ref o), (1, .int (nI ss)), (3, .int (nI (fb_sm (pcst (fi.1.1 ss)) i))), (5, .int (nI i))]) hx hb dL_pieces_288 rfl hl (by decide) rfl (fun ls hl => ?_)
                                              refine lv_iload_n hx hb dL_pieces_289 rfl (lv_at hl 11 rfl) ?_
                                              refine lv_iload hx hb dL_pieces_290 (lv_at hl 5 rfl) ?_
                                              refine lv_iadd hx hb dL_pieces_292 ?_
                                              refine top_i (nI_add (fb_sm (pcst (fi.1.1 ss)) i) (2 + 2 * pr (fi.1.1 ss) i)) ?_
                                              refine lv_istore_n (lv' := [(3, .int (nI ((fb_sm (pcst (fi.1.1 ss)) i) + (2 + 2 * pr (fi.1.1 ss) i)))), (2, .int (nI ((ct (fi.1.1 ss) 0 (256 * i)) + (pn (fi.1.1 ss) i)))), (4, .int (nI ((fb_sm (pcst (fi.1.1 ss)) i) + (2 + 2 * pr (fi.1.1 ss) i)))), (12, .int (nI 1)), (11, .int (nI (2 + (2 * (pr (fi.1.1 ss) i))))), (10, .int (nI (2 + (pn (fi.1.1 ss) i)))), (9, .int (nI (2 + 2 * pr (fi.1.1 ss) i))), (8, .int (nI 1)), (7, .int (nI (pr (fi.1.1 ss) i))), (6, .int (nI (pn (fi.1.1 ss) i))), (0, .ref o), (1, .int (nI ss)), (5, .int (nI i))]) hx hb dL_pieces_293 rfl hl (by decide) rfl (fun ls hl => ?_)
                                              refine lv_iinc (v := (nI (i + 1))) (lv' := [(5, .int (nI (i + 1))), (3, .int (nI ((fb_sm (pcst (fi.1.1 ss)) i) + (2 + 2 * pr (fi.1.1 ss) i)))), (2, .int (nI ((ct (fi.1.1 ss) 0 (256 * i)) + (pn (fi.1.1 ss) i)))), (4, .int (nI ((fb_sm (pcst (fi.1.1 ss)) i) + (2 + 2 * pr (fi.1.1 ss) i)))), (12, .int (nI 1)), (11, .int (nI (2 + (2 * (pr (fi.1.1 ss) i))))), (10, .int (nI (2 + (pn (fi.1.1 ss) i)))), (9, .int (nI (2 + 2 * pr (fi.1.1 ss) i))), (8, .int (nI 1)), (7, .int (nI (pr (fi.1.1 ss) i))), (6, .int (nI (pn (fi.1.1 ss) i))), (0, .ref o), (1, .int (nI ss))]) hx hb dL_pieces_294 hl (k := 12) rfl (iinc_n i 1) (by decide) rfl (fun ls hl => ?_)
                                              refine lv_goto (tgt := 10) hx hb dL_pieces_297 (by decide) ?_
                                              have hl := lv_sub hl (l' := [(0, .ref o), (1, .int (nI ss)), (2, .int (nI ((ct (fi.1.1 ss) 0 (256 * i)) + (pn (fi.1.1 ss) i)))), (3, .int (nI ((fb_sm (pcst (fi.1.1 ss)) i) + (2 + 2 * pr (fi.1.1 ss) i)))), (4, .int (nI ((fb_sm (pcst (fi.1.1 ss)) i) + (2 + 2 * pr (fi.1.1 ss) i)))), (5, .int (nI (i + 1)))]) [11, 12, 2, 1, 3, 0] rfl
                                              have q_1 : (nI ((ct (fi.1.1 ss) 0 (256 * i)) + (pn (fi.1.1 ss) i))) = (nI (ct (fi.1.1 ss) 0 (256 * (i + 1)))) := congrArg nI (by rw [show 256 * (i + 1) = 256 * i + 256 by omega]; omega)
                                              have q_2 : (nI ((fb_sm (pcst (fi.1.1 ss)) i) + (2 + 2 * pr (fi.1.1 ss) i))) = (nI (fb_sm (pcst (fi.1.1 ss)) (i + 1))) := congrArg nI (by omega)
                                              have q_3 : (nI ((fb_sm (pcst (fi.1.1 ss)) i) + (2 + 2 * pr (fi.1.1 ss) i))) = (nI (fb_sm (pcst (fi.1.1 ss)) (i + 1))) := congrArg nI (by omega)
                                              have hl : lv_has ls 13 [(0, .ref o), (1, .int (nI ss)), (2, .int (nI (ct (fi.1.1 ss) 0 (256 * (i + 1))))), (3, .int (nI (fb_sm (pcst (fi.1.1 ss)) (i + 1)))), (4, .int (nI (fb_sm (pcst (fi.1.1 ss)) (i + 1)))), (5, .int (nI (i + 1)))] := by
                                                have h := hl
                                                rw [q_1] at h
                                                rw [q_2] at h
                                                exact h
                                              exact ih10 (i + 1) (by omega) ls hl (by omega)
                                            · skip
                                              have c_19 : ¬ ((pr (fi.1.1 ss) i) = (pr (fi.1.1 ss) i)) := fun z => c_19 ((nI_eq (a := (pr (fi.1.1 ss) i)) (b := (pr (fi.1.1 ss) i)) (by omega) (by omega)).mpr z)
                                              first | exact absurd rfl c_19 | exact absurd (by omega) c_19 | exact absurd c_19 (by omega)
                                          · skip
                                            exact absurd c_18 (by decide)
                                  · skip
                                    have c_14 : ¬ ((pr (fi.1.1 ss) i) ≤ (pn (fi.1.1 ss) i)) := fun z => c_14 ((nI_leI (a := (pr (fi.1.1 ss) i)) (b := (pn (fi.1.1 ss) i)) (by omega) (by omega)).mpr z)
                                    first | exact absurd rfl c_14 | exact absurd (by omega) c_14 | exact absurd c_14 (by omega)
                              · skip
                                have c_12 : (pr (fi.1.1 ss) i) = 0 := (nI_e0 (a := (pr (fi.1.1 ss) i)) (by omega)).mp c_12
                                first | exact absurd rfl c_12 | exact absurd (by omega) c_12 | exact absurd c_12 (by omega)
                            · skip
                              have c_11 : (pn (fi.1.1 ss) i) = 0 := (nI_e0 (a := (pn (fi.1.1 ss) i)) (by omega)).mp c_11
                              first | exact absurd rfl c_11 | exact absurd (by omega) c_11 | exact absurd c_11 (by omega)
                    · skip
                      exact absurd c_7 (by decide)
                  · skip
                    have c_6 : (pn (fi.1.1 ss) i) = 0 := (nI_e0 (a := (pn (fi.1.1 ss) i)) (by omega)).mp c_6
                    first | exact absurd rfl c_6 | exact absurd (by omega) c_6 | exact absurd c_6 (by omega)
            · skip
              have c_3 : ¬ ((2 + (2 * (pr (fi.1.1 ss) i))) < (2 + (pn (fi.1.1 ss) i))) := fun z => c_3 ((nI_ltI (a := (2 + (2 * (pr (fi.1.1 ss) i)))) (b := (2 + (pn (fi.1.1 ss) i))) (by omega) (by omega)).mpr z)
              refine lv_iload hx hb dL_pieces_88 (lv_at hl 1 rfl) ?_
              refine lv_bipush (v := (nI 33)) hx hb dL_pieces_90 (by decide) ?_
              refine lv_icmp_gt (tgt := 99) hx hb dL_pieces_92 (by decide) (fun c_4 => ?_) (fun c_4 => ?_)
              · skip
                have c_4 : 33 < (2 + (pn (fi.1.1 ss) i)) := (nI_ltI (a := 33) (b := (2 + (pn (fi.1.1 ss) i))) (by omega) (by omega)).mp c_4
                refine lv_iload hx hb dL_pieces_99 (lv_at hl 0 rfl) ?_
                refine lv_bipush (v := (nI 33)) hx hb dL_pieces_101 (by decide) ?_
                refine lv_icmp_gt (tgt := 110) hx hb dL_pieces_103 (by decide) (fun c_5 => ?_) (fun c_5 => ?_)
                · skip
                  have c_5 : 33 < (2 + (2 * (pr (fi.1.1 ss) i))) := (nI_ltI (a := 33) (b := (2 + (2 * (pr (fi.1.1 ss) i)))) (by omega) (by omega)).mp c_5
                  first | exact absurd rfl c_5 | exact absurd (by omega) c_5 | exact absurd c_5 (by omega)
                · skip
                  have c_5 : ¬ (33 < (2 + (2 * (pr (fi.1.1 ss) i)))) := fun z => c_5 ((nI_ltI (a := 33) (b := (2 + (2 * (pr (fi.1.1 ss) i)))) (by omega) (by omega)).mpr z)
                  refine lv_iconst (v := (nI 1)) hx hb dL_pieces_106 (by decide) ?_
                  refine lv_goto (tgt := 111) hx hb dL_pieces_107 (by decide) ?_
                  refine lv_istore (lv' := [(12, .int (nI 1)), (11, .int (nI (2 + (2 * (pr (fi.1.1 ss) i))))), (10, .int (nI (2 + (pn (fi.1.1 ss) i)))), (9, .int (nI (2 + 2 * pr (fi.1.1 ss) i))), (8, .int (nI 1)), (7, .int (nI (pr (fi.1.1 ss) i))), (6, .int (nI (pn (fi.1.1 ss) i))), (0, .ref o), (1, .int (nI ss)), (2, .int (nI (ct (fi.1.1 ss) 0 (256 * i)))), (3, .int (nI (fb_sm (pcst (fi.1.1 ss)) i))), (4, .int (nI (fb_sm (pcst (fi.1.1 ss)) i))), (5, .int (nI i))]) hx hb dL_pieces_111 hl (by decide) rfl (fun ls hl => ?_)
                  refine lv_iload hx hb dL_pieces_113 (lv_at hl 4 rfl) ?_
                  refine lv_iload hx hb dL_pieces_115 (lv_at hl 0 rfl) ?_
                  refine lv_icmp_ne (tgt := 221) hx hb dL_pieces_117 (by decide) (fun c_6 => ?_) (fun c_6 => ?_)
                  · skip
                    exact absurd rfl c_6
                  · skip
                    refine lv_iload hx hb dL_pieces_120 (lv_at hl 3 rfl) ?_
                    refine lv_iload hx hb dL_pieces_122 (lv_at hl 6 rfl) ?_
                    refine lv_if_ne (tgt := 131) hx hb dL_pieces_124 (by decide) (fun c_7 => ?_) (fun c_7 => ?_)
                    · skip
                      have c_7 : ¬ ((pn (fi.1.1 ss) i) = 0) := fun z => c_7 ((nI_e0 (a := (pn (fi.1.1 ss) i)) (by omega)).mpr z)
                      refine lv_iload hx hb dL_pieces_131 (lv_at hl 0 rfl) ?_
                      refine lv_if_ne (tgt := 141) hx hb dL_pieces_133 (by decide) (fun c_8 => ?_) (fun c_8 => ?_)
                      · skip
                        refine lv_iload hx hb dL_pieces_141 (lv_at hl 0 rfl) ?_
                        refine lv_iconst (v := (nI 1)) hx hb dL_pieces_143 (by decide) ?_
                        refine lv_icmp_ne (tgt := 152) hx hb dL_pieces_144 (by decide) (fun c_9 => ?_) (fun c_9 => ?_)
                        · skip
                          exact absurd rfl c_9
                        · skip
                          refine lv_iload hx hb dL_pieces_147 (lv_at hl 1 rfl) ?_
                          refine lv_goto (tgt := 154) hx hb dL_pieces_149 (by decide) ?_
                          refine lv_icmp_ne (tgt := 221) hx hb dL_pieces_154 (by decide) (fun c_10 => ?_) (fun c_10 => ?_)
                          · skip
                            have c_10 : ¬ ((2 + 2 * pr (fi.1.1 ss) i) = (2 + (2 * (pr (fi.1.1 ss) i)))) := fun z => c_10 ((nI_eq (a := (2 + 2 * pr (fi.1.1 ss) i)) (b := (2 + (2 * (pr (fi.1.1 ss) i)))) (by omega) (by omega)).mpr z)
                            first | exact absurd rfl c_10 | exact absurd (by omega) c_10 | exact absurd c_10 (by omega)
                          · skip
                            have c_10 : (2 + 2 * pr (fi.1.1 ss) i) = (2 + (2 * (pr (fi.1.1 ss) i))) := (nI_eq (a := (2 + 2 * pr (fi.1.1 ss) i)) (b := (2 + (2 * (pr (fi.1.1 ss) i)))) (by omega) (by omega)).mp c_10
                            refine lv_iload hx hb dL_pieces_157 (lv_at hl 6 rfl) ?_
                            refine lv_aload_n hx hb dL_pieces_159 rfl (lv_at hl 7 rfl) ?_
                            refine lv_iload_n hx hb dL_pieces_160 rfl (lv_at hl 8 rfl) ?_
                            refine lv_sipush (v := (nI 256)) hx hb dL_pieces_161 (by decide) ?_
                            refine lv_iload hx hb dL_pieces_164 (lv_at hl 12 rfl) ?_
                            refine lv_imul hx hb dL_pieces_166 ?_
                            refine top_i (pk_mul 256 i) ?_
                            refine lv_sipush (v := (nI 255)) hx hb dL_pieces_167 (by decide) ?_
                            refine lv_iadd hx hb dL_pieces_170 ?_
                            refine top_i (nI_add (256 * i) 255) ?_
                            refine vp_callSi (va_Run.run (va_runV (As := [.int (nI ss), .int (nI ((256 * i) + 255))]) (rest := [.int (nI (pn (fi.1.1 ss) i))]) ⟨hx, hb, hml, hown, hts⟩ (k_X3_rank_o l D T o Sx fi (nI ss) (nI ((256 * i) + 255)) ) (cwV 2 hts gL_pieces_X3_rank rfl rfl rfl (by decide +kernel) ⟨Nat.le_of_ble_eq_true rfl, Nat.le_of_ble_eq_true rfl⟩) (pre_V (Φ := fun X => PO D T X o Sx fi) hK ((PO.recv hP).choose_spec) rfl hP) rfl rfl hl.1 rfl (lv_room (Nat.le_of_ble_eq_true rfl)) dL_pieces_171 ⟨Nat.le_of_ble_eq_true rfl, Nat.le_of_ble_eq_true rfl⟩)) (fun r_5 hr_5 => ?_)
                            subst hr_5
                            refine top_i (x' := (nI (ct (fi.1.1 ss) 0 (256 * i + 256)))) (o_rann hs6 (by omega)) ?_
                            refine lv_aload_n hx hb dL_pieces_174 rfl (lv_at hl 7 rfl) ?_
                            refine lv_iload_n hx hb dL_pieces_175 rfl (lv_at hl 8 rfl) ?_
                            refine lv_sipush (v := (nI 256)) hx hb dL_pieces_176 (by decide) ?_
                            refine lv_iload hx hb dL_pieces_179 (lv_at hl 12 rfl) ?_
                            refine lv_imul hx hb dL_pieces_181 ?_
                            refine top_i (pk_mul 256 i) ?_
                            refine lv_iconst (v := (nI 1)) hx hb dL_pieces_182 (by decide) ?_
                            refine lv_isub hx hb dL_pieces_183 ?_
                            refine vp_callSi (va_Run.run (va_runV (As := [.int (nI ss), .int ((nI (256 * i)) - (nI 1))]) (rest := [.int (nI (ct (fi.1.1 ss) 0 (256 * i + 256))), .int (nI (pn (fi.1.1 ss) i))]) ⟨hx, hb, hml, hown, hts⟩ (k_X3_rank_o l D T o Sx fi (nI ss) ((nI (256 * i)) - (nI 1)) ) (cwV 2 hts gL_pieces_X3_rank rfl rfl rfl (by decide +kernel) ⟨Nat.le_of_ble_eq_true rfl, Nat.le_of_ble_eq_true rfl⟩) (pre_V (Φ := fun X => PO D T X o Sx fi) hK ((PO.recv hP).choose_spec) rfl hP) rfl rfl hl.1 rfl (lv_room (Nat.le_of_ble_eq_true rfl)) dL_pieces_184 ⟨Nat.le_of_ble_eq_true rfl, Nat.le_of_ble_eq_true rfl⟩)) (fun r_6 hr_6 => ?_)
                            subst hr_6
                            refine top_i (x' := (nI (ct (fi.1.1 ss) 0 (256 * i)))) ((o_ran hs6 _).trans (congrArg nI (ctr_lo _ (by omega)))) ?_
                            refine lv_isub hx hb dL_pieces_187 ?_
                            refine top_i (pk_sub (a := ct (fi.1.1 ss) 0 (256 * i + 256)) (b := ct (fi.1.1 ss) 0 (256 * i)) (by omega)) ?_
                            refine lv_icmp_ne (tgt := 221) hx hb dL_pieces_188 (by decide) (fun c_11 => ?_) (fun c_11 => ?_)
                            · skip
                              have c_11 : ¬ ((pn (fi.1.1 ss) i) = ((ct (fi.1.1 ss) 0 (256 * i + 256)) - (ct (fi.1.1 ss) 0 (256 * i)))) := fun z => c_11 ((nI_eq (a := (pn (fi.1.1 ss) i)) (b := ((ct (fi.1.1 ss) 0 (256 * i + 256)) - (ct (fi.1.1 ss) 0 (256 * i)))) (by omega) (by omega)).mpr z)
                              first | exact absurd rfl c_11 | exact absurd (by omega) c_11 | exact absurd c_11 (by omega)
                            · skip
                              have c_11 : (pn (fi.1.1 ss) i) = ((ct (fi.1.1 ss) 0 (256 * i + 256)) - (ct (fi.1.1 ss) 0 (256 * i))) := (nI_eq (a := (pn (fi.1.1 ss) i)) (b := ((ct (fi.1.1 ss) 0 (256 * i + 256)) - (ct (fi.1.1 ss) 0 (256 * i)))) (by omega) (by omega)).mp c_11
                              refine lv_iload hx hb dL_pieces_191 (lv_at hl 6 rfl) ?_
                              refine lv_if_ne (tgt := 200) hx hb dL_pieces_193 (by decide) (fun c_12 => ?_) (fun c_12 => ?_)
                              · skip
                                have c_12 : ¬ ((pn (fi.1.1 ss) i) = 0) := fun z => c_12 ((nI_e0 (a := (pn (fi.1.1 ss) i)) (by omega)).mpr z)
                                refine lv_iconst (v := (nI 0)) hx hb dL_pieces_200 (by decide) ?_
                                refine lv_iload hx hb dL_pieces_201 (lv_at hl 5 rfl) ?_
                                refine lv_if_ne (tgt := 210) hx hb dL_pieces_203 (by decide) (fun c_13 => ?_) (fun c_13 => ?_)
                                · skip
                                  have c_13 : ¬ ((pr (fi.1.1 ss) i) = 0) := fun z => c_13 ((nI_e0 (a := (pr (fi.1.1 ss) i)) (by omega)).mpr z)
                                  refine lv_iconst (v := (nI 0)) hx hb dL_pieces_210 (by decide) ?_
                                  refine lv_icmp_ne (tgt := 221) hx hb dL_pieces_211 (by decide) (fun c_14 => ?_) (fun c_14 => ?_)
                                  · skip
                                    exact absurd rfl c_14
                                  · skip
                                    refine lv_iload hx hb dL_pieces_214 (lv_at hl 5 rfl) ?_
                                    refine lv_iload hx hb dL_pieces_216 (lv_at hl 6 rfl) ?_
                                    refine lv_icmp_le (tgt := 223) hx hb dL_pieces_218 (by decide) (fun c_15 => ?_) (fun c_15 => ?_)
                                    · skip
                                      have c_15 : (pr (fi.1.1 ss) i) ≤ (pn (fi.1.1 ss) i) := (nI_leI (a := (pr (fi.1.1 ss) i)) (b := (pn (fi.1.1 ss) i)) (by omega) (by omega)).mp c_15
                                      refine lv_iload hx hb dL_pieces_223 (lv_at hl 6 rfl) ?_
                                      refine lv_if_le (tgt := 277) hx hb dL_pieces_225 (by decide) (fun c_16 => ?_) (fun c_16 => ?_)
                                      · skip
                                        have c_16 : (pn (fi.1.1 ss) i) = 0 := (nI_le0 (a := (pn (fi.1.1 ss) i)) (by omega)).mp c_16
                                        first | exact absurd rfl c_16 | exact absurd (by omega) c_16 | exact absurd c_16 (by omega)
                                      · skip
                                        have c_16 : ¬ ((pn (fi.1.1 ss) i) = 0) := fun z => c_16 ((nI_le0 (a := (pn (fi.1.1 ss) i)) (by omega)).mpr z)
                                        refine lv_aload_n hx hb dL_pieces_228 rfl (lv_at hl 7 rfl) ?_
                                        refine lv_iload_n hx hb dL_pieces_229 rfl (lv_at hl 8 rfl) ?_
                                        refine lv_iload hx hb dL_pieces_230 (lv_at hl 11 rfl) ?_
                                        refine vp_callSi (va_Run.run (va_runV (As := [.int (nI ss), .int (nI (fb_sm (pcst (fi.1.1 ss)) i))]) (rest := []) ⟨hx, hb, hml, hown, hts⟩ (k_X3_byteAt_o l D T o Sx fi (nI ss) (nI (fb_sm (pcst (fi.1.1 ss)) i)) ) (cwV 2 hts gL_pieces_X3_byteAt rfl rfl rfl (by decide +kernel) ⟨Nat.le_of_ble_eq_true rfl, Nat.le_of_ble_eq_true rfl⟩) (pre_V (Φ := fun X => PO D T X o Sx fi) hK ((PO.recv hP).choose_spec) rfl hP) rfl rfl hl.1 rfl (lv_room (Nat.le_of_ble_eq_true rfl)) dL_pieces_232 ⟨Nat.le_of_ble_eq_true rfl, Nat.le_of_ble_eq_true rfl⟩)) (fun r_7 hr_7 => ?_)
                                        subst hr_7
                                        refine top_i (x' := (nI (4 * i + 1))) ((o_bya hs6 (by omega)).trans ((bfF_at (i := 0) (by omega) (by omega)).trans hw0)) ?_
                                        refine lv_iconst (v := (nI 4)) hx hb dL_pieces_235 (by decide) ?_
                                        refine lv_iload hx hb dL_pieces_236 (lv_at hl 12 rfl) ?_
                                        refine lv_imul hx hb dL_pieces_238 ?_
                                        refine top_i (pk_mul 4 i) ?_
                                        refine lv_iload hx hb dL_pieces_239 (lv_at hl 4 rfl) ?_
                                        refine lv_iadd hx hb dL_pieces_241 ?_
                                        refine top_i (nI_add (4 * i) 1) ?_
                                        refine lv_icmp_ne (tgt := 275) hx hb dL_pieces_242 (by decide) (fun c_17 => ?_) (fun c_17 => ?_)
                                        · skip
                                          have c_17 : ¬ ((4 * i + 1) = ((4 * i) + 1)) := fun z => c_17 ((nI_eq (a := (4 * i + 1)) (b := ((4 * i) + 1)) (by omega) (by omega)).mpr z)
                                          first | exact absurd rfl c_17 | exact absurd (by omega) c_17 | exact absurd c_17 (by omega)
                                        · skip
                                          have c_17 : (4 * i + 1) = ((4 * i) + 1) := (nI_eq (a := (4 * i + 1)) (b := ((4 * i) + 1)) (by omega) (by omega)).mp c_17
                                          refine lv_iload hx hb dL_pieces_245 (lv_at hl 4 rfl) ?_
                                          refine lv_iconst (v := (nI 2)) hx hb dL_pieces_247 (by decide) ?_
                                          refine lv_icmp_ge (tgt := 277) hx hb dL_pieces_248 (by decide) (fun c_18 => ?_) (fun c_18 => ?_)
                                          · skip
                                            have c_18 : 2 ≤ 1 := (nI_leI (a := 2) (b := 1) (by omega) (by omega)).mp c_18
                                            first | exact absurd rfl c_18 | exact absurd (by omega) c_18 | exact absurd c_18 (by omega)
                                          · skip
                                            have c_18 : ¬ (2 ≤ 1) := fun z => c_18 ((nI_leI (a := 2) (b := 1) (by omega) (by omega)).mpr z)
                                            refine lv_aload_n hx hb dL_pieces_251 rfl (lv_at hl 7 rfl) ?_
                                            refine lv_iload_n hx hb dL_pieces_252 rfl (lv_at hl 8 rfl) ?_
                                            refine lv_iload hx hb dL_pieces_253 (lv_at hl 11 rfl) ?_
                                            refine lv_iconst (v := (nI 1)) hx hb dL_pieces_255 (by decide) ?_
                                            refine lv_iadd hx hb dL_pieces_256 ?_
                                            refine top_i (nI_add (fb_sm (pcst (fi.1.1 ss)) i) 1) ?_
                                            refine vp_callSi (va_Run.run (va_runV (As := [.int (nI ss), .int (nI ((fb_sm (pcst (fi.1.1 ss)) i) + 1))]) (rest := []) ⟨hx, hb, hml, hown, hts⟩ (k_X3_byteAt_o l D T o Sx fi (nI ss) (nI ((fb_sm (pcst (fi.1.1 ss)) i) + 1)) ) (cwV 2 hts gL_pieces_X3_byteAt rfl rfl rfl (by decide +kernel) ⟨Nat.le_of_ble_eq_true rfl, Nat.le_of_ble_eq_true rfl⟩) (pre_V (Φ := fun X => PO D T X o Sx fi) hK ((PO.recv hP).choose_spec) rfl hP) rfl rfl hl.1 rfl (lv_room (Nat.le_of_ble_eq_true rfl)) dL_pieces_257 ⟨Nat.le_of_ble_eq_true rfl, Nat.le_of_ble_eq_true rfl⟩)) (fun r_8 hr_8 => ?_)
                                            subst hr_8
                                            refine top_i (x' := (nI (pr (fi.1.1 ss) i))) ((o_bya hs6 (by omega)).trans ((bfF_at (i := 1) (by omega) (by omega)).trans hw1)) ?_
                                            refine lv_iload hx hb dL_pieces_260 (lv_at hl 4 rfl) ?_
                                            refine lv_if_ne (tgt := 270) hx hb dL_pieces_262 (by decide) (fun c_19 => ?_) (fun c_19 => ?_)
                                            · skip
                                              refine lv_iload hx hb dL_pieces_270 (lv_at hl 5 rfl) ?_
                                              refine lv_icmp_eq (tgt := 277) hx hb dL_pieces_272 (by decide) (fun c_20 => ?_) (fun c_20 => ?_)
                                              · skip
                                                have c_20 : (pr (fi.1.1 ss) i) = (pr (fi.1.1 ss) i) := (nI_eq (a := (pr (fi.1.1 ss) i)) (b := (pr (fi.1.1 ss) i)) (by omega) (by omega)).mp c_20
                                                refine lv_iload hx hb dL_pieces_277 (lv_at hl 11 rfl) ?_
                                                refine lv_iload hx hb dL_pieces_279 (lv_at hl 3 rfl) ?_
                                                refine lv_iadd hx hb dL_pieces_281 ?_
                                                refine top_i (nI_add (fb_sm (pcst (fi.1.1 ss)) i) (2 + 2 * pr (fi.1.1 ss) i)) ?_
                                                refine lv_istore (lv' := [(4, .int (nI ((fb_sm (pcst (fi.1.1 ss)) i) + (2 + 2 * pr (fi.1.1 ss) i)))), (12, .int (nI 1)), (11, .int (nI (2 + (2 * (pr (fi.1.1 ss) i))))), (10, .int (nI (2 + (pn (fi.1.1 ss) i)))), (9, .int (nI (2 + 2 * pr (fi.1.1 ss) i))), (8, .int (nI 1)), (7, .int (nI (pr (fi.1.1 ss) i))), (6, .int (nI (pn (fi.1.1 ss) i))), (0, .ref o), (1, .int (nI ss)), (2, .int (nI (ct (fi.1.1 ss) 0 (256 * i)))), (3, .int (nI (fb_sm (pcst (fi.1.1 ss)) i))), (5, .int (nI i))]) hx hb dL_pieces_282 hl (by decide) rfl (fun ls hl => ?_)
                                                refine lv_iload_n hx hb dL_pieces_284 rfl (lv_at hl 10 rfl) ?_
                                                refine lv_iload hx hb dL_pieces_285 (lv_at hl 7 rfl) ?_
                                                refine lv_iadd hx hb dL_pieces_287 ?_
                                                refine top_i (nI_add (ct (fi.1.1 ss) 0 (256 * i)) (pn (fi.1.1 ss) i)) ?_
                                                refine lv_istore_n (lv' := [(2, .int (nI ((ct (fi.1.1 ss) 0 (256 * i)) + (pn (fi.1.1 ss) i)))), (4, .int (nI ((fb_sm (pcst (fi.1.1 ss)) i) + (2 + 2 * pr (fi.1.1 ss) i)))), (12, .int (nI 1)), (11, .int (nI (2 + (2 * (pr (fi.1.1 ss) i))))), (10, .int (nI (2 + (pn (fi.1.1 ss) i)))), (9, .int (nI (2 + 2 * pr (fi.1.1 ss) i))), (8, .int (nI 1)), (7, .int (nI (pr (fi.1.1 ss) i))), (6, .int (nI (pn (fi.1.1 ss) i))), (0, .ref o), (1, .int (nI ss)), (3, .int (nI (fb_sm (pcst (fi.1.1 ss)) i))), (5, .int (nI i))]) hx hb dL_pieces_288 rfl hl (by decide) rfl (fun ls hl => ?_)
                                                refine lv_iload_n hx hb dL_pieces_289 rfl (lv_at hl 11 rfl) ?_
                                                refine lv_iload hx hb dL_pieces_290 (lv_at hl 5 rfl) ?_
                                                refine lv_iadd hx hb dL_pieces_292 ?_
                                                refine top_i (nI_add (fb_sm (pcst (fi.1.1 ss)) i) (2 + 2 * pr (fi.1.1 ss) i)) ?_
                                                refine lv_istore_n (lv' := [(3, .int (nI ((fb_sm (pcst (fi.1.1 ss)) i) + (2 + 2 * pr (fi.1.1 ss) i)))), (2, .int (nI ((ct (fi.1.1 ss) 0 (256 * i)) + (pn (fi.1.1 ss) i)))), (4, .int (nI ((fb_sm (pcst (fi.1.1 ss)) i) + (2 + 2 * pr (fi.1.1 ss) i)))), (12, .int (nI 1)), (11, .int (nI (2 + (2 * (pr (fi.1.1 ss) i))))), (10, .int (nI (2 + (pn (fi.1.1 ss) i)))), (9, .int (nI (2 + 2 * pr (fi.1.1 ss) i))), (8, .int (nI 1)), (7, .int (nI (pr (fi.1.1 ss) i))), (6, .int (nI (pn (fi.1.1 ss) i))), (0, .ref o), (1, .int (nI ss)), (5, .int (nI i))]) hx hb dL_pieces_293 rfl hl (by decide) rfl (fun ls hl => ?_)
                                                refine lv_iinc (v := (nI (i + 1))) (lv' := [(5, .int (nI (i + 1))), (3, .int (nI ((fb_sm (pcst (fi.1.1 ss)) i) + (2 + 2 * pr (fi.1.1 ss) i)))), (2, .int (nI ((ct (fi.1.1 ss) 0 (256 * i)) + (pn (fi.1.1 ss) i)))), (4, .int (nI ((fb_sm (pcst (fi.1.1 ss)) i) + (2 + 2 * pr (fi.1.1 ss) i)))), (12, .int (nI 1)), (11, .int (nI (2 + (2 * (pr (fi.1.1 ss) i))))), (10, .int (nI (2 + (pn (fi.1.1 ss) i)))), (9, .int (nI (2 + 2 * pr (fi.1.1 ss) i))), (8, .int (nI 1)), (7, .int (nI (pr (fi.1.1 ss) i))), (6, .int (nI (pn (fi.1.1 ss) i))), (0, .ref o), (1, .int (nI ss))]) hx hb dL_pieces_294 hl (k := 12) rfl (iinc_n i 1) (by decide) rfl (fun ls hl => ?_)
                                                refine lv_goto (tgt := 10) hx hb dL_pieces_297 (by decide) ?_
                                                have hl := lv_sub hl (l' := [(0, .ref o), (1, .int (nI ss)), (2, .int (nI ((ct (fi.1.1 ss) 0 (256 * i)) + (pn (fi.1.1 ss) i)))), (3, .int (nI ((fb_sm (pcst (fi.1.1 ss)) i) + (2 + 2 * pr (fi.1.1 ss) i)))), (4, .int (nI ((fb_sm (pcst (fi.1.1 ss)) i) + (2 + 2 * pr (fi.1.1 ss) i)))), (5, .int (nI (i + 1)))]) [11, 12, 2, 1, 3, 0] rfl
                                                have q_1 : (nI ((ct (fi.1.1 ss) 0 (256 * i)) + (pn (fi.1.1 ss) i))) = (nI (ct (fi.1.1 ss) 0 (256 * (i + 1)))) := congrArg nI (by rw [show 256 * (i + 1) = 256 * i + 256 by omega]; omega)
                                                have q_2 : (nI ((fb_sm (pcst (fi.1.1 ss)) i) + (2 + 2 * pr (fi.1.1 ss) i))) = (nI (fb_sm (pcst (fi.1.1 ss)) (i + 1))) := congrArg nI (by omega)
                                                have q_3 : (nI ((fb_sm (pcst (fi.1.1 ss)) i) + (2 + 2 * pr (fi.1.1 ss) i))) = (nI (fb_sm (pcst (fi.1.1 ss)) (i + 1))) := congrArg nI (by omega)
                                                have hl : lv_has ls 13 [(0, .ref o), (1, .int (nI ss)), (2, .int (nI (ct (fi.1.1 ss) 0 (256 * (i + 1))))), (3, .int (nI (fb_sm (pcst (fi.1.1 ss)) (i + 1)))), (4, .int (nI (fb_sm (pcst (fi.1.1 ss)) (i + 1)))), (5, .int (nI (i + 1)))] := by
                                                  have h := hl
                                                  rw [q_1] at h
                                                  rw [q_2] at h
                                                  exact h
                                                exact ih10 (i + 1) (by omega) ls hl (by omega)
                                              · skip
                                                have c_20 : ¬ ((pr (fi.1.1 ss) i) = (pr (fi.1.1 ss) i)) := fun z => c_20 ((nI_eq (a := (pr (fi.1.1 ss) i)) (b := (pr (fi.1.1 ss) i)) (by omega) (by omega)).mpr z)
                                                first | exact absurd rfl c_20 | exact absurd (by omega) c_20 | exact absurd c_20 (by omega)
                                            · skip
                                              exact absurd c_19 (by decide)
                                    · skip
                                      have c_15 : ¬ ((pr (fi.1.1 ss) i) ≤ (pn (fi.1.1 ss) i)) := fun z => c_15 ((nI_leI (a := (pr (fi.1.1 ss) i)) (b := (pn (fi.1.1 ss) i)) (by omega) (by omega)).mpr z)
                                      first | exact absurd rfl c_15 | exact absurd (by omega) c_15 | exact absurd c_15 (by omega)
                                · skip
                                  have c_13 : (pr (fi.1.1 ss) i) = 0 := (nI_e0 (a := (pr (fi.1.1 ss) i)) (by omega)).mp c_13
                                  first | exact absurd rfl c_13 | exact absurd (by omega) c_13 | exact absurd c_13 (by omega)
                              · skip
                                have c_12 : (pn (fi.1.1 ss) i) = 0 := (nI_e0 (a := (pn (fi.1.1 ss) i)) (by omega)).mp c_12
                                first | exact absurd rfl c_12 | exact absurd (by omega) c_12 | exact absurd c_12 (by omega)
                      · skip
                        exact absurd c_8 (by decide)
                    · skip
                      have c_7 : (pn (fi.1.1 ss) i) = 0 := (nI_e0 (a := (pn (fi.1.1 ss) i)) (by omega)).mp c_7
                      first | exact absurd rfl c_7 | exact absurd (by omega) c_7 | exact absurd c_7 (by omega)
              · skip
                have c_4 : ¬ (33 < (2 + (pn (fi.1.1 ss) i))) := fun z => c_4 ((nI_ltI (a := 33) (b := (2 + (pn (fi.1.1 ss) i))) (by omega) (by omega)).mpr z)
                first | exact absurd rfl c_4 | exact absurd (by omega) c_4 | exact absurd c_4 (by omega)
          · skip
            have c_2 : (pn (fi.1.1 ss) i) = 0 := (nI_e0 (a := (pn (fi.1.1 ss) i)) (by omega)).mp c_2
            first | exact absurd rfl c_2 | exact absurd (by omega) c_2 | exact absurd c_2 (by omega)
        · skip
          refine lv_aload_n hx hb dL_pieces_17 rfl (lv_at hl 0 rfl) ?_
          refine lv_iload_n hx hb dL_pieces_18 rfl (lv_at hl 1 rfl) ?_
          refine lv_iload hx hb dL_pieces_19 (lv_at hl 5 rfl) ?_
          refine lv_iconst (v := (nI 1)) hx hb dL_pieces_21 (by decide) ?_
          refine vp_callSi (va_Run.run (va_runV (As := [.int (nI ss), .int (nI i), .int (nI 1)]) (rest := []) ⟨hx, hb, hml, hown, hts⟩ (k_X3_piece_o l D T o Sx fi (nI ss) (nI i) (nI 1) ) (cwV 3 hts gL_pieces_X3_piece rfl rfl rfl (by decide +kernel) ⟨Nat.le_of_ble_eq_true rfl, Nat.le_of_ble_eq_true rfl⟩) (pre_V (Φ := fun X => PO D T X o Sx fi) hK ((PO.recv hP).choose_spec) rfl hP) rfl rfl hl.1 rfl (lv_room (Nat.le_of_ble_eq_true rfl)) dL_pieces_22 ⟨Nat.le_of_ble_eq_true rfl, Nat.le_of_ble_eq_true rfl⟩)) (fun r_1 hr_1 => ?_)
          subst hr_1
          refine top_i (x' := (nI (pn (fi.1.1 ss) i))) (o_pie1 hs6 (by omega)) ?_
          refine lv_istore (lv' := [(6, .int (nI (pn (fi.1.1 ss) i))), (0, .ref o), (1, .int (nI ss)), (2, .int (nI (ct (fi.1.1 ss) 0 (256 * i)))), (3, .int (nI (fb_sm (pcst (fi.1.1 ss)) i))), (4, .int (nI (fb_sm (pcst (fi.1.1 ss)) i))), (5, .int (nI i))]) hx hb dL_pieces_25 hl (by decide) rfl (fun ls hl => ?_)
          refine lv_aload_n hx hb dL_pieces_27 rfl (lv_at hl 1 rfl) ?_
          refine lv_iload_n hx hb dL_pieces_28 rfl (lv_at hl 2 rfl) ?_
          refine lv_iload hx hb dL_pieces_29 (lv_at hl 6 rfl) ?_
          refine lv_iconst (v := (nI 2)) hx hb dL_pieces_31 (by decide) ?_
          refine vp_callSi (va_Run.run (va_runV (As := [.int (nI ss), .int (nI i), .int (nI 2)]) (rest := []) ⟨hx, hb, hml, hown, hts⟩ (k_X3_piece_o l D T o Sx fi (nI ss) (nI i) (nI 2) ) (cwV 3 hts gL_pieces_X3_piece rfl rfl rfl (by decide +kernel) ⟨Nat.le_of_ble_eq_true rfl, Nat.le_of_ble_eq_true rfl⟩) (pre_V (Φ := fun X => PO D T X o Sx fi) hK ((PO.recv hP).choose_spec) rfl hP) rfl rfl hl.1 rfl (lv_room (Nat.le_of_ble_eq_true rfl)) dL_pieces_32 ⟨Nat.le_of_ble_eq_true rfl, Nat.le_of_ble_eq_true rfl⟩)) (fun r_2 hr_2 => ?_)
          subst hr_2
          refine top_i (x' := (nI (pr (fi.1.1 ss) i))) (o_pie2 hs6 (by omega)) ?_
          refine lv_istore (lv' := [(7, .int (nI (pr (fi.1.1 ss) i))), (6, .int (nI (pn (fi.1.1 ss) i))), (0, .ref o), (1, .int (nI ss)), (2, .int (nI (ct (fi.1.1 ss) 0 (256 * i)))), (3, .int (nI (fb_sm (pcst (fi.1.1 ss)) i))), (4, .int (nI (fb_sm (pcst (fi.1.1 ss)) i))), (5, .int (nI i))]) hx hb dL_pieces_35 hl (by decide) rfl (fun ls hl => ?_)
          refine lv_aload_n hx hb dL_pieces_37 rfl (lv_at hl 2 rfl) ?_
          refine lv_iload_n hx hb dL_pieces_38 rfl (lv_at hl 3 rfl) ?_
          refine lv_iload hx hb dL_pieces_39 (lv_at hl 7 rfl) ?_
          refine lv_iconst (v := (nI 0)) hx hb dL_pieces_41 (by decide) ?_
          refine vp_callSi (va_Run.run (va_runV (As := [.int (nI ss), .int (nI i), .int (nI 0)]) (rest := []) ⟨hx, hb, hml, hown, hts⟩ (k_X3_piece_o l D T o Sx fi (nI ss) (nI i) (nI 0) ) (cwV 3 hts gL_pieces_X3_piece rfl rfl rfl (by decide +kernel) ⟨Nat.le_of_ble_eq_true rfl, Nat.le_of_ble_eq_true rfl⟩) (pre_V (Φ := fun X => PO D T X o Sx fi) hK ((PO.recv hP).choose_spec) rfl hP) rfl rfl hl.1 rfl (lv_room (Nat.le_of_ble_eq_true rfl)) dL_pieces_42 ⟨Nat.le_of_ble_eq_true rfl, Nat.le_of_ble_eq_true rfl⟩)) (fun r_3 hr_3 => ?_)
          subst hr_3
          refine top_i (x' := (nI 2)) ((o_pie0 hs6 (by omega)).trans hkd) ?_
          refine lv_istore (lv' := [(8, .int (nI 2)), (7, .int (nI (pr (fi.1.1 ss) i))), (6, .int (nI (pn (fi.1.1 ss) i))), (0, .ref o), (1, .int (nI ss)), (2, .int (nI (ct (fi.1.1 ss) 0 (256 * i)))), (3, .int (nI (fb_sm (pcst (fi.1.1 ss)) i))), (4, .int (nI (fb_sm (pcst (fi.1.1 ss)) i))), (5, .int (nI i))]) hx hb dL_pieces_45 hl (by decide) rfl (fun ls hl => ?_)
          refine lv_aload_n hx hb dL_pieces_47 rfl (lv_at hl 3 rfl) ?_
          refine lv_iload_n hx hb dL_pieces_48 rfl (lv_at hl 4 rfl) ?_
          refine lv_iload hx hb dL_pieces_49 (lv_at hl 8 rfl) ?_
          refine lv_iconst (v := (nI 3)) hx hb dL_pieces_51 (by decide) ?_
          refine vp_callSi (va_Run.run (va_runV (As := [.int (nI ss), .int (nI i), .int (nI 3)]) (rest := []) ⟨hx, hb, hml, hown, hts⟩ (k_X3_piece_o l D T o Sx fi (nI ss) (nI i) (nI 3) ) (cwV 3 hts gL_pieces_X3_piece rfl rfl rfl (by decide +kernel) ⟨Nat.le_of_ble_eq_true rfl, Nat.le_of_ble_eq_true rfl⟩) (pre_V (Φ := fun X => PO D T X o Sx fi) hK ((PO.recv hP).choose_spec) rfl hP) rfl rfl hl.1 rfl (lv_room (Nat.le_of_ble_eq_true rfl)) dL_pieces_52 ⟨Nat.le_of_ble_eq_true rfl, Nat.le_of_ble_eq_true rfl⟩)) (fun r_4 hr_4 => ?_)
          subst hr_4
          refine top_i (x' := (nI 33)) ((o_pie3 hs6 (by omega)).trans (congrArg nI hcs)) ?_
          refine lv_istore (lv' := [(9, .int (nI 33)), (8, .int (nI 2)), (7, .int (nI (pr (fi.1.1 ss) i))), (6, .int (nI (pn (fi.1.1 ss) i))), (0, .ref o), (1, .int (nI ss)), (2, .int (nI (ct (fi.1.1 ss) 0 (256 * i)))), (3, .int (nI (fb_sm (pcst (fi.1.1 ss)) i))), (4, .int (nI (fb_sm (pcst (fi.1.1 ss)) i))), (5, .int (nI i))]) hx hb dL_pieces_55 hl (by decide) rfl (fun ls hl => ?_)
          refine lv_iconst (v := (nI 2)) hx hb dL_pieces_57 (by decide) ?_
          refine lv_iload hx hb dL_pieces_58 (lv_at hl 3 rfl) ?_
          refine lv_iadd hx hb dL_pieces_60 ?_
          refine top_i (nI_add 2 (pn (fi.1.1 ss) i)) ?_
          refine lv_istore (lv' := [(10, .int (nI (2 + (pn (fi.1.1 ss) i)))), (9, .int (nI 33)), (8, .int (nI 2)), (7, .int (nI (pr (fi.1.1 ss) i))), (6, .int (nI (pn (fi.1.1 ss) i))), (0, .ref o), (1, .int (nI ss)), (2, .int (nI (ct (fi.1.1 ss) 0 (256 * i)))), (3, .int (nI (fb_sm (pcst (fi.1.1 ss)) i))), (4, .int (nI (fb_sm (pcst (fi.1.1 ss)) i))), (5, .int (nI i))]) hx hb dL_pieces_61 hl (by decide) rfl (fun ls hl => ?_)
          refine lv_iconst (v := (nI 2)) hx hb dL_pieces_63 (by decide) ?_
          refine lv_iconst (v := (nI 2)) hx hb dL_pieces_64 (by decide) ?_
          refine lv_iload hx hb dL_pieces_65 (lv_at hl 3 rfl) ?_
          refine lv_imul hx hb dL_pieces_67 ?_
          refine top_i (pk_mul 2 (pr (fi.1.1 ss) i)) ?_
          refine lv_iadd hx hb dL_pieces_68 ?_
          refine top_i (nI_add 2 (2 * (pr (fi.1.1 ss) i))) ?_
          refine lv_istore (lv' := [(11, .int (nI (2 + (2 * (pr (fi.1.1 ss) i))))), (10, .int (nI (2 + (pn (fi.1.1 ss) i)))), (9, .int (nI 33)), (8, .int (nI 2)), (7, .int (nI (pr (fi.1.1 ss) i))), (6, .int (nI (pn (fi.1.1 ss) i))), (0, .ref o), (1, .int (nI ss)), (2, .int (nI (ct (fi.1.1 ss) 0 (256 * i)))), (3, .int (nI (fb_sm (pcst (fi.1.1 ss)) i))), (4, .int (nI (fb_sm (pcst (fi.1.1 ss)) i))), (5, .int (nI i))]) hx hb dL_pieces_69 hl (by decide) rfl (fun ls hl => ?_)
          refine lv_iload hx hb dL_pieces_71 (lv_at hl 5 rfl) ?_
          refine lv_if_ne (tgt := 81) hx hb dL_pieces_73 (by decide) (fun c_2 => ?_) (fun c_2 => ?_)
          · skip
            have c_2 : ¬ ((pn (fi.1.1 ss) i) = 0) := fun z => c_2 ((nI_e0 (a := (pn (fi.1.1 ss) i)) (by omega)).mpr z)
            refine lv_iload hx hb dL_pieces_81 (lv_at hl 1 rfl) ?_
            refine lv_iload hx hb dL_pieces_83 (lv_at hl 0 rfl) ?_
            refine lv_icmp_gt (tgt := 99) hx hb dL_pieces_85 (by decide) (fun c_3 => ?_) (fun c_3 => ?_)
            · skip
              have c_3 : (2 + (2 * (pr (fi.1.1 ss) i))) < (2 + (pn (fi.1.1 ss) i)) := (nI_ltI (a := (2 + (2 * (pr (fi.1.1 ss) i)))) (b := (2 + (pn (fi.1.1 ss) i))) (by omega) (by omega)).mp c_3
              refine lv_iload hx hb dL_pieces_99 (lv_at hl 0 rfl) ?_
              refine lv_bipush (v := (nI 33)) hx hb dL_pieces_101 (by decide) ?_
              refine lv_icmp_gt (tgt := 110) hx hb dL_pieces_103 (by decide) (fun c_4 => ?_) (fun c_4 => ?_)
              · skip
                have c_4 : 33 < (2 + (2 * (pr (fi.1.1 ss) i))) := (nI_ltI (a := 33) (b := (2 + (2 * (pr (fi.1.1 ss) i)))) (by omega) (by omega)).mp c_4
                refine lv_iconst (v := (nI 2)) hx hb dL_pieces_110 (by decide) ?_
                refine lv_istore (lv' := [(12, .int (nI 2)), (11, .int (nI (2 + (2 * (pr (fi.1.1 ss) i))))), (10, .int (nI (2 + (pn (fi.1.1 ss) i)))), (9, .int (nI 33)), (8, .int (nI 2)), (7, .int (nI (pr (fi.1.1 ss) i))), (6, .int (nI (pn (fi.1.1 ss) i))), (0, .ref o), (1, .int (nI ss)), (2, .int (nI (ct (fi.1.1 ss) 0 (256 * i)))), (3, .int (nI (fb_sm (pcst (fi.1.1 ss)) i))), (4, .int (nI (fb_sm (pcst (fi.1.1 ss)) i))), (5, .int (nI i))]) hx hb dL_pieces_111 hl (by decide) rfl (fun ls hl => ?_)
                refine lv_iload hx hb dL_pieces_113 (lv_at hl 4 rfl) ?_
                refine lv_iload hx hb dL_pieces_115 (lv_at hl 0 rfl) ?_
                refine lv_icmp_ne (tgt := 221) hx hb dL_pieces_117 (by decide) (fun c_5 => ?_) (fun c_5 => ?_)
                · skip
                  exact absurd rfl c_5
                · skip
                  refine lv_iload hx hb dL_pieces_120 (lv_at hl 3 rfl) ?_
                  refine lv_iload hx hb dL_pieces_122 (lv_at hl 6 rfl) ?_
                  refine lv_if_ne (tgt := 131) hx hb dL_pieces_124 (by decide) (fun c_6 => ?_) (fun c_6 => ?_)
                  · skip
                    have c_6 : ¬ ((pn (fi.1.1 ss) i) = 0) := fun z => c_6 ((nI_e0 (a := (pn (fi.1.1 ss) i)) (by omega)).mpr z)
                    refine lv_iload hx hb dL_pieces_131 (lv_at hl 0 rfl) ?_
                    refine lv_if_ne (tgt := 141) hx hb dL_pieces_133 (by decide) (fun c_7 => ?_) (fun c_7 => ?_)
                    · skip
                      refine lv_iload hx hb dL_pieces_141 (lv_at hl 0 rfl) ?_
                      refine lv_iconst (v := (nI 1)) hx hb dL_pieces_143 (by decide) ?_
                      refine lv_icmp_ne (tgt := 152) hx hb dL_pieces_144 (by decide) (fun c_8 => ?_) (fun c_8 => ?_)
                      · skip
                        refine lv_bipush (v := (nI 33)) hx hb dL_pieces_152 (by decide) ?_
                        refine lv_icmp_ne (tgt := 221) hx hb dL_pieces_154 (by decide) (fun c_9 => ?_) (fun c_9 => ?_)
                        · skip
                          exact absurd rfl c_9
                        · skip
                          refine lv_iload hx hb dL_pieces_157 (lv_at hl 6 rfl) ?_
                          refine lv_aload_n hx hb dL_pieces_159 rfl (lv_at hl 7 rfl) ?_
                          refine lv_iload_n hx hb dL_pieces_160 rfl (lv_at hl 8 rfl) ?_
                          refine lv_sipush (v := (nI 256)) hx hb dL_pieces_161 (by decide) ?_
                          refine lv_iload hx hb dL_pieces_164 (lv_at hl 12 rfl) ?_
                          refine lv_imul hx hb dL_pieces_166 ?_
                          refine top_i (pk_mul 256 i) ?_
                          refine lv_sipush (v := (nI 255)) hx hb dL_pieces_167 (by decide) ?_
                          refine lv_iadd hx hb dL_pieces_170 ?_
                          refine top_i (nI_add (256 * i) 255) ?_
                          refine vp_callSi (va_Run.run (va_runV (As := [.int (nI ss), .int (nI ((256 * i) + 255))]) (rest := [.int (nI (pn (fi.1.1 ss) i))]) ⟨hx, hb, hml, hown, hts⟩ (k_X3_rank_o l D T o Sx fi (nI ss) (nI ((256 * i) + 255)) ) (cwV 2 hts gL_pieces_X3_rank rfl rfl rfl (by decide +kernel) ⟨Nat.le_of_ble_eq_true rfl, Nat.le_of_ble_eq_true rfl⟩) (pre_V (Φ := fun X => PO D T X o Sx fi) hK ((PO.recv hP).choose_spec) rfl hP) rfl rfl hl.1 rfl (lv_room (Nat.le_of_ble_eq_true rfl)) dL_pieces_171 ⟨Nat.le_of_ble_eq_true rfl, Nat.le_of_ble_eq_true rfl⟩)) (fun r_5 hr_5 => ?_)
                          subst hr_5
                          refine top_i (x' := (nI (ct (fi.1.1 ss) 0 (256 * i + 256)))) (o_rann hs6 (by omega)) ?_
                          refine lv_aload_n hx hb dL_pieces_174 rfl (lv_at hl 7 rfl) ?_
                          refine lv_iload_n hx hb dL_pieces_175 rfl (lv_at hl 8 rfl) ?_
                          refine lv_sipush (v := (nI 256)) hx hb dL_pieces_176 (by decide) ?_
                          refine lv_iload hx hb dL_pieces_179 (lv_at hl 12 rfl) ?_
                          refine lv_imul hx hb dL_pieces_181 ?_
                          refine top_i (pk_mul 256 i) ?_
                          refine lv_iconst (v := (nI 1)) hx hb dL_pieces_182 (by decide) ?_
                          refine lv_isub hx hb dL_pieces_183 ?_
                          refine vp_callSi (va_Run.run (va_runV (As := [.int (nI ss), .int ((nI (256 * i)) - (nI 1))]) (rest := [.int (nI (ct (fi.1.1 ss) 0 (256 * i + 256))), .int (nI (pn (fi.1.1 ss) i))]) ⟨hx, hb, hml, hown, hts⟩ (k_X3_rank_o l D T o Sx fi (nI ss) ((nI (256 * i)) - (nI 1)) ) (cwV 2 hts gL_pieces_X3_rank rfl rfl rfl (by decide +kernel) ⟨Nat.le_of_ble_eq_true rfl, Nat.le_of_ble_eq_true rfl⟩) (pre_V (Φ := fun X => PO D T X o Sx fi) hK ((PO.recv hP).choose_spec) rfl hP) rfl rfl hl.1 rfl (lv_room (Nat.le_of_ble_eq_true rfl)) dL_pieces_184 ⟨Nat.le_of_ble_eq_true rfl, Nat.le_of_ble_eq_true rfl⟩)) (fun r_6 hr_6 => ?_)
                          subst hr_6
                          refine top_i (x' := (nI (ct (fi.1.1 ss) 0 (256 * i)))) ((o_ran hs6 _).trans (congrArg nI (ctr_lo _ (by omega)))) ?_
                          refine lv_isub hx hb dL_pieces_187 ?_
                          refine top_i (pk_sub (a := ct (fi.1.1 ss) 0 (256 * i + 256)) (b := ct (fi.1.1 ss) 0 (256 * i)) (by omega)) ?_
                          refine lv_icmp_ne (tgt := 221) hx hb dL_pieces_188 (by decide) (fun c_10 => ?_) (fun c_10 => ?_)
                          · skip
                            have c_10 : ¬ ((pn (fi.1.1 ss) i) = ((ct (fi.1.1 ss) 0 (256 * i + 256)) - (ct (fi.1.1 ss) 0 (256 * i)))) := fun z => c_10 ((nI_eq (a := (pn (fi.1.1 ss) i)) (b := ((ct (fi.1.1 ss) 0 (256 * i + 256)) - (ct (fi.1.1 ss) 0 (256 * i)))) (by omega) (by omega)).mpr z)
                            first | exact absurd rfl c_10 | exact absurd (by omega) c_10 | exact absurd c_10 (by omega)
                          · skip
                            have c_10 : (pn (fi.1.1 ss) i) = ((ct (fi.1.1 ss) 0 (256 * i + 256)) - (ct (fi.1.1 ss) 0 (256 * i))) := (nI_eq (a := (pn (fi.1.1 ss) i)) (b := ((ct (fi.1.1 ss) 0 (256 * i + 256)) - (ct (fi.1.1 ss) 0 (256 * i)))) (by omega) (by omega)).mp c_10
                            refine lv_iload hx hb dL_pieces_191 (lv_at hl 6 rfl) ?_
                            refine lv_if_ne (tgt := 200) hx hb dL_pieces_193 (by decide) (fun c_11 => ?_) (fun c_11 => ?_)
                            · skip
                              have c_11 : ¬ ((pn (fi.1.1 ss) i) = 0) := fun z => c_11 ((nI_e0 (a := (pn (fi.1.1 ss) i)) (by omega)).mpr z)
                              refine lv_iconst (v := (nI 0)) hx hb dL_pieces_200 (by decide) ?_
                              refine lv_iload hx hb dL_pieces_201 (lv_at hl 5 rfl) ?_
                              refine lv_if_ne (tgt := 210) hx hb dL_pieces_203 (by decide) (fun c_12 => ?_) (fun c_12 => ?_)
                              · skip
                                have c_12 : ¬ ((pr (fi.1.1 ss) i) = 0) := fun z => c_12 ((nI_e0 (a := (pr (fi.1.1 ss) i)) (by omega)).mpr z)
                                refine lv_iconst (v := (nI 0)) hx hb dL_pieces_210 (by decide) ?_
                                refine lv_icmp_ne (tgt := 221) hx hb dL_pieces_211 (by decide) (fun c_13 => ?_) (fun c_13 => ?_)
                                · skip
                                  exact absurd rfl c_13
                                · skip
                                  refine lv_iload hx hb dL_pieces_214 (lv_at hl 5 rfl) ?_
                                  refine lv_iload hx hb dL_pieces_216 (lv_at hl 6 rfl) ?_
                                  refine lv_icmp_le (tgt := 223) hx hb dL_pieces_218 (by decide) (fun c_14 => ?_) (fun c_14 => ?_)
                                  · skip
                                    have c_14 : (pr (fi.1.1 ss) i) ≤ (pn (fi.1.1 ss) i) := (nI_leI (a := (pr (fi.1.1 ss) i)) (b := (pn (fi.1.1 ss) i)) (by omega) (by omega)).mp c_14
                                    refine lv_iload hx hb dL_pieces_223 (lv_at hl 6 rfl) ?_
                                    refine lv_if_le (tgt := 277) hx hb dL_pieces_225 (by decide) (fun c_15 => ?_) (fun c_15 => ?_)
                                    · skip
                                      have c_15 : (pn (fi.1.1 ss) i) = 0 := (nI_le0 (a := (pn (fi.1.1 ss) i)) (by omega)).mp c_15
                                      first | exact absurd rfl c_15 | exact absurd (by omega) c_15 | exact absurd c_15 (by omega)
                                    · skip
                                      have c_15 : ¬ ((pn (fi.1.1 ss) i) = 0) := fun z => c_15 ((nI_le0 (a := (pn (fi.1.1 ss) i)) (by omega)).mpr z)
                                      refine lv_aload_n hx hb dL_pieces_228 rfl (lv_at hl 7 rfl) ?_
                                      refine lv_iload_n hx hb dL_pieces_229 rfl (lv_at hl 8 rfl) ?_
                                      refine lv_iload hx hb dL_pieces_230 (lv_at hl 11 rfl) ?_
                                      refine vp_callSi (va_Run.run (va_runV (As := [.int (nI ss), .int (nI (fb_sm (pcst (fi.1.1 ss)) i))]) (rest := []) ⟨hx, hb, hml, hown, hts⟩ (k_X3_byteAt_o l D T o Sx fi (nI ss) (nI (fb_sm (pcst (fi.1.1 ss)) i)) ) (cwV 2 hts gL_pieces_X3_byteAt rfl rfl rfl (by decide +kernel) ⟨Nat.le_of_ble_eq_true rfl, Nat.le_of_ble_eq_true rfl⟩) (pre_V (Φ := fun X => PO D T X o Sx fi) hK ((PO.recv hP).choose_spec) rfl hP) rfl rfl hl.1 rfl (lv_room (Nat.le_of_ble_eq_true rfl)) dL_pieces_232 ⟨Nat.le_of_ble_eq_true rfl, Nat.le_of_ble_eq_true rfl⟩)) (fun r_7 hr_7 => ?_)
                                      subst hr_7
                                      refine top_i (x' := (nI (4 * i + 2))) ((o_bya hs6 (by omega)).trans ((bfF_at (i := 0) (by omega) (by omega)).trans hw0)) ?_
                                      refine lv_iconst (v := (nI 4)) hx hb dL_pieces_235 (by decide) ?_
                                      refine lv_iload hx hb dL_pieces_236 (lv_at hl 12 rfl) ?_
                                      refine lv_imul hx hb dL_pieces_238 ?_
                                      refine top_i (pk_mul 4 i) ?_
                                      refine lv_iload hx hb dL_pieces_239 (lv_at hl 4 rfl) ?_
                                      refine lv_iadd hx hb dL_pieces_241 ?_
                                      refine top_i (nI_add (4 * i) 2) ?_
                                      refine lv_icmp_ne (tgt := 275) hx hb dL_pieces_242 (by decide) (fun c_16 => ?_) (fun c_16 => ?_)
                                      · skip
                                        have c_16 : ¬ ((4 * i + 2) = ((4 * i) + 2)) := fun z => c_16 ((nI_eq (a := (4 * i + 2)) (b := ((4 * i) + 2)) (by omega) (by omega)).mpr z)
                                        first | exact absurd rfl c_16 | exact absurd (by omega) c_16 | exact absurd c_16 (by omega)
                                      · skip
                                        have c_16 : (4 * i + 2) = ((4 * i) + 2) := (nI_eq (a := (4 * i + 2)) (b := ((4 * i) + 2)) (by omega) (by omega)).mp c_16
                                        refine lv_iload hx hb dL_pieces_245 (lv_at hl 4 rfl) ?_
                                        refine lv_iconst (v := (nI 2)) hx hb dL_pieces_247 (by decide) ?_
                                        refine lv_icmp_ge (tgt := 277) hx hb dL_pieces_248 (by decide) (fun c_17 => ?_) (fun c_17 => ?_)
                                        · skip
                                          have c_17 : 2 ≤ 2 := (nI_leI (a := 2) (b := 2) (by omega) (by omega)).mp c_17
                                          refine lv_iload hx hb dL_pieces_277 (lv_at hl 11 rfl) ?_
                                          refine lv_iload hx hb dL_pieces_279 (lv_at hl 3 rfl) ?_
                                          refine lv_iadd hx hb dL_pieces_281 ?_
                                          refine top_i (nI_add (fb_sm (pcst (fi.1.1 ss)) i) 33) ?_
                                          refine lv_istore (lv' := [(4, .int (nI ((fb_sm (pcst (fi.1.1 ss)) i) + 33))), (12, .int (nI 2)), (11, .int (nI (2 + (2 * (pr (fi.1.1 ss) i))))), (10, .int (nI (2 + (pn (fi.1.1 ss) i)))), (9, .int (nI 33)), (8, .int (nI 2)), (7, .int (nI (pr (fi.1.1 ss) i))), (6, .int (nI (pn (fi.1.1 ss) i))), (0, .ref o), (1, .int (nI ss)), (2, .int (nI (ct (fi.1.1 ss) 0 (256 * i)))), (3, .int (nI (fb_sm (pcst (fi.1.1 ss)) i))), (5, .int (nI i))]) hx hb dL_pieces_282 hl (by decide) rfl (fun ls hl => ?_)
                                          refine lv_iload_n hx hb dL_pieces_284 rfl (lv_at hl 10 rfl) ?_
                                          refine lv_iload hx hb dL_pieces_285 (lv_at hl 7 rfl) ?_
                                          refine lv_iadd hx hb dL_pieces_287 ?_
                                          refine top_i (nI_add (ct (fi.1.1 ss) 0 (256 * i)) (pn (fi.1.1 ss) i)) ?_
                                          refine lv_istore_n (lv' := [(2, .int (nI ((ct (fi.1.1 ss) 0 (256 * i)) + (pn (fi.1.1 ss) i)))), (4, .int (nI ((fb_sm (pcst (fi.1.1 ss)) i) + 33))), (12, .int (nI 2)), (11, .int (nI (2 + (2 * (pr (fi.1.1 ss) i))))), (10, .int (nI (2 + (pn (fi.1.1 ss) i)))), (9, .int (nI 33)), (8, .int (nI 2)), (7, .int (nI (pr (fi.1.1 ss) i))), (6, .int (nI (pn (fi.1.1 ss) i))), (0, .ref o), (1, .int (nI ss)), (3, .int (nI (fb_sm (pcst (fi.1.1 ss)) i))), (5, .int (nI i))]) hx hb dL_pieces_288 rfl hl (by decide) rfl (fun ls hl => ?_)
                                          refine lv_iload_n hx hb dL_pieces_289 rfl (lv_at hl 11 rfl) ?_
                                          refine lv_iload hx hb dL_pieces_290 (lv_at hl 5 rfl) ?_
                                          refine lv_iadd hx hb dL_pieces_292 ?_
                                          refine top_i (nI_add (fb_sm (pcst (fi.1.1 ss)) i) 33) ?_
                                          refine lv_istore_n (lv' := [(3, .int (nI ((fb_sm (pcst (fi.1.1 ss)) i) + 33))), (2, .int (nI ((ct (fi.1.1 ss) 0 (256 * i)) + (pn (fi.1.1 ss) i)))), (4, .int (nI ((fb_sm (pcst (fi.1.1 ss)) i) + 33))), (12, .int (nI 2)), (11, .int (nI (2 + (2 * (pr (fi.1.1 ss) i))))), (10, .int (nI (2 + (pn (fi.1.1 ss) i)))), (9, .int (nI 33)), (8, .int (nI 2)), (7, .int (nI (pr (fi.1.1 ss) i))), (6, .int (nI (pn (fi.1.1 ss) i))), (0, .ref o), (1, .int (nI ss)), (5, .int (nI i))]) hx hb dL_pieces_293 rfl hl (by decide) rfl (fun ls hl => ?_)
                                          refine lv_iinc (v := (nI (i + 1))) (lv' := [(5, .int (nI (i + 1))), (3, .int (nI ((fb_sm (pcst (fi.1.1 ss)) i) + 33))), (2, .int (nI ((ct (fi.1.1 ss) 0 (256 * i)) + (pn (fi.1.1 ss) i)))), (4, .int (nI ((fb_sm (pcst (fi.1.1 ss)) i) + 33))), (12, .int (nI 2)), (11, .int (nI (2 + (2 * (pr (fi.1.1 ss) i))))), (10, .int (nI (2 + (pn (fi.1.1 ss) i)))), (9, .int (nI 33)), (8, .int (nI 2)), (7, .int (nI (pr (fi.1.1 ss) i))), (6, .int (nI (pn (fi.1.1 ss) i))), (0, .ref o), (1, .int (nI ss))]) hx hb dL_pieces_294 hl (k := 12) rfl (iinc_n i 1) (by decide) rfl (fun ls hl => ?_)
                                          refine lv_goto (tgt := 10) hx hb dL_pieces_297 (by decide) ?_
                                          have hl := lv_sub hl (l' := [(0, .ref o), (1, .int (nI ss)), (2, .int (nI ((ct (fi.1.1 ss) 0 (256 * i)) + (pn (fi.1.1 ss) i)))), (3, .int (nI ((fb_sm (pcst (fi.1.1 ss)) i) + 33))), (4, .int (nI ((fb_sm (pcst (fi.1.1 ss)) i) + 33))), (5, .int (nI (i + 1)))]) [11, 12, 2, 1, 3, 0] rfl
                                          have q_1 : (nI ((ct (fi.1.1 ss) 0 (256 * i)) + (pn (fi.1.1 ss) i))) = (nI (ct (fi.1.1 ss) 0 (256 * (i + 1)))) := congrArg nI (by rw [show 256 * (i + 1) = 256 * i + 256 by omega]; omega)
                                          have q_2 : (nI ((fb_sm (pcst (fi.1.1 ss)) i) + 33)) = (nI (fb_sm (pcst (fi.1.1 ss)) (i + 1))) := congrArg nI (by omega)
                                          have q_3 : (nI ((fb_sm (pcst (fi.1.1 ss)) i) + 33)) = (nI (fb_sm (pcst (fi.1.1 ss)) (i + 1))) := congrArg nI (by omega)
                                          have hl : lv_has ls 13 [(0, .ref o), (1, .int (nI ss)), (2, .int (nI (ct (fi.1.1 ss) 0 (256 * (i + 1))))), (3, .int (nI (fb_sm (pcst (fi.1.1 ss)) (i + 1)))), (4, .int (nI (fb_sm (pcst (fi.1.1 ss)) (i + 1)))), (5, .int (nI (i + 1)))] := by
                                            have h := hl
                                            rw [q_1] at h
                                            rw [q_2] at h
                                            exact h
                                          exact ih10 (i + 1) (by omega) ls hl (by omega)
                                        · skip
                                          have c_17 : ¬ (2 ≤ 2) := fun z => c_17 ((nI_leI (a := 2) (b := 2) (by omega) (by omega)).mpr z)
                                          first | exact absurd rfl c_17 | exact absurd (by omega) c_17 | exact absurd c_17 (by omega)
                                  · skip
                                    have c_14 : ¬ ((pr (fi.1.1 ss) i) ≤ (pn (fi.1.1 ss) i)) := fun z => c_14 ((nI_leI (a := (pr (fi.1.1 ss) i)) (b := (pn (fi.1.1 ss) i)) (by omega) (by omega)).mpr z)
                                    first | exact absurd rfl c_14 | exact absurd (by omega) c_14 | exact absurd c_14 (by omega)
                              · skip
                                have c_12 : (pr (fi.1.1 ss) i) = 0 := (nI_e0 (a := (pr (fi.1.1 ss) i)) (by omega)).mp c_12
                                first | exact absurd rfl c_12 | exact absurd (by omega) c_12 | exact absurd c_12 (by omega)
                            · skip
                              have c_11 : (pn (fi.1.1 ss) i) = 0 := (nI_e0 (a := (pn (fi.1.1 ss) i)) (by omega)).mp c_11
                              first | exact absurd rfl c_11 | exact absurd (by omega) c_11 | exact absurd c_11 (by omega)
                      · skip
                        exact absurd c_8 (by decide)
                    · skip
                      exact absurd c_7 (by decide)
                  · skip
                    have c_6 : (pn (fi.1.1 ss) i) = 0 := (nI_e0 (a := (pn (fi.1.1 ss) i)) (by omega)).mp c_6
                    first | exact absurd rfl c_6 | exact absurd (by omega) c_6 | exact absurd c_6 (by omega)
              · skip
                have c_4 : ¬ (33 < (2 + (2 * (pr (fi.1.1 ss) i)))) := fun z => c_4 ((nI_ltI (a := 33) (b := (2 + (2 * (pr (fi.1.1 ss) i)))) (by omega) (by omega)).mpr z)
                first | exact absurd rfl c_4 | exact absurd (by omega) c_4 | exact absurd c_4 (by omega)
            · skip
              have c_3 : ¬ ((2 + (2 * (pr (fi.1.1 ss) i))) < (2 + (pn (fi.1.1 ss) i))) := fun z => c_3 ((nI_ltI (a := (2 + (2 * (pr (fi.1.1 ss) i)))) (b := (2 + (pn (fi.1.1 ss) i))) (by omega) (by omega)).mpr z)
              refine lv_iload hx hb dL_pieces_88 (lv_at hl 1 rfl) ?_
              refine lv_bipush (v := (nI 33)) hx hb dL_pieces_90 (by decide) ?_
              refine lv_icmp_gt (tgt := 99) hx hb dL_pieces_92 (by decide) (fun c_4 => ?_) (fun c_4 => ?_)
              · skip
                have c_4 : 33 < (2 + (pn (fi.1.1 ss) i)) := (nI_ltI (a := 33) (b := (2 + (pn (fi.1.1 ss) i))) (by omega) (by omega)).mp c_4
                refine lv_iload hx hb dL_pieces_99 (lv_at hl 0 rfl) ?_
                refine lv_bipush (v := (nI 33)) hx hb dL_pieces_101 (by decide) ?_
                refine lv_icmp_gt (tgt := 110) hx hb dL_pieces_103 (by decide) (fun c_5 => ?_) (fun c_5 => ?_)
                · skip
                  have c_5 : 33 < (2 + (2 * (pr (fi.1.1 ss) i))) := (nI_ltI (a := 33) (b := (2 + (2 * (pr (fi.1.1 ss) i)))) (by omega) (by omega)).mp c_5
                  refine lv_iconst (v := (nI 2)) hx hb dL_pieces_110 (by decide) ?_
                  refine lv_istore (lv' := [(12, .int (nI 2)), (11, .int (nI (2 + (2 * (pr (fi.1.1 ss) i))))), (10, .int (nI (2 + (pn (fi.1.1 ss) i)))), (9, .int (nI 33)), (8, .int (nI 2)), (7, .int (nI (pr (fi.1.1 ss) i))), (6, .int (nI (pn (fi.1.1 ss) i))), (0, .ref o), (1, .int (nI ss)), (2, .int (nI (ct (fi.1.1 ss) 0 (256 * i)))), (3, .int (nI (fb_sm (pcst (fi.1.1 ss)) i))), (4, .int (nI (fb_sm (pcst (fi.1.1 ss)) i))), (5, .int (nI i))]) hx hb dL_pieces_111 hl (by decide) rfl (fun ls hl => ?_)
                  refine lv_iload hx hb dL_pieces_113 (lv_at hl 4 rfl) ?_
                  refine lv_iload hx hb dL_pieces_115 (lv_at hl 0 rfl) ?_
                  refine lv_icmp_ne (tgt := 221) hx hb dL_pieces_117 (by decide) (fun c_6 => ?_) (fun c_6 => ?_)
                  · skip
                    exact absurd rfl c_6
                  · skip
                    refine lv_iload hx hb dL_pieces_120 (lv_at hl 3 rfl) ?_
                    refine lv_iload hx hb dL_pieces_122 (lv_at hl 6 rfl) ?_
                    refine lv_if_ne (tgt := 131) hx hb dL_pieces_124 (by decide) (fun c_7 => ?_) (fun c_7 => ?_)
                    · skip
                      have c_7 : ¬ ((pn (fi.1.1 ss) i) = 0) := fun z => c_7 ((nI_e0 (a := (pn (fi.1.1 ss) i)) (by omega)).mpr z)
                      refine lv_iload hx hb dL_pieces_131 (lv_at hl 0 rfl) ?_
                      refine lv_if_ne (tgt := 141) hx hb dL_pieces_133 (by decide) (fun c_8 => ?_) (fun c_8 => ?_)
                      · skip
                        refine lv_iload hx hb dL_pieces_141 (lv_at hl 0 rfl) ?_
                        refine lv_iconst (v := (nI 1)) hx hb dL_pieces_143 (by decide) ?_
                        refine lv_icmp_ne (tgt := 152) hx hb dL_pieces_144 (by decide) (fun c_9 => ?_) (fun c_9 => ?_)
                        · skip
                          refine lv_bipush (v := (nI 33)) hx hb dL_pieces_152 (by decide) ?_
                          refine lv_icmp_ne (tgt := 221) hx hb dL_pieces_154 (by decide) (fun c_10 => ?_) (fun c_10 => ?_)
                          · skip
                            exact absurd rfl c_10
                          · skip
                            refine lv_iload hx hb dL_pieces_157 (lv_at hl 6 rfl) ?_
                            refine lv_aload_n hx hb dL_pieces_159 rfl (lv_at hl 7 rfl) ?_
                            refine lv_iload_n hx hb dL_pieces_160 rfl (lv_at hl 8 rfl) ?_
                            refine lv_sipush (v := (nI 256)) hx hb dL_pieces_161 (by decide) ?_
                            refine lv_iload hx hb dL_pieces_164 (lv_at hl 12 rfl) ?_
                            refine lv_imul hx hb dL_pieces_166 ?_
                            refine top_i (pk_mul 256 i) ?_
                            refine lv_sipush (v := (nI 255)) hx hb dL_pieces_167 (by decide) ?_
                            refine lv_iadd hx hb dL_pieces_170 ?_
                            refine top_i (nI_add (256 * i) 255) ?_
                            refine vp_callSi (va_Run.run (va_runV (As := [.int (nI ss), .int (nI ((256 * i) + 255))]) (rest := [.int (nI (pn (fi.1.1 ss) i))]) ⟨hx, hb, hml, hown, hts⟩ (k_X3_rank_o l D T o Sx fi (nI ss) (nI ((256 * i) + 255)) ) (cwV 2 hts gL_pieces_X3_rank rfl rfl rfl (by decide +kernel) ⟨Nat.le_of_ble_eq_true rfl, Nat.le_of_ble_eq_true rfl⟩) (pre_V (Φ := fun X => PO D T X o Sx fi) hK ((PO.recv hP).choose_spec) rfl hP) rfl rfl hl.1 rfl (lv_room (Nat.le_of_ble_eq_true rfl)) dL_pieces_171 ⟨Nat.le_of_ble_eq_true rfl, Nat.le_of_ble_eq_true rfl⟩)) (fun r_5 hr_5 => ?_)
                            subst hr_5
                            refine top_i (x' := (nI (ct (fi.1.1 ss) 0 (256 * i + 256)))) (o_rann hs6 (by omega)) ?_
                            refine lv_aload_n hx hb dL_pieces_174 rfl (lv_at hl 7 rfl) ?_
                            refine lv_iload_n hx hb dL_pieces_175 rfl (lv_at hl 8 rfl) ?_
                            refine lv_sipush (v := (nI 256)) hx hb dL_pieces_176 (by decide) ?_
                            refine lv_iload hx hb dL_pieces_179 (lv_at hl 12 rfl) ?_
                            refine lv_imul hx hb dL_pieces_181 ?_
                            refine top_i (pk_mul 256 i) ?_
                            refine lv_iconst (v := (nI 1)) hx hb dL_pieces_182 (by decide) ?_
                            refine lv_isub hx hb dL_pieces_183 ?_
                            refine vp_callSi (va_Run.run (va_runV (As := [.int (nI ss), .int ((nI (256 * i)) - (nI 1))]) (rest := [.int (nI (ct (fi.1.1 ss) 0 (256 * i + 256))), .int (nI (pn (fi.1.1 ss) i))]) ⟨hx, hb, hml, hown, hts⟩ (k_X3_rank_o l D T o Sx fi (nI ss) ((nI (256 * i)) - (nI 1)) ) (cwV 2 hts gL_pieces_X3_rank rfl rfl rfl (by decide +kernel) ⟨Nat.le_of_ble_eq_true rfl, Nat.le_of_ble_eq_true rfl⟩) (pre_V (Φ := fun X => PO D T X o Sx fi) hK ((PO.recv hP).choose_spec) rfl hP) rfl rfl hl.1 rfl (lv_room (Nat.le_of_ble_eq_true rfl)) dL_pieces_184 ⟨Nat.le_of_ble_eq_true rfl, Nat.le_of_ble_eq_true rfl⟩)) (fun r_6 hr_6 => ?_)
                            subst hr_6
                            refine top_i (x' := (nI (ct (fi.1.1 ss) 0 (256 * i)))) ((o_ran hs6 _).trans (congrArg nI (ctr_lo _ (by omega)))) ?_
                            refine lv_isub hx hb dL_pieces_187 ?_
                            refine top_i (pk_sub (a := ct (fi.1.1 ss) 0 (256 * i + 256)) (b := ct (fi.1.1 ss) 0 (256 * i)) (by omega)) ?_
                            refine lv_icmp_ne (tgt := 221) hx hb dL_pieces_188 (by decide) (fun c_11 => ?_) (fun c_11 => ?_)
                            · skip
                              have c_11 : ¬ ((pn (fi.1.1 ss) i) = ((ct (fi.1.1 ss) 0 (256 * i + 256)) - (ct (fi.1.1 ss) 0 (256 * i)))) := fun z => c_11 ((nI_eq (a := (pn (fi.1.1 ss) i)) (b := ((ct (fi.1.1 ss) 0 (256 * i + 256)) - (ct (fi.1.1 ss) 0 (256 * i)))) (by omega) (by omega)).mpr z)
                              first | exact absurd rfl c_11 | exact absurd (by omega) c_11 | exact absurd c_11 (by omega)
                            · skip
                              have c_11 : (pn (fi.1.1 ss) i) = ((ct (fi.1.1 ss) 0 (256 * i + 256)) - (ct (fi.1.1 ss) 0 (256 * i))) := (nI_eq (a := (pn (fi.1.1 ss) i)) (b := ((ct (fi.1.1 ss) 0 (256 * i + 256)) - (ct (fi.1.1 ss) 0 (256 * i)))) (by omega) (by omega)).mp c_11
                              refine lv_iload hx hb dL_pieces_191 (lv_at hl 6 rfl) ?_
                              refine lv_if_ne (tgt := 200) hx hb dL_pieces_193 (by decide) (fun c_12 => ?_) (fun c_12 => ?_)
                              · skip
                                have c_12 : ¬ ((pn (fi.1.1 ss) i) = 0) := fun z => c_12 ((nI_e0 (a := (pn (fi.1.1 ss) i)) (by omega)).mpr z)
                                refine lv_iconst (v := (nI 0)) hx hb dL_pieces_200 (by decide) ?_
                                refine lv_iload hx hb dL_pieces_201 (lv_at hl 5 rfl) ?_
                                refine lv_if_ne (tgt := 210) hx hb dL_pieces_203 (by decide) (fun c_13 => ?_) (fun c_13 => ?_)
                                · skip
                                  have c_13 : ¬ ((pr (fi.1.1 ss) i) = 0) := fun z => c_13 ((nI_e0 (a := (pr (fi.1.1 ss) i)) (by omega)).mpr z)
                                  refine lv_iconst (v := (nI 0)) hx hb dL_pieces_210 (by decide) ?_
                                  refine lv_icmp_ne (tgt := 221) hx hb dL_pieces_211 (by decide) (fun c_14 => ?_) (fun c_14 => ?_)
                                  · skip
                                    exact absurd rfl c_14
                                  · skip
                                    refine lv_iload hx hb dL_pieces_214 (lv_at hl 5 rfl) ?_
                                    refine lv_iload hx hb dL_pieces_216 (lv_at hl 6 rfl) ?_
                                    refine lv_icmp_le (tgt := 223) hx hb dL_pieces_218 (by decide) (fun c_15 => ?_) (fun c_15 => ?_)
                                    · skip
                                      have c_15 : (pr (fi.1.1 ss) i) ≤ (pn (fi.1.1 ss) i) := (nI_leI (a := (pr (fi.1.1 ss) i)) (b := (pn (fi.1.1 ss) i)) (by omega) (by omega)).mp c_15
                                      refine lv_iload hx hb dL_pieces_223 (lv_at hl 6 rfl) ?_
                                      refine lv_if_le (tgt := 277) hx hb dL_pieces_225 (by decide) (fun c_16 => ?_) (fun c_16 => ?_)
                                      · skip
                                        have c_16 : (pn (fi.1.1 ss) i) = 0 := (nI_le0 (a := (pn (fi.1.1 ss) i)) (by omega)).mp c_16
                                        first | exact absurd rfl c_16 | exact absurd (by omega) c_16 | exact absurd c_16 (by omega)
                                      · skip
                                        have c_16 : ¬ ((pn (fi.1.1 ss) i) = 0) := fun z => c_16 ((nI_le0 (a := (pn (fi.1.1 ss) i)) (by omega)).mpr z)
                                        refine lv_aload_n hx hb dL_pieces_228 rfl (lv_at hl 7 rfl) ?_
                                        refine lv_iload_n hx hb dL_pieces_229 rfl (lv_at hl 8 rfl) ?_
                                        refine lv_iload hx hb dL_pieces_230 (lv_at hl 11 rfl) ?_
                                        refine vp_callSi (va_Run.run (va_runV (As := [.int (nI ss), .int (nI (fb_sm (pcst (fi.1.1 ss)) i))]) (rest := []) ⟨hx, hb, hml, hown, hts⟩ (k_X3_byteAt_o l D T o Sx fi (nI ss) (nI (fb_sm (pcst (fi.1.1 ss)) i)) ) (cwV 2 hts gL_pieces_X3_byteAt rfl rfl rfl (by decide +kernel) ⟨Nat.le_of_ble_eq_true rfl, Nat.le_of_ble_eq_true rfl⟩) (pre_V (Φ := fun X => PO D T X o Sx fi) hK ((PO.recv hP).choose_spec) rfl hP) rfl rfl hl.1 rfl (lv_room (Nat.le_of_ble_eq_true rfl)) dL_pieces_232 ⟨Nat.le_of_ble_eq_true rfl, Nat.le_of_ble_eq_true rfl⟩)) (fun r_7 hr_7 => ?_)
                                        subst hr_7
                                        refine top_i (x' := (nI (4 * i + 2))) ((o_bya hs6 (by omega)).trans ((bfF_at (i := 0) (by omega) (by omega)).trans hw0)) ?_
                                        refine lv_iconst (v := (nI 4)) hx hb dL_pieces_235 (by decide) ?_
                                        refine lv_iload hx hb dL_pieces_236 (lv_at hl 12 rfl) ?_
                                        refine lv_imul hx hb dL_pieces_238 ?_
                                        refine top_i (pk_mul 4 i) ?_
                                        refine lv_iload hx hb dL_pieces_239 (lv_at hl 4 rfl) ?_
                                        refine lv_iadd hx hb dL_pieces_241 ?_
                                        refine top_i (nI_add (4 * i) 2) ?_
                                        refine lv_icmp_ne (tgt := 275) hx hb dL_pieces_242 (by decide) (fun c_17 => ?_) (fun c_17 => ?_)
                                        · skip
                                          have c_17 : ¬ ((4 * i + 2) = ((4 * i) + 2)) := fun z => c_17 ((nI_eq (a := (4 * i + 2)) (b := ((4 * i) + 2)) (by omega) (by omega)).mpr z)
                                          first | exact absurd rfl c_17 | exact absurd (by omega) c_17 | exact absurd c_17 (by omega)
                                        · skip
                                          have c_17 : (4 * i + 2) = ((4 * i) + 2) := (nI_eq (a := (4 * i + 2)) (b := ((4 * i) + 2)) (by omega) (by omega)).mp c_17
                                          refine lv_iload hx hb dL_pieces_245 (lv_at hl 4 rfl) ?_
                                          refine lv_iconst (v := (nI 2)) hx hb dL_pieces_247 (by decide) ?_
                                          refine lv_icmp_ge (tgt := 277) hx hb dL_pieces_248 (by decide) (fun c_18 => ?_) (fun c_18 => ?_)
                                          · skip
                                            have c_18 : 2 ≤ 2 := (nI_leI (a := 2) (b := 2) (by omega) (by omega)).mp c_18
                                            refine lv_iload hx hb dL_pieces_277 (lv_at hl 11 rfl) ?_
                                            refine lv_iload hx hb dL_pieces_279 (lv_at hl 3 rfl) ?_
                                            refine lv_iadd hx hb dL_pieces_281 ?_
                                            refine top_i (nI_add (fb_sm (pcst (fi.1.1 ss)) i) 33) ?_
                                            refine lv_istore (lv' := [(4, .int (nI ((fb_sm (pcst (fi.1.1 ss)) i) + 33))), (12, .int (nI 2)), (11, .int (nI (2 + (2 * (pr (fi.1.1 ss) i))))), (10, .int (nI (2 + (pn (fi.1.1 ss) i)))), (9, .int (nI 33)), (8, .int (nI 2)), (7, .int (nI (pr (fi.1.1 ss) i))), (6, .int (nI (pn (fi.1.1 ss) i))), (0, .ref o), (1, .int (nI ss)), (2, .int (nI (ct (fi.1.1 ss) 0 (256 * i)))), (3, .int (nI (fb_sm (pcst (fi.1.1 ss)) i))), (5, .int (nI i))]) hx hb dL_pieces_282 hl (by decide) rfl (fun ls hl => ?_)
                                            refine lv_iload_n hx hb dL_pieces_284 rfl (lv_at hl 10 rfl) ?_
                                            refine lv_iload hx hb dL_pieces_285 (lv_at hl 7 rfl) ?_
                                            refine lv_iadd hx hb dL_pieces_287 ?_
                                            refine top_i (nI_add (ct (fi.1.1 ss) 0 (256 * i)) (pn (fi.1.1 ss) i)) ?_
                                            refine lv_istore_n (lv' := [(2, .int (nI ((ct (fi.1.1 ss) 0 (256 * i)) + (pn (fi.1.1 ss) i)))), (4, .int (nI ((fb_sm (pcst (fi.1.1 ss)) i) + 33))), (12, .int (nI 2)), (11, .int (nI (2 + (2 * (pr (fi.1.1 ss) i))))), (10, .int (nI (2 + (pn (fi.1.1 ss) i)))), (9, .int (nI 33)), (8, .int (nI 2)), (7, .int (nI (pr (fi.1.1 ss) i))), (6, .int (nI (pn (fi.1.1 ss) i))), (0, .ref o), (1, .int (nI ss)), (3, .int (nI (fb_sm (pcst (fi.1.1 ss)) i))), (5, .int (nI i))]) hx hb dL_pieces_288 rfl hl (by decide) rfl (fun ls hl => ?_)
                                            refine lv_iload_n hx hb dL_pieces_289 rfl (lv_at hl 11 rfl) ?_
                                            refine lv_iload hx hb dL_pieces_290 (lv_at hl 5 rfl) ?_
                                            refine lv_iadd hx hb dL_pieces_292 ?_
                                            refine top_i (nI_add (fb_sm (pcst (fi.1.1 ss)) i) 33) ?_
                                            refine lv_istore_n (lv' := [(3, .int (nI ((fb_sm (pcst (fi.1.1 ss)) i) + 33))), (2, .int (nI ((ct (fi.1.1 ss) 0 (256 * i)) + (pn (fi.1.1 ss) i)))), (4, .int (nI ((fb_sm (pcst (fi.1.1 ss)) i) + 33))), (12, .int (nI 2)), (11, .int (nI (2 + (2 * (pr (fi.1.1 ss) i))))), (10, .int (nI (2 + (pn (fi.1.1 ss) i)))), (9, .int (nI 33)), (8, .int (nI 2)), (7, .int (nI (pr (fi.1.1 ss) i))), (6, .int (nI (pn (fi.1.1 ss) i))), (0, .ref o), (1, .int (nI ss)), (5, .int (nI i))]) hx hb dL_pieces_293 rfl hl (by decide) rfl (fun ls hl => ?_)
                                            refine lv_iinc (v := (nI (i + 1))) (lv' := [(5, .int (nI (i + 1))), (3, .int (nI ((fb_sm (pcst (fi.1.1 ss)) i) + 33))), (2, .int (nI ((ct (fi.1.1 ss) 0 (256 * i)) + (pn (fi.1.1 ss) i)))), (4, .int (nI ((fb_sm (pcst (fi.1.1 ss)) i) + 33))), (12, .int (nI 2)), (11, .int (nI (2 + (2 * (pr (fi.1.1 ss) i))))), (10, .int (nI (2 + (pn (fi.1.1 ss) i)))), (9, .int (nI 33)), (8, .int (nI 2)), (7, .int (nI (pr (fi.1.1 ss) i))), (6, .int (nI (pn (fi.1.1 ss) i))), (0, .ref o), (1, .int (nI ss))]) hx hb dL_pieces_294 hl (k := 12) rfl (iinc_n i 1) (by decide) rfl (fun ls hl => ?_)
                                            refine lv_goto (tgt := 10) hx hb dL_pieces_297 (by decide) ?_
                                            have hl := lv_sub hl (l' := [(0, .ref o), (1, .int (nI ss)), (2, .int (nI ((ct (fi.1.1 ss) 0 (256 * i)) + (pn (fi.1.1 ss) i)))), (3, .int (nI ((fb_sm (pcst (fi.1.1 ss)) i) + 33))), (4, .int (nI ((fb_sm (pcst (fi.1.1 ss)) i) + 33))), (5, .int (nI (i + 1)))]) [11, 12, 2, 1, 3, 0] rfl
                                            have q_1 : (nI ((ct (fi.1.1 ss) 0 (256 * i)) + (pn (fi.1.1 ss) i))) = (nI (ct (fi.1.1 ss) 0 (256 * (i + 1)))) := congrArg nI (by rw [show 256 * (i + 1) = 256 * i + 256 by omega]; omega)
                                            have q_2 : (nI ((fb_sm (pcst (fi.1.1 ss)) i) + 33)) = (nI (fb_sm (pcst (fi.1.1 ss)) (i + 1))) := congrArg nI (by omega)
                                            have q_3 : (nI ((fb_sm (pcst (fi.1.1 ss)) i) + 33)) = (nI (fb_sm (pcst (fi.1.1 ss)) (i + 1))) := congrArg nI (by omega)
                                            have hl : lv_has ls 13 [(0, .ref o), (1, .int (nI ss)), (2, .int (nI (ct (fi.1.1 ss) 0 (256 * (i + 1))))), (3, .int (nI (fb_sm (pcst (fi.1.1 ss)) (i + 1)))), (4, .int (nI (fb_sm (pcst (fi.1.1 ss)) (i + 1)))), (5, .int (nI (i + 1)))] := by
                                              have h := hl
                                              rw [q_1] at h
                                              rw [q_2] at h
                                              exact h
                                            exact ih10 (i + 1) (by omega) ls hl (by omega)
                                          · skip
                                            have c_18 : ¬ (2 ≤ 2) := fun z => c_18 ((nI_leI (a := 2) (b := 2) (by omega) (by omega)).mpr z)
                                            first | exact absurd rfl c_18 | exact absurd (by omega) c_18 | exact absurd c_18 (by omega)
                                    · skip
                                      have c_15 : ¬ ((pr (fi.1.1 ss) i) ≤ (pn (fi.1.1 ss) i)) := fun z => c_15 ((nI_leI (a := (pr (fi.1.1 ss) i)) (b := (pn (fi.1.1 ss) i)) (by omega) (by omega)).mpr z)
                                      first | exact absurd rfl c_15 | exact absurd (by omega) c_15 | exact absurd c_15 (by omega)
                                · skip
                                  have c_13 : (pr (fi.1.1 ss) i) = 0 := (nI_e0 (a := (pr (fi.1.1 ss) i)) (by omega)).mp c_13
                                  first | exact absurd rfl c_13 | exact absurd (by omega) c_13 | exact absurd c_13 (by omega)
                              · skip
                                have c_12 : (pn (fi.1.1 ss) i) = 0 := (nI_e0 (a := (pn (fi.1.1 ss) i)) (by omega)).mp c_12
                                first | exact absurd rfl c_12 | exact absurd (by omega) c_12 | exact absurd c_12 (by omega)
                        · skip
                          exact absurd c_9 (by decide)
                      · skip
                        exact absurd c_8 (by decide)
                    · skip
                      have c_7 : (pn (fi.1.1 ss) i) = 0 := (nI_e0 (a := (pn (fi.1.1 ss) i)) (by omega)).mp c_7
                      first | exact absurd rfl c_7 | exact absurd (by omega) c_7 | exact absurd c_7 (by omega)
                · skip
                  have c_5 : ¬ (33 < (2 + (2 * (pr (fi.1.1 ss) i)))) := fun z => c_5 ((nI_ltI (a := 33) (b := (2 + (2 * (pr (fi.1.1 ss) i)))) (by omega) (by omega)).mpr z)
                  first | exact absurd rfl c_5 | exact absurd (by omega) c_5 | exact absurd c_5 (by omega)
              · skip
                have c_4 : ¬ (33 < (2 + (pn (fi.1.1 ss) i))) := fun z => c_4 ((nI_ltI (a := 33) (b := (2 + (pn (fi.1.1 ss) i))) (by omega) (by omega)).mpr z)
                first | exact absurd rfl c_4 | exact absurd (by omega) c_4 | exact absurd c_4 (by omega)
          · skip
            have c_2 : (pn (fi.1.1 ss) i) = 0 := (nI_e0 (a := (pn (fi.1.1 ss) i)) (by omega)).mp c_2
            first | exact absurd rfl c_2 | exact absurd (by omega) c_2 | exact absurd c_2 (by omega)
  have hl := lv_sub hl (l' := [(0, .ref o), (1, .int (nI ss)), (2, .int (nI 0)), (3, .int (nI 0)), (4, .int (nI 0)), (5, .int (nI 0))]) [4, 5, 3, 2, 1, 0] rfl
  have hl : lv_has ls 13 [(0, .ref o), (1, .int (nI ss)), (2, .int (nI (ct (fi.1.1 ss) 0 (256 * 0)))), (3, .int (nI (fb_sm (pcst (fi.1.1 ss)) 0))), (4, .int (nI (fb_sm (pcst (fi.1.1 ss)) 0))), (5, .int (nI 0))] := by
    have h := hl
    exact h
  exact loop10 (16 - 0 + 1) 0 (Nat.zero_le _) ls hl (Nat.lt_succ_self _)
