set_option maxHeartbeats 1000000 in
set_option maxRecDepth 100000 in
theorem k_X4_init (l : Launch) (D : va_G) (T : Nat → ClassId) (o : Nat) (sz : Nat) : Met l yX4_init wsX4_init ({ frames := 1, cells := 5, slots := 5858, locals := 20 }) (va_Pc [.ref o] (fun U => KS D T U ∧ U.heap.size = sz ∧ va_at D vwCl (o, .inr (4, [.null, .null, .null, .int 0, .null, .int 0, .null, .int 0])) U.heap)) (va_Qv (fun (u : Unit) => True) (fun u t => ∃ M : Nat → Nat, M 0 = o ∧ (∀ x, 1 ≤ x → x < 6 → sz ≤ M x) ∧ (∀ x, x < 6 → M x < t.heap.size) ∧ MO D T t.heap M (fun _ => 0) (fun _ => 0) (fun _ => 0) 0 (fun _ => 0) 0 (fun _ => 0) 0) (fun q => q = o ∨ sz ≤ q)) 5 5858 (fun q => q = o ∨ sz ≤ q) := by
  refine Met.ofW (cc := cX4_init) (maxL := 1) (ret := none) (by decide) rfl ?_
  intro pg ev s m args below meth c s₁ B hml hv
  obtain ⟨rfl, hK, hH⟩ := hv
  have hx := B.exec
  have hb := B.bytes
  have hr := B.returns
  have hts := atoms_spec (ws := wsX4_init) B.pre
  have hown : s.vm.findClass RX4 = some m.cls := findClass_of_methodNamed B.named
  have hlocks := B.notSynchronized
  have hin : meth.name = "<init>" := (name_of_methodNamed B.named B.method).1
  have in_wsX40 : ∀ w ∈ wsX40, w ∈ wsX4_init := fun w h => List.mem_cons_of_mem _ (List.mem_append_right _ h)
  have hS : va_S (fun q => q = o ∨ sz ≤ q) s.heap s.heap [] := va_S.rf
  have hl := lv_entry ([.ref o]) (n := 1) (Nat.le_of_ble_eq_true rfl)
  rw [lg_entry_eq]
  generalize (lg_sl ([.ref o]) ++ List.replicate (1 - (lg_sl ([.ref o])).length) Slot.unset).toArray = ls at hl ⊢
  have hl : lv_has ls 1 [(0, .ref o)] := hl
  refine W_gen (fun Q hQ => ?_)
  obtain ⟨hsz, hO⟩ := hH
  have ho0 : o < s.heap.size := va_at.lt hO
  refine lv_aload_n hx hb dX4_init_0 rfl (lv_at hl 0 rfl) ?_
  refine W.objInit hx hb hown (hts (.methodLink RX4 1 objectInit) (by decide +kernel)) (hts (.instanceMethod objectInit) (by decide +kernel)) (hts (.code objectInit ⟨#[0xb1]⟩ 1 none) (by decide +kernel)) rfl (by rw [hml]; exact hl.1) rfl dX4_init_1 (Nat.le_of_ble_eq_true rfl) (Nat.le_of_ble_eq_true rfl) ?_
  refine W.eq (g2 := F0 m 4 ls []) rfl ?_
  refine lv_aload_n hx hb dX4_init_4 rfl (lv_at hl 0 rfl) ?_
  refine lv_sipush (v := (nI 790)) hx hb dX4_init_5 (by decide) ?_
  refine r_newI hx hb (hts (.arrayClass .int) (by decide +kernel)) hK hS (n := 790) (by omega) (show 0 + 1 ≤ 5 by omega) (show 0 + 790 ≤ 5858 by omega) dX4_init_8 (fun q_1 H_1 hq_1 hat hz9 hF9 hS => ?_)
  refine W.widen (k := 1) (n := 790) (by omega) (by omega) ?_
  have hO := hF9.at hO (fun z => z)
  have hV1 := hat
  refine r_putF (C := RX4) (Tb := TX4) (N := 8) hx hb hts in_wsX40 tyX4 tyX4_ok nmX4 hown hK hS (Or.inl rfl) hO rfl 0 (by decide) (hts (.fieldLink RX4 7 "PieceSetsModel" "v" "[I") (by decide +kernel)) rfl rfl hin rfl (ty := .array .int) (by decide +kernel) rfl rfl (show (0 : Nat) < 8 by decide) dX4_init_10 (fun H_2 locs hat oq hz8 hS => ?_)
  have hV1 := (Fr.oq oq).at hV1 (by omega)
  have hO := hat
  refine lv_aload_n hx hb dX4_init_13 rfl (lv_at hl 0 rfl) ?_
  refine lv_sipush (v := (nI 790)) hx hb dX4_init_14 (by decide) ?_
  refine r_newI hx hb (hts (.arrayClass .int) (by decide +kernel)) hK hS (n := 790) (by omega) (show 1 + 1 ≤ 5 by omega) (show 790 + 790 ≤ 5858 by omega) dX4_init_17 (fun q_2 H_3 hq_2 hat hz9 hF9 hS => ?_)
  refine W.widen (k := 2) (n := 1580) (by omega) (by omega) ?_
  have hO := hF9.at hO (fun z => z)
  have hV1 := hF9.at hV1 (fun z => z)
  have hV2 := hat
  refine r_putF (C := RX4) (Tb := TX4) (N := 8) hx hb hts in_wsX40 tyX4 tyX4_ok nmX4 hown hK hS (Or.inl rfl) hO rfl 1 (by decide) (hts (.fieldLink RX4 13 "PieceSetsModel" "aside" "[I") (by decide +kernel)) rfl rfl hin rfl (ty := .array .int) (by decide +kernel) rfl rfl (show (1 : Nat) < 8 by decide) dX4_init_19 (fun H_4 locs hat oq hz8 hS => ?_)
  have hV1 := (Fr.oq oq).at hV1 (by omega)
  have hV2 := (Fr.oq oq).at hV2 (by omega)
  have hO := hat
  refine lv_aload_n hx hb dX4_init_22 rfl (lv_at hl 0 rfl) ?_
  refine lv_sipush (v := (nI 3950)) hx hb dX4_init_23 (by decide) ?_
  refine r_newI hx hb (hts (.arrayClass .int) (by decide +kernel)) hK hS (n := 3950) (by omega) (show 2 + 1 ≤ 5 by omega) (show 1580 + 3950 ≤ 5858 by omega) dX4_init_26 (fun q_3 H_5 hq_3 hat hz9 hF9 hS => ?_)
  refine W.widen (k := 3) (n := 5530) (by omega) (by omega) ?_
  have hO := hF9.at hO (fun z => z)
  have hV1 := hF9.at hV1 (fun z => z)
  have hV2 := hF9.at hV2 (fun z => z)
  have hV3 := hat
  refine r_putF (C := RX4) (Tb := TX4) (N := 8) hx hb hts in_wsX40 tyX4 tyX4_ok nmX4 hown hK hS (Or.inl rfl) hO rfl 2 (by decide) (hts (.fieldLink RX4 16 "PieceSetsModel" "past" "[I") (by decide +kernel)) rfl rfl hin rfl (ty := .array .int) (by decide +kernel) rfl rfl (show (2 : Nat) < 8 by decide) dX4_init_28 (fun H_6 locs hat oq hz8 hS => ?_)
  have hV1 := (Fr.oq oq).at hV1 (by omega)
  have hV2 := (Fr.oq oq).at hV2 (by omega)
  have hV3 := (Fr.oq oq).at hV3 (by omega)
  have hO := hat
  refine lv_aload_n hx hb dX4_init_31 rfl (lv_at hl 0 rfl) ?_
  refine lv_sipush (v := (nI 200)) hx hb dX4_init_32 (by decide) ?_
  refine r_newI hx hb (hts (.arrayClass .int) (by decide +kernel)) hK hS (n := 200) (by omega) (show 3 + 1 ≤ 5 by omega) (show 5530 + 200 ≤ 5858 by omega) dX4_init_35 (fun q_4 H_7 hq_4 hat hz9 hF9 hS => ?_)
  refine W.widen (k := 4) (n := 5730) (by omega) (by omega) ?_
  have hO := hF9.at hO (fun z => z)
  have hV1 := hF9.at hV1 (fun z => z)
  have hV2 := hF9.at hV2 (fun z => z)
  have hV3 := hF9.at hV3 (fun z => z)
  have hV4 := hat
  refine r_putF (C := RX4) (Tb := TX4) (N := 8) hx hb hts in_wsX40 tyX4 tyX4_ok nmX4 hown hK hS (Or.inl rfl) hO rfl 4 (by decide) (hts (.fieldLink RX4 19 "PieceSetsModel" "buffer" "[I") (by decide +kernel)) rfl rfl hin rfl (ty := .array .int) (by decide +kernel) rfl rfl (show (4 : Nat) < 8 by decide) dX4_init_37 (fun H_8 locs hat oq hz8 hS => ?_)
  have hV1 := (Fr.oq oq).at hV1 (by omega)
  have hV2 := (Fr.oq oq).at hV2 (by omega)
  have hV3 := (Fr.oq oq).at hV3 (by omega)
  have hV4 := (Fr.oq oq).at hV4 (by omega)
  have hO := hat
  refine lv_aload_n hx hb dX4_init_40 rfl (lv_at hl 0 rfl) ?_
  refine lv_sipush (v := (nI 128)) hx hb dX4_init_41 (by decide) ?_
  refine r_newI hx hb (hts (.arrayClass .int) (by decide +kernel)) hK hS (n := 128) (by omega) (show 4 + 1 ≤ 5 by omega) (show 5730 + 128 ≤ 5858 by omega) dX4_init_44 (fun q_5 H_9 hq_5 hat hz9 hF9 hS => ?_)
  refine W.widen (k := 5) (n := 5858) (by omega) (by omega) ?_
  have hO := hF9.at hO (fun z => z)
  have hV1 := hF9.at hV1 (fun z => z)
  have hV2 := hF9.at hV2 (fun z => z)
  have hV3 := hF9.at hV3 (fun z => z)
  have hV4 := hF9.at hV4 (fun z => z)
  have hV5 := hat
  refine r_putF (C := RX4) (Tb := TX4) (N := 8) hx hb hts in_wsX40 tyX4 tyX4_ok nmX4 hown hK hS (Or.inl rfl) hO rfl 6 (by decide) (hts (.fieldLink RX4 22 "PieceSetsModel" "bits" "[I") (by decide +kernel)) rfl rfl hin rfl (ty := .array .int) (by decide +kernel) rfl rfl (show (6 : Nat) < 8 by decide) dX4_init_46 (fun H_10 locs hat oq hz8 hS => ?_)
  have hV1 := (Fr.oq oq).at hV1 (by omega)
  have hV2 := (Fr.oq oq).at hV2 (by omega)
  have hV3 := (Fr.oq oq).at hV3 (by omega)
  have hV4 := (Fr.oq oq).at hV4 (by omega)
  have hV5 := (Fr.oq oq).at hV5 (by omega)
  have hO := hat
  subst hQ
  obtain ⟨M, hMd⟩ : ∃ M : Nat → Nat, M = fun x => if x = 0 then o else if x = 1 then q_1 else if x = 2 then q_2 else if x = 3 then q_3 else if x = 4 then q_4 else q_5 := ⟨_, rfl⟩
  have m0 : M 0 = o := by rw [hMd]; rfl
  have m1 : M 1 = q_1 := by rw [hMd]; rfl
  have m2 : M 2 = q_2 := by rw [hMd]; rfl
  have m3 : M 3 = q_3 := by rw [hMd]; rfl
  have m4 : M 4 = q_4 := by rw [hMd]; rfl
  have m5 : M 5 = q_5 := by rw [hMd]; rfl
  have l1 := va_at.lt hV1
  have l2 := va_at.lt hV2
  have l3 := va_at.lt hV3
  have l4 := va_at.lt hV4
  have l5 := va_at.lt hV5
  have l0 := va_at.lt hO
  have hfin : ∃ M : Nat → Nat, M 0 = o ∧ (∀ x, 1 ≤ x → x < 6 → sz ≤ M x) ∧ (∀ x, x < 6 → M x < H_10.size) ∧ MO D T H_10 M (fun _ => 0) (fun _ => 0) (fun _ => 0) 0 (fun _ => 0) 0 (fun _ => 0) 0 := by
    refine ⟨M, m0, fun x h1 h2 => ?_, fun x h2 => ?_, fun i j hi hj e => ?_, ?_, ?_, ?_, ?_, ?_, ?_⟩
    · rcases (show x = 1 ∨ x = 2 ∨ x = 3 ∨ x = 4 ∨ x = 5 by omega) with rfl | rfl | rfl | rfl | rfl <;> first | rw [m1] | rw [m2] | rw [m3] | rw [m4] | rw [m5]
      all_goals omega
    · rcases (show x = 0 ∨ x = 1 ∨ x = 2 ∨ x = 3 ∨ x = 4 ∨ x = 5 by omega) with rfl | rfl | rfl | rfl | rfl | rfl <;> first | rw [m0] | rw [m1] | rw [m2] | rw [m3] | rw [m4] | rw [m5]
      all_goals omega
    · rcases (show i = 0 ∨ i = 1 ∨ i = 2 ∨ i = 3 ∨ i = 4 ∨ i = 5 by omega) with rfl | rfl | rfl | rfl | rfl | rfl <;> rcases (show j = 0 ∨ j = 1 ∨ j = 2 ∨ j = 3 ∨ j = 4 ∨ j = 5 by omega) with rfl | rfl | rfl | rfl | rfl | rfl <;> first | rfl | (exfalso; simp only [m0, m1, m2, m3, m4, m5] at e; omega)
    · rw [m0, m1, m2, m3, m4, m5]; exact hO
    · rw [m1]; exact hV1
    · rw [m2]; exact hV2
    · rw [m3]; exact hV3
    · rw [m4]; exact hV4
    · rw [m5]; exact hV5
  refine W.widen (k := 5) (n := 5858) (by omega) (by omega) ?_
  exact W.vret hx hb hr (fun t ht hW => ⟨⟨(), rfl, trivial, by have h9 := hfin; rw [← ht] at h9; exact h9⟩, hS.F ht⟩) hS.2.2 dX4_init_49
set_option maxHeartbeats 1000000 in
set_option maxRecDepth 100000 in
theorem k_X4_takes (l : Launch) (D : va_G) (T : Nat → ClassId) (M : Nat → Nat) (v : Nat → Int32) (as : Nat → Int32) (pa : Nat → Int32) (pk : Nat) (rb : Nat → Nat) (bm : Nat) (bi : Nat → Int32) (at0 : Nat) (x : Nat) (hbm : bm ≤ 200) (hrb : ∀ i, rb i < 256) (hat0 : at0 ≤ bm) (hx4 : x < 4096) : Met l yX4_takes wsX4_takes ({ frames := 0, cells := 0, slots := 0, locals := 0 }) (va_Pc [.ref (M 0), .int (nI x)] (fun U => KS D T U ∧ MO D T U.heap M v as pa pk (fun i => nI (rb i)) bm bi at0)) (va_Qv (fun (u : Nat → Int32) => ∀ y, bB u y = (bB bi y || decide (y = x))) (fun u t => MO D T t.heap M v as pa pk (fun i => nI (rb i)) bm u at0) (fun q => q = M 5)) 0 0 (fun q => q = M 5) := by
  refine Met.ofW (cc := cX4_takes) (maxL := 2) (ret := none) (by decide) rfl ?_
  intro pg ev s m args below meth c s₁ B hml hv
  obtain ⟨rfl, hK, hH⟩ := hv
  have hx := B.exec
  have hb := B.bytes
  have hr := B.returns
  have hts := atoms_spec (ws := wsX4_takes) B.pre
  have hown : s.vm.findClass RX4 = some m.cls := findClass_of_methodNamed B.named
  have hlocks := B.notSynchronized
  have in_wsX40 : ∀ w ∈ wsX40, w ∈ wsX4_takes := fun w h => List.mem_cons_of_mem _ (List.mem_append_right _ h)
  have hS : va_S (fun q => q = M 5) s.heap s.heap [] := va_S.rf
  have hl := lv_entry ([.ref (M 0), .int (nI x)]) (n := 2) (Nat.le_of_ble_eq_true rfl)
  rw [lg_entry_eq]
  generalize (lg_sl ([.ref (M 0), .int (nI x)]) ++ List.replicate (2 - (lg_sl ([.ref (M 0), .int (nI x)])).length) Slot.unset).toArray = ls at hl ⊢
  have hl : lv_has ls 2 [(0, .ref (M 0)), (1, .int (nI x))] := hl
  refine W_gen (fun Q hQ => ?_)
  have hM := hH
  refine lv_aload_n hx hb dX4_takes_0 rfl (lv_at hl 0 rfl) ?_
  refine r_get (C := RX4) (Tb := TX4) (N := 8) hx hb hts in_wsX40 hown hK (hM.2.1) rfl 6 (by decide) (hts (.fieldLink RX4 22 "PieceSetsModel" "bits" "[I") (by decide +kernel)) rfl (v := .ref (M 5)) rfl dX4_takes_1 ?_
  refine lv_iload_n hx hb dX4_takes_4 rfl (lv_at hl 1 rfl) ?_
  refine lv_bipush (v := (nI 32)) hx hb dX4_takes_5 (by decide) ?_
  refine lv_idiv hx hb dX4_takes_7 (by decide) ?_
  refine top_i (pk_div (a := x) (d := 32) (by omega) (by omega) (by omega)) ?_
  refine lv_dup2_11 hx hb dX4_takes_8 rfl rfl ?_
  refine r_iald hx hb hK (hM.2.2.2.2.2.2) (i := x / 32) (by omega) (by decide) dX4_takes_9 ?_
  refine lv_iconst (v := (nI 1)) hx hb dX4_takes_10 (by decide) ?_
  refine lv_iload_n hx hb dX4_takes_11 rfl (lv_at hl 1 rfl) ?_
  refine lv_bipush (v := (nI 32)) hx hb dX4_takes_12 (by decide) ?_
  refine lv_irem hx hb dX4_takes_14 (by decide) ?_
  refine top_i (pk_rem (a := x) (d := 32) (by omega) (by omega) (by omega)) ?_
  refine lv_ishl hx hb dX4_takes_15 ?_
  refine top_i (x' := (shlI (nI 1) (nI (x % 32)))) rfl ?_
  refine lv_ior hx hb dX4_takes_16 ?_
  refine r_iast hx hb hK hS (rfl) (hM.2.2.2.2.2.2) (i := x / 32) (by omega) (by decide) dX4_takes_17 (fun H_1 locs hat oq hS => ?_)
  have hM := hM.set5 hat (Fr.oq oq)
  subst hQ
  exact W.vret hx hb hr (fun t ht hW => ⟨⟨(upd bi (x / 32) ((bi (x / 32)) ||| (shlI (nI 1) (nI (x % 32))))), rfl, (fun y => bB_put y), by have h9 := hM; rw [← ht] at h9; exact h9⟩, hS.F ht⟩) hS.2.2 dX4_takes_18
set_option maxHeartbeats 1000000 in
set_option maxRecDepth 100000 in
theorem k_X4_next (l : Launch) (D : va_G) (T : Nat → ClassId) (M : Nat → Nat) (v : Nat → Int32) (as : Nat → Int32) (pa : Nat → Int32) (pk : Nat) (rb : Nat → Nat) (bm : Nat) (bi : Nat → Int32) (at0 : Nat) (hbm : bm ≤ 200) (hrb : ∀ i, rb i < 256) (hat0 : at0 ≤ bm) : Met l yX4_next wsX4_next ({ frames := 0, cells := 0, slots := 0, locals := 0 }) (va_Pc [.ref (M 0)] (fun U => KS D T U ∧ MO D T U.heap M v as pa pk (fun i => nI (rb i)) bm bi at0)) (vp_Si (fun r => r = (nxt rb bm at0))) 0 0 (fun _ => False) := by
  refine Met.ofW (cc := cX4_next) (maxL := 1) (ret := (some .int)) (by decide) rfl ?_
  intro pg ev s m args below meth c s₁ B hml hv
  obtain ⟨rfl, hK, hH⟩ := hv
  have hx := B.exec
  have hb := B.bytes
  have hr := B.returns
  have hts := atoms_spec (ws := wsX4_next) B.pre
  have hown : s.vm.findClass RX4 = some m.cls := findClass_of_methodNamed B.named
  have hlocks := B.notSynchronized
  have in_wsX40 : ∀ w ∈ wsX40, w ∈ wsX4_next := fun w h => List.mem_cons_of_mem _ (List.mem_append_right _ h)
  have hl := lv_entry ([.ref (M 0)]) (n := 1) (Nat.le_of_ble_eq_true rfl)
  rw [lg_entry_eq]
  generalize (lg_sl ([.ref (M 0)]) ++ List.replicate (1 - (lg_sl ([.ref (M 0)])).length) Slot.unset).toArray = ls at hl ⊢
  have hl : lv_has ls 1 [(0, .ref (M 0))] := hl
  refine W_gen (fun Q hQ => ?_)
  have hM := hH
  refine lv_aload_n hx hb dX4_next_0 rfl (lv_at hl 0 rfl) ?_
  refine r_get (C := RX4) (Tb := TX4) (N := 8) hx hb hts in_wsX40 hown hK (hM.2.1) rfl 7 (by decide) (hts (.fieldLink RX4 98 "PieceSetsModel" "at" "I") (by decide +kernel)) rfl (v := .int (nI at0)) rfl dX4_next_1 ?_
  refine lv_aload_n hx hb dX4_next_4 rfl (lv_at hl 0 rfl) ?_
  refine r_get (C := RX4) (Tb := TX4) (N := 8) hx hb hts in_wsX40 hown hK (hM.2.1) rfl 5 (by decide) (hts (.fieldLink RX4 95 "PieceSetsModel" "bufferMany" "I") (by decide +kernel)) rfl (v := .int (nI bm)) rfl dX4_next_5 ?_
  refine lv_icmp_ge (tgt := 23) hx hb dX4_next_8 (by decide) (fun c_1 => ?_) (fun c_1 => ?_)
  · skip
    have c_1 : bm ≤ at0 := (nI_leI (a := bm) (b := at0) (by omega) (by omega)).mp c_1
    refine lv_bipush (v := (-9)) hx hb dX4_next_23 (by decide) ?_
    subst hQ
    refine W.iret (v := (-9)) hx hb hr (fun t ht hW => ⟨(-9), rfl, ?_, ht⟩) (fun q h => absurd h List.not_mem_nil) dX4_next_25
    exact (if_neg (by omega)).symm
  · skip
    have c_1 : ¬ (bm ≤ at0) := fun z => c_1 ((nI_leI (a := bm) (b := at0) (by omega) (by omega)).mpr z)
    refine lv_aload_n hx hb dX4_next_11 rfl (lv_at hl 0 rfl) ?_
    refine r_get (C := RX4) (Tb := TX4) (N := 8) hx hb hts in_wsX40 hown hK (hM.2.1) rfl 4 (by decide) (hts (.fieldLink RX4 19 "PieceSetsModel" "buffer" "[I") (by decide +kernel)) rfl (v := .ref (M 4)) rfl dX4_next_12 ?_
    refine lv_aload_n hx hb dX4_next_15 rfl (lv_at hl 0 rfl) ?_
    refine r_get (C := RX4) (Tb := TX4) (N := 8) hx hb hts in_wsX40 hown hK (hM.2.1) rfl 7 (by decide) (hts (.fieldLink RX4 98 "PieceSetsModel" "at" "I") (by decide +kernel)) rfl (v := .int (nI at0)) rfl dX4_next_16 ?_
    refine r_iald hx hb hK (hM.2.2.2.2.2.1) (i := at0) (by omega) (by decide) dX4_next_19 ?_
    refine top_i (x' := (nI (rb at0))) rfl ?_
    refine lv_goto (tgt := 25) hx hb dX4_next_20 (by decide) ?_
    subst hQ
    refine W.iret (v := (nI (rb at0))) hx hb hr (fun t ht hW => ⟨(nI (rb at0)), rfl, ?_, ht⟩) (fun q h => absurd h List.not_mem_nil) dX4_next_25
    exact (if_pos (by omega)).symm
set_option maxHeartbeats 1000000 in
set_option maxRecDepth 100000 in
theorem k_X4_readsBitmap (l : Launch) (D : va_G) (T : Nat → ClassId) (M : Nat → Nat) (v : Nat → Int32) (as : Nat → Int32) (pa : Nat → Int32) (pk : Nat) (rb : Nat → Nat) (bm : Nat) (bi : Nat → Int32) (at0 : Nat) (k : Nat) (b : Nat → Bool) (hbm : bm ≤ 200) (hrb : ∀ i, rb i < 256) (hat0 : at0 ≤ bm) (hk : k < 16) (hbf : ∀ x, x < 4096 → bB bi x = b x) : Met l yX4_readsBitmap wsX4_readsBitmap ({ frames := 1, cells := 0, slots := 0, locals := 21 }) (va_Pc [.ref (M 0), .int (nI (256 * k))] (fun U => KS D T U ∧ MO D T U.heap M v as pa pk (fun i => nI (rb i)) bm bi at0)) (va_Qi (fun (r : Int32) (u : (Nat → Int32) × Nat) => PMo (pPc rb bm k 2 at0 b) r u.1 u.2) (fun u t => MO D T t.heap M v as pa pk (fun i => nI (rb i)) bm u.1 u.2) (fun q => q = M 5 ∨ q = M 0)) 0 0 (fun q => q = M 5 ∨ q = M 0) := by
  refine Met.ofW (cc := cX4_readsBitmap) (maxL := 4) (ret := (some .boolean)) (by decide) rfl ?_
  intro pg ev s m args below meth c s₁ B hml hv
  obtain ⟨rfl, hK, hH⟩ := hv
  have hx := B.exec
  have hb := B.bytes
  have hr := B.returns
  have hts := atoms_spec (ws := wsX4_readsBitmap) B.pre
  have hown : s.vm.findClass RX4 = some m.cls := findClass_of_methodNamed B.named
  have hlocks := B.notSynchronized
  have in_wsX40 : ∀ w ∈ wsX40, w ∈ wsX4_readsBitmap := fun w h => List.mem_cons_of_mem _ (List.mem_append_right _ h)
  have hS : va_S (fun q => q = M 5 ∨ q = M 0) s.heap s.heap [] := va_S.rf
  have hl := lv_entry ([.ref (M 0), .int (nI (256 * k))]) (n := 4) (Nat.le_of_ble_eq_true rfl)
  rw [lg_entry_eq]
  generalize (lg_sl ([.ref (M 0), .int (nI (256 * k))]) ++ List.replicate (4 - (lg_sl ([.ref (M 0), .int (nI (256 * k))])).length) Slot.unset).toArray = ls at hl ⊢
  have hl : lv_has ls 4 [(0, .ref (M 0)), (1, .int (nI (256 * k)))] := hl
  refine W_gen (fun Q hQ => ?_)
  have hM := hH
  refine lv_iconst (v := (nI 0)) hx hb dX4_readsBitmap_0 (by decide) ?_
  refine lv_istore_n (lv' := [(2, .int (nI 0)), (0, .ref (M 0)), (1, .int (nI (256 * k)))]) hx hb dX4_readsBitmap_1 rfl hl (by decide) rfl (fun ls hl => ?_)
  have loop2 : ∀ (n2 : Nat) (i : Nat) (j : Nat) (g : Nat → Int32) (bb : Nat → Bool) (hi : i ≤ 32) (hj : j ≤ bm) (hg : ∀ x, x < 4096 → bB g x = bb x) (hv : pBm rb bm (32 - i) j (256 * k + 8 * i) bb = pBm rb bm 32 at0 (256 * k) b) (H : Heap) (locs : List Loc) (hM : MO D T H M v as pa pk (fun i => nI (rb i)) bm g j) (hS : va_S (fun q => q = M 5 ∨ q = M 0) s.heap H locs) (ls : Array Slot) (hl : lv_has ls 4 [(0, .ref (M 0)), (1, .int (nI (256 * k))), (2, .int (nI i))]) (hn2 : 32 - i < n2), W pg l ev (headSpec wsX4_readsBitmap ({ frames := 1, cells := 0, slots := 0, locals := 21 })).room s m ([.ref (M 0), .int (nI (256 * k))] : List Value).toArray below meth c H locs 0 0 Q (F0 m 2 ls []) := by
    intro n2
    induction n2 with
    | zero =>
      intro i j g bb hi hj hg hv H locs hM hS ls hl hn2
      exact absurd hn2 (Nat.not_lt_zero _)
    | succ n2 ih2 =>
      intro i j g bb hi hj hg hv H locs hM hS ls hl hn2
      have hrbj := hrb j
      refine lv_iload_n hx hb dX4_readsBitmap_2 rfl (lv_at hl 2 rfl) ?_
      refine lv_bipush (v := (nI 32)) hx hb dX4_readsBitmap_3 (by decide) ?_
      refine lv_icmp_ge (tgt := 71) hx hb dX4_readsBitmap_5 (by decide) (fun c_1 => ?_) (fun c_1 => ?_)
      · skip
        have c_1 : 32 ≤ i := (nI_leI (a := 32) (b := i) (by omega) (by omega)).mp c_1
        refine lv_iconst (v := (nI 1)) hx hb dX4_readsBitmap_71 (by decide) ?_
        subst hQ
        exact W.zret (v := (nI 1)) hx hb hr nb1 (fun t ht hW => ⟨⟨(nI 1), (g, j), rfl, (PMo_t ((pPc_b rb bm k at0 b).trans (hv.symm.trans (by rw [show 32 - i = 0 by omega]; rfl))) hg), by have h9 := hM; rw [← ht] at h9; exact h9⟩, hS.F ht⟩) hS.2.2 dX4_readsBitmap_72
      · skip
        have c_1 : ¬ (32 ≤ i) := fun z => c_1 ((nI_leI (a := 32) (b := i) (by omega) (by omega)).mpr z)
        refine lv_aload_n hx hb dX4_readsBitmap_8 rfl (lv_at hl 0 rfl) ?_
        refine vp_callSi (va_Run.run (va_runV (As := []) (rest := []) ⟨hx, hb, hml, hown, hts⟩ (k_X4_next l D T M v as pa pk rb bm g j (hbm) (hrb) (by omega)) (cwV 0 hts gX4_readsBitmap_X4_next rfl rfl rfl (by decide +kernel) ⟨Nat.le_of_ble_eq_true rfl, Nat.le_of_ble_eq_true rfl⟩) (pre_V (Φ := fun X => MO D T X M v as pa pk (fun i => nI (rb i)) bm g j) hK (hM.2.1) rfl hM) rfl rfl hl.1 rfl (lv_room (Nat.le_of_ble_eq_true rfl)) dX4_readsBitmap_9 ⟨Nat.le_of_ble_eq_true rfl, Nat.le_of_ble_eq_true rfl⟩)) (fun r_1 hr_1 => ?_)
        subst hr_1
        refine lv_if_ge (tgt := 17) hx hb dX4_readsBitmap_12 (by decide) (fun c_2 => ?_) (fun c_2 => ?_)
        · skip
          have hnj := nxt_ge hrb c_2
          refine lv_iconst (v := (nI 0)) hx hb dX4_readsBitmap_17 (by decide) ?_
          refine lv_istore_n (lv' := [(3, .int (nI 0)), (0, .ref (M 0)), (1, .int (nI (256 * k))), (2, .int (nI i))]) hx hb dX4_readsBitmap_18 rfl hl (by decide) rfl (fun ls hl => ?_)
          have loop19 : ∀ (n19 : Nat) (zz : Nat) (g2 : Nat → Int32) (hz : zz ≤ 8) (hg2 : ∀ x, x < 4096 → bB g2 x = bset bb (256 * k + 8 * i) (rb j) zz x) (H : Heap) (locs : List Loc) (hM : MO D T H M v as pa pk (fun i => nI (rb i)) bm g2 j) (hS : va_S (fun q => q = M 5 ∨ q = M 0) s.heap H locs) (ls : Array Slot) (hl : lv_has ls 4 [(0, .ref (M 0)), (1, .int (nI (256 * k))), (2, .int (nI i)), (3, .int (nI zz))]) (hn19 : 8 - zz < n19), W pg l ev (headSpec wsX4_readsBitmap ({ frames := 1, cells := 0, slots := 0, locals := 21 })).room s m ([.ref (M 0), .int (nI (256 * k))] : List Value).toArray below meth c H locs 0 0 Q (F0 m 19 ls []) := by
            intro n19
            induction n19 with
            | zero =>
              intro zz g2 hz hg2 H locs hM hS ls hl hn19
              exact absurd hn19 (Nat.not_lt_zero _)
            | succ n19 ih19 =>
              intro zz g2 hz hg2 H locs hM hS ls hl hn19
              refine lv_iload_n hx hb dX4_readsBitmap_19 rfl (lv_at hl 3 rfl) ?_
              refine lv_bipush (v := (nI 8)) hx hb dX4_readsBitmap_20 (by decide) ?_
              refine lv_icmp_ge (tgt := 55) hx hb dX4_readsBitmap_22 (by decide) (fun c_3 => ?_) (fun c_3 => ?_)
              · skip
                have c_3 : 8 ≤ zz := (nI_leI (a := 8) (b := zz) (by omega) (by omega)).mp c_3
                refine lv_aload_n hx hb dX4_readsBitmap_55 rfl (lv_at hl 0 rfl) ?_
                refine lv_dup hx hb dX4_readsBitmap_56 rfl ?_
                refine r_get (C := RX4) (Tb := TX4) (N := 8) hx hb hts in_wsX40 hown hK (hM.2.1) rfl 7 (by decide) (hts (.fieldLink RX4 98 "PieceSetsModel" "at" "I") (by decide +kernel)) rfl (v := .int (nI j)) rfl dX4_readsBitmap_57 ?_
                refine lv_iconst (v := (nI 1)) hx hb dX4_readsBitmap_60 (by decide) ?_
                refine lv_iadd hx hb dX4_readsBitmap_61 ?_
                refine top_i (nI_add j 1) ?_
                refine r_put (C := RX4) (Tb := TX4) (N := 8) hx hb hts in_wsX40 tyX4 tyX4_ok nmX4 hown hK hS (Or.inr rfl) hM.2.1 rfl 7 (by decide) (hts (.fieldLink RX4 98 "PieceSetsModel" "at" "I") (by decide +kernel)) rfl rfl (ty := .int) (by decide +kernel) rfl rfl (show (7 : Nat) < 8 by decide) dX4_readsBitmap_62 (fun H_1 locs hat oq hS => ?_)
                have hM := hM.set0 (pk' := pk) (bm' := bm) (at' := j + 1) hat (Fr.oq oq)
                refine lv_iinc (v := (nI (i + 1))) (lv' := [(2, .int (nI (i + 1))), (0, .ref (M 0)), (1, .int (nI (256 * k))), (3, .int (nI zz))]) hx hb dX4_readsBitmap_65 hl (k := 2) rfl (iinc_n i 1) (by decide) rfl (fun ls hl => ?_)
                refine lv_goto (tgt := 2) hx hb dX4_readsBitmap_68 (by decide) ?_
                have hl := lv_sub hl (l' := [(0, .ref (M 0)), (1, .int (nI (256 * k))), (2, .int (nI (i + 1)))]) [1, 2, 0] rfl
                exact ih2 (i + 1) (j + 1) g2 (bset bb (256 * k + 8 * i) (rb j) 8) (by omega) (by omega) (fun x hx => (hg2 x hx).trans (by rw [show zz = 8 by omega])) (by rw [show 32 - i = (32 - (i + 1)) + 1 by omega, pBm_s, if_neg hnj] at hv; exact hv) H_1 _ hM hS ls hl (by omega)
              · skip
                have c_3 : ¬ (8 ≤ zz) := fun z => c_3 ((nI_leI (a := 8) (b := zz) (by omega) (by omega)).mpr z)
                refine lv_aload_n hx hb dX4_readsBitmap_25 rfl (lv_at hl 0 rfl) ?_
                refine vp_callSi (va_Run.run (va_runV (As := []) (rest := []) ⟨hx, hb, hml, hown, hts⟩ (k_X4_next l D T M v as pa pk rb bm g2 j (hbm) (hrb) (by omega)) (cwV 0 hts gX4_readsBitmap_X4_next rfl rfl rfl (by decide +kernel) ⟨Nat.le_of_ble_eq_true rfl, Nat.le_of_ble_eq_true rfl⟩) (pre_V (Φ := fun X => MO D T X M v as pa pk (fun i => nI (rb i)) bm g2 j) hK (hM.2.1) rfl hM) rfl rfl hl.1 rfl (lv_room (Nat.le_of_ble_eq_true rfl)) dX4_readsBitmap_26 ⟨Nat.le_of_ble_eq_true rfl, Nat.le_of_ble_eq_true rfl⟩)) (fun r_2 hr_2 => ?_)
                subst hr_2
                refine top_i (x' := (nI (rb j))) (nxt_n hnj) ?_
                refine lv_iload_n hx hb dX4_readsBitmap_29 rfl (lv_at hl 3 rfl) ?_
                refine lv_ishr hx hb dX4_readsBitmap_30 ?_
                refine top_i (x' := (shrI (nI (rb j)) (nI zz))) rfl ?_
                refine lv_iconst (v := (nI 1)) hx hb dX4_readsBitmap_31 (by decide) ?_
                refine lv_iand hx hb dX4_readsBitmap_32 ?_
                refine top_i (x' := (b2i ((rb j).testBit zz))) (shr_bit (hrb _) (by omega)) ?_
                refine lv_iconst (v := (nI 1)) hx hb dX4_readsBitmap_33 (by decide) ?_
                refine lv_icmp_ne (tgt := 49) hx hb dX4_readsBitmap_34 (by decide) (fun c_4 => ?_) (fun c_4 => ?_)
                · skip
                  have c_4 : (rb j).testBit zz = false := Bool.eq_false_iff.mpr (fun z => c_4 (b2i_e1.mpr z))
                  refine lv_iinc (v := (nI (zz + 1))) (lv' := [(3, .int (nI (zz + 1))), (0, .ref (M 0)), (1, .int (nI (256 * k))), (2, .int (nI i))]) hx hb dX4_readsBitmap_49 hl (k := 3) rfl (iinc_n zz 1) (by decide) rfl (fun ls hl => ?_)
                  refine lv_goto (tgt := 19) hx hb dX4_readsBitmap_52 (by decide) ?_
                  have hl := lv_sub hl (l' := [(0, .ref (M 0)), (1, .int (nI (256 * k))), (2, .int (nI i)), (3, .int (nI (zz + 1)))]) [1, 2, 3, 0] rfl
                  exact ih19 (zz + 1) g2 (by omega) (fun x hx => by rw [hg2 x hx, bset_s0 _ _ _ _ _ c_4]) H _ hM hS ls hl (by omega)
                · skip
                  have c_4 : (rb j).testBit zz = true := b2i_e1.mp c_4
                  refine lv_aload_n hx hb dX4_readsBitmap_37 rfl (lv_at hl 0 rfl) ?_
                  refine lv_iload_n hx hb dX4_readsBitmap_38 rfl (lv_at hl 1 rfl) ?_
                  refine lv_bipush (v := (nI 8)) hx hb dX4_readsBitmap_39 (by decide) ?_
                  refine lv_iload_n hx hb dX4_readsBitmap_41 rfl (lv_at hl 2 rfl) ?_
                  refine lv_imul hx hb dX4_readsBitmap_42 ?_
                  refine top_i (pk_mul 8 i) ?_
                  refine lv_iadd hx hb dX4_readsBitmap_43 ?_
                  refine top_i (nI_add (256 * k) (8 * i)) ?_
                  refine lv_iload_n hx hb dX4_readsBitmap_44 rfl (lv_at hl 3 rfl) ?_
                  refine lv_iadd hx hb dX4_readsBitmap_45 ?_
                  refine top_i (nI_add ((256 * k) + (8 * i)) zz) ?_
                  refine va_callv (va_runV (As := [.int (nI (((256 * k) + (8 * i)) + zz))]) (rest := []) ⟨hx, hb, hml, hown, hts⟩ (k_X4_takes l D T M v as pa pk rb bm g2 j (((256 * k) + (8 * i)) + zz) (hbm) (hrb) (by omega) (by omega)) (cwV 1 hts gX4_readsBitmap_X4_takes rfl rfl rfl (by decide +kernel) ⟨Nat.le_of_ble_eq_true rfl, Nat.le_of_ble_eq_true rfl⟩) (pre_V (Φ := fun X => MO D T X M v as pa pk (fun i => nI (rb i)) bm g2 j) hK (hM.2.1) rfl hM) rfl rfl hl.1 rfl (lv_room (Nat.le_of_ble_eq_true rfl)) dX4_readsBitmap_46 ⟨Nat.le_of_ble_eq_true rfl, Nat.le_of_ble_eq_true rfl⟩) hS (fun q _ h => Or.inl h) (fun q h => Or.inl h) (fun u_1 t H_1 locs ht hvm hw hB hz hk hS => ?_)
                  rw [ht] at hB
                  try dsimp only at hw
                  try dsimp only at hB
                  have hM := hB
                  refine lv_iinc (v := (nI (zz + 1))) (lv' := [(3, .int (nI (zz + 1))), (0, .ref (M 0)), (1, .int (nI (256 * k))), (2, .int (nI i))]) hx hb dX4_readsBitmap_49 hl (k := 3) rfl (iinc_n zz 1) (by decide) rfl (fun ls hl => ?_)
                  refine lv_goto (tgt := 19) hx hb dX4_readsBitmap_52 (by decide) ?_
                  have hl := lv_sub hl (l' := [(0, .ref (M 0)), (1, .int (nI (256 * k))), (2, .int (nI i)), (3, .int (nI (zz + 1)))]) [1, 2, 3, 0] rfl
                  exact ih19 (zz + 1) u_1 (by omega) (fun x hx => by rw [hw x, hg2 x hx, bset_s1 _ _ _ _ _ c_4]) H_1 _ hM hS ls hl (by omega)
          have hl := lv_sub hl (l' := [(0, .ref (M 0)), (1, .int (nI (256 * k))), (2, .int (nI i)), (3, .int (nI 0))]) [1, 2, 3, 0] rfl
          exact loop19 (8 - 0 + 1) 0 g (Nat.zero_le _) (fun x hx => by rw [bset_0]; exact hg x hx) H _ hM hS ls hl (Nat.lt_succ_self _)
        · skip
          refine lv_iconst (v := (nI 0)) hx hb dX4_readsBitmap_15 (by decide) ?_
          subst hQ
          exact W.zret (v := (nI 0)) hx hb hr nb0 (fun t ht hW => ⟨⟨(nI 0), (g, j), rfl, (PMo_e ((pPc_b rb bm k at0 b).trans (hv.symm.trans (by rw [show 32 - i = (32 - (i + 1)) + 1 by omega, pBm_s, if_pos (nxt_nge hrb c_2)])))), by have h9 := hM; rw [← ht] at h9; exact h9⟩, hS.F ht⟩) hS.2.2 dX4_readsBitmap_16
  have hl := lv_sub hl (l' := [(0, .ref (M 0)), (1, .int (nI (256 * k))), (2, .int (nI 0))]) [1, 2, 0] rfl
  exact loop2 (32 - 0 + 1) 0 at0 bi b (Nat.zero_le _) (hat0) (hbf) (rfl) s.heap _ hM hS ls hl (Nat.lt_succ_self _)
