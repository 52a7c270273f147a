set_option maxHeartbeats 4000000 in
set_option maxRecDepth 100000 in
theorem k_X1_init (l : Launch) (D : va_G) (T : Nat → ClassId) (o : Nat) (sz : Nat) : Met l yX1_init wsX1_init ({ frames := 1, cells := 1, slots := 64, locals := 20 }) (va_Pc [.ref o] (fun U => KS D T U ∧ U.heap.size = sz ∧ va_at D vwCl (o, .inr (1, [.null])) U.heap)) (va_Qv (fun (u : Unit) => True) (fun u t => ∃ w, sz ≤ w ∧ Num D T t.heap o w (fun _ => 0)) (fun q => q = o ∨ sz ≤ q)) 1 64 (fun q => q = o ∨ sz ≤ q) := by
  refine Met.ofW (cc := cX1_init) (maxL := 1) (ret := none) (by decide) rfl ?_
  intro pg ev s m args below meth c s₁ B hml hv
  obtain ⟨rfl, hK, hH⟩ := hv
  have hx := B.exec
  have hb := B.bytes
  have hr := B.returns
  have hts := atoms_spec (ws := wsX1_init) B.pre
  have hown : s.vm.findClass RX1 = some m.cls := findClass_of_methodNamed B.named
  have hlocks := B.notSynchronized
  have hin : meth.name = "<init>" := (name_of_methodNamed B.named B.method).1
  have in_wsX10 : ∀ w ∈ wsX10, w ∈ wsX1_init := fun w h => List.mem_cons_of_mem _ (List.mem_append_right _ h)
  have hS : va_S (fun q => q = o ∨ sz ≤ q) s.heap s.heap [] := va_S.rf
  have hl := lv_entry ([.ref o]) (n := 1) (Nat.le_of_ble_eq_true rfl)
  rw [lg_entry_eq]
  generalize (lg_sl ([.ref o]) ++ List.replicate (1 - (lg_sl ([.ref o])).length) Slot.unset).toArray = ls at hl ⊢
  have hl : lv_has ls 1 [(0, .ref o)] := hl
  refine W_gen (fun Q hQ => ?_)
  obtain ⟨hsz, hO⟩ := hH
  have ho0 : o < s.heap.size := va_at.lt hO
  refine lv_aload_n hx hb dX1_init_0 rfl (lv_at hl 0 rfl) ?_
  refine W.objInit hx hb hown (hts (.methodLink RX1 3 objectInit) (by decide +kernel)) (hts (.instanceMethod objectInit) (by decide +kernel)) (hts (.code objectInit ⟨#[0xb1]⟩ 1 none) (by decide +kernel)) rfl (by rw [hml]; exact hl.1) rfl dX1_init_1 (Nat.le_of_ble_eq_true rfl) (Nat.le_of_ble_eq_true rfl) ?_
  refine W.eq (g2 := F0 m 4 ls []) rfl ?_
  refine lv_aload_n hx hb dX1_init_4 rfl (lv_at hl 0 rfl) ?_
  refine lv_bipush (v := (nI 64)) hx hb dX1_init_5 (by decide) ?_
  refine r_newJ hx hb (hts (.arrayClass .long) (by decide +kernel)) hK hS (n := 64) (by omega) (show 0 + 1 ≤ 1 by omega) (show 0 + 64 ≤ 64 by omega) dX1_init_7 (fun q_1 H_1 hq_1 hat hz9 hF9 hS => ?_)
  refine W.widen (k := 1) (n := 64) (by omega) (by omega) ?_
  have hO := hF9.at hO (fun z => z)
  have hV := hat
  have ho := va_at.lt hO
  have hol : o < s.heap.size := ho0
  refine r_putF (C := RX1) (Tb := TX1) (N := 1) hx hb hts in_wsX10 tyX1 tyX1_ok nmX1 hown hK hS (Or.inl rfl) hO rfl 0 (by decide) (hts (.fieldLink RX1 9 "PieceSets$Numbers" "words" "[J") (by decide +kernel)) rfl rfl hin rfl (ty := .array .long) (by decide +kernel) rfl rfl (show (0 : Nat) < 1 by decide) dX1_init_9 (fun H_2 locs hat oq hz8 hS => ?_)
  have hV := (Fr.oq oq).at hV (by omega)
  have hO := hat
  subst hQ
  refine W.widen (k := 1) (n := 64) (by omega) (by omega) ?_
  exact W.vret hx hb hr (fun t ht hW => ⟨⟨(), rfl, trivial, by have h9 := (show ∃ w, sz ≤ w ∧ Num D T H_2 o w (fun _ => 0) from ⟨_, by omega, hO, hV⟩); rw [← ht] at h9; exact h9⟩, hS.F ht⟩) hS.2.2 dX1_init_12
set_option maxHeartbeats 4000000 in
set_option maxRecDepth 100000 in
theorem k_X0_init (l : Launch) (D : va_G) (T : Nat → ClassId) (o : Nat) (sz : Nat) : Met l yX0_init wsX0_init ({ frames := 1, cells := 1, slots := 200, locals := 20 }) (va_Pc [.ref o] (fun U => KS D T U ∧ U.heap.size = sz ∧ va_at D vwCl (o, .inr (0, [.null, .int 0])) U.heap)) (va_Qv (fun (u : Unit) => True) (fun u t => ∃ w, sz ≤ w ∧ Buf D T t.heap o w (fun _ => 0) 0) (fun q => q = o ∨ sz ≤ q)) 1 200 (fun q => q = o ∨ sz ≤ q) := by
  refine Met.ofW (cc := cX0_init) (maxL := 1) (ret := none) (by decide) rfl ?_
  intro pg ev s m args below meth c s₁ B hml hv
  obtain ⟨rfl, hK, hH⟩ := hv
  have hx := B.exec
  have hb := B.bytes
  have hr := B.returns
  have hts := atoms_spec (ws := wsX0_init) B.pre
  have hown : s.vm.findClass RX0 = some m.cls := findClass_of_methodNamed B.named
  have hlocks := B.notSynchronized
  have hin : meth.name = "<init>" := (name_of_methodNamed B.named B.method).1
  have in_wsX00 : ∀ w ∈ wsX00, w ∈ wsX0_init := fun w h => List.mem_cons_of_mem _ (List.mem_append_right _ h)
  have hS : va_S (fun q => q = o ∨ sz ≤ q) s.heap s.heap [] := va_S.rf
  have hl := lv_entry ([.ref o]) (n := 1) (Nat.le_of_ble_eq_true rfl)
  rw [lg_entry_eq]
  generalize (lg_sl ([.ref o]) ++ List.replicate (1 - (lg_sl ([.ref o])).length) Slot.unset).toArray = ls at hl ⊢
  have hl : lv_has ls 1 [(0, .ref o)] := hl
  refine W_gen (fun Q hQ => ?_)
  obtain ⟨hsz, hO⟩ := hH
  have ho0 : o < s.heap.size := va_at.lt hO
  refine lv_aload_n hx hb dX0_init_0 rfl (lv_at hl 0 rfl) ?_
  refine W.objInit hx hb hown (hts (.methodLink RX0 3 objectInit) (by decide +kernel)) (hts (.instanceMethod objectInit) (by decide +kernel)) (hts (.code objectInit ⟨#[0xb1]⟩ 1 none) (by decide +kernel)) rfl (by rw [hml]; exact hl.1) rfl dX0_init_1 (Nat.le_of_ble_eq_true rfl) (Nat.le_of_ble_eq_true rfl) ?_
  refine W.eq (g2 := F0 m 4 ls []) rfl ?_
  refine lv_aload_n hx hb dX0_init_4 rfl (lv_at hl 0 rfl) ?_
  refine lv_sipush (v := (nI 200)) hx hb dX0_init_5 (by decide) ?_
  refine r_newI hx hb (hts (.arrayClass .int) (by decide +kernel)) hK hS (n := 200) (by omega) (show 0 + 1 ≤ 1 by omega) (show 0 + 200 ≤ 200 by omega) dX0_init_8 (fun q_1 H_1 hq_1 hat hz9 hF9 hS => ?_)
  refine W.widen (k := 1) (n := 200) (by omega) (by omega) ?_
  have hO := hF9.at hO (fun z => z)
  have hV := hat
  have ho := va_at.lt hO
  refine r_putF (C := RX0) (Tb := TX0) (N := 2) hx hb hts in_wsX00 tyX0 tyX0_ok nmX0 hown hK hS (Or.inl rfl) hO rfl 0 (by decide) (hts (.fieldLink RX0 9 "PieceSets$Buffer" "row" "[I") (by decide +kernel)) rfl rfl hin rfl (ty := .array .int) (by decide +kernel) rfl rfl (show (0 : Nat) < 2 by decide) dX0_init_10 (fun H_2 locs hat oq hz8 hS => ?_)
  have hV := (Fr.oq oq).at hV (by omega)
  have hO := hat
  refine lv_aload_n hx hb dX0_init_13 rfl (lv_at hl 0 rfl) ?_
  refine lv_iconst (v := (nI 0)) hx hb dX0_init_14 (by decide) ?_
  refine r_put (C := RX0) (Tb := TX0) (N := 2) hx hb hts in_wsX00 tyX0 tyX0_ok nmX0 hown hK hS (Or.inl rfl) hO rfl 1 (by decide) (hts (.fieldLink RX0 15 "PieceSets$Buffer" "length" "I") (by decide +kernel)) rfl rfl (ty := .int) (by decide +kernel) rfl rfl (show (1 : Nat) < 2 by decide) dX0_init_15 (fun H_3 locs hat oq hS => ?_)
  have hz8 := oq_size hO hat oq
  have hV := (Fr.oq oq).at hV (by omega)
  have hO := hat
  subst hQ
  refine W.widen (k := 1) (n := 200) (by omega) (by omega) ?_
  exact W.vret hx hb hr (fun t ht hW => ⟨⟨(), rfl, trivial, by have h9 := (show ∃ w, sz ≤ w ∧ Buf D T H_3 o w (fun _ => 0) 0 from ⟨_, by omega, hO, hV⟩); rw [← ht] at h9; exact h9⟩, hS.F ht⟩) hS.2.2 dX0_init_18
set_option maxHeartbeats 4000000 in
set_option maxRecDepth 100000 in
theorem k_X2_init (l : Launch) (D : va_G) (T : Nat → ClassId) (o : Nat) (sz : Nat) : Met l yX2_init wsX2_init ({ frames := 2, cells := 15, slots := 414, locals := 40 }) (va_Pc [.ref o] (fun U => KA D T U ∧ U.heap.size = sz ∧ va_at D vwCl (o, .inr (2, [.null, .null, .null])) U.heap)) (va_Qv (fun (u : Unit) => True) (fun u t => ∃ a : Nat → Nat, a 0 = o ∧ inj a 16 ∧ (∀ x, 1 ≤ x → x < 16 → sz ≤ a x) ∧ (∀ x, x < 16 → a x < t.heap.size) ∧ Sta D T t.heap a (fun _ _ => 0) (fun _ => 0) (fun _ => 0)) (fun q => q = o ∨ sz ≤ q)) 15 414 (fun q => q = o ∨ sz ≤ q) := by
  refine Met.ofW (cc := cX2_init) (maxL := 2) (ret := none) (by decide) rfl ?_
  intro pg ev s m args below meth c s₁ B hml hv
  obtain ⟨rfl, hK, hH⟩ := hv
  have hKA := hK
  have hK := hK.1
  have hx := B.exec
  have hb := B.bytes
  have hr := B.returns
  have hts := atoms_spec (ws := wsX2_init) B.pre
  have hown : s.vm.findClass RX2 = some m.cls := findClass_of_methodNamed B.named
  have hlocks := B.notSynchronized
  have hin : meth.name = "<init>" := (name_of_methodNamed B.named B.method).1
  have in_wsX20 : ∀ w ∈ wsX20, w ∈ wsX2_init := fun w h => List.mem_cons_of_mem _ (List.mem_append_left _ (List.mem_append_right _ h))
  have in_wsX10 : ∀ w ∈ wsX10, w ∈ wsX2_init := fun w h => List.mem_cons_of_mem _ (List.mem_append_right _ h)
  have hS : va_S (fun q => q = o ∨ sz ≤ q) s.heap s.heap [] := va_S.rf
  have hl := lv_entry ([.ref o]) (n := 2) (Nat.le_of_ble_eq_true rfl)
  rw [lg_entry_eq]
  generalize (lg_sl ([.ref o]) ++ List.replicate (2 - (lg_sl ([.ref o])).length) Slot.unset).toArray = ls at hl ⊢
  have hl : lv_has ls 2 [(0, .ref o)] := hl
  refine W_gen (fun Q hQ => ?_)
  obtain ⟨hsz, hO⟩ := hH
  have ho0 : o < s.heap.size := va_at.lt hO
  refine lv_aload_n hx hb dX2_init_0 rfl (lv_at hl 0 rfl) ?_
  refine W.objInit hx hb hown (hts (.methodLink RX2 3 objectInit) (by decide +kernel)) (hts (.instanceMethod objectInit) (by decide +kernel)) (hts (.code objectInit ⟨#[0xb1]⟩ 1 none) (by decide +kernel)) rfl (by rw [hml]; exact hl.1) rfl dX2_init_1 (Nat.le_of_ble_eq_true rfl) (Nat.le_of_ble_eq_true rfl) ?_
  refine W.eq (g2 := F0 m 4 ls []) rfl ?_
  refine lv_aload_n hx hb dX2_init_4 rfl (lv_at hl 0 rfl) ?_
  refine lv_bipush (v := (nI 6)) hx hb dX2_init_5 (by decide) ?_
  refine r_newR (k := 2) hx hb hown (hts (.classLink RX2 9 RX1) (by decide +kernel)) hKA.2.1 hK rfl hS (n := 6) (by omega) (show 0 + 1 ≤ 15 by omega) (show 0 + 6 ≤ 414 by omega) dX2_init_7 (fun q_1 H_1 hq_1 hat hz9 hF9 hS => ?_)
  refine W.widen (k := 1) (n := 6) (by omega) (by omega) ?_
  have hO := hF9.at hO (fun z => z)
  have hR := hat
  refine r_putF (C := RX2) (Tb := TX2) (N := 3) hx hb hts in_wsX20 tyX2 tyX2_ok nmX2 hown hK hS (Or.inl rfl) hO rfl 0 (by decide) (hts (.fieldLink RX2 11 "PieceSets$State" "sets" "[LPieceSets$Numbers;") (by decide +kernel)) rfl rfl hin rfl (ty := .array (.object "PieceSets$Numbers")) (by decide +kernel) rfl rfl (show (0 : Nat) < 3 by decide) dX2_init_10 (fun H_2 locs hat oq hz8 hS => ?_)
  have hR := (Fr.oq oq).at hR (by omega)
  have hO := hat
  refine lv_iconst (v := (nI 0)) hx hb dX2_init_13 (by decide) ?_
  refine lv_istore_n (lv' := [(1, .int (nI 0)), (0, .ref o)]) hx hb dX2_init_14 rfl hl (by decide) rfl (fun ls hl => ?_)
  have loop15 : ∀ (n15 : Nat) (i : Nat) (a : Nat → Nat) (hi : i ≤ 6) (ha0 : a 0 = o) (hJ : injP (Is i) a) (hge : ∀ x, x = 1 ∨ (4 ≤ x ∧ x < 4 + 2 * i) → sz ≤ a x) (H : Heap) (locs : List Loc) (hO : va_at D vwCl (o, .inr (2, [.ref (a 1), .null, .null])) H) (hR : va_at D vwCl (a 1, eR T 2 6 (fun j => if j < i then some (a (4 + 2 * j)) else none)) H) (hN : ∀ z, z < i → Num D T H (a (4 + 2 * z)) (a (5 + 2 * z)) (fun _ => 0)) (hL : ∀ x, Is i x → a x < H.size) (hS : va_S (fun q => q = o ∨ sz ≤ q) s.heap H locs) (ls : Array Slot) (hl : lv_has ls 2 [(0, .ref o), (1, .int (nI i))]) (hn15 : 6 - i < n15), W pg l ev (headSpec wsX2_init ({ frames := 2, cells := 15, slots := 414, locals := 40 })).room s m ([.ref o] : List Value).toArray below meth c H locs (1 + 2 * i) (6 + 65 * i) Q (F0 m 15 ls []) := by
    intro n15
    induction n15 with
    | zero =>
      intro i a hi ha0 hJ hge H locs hO hR hN hL hS ls hl hn15
      exact absurd hn15 (Nat.not_lt_zero _)
    | succ n15 ih15 =>
      intro i a hi ha0 hJ hge H locs hO hR hN hL hS ls hl hn15
      have hg1 := hge 1 (by omega)
      have hl0 := hL 0 (by omega)
      have hl1 := hL 1 (by omega)
      refine lv_iload_n hx hb dX2_init_15 rfl (lv_at hl 1 rfl) ?_
      refine lv_bipush (v := (nI 6)) hx hb dX2_init_16 (by decide) ?_
      refine lv_icmp_ge (tgt := 40) hx hb dX2_init_18 (by decide) (fun c_1 => ?_) (fun c_1 => ?_)
      · skip
        have c_1 : 6 ≤ i := (nI_leI (a := 6) (b := i) (by omega) (by omega)).mp c_1
        refine lv_aload_n hx hb dX2_init_40 rfl (lv_at hl 0 rfl) ?_
        refine lv_bipush (v := (nI 9)) hx hb dX2_init_41 (by decide) ?_
        refine r_newI hx hb (hts (.arrayClass .int) (by decide +kernel)) hK hS (n := 9) (by omega) (show (1 + 2 * i) + 1 ≤ 15 by omega) (show (6 + 65 * i) + 9 ≤ 414 by omega) dX2_init_43 (fun q_2 H_3 hq_2 hat hz9 hF9 hS => ?_)
        refine W.widen (k := (2 + 2 * i)) (n := (15 + 65 * i)) (by omega) (by omega) ?_
        have hLs : ∀ x, Is i x → a x < H.size := hL
        have hl0 := hL 0 (by omega)
        have hl1 := hL 1 (by omega)
        have hO := hF9.at hO (fun z => z)
        have hR := hF9.at hR (fun z => z)
        have hN := fun z hz => hF9.num (hN z hz) (fun z => z) (fun z => z)
        have hM1 := hat
        have hL : ∀ x, Is i x → a x < H_3.size := fun x hx => by have h1 := hL x hx; omega
        refine r_putF (C := RX2) (Tb := TX2) (N := 3) hx hb hts in_wsX20 tyX2 tyX2_ok nmX2 hown hK hS (Or.inl rfl) hO rfl 1 (by decide) (hts (.fieldLink RX2 18 "PieceSets$State" "meetings" "[I") (by decide +kernel)) rfl rfl hin rfl (ty := .array .int) (by decide +kernel) rfl rfl (show (1 : Nat) < 3 by decide) dX2_init_45 (fun H_4 locs hat oq hz8 hS => ?_)
        have hF7 := Fr.oq oq
        have hR := hF7.at hR (by omega)
        have hM1 := hF7.at hM1 (by omega)
        have hN := fun z (hz : z < i) => hF7.num (hN z hz) (fun h9 => by have h1 := hJ (4 + 2 * z) 0 (by omega) (by omega) (h9.trans ha0.symm); omega) (fun h9 => by have h1 := hJ (5 + 2 * z) 0 (by omega) (by omega) (h9.trans ha0.symm); omega)
        have hO := hat
        have hL : ∀ x, Is i x → a x < H_4.size := fun x hx => by have h1 := hL x hx; omega
        refine lv_aload_n hx hb dX2_init_48 rfl (lv_at hl 0 rfl) ?_
        refine lv_bipush (v := (nI 9)) hx hb dX2_init_49 (by decide) ?_
        refine r_newI hx hb (hts (.arrayClass .int) (by decide +kernel)) hK hS (n := 9) (by omega) (show (2 + 2 * i) + 1 ≤ 15 by omega) (show (15 + 65 * i) + 9 ≤ 414 by omega) dX2_init_51 (fun q_3 H_5 hq_3 hat hz9 hF9 hS => ?_)
        refine W.widen (k := (3 + 2 * i)) (n := (24 + 65 * i)) (by omega) (by omega) ?_
        have hl0 := hL 0 (by omega)
        have hl1 := hL 1 (by omega)
        have hO := hF9.at hO (fun z => z)
        have hR := hF9.at hR (fun z => z)
        have hM1 := hF9.at hM1 (fun z => z)
        have hN := fun z hz => hF9.num (hN z hz) (fun z => z) (fun z => z)
        have hM2 := hat
        have hL : ∀ x, Is i x → a x < H_5.size := fun x hx => by have h1 := hL x hx; omega
        refine r_putF (C := RX2) (Tb := TX2) (N := 3) hx hb hts in_wsX20 tyX2 tyX2_ok nmX2 hown hK hS (Or.inl rfl) hO rfl 2 (by decide) (hts (.fieldLink RX2 22 "PieceSets$State" "conversions" "[I") (by decide +kernel)) rfl rfl hin rfl (ty := .array .int) (by decide +kernel) rfl rfl (show (2 : Nat) < 3 by decide) dX2_init_53 (fun H_6 locs hat oq hz8 hS => ?_)
        have hF7 := Fr.oq oq
        have hR := hF7.at hR (by omega)
        have hM1 := hF7.at hM1 (by omega)
        have hM2 := hF7.at hM2 (by omega)
        have hN := fun z (hz : z < i) => hF7.num (hN z hz) (fun h9 => by have h1 := hJ (4 + 2 * z) 0 (by omega) (by omega) (h9.trans ha0.symm); omega) (fun h9 => by have h1 := hJ (5 + 2 * z) 0 (by omega) (by omega) (h9.trans ha0.symm); omega)
        have hO := hat
        have hL : ∀ x, Is i x → a x < H_6.size := fun x hx => by have h1 := hL x hx; omega
        subst hQ
        have hi6 : i = 6 := by omega
        subst hi6
        obtain ⟨b, hbd⟩ : ∃ b : Nat → Nat, b = fun x => if x = 2 then q_2 else if x = 3 then q_3 else a x := ⟨_, rfl⟩
        have e0 : ∀ x, Is 6 x → b x = a x := fun x hx => by rw [hbd]; show (if x = 2 then _ else if x = 3 then _ else _) = _; rw [if_neg (by omega), if_neg (by omega)]
        have e2 : b 2 = q_2 := by rw [hbd]; exact if_pos rfl
        have e3 : b 3 = q_3 := by rw [hbd]; show (if 3 = 2 then _ else if 3 = 3 then _ else _) = _; rw [if_neg (by omega), if_pos rfl]
        have hfin : ∃ a : Nat → Nat, a 0 = o ∧ inj a 16 ∧ (∀ x, 1 ≤ x → x < 16 → sz ≤ a x) ∧ (∀ x, x < 16 → a x < H_6.size) ∧ Sta D T H_6 a (fun _ _ => 0) (fun _ => 0) (fun _ => 0) := by
          refine ⟨b, (e0 0 (by omega)).trans ha0, ?_, ?_, ?_, ?_, ?_, ?_, ?_, ?_⟩
          · have h9 : injP (fun x => x < 16) b := injP.ext hJ hLs e0 (Q := fun x => x = 2 ∨ x = 3) (fun x y hx hy z => by rcases hx with rfl | rfl <;> rcases hy with rfl | rfl <;> first | rfl | (rw [e2, e3] at z; omega) | (rw [e3, e2] at z; omega)) (fun x hx => by rcases hx with rfl | rfl; rw [e2]; omega; rw [e3]; omega) (fun x hx => by unfold Is at *; omega)
            exact fun i j h1 h2 h3 => h9 i j h1 h2 h3
          · intro x h1 h2
            by_cases h : x = 2
            · subst h; rw [e2]; omega
            · by_cases h3 : x = 3
              · subst h3; rw [e3]; omega
              · rw [e0 x (by unfold Is; omega)]; exact hge x (by omega)
          · intro x h2
            by_cases h : x = 2
            · subst h; rw [e2]; exact va_at.lt hM1
            · by_cases h3 : x = 3
              · subst h3; rw [e3]; exact va_at.lt hM2
              · rw [e0 x (by unfold Is; omega)]; exact hL x (by unfold Is; omega)
          · rw [e0 0 (by unfold Is; omega), e0 1 (by unfold Is; omega), e2, e3, ha0]; exact hO
          · rw [e0 1 (by unfold Is; omega)]; exact at_congR hR (fun j hj => by rw [e0 _ (by unfold Is; omega)]; exact if_pos hj)
          · rw [e2]; exact hM1
          · rw [e3]; exact hM2
          · intro z hz; rw [e0 _ (by unfold Is; omega), e0 _ (by unfold Is; omega)]; exact hN z hz
        refine W.widen (k := 15) (n := 414) (by omega) (by omega) ?_
        exact W.vret hx hb hr (fun t ht hW => ⟨⟨(), rfl, trivial, by have h9 := hfin; rw [← ht] at h9; exact h9⟩, hS.F ht⟩) hS.2.2 dX2_init_56
      · skip
        have c_1 : ¬ (6 ≤ i) := fun z => c_1 ((nI_leI (a := 6) (b := i) (by omega) (by omega)).mpr z)
        refine lv_aload_n hx hb dX2_init_21 rfl (lv_at hl 0 rfl) ?_
        refine r_get (C := RX2) (Tb := TX2) (N := 3) hx hb hts in_wsX20 hown hK (hO) rfl 0 (by decide) (hts (.fieldLink RX2 11 "PieceSets$State" "sets" "[LPieceSets$Numbers;") (by decide +kernel)) rfl (v := .ref (a 1)) rfl dX2_init_22 ?_
        refine lv_iload_n hx hb dX2_init_25 rfl (lv_at hl 1 rfl) ?_
        refine r_newo (ci := 1) (C := RX1) (Tb := TX1) (N := 1) (fs := [.null]) hx hb hts in_wsX10 tyX1 tyX1_ok hown (hts (.classLink RX2 9 RX1) (by decide +kernel)) (hts (.instantiable RX1 1) (by decide +kernel)) (hts (.initialized RX1) (by decide +kernel)) hK hS rfl (fun j hj => by rcases (show j = 0 by omega) with rfl <;> rfl) (show (1 + 2 * i) + 1 ≤ 15 by omega) (show (6 + 65 * i) + 1 ≤ 414 by omega) dX2_init_26 (fun q_2 H_3 hq_2 hat hz9 hF9 hS => ?_)
        refine W.widen (k := (2 + 2 * i)) (n := (7 + 65 * i)) (by omega) (by omega) ?_
        have hl1 := hL 1 (by omega)
        have hl0 := hL 0 (by omega)
        have hO := hF9.at hO (fun z => z)
        have hR := hF9.at hR (fun z => z)
        have hN := fun z hz => hF9.num (hN z hz) (fun z => z) (fun z => z)
        have hV := hat
        refine lv_dup hx hb dX2_init_29 rfl ?_
        refine va_callv (va_runIN (As := []) (rest := [.ref q_2, .int (nI i), .ref (a 1)]) ⟨hx, hb, hml, hown, hts⟩ (k_X1_init l D T q_2 H_3.size ) (⟨va_cnB 0 hts ggX2_init_X1_init rfl rfl rfl (hK.2.m (args := ([.ref o] : List Value).toArray) 1 rfl) (hts (.initialized RX1) (by decide +kernel)) (by decide +kernel) ⟨Nat.le_of_ble_eq_true rfl, Nat.le_of_ble_eq_true rfl⟩, rfl, hts (.instanceMethod yX1_init) (by decide +kernel)⟩) (pre_S (Φ := fun X => X.size = H_3.size ∧ va_at D vwCl (q_2, .inr (1, [.null])) X) hK ⟨rfl, hV⟩) rfl rfl hl.1 rfl (lv_room (Nat.le_of_ble_eq_true rfl)) dX2_init_30 ⟨show (2 + 2 * i) + 1 ≤ 15 by omega, show (7 + 65 * i) + 64 ≤ 414 by omega⟩) hS (fun q h1 (h2 : q = q_2 ∨ H_3.size ≤ q) => Or.inr (by omega)) (fun (q : Nat) (h2 : q = q_2 ∨ H_3.size ≤ q) => Or.inr (by omega)) (fun u_1 t H_4 locs ht hvm hw hB hz hk hS => ?_)
        rw [ht] at hB
        refine W.widen (k := (3 + 2 * i)) (n := (71 + 65 * i)) (by omega) (by omega) ?_
        try dsimp only at hw
        try dsimp only at hB
        have hF8 : Fr (fun q => q = q_2 ∨ H_3.size ≤ q) H_3 H_4 := hk
        obtain ⟨w, hw1, hNw⟩ := hB
        have hww := va_at.lt hNw.2
        have hO := hF8.at hO (fun z => by rcases z with z | z <;> omega)
        have hR := hF8.at hR (fun z => by rcases z with z | z <;> omega)
        have hN := fun z hz => hF8.num (hN z hz) (fun h => by have h1 := hL (4 + 2 * z) (by omega); rcases h with h | h <;> omega) (fun h => by have h1 := hL (5 + 2 * z) (by omega); rcases h with h | h <;> omega)
        refine r_nast hx hb hK hS (Or.inr (hge 1 (by omega))) hR hNw.1 (i := i) (by omega) (by decide) dX2_init_33 (fun H_5 locs hat oq hz8 hS => ?_)
        have hF7 := Fr.oq oq
        obtain ⟨b, hbd⟩ : ∃ b : Nat → Nat, b = fun x => if x = 4 + 2 * i then q_2 else if x = 5 + 2 * i then w else a x := ⟨_, rfl⟩
        have e0 : ∀ x, x < 4 + 2 * i → b x = a x := fun x hx => by rw [hbd]; show (if x = 4 + 2 * i then _ else if x = 5 + 2 * i then _ else _) = _; rw [if_neg (by omega), if_neg (by omega)]
        have e4 : b (4 + 2 * i) = q_2 := by rw [hbd]; exact if_pos rfl
        have e5 : b (5 + 2 * i) = w := by rw [hbd]; show (if 5 + 2 * i = 4 + 2 * i then _ else if 5 + 2 * i = 5 + 2 * i then _ else _) = _; rw [if_neg (by omega), if_pos rfl]
        have hO := hF7.at hO (by omega)
        rw [← e0 1 (by omega)] at hO hat
        have hR := at_congR hat (g := (fun j => if j < (i + 1) then some (b (4 + 2 * j)) else none)) (fun j hj => by
          show (if j = i then _ else if j < i then _ else _) = if j < i + 1 then _ else _
          by_cases h : j = i
          · subst h; rw [if_pos rfl, if_pos (by omega), e4]
          · rw [if_neg h]
            by_cases h2 : j < i
            · rw [if_pos h2, if_pos (by omega), e0 _ (by omega)]
            · rw [if_neg h2, if_neg (by omega)])
        have hN : ∀ z, z < i + 1 → Num D T H_5 (b (4 + 2 * z)) (b (5 + 2 * z)) (fun _ => 0) := fun z hz => by
          by_cases h : z = i
          · subst h; rw [e4, e5]; exact hF7.num hNw (by omega) (by omega)
          · rw [e0 _ (by omega), e0 _ (by omega)]; exact hF7.num (hN z (by omega)) (fun h9 => by have h1 := hJ _ _ (by omega) (by omega) h9; omega) (fun h9 => by have h1 := hJ _ _ (by omega) (by omega) h9; omega)
        have hJ : injP (Is (i + 1)) b := injP.ext hJ hL (fun x hx => e0 x (by omega)) (Q := fun x => x = 4 + 2 * i ∨ x = 5 + 2 * i) (fun x y hx hy z => by rcases hx with rfl | rfl <;> rcases hy with rfl | rfl <;> first | rfl | (rw [e4, e5] at z; omega) | (rw [e5, e4] at z; omega)) (fun x hx => by rcases hx with rfl | rfl; rw [e4]; omega; rw [e5]; omega) (fun x hx => by unfold Is at *; omega)
        have hge : ∀ x, x = 1 ∨ (4 ≤ x ∧ x < 4 + 2 * (i + 1)) → sz ≤ b x := fun x hx => by
          by_cases h : x < 4 + 2 * i
          · rw [e0 x h]; exact hge x (by omega)
          · rcases (show x = 4 + 2 * i ∨ x = 5 + 2 * i by omega) with rfl | rfl
            · rw [e4]; omega
            · rw [e5]; omega
        have hL : ∀ x, Is (i + 1) x → b x < H_5.size := fun x hx => by
          by_cases h : x < 4 + 2 * i
          · rw [e0 x h]; have h1 := hL x (by omega); omega
          · rcases (show x = 4 + 2 * i ∨ x = 5 + 2 * i by omega) with rfl | rfl
            · rw [e4]; omega
            · rw [e5]; omega
        refine lv_iinc (v := (nI (i + 1))) (lv' := [(1, .int (nI (i + 1))), (0, .ref o)]) hx hb dX2_init_34 hl (k := 1) rfl (iinc_n i 1) (by decide) rfl (fun ls hl => ?_)
        refine lv_goto (tgt := 15) hx hb dX2_init_37 (by decide) ?_
        refine W.widen (k := (1 + 2 * (i + 1))) (n := (6 + 65 * (i + 1))) (by omega) (by omega) ?_
        have hl := lv_sub hl (l' := [(0, .ref o), (1, .int (nI (i + 1)))]) [1, 0] rfl
        exact ih15 (i + 1) b (by omega) ((e0 0 (by omega)).trans ha0) (hJ) (hge) H_5 _ hO hR hN hL hS ls hl (by omega)
  have hqo : q_1 ≠ o := by omega
  have hL : ∀ x, Is 0 x → (fun x => if x = 0 then o else q_1) x < H_2.size := fun x hx => by show (if x = 0 then o else q_1) < _; split <;> omega
  have hN : ∀ z, z < 0 → Num D T H_2 ((fun x => if x = 0 then o else q_1) (4 + 2 * z)) ((fun x => if x = 0 then o else q_1) (5 + 2 * z)) (fun _ => 0) := fun z hz => absurd hz (Nat.not_lt_zero _)
  have hR := at_congR hR (g := (fun j => if j < 0 then some ((fun x => if x = 0 then o else q_1) (4 + 2 * j)) else none)) (fun j _ => (if_neg (Nat.not_lt_zero _)).symm)
  refine W.widen (k := (1 + 2 * 0)) (n := (6 + 65 * 0)) (by omega) (by omega) ?_
  have hl := lv_sub hl (l' := [(0, .ref o), (1, .int (nI 0))]) [1, 0] rfl
  exact loop15 (6 - 0 + 1) 0 (fun x => if x = 0 then o else q_1) (Nat.zero_le _) (if_pos rfl) (fun x y hx hy z => by rcases (show x = 0 ∨ x = 1 by omega) with rfl | rfl <;> rcases (show y = 0 ∨ y = 1 by omega) with rfl | rfl <;> first | rfl | exact absurd z hqo | exact absurd z.symm hqo) (fun x hx => by rw [show x = 1 by omega]; show sz ≤ q_1; omega) H_2 _ hO hR hN hL hS ls hl (Nat.lt_succ_self _)
