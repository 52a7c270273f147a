set_option maxHeartbeats 4000000 in
set_option maxRecDepth 100000 in
theorem k_X3_nthEdge (l : Launch) (D : va_G) (T : Nat → ClassId) (A : Nat → Nat) (k : Nat) (rb : Nat → Nat) (bl : Nat) (sc : Nat → Int64) (W0 : Nat → Nat → Nat → Int64) (me : Nat → Nat → Int32) (co : Nat → Nat → Int32) (sN : Nat) (y : Int32) (x : Int32) (hsN : sN < 6) (hy : -4095 ≤ y.toInt ∧ y.toInt ≤ 4095) : Met l yX3_nthEdge wsX3_nthEdge ({ frames := 2, cells := 0, slots := 0, locals := 50 }) (va_Pc [.ref (A 0), .ref (slA A 0 (4 + 2 * sN)), .int y, .int x] (fun U => KS D T U ∧ PSr D T U.heap A k rb bl sc W0 me co)) (va_Qi (fun (r : Int32) (u : Nat → Int64) => r = (nthA (fun z => jb 3 (bitL (W0 0 sN) z) (mvb (bitL (W0 0 sN)) y.toInt z)) x)) (fun u t => PSr D T t.heap A k rb bl u W0 me co) (fun q => q = A 5)) 0 0 (fun q => q = A 5) := by
  refine Met.ofW (cc := cX3_nthEdge) (maxL := 4) (ret := (some .int)) (by decide) rfl ?_
  intro pg ev s m args below meth c s₁ B hml hv
  obtain ⟨rfl, hK, hH⟩ := hv
  have hx := B.exec
  have hb := B.bytes
  have hr := B.returns
  have hts := atoms_spec (ws := wsX3_nthEdge) B.pre
  have hown : s.vm.findClass RX3 = some m.cls := findClass_of_methodNamed B.named
  have hlocks := B.notSynchronized
  have in_wsX30 : ∀ w ∈ wsX30, w ∈ wsX3_nthEdge := fun w h => List.mem_cons_of_mem _ (List.mem_append_left _ (List.mem_append_right _ h))
  have in_wsX10 : ∀ w ∈ wsX10, w ∈ wsX3_nthEdge := fun w h => List.mem_cons_of_mem _ (List.mem_append_right _ h)
  have hS : va_S (fun q => q = A 5) s.heap s.heap [] := va_S.rf
  have hl := lv_entry ([.ref (A 0), .ref (slA A 0 (4 + 2 * sN)), .int y, .int x]) (n := 4) (Nat.le_of_ble_eq_true rfl)
  rw [lg_entry_eq]
  generalize (lg_sl ([.ref (A 0), .ref (slA A 0 (4 + 2 * sN)), .int y, .int x]) ++ List.replicate (4 - (lg_sl ([.ref (A 0), .ref (slA A 0 (4 + 2 * sN)), .int y, .int x])).length) Slot.unset).toArray = ls at hl ⊢
  have hl : lv_has ls 4 [(0, .ref (A 0)), (1, .ref (slA A 0 (4 + 2 * sN))), (2, .int y), (3, .int x)] := hl
  refine W_gen (fun Q hQ => ?_)
  have hP := hH
  refine lv_aload_n hx hb dX3_nthEdge_0 rfl (lv_at hl 0 rfl) ?_
  refine r_get (C := RX3) (Tb := TX3) (N := 5) hx hb hts in_wsX30 hown hK (hP.2.1) rfl 4 (by decide) (hts (.fieldLink RX3 34 "PieceSets" "scratch" "LPieceSets$Numbers;") (by decide +kernel)) rfl (v := .ref (A 4)) rfl dX3_nthEdge_1 ?_
  refine lv_aload_n hx hb dX3_nthEdge_4 rfl (lv_at hl 1 rfl) ?_
  refine lv_iload_n hx hb dX3_nthEdge_5 rfl (lv_at hl 2 rfl) ?_
  refine va_callv (va_runVN (As := [.ref (slA A 0 (4 + 2 * sN)), .int y]) (rest := []) ⟨hx, hb, hml, hown, hts⟩ (k_X1_becomeMoved l D T (A 4) (A 5) sc (slA A 0 (4 + 2 * sN)) (slA A 0 (5 + 2 * sN)) (W0 0 sN) y ((slA_lo hP.1 (by decide) (by omega) (by decide)).symm)) (⟨va_cnB 2 hts ggX3_nthEdge_X1_becomeMoved rfl rfl rfl (hK.2.m (args := ([.ref (A 0), .ref (slA A 0 (4 + 2 * sN)), .int y, .int x] : List Value).toArray) 21 rfl) (hts (.initialized RX1) (by decide +kernel)) (by decide +kernel) ⟨Nat.le_of_ble_eq_true rfl, Nat.le_of_ble_eq_true rfl⟩, hts (.instanceMethod yX1_becomeMoved) (by decide +kernel), hts (.selects RX1 yX1_becomeMoved yX1_becomeMoved) (by decide +kernel)⟩) (pre_V (Φ := fun X => Num D T X (A 4) (A 5) sc ∧ Num D T X (slA A 0 (4 + 2 * sN)) (slA A 0 (5 + 2 * sN)) (W0 0 sN)) hK (hP.2.2.2.2.1.1) rfl ⟨hP.2.2.2.2.1, ((hP.2.2.2.2.2 0 (by decide)).2.2.2.2 sN hsN)⟩) rfl rfl hl.1 rfl (lv_room (Nat.le_of_ble_eq_true rfl)) dX3_nthEdge_6 ⟨Nat.le_of_ble_eq_true rfl, Nat.le_of_ble_eq_true rfl⟩) hS (fun q _ h => h) (fun q h => h) (fun u_1 t H_1 locs ht hvm hw hB hz hk hS => ?_)
  rw [ht] at hB
  try dsimp only at hw
  try dsimp only at hB
  have hF9 : Fr _ _ _ := hk
  have hP := hP.setN hB hF9
  refine lv_aload_n hx hb dX3_nthEdge_9 rfl (lv_at hl 0 rfl) ?_
  refine r_get (C := RX3) (Tb := TX3) (N := 5) hx hb hts in_wsX30 hown hK (hP.2.1) rfl 4 (by decide) (hts (.fieldLink RX3 34 "PieceSets" "scratch" "LPieceSets$Numbers;") (by decide +kernel)) rfl (v := .ref (A 4)) rfl dX3_nthEdge_10 ?_
  refine lv_iconst (v := (nI 3)) hx hb dX3_nthEdge_13 (by decide) ?_
  refine lv_aload_n hx hb dX3_nthEdge_14 rfl (lv_at hl 1 rfl) ?_
  refine lv_aload_n hx hb dX3_nthEdge_15 rfl (lv_at hl 0 rfl) ?_
  refine r_get (C := RX3) (Tb := TX3) (N := 5) hx hb hts in_wsX30 hown hK (hP.2.1) rfl 4 (by decide) (hts (.fieldLink RX3 34 "PieceSets" "scratch" "LPieceSets$Numbers;") (by decide +kernel)) rfl (v := .ref (A 4)) rfl dX3_nthEdge_16 ?_
  refine va_callv (va_runVN (As := [.int (nI 3), .ref (slA A 0 (4 + 2 * sN)), .ref (A 4)]) (rest := []) ⟨hx, hb, hml, hown, hts⟩ (k_X1_becomeJoin_b l D T 3 (A 4) (A 5) (mvw (W0 0 sN) y) (slA A 0 (4 + 2 * sN)) (slA A 0 (5 + 2 * sN)) (W0 0 sN) (by omega) ((slA_lo hP.1 (by decide) (by omega) (by decide)).symm)) (⟨va_cnB 3 hts ggX3_nthEdge_X1_becomeJoin rfl rfl rfl (hK.2.m (args := ([.ref (A 0), .ref (slA A 0 (4 + 2 * sN)), .int y, .int x] : List Value).toArray) 31 rfl) (hts (.initialized RX1) (by decide +kernel)) (by decide +kernel) ⟨Nat.le_of_ble_eq_true rfl, Nat.le_of_ble_eq_true rfl⟩, hts (.instanceMethod yX1_becomeJoin) (by decide +kernel), hts (.selects RX1 yX1_becomeJoin yX1_becomeJoin) (by decide +kernel)⟩) (pre_V (Φ := fun X => Num D T X (A 4) (A 5) (mvw (W0 0 sN) y) ∧ Num D T X (slA A 0 (4 + 2 * sN)) (slA A 0 (5 + 2 * sN)) (W0 0 sN)) hK (hP.2.2.2.2.1.1) rfl ⟨hP.2.2.2.2.1, ((hP.2.2.2.2.2 0 (by decide)).2.2.2.2 sN hsN)⟩) rfl rfl hl.1 rfl (lv_room (Nat.le_of_ble_eq_true rfl)) dX3_nthEdge_19 ⟨Nat.le_of_ble_eq_true rfl, Nat.le_of_ble_eq_true rfl⟩) hS (fun q _ h => h) (fun q h => h) (fun u_2 t H_2 locs ht hvm hw hB hz hk hS => ?_)
  rw [ht] at hB
  try dsimp only at hw
  try dsimp only at hB
  have hF9 : Fr _ _ _ := hk
  have hP := hP.setN hB hF9
  refine lv_aload_n hx hb dX3_nthEdge_22 rfl (lv_at hl 0 rfl) ?_
  refine r_get (C := RX3) (Tb := TX3) (N := 5) hx hb hts in_wsX30 hown hK (hP.2.1) rfl 4 (by decide) (hts (.fieldLink RX3 34 "PieceSets" "scratch" "LPieceSets$Numbers;") (by decide +kernel)) rfl (v := .ref (A 4)) rfl dX3_nthEdge_23 ?_
  refine lv_iload_n hx hb dX3_nthEdge_26 rfl (lv_at hl 3 rfl) ?_
  refine vp_callSi (va_Run.run (va_runVN (As := [.int x]) (rest := []) ⟨hx, hb, hml, hown, hts⟩ (k_X1_nth l D T (A 4) (A 5) (fun j => jn 3 (W0 0 sN j) (mvw (W0 0 sN) y j)) x ) (⟨va_cnB 1 hts ggX3_nthEdge_X1_nth rfl rfl rfl (hK.2.m (args := ([.ref (A 0), .ref (slA A 0 (4 + 2 * sN)), .int y, .int x] : List Value).toArray) 36 rfl) (hts (.initialized RX1) (by decide +kernel)) (by decide +kernel) ⟨Nat.le_of_ble_eq_true rfl, Nat.le_of_ble_eq_true rfl⟩, hts (.instanceMethod yX1_nth) (by decide +kernel), hts (.selects RX1 yX1_nth yX1_nth) (by decide +kernel)⟩) (pre_V (Φ := fun X => Num D T X (A 4) (A 5) (fun j => jn 3 (W0 0 sN j) (mvw (W0 0 sN) y j))) hK (hP.2.2.2.2.1.1) rfl hP.2.2.2.2.1) rfl rfl hl.1 rfl (lv_room (Nat.le_of_ble_eq_true rfl)) dX3_nthEdge_27 ⟨Nat.le_of_ble_eq_true rfl, Nat.le_of_ble_eq_true rfl⟩)) (fun r_3 hr_3 => ?_)
  subst hr_3
  subst hQ
  exact W.iret (v := (nthA (bitL (fun j => jn 3 (W0 0 sN j) (mvw (W0 0 sN) y j))) x)) hx hb hr (fun t ht hW => ⟨⟨(nthA (bitL (fun j => jn 3 (W0 0 sN j) (mvw (W0 0 sN) y j))) x), _, rfl, nthA_cong (fun z hz => (bit_jn 3 _ _ z hz).trans (congrArg (jb 3 _) (mvw_bit _ hy z hz))) x, by have h9 := hP; rw [← ht] at h9; exact h9⟩, hS.F ht⟩) hS.2.2 dX3_nthEdge_30
set_option maxHeartbeats 4000000 in
set_option maxRecDepth 100000 in
theorem k_X3_countJoin (l : Launch) (D : va_G) (T : Nat → ClassId) (A : Nat → Nat) (k : Nat) (rb : Nat → Nat) (bl : Nat) (sc : Nat → Int64) (W0 : Nat → Nat → Nat → Int64) (me : Nat → Nat → Int32) (co : Nat → Nat → Int32) (o : Nat) (sN : Nat) (tN : Nat) (ho : o ≤ 3) (hsN : sN < 6) (htN : tN < 6) : Met l yX3_countJoin wsX3_countJoin ({ frames := 3, cells := 0, slots := 0, locals := 66 }) (va_Pc [.ref (A 0), .int (nI o), .int (nI sN), .int (nI tN)] (fun U => KS D T U ∧ PSr D T U.heap A k rb bl sc W0 me co)) (va_Qi (fun (r : Int32) (u : Nat → Int64) => r = (nI (jct o (bitL (W0 0 sN)) (bitL (W0 0 tN))))) (fun u t => PSr D T t.heap A k rb bl u W0 me co) (fun q => q = A 5)) 0 0 (fun q => q = A 5) := by
  refine Met.ofW (cc := cX3_countJoin) (maxL := 4) (ret := (some .int)) (by decide) rfl ?_
  intro pg ev s m args below meth c s₁ B hml hv
  obtain ⟨rfl, hK, hH⟩ := hv
  have hx := B.exec
  have hb := B.bytes
  have hr := B.returns
  have hts := atoms_spec (ws := wsX3_countJoin) B.pre
  have hown : s.vm.findClass RX3 = some m.cls := findClass_of_methodNamed B.named
  have hlocks := B.notSynchronized
  have in_wsX30 : ∀ w ∈ wsX30, w ∈ wsX3_countJoin := fun w h => List.mem_cons_of_mem _ (List.mem_append_left _ (List.mem_append_left _ (List.mem_append_right _ h)))
  have in_wsX20 : ∀ w ∈ wsX20, w ∈ wsX3_countJoin := fun w h => List.mem_cons_of_mem _ (List.mem_append_left _ (List.mem_append_right _ h))
  have in_wsX10 : ∀ w ∈ wsX10, w ∈ wsX3_countJoin := fun w h => List.mem_cons_of_mem _ (List.mem_append_right _ h)
  have hS : va_S (fun q => q = A 5) s.heap s.heap [] := va_S.rf
  have hl := lv_entry ([.ref (A 0), .int (nI o), .int (nI sN), .int (nI tN)]) (n := 4) (Nat.le_of_ble_eq_true rfl)
  rw [lg_entry_eq]
  generalize (lg_sl ([.ref (A 0), .int (nI o), .int (nI sN), .int (nI tN)]) ++ List.replicate (4 - (lg_sl ([.ref (A 0), .int (nI o), .int (nI sN), .int (nI tN)])).length) Slot.unset).toArray = ls at hl ⊢
  have hl : lv_has ls 4 [(0, .ref (A 0)), (1, .int (nI o)), (2, .int (nI sN)), (3, .int (nI tN))] := hl
  refine W_gen (fun Q hQ => ?_)
  have hP := hH
  refine lv_aload_n hx hb dX3_countJoin_0 rfl (lv_at hl 0 rfl) ?_
  refine r_get (C := RX3) (Tb := TX3) (N := 5) hx hb hts in_wsX30 hown hK (hP.2.1) rfl 4 (by decide) (hts (.fieldLink RX3 34 "PieceSets" "scratch" "LPieceSets$Numbers;") (by decide +kernel)) rfl (v := .ref (A 4)) rfl dX3_countJoin_1 ?_
  refine lv_iload_n hx hb dX3_countJoin_4 rfl (lv_at hl 1 rfl) ?_
  refine lv_aload_n hx hb dX3_countJoin_5 rfl (lv_at hl 0 rfl) ?_
  refine r_get (C := RX3) (Tb := TX3) (N := 5) hx hb hts in_wsX30 hown hK (hP.2.1) rfl 0 (by decide) (hts (.fieldLink RX3 10 "PieceSets" "now" "LPieceSets$State;") (by decide +kernel)) rfl (v := .ref (slA A 0 0)) rfl dX3_countJoin_6 ?_
  refine r_getN (C := RX2) (Tb := TX2) (N := 3) (host := "PieceSets") hx hb hts in_wsX20 hown hK ((hP.2.2.2.2.2 0 (by omega)).1) rfl 0 (by decide) (hK.2.f (args := ([.ref (A 0), .int (nI o), .int (nI sN), .int (nI tN)] : List Value).toArray) 3 rfl) rfl (v := .ref (slA A 0 1)) rfl dX3_countJoin_9 ?_
  refine lv_iload_n hx hb dX3_countJoin_12 rfl (lv_at hl 2 rfl) ?_
  refine r_nald hx hb hK ((hP.2.2.2.2.2 0 (by omega)).2.1) (i := sN) (by omega) (by decide) (q := (slA A 0 (4 + 2 * sN))) (rfl) dX3_countJoin_13 ?_
  refine lv_aload_n hx hb dX3_countJoin_14 rfl (lv_at hl 0 rfl) ?_
  refine r_get (C := RX3) (Tb := TX3) (N := 5) hx hb hts in_wsX30 hown hK (hP.2.1) rfl 0 (by decide) (hts (.fieldLink RX3 10 "PieceSets" "now" "LPieceSets$State;") (by decide +kernel)) rfl (v := .ref (slA A 0 0)) rfl dX3_countJoin_15 ?_
  refine r_getN (C := RX2) (Tb := TX2) (N := 3) (host := "PieceSets") hx hb hts in_wsX20 hown hK ((hP.2.2.2.2.2 0 (by omega)).1) rfl 0 (by decide) (hK.2.f (args := ([.ref (A 0), .int (nI o), .int (nI sN), .int (nI tN)] : List Value).toArray) 3 rfl) rfl (v := .ref (slA A 0 1)) rfl dX3_countJoin_18 ?_
  refine lv_iload_n hx hb dX3_countJoin_21 rfl (lv_at hl 3 rfl) ?_
  refine r_nald hx hb hK ((hP.2.2.2.2.2 0 (by omega)).2.1) (i := tN) (by omega) (by decide) (q := (slA A 0 (4 + 2 * tN))) (rfl) dX3_countJoin_22 ?_
  refine va_callv (va_runVN (As := [.int (nI o), .ref (slA A 0 (4 + 2 * sN)), .ref (slA A 0 (4 + 2 * tN))]) (rest := []) ⟨hx, hb, hml, hown, hts⟩ (k_X1_becomeJoin l D T o (A 4) (A 5) sc (slA A 0 (4 + 2 * sN)) (slA A 0 (5 + 2 * sN)) (W0 0 sN) (slA A 0 (4 + 2 * tN)) (slA A 0 (5 + 2 * tN)) (W0 0 tN) (by omega) ((slA_lo hP.1 (by decide) (by omega) (by decide)).symm) ((slA_lo hP.1 (by decide) (by omega) (by decide)).symm)) (⟨va_cnB 3 hts ggX3_countJoin_X1_becomeJoin rfl rfl rfl (hK.2.m (args := ([.ref (A 0), .int (nI o), .int (nI sN), .int (nI tN)] : List Value).toArray) 31 rfl) (hts (.initialized RX1) (by decide +kernel)) (by decide +kernel) ⟨Nat.le_of_ble_eq_true rfl, Nat.le_of_ble_eq_true rfl⟩, hts (.instanceMethod yX1_becomeJoin) (by decide +kernel), hts (.selects RX1 yX1_becomeJoin yX1_becomeJoin) (by decide +kernel)⟩) (pre_V (Φ := fun X => Num D T X (A 4) (A 5) sc ∧ Num D T X (slA A 0 (4 + 2 * sN)) (slA A 0 (5 + 2 * sN)) (W0 0 sN) ∧ Num D T X (slA A 0 (4 + 2 * tN)) (slA A 0 (5 + 2 * tN)) (W0 0 tN)) hK (hP.2.2.2.2.1.1) rfl ⟨hP.2.2.2.2.1, ((hP.2.2.2.2.2 0 (by decide)).2.2.2.2 sN hsN), ((hP.2.2.2.2.2 0 (by decide)).2.2.2.2 tN htN)⟩) rfl rfl hl.1 rfl (lv_room (Nat.le_of_ble_eq_true rfl)) dX3_countJoin_23 ⟨Nat.le_of_ble_eq_true rfl, Nat.le_of_ble_eq_true rfl⟩) hS (fun q _ h => h) (fun q h => h) (fun u_1 t H_1 locs ht hvm hw hB hz hk hS => ?_)
  rw [ht] at hB
  try dsimp only at hw
  try dsimp only at hB
  have hF9 : Fr _ _ _ := hk
  have hP := hP.setN hB hF9
  refine lv_aload_n hx hb dX3_countJoin_26 rfl (lv_at hl 0 rfl) ?_
  refine r_get (C := RX3) (Tb := TX3) (N := 5) hx hb hts in_wsX30 hown hK (hP.2.1) rfl 4 (by decide) (hts (.fieldLink RX3 34 "PieceSets" "scratch" "LPieceSets$Numbers;") (by decide +kernel)) rfl (v := .ref (A 4)) rfl dX3_countJoin_27 ?_
  refine vp_callSi (va_Run.run (va_runVN (As := []) (rest := []) ⟨hx, hb, hml, hown, hts⟩ (k_X1_count l D T (A 4) (A 5) (fun j => jn o (W0 0 sN j) (W0 0 tN j)) ) (⟨va_cnB 0 hts ggX3_countJoin_X1_count rfl rfl rfl (hK.2.m (args := ([.ref (A 0), .int (nI o), .int (nI sN), .int (nI tN)] : List Value).toArray) 15 rfl) (hts (.initialized RX1) (by decide +kernel)) (by decide +kernel) ⟨Nat.le_of_ble_eq_true rfl, Nat.le_of_ble_eq_true rfl⟩, hts (.instanceMethod yX1_count) (by decide +kernel), hts (.selects RX1 yX1_count yX1_count) (by decide +kernel)⟩) (pre_V (Φ := fun X => Num D T X (A 4) (A 5) (fun j => jn o (W0 0 sN j) (W0 0 tN j))) hK (hP.2.2.2.2.1.1) rfl hP.2.2.2.2.1) rfl rfl hl.1 rfl (lv_room (Nat.le_of_ble_eq_true rfl)) dX3_countJoin_30 ⟨Nat.le_of_ble_eq_true rfl, Nat.le_of_ble_eq_true rfl⟩)) (fun r_2 hr_2 => ?_)
  subst hr_2
  subst hQ
  exact W.iret (v := (nI (ct (bitL (fun j => jn o (W0 0 sN j) (W0 0 tN j))) 0 4096))) hx hb hr (fun t ht hW => ⟨⟨(nI (ct (bitL (fun j => jn o (W0 0 sN j) (W0 0 tN j))) 0 4096)), _, rfl, congrArg nI (ct_cong (fun z _ hz => bit_jn o _ _ z (by omega))), by have h9 := hP; rw [← ht] at h9; exact h9⟩, hS.F ht⟩) hS.2.2 dX3_countJoin_33
set_option maxHeartbeats 4000000 in
set_option maxRecDepth 100000 in
theorem k_X3_countSamePieces (l : Launch) (D : va_G) (T : Nat → ClassId) (A : Nat → Nat) (k : Nat) (rb : Nat → Nat) (bl : Nat) (sc : Nat → Int64) (W0 : Nat → Nat → Nat → Int64) (me : Nat → Nat → Int32) (co : Nat → Nat → Int32) (sN : Nat) (tN : Nat) (hsN : sN < 6) (htN : tN < 6) : Met l yX3_countSamePieces wsX3_countSamePieces ({ frames := 2, cells := 0, slots := 0, locals := 48 }) (va_Pc [.ref (A 0), .int (nI sN), .int (nI tN)] (fun U => KS D T U ∧ PSr D T U.heap A k rb bl sc W0 me co)) (va_Qi (fun (r : Int32) (u : Nat → Int64) => r = (nI (smP (bitL (W0 0 sN)) (bitL (W0 0 tN))))) (fun u t => PSr D T t.heap A k rb bl u W0 me co) (fun q => q = A 5)) 0 0 (fun q => q = A 5) := by
  refine Met.ofW (cc := cX3_countSamePieces) (maxL := 5) (ret := (some .int)) (by decide) rfl ?_
  intro pg ev s m args below meth c s₁ B hml hv
  obtain ⟨rfl, hK, hH⟩ := hv
  have hx := B.exec
  have hb := B.bytes
  have hr := B.returns
  have hts := atoms_spec (ws := wsX3_countSamePieces) B.pre
  have hown : s.vm.findClass RX3 = some m.cls := findClass_of_methodNamed B.named
  have hlocks := B.notSynchronized
  have in_wsX30 : ∀ w ∈ wsX30, w ∈ wsX3_countSamePieces := fun w h => List.mem_cons_of_mem _ (List.mem_append_left _ (List.mem_append_left _ (List.mem_append_right _ h)))
  have in_wsX20 : ∀ w ∈ wsX20, w ∈ wsX3_countSamePieces := fun w h => List.mem_cons_of_mem _ (List.mem_append_left _ (List.mem_append_right _ h))
  have in_wsX10 : ∀ w ∈ wsX10, w ∈ wsX3_countSamePieces := fun w h => List.mem_cons_of_mem _ (List.mem_append_right _ h)
  have hS : va_S (fun q => q = A 5) s.heap s.heap [] := va_S.rf
  have hl := lv_entry ([.ref (A 0), .int (nI sN), .int (nI tN)]) (n := 5) (Nat.le_of_ble_eq_true rfl)
  rw [lg_entry_eq]
  generalize (lg_sl ([.ref (A 0), .int (nI sN), .int (nI tN)]) ++ List.replicate (5 - (lg_sl ([.ref (A 0), .int (nI sN), .int (nI tN)])).length) Slot.unset).toArray = ls at hl ⊢
  have hl : lv_has ls 5 [(0, .ref (A 0)), (1, .int (nI sN)), (2, .int (nI tN))] := hl
  refine W_gen (fun Q hQ => ?_)
  have hP := hH
  refine lv_aload_n hx hb dX3_countSamePieces_0 rfl (lv_at hl 0 rfl) ?_
  refine r_get (C := RX3) (Tb := TX3) (N := 5) hx hb hts in_wsX30 hown hK (hP.2.1) rfl 4 (by decide) (hts (.fieldLink RX3 34 "PieceSets" "scratch" "LPieceSets$Numbers;") (by decide +kernel)) rfl (v := .ref (A 4)) rfl dX3_countSamePieces_1 ?_
  refine lv_iconst (v := (nI 2)) hx hb dX3_countSamePieces_4 (by decide) ?_
  refine lv_aload_n hx hb dX3_countSamePieces_5 rfl (lv_at hl 0 rfl) ?_
  refine r_get (C := RX3) (Tb := TX3) (N := 5) hx hb hts in_wsX30 hown hK (hP.2.1) rfl 0 (by decide) (hts (.fieldLink RX3 10 "PieceSets" "now" "LPieceSets$State;") (by decide +kernel)) rfl (v := .ref (slA A 0 0)) rfl dX3_countSamePieces_6 ?_
  refine r_getN (C := RX2) (Tb := TX2) (N := 3) (host := "PieceSets") hx hb hts in_wsX20 hown hK ((hP.2.2.2.2.2 0 (by omega)).1) rfl 0 (by decide) (hK.2.f (args := ([.ref (A 0), .int (nI sN), .int (nI tN)] : List Value).toArray) 3 rfl) rfl (v := .ref (slA A 0 1)) rfl dX3_countSamePieces_9 ?_
  refine lv_iload_n hx hb dX3_countSamePieces_12 rfl (lv_at hl 1 rfl) ?_
  refine r_nald hx hb hK ((hP.2.2.2.2.2 0 (by omega)).2.1) (i := sN) (by omega) (by decide) (q := (slA A 0 (4 + 2 * sN))) (rfl) dX3_countSamePieces_13 ?_
  refine lv_aload_n hx hb dX3_countSamePieces_14 rfl (lv_at hl 0 rfl) ?_
  refine r_get (C := RX3) (Tb := TX3) (N := 5) hx hb hts in_wsX30 hown hK (hP.2.1) rfl 0 (by decide) (hts (.fieldLink RX3 10 "PieceSets" "now" "LPieceSets$State;") (by decide +kernel)) rfl (v := .ref (slA A 0 0)) rfl dX3_countSamePieces_15 ?_
  refine r_getN (C := RX2) (Tb := TX2) (N := 3) (host := "PieceSets") hx hb hts in_wsX20 hown hK ((hP.2.2.2.2.2 0 (by omega)).1) rfl 0 (by decide) (hK.2.f (args := ([.ref (A 0), .int (nI sN), .int (nI tN)] : List Value).toArray) 3 rfl) rfl (v := .ref (slA A 0 1)) rfl dX3_countSamePieces_18 ?_
  refine lv_iload_n hx hb dX3_countSamePieces_21 rfl (lv_at hl 2 rfl) ?_
  refine r_nald hx hb hK ((hP.2.2.2.2.2 0 (by omega)).2.1) (i := tN) (by omega) (by decide) (q := (slA A 0 (4 + 2 * tN))) (rfl) dX3_countSamePieces_22 ?_
  refine va_callv (va_runVN (As := [.int (nI 2), .ref (slA A 0 (4 + 2 * sN)), .ref (slA A 0 (4 + 2 * tN))]) (rest := []) ⟨hx, hb, hml, hown, hts⟩ (k_X1_becomeJoin l D T 2 (A 4) (A 5) sc (slA A 0 (4 + 2 * sN)) (slA A 0 (5 + 2 * sN)) (W0 0 sN) (slA A 0 (4 + 2 * tN)) (slA A 0 (5 + 2 * tN)) (W0 0 tN) (by omega) ((slA_lo hP.1 (by decide) (by omega) (by decide)).symm) ((slA_lo hP.1 (by decide) (by omega) (by decide)).symm)) (⟨va_cnB 3 hts ggX3_countSamePieces_X1_becomeJoin rfl rfl rfl (hK.2.m (args := ([.ref (A 0), .int (nI sN), .int (nI tN)] : List Value).toArray) 31 rfl) (hts (.initialized RX1) (by decide +kernel)) (by decide +kernel) ⟨Nat.le_of_ble_eq_true rfl, Nat.le_of_ble_eq_true rfl⟩, hts (.instanceMethod yX1_becomeJoin) (by decide +kernel), hts (.selects RX1 yX1_becomeJoin yX1_becomeJoin) (by decide +kernel)⟩) (pre_V (Φ := fun X => Num D T X (A 4) (A 5) sc ∧ Num D T X (slA A 0 (4 + 2 * sN)) (slA A 0 (5 + 2 * sN)) (W0 0 sN) ∧ Num D T X (slA A 0 (4 + 2 * tN)) (slA A 0 (5 + 2 * tN)) (W0 0 tN)) hK (hP.2.2.2.2.1.1) rfl ⟨hP.2.2.2.2.1, ((hP.2.2.2.2.2 0 (by decide)).2.2.2.2 sN hsN), ((hP.2.2.2.2.2 0 (by decide)).2.2.2.2 tN htN)⟩) rfl rfl hl.1 rfl (lv_room (Nat.le_of_ble_eq_true rfl)) dX3_countSamePieces_23 ⟨Nat.le_of_ble_eq_true rfl, Nat.le_of_ble_eq_true rfl⟩) hS (fun q _ h => h) (fun q h => h) (fun u_1 t H_1 locs ht hvm hw hB hz hk hS => ?_)
  rw [ht] at hB
  try dsimp only at hw
  try dsimp only at hB
  have hF9 : Fr _ _ _ := hk
  have hP := hP.setN hB hF9
  refine lv_iconst (v := (nI 0)) hx hb dX3_countSamePieces_26 (by decide) ?_
  refine lv_istore_n (lv' := [(3, .int (nI 0)), (0, .ref (A 0)), (1, .int (nI sN)), (2, .int (nI tN))]) hx hb dX3_countSamePieces_27 rfl hl (by decide) rfl (fun ls hl => ?_)
  refine lv_iconst (v := (nI 0)) hx hb dX3_countSamePieces_28 (by decide) ?_
  refine lv_istore (lv' := [(4, .int (nI 0)), (3, .int (nI 0)), (0, .ref (A 0)), (1, .int (nI sN)), (2, .int (nI tN))]) hx hb dX3_countSamePieces_29 hl (by decide) rfl (fun ls hl => ?_)
  have loop31 : ∀ (n31 : Nat) (i : Nat) (hi : i ≤ 16) (ls : Array Slot) (hl : lv_has ls 5 [(0, .ref (A 0)), (3, .int (nI (fb_ct (fun k => decide (ct (bitL (fun j => jn 2 (W0 0 sN j) (W0 0 tN j))) (256 * k) 256 = 0)) i))), (4, .int (nI i))]) (hn31 : 16 - i < n31), W pg l ev (headSpec wsX3_countSamePieces ({ frames := 2, cells := 0, slots := 0, locals := 48 })).room s m ([.ref (A 0), .int (nI sN), .int (nI tN)] : List Value).toArray below meth c H_1 locs 0 0 Q (F0 m 31 ls []) := by
    intro n31
    induction n31 with
    | zero =>
      intro i hi ls hl hn31
      exact absurd hn31 (Nat.not_lt_zero _)
    | succ n31 ih31 =>
      intro i hi ls hl hn31
      have hc9 := ct_le (bitL (fun j => jn 2 (W0 0 sN j) (W0 0 tN j))) (256 * i) 256
      refine lv_iload hx hb dX3_countSamePieces_31 (lv_at hl 2 rfl) ?_
      refine lv_bipush (v := (nI 16)) hx hb dX3_countSamePieces_33 (by decide) ?_
      refine lv_icmp_ge (tgt := 59) hx hb dX3_countSamePieces_35 (by decide) (fun c_1 => ?_) (fun c_1 => ?_)
      · skip
        have c_1 : 16 ≤ i := (nI_leI (a := 16) (b := i) (by omega) (by omega)).mp c_1
        refine lv_iload_n hx hb dX3_countSamePieces_59 rfl (lv_at hl 1 rfl) ?_
        subst hQ
        exact W.iret (v := (nI (fb_ct (fun k => decide (ct (bitL (fun j => jn 2 (W0 0 sN j) (W0 0 tN j))) (256 * k) 256 = 0)) i))) hx hb hr (fun t ht hW => ⟨⟨(nI (fb_ct (fun k => decide (ct (bitL (fun j => jn 2 (W0 0 sN j) (W0 0 tN j))) (256 * k) 256 = 0)) i)), _, rfl, (by rw [show i = 16 by omega]; exact congrArg nI (fb_ct_cong (fun k hk => by rw [ct_cong (fun z _ hz => bit_jn 2 _ _ z (by omega))]))), by have h9 := hP; rw [← ht] at h9; exact h9⟩, hS.F ht⟩) hS.2.2 dX3_countSamePieces_60
      · skip
        have c_1 : ¬ (16 ≤ i) := fun z => c_1 ((nI_leI (a := 16) (b := i) (by omega) (by omega)).mpr z)
        refine lv_aload_n hx hb dX3_countSamePieces_38 rfl (lv_at hl 0 rfl) ?_
        refine r_get (C := RX3) (Tb := TX3) (N := 5) hx hb hts in_wsX30 hown hK (hP.2.1) rfl 4 (by decide) (hts (.fieldLink RX3 34 "PieceSets" "scratch" "LPieceSets$Numbers;") (by decide +kernel)) rfl (v := .ref (A 4)) rfl dX3_countSamePieces_39 ?_
        refine lv_iload hx hb dX3_countSamePieces_42 (lv_at hl 2 rfl) ?_
        refine vp_callSi (va_Run.run (va_runVN (As := [.int (nI i)]) (rest := []) ⟨hx, hb, hml, hown, hts⟩ (k_X1_countInPiece l D T (A 4) (A 5) (fun j => jn 2 (W0 0 sN j) (W0 0 tN j)) i (by omega)) (⟨va_cnB 1 hts ggX3_countSamePieces_X1_countInPiece rfl rfl rfl (hK.2.m (args := ([.ref (A 0), .int (nI sN), .int (nI tN)] : List Value).toArray) 32 rfl) (hts (.initialized RX1) (by decide +kernel)) (by decide +kernel) ⟨Nat.le_of_ble_eq_true rfl, Nat.le_of_ble_eq_true rfl⟩, hts (.instanceMethod yX1_countInPiece) (by decide +kernel), hts (.selects RX1 yX1_countInPiece yX1_countInPiece) (by decide +kernel)⟩) (pre_V (Φ := fun X => Num D T X (A 4) (A 5) (fun j => jn 2 (W0 0 sN j) (W0 0 tN j))) hK (hP.2.2.2.2.1.1) rfl hP.2.2.2.2.1) rfl rfl hl.1 rfl (lv_room (Nat.le_of_ble_eq_true rfl)) dX3_countSamePieces_44 ⟨Nat.le_of_ble_eq_true rfl, Nat.le_of_ble_eq_true rfl⟩)) (fun r_2 hr_2 => ?_)
        subst hr_2
        refine lv_if_ne (tgt := 53) hx hb dX3_countSamePieces_47 (by decide) (fun c_2 => ?_) (fun c_2 => ?_)
        · skip
          have c_2 : ¬ ((ct (bitL (fun j => jn 2 (W0 0 sN j) (W0 0 tN j))) (256 * i) 256) = 0) := fun z => c_2 ((nI_e0 (a := (ct (bitL (fun j => jn 2 (W0 0 sN j) (W0 0 tN j))) (256 * i) 256)) (by omega)).mpr z)
          refine lv_iinc (v := (nI (i + 1))) (lv' := [(4, .int (nI (i + 1))), (0, .ref (A 0)), (3, .int (nI (fb_ct (fun k => decide (ct (bitL (fun j => jn 2 (W0 0 sN j) (W0 0 tN j))) (256 * k) 256 = 0)) i)))]) hx hb dX3_countSamePieces_53 hl (k := 2) rfl (iinc_n i 1) (by decide) rfl (fun ls hl => ?_)
          refine lv_goto (tgt := 31) hx hb dX3_countSamePieces_56 (by decide) ?_
          have hl := lv_sub hl (l' := [(0, .ref (A 0)), (3, .int (nI (fb_ct (fun k => decide (ct (bitL (fun j => jn 2 (W0 0 sN j) (W0 0 tN j))) (256 * k) 256 = 0)) i))), (4, .int (nI (i + 1)))]) [1, 2, 0] rfl
          have q_1 : (nI (fb_ct (fun k => decide (ct (bitL (fun j => jn 2 (W0 0 sN j) (W0 0 tN j))) (256 * k) 256 = 0)) i)) = (nI (fb_ct (fun k => decide (ct (bitL (fun j => jn 2 (W0 0 sN j) (W0 0 tN j))) (256 * k) 256 = 0)) (i + 1))) := by first | rw [fb_ct_succ, if_pos (decide_eq_true c_2)] | rw [fb_ct_succ, if_neg (fun z => c_2 (of_decide_eq_true z)), Nat.add_zero]
          have hl : lv_has ls 5 [(0, .ref (A 0)), (3, .int (nI (fb_ct (fun k => decide (ct (bitL (fun j => jn 2 (W0 0 sN j) (W0 0 tN j))) (256 * k) 256 = 0)) (i + 1)))), (4, .int (nI (i + 1)))] := by
            have h := hl
            rw [q_1] at h
            exact h
          exact ih31 (i + 1) (by omega) ls hl (by omega)
        · skip
          have c_2 : (ct (bitL (fun j => jn 2 (W0 0 sN j) (W0 0 tN j))) (256 * i) 256) = 0 := (nI_e0 (a := (ct (bitL (fun j => jn 2 (W0 0 sN j) (W0 0 tN j))) (256 * i) 256)) (by omega)).mp c_2
          refine lv_iinc (v := (nI ((fb_ct (fun k => decide (ct (bitL (fun j => jn 2 (W0 0 sN j) (W0 0 tN j))) (256 * k) 256 = 0)) i) + 1))) (lv' := [(3, .int (nI ((fb_ct (fun k => decide (ct (bitL (fun j => jn 2 (W0 0 sN j) (W0 0 tN j))) (256 * k) 256 = 0)) i) + 1))), (0, .ref (A 0)), (4, .int (nI i))]) hx hb dX3_countSamePieces_50 hl (k := 1) rfl (iinc_n (fb_ct (fun k => decide (ct (bitL (fun j => jn 2 (W0 0 sN j) (W0 0 tN j))) (256 * k) 256 = 0)) i) 1) (by decide) rfl (fun ls hl => ?_)
          refine lv_iinc (v := (nI (i + 1))) (lv' := [(4, .int (nI (i + 1))), (3, .int (nI ((fb_ct (fun k => decide (ct (bitL (fun j => jn 2 (W0 0 sN j) (W0 0 tN j))) (256 * k) 256 = 0)) i) + 1))), (0, .ref (A 0))]) hx hb dX3_countSamePieces_53 hl (k := 2) rfl (iinc_n i 1) (by decide) rfl (fun ls hl => ?_)
          refine lv_goto (tgt := 31) hx hb dX3_countSamePieces_56 (by decide) ?_
          have hl := lv_sub hl (l' := [(0, .ref (A 0)), (3, .int (nI ((fb_ct (fun k => decide (ct (bitL (fun j => jn 2 (W0 0 sN j) (W0 0 tN j))) (256 * k) 256 = 0)) i) + 1))), (4, .int (nI (i + 1)))]) [2, 1, 0] rfl
          have q_1 : (nI ((fb_ct (fun k => decide (ct (bitL (fun j => jn 2 (W0 0 sN j) (W0 0 tN j))) (256 * k) 256 = 0)) i) + 1)) = (nI (fb_ct (fun k => decide (ct (bitL (fun j => jn 2 (W0 0 sN j) (W0 0 tN j))) (256 * k) 256 = 0)) (i + 1))) := by first | rw [fb_ct_succ, if_pos (decide_eq_true c_2)] | rw [fb_ct_succ, if_neg (fun z => c_2 (of_decide_eq_true z)), Nat.add_zero]
          have hl : lv_has ls 5 [(0, .ref (A 0)), (3, .int (nI (fb_ct (fun k => decide (ct (bitL (fun j => jn 2 (W0 0 sN j) (W0 0 tN j))) (256 * k) 256 = 0)) (i + 1)))), (4, .int (nI (i + 1)))] := by
            have h := hl
            rw [q_1] at h
            exact h
          exact ih31 (i + 1) (by omega) ls hl (by omega)
  have hl := lv_sub hl (l' := [(0, .ref (A 0)), (3, .int (nI 0)), (4, .int (nI 0))]) [2, 1, 0] rfl
  have q_1 : (nI 0) = (nI (fb_ct (fun k => decide (ct (bitL (fun j => jn 2 (W0 0 sN j) (W0 0 tN j))) (256 * k) 256 = 0)) 0)) := rfl
  have hl : lv_has ls 5 [(0, .ref (A 0)), (3, .int (nI (fb_ct (fun k => decide (ct (bitL (fun j => jn 2 (W0 0 sN j) (W0 0 tN j))) (256 * k) 256 = 0)) 0))), (4, .int (nI 0))] := by
    have h := hl
    rw [q_1] at h
    exact h
  exact loop31 (16 - 0 + 1) 0 (Nat.zero_le _) ls hl (Nat.lt_succ_self _)
set_option maxHeartbeats 4000000 in
set_option maxRecDepth 100000 in
theorem k_X3_run (l : Launch) (D : va_G) (T : Nat → ClassId) (A : Nat → Nat) (Sx : Nat → Prop) (fi : FS) (ss : Int32) (x : Int32) : Met l yX3_run wsX3_run ({ frames := 3, cells := 0, slots := 0, locals := 73 }) (va_Pc [.ref (A 0), .int ss, .int x] (fun U => KS D T U ∧ PSE D T U.heap A Sx fi)) (va_Qi (fun (r : Int32) (u : Unit) => r = (runR fi ss x)) (fun u t => PSE D T t.heap A Sx fi) (Sx)) 0 0 (Sx) := by
  refine Met.ofW (cc := cX3_run) (maxL := 5) (ret := (some .int)) (by decide) rfl ?_
  intro pg ev s m args below meth c s₁ B hml hv
  obtain ⟨rfl, hK, hH⟩ := hv
  have hx := B.exec
  have hb := B.bytes
  have hr := B.returns
  have hts := atoms_spec (ws := wsX3_run) B.pre
  have hown : s.vm.findClass RX3 = some m.cls := findClass_of_methodNamed B.named
  have hlocks := B.notSynchronized
  have in_wsX30 : ∀ w ∈ wsX30, w ∈ wsX3_run := fun w h => List.mem_cons_of_mem _ (List.mem_append_left _ (List.mem_append_left _ (List.mem_append_right _ h)))
  have in_wsX20 : ∀ w ∈ wsX20, w ∈ wsX3_run := fun w h => List.mem_cons_of_mem _ (List.mem_append_left _ (List.mem_append_right _ h))
  have in_wsX10 : ∀ w ∈ wsX10, w ∈ wsX3_run := fun w h => List.mem_cons_of_mem _ (List.mem_append_right _ h)
  have hS : va_S (Sx) s.heap s.heap [] := va_S.rf
  have hl := lv_entry ([.ref (A 0), .int ss, .int x]) (n := 5) (Nat.le_of_ble_eq_true rfl)
  rw [lg_entry_eq]
  generalize (lg_sl ([.ref (A 0), .int ss, .int x]) ++ List.replicate (5 - (lg_sl ([.ref (A 0), .int ss, .int x])).length) Slot.unset).toArray = ls at hl ⊢
  have hl : lv_has ls 5 [(0, .ref (A 0)), (1, .int ss), (2, .int x)] := hl
  refine W_gen (fun Q hQ => ?_)
  obtain ⟨W0, me, co, sc, hP, hSx, hrb, hbl, hk5, hR0, hRh⟩ := id hH
  refine lv_iload_n hx hb dX3_run_0 rfl (lv_at hl 1 rfl) ?_
  refine vp_callSi (va_Run.run (va_runS (As := [.int ss]) (rest := []) ⟨hx, hb, hml, hown, hts⟩ (k_X3_isSet l D T ss ) (va_cwS 1 hts gX3_run_X3_isSet rfl rfl rfl (by decide +kernel) ⟨Nat.le_of_ble_eq_true rfl, Nat.le_of_ble_eq_true rfl⟩) (pre_S (Φ := fun X => True) hK trivial) rfl rfl hl.1 rfl (lv_room (Nat.le_of_ble_eq_true rfl)) dX3_run_1 ⟨Nat.le_of_ble_eq_true rfl, Nat.le_of_ble_eq_true rfl⟩)) (fun r_1 hr_1 => ?_)
  subst hr_1
  refine lv_if_eq (tgt := 11) hx hb dX3_run_4 (by decide) (fun c_1 => ?_) (fun c_1 => ?_)
  · skip
    have c_1 : (decide (¬ ss < 0 ∧ ss < nI 6)) = false := b2i_0.mp c_1
    have c_1 : ¬ (¬ ss < 0 ∧ ss < nI 6) := of_decide_eq_false c_1
    refine lv_iconst (v := (-1)) hx hb dX3_run_11 (by decide) ?_
    subst hQ
    have hfin : PSE D T s.heap A Sx fi := ⟨W0, me, co, _, hP, hSx, hrb, hbl, hk5, hR0, hRh⟩
    exact W.iret (v := (-1)) hx hb hr (fun t ht hW => ⟨⟨(-1), (), rfl, (by first | exact (if_neg (fun z => c_1 z.1)).symm | exact (if_neg (fun z => c_2 (Int32.not_lt.mp z.2))).symm), by have h9 := hfin; rw [← ht] at h9; exact h9⟩, hS.F ht⟩) hS.2.2 dX3_run_12
  · skip
    have c_1 : (decide (¬ ss < 0 ∧ ss < nI 6)) = true := b2i_n0.mp c_1
    have c_1 : ¬ ss < 0 ∧ ss < nI 6 := of_decide_eq_true c_1
    refine lv_iload_n hx hb dX3_run_7 rfl (lv_at hl 2 rfl) ?_
    refine lv_if_ge (tgt := 13) hx hb dX3_run_8 (by decide) (fun c_2 => ?_) (fun c_2 => ?_)
    · skip
      obtain ⟨sN, hsN, rfl⟩ := okX (N := 6) (by decide) c_1
      refine lv_aload_n hx hb dX3_run_13 rfl (lv_at hl 0 rfl) ?_
      refine lv_aload_n hx hb dX3_run_14 rfl (lv_at hl 0 rfl) ?_
      refine r_get (C := RX3) (Tb := TX3) (N := 5) hx hb hts in_wsX30 hown hK (hP.2.1) rfl 0 (by decide) (hts (.fieldLink RX3 10 "PieceSets" "now" "LPieceSets$State;") (by decide +kernel)) rfl (v := .ref (slA A 0 0)) rfl dX3_run_15 ?_
      refine r_getN (C := RX2) (Tb := TX2) (N := 3) (host := "PieceSets") hx hb hts in_wsX20 hown hK ((hP.2.2.2.2.2 0 (by omega)).1) rfl 0 (by decide) (hK.2.f (args := ([.ref (A 0), .int (nI sN), .int x] : List Value).toArray) 3 rfl) rfl (v := .ref (slA A 0 1)) rfl dX3_run_18 ?_
      refine lv_iload_n hx hb dX3_run_21 rfl (lv_at hl 1 rfl) ?_
      refine r_nald hx hb hK ((hP.2.2.2.2.2 0 (by omega)).2.1) (i := sN) (by omega) (by decide) (q := (slA A 0 (4 + 2 * sN))) (rfl) dX3_run_22 ?_
      refine lv_iconst (v := (nI 1)) hx hb dX3_run_23 (by decide) ?_
      refine lv_iload_n hx hb dX3_run_24 rfl (lv_at hl 2 rfl) ?_
      refine va_calli (va_runV (As := [.ref (slA A 0 (4 + 2 * sN)), .int (nI 1), .int x]) (rest := []) ⟨hx, hb, hml, hown, hts⟩ (k_X3_nthEdge l D T A fi.2.2.1 fi.2.2.2.1 fi.2.2.2.2 sc W0 me co sN (nI 1) x (hsN) (by rw [nI_toInt (by decide)]; decide)) (cwV 3 hts gX3_run_X3_nthEdge rfl rfl rfl (by decide +kernel) ⟨Nat.le_of_ble_eq_true rfl, Nat.le_of_ble_eq_true rfl⟩) (pre_V (Φ := fun X => PSr D T X A fi.2.2.1 fi.2.2.2.1 fi.2.2.2.2 sc W0 me co) hK (hP.2.1) rfl hP) rfl rfl hl.1 rfl (lv_room (Nat.le_of_ble_eq_true rfl)) dX3_run_25 ⟨Nat.le_of_ble_eq_true rfl, Nat.le_of_ble_eq_true rfl⟩) hS (fun q _ h => by rw [h]; exact hSx 5 (by decide)) (fun q h => by rw [h]; exact hSx 5 (by decide)) (fun r_2 u_1 t H_1 locs ht hvm hw hB hz hk hS => ?_)
      rw [ht] at hB
      try dsimp only at hw
      try dsimp only at hB
      subst hw
      have hP := hB
      refine top_i (x' := (nthA (rsG (fi.1.1 sN) 0) x)) (by rw [show (nI 1).toInt = 1 by decide]; exact nthA_cong (fun z hz => (jb_edge1 _ z hz).trans (rsG_cong (fun x h => hR0.1 _ hsN x h) z hz)) x) ?_
      refine lv_istore_n (lv' := [(3, .int (nthA (rsG (fi.1.1 sN) 0) x)), (0, .ref (A 0)), (1, .int (nI sN)), (2, .int x)]) hx hb dX3_run_28 rfl hl (by decide) rfl (fun ls hl => ?_)
      refine lv_aload_n hx hb dX3_run_29 rfl (lv_at hl 1 rfl) ?_
      refine lv_aload_n hx hb dX3_run_30 rfl (lv_at hl 1 rfl) ?_
      refine r_get (C := RX3) (Tb := TX3) (N := 5) hx hb hts in_wsX30 hown hK (hP.2.1) rfl 0 (by decide) (hts (.fieldLink RX3 10 "PieceSets" "now" "LPieceSets$State;") (by decide +kernel)) rfl (v := .ref (slA A 0 0)) rfl dX3_run_31 ?_
      refine r_getN (C := RX2) (Tb := TX2) (N := 3) (host := "PieceSets") hx hb hts in_wsX20 hown hK ((hP.2.2.2.2.2 0 (by omega)).1) rfl 0 (by decide) (hK.2.f (args := ([.ref (A 0), .int (nI sN), .int x] : List Value).toArray) 3 rfl) rfl (v := .ref (slA A 0 1)) rfl dX3_run_34 ?_
      refine lv_iload_n hx hb dX3_run_37 rfl (lv_at hl 2 rfl) ?_
      refine r_nald hx hb hK ((hP.2.2.2.2.2 0 (by omega)).2.1) (i := sN) (by omega) (by decide) (q := (slA A 0 (4 + 2 * sN))) (rfl) dX3_run_38 ?_
      refine lv_iconst (v := (-1)) hx hb dX3_run_39 (by decide) ?_
      refine lv_iload_n hx hb dX3_run_40 rfl (lv_at hl 3 rfl) ?_
      refine va_calli (va_runV (As := [.ref (slA A 0 (4 + 2 * sN)), .int (-1), .int x]) (rest := []) ⟨hx, hb, hml, hown, hts⟩ (k_X3_nthEdge l D T A fi.2.2.1 fi.2.2.2.1 fi.2.2.2.2 u_1 W0 me co sN (-1) x (hsN) (by decide)) (cwV 3 hts gX3_run_X3_nthEdge rfl rfl rfl (by decide +kernel) ⟨Nat.le_of_ble_eq_true rfl, Nat.le_of_ble_eq_true rfl⟩) (pre_V (Φ := fun X => PSr D T X A fi.2.2.1 fi.2.2.2.1 fi.2.2.2.2 u_1 W0 me co) hK (hP.2.1) rfl hP) rfl rfl hl.1 rfl (lv_room (Nat.le_of_ble_eq_true rfl)) dX3_run_41 ⟨Nat.le_of_ble_eq_true rfl, Nat.le_of_ble_eq_true rfl⟩) hS (fun q _ h => by rw [h]; exact hSx 5 (by decide)) (fun q h => by rw [h]; exact hSx 5 (by decide)) (fun r_3 u_2 t H_2 locs ht hvm hw hB hz hk hS => ?_)
      rw [ht] at hB
      try dsimp only at hw
      try dsimp only at hB
      subst hw
      have hP := hB
      refine top_i (x' := (nthA (reG (fi.1.1 sN)) x)) (by rw [show (-1 : Int32).toInt = -1 by decide]; exact nthA_cong (fun z hz => (jb_edge2 _ z hz).trans (reG_cong (fun x h => hR0.1 _ hsN x h) z hz)) x) ?_
      refine lv_istore (lv' := [(4, .int (nthA (reG (fi.1.1 sN)) x)), (3, .int (nthA (rsG (fi.1.1 sN) 0) x)), (0, .ref (A 0)), (1, .int (nI sN)), (2, .int x)]) hx hb dX3_run_44 hl (by decide) rfl (fun ls hl => ?_)
      refine lv_iload_n hx hb dX3_run_46 rfl (lv_at hl 1 rfl) ?_
      refine lv_bipush (v := (-9)) hx hb dX3_run_47 (by decide) ?_
      refine lv_icmp_eq (tgt := 59) hx hb dX3_run_49 (by decide) (fun c_3 => ?_) (fun c_3 => ?_)
      · skip
        refine lv_bipush (v := (-9)) hx hb dX3_run_59 (by decide) ?_
        subst hQ
        have hfin : PSE D T H_2 A Sx fi := ⟨W0, me, co, _, hP, hSx, hrb, hbl, hk5, hR0, hRh⟩
        exact W.iret (v := (-9)) hx hb hr (fun t ht hW => ⟨⟨(-9), (), rfl, (by unfold runR; rw [if_pos ⟨okN hsN (by decide), Int32.not_lt.mpr c_2⟩, cl_n (by omega)]; first | exact (if_pos (Or.inl c_3)).symm | exact (if_pos (Or.inr c_4)).symm), by have h9 := hfin; rw [← ht] at h9; exact h9⟩, hS.F ht⟩) hS.2.2 dX3_run_61
      · skip
        refine lv_iload hx hb dX3_run_52 (lv_at hl 0 rfl) ?_
        refine lv_bipush (v := (-9)) hx hb dX3_run_54 (by decide) ?_
        refine lv_icmp_ne (tgt := 62) hx hb dX3_run_56 (by decide) (fun c_4 => ?_) (fun c_4 => ?_)
        · skip
          refine lv_sipush (v := (nI 4096)) hx hb dX3_run_62 (by decide) ?_
          refine lv_iload_n hx hb dX3_run_65 rfl (lv_at hl 1 rfl) ?_
          refine lv_imul hx hb dX3_run_66 ?_
          refine lv_iload hx hb dX3_run_67 (lv_at hl 0 rfl) ?_
          refine lv_iadd hx hb dX3_run_69 ?_
          subst hQ
          have hfin : PSE D T H_2 A Sx fi := ⟨W0, me, co, _, hP, hSx, hrb, hbl, hk5, hR0, hRh⟩
          exact W.iret (v := (((nI 4096) * (nthA (rsG (fi.1.1 sN) 0) x)) + (nthA (reG (fi.1.1 sN)) x))) hx hb hr (fun t ht hW => ⟨⟨(((nI 4096) * (nthA (rsG (fi.1.1 sN) 0) x)) + (nthA (reG (fi.1.1 sN)) x)), (), rfl, (by unfold runR; rw [if_pos ⟨okN hsN (by decide), Int32.not_lt.mpr c_2⟩, cl_n (by omega)]; exact (if_neg (fun z => z.elim c_3 c_4)).symm), by have h9 := hfin; rw [← ht] at h9; exact h9⟩, hS.F ht⟩) hS.2.2 dX3_run_70
        · skip
          refine lv_bipush (v := (-9)) hx hb dX3_run_59 (by decide) ?_
          subst hQ
          have hfin : PSE D T H_2 A Sx fi := ⟨W0, me, co, _, hP, hSx, hrb, hbl, hk5, hR0, hRh⟩
          exact W.iret (v := (-9)) hx hb hr (fun t ht hW => ⟨⟨(-9), (), rfl, (by unfold runR; rw [if_pos ⟨okN hsN (by decide), Int32.not_lt.mpr c_2⟩, cl_n (by omega)]; first | exact (if_pos (Or.inl c_3)).symm | exact (if_pos (Or.inr c_4)).symm), by have h9 := hfin; rw [← ht] at h9; exact h9⟩, hS.F ht⟩) hS.2.2 dX3_run_61
    · skip
      refine lv_iconst (v := (-1)) hx hb dX3_run_11 (by decide) ?_
      subst hQ
      have hfin : PSE D T s.heap A Sx fi := ⟨W0, me, co, _, hP, hSx, hrb, hbl, hk5, hR0, hRh⟩
      exact W.iret (v := (-1)) hx hb hr (fun t ht hW => ⟨⟨(-1), (), rfl, (by first | exact (if_neg (fun z => c_1 z.1)).symm | exact (if_neg (fun z => c_2 (Int32.not_lt.mp z.2))).symm), by have h9 := hfin; rw [← ht] at h9; exact h9⟩, hS.F ht⟩) hS.2.2 dX3_run_12
set_option maxHeartbeats 4000000 in
set_option maxRecDepth 100000 in
theorem k_X3_compare (l : Launch) (D : va_G) (T : Nat → ClassId) (A : Nat → Nat) (Sx : Nat → Prop) (fi : FS) (ss : Int32) (tt : Int32) (x : Int32) : Met l yX3_compare wsX3_compare ({ frames := 4, cells := 0, slots := 0, locals := 89 }) (va_Pc [.ref (A 0), .int ss, .int tt, .int x] (fun U => KS D T U ∧ PSE D T U.heap A Sx fi)) (va_Qi (fun (r : Int32) (u : Unit) => r = (cmpR fi ss tt x)) (fun u t => PSE D T t.heap A Sx fi) (Sx)) 0 0 (Sx) := by
  refine Met.ofW (cc := cX3_compare) (maxL := 4) (ret := (some .int)) (by decide) rfl ?_
  intro pg ev s m args below meth c s₁ B hml hv
  obtain ⟨rfl, hK, hH⟩ := hv
  have hx := B.exec
  have hb := B.bytes
  have hr := B.returns
  have hts := atoms_spec (ws := wsX3_compare) B.pre
  have hown : s.vm.findClass RX3 = some m.cls := findClass_of_methodNamed B.named
  have hlocks := B.notSynchronized
  have in_wsX30 : ∀ w ∈ wsX30, w ∈ wsX3_compare := fun w h => List.mem_cons_of_mem _ (List.mem_append_left _ (List.mem_append_left _ (List.mem_append_right _ h)))
  have in_wsX20 : ∀ w ∈ wsX20, w ∈ wsX3_compare := fun w h => List.mem_cons_of_mem _ (List.mem_append_left _ (List.mem_append_right _ h))
  have in_wsX10 : ∀ w ∈ wsX10, w ∈ wsX3_compare := fun w h => List.mem_cons_of_mem _ (List.mem_append_right _ h)
  have hS : va_S (Sx) s.heap s.heap [] := va_S.rf
  have hl := lv_entry ([.ref (A 0), .int ss, .int tt, .int x]) (n := 4) (Nat.le_of_ble_eq_true rfl)
  rw [lg_entry_eq]
  generalize (lg_sl ([.ref (A 0), .int ss, .int tt, .int x]) ++ List.replicate (4 - (lg_sl ([.ref (A 0), .int ss, .int tt, .int x])).length) Slot.unset).toArray = ls at hl ⊢
  have hl : lv_has ls 4 [(0, .ref (A 0)), (1, .int ss), (2, .int tt), (3, .int x)] := hl
  refine W_gen (fun Q hQ => ?_)
  obtain ⟨W0, me, co, sc, hP, hSx, hrb, hbl, hk5, hR0, hRh⟩ := id hH
  refine lv_iload_n hx hb dX3_compare_0 rfl (lv_at hl 1 rfl) ?_
  refine vp_callSi (va_Run.run (va_runS (As := [.int ss]) (rest := []) ⟨hx, hb, hml, hown, hts⟩ (k_X3_isSet l D T ss ) (va_cwS 1 hts gX3_compare_X3_isSet rfl rfl rfl (by decide +kernel) ⟨Nat.le_of_ble_eq_true rfl, Nat.le_of_ble_eq_true rfl⟩) (pre_S (Φ := fun X => True) hK trivial) rfl rfl hl.1 rfl (lv_room (Nat.le_of_ble_eq_true rfl)) dX3_compare_1 ⟨Nat.le_of_ble_eq_true rfl, Nat.le_of_ble_eq_true rfl⟩)) (fun r_1 hr_1 => ?_)
  subst hr_1
  refine lv_if_eq (tgt := 14) hx hb dX3_compare_4 (by decide) (fun c_1 => ?_) (fun c_1 => ?_)
  · skip
    have c_1 : (decide (¬ ss < 0 ∧ ss < nI 6)) = false := b2i_0.mp c_1
    have c_1 : ¬ (¬ ss < 0 ∧ ss < nI 6) := of_decide_eq_false c_1
    refine lv_iconst (v := (-1)) hx hb dX3_compare_14 (by decide) ?_
    subst hQ
    have hfin : PSE D T s.heap A Sx fi := ⟨W0, me, co, _, hP, hSx, hrb, hbl, hk5, hR0, hRh⟩
    exact W.iret (v := (-1)) hx hb hr (fun t ht hW => ⟨⟨(-1), (), rfl, (by first | exact (if_neg (fun z => c_1 z.1)).symm | exact (if_neg (fun z => c_2 z.2)).symm), by have h9 := hfin; rw [← ht] at h9; exact h9⟩, hS.F ht⟩) hS.2.2 dX3_compare_15
  · skip
    have c_1 : (decide (¬ ss < 0 ∧ ss < nI 6)) = true := b2i_n0.mp c_1
    have c_1 : ¬ ss < 0 ∧ ss < nI 6 := of_decide_eq_true c_1
    refine lv_iload_n hx hb dX3_compare_7 rfl (lv_at hl 2 rfl) ?_
    refine vp_callSi (va_Run.run (va_runS (As := [.int tt]) (rest := []) ⟨hx, hb, hml, hown, hts⟩ (k_X3_isSet l D T tt ) (va_cwS 1 hts gX3_compare_X3_isSet rfl rfl rfl (by decide +kernel) ⟨Nat.le_of_ble_eq_true rfl, Nat.le_of_ble_eq_true rfl⟩) (pre_S (Φ := fun X => True) hK trivial) rfl rfl hl.1 rfl (lv_room (Nat.le_of_ble_eq_true rfl)) dX3_compare_8 ⟨Nat.le_of_ble_eq_true rfl, Nat.le_of_ble_eq_true rfl⟩)) (fun r_2 hr_2 => ?_)
    subst hr_2
    refine lv_if_ne (tgt := 16) hx hb dX3_compare_11 (by decide) (fun c_2 => ?_) (fun c_2 => ?_)
    · skip
      have c_2 : (decide (¬ tt < 0 ∧ tt < nI 6)) = true := b2i_n0.mp c_2
      have c_2 : ¬ tt < 0 ∧ tt < nI 6 := of_decide_eq_true c_2
      obtain ⟨sN, hsN, rfl⟩ := okX (N := 6) (by decide) c_1
      obtain ⟨tN, htN, rfl⟩ := okX (N := 6) (by decide) c_2
      have hj0 := jct_le 0 (fi.1.1 sN) (fi.1.1 tN)
      have hj1 := jct_le 1 (fi.1.1 sN) (fi.1.1 tN)
      have hj2 := jct_le 2 (fi.1.1 sN) (fi.1.1 tN)
      have hj3 := jct_le 3 (fi.1.1 sN) (fi.1.1 tN)
      refine lv_iload_n hx hb dX3_compare_16 rfl (lv_at hl 3 rfl) ?_
      by_cases c_3 : x = nI 0
      · skip
        refine top_i (x' := nI 0) (c_3) ?_
        refine lv_tableIn (tgt := 52) (off := 35) hx hb dX3_compare_17 (by decide) (by decide) (by decide) (by decide) ?_
        refine lv_aload_n hx hb dX3_compare_52 rfl (lv_at hl 0 rfl) ?_
        refine lv_iconst (v := (nI 0)) hx hb dX3_compare_53 (by decide) ?_
        refine lv_iload_n hx hb dX3_compare_54 rfl (lv_at hl 1 rfl) ?_
        refine lv_iload_n hx hb dX3_compare_55 rfl (lv_at hl 2 rfl) ?_
        refine va_calli (va_runV (As := [.int (nI 0), .int (nI sN), .int (nI tN)]) (rest := []) ⟨hx, hb, hml, hown, hts⟩ (k_X3_countJoin l D T A fi.2.2.1 fi.2.2.2.1 fi.2.2.2.2 sc W0 me co 0 sN tN (by decide) (hsN) (htN)) (cwV 3 hts gX3_compare_X3_countJoin rfl rfl rfl (by decide +kernel) ⟨Nat.le_of_ble_eq_true rfl, Nat.le_of_ble_eq_true rfl⟩) (pre_V (Φ := fun X => PSr D T X A fi.2.2.1 fi.2.2.2.1 fi.2.2.2.2 sc W0 me co) hK (hP.2.1) rfl hP) rfl rfl hl.1 rfl (lv_room (Nat.le_of_ble_eq_true rfl)) dX3_compare_56 ⟨Nat.le_of_ble_eq_true rfl, Nat.le_of_ble_eq_true rfl⟩) hS (fun q _ h => by rw [h]; exact hSx 5 (by decide)) (fun q h => by rw [h]; exact hSx 5 (by decide)) (fun r_3 u_1 t H_1 locs ht hvm hw hB hz hk hS => ?_)
        rw [ht] at hB
        try dsimp only at hw
        try dsimp only at hB
        subst hw
        have hP := hB
        refine top_i (x' := (nI (jct 0 (fi.1.1 sN) (fi.1.1 tN)))) (congrArg nI (jct_cong (fun x h => hR0.1 _ hsN x h) (fun x h => hR0.1 _ htN x h))) ?_
        subst hQ
        have hfin : PSE D T H_1 A Sx fi := ⟨W0, me, co, _, hP, hSx, hrb, hbl, hk5, hR0, hRh⟩
        exact W.iret (v := (nI (jct 0 (fi.1.1 sN) (fi.1.1 tN)))) hx hb hr (fun t ht hW => ⟨⟨(nI (jct 0 (fi.1.1 sN) (fi.1.1 tN))), (), rfl, (by unfold cmpR; rw [if_pos ⟨okN hsN (by decide), okN htN (by decide)⟩, cl_n (by omega), cl_n (by omega)]; unfold cmpV; rw [if_pos c_3]), by have h9 := hfin; rw [← ht] at h9; exact h9⟩, hS.F ht⟩) hS.2.2 dX3_compare_59
      by_cases c_4 : x = nI 1
      · skip
        refine top_i (x' := nI 1) (c_4) ?_
        refine lv_tableIn (tgt := 60) (off := 43) hx hb dX3_compare_17 (by decide) (by decide) (by decide) (by decide) ?_
        refine lv_aload_n hx hb dX3_compare_60 rfl (lv_at hl 0 rfl) ?_
        refine lv_iconst (v := (nI 2)) hx hb dX3_compare_61 (by decide) ?_
        refine lv_iload_n hx hb dX3_compare_62 rfl (lv_at hl 1 rfl) ?_
        refine lv_iload_n hx hb dX3_compare_63 rfl (lv_at hl 2 rfl) ?_
        refine va_calli (va_runV (As := [.int (nI 2), .int (nI sN), .int (nI tN)]) (rest := []) ⟨hx, hb, hml, hown, hts⟩ (k_X3_countJoin l D T A fi.2.2.1 fi.2.2.2.1 fi.2.2.2.2 sc W0 me co 2 sN tN (by decide) (hsN) (htN)) (cwV 3 hts gX3_compare_X3_countJoin rfl rfl rfl (by decide +kernel) ⟨Nat.le_of_ble_eq_true rfl, Nat.le_of_ble_eq_true rfl⟩) (pre_V (Φ := fun X => PSr D T X A fi.2.2.1 fi.2.2.2.1 fi.2.2.2.2 sc W0 me co) hK (hP.2.1) rfl hP) rfl rfl hl.1 rfl (lv_room (Nat.le_of_ble_eq_true rfl)) dX3_compare_64 ⟨Nat.le_of_ble_eq_true rfl, Nat.le_of_ble_eq_true rfl⟩) hS (fun q _ h => by rw [h]; exact hSx 5 (by decide)) (fun q h => by rw [h]; exact hSx 5 (by decide)) (fun r_3 u_1 t H_1 locs ht hvm hw hB hz hk hS => ?_)
        rw [ht] at hB
        try dsimp only at hw
        try dsimp only at hB
        subst hw
        have hP := hB
        refine top_i (x' := (nI (jct 2 (fi.1.1 sN) (fi.1.1 tN)))) (congrArg nI (jct_cong (fun x h => hR0.1 _ hsN x h) (fun x h => hR0.1 _ htN x h))) ?_
        subst hQ
        have hfin : PSE D T H_1 A Sx fi := ⟨W0, me, co, _, hP, hSx, hrb, hbl, hk5, hR0, hRh⟩
        exact W.iret (v := (nI (jct 2 (fi.1.1 sN) (fi.1.1 tN)))) hx hb hr (fun t ht hW => ⟨⟨(nI (jct 2 (fi.1.1 sN) (fi.1.1 tN))), (), rfl, (by unfold cmpR; rw [if_pos ⟨okN hsN (by decide), okN htN (by decide)⟩, cl_n (by omega), cl_n (by omega)]; unfold cmpV; rw [if_neg c_3, if_pos c_4]), by have h9 := hfin; rw [← ht] at h9; exact h9⟩, hS.F ht⟩) hS.2.2 dX3_compare_67
      by_cases c_5 : x = nI 2
      · skip
        refine top_i (x' := nI 2) (c_5) ?_
        refine lv_tableIn (tgt := 68) (off := 51) hx hb dX3_compare_17 (by decide) (by decide) (by decide) (by decide) ?_
        refine lv_aload_n hx hb dX3_compare_68 rfl (lv_at hl 0 rfl) ?_
        refine lv_iconst (v := (nI 3)) hx hb dX3_compare_69 (by decide) ?_
        refine lv_iload_n hx hb dX3_compare_70 rfl (lv_at hl 1 rfl) ?_
        refine lv_iload_n hx hb dX3_compare_71 rfl (lv_at hl 2 rfl) ?_
        refine va_calli (va_runV (As := [.int (nI 3), .int (nI sN), .int (nI tN)]) (rest := []) ⟨hx, hb, hml, hown, hts⟩ (k_X3_countJoin l D T A fi.2.2.1 fi.2.2.2.1 fi.2.2.2.2 sc W0 me co 3 sN tN (by decide) (hsN) (htN)) (cwV 3 hts gX3_compare_X3_countJoin rfl rfl rfl (by decide +kernel) ⟨Nat.le_of_ble_eq_true rfl, Nat.le_of_ble_eq_true rfl⟩) (pre_V (Φ := fun X => PSr D T X A fi.2.2.1 fi.2.2.2.1 fi.2.2.2.2 sc W0 me co) hK (hP.2.1) rfl hP) rfl rfl hl.1 rfl (lv_room (Nat.le_of_ble_eq_true rfl)) dX3_compare_72 ⟨Nat.le_of_ble_eq_true rfl, Nat.le_of_ble_eq_true rfl⟩) hS (fun q _ h => by rw [h]; exact hSx 5 (by decide)) (fun q h => by rw [h]; exact hSx 5 (by decide)) (fun r_3 u_1 t H_1 locs ht hvm hw hB hz hk hS => ?_)
        rw [ht] at hB
        try dsimp only at hw
        try dsimp only at hB
        subst hw
        have hP := hB
        refine top_i (x' := (nI (jct 3 (fi.1.1 sN) (fi.1.1 tN)))) (congrArg nI (jct_cong (fun x h => hR0.1 _ hsN x h) (fun x h => hR0.1 _ htN x h))) ?_
        refine lv_if_ne (tgt := 82) hx hb dX3_compare_75 (by decide) (fun c_6 => ?_) (fun c_6 => ?_)
        · skip
          have c_6 : ¬ ((jct 3 (fi.1.1 sN) (fi.1.1 tN)) = 0) := fun z => c_6 ((nI_e0 (a := (jct 3 (fi.1.1 sN) (fi.1.1 tN))) (by omega)).mpr z)
          refine lv_iconst (v := (nI 0)) hx hb dX3_compare_82 (by decide) ?_
          subst hQ
          have hfin : PSE D T H_1 A Sx fi := ⟨W0, me, co, _, hP, hSx, hrb, hbl, hk5, hR0, hRh⟩
          exact W.iret (v := (nI 0)) hx hb hr (fun t ht hW => ⟨⟨(nI 0), (), rfl, (by unfold cmpR; rw [if_pos ⟨okN hsN (by decide), okN htN (by decide)⟩, cl_n (by omega), cl_n (by omega)]; unfold cmpV; rw [if_neg c_3, if_neg c_4, if_pos c_5]; exact (if_neg c_6).symm), by have h9 := hfin; rw [← ht] at h9; exact h9⟩, hS.F ht⟩) hS.2.2 dX3_compare_83
        · skip
          have c_6 : (jct 3 (fi.1.1 sN) (fi.1.1 tN)) = 0 := (nI_e0 (a := (jct 3 (fi.1.1 sN) (fi.1.1 tN))) (by omega)).mp c_6
          refine lv_iconst (v := (nI 1)) hx hb dX3_compare_78 (by decide) ?_
          refine lv_goto (tgt := 83) hx hb dX3_compare_79 (by decide) ?_
          subst hQ
          have hfin : PSE D T H_1 A Sx fi := ⟨W0, me, co, _, hP, hSx, hrb, hbl, hk5, hR0, hRh⟩
          exact W.iret (v := (nI 1)) hx hb hr (fun t ht hW => ⟨⟨(nI 1), (), rfl, (by unfold cmpR; rw [if_pos ⟨okN hsN (by decide), okN htN (by decide)⟩, cl_n (by omega), cl_n (by omega)]; unfold cmpV; rw [if_neg c_3, if_neg c_4, if_pos c_5]; exact (if_pos c_6).symm), by have h9 := hfin; rw [← ht] at h9; exact h9⟩, hS.F ht⟩) hS.2.2 dX3_compare_83
      by_cases c_6 : x = nI 3
      · skip
        refine top_i (x' := nI 3) (c_6) ?_
        refine lv_tableIn (tgt := 84) (off := 67) hx hb dX3_compare_17 (by decide) (by decide) (by decide) (by decide) ?_
        refine lv_aload_n hx hb dX3_compare_84 rfl (lv_at hl 0 rfl) ?_
        refine lv_iload_n hx hb dX3_compare_85 rfl (lv_at hl 1 rfl) ?_
        refine lv_iload_n hx hb dX3_compare_86 rfl (lv_at hl 2 rfl) ?_
        refine va_calli (va_runV (As := [.int (nI sN), .int (nI tN)]) (rest := []) ⟨hx, hb, hml, hown, hts⟩ (k_X3_countSamePieces l D T A fi.2.2.1 fi.2.2.2.1 fi.2.2.2.2 sc W0 me co sN tN (hsN) (htN)) (cwV 2 hts gX3_compare_X3_countSamePieces rfl rfl rfl (by decide +kernel) ⟨Nat.le_of_ble_eq_true rfl, Nat.le_of_ble_eq_true rfl⟩) (pre_V (Φ := fun X => PSr D T X A fi.2.2.1 fi.2.2.2.1 fi.2.2.2.2 sc W0 me co) hK (hP.2.1) rfl hP) rfl rfl hl.1 rfl (lv_room (Nat.le_of_ble_eq_true rfl)) dX3_compare_87 ⟨Nat.le_of_ble_eq_true rfl, Nat.le_of_ble_eq_true rfl⟩) hS (fun q _ h => by rw [h]; exact hSx 5 (by decide)) (fun q h => by rw [h]; exact hSx 5 (by decide)) (fun r_3 u_1 t H_1 locs ht hvm hw hB hz hk hS => ?_)
        rw [ht] at hB
        try dsimp only at hw
        try dsimp only at hB
        subst hw
        have hP := hB
        refine top_i (x' := (nI (smP (fi.1.1 sN) (fi.1.1 tN)))) (congrArg nI (smP_cong (fun x h => hR0.1 _ hsN x h) (fun x h => hR0.1 _ htN x h))) ?_
        subst hQ
        have hfin : PSE D T H_1 A Sx fi := ⟨W0, me, co, _, hP, hSx, hrb, hbl, hk5, hR0, hRh⟩
        exact W.iret (v := (nI (smP (fi.1.1 sN) (fi.1.1 tN)))) hx hb hr (fun t ht hW => ⟨⟨(nI (smP (fi.1.1 sN) (fi.1.1 tN))), (), rfl, (by unfold cmpR; rw [if_pos ⟨okN hsN (by decide), okN htN (by decide)⟩, cl_n (by omega), cl_n (by omega)]; unfold cmpV; rw [if_neg c_3, if_neg c_4, if_neg c_5, if_pos c_6]), by have h9 := hfin; rw [← ht] at h9; exact h9⟩, hS.F ht⟩) hS.2.2 dX3_compare_90
      by_cases c_7 : x = nI 4
      · skip
        refine top_i (x' := nI 4) (c_7) ?_
        refine lv_tableIn (tgt := 91) (off := 74) hx hb dX3_compare_17 (by decide) (by decide) (by decide) (by decide) ?_
        refine lv_aload_n hx hb dX3_compare_91 rfl (lv_at hl 0 rfl) ?_
        refine r_get (C := RX3) (Tb := TX3) (N := 5) hx hb hts in_wsX30 hown hK (hP.2.1) rfl 4 (by decide) (hts (.fieldLink RX3 34 "PieceSets" "scratch" "LPieceSets$Numbers;") (by decide +kernel)) rfl (v := .ref (A 4)) rfl dX3_compare_92 ?_
        refine lv_iconst (v := (nI 2)) hx hb dX3_compare_95 (by decide) ?_
        refine lv_aload_n hx hb dX3_compare_96 rfl (lv_at hl 0 rfl) ?_
        refine r_get (C := RX3) (Tb := TX3) (N := 5) hx hb hts in_wsX30 hown hK (hP.2.1) rfl 0 (by decide) (hts (.fieldLink RX3 10 "PieceSets" "now" "LPieceSets$State;") (by decide +kernel)) rfl (v := .ref (slA A 0 0)) rfl dX3_compare_97 ?_
        refine r_getN (C := RX2) (Tb := TX2) (N := 3) (host := "PieceSets") hx hb hts in_wsX20 hown hK ((hP.2.2.2.2.2 0 (by omega)).1) rfl 0 (by decide) (hK.2.f (args := ([.ref (A 0), .int (nI sN), .int (nI tN), .int x] : List Value).toArray) 3 rfl) rfl (v := .ref (slA A 0 1)) rfl dX3_compare_100 ?_
        refine lv_iload_n hx hb dX3_compare_103 rfl (lv_at hl 1 rfl) ?_
        refine r_nald hx hb hK ((hP.2.2.2.2.2 0 (by omega)).2.1) (i := sN) (by omega) (by decide) (q := (slA A 0 (4 + 2 * sN))) (rfl) dX3_compare_104 ?_
        refine lv_aload_n hx hb dX3_compare_105 rfl (lv_at hl 0 rfl) ?_
        refine r_get (C := RX3) (Tb := TX3) (N := 5) hx hb hts in_wsX30 hown hK (hP.2.1) rfl 0 (by decide) (hts (.fieldLink RX3 10 "PieceSets" "now" "LPieceSets$State;") (by decide +kernel)) rfl (v := .ref (slA A 0 0)) rfl dX3_compare_106 ?_
        refine r_getN (C := RX2) (Tb := TX2) (N := 3) (host := "PieceSets") hx hb hts in_wsX20 hown hK ((hP.2.2.2.2.2 0 (by omega)).1) rfl 0 (by decide) (hK.2.f (args := ([.ref (A 0), .int (nI sN), .int (nI tN), .int x] : List Value).toArray) 3 rfl) rfl (v := .ref (slA A 0 1)) rfl dX3_compare_109 ?_
        refine lv_iload_n hx hb dX3_compare_112 rfl (lv_at hl 2 rfl) ?_
        refine r_nald hx hb hK ((hP.2.2.2.2.2 0 (by omega)).2.1) (i := tN) (by omega) (by decide) (q := (slA A 0 (4 + 2 * tN))) (rfl) dX3_compare_113 ?_
        refine va_callv (va_runVN (As := [.int (nI 2), .ref (slA A 0 (4 + 2 * sN)), .ref (slA A 0 (4 + 2 * tN))]) (rest := []) ⟨hx, hb, hml, hown, hts⟩ (k_X1_becomeJoin l D T 2 (A 4) (A 5) sc (slA A 0 (4 + 2 * sN)) (slA A 0 (5 + 2 * sN)) (W0 0 sN) (slA A 0 (4 + 2 * tN)) (slA A 0 (5 + 2 * tN)) (W0 0 tN) (by omega) ((slA_lo hP.1 (by decide) (by omega) (by decide)).symm) ((slA_lo hP.1 (by decide) (by omega) (by decide)).symm)) (⟨va_cnB 3 hts ggX3_compare_X1_becomeJoin rfl rfl rfl (hK.2.m (args := ([.ref (A 0), .int (nI sN), .int (nI tN), .int x] : List Value).toArray) 31 rfl) (hts (.initialized RX1) (by decide +kernel)) (by decide +kernel) ⟨Nat.le_of_ble_eq_true rfl, Nat.le_of_ble_eq_true rfl⟩, hts (.instanceMethod yX1_becomeJoin) (by decide +kernel), hts (.selects RX1 yX1_becomeJoin yX1_becomeJoin) (by decide +kernel)⟩) (pre_V (Φ := fun X => Num D T X (A 4) (A 5) sc ∧ Num D T X (slA A 0 (4 + 2 * sN)) (slA A 0 (5 + 2 * sN)) (W0 0 sN) ∧ Num D T X (slA A 0 (4 + 2 * tN)) (slA A 0 (5 + 2 * tN)) (W0 0 tN)) hK (hP.2.2.2.2.1.1) rfl ⟨hP.2.2.2.2.1, ((hP.2.2.2.2.2 0 (by decide)).2.2.2.2 sN hsN), ((hP.2.2.2.2.2 0 (by decide)).2.2.2.2 tN htN)⟩) rfl rfl hl.1 rfl (lv_room (Nat.le_of_ble_eq_true rfl)) dX3_compare_114 ⟨Nat.le_of_ble_eq_true rfl, Nat.le_of_ble_eq_true rfl⟩) hS (fun q _ h => by rw [h]; exact hSx 5 (by decide)) (fun q h => by rw [h]; exact hSx 5 (by decide)) (fun u_1 t H_1 locs ht hvm hw hB hz hk hS => ?_)
        rw [ht] at hB
        try dsimp only at hw
        try dsimp only at hB
        have hF9 : Fr _ _ _ := hk
        have hP := hP.setN hB hF9
        refine lv_aload_n hx hb dX3_compare_117 rfl (lv_at hl 0 rfl) ?_
        refine r_get (C := RX3) (Tb := TX3) (N := 5) hx hb hts in_wsX30 hown hK (hP.2.1) rfl 4 (by decide) (hts (.fieldLink RX3 34 "PieceSets" "scratch" "LPieceSets$Numbers;") (by decide +kernel)) rfl (v := .ref (A 4)) rfl dX3_compare_118 ?_
        refine lv_iconst (v := (nI 0)) hx hb dX3_compare_121 (by decide) ?_
        refine vp_callSi (va_Run.run (va_runVN (As := [.int (nI 0)]) (rest := []) ⟨hx, hb, hml, hown, hts⟩ (k_X1_nth l D T (A 4) (A 5) (fun j => jn 2 (W0 0 sN j) (W0 0 tN j)) (nI 0) ) (⟨va_cnB 1 hts ggX3_compare_X1_nth rfl rfl rfl (hK.2.m (args := ([.ref (A 0), .int (nI sN), .int (nI tN), .int x] : List Value).toArray) 36 rfl) (hts (.initialized RX1) (by decide +kernel)) (by decide +kernel) ⟨Nat.le_of_ble_eq_true rfl, Nat.le_of_ble_eq_true rfl⟩, hts (.instanceMethod yX1_nth) (by decide +kernel), hts (.selects RX1 yX1_nth yX1_nth) (by decide +kernel)⟩) (pre_V (Φ := fun X => Num D T X (A 4) (A 5) (fun j => jn 2 (W0 0 sN j) (W0 0 tN j))) hK (hP.2.2.2.2.1.1) rfl hP.2.2.2.2.1) rfl rfl hl.1 rfl (lv_room (Nat.le_of_ble_eq_true rfl)) dX3_compare_122 ⟨Nat.le_of_ble_eq_true rfl, Nat.le_of_ble_eq_true rfl⟩)) (fun r_4 hr_4 => ?_)
        subst hr_4
        refine top_i (x' := (nthA (fun z => jb 2 (fi.1.1 sN z) (fi.1.1 tN z)) (nI 0))) (nthA_cong (fun z hz => (bit_jn 2 _ _ z hz).trans (jb_cong (o := 2) (fun x h => hR0.1 _ hsN x h) (fun x h => hR0.1 _ htN x h) z hz)) (nI 0)) ?_
        subst hQ
        have hfin : PSE D T H_1 A Sx fi := ⟨W0, me, co, _, hP, hSx, hrb, hbl, hk5, hR0, hRh⟩
        exact W.iret (v := (nthA (fun z => jb 2 (fi.1.1 sN z) (fi.1.1 tN z)) (nI 0))) hx hb hr (fun t ht hW => ⟨⟨(nthA (fun z => jb 2 (fi.1.1 sN z) (fi.1.1 tN z)) (nI 0)), (), rfl, (by unfold cmpR; rw [if_pos ⟨okN hsN (by decide), okN htN (by decide)⟩, cl_n (by omega), cl_n (by omega)]; unfold cmpV; rw [if_neg c_3, if_neg c_4, if_neg c_5, if_neg c_6, if_pos c_7]), by have h9 := hfin; rw [← ht] at h9; exact h9⟩, hS.F ht⟩) hS.2.2 dX3_compare_125
      refine lv_tableOut (tgt := 126) hx hb dX3_compare_17 (tab_out 4 (by decide) (fun k hk => by
        rcases (show k = 0 ∨ k = 1 ∨ k = 2 ∨ k = 3 ∨ k = 4 by omega) with rfl | rfl | rfl | rfl | rfl <;> first | exact c_3 | exact c_4 | exact c_5 | exact c_6 | exact c_7)) (by decide) ?_
      refine lv_iconst (v := (-1)) hx hb dX3_compare_126 (by decide) ?_
      subst hQ
      have hfin : PSE D T s.heap A Sx fi := ⟨W0, me, co, _, hP, hSx, hrb, hbl, hk5, hR0, hRh⟩
      exact W.iret (v := (-1)) hx hb hr (fun t ht hW => ⟨⟨(-1), (), rfl, (by unfold cmpR; rw [if_pos ⟨okN hsN (by decide), okN htN (by decide)⟩, cl_n (by omega), cl_n (by omega)]; unfold cmpV; rw [if_neg c_3, if_neg c_4, if_neg c_5, if_neg c_6, if_neg c_7]), by have h9 := hfin; rw [← ht] at h9; exact h9⟩, hS.F ht⟩) hS.2.2 dX3_compare_127
    · skip
      have c_2 : (decide (¬ tt < 0 ∧ tt < nI 6)) = false := b2i_0.mp c_2
      have c_2 : ¬ (¬ tt < 0 ∧ tt < nI 6) := of_decide_eq_false c_2
      refine lv_iconst (v := (-1)) hx hb dX3_compare_14 (by decide) ?_
      subst hQ
      have hfin : PSE D T s.heap A Sx fi := ⟨W0, me, co, _, hP, hSx, hrb, hbl, hk5, hR0, hRh⟩
      exact W.iret (v := (-1)) hx hb hr (fun t ht hW => ⟨⟨(-1), (), rfl, (by first | exact (if_neg (fun z => c_1 z.1)).symm | exact (if_neg (fun z => c_2 z.2)).symm), by have h9 := hfin; rw [← ht] at h9; exact h9⟩, hS.F ht⟩) hS.2.2 dX3_compare_15
set_option maxHeartbeats 4000000 in
set_option maxRecDepth 100000 in
theorem k_X3_alike (l : Launch) (D : va_G) (T : Nat → ClassId) (A : Nat → Nat) (Sx : Nat → Prop) (fi : FS) (ss : Int32) (tt : Int32) (x : Int32) : Met l yX3_alike wsX3_alike ({ frames := 4, cells := 0, slots := 0, locals := 89 }) (va_Pc [.ref (A 0), .int ss, .int tt, .int x] (fun U => KS D T U ∧ PSE D T U.heap A Sx fi)) (va_Qi (fun (r : Int32) (u : Unit) => r = (alkR fi ss tt x)) (fun u t => PSE D T t.heap A Sx fi) (Sx)) 0 0 (Sx) := by
  refine Met.ofW (cc := cX3_alike) (maxL := 7) (ret := (some .int)) (by decide) rfl ?_
  intro pg ev s m args below meth c s₁ B hml hv
  obtain ⟨rfl, hK, hH⟩ := hv
  have hx := B.exec
  have hb := B.bytes
  have hr := B.returns
  have hts := atoms_spec (ws := wsX3_alike) B.pre
  have hown : s.vm.findClass RX3 = some m.cls := findClass_of_methodNamed B.named
  have hlocks := B.notSynchronized
  have in_wsX30 : ∀ w ∈ wsX30, w ∈ wsX3_alike := fun w h => List.mem_cons_of_mem _ (List.mem_append_left _ (List.mem_append_left _ (List.mem_append_right _ h)))
  have in_wsX20 : ∀ w ∈ wsX20, w ∈ wsX3_alike := fun w h => List.mem_cons_of_mem _ (List.mem_append_left _ (List.mem_append_right _ h))
  have in_wsX10 : ∀ w ∈ wsX10, w ∈ wsX3_alike := fun w h => List.mem_cons_of_mem _ (List.mem_append_right _ h)
  have hS : va_S (Sx) s.heap s.heap [] := va_S.rf
  have hl := lv_entry ([.ref (A 0), .int ss, .int tt, .int x]) (n := 7) (Nat.le_of_ble_eq_true rfl)
  rw [lg_entry_eq]
  generalize (lg_sl ([.ref (A 0), .int ss, .int tt, .int x]) ++ List.replicate (7 - (lg_sl ([.ref (A 0), .int ss, .int tt, .int x])).length) Slot.unset).toArray = ls at hl ⊢
  have hl : lv_has ls 7 [(0, .ref (A 0)), (1, .int ss), (2, .int tt), (3, .int x)] := hl
  refine W_gen (fun Q hQ => ?_)
  obtain ⟨W0, me, co, sc, hP, hSx, hrb, hbl, hk5, hR0, hRh⟩ := id hH
  refine lv_iload_n hx hb dX3_alike_0 rfl (lv_at hl 1 rfl) ?_
  refine vp_callSi (va_Run.run (va_runS (As := [.int ss]) (rest := []) ⟨hx, hb, hml, hown, hts⟩ (k_X3_isSet l D T ss ) (va_cwS 1 hts gX3_alike_X3_isSet rfl rfl rfl (by decide +kernel) ⟨Nat.le_of_ble_eq_true rfl, Nat.le_of_ble_eq_true rfl⟩) (pre_S (Φ := fun X => True) hK trivial) rfl rfl hl.1 rfl (lv_room (Nat.le_of_ble_eq_true rfl)) dX3_alike_1 ⟨Nat.le_of_ble_eq_true rfl, Nat.le_of_ble_eq_true rfl⟩)) (fun r_1 hr_1 => ?_)
  subst hr_1
  refine lv_if_eq (tgt := 14) hx hb dX3_alike_4 (by decide) (fun c_1 => ?_) (fun c_1 => ?_)
  · skip
    have c_1 : (decide (¬ ss < 0 ∧ ss < nI 6)) = false := b2i_0.mp c_1
    have c_1 : ¬ (¬ ss < 0 ∧ ss < nI 6) := of_decide_eq_false c_1
    refine lv_iconst (v := (-1)) hx hb dX3_alike_14 (by decide) ?_
    subst hQ
    have hfin : PSE D T s.heap A Sx fi := ⟨W0, me, co, _, hP, hSx, hrb, hbl, hk5, hR0, hRh⟩
    exact W.iret (v := (-1)) hx hb hr (fun t ht hW => ⟨⟨(-1), (), rfl, (by first | exact (if_neg (fun z => c_1 z.1)).symm | exact (if_neg (fun z => c_2 z.2)).symm), by have h9 := hfin; rw [← ht] at h9; exact h9⟩, hS.F ht⟩) hS.2.2 dX3_alike_15
  · skip
    have c_1 : (decide (¬ ss < 0 ∧ ss < nI 6)) = true := b2i_n0.mp c_1
    have c_1 : ¬ ss < 0 ∧ ss < nI 6 := of_decide_eq_true c_1
    refine lv_iload_n hx hb dX3_alike_7 rfl (lv_at hl 2 rfl) ?_
    refine vp_callSi (va_Run.run (va_runS (As := [.int tt]) (rest := []) ⟨hx, hb, hml, hown, hts⟩ (k_X3_isSet l D T tt ) (va_cwS 1 hts gX3_alike_X3_isSet rfl rfl rfl (by decide +kernel) ⟨Nat.le_of_ble_eq_true rfl, Nat.le_of_ble_eq_true rfl⟩) (pre_S (Φ := fun X => True) hK trivial) rfl rfl hl.1 rfl (lv_room (Nat.le_of_ble_eq_true rfl)) dX3_alike_8 ⟨Nat.le_of_ble_eq_true rfl, Nat.le_of_ble_eq_true rfl⟩)) (fun r_2 hr_2 => ?_)
    subst hr_2
    refine lv_if_ne (tgt := 16) hx hb dX3_alike_11 (by decide) (fun c_2 => ?_) (fun c_2 => ?_)
    · skip
      have c_2 : (decide (¬ tt < 0 ∧ tt < nI 6)) = true := b2i_n0.mp c_2
      have c_2 : ¬ tt < 0 ∧ tt < nI 6 := of_decide_eq_true c_2
      obtain ⟨sN, hsN, rfl⟩ := okX (N := 6) (by decide) c_1
      obtain ⟨tN, htN, rfl⟩ := okX (N := 6) (by decide) c_2
      have hj0 := jct_le 0 (fi.1.1 sN) (fi.1.1 tN)
      have hj1 := jct_le 1 (fi.1.1 sN) (fi.1.1 tN)
      have hj2 := jct_le 2 (fi.1.1 sN) (fi.1.1 tN)
      have hj3 := jct_le 3 (fi.1.1 sN) (fi.1.1 tN)
      have hgl := gcd_lt (x := jct 1 (fi.1.1 sN) (fi.1.1 tN)) (y := jct 0 (fi.1.1 sN) (fi.1.1 tN)) (by omega) (by omega)
      refine lv_aload_n hx hb dX3_alike_16 rfl (lv_at hl 0 rfl) ?_
      refine lv_iconst (v := (nI 0)) hx hb dX3_alike_17 (by decide) ?_
      refine lv_iload_n hx hb dX3_alike_18 rfl (lv_at hl 1 rfl) ?_
      refine lv_iload_n hx hb dX3_alike_19 rfl (lv_at hl 2 rfl) ?_
      refine va_calli (va_runV (As := [.int (nI 0), .int (nI sN), .int (nI tN)]) (rest := []) ⟨hx, hb, hml, hown, hts⟩ (k_X3_countJoin l D T A fi.2.2.1 fi.2.2.2.1 fi.2.2.2.2 sc W0 me co 0 sN tN (by decide) (hsN) (htN)) (cwV 3 hts gX3_alike_X3_countJoin rfl rfl rfl (by decide +kernel) ⟨Nat.le_of_ble_eq_true rfl, Nat.le_of_ble_eq_true rfl⟩) (pre_V (Φ := fun X => PSr D T X A fi.2.2.1 fi.2.2.2.1 fi.2.2.2.2 sc W0 me co) hK (hP.2.1) rfl hP) rfl rfl hl.1 rfl (lv_room (Nat.le_of_ble_eq_true rfl)) dX3_alike_20 ⟨Nat.le_of_ble_eq_true rfl, Nat.le_of_ble_eq_true rfl⟩) hS (fun q _ h => by rw [h]; exact hSx 5 (by decide)) (fun q h => by rw [h]; exact hSx 5 (by decide)) (fun r_3 u_1 t H_1 locs ht hvm hw hB hz hk hS => ?_)
      rw [ht] at hB
      try dsimp only at hw
      try dsimp only at hB
      subst hw
      have hP := hB
      refine top_i (x' := (nI (jct 0 (fi.1.1 sN) (fi.1.1 tN)))) (congrArg nI (jct_cong (fun x h => hR0.1 _ hsN x h) (fun x h => hR0.1 _ htN x h))) ?_
      refine lv_istore (lv' := [(4, .int (nI (jct 0 (fi.1.1 sN) (fi.1.1 tN)))), (0, .ref (A 0)), (1, .int (nI sN)), (2, .int (nI tN)), (3, .int x)]) hx hb dX3_alike_23 hl (by decide) rfl (fun ls hl => ?_)
      refine lv_aload_n hx hb dX3_alike_25 rfl (lv_at hl 1 rfl) ?_
      refine lv_iconst (v := (nI 1)) hx hb dX3_alike_26 (by decide) ?_
      refine lv_iload_n hx hb dX3_alike_27 rfl (lv_at hl 2 rfl) ?_
      refine lv_iload_n hx hb dX3_alike_28 rfl (lv_at hl 3 rfl) ?_
      refine va_calli (va_runV (As := [.int (nI 1), .int (nI sN), .int (nI tN)]) (rest := []) ⟨hx, hb, hml, hown, hts⟩ (k_X3_countJoin l D T A fi.2.2.1 fi.2.2.2.1 fi.2.2.2.2 u_1 W0 me co 1 sN tN (by decide) (hsN) (htN)) (cwV 3 hts gX3_alike_X3_countJoin rfl rfl rfl (by decide +kernel) ⟨Nat.le_of_ble_eq_true rfl, Nat.le_of_ble_eq_true rfl⟩) (pre_V (Φ := fun X => PSr D T X A fi.2.2.1 fi.2.2.2.1 fi.2.2.2.2 u_1 W0 me co) hK (hP.2.1) rfl hP) rfl rfl hl.1 rfl (lv_room (Nat.le_of_ble_eq_true rfl)) dX3_alike_29 ⟨Nat.le_of_ble_eq_true rfl, Nat.le_of_ble_eq_true rfl⟩) hS (fun q _ h => by rw [h]; exact hSx 5 (by decide)) (fun q h => by rw [h]; exact hSx 5 (by decide)) (fun r_4 u_2 t H_2 locs ht hvm hw hB hz hk hS => ?_)
      rw [ht] at hB
      try dsimp only at hw
      try dsimp only at hB
      subst hw
      have hP := hB
      refine top_i (x' := (nI (jct 1 (fi.1.1 sN) (fi.1.1 tN)))) (congrArg nI (jct_cong (fun x h => hR0.1 _ hsN x h) (fun x h => hR0.1 _ htN x h))) ?_
      refine lv_istore (lv' := [(5, .int (nI (jct 1 (fi.1.1 sN) (fi.1.1 tN)))), (4, .int (nI (jct 0 (fi.1.1 sN) (fi.1.1 tN)))), (0, .ref (A 0)), (1, .int (nI sN)), (2, .int (nI tN)), (3, .int x)]) hx hb dX3_alike_32 hl (by decide) rfl (fun ls hl => ?_)
      refine lv_iload hx hb dX3_alike_34 (lv_at hl 0 rfl) ?_
      refine lv_iload hx hb dX3_alike_36 (lv_at hl 1 rfl) ?_
      refine vp_callSi (va_Run.run (va_runS (As := [.int (nI (jct 1 (fi.1.1 sN) (fi.1.1 tN))), .int (nI (jct 0 (fi.1.1 sN) (fi.1.1 tN)))]) (rest := []) ⟨hx, hb, hml, hown, hts⟩ (k_X3_greatestDivisor l D T (jct 1 (fi.1.1 sN) (fi.1.1 tN)) (jct 0 (fi.1.1 sN) (fi.1.1 tN)) (by omega) (by omega)) (va_cwS 2 hts gX3_alike_X3_greatestDivisor rfl rfl rfl (by decide +kernel) ⟨Nat.le_of_ble_eq_true rfl, Nat.le_of_ble_eq_true rfl⟩) (pre_S (Φ := fun X => True) hK trivial) rfl rfl hl.1 rfl (lv_room (Nat.le_of_ble_eq_true rfl)) dX3_alike_38 ⟨Nat.le_of_ble_eq_true rfl, Nat.le_of_ble_eq_true rfl⟩)) (fun r_5 hr_5 => ?_)
      subst hr_5
      refine lv_istore (lv' := [(6, .int (nI (Nat.gcd (jct 1 (fi.1.1 sN) (fi.1.1 tN)) (jct 0 (fi.1.1 sN) (fi.1.1 tN))))), (5, .int (nI (jct 1 (fi.1.1 sN) (fi.1.1 tN)))), (4, .int (nI (jct 0 (fi.1.1 sN) (fi.1.1 tN)))), (0, .ref (A 0)), (1, .int (nI sN)), (2, .int (nI tN)), (3, .int x)]) hx hb dX3_alike_41 hl (by decide) rfl (fun ls hl => ?_)
      refine lv_iload hx hb dX3_alike_43 (lv_at hl 0 rfl) ?_
      refine lv_if_ne (tgt := 50) hx hb dX3_alike_45 (by decide) (fun c_3 => ?_) (fun c_3 => ?_)
      · skip
        have c_3 : ¬ ((Nat.gcd (jct 1 (fi.1.1 sN) (fi.1.1 tN)) (jct 0 (fi.1.1 sN) (fi.1.1 tN))) = 0) := fun z => c_3 ((nI_e0 (a := (Nat.gcd (jct 1 (fi.1.1 sN) (fi.1.1 tN)) (jct 0 (fi.1.1 sN) (fi.1.1 tN)))) (by omega)).mpr z)
        refine lv_iload_n hx hb dX3_alike_50 rfl (lv_at hl 6 rfl) ?_
        refine lv_if_eq (tgt := 59) hx hb dX3_alike_51 (by decide) (fun c_4 => ?_) (fun c_4 => ?_)
        · skip
          refine lv_iload hx hb dX3_alike_59 (lv_at hl 2 rfl) ?_
          refine lv_iload hx hb dX3_alike_61 (lv_at hl 0 rfl) ?_
          refine lv_idiv hx hb dX3_alike_63 (fun z => c_3 ((nI_e0 (by omega)).mp z)) ?_
          refine top_i (pk_div (a := jct 0 (fi.1.1 sN) (fi.1.1 tN)) (d := Nat.gcd (jct 1 (fi.1.1 sN) (fi.1.1 tN)) (jct 0 (fi.1.1 sN) (fi.1.1 tN))) (by omega) (by omega) (by omega)) ?_
          subst hQ
          have hfin : PSE D T H_2 A Sx fi := ⟨W0, me, co, _, hP, hSx, hrb, hbl, hk5, hR0, hRh⟩
          exact W.iret (v := (nI ((jct 0 (fi.1.1 sN) (fi.1.1 tN)) / (Nat.gcd (jct 1 (fi.1.1 sN) (fi.1.1 tN)) (jct 0 (fi.1.1 sN) (fi.1.1 tN)))))) hx hb hr (fun t ht hW => ⟨⟨(nI ((jct 0 (fi.1.1 sN) (fi.1.1 tN)) / (Nat.gcd (jct 1 (fi.1.1 sN) (fi.1.1 tN)) (jct 0 (fi.1.1 sN) (fi.1.1 tN))))), (), rfl, (by unfold alkR; rw [if_pos ⟨okN hsN (by decide), okN htN (by decide)⟩, cl_n (by omega), cl_n (by omega)]; unfold alkV; rw [if_neg c_3]; first | rw [if_pos c_4] | rw [if_neg c_4]), by have h9 := hfin; rw [← ht] at h9; exact h9⟩, hS.F ht⟩) hS.2.2 dX3_alike_64
        · skip
          refine lv_iload hx hb dX3_alike_54 (lv_at hl 1 rfl) ?_
          refine lv_goto (tgt := 61) hx hb dX3_alike_56 (by decide) ?_
          refine lv_iload hx hb dX3_alike_61 (lv_at hl 0 rfl) ?_
          refine lv_idiv hx hb dX3_alike_63 (fun z => c_3 ((nI_e0 (by omega)).mp z)) ?_
          refine top_i (pk_div (a := jct 1 (fi.1.1 sN) (fi.1.1 tN)) (d := Nat.gcd (jct 1 (fi.1.1 sN) (fi.1.1 tN)) (jct 0 (fi.1.1 sN) (fi.1.1 tN))) (by omega) (by omega) (by omega)) ?_
          subst hQ
          have hfin : PSE D T H_2 A Sx fi := ⟨W0, me, co, _, hP, hSx, hrb, hbl, hk5, hR0, hRh⟩
          exact W.iret (v := (nI ((jct 1 (fi.1.1 sN) (fi.1.1 tN)) / (Nat.gcd (jct 1 (fi.1.1 sN) (fi.1.1 tN)) (jct 0 (fi.1.1 sN) (fi.1.1 tN)))))) hx hb hr (fun t ht hW => ⟨⟨(nI ((jct 1 (fi.1.1 sN) (fi.1.1 tN)) / (Nat.gcd (jct 1 (fi.1.1 sN) (fi.1.1 tN)) (jct 0 (fi.1.1 sN) (fi.1.1 tN))))), (), rfl, (by unfold alkR; rw [if_pos ⟨okN hsN (by decide), okN htN (by decide)⟩, cl_n (by omega), cl_n (by omega)]; unfold alkV; rw [if_neg c_3]; first | rw [if_pos c_4] | rw [if_neg c_4]), by have h9 := hfin; rw [← ht] at h9; exact h9⟩, hS.F ht⟩) hS.2.2 dX3_alike_64
      · skip
        have c_3 : (Nat.gcd (jct 1 (fi.1.1 sN) (fi.1.1 tN)) (jct 0 (fi.1.1 sN) (fi.1.1 tN))) = 0 := (nI_e0 (a := (Nat.gcd (jct 1 (fi.1.1 sN) (fi.1.1 tN)) (jct 0 (fi.1.1 sN) (fi.1.1 tN)))) (by omega)).mp c_3
        refine lv_iconst (v := (nI 1)) hx hb dX3_alike_48 (by decide) ?_
        subst hQ
        have hfin : PSE D T H_2 A Sx fi := ⟨W0, me, co, _, hP, hSx, hrb, hbl, hk5, hR0, hRh⟩
        exact W.iret (v := (nI 1)) hx hb hr (fun t ht hW => ⟨⟨(nI 1), (), rfl, (by unfold alkR; rw [if_pos ⟨okN hsN (by decide), okN htN (by decide)⟩, cl_n (by omega), cl_n (by omega)]; unfold alkV; exact (if_pos c_3).symm), by have h9 := hfin; rw [← ht] at h9; exact h9⟩, hS.F ht⟩) hS.2.2 dX3_alike_49
    · skip
      have c_2 : (decide (¬ tt < 0 ∧ tt < nI 6)) = false := b2i_0.mp c_2
      have c_2 : ¬ (¬ tt < 0 ∧ tt < nI 6) := of_decide_eq_false c_2
      refine lv_iconst (v := (-1)) hx hb dX3_alike_14 (by decide) ?_
      subst hQ
      have hfin : PSE D T s.heap A Sx fi := ⟨W0, me, co, _, hP, hSx, hrb, hbl, hk5, hR0, hRh⟩
      exact W.iret (v := (-1)) hx hb hr (fun t ht hW => ⟨⟨(-1), (), rfl, (by first | exact (if_neg (fun z => c_1 z.1)).symm | exact (if_neg (fun z => c_2 z.2)).symm), by have h9 := hfin; rw [← ht] at h9; exact h9⟩, hS.F ht⟩) hS.2.2 dX3_alike_15
