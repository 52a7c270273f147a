set_option maxHeartbeats 4000000 in
set_option maxRecDepth 100000 in
theorem law_c13 {p : Program} {l : Launch} {e : Env} {s : State} {m : MethodId} {below : List Frame} {meth : Method} {c : Code} {b L : Nat} {xs : Nat → Int32} {D : va_G} {T : Nat → ClassId} {Q : State → Prop} {Sx Sy : Nat → Prop} (hL : L ≤ 2560) (hx : p.tables.exec = Jvm.exec) (hb : c.code = cL_law) (hml : c.maxLocals = 4) (hown : s.vm.findClass RL = some m.cls) (hts : ∀ w ∈ wsL_law, w.before #[Value.ref b] s = true) (hX : va_X b L xs s s.heap) (hbl : b < s.heap.size) (hK : KS D T s) (hSq : ∀ q, Sx q → s.heap.size ≤ q) (hTq : ∀ q, Sy q → s.heap.size ≤ q) (hdis : ∀ q, Sx q → ¬ Sy q) {n : Nat} (hn : n + 5 ≤ L) {fi : FS} {A M : Nat → Nat} {H : Heap} {locs : List Loc} (hP : PSE D T H A Sx fi) (hM : MSE D T H M Sy fi) (hS : va_S (fun q : Nat => s.heap.size ≤ q) s.heap H locs) {ls : Array Slot} (hl : lv_has ls 4 [(0, .ref b), (1, .ref (A 0)), (2, .ref (M 0)), (3, .int (nI n))]) (kk : ∀ (fi' : FS) (A' : Nat → Nat) (H' : Heap) (locs' : List Loc), A' 0 = A 0 → PSE D T H' A' Sx fi' → MSE D T H' M Sy fi' → va_S (fun q : Nat => s.heap.size ≤ q) s.heap H' locs' → W p l e room_1 s m #[Value.ref b] below meth c H' locs' 113 8645 Q (F0 m 996 ls [])) : W p l e room_1 s m #[Value.ref b] below meth c H locs 113 8645 Q (F0 m 643 ls []) := by
  have hbA : ¬ (fun q : Nat => s.heap.size ≤ q) b := Nat.not_le.mpr hbl
  obtain ⟨W0, me, co, sc, hPr, -⟩ := id hP
  obtain ⟨v, as, pa, bi, at0, hMr, -⟩ := id hM
  refine lv_aload_n hx hb dL_law_643 rfl (lv_at hl 1 rfl) ?_
  refine lv_aload_n hx hb dL_law_644 rfl (lv_at hl 0 rfl) ?_
  refine lv_iload_n hx hb dL_law_645 rfl (lv_at hl 3 rfl) ?_
  refine lv_iconst (v := (nI 1)) hx hb dL_law_646 (by decide) ?_
  refine lv_iadd hx hb dL_law_647 ?_
  refine top_i (nI_add n 1) ?_
  refine va_sld hx hb hX hbl hbA hS (vp_in_nI (show n + 1 < L by omega) (by omega)) dL_law_648 ?_
  refine top_i (x' := (xs (n + 1))) (congrArg xs (nI_clamp (by omega))) ?_
  refine lv_aload_n hx hb dL_law_649 rfl (lv_at hl 0 rfl) ?_
  refine lv_iload_n hx hb dL_law_650 rfl (lv_at hl 3 rfl) ?_
  refine lv_iconst (v := (nI 2)) hx hb dL_law_651 (by decide) ?_
  refine lv_iadd hx hb dL_law_652 ?_
  refine top_i (nI_add n 2) ?_
  refine va_sld hx hb hX hbl hbA hS (vp_in_nI (show n + 2 < L by omega) (by omega)) dL_law_653 ?_
  refine top_i (x' := (xs (n + 2))) (congrArg xs (nI_clamp (by omega))) ?_
  refine lv_aload_n hx hb dL_law_654 rfl (lv_at hl 0 rfl) ?_
  refine lv_iload_n hx hb dL_law_655 rfl (lv_at hl 3 rfl) ?_
  refine lv_iconst (v := (nI 3)) hx hb dL_law_656 (by decide) ?_
  refine lv_iadd hx hb dL_law_657 ?_
  refine top_i (nI_add n 3) ?_
  refine va_sld hx hb hX hbl hbA hS (vp_in_nI (show n + 3 < L by omega) (by omega)) dL_law_658 ?_
  refine top_i (x' := (xs (n + 3))) (congrArg xs (nI_clamp (by omega))) ?_
  refine vp_callSi (va_Run.run (va_runV (As := [.int (xs (n + 1)), .int (xs (n + 2)), .int (xs (n + 3))]) (rest := []) ⟨hx, hb, hml, hown, hts⟩ (k_X3_piece l D T A Sx fi (xs (n + 1)) (xs (n + 2)) (xs (n + 3)) ) (cwV 3 hts gL_law_X3_piece rfl rfl rfl (by decide +kernel) ⟨Nat.le_of_ble_eq_true rfl, Nat.le_of_ble_eq_true rfl⟩) (pre_V (Φ := fun X => PSE D T X A Sx fi) hK (hPr.2.1) rfl hP) rfl rfl hl.1 rfl (lv_room (Nat.le_of_ble_eq_true rfl)) dL_law_659 ⟨Nat.le_of_ble_eq_true rfl, Nat.le_of_ble_eq_true rfl⟩)) (fun r_1 hr_1 => ?_)
  subst hr_1
  refine lv_aload_n hx hb dL_law_662 rfl (lv_at hl 2 rfl) ?_
  refine lv_aload_n hx hb dL_law_663 rfl (lv_at hl 0 rfl) ?_
  refine lv_iload_n hx hb dL_law_664 rfl (lv_at hl 3 rfl) ?_
  refine lv_iconst (v := (nI 1)) hx hb dL_law_665 (by decide) ?_
  refine lv_iadd hx hb dL_law_666 ?_
  refine top_i (nI_add n 1) ?_
  refine va_sld hx hb hX hbl hbA hS (vp_in_nI (show n + 1 < L by omega) (by omega)) dL_law_667 ?_
  refine top_i (x' := (xs (n + 1))) (congrArg xs (nI_clamp (by omega))) ?_
  refine lv_aload_n hx hb dL_law_668 rfl (lv_at hl 0 rfl) ?_
  refine lv_iload_n hx hb dL_law_669 rfl (lv_at hl 3 rfl) ?_
  refine lv_iconst (v := (nI 2)) hx hb dL_law_670 (by decide) ?_
  refine lv_iadd hx hb dL_law_671 ?_
  refine top_i (nI_add n 2) ?_
  refine va_sld hx hb hX hbl hbA hS (vp_in_nI (show n + 2 < L by omega) (by omega)) dL_law_672 ?_
  refine top_i (x' := (xs (n + 2))) (congrArg xs (nI_clamp (by omega))) ?_
  refine lv_aload_n hx hb dL_law_673 rfl (lv_at hl 0 rfl) ?_
  refine lv_iload_n hx hb dL_law_674 rfl (lv_at hl 3 rfl) ?_
  refine lv_iconst (v := (nI 3)) hx hb dL_law_675 (by decide) ?_
  refine lv_iadd hx hb dL_law_676 ?_
  refine top_i (nI_add n 3) ?_
  refine va_sld hx hb hX hbl hbA hS (vp_in_nI (show n + 3 < L by omega) (by omega)) dL_law_677 ?_
  refine top_i (x' := (xs (n + 3))) (congrArg xs (nI_clamp (by omega))) ?_
  refine vp_callSi (va_Run.run (va_runV (As := [.int (xs (n + 1)), .int (xs (n + 2)), .int (xs (n + 3))]) (rest := [.int (pieR fi (xs (n + 1)) (xs (n + 2)) (xs (n + 3)))]) ⟨hx, hb, hml, hown, hts⟩ (k_X4_piece l D T M Sy fi (xs (n + 1)) (xs (n + 2)) (xs (n + 3)) ) (cwV 3 hts gL_law_X4_piece rfl rfl rfl (by decide +kernel) ⟨Nat.le_of_ble_eq_true rfl, Nat.le_of_ble_eq_true rfl⟩) (pre_V (Φ := fun X => MSE D T X M Sy fi) hK (hMr.2.1) rfl hM) rfl rfl hl.1 rfl (lv_room (Nat.le_of_ble_eq_true rfl)) dL_law_678 ⟨Nat.le_of_ble_eq_true rfl, Nat.le_of_ble_eq_true rfl⟩)) (fun r_2 hr_2 => ?_)
  subst hr_2
  refine lv_icmp_eq (tgt := 996) hx hb dL_law_681 (by decide) (fun c_1 => ?_) (fun c_1 => ?_)
  · skip
    exact kk fi A H locs rfl hP hM hS
  · skip
    exact absurd rfl c_1
set_option maxHeartbeats 4000000 in
set_option maxRecDepth 100000 in
theorem law_c14 {p : Program} {l : Launch} {e : Env} {s : State} {m : MethodId} {below : List Frame} {meth : Method} {c : Code} {b L : Nat} {xs : Nat → Int32} {D : va_G} {T : Nat → ClassId} {Q : State → Prop} {Sx Sy : Nat → Prop} (hL : L ≤ 2560) (hx : p.tables.exec = Jvm.exec) (hb : c.code = cL_law) (hml : c.maxLocals = 4) (hown : s.vm.findClass RL = some m.cls) (hts : ∀ w ∈ wsL_law, w.before #[Value.ref b] s = true) (hX : va_X b L xs s s.heap) (hbl : b < s.heap.size) (hK : KS D T s) (hSq : ∀ q, Sx q → s.heap.size ≤ q) (hTq : ∀ q, Sy q → s.heap.size ≤ q) (hdis : ∀ q, Sx q → ¬ Sy q) {n : Nat} (hn : n + 5 ≤ L) {fi : FS} {A M : Nat → Nat} {H : Heap} {locs : List Loc} (hP : PSE D T H A Sx fi) (hM : MSE D T H M Sy fi) (hS : va_S (fun q : Nat => s.heap.size ≤ q) s.heap H locs) {ls : Array Slot} (hl : lv_has ls 4 [(0, .ref b), (1, .ref (A 0)), (2, .ref (M 0)), (3, .int (nI n))]) (kk : ∀ (fi' : FS) (A' : Nat → Nat) (H' : Heap) (locs' : List Loc), A' 0 = A 0 → PSE D T H' A' Sx fi' → MSE D T H' M Sy fi' → va_S (fun q : Nat => s.heap.size ≤ q) s.heap H' locs' → W p l e room_1 s m #[Value.ref b] below meth c H' locs' 113 8645 Q (F0 m 996 ls [])) : W p l e room_1 s m #[Value.ref b] below meth c H locs 113 8645 Q (F0 m 686 ls []) := by
  have hbA : ¬ (fun q : Nat => s.heap.size ≤ q) b := Nat.not_le.mpr hbl
  obtain ⟨W0, me, co, sc, hPr, -⟩ := id hP
  obtain ⟨v, as, pa, bi, at0, hMr, -⟩ := id hM
  refine lv_aload_n hx hb dL_law_686 rfl (lv_at hl 1 rfl) ?_
  refine lv_aload_n hx hb dL_law_687 rfl (lv_at hl 0 rfl) ?_
  refine lv_iload_n hx hb dL_law_688 rfl (lv_at hl 3 rfl) ?_
  refine lv_iconst (v := (nI 1)) hx hb dL_law_689 (by decide) ?_
  refine lv_iadd hx hb dL_law_690 ?_
  refine top_i (nI_add n 1) ?_
  refine va_sld hx hb hX hbl hbA hS (vp_in_nI (show n + 1 < L by omega) (by omega)) dL_law_691 ?_
  refine top_i (x' := (xs (n + 1))) (congrArg xs (nI_clamp (by omega))) ?_
  refine vp_callSi (va_Run.run (va_runV (As := [.int (xs (n + 1))]) (rest := []) ⟨hx, hb, hml, hown, hts⟩ (k_X3_bytes l D T A Sx fi (xs (n + 1)) ) (cwV 1 hts gL_law_X3_bytes rfl rfl rfl (by decide +kernel) ⟨Nat.le_of_ble_eq_true rfl, Nat.le_of_ble_eq_true rfl⟩) (pre_V (Φ := fun X => PSE D T X A Sx fi) hK (hPr.2.1) rfl hP) rfl rfl hl.1 rfl (lv_room (Nat.le_of_ble_eq_true rfl)) dL_law_692 ⟨Nat.le_of_ble_eq_true rfl, Nat.le_of_ble_eq_true rfl⟩)) (fun r_1 hr_1 => ?_)
  subst hr_1
  refine lv_aload_n hx hb dL_law_695 rfl (lv_at hl 2 rfl) ?_
  refine lv_aload_n hx hb dL_law_696 rfl (lv_at hl 0 rfl) ?_
  refine lv_iload_n hx hb dL_law_697 rfl (lv_at hl 3 rfl) ?_
  refine lv_iconst (v := (nI 1)) hx hb dL_law_698 (by decide) ?_
  refine lv_iadd hx hb dL_law_699 ?_
  refine top_i (nI_add n 1) ?_
  refine va_sld hx hb hX hbl hbA hS (vp_in_nI (show n + 1 < L by omega) (by omega)) dL_law_700 ?_
  refine top_i (x' := (xs (n + 1))) (congrArg xs (nI_clamp (by omega))) ?_
  refine vp_callSi (va_Run.run (va_runV (As := [.int (xs (n + 1))]) (rest := [.int (bytR fi (xs (n + 1)))]) ⟨hx, hb, hml, hown, hts⟩ (k_X4_bytes l D T M Sy fi (xs (n + 1)) ) (cwV 1 hts gL_law_X4_bytes rfl rfl rfl (by decide +kernel) ⟨Nat.le_of_ble_eq_true rfl, Nat.le_of_ble_eq_true rfl⟩) (pre_V (Φ := fun X => MSE D T X M Sy fi) hK (hMr.2.1) rfl hM) rfl rfl hl.1 rfl (lv_room (Nat.le_of_ble_eq_true rfl)) dL_law_701 ⟨Nat.le_of_ble_eq_true rfl, Nat.le_of_ble_eq_true rfl⟩)) (fun r_2 hr_2 => ?_)
  subst hr_2
  refine lv_icmp_eq (tgt := 996) hx hb dL_law_704 (by decide) (fun c_1 => ?_) (fun c_1 => ?_)
  · skip
    exact kk fi A H locs rfl hP hM hS
  · skip
    exact absurd rfl c_1
set_option maxHeartbeats 4000000 in
set_option maxRecDepth 100000 in
theorem law_c15 {p : Program} {l : Launch} {e : Env} {s : State} {m : MethodId} {below : List Frame} {meth : Method} {c : Code} {b L : Nat} {xs : Nat → Int32} {D : va_G} {T : Nat → ClassId} {Q : State → Prop} {Sx Sy : Nat → Prop} (hL : L ≤ 2560) (hx : p.tables.exec = Jvm.exec) (hb : c.code = cL_law) (hml : c.maxLocals = 4) (hown : s.vm.findClass RL = some m.cls) (hts : ∀ w ∈ wsL_law, w.before #[Value.ref b] s = true) (hX : va_X b L xs s s.heap) (hbl : b < s.heap.size) (hK : KS D T s) (hSq : ∀ q, Sx q → s.heap.size ≤ q) (hTq : ∀ q, Sy q → s.heap.size ≤ q) (hdis : ∀ q, Sx q → ¬ Sy q) {n : Nat} (hn : n + 5 ≤ L) {fi : FS} {A M : Nat → Nat} {H : Heap} {locs : List Loc} (hP : PSE D T H A Sx fi) (hM : MSE D T H M Sy fi) (hS : va_S (fun q : Nat => s.heap.size ≤ q) s.heap H locs) {ls : Array Slot} (hl : lv_has ls 4 [(0, .ref b), (1, .ref (A 0)), (2, .ref (M 0)), (3, .int (nI n))]) (kk : ∀ (fi' : FS) (A' : Nat → Nat) (H' : Heap) (locs' : List Loc), A' 0 = A 0 → PSE D T H' A' Sx fi' → MSE D T H' M Sy fi' → va_S (fun q : Nat => s.heap.size ≤ q) s.heap H' locs' → W p l e room_1 s m #[Value.ref b] below meth c H' locs' 113 8645 Q (F0 m 996 ls [])) : W p l e room_1 s m #[Value.ref b] below meth c H locs 113 8645 Q (F0 m 709 ls []) := by
  have hbA : ¬ (fun q : Nat => s.heap.size ≤ q) b := Nat.not_le.mpr hbl
  obtain ⟨W0, me, co, sc, hPr, -⟩ := id hP
  obtain ⟨v, as, pa, bi, at0, hMr, -⟩ := id hM
  refine lv_aload_n hx hb dL_law_709 rfl (lv_at hl 1 rfl) ?_
  refine lv_aload_n hx hb dL_law_710 rfl (lv_at hl 0 rfl) ?_
  refine lv_iload_n hx hb dL_law_711 rfl (lv_at hl 3 rfl) ?_
  refine lv_iconst (v := (nI 1)) hx hb dL_law_712 (by decide) ?_
  refine lv_iadd hx hb dL_law_713 ?_
  refine top_i (nI_add n 1) ?_
  refine va_sld hx hb hX hbl hbA hS (vp_in_nI (show n + 1 < L by omega) (by omega)) dL_law_714 ?_
  refine top_i (x' := (xs (n + 1))) (congrArg xs (nI_clamp (by omega))) ?_
  refine lv_aload_n hx hb dL_law_715 rfl (lv_at hl 0 rfl) ?_
  refine lv_iload_n hx hb dL_law_716 rfl (lv_at hl 3 rfl) ?_
  refine lv_iconst (v := (nI 2)) hx hb dL_law_717 (by decide) ?_
  refine lv_iadd hx hb dL_law_718 ?_
  refine top_i (nI_add n 2) ?_
  refine va_sld hx hb hX hbl hbA hS (vp_in_nI (show n + 2 < L by omega) (by omega)) dL_law_719 ?_
  refine top_i (x' := (xs (n + 2))) (congrArg xs (nI_clamp (by omega))) ?_
  refine vp_callSi (va_Run.run (va_runV (As := [.int (xs (n + 1)), .int (xs (n + 2))]) (rest := []) ⟨hx, hb, hml, hown, hts⟩ (k_X3_byteAt l D T A Sx fi (xs (n + 1)) (xs (n + 2)) ) (cwV 2 hts gL_law_X3_byteAt rfl rfl rfl (by decide +kernel) ⟨Nat.le_of_ble_eq_true rfl, Nat.le_of_ble_eq_true rfl⟩) (pre_V (Φ := fun X => PSE D T X A Sx fi) hK (hPr.2.1) rfl hP) rfl rfl hl.1 rfl (lv_room (Nat.le_of_ble_eq_true rfl)) dL_law_720 ⟨Nat.le_of_ble_eq_true rfl, Nat.le_of_ble_eq_true rfl⟩)) (fun r_1 hr_1 => ?_)
  subst hr_1
  refine lv_aload_n hx hb dL_law_723 rfl (lv_at hl 2 rfl) ?_
  refine lv_aload_n hx hb dL_law_724 rfl (lv_at hl 0 rfl) ?_
  refine lv_iload_n hx hb dL_law_725 rfl (lv_at hl 3 rfl) ?_
  refine lv_iconst (v := (nI 1)) hx hb dL_law_726 (by decide) ?_
  refine lv_iadd hx hb dL_law_727 ?_
  refine top_i (nI_add n 1) ?_
  refine va_sld hx hb hX hbl hbA hS (vp_in_nI (show n + 1 < L by omega) (by omega)) dL_law_728 ?_
  refine top_i (x' := (xs (n + 1))) (congrArg xs (nI_clamp (by omega))) ?_
  refine lv_aload_n hx hb dL_law_729 rfl (lv_at hl 0 rfl) ?_
  refine lv_iload_n hx hb dL_law_730 rfl (lv_at hl 3 rfl) ?_
  refine lv_iconst (v := (nI 2)) hx hb dL_law_731 (by decide) ?_
  refine lv_iadd hx hb dL_law_732 ?_
  refine top_i (nI_add n 2) ?_
  refine va_sld hx hb hX hbl hbA hS (vp_in_nI (show n + 2 < L by omega) (by omega)) dL_law_733 ?_
  refine top_i (x' := (xs (n + 2))) (congrArg xs (nI_clamp (by omega))) ?_
  refine vp_callSi (va_Run.run (va_runV (As := [.int (xs (n + 1)), .int (xs (n + 2))]) (rest := [.int (byaR fi (xs (n + 1)) (xs (n + 2)))]) ⟨hx, hb, hml, hown, hts⟩ (k_X4_byteAt l D T M Sy fi (xs (n + 1)) (xs (n + 2)) ) (cwV 2 hts gL_law_X4_byteAt rfl rfl rfl (by decide +kernel) ⟨Nat.le_of_ble_eq_true rfl, Nat.le_of_ble_eq_true rfl⟩) (pre_V (Φ := fun X => MSE D T X M Sy fi) hK (hMr.2.1) rfl hM) rfl rfl hl.1 rfl (lv_room (Nat.le_of_ble_eq_true rfl)) dL_law_734 ⟨Nat.le_of_ble_eq_true rfl, Nat.le_of_ble_eq_true rfl⟩)) (fun r_2 hr_2 => ?_)
  subst hr_2
  refine lv_icmp_eq (tgt := 996) hx hb dL_law_737 (by decide) (fun c_1 => ?_) (fun c_1 => ?_)
  · skip
    exact kk fi A H locs rfl hP hM hS
  · skip
    exact absurd rfl c_1
set_option maxHeartbeats 4000000 in
set_option maxRecDepth 100000 in
theorem law_c16 {p : Program} {l : Launch} {e : Env} {s : State} {m : MethodId} {below : List Frame} {meth : Method} {c : Code} {b L : Nat} {xs : Nat → Int32} {D : va_G} {T : Nat → ClassId} {Q : State → Prop} {Sx Sy : Nat → Prop} (hL : L ≤ 2560) (hx : p.tables.exec = Jvm.exec) (hb : c.code = cL_law) (hml : c.maxLocals = 4) (hown : s.vm.findClass RL = some m.cls) (hts : ∀ w ∈ wsL_law, w.before #[Value.ref b] s = true) (hX : va_X b L xs s s.heap) (hbl : b < s.heap.size) (hK : KS D T s) (hSq : ∀ q, Sx q → s.heap.size ≤ q) (hTq : ∀ q, Sy q → s.heap.size ≤ q) (hdis : ∀ q, Sx q → ¬ Sy q) {n : Nat} (hn : n + 5 ≤ L) {fi : FS} {A M : Nat → Nat} {H : Heap} {locs : List Loc} (hP : PSE D T H A Sx fi) (hM : MSE D T H M Sy fi) (hS : va_S (fun q : Nat => s.heap.size ≤ q) s.heap H locs) {ls : Array Slot} (hl : lv_has ls 4 [(0, .ref b), (1, .ref (A 0)), (2, .ref (M 0)), (3, .int (nI n))]) (kk : ∀ (fi' : FS) (A' : Nat → Nat) (H' : Heap) (locs' : List Loc), A' 0 = A 0 → PSE D T H' A' Sx fi' → MSE D T H' M Sy fi' → va_S (fun q : Nat => s.heap.size ≤ q) s.heap H' locs' → W p l e room_1 s m #[Value.ref b] below meth c H' locs' 113 8645 Q (F0 m 996 ls [])) : W p l e room_1 s m #[Value.ref b] below meth c H locs 113 8645 Q (F0 m 742 ls []) := by
  have hbA : ¬ (fun q : Nat => s.heap.size ≤ q) b := Nat.not_le.mpr hbl
  obtain ⟨W0, me, co, sc, hPr, -⟩ := id hP
  obtain ⟨v, as, pa, bi, at0, hMr, -⟩ := id hM
  refine lv_aload_n hx hb dL_law_742 rfl (lv_at hl 1 rfl) ?_
  refine lv_aload_n hx hb dL_law_743 rfl (lv_at hl 0 rfl) ?_
  refine lv_iload_n hx hb dL_law_744 rfl (lv_at hl 3 rfl) ?_
  refine lv_iconst (v := (nI 1)) hx hb dL_law_745 (by decide) ?_
  refine lv_iadd hx hb dL_law_746 ?_
  refine top_i (nI_add n 1) ?_
  refine va_sld hx hb hX hbl hbA hS (vp_in_nI (show n + 1 < L by omega) (by omega)) dL_law_747 ?_
  refine top_i (x' := (xs (n + 1))) (congrArg xs (nI_clamp (by omega))) ?_
  refine va_calli (va_runV (As := [.int (xs (n + 1))]) (rest := []) ⟨hx, hb, hml, hown, hts⟩ (k_X3_put l D T A Sx fi (xs (n + 1)) ) (cwV 1 hts gL_law_X3_put rfl rfl rfl (by decide +kernel) ⟨Nat.le_of_ble_eq_true rfl, Nat.le_of_ble_eq_true rfl⟩) (pre_V (Φ := fun X => PSE D T X A Sx fi) hK (hPr.2.1) rfl hP) rfl rfl hl.1 rfl (lv_room (Nat.le_of_ble_eq_true rfl)) dL_law_748 ⟨Nat.le_of_ble_eq_true rfl, Nat.le_of_ble_eq_true rfl⟩) hS (fun q _ h => hSq q h) (fun q h => hSq q h) (fun r_1 u_1 t H_1 locs ht hvm hw hB hz hk hS => ?_)
  rw [ht] at hB
  try dsimp only at hw
  try dsimp only at hB
  subst hw
  obtain ⟨B9, hB0, hP⟩ := hB
  have hF9 : Fr _ _ _ := hk
  have hM := hM.frm hF9 (fun q h z => hdis q z h)
  obtain ⟨v, as, pa, bi, at0, hMr, -⟩ := id hM
  refine lv_aload_n hx hb dL_law_751 rfl (lv_at hl 2 rfl) ?_
  refine lv_aload_n hx hb dL_law_752 rfl (lv_at hl 0 rfl) ?_
  refine lv_iload_n hx hb dL_law_753 rfl (lv_at hl 3 rfl) ?_
  refine lv_iconst (v := (nI 1)) hx hb dL_law_754 (by decide) ?_
  refine lv_iadd hx hb dL_law_755 ?_
  refine top_i (nI_add n 1) ?_
  refine va_sld hx hb hX hbl hbA hS (vp_in_nI (show n + 1 < L by omega) (by omega)) dL_law_756 ?_
  refine top_i (x' := (xs (n + 1))) (congrArg xs (nI_clamp (by omega))) ?_
  refine va_calli (va_runV (As := [.int (xs (n + 1))]) (rest := [.int (putR fi (xs (n + 1)))]) ⟨hx, hb, hml, hown, hts⟩ (k_X4_put l D T M Sy fi (xs (n + 1)) ) (cwV 1 hts gL_law_X4_put rfl rfl rfl (by decide +kernel) ⟨Nat.le_of_ble_eq_true rfl, Nat.le_of_ble_eq_true rfl⟩) (pre_V (Φ := fun X => MSE D T X M Sy fi) hK (hMr.2.1) rfl hM) rfl rfl hl.1 rfl (lv_room (Nat.le_of_ble_eq_true rfl)) dL_law_757 ⟨Nat.le_of_ble_eq_true rfl, Nat.le_of_ble_eq_true rfl⟩) hS (fun q _ h => hTq q h) (fun q h => hTq q h) (fun r_2 u_2 t H_2 locs ht hvm hw hB hz hk hS => ?_)
  rw [ht] at hB
  try dsimp only at hw
  try dsimp only at hB
  subst hw
  have hF9 : Fr _ _ _ := hk
  have hP := hP.frm hF9 (fun q h => hdis q h)
  have hM := hB
  refine lv_icmp_eq (tgt := 996) hx hb dL_law_760 (by decide) (fun c_1 => ?_) (fun c_1 => ?_)
  · skip
    exact kk _ B9 _ _ hB0 hP hM hS
  · skip
    exact absurd rfl c_1
set_option maxHeartbeats 4000000 in
set_option maxRecDepth 100000 in
theorem law_c17 {p : Program} {l : Launch} {e : Env} {s : State} {m : MethodId} {below : List Frame} {meth : Method} {c : Code} {b L : Nat} {xs : Nat → Int32} {D : va_G} {T : Nat → ClassId} {Q : State → Prop} {Sx Sy : Nat → Prop} (hL : L ≤ 2560) (hx : p.tables.exec = Jvm.exec) (hb : c.code = cL_law) (hml : c.maxLocals = 4) (hown : s.vm.findClass RL = some m.cls) (hts : ∀ w ∈ wsL_law, w.before #[Value.ref b] s = true) (hX : va_X b L xs s s.heap) (hbl : b < s.heap.size) (hK : KS D T s) (hSq : ∀ q, Sx q → s.heap.size ≤ q) (hTq : ∀ q, Sy q → s.heap.size ≤ q) (hdis : ∀ q, Sx q → ¬ Sy q) {n : Nat} (hn : n + 5 ≤ L) {fi : FS} {A M : Nat → Nat} {H : Heap} {locs : List Loc} (hP : PSE D T H A Sx fi) (hM : MSE D T H M Sy fi) (hS : va_S (fun q : Nat => s.heap.size ≤ q) s.heap H locs) {ls : Array Slot} (hl : lv_has ls 4 [(0, .ref b), (1, .ref (A 0)), (2, .ref (M 0)), (3, .int (nI n))]) (kk : ∀ (fi' : FS) (A' : Nat → Nat) (H' : Heap) (locs' : List Loc), A' 0 = A 0 → PSE D T H' A' Sx fi' → MSE D T H' M Sy fi' → va_S (fun q : Nat => s.heap.size ≤ q) s.heap H' locs' → W p l e room_1 s m #[Value.ref b] below meth c H' locs' 113 8645 Q (F0 m 996 ls [])) : W p l e room_1 s m #[Value.ref b] below meth c H locs 113 8645 Q (F0 m 765 ls []) := by
  have hbA : ¬ (fun q : Nat => s.heap.size ≤ q) b := Nat.not_le.mpr hbl
  obtain ⟨W0, me, co, sc, hPr, -⟩ := id hP
  obtain ⟨v, as, pa, bi, at0, hMr, -⟩ := id hM
  refine lv_aload_n hx hb dL_law_765 rfl (lv_at hl 1 rfl) ?_
  refine va_calli (va_runV (As := []) (rest := []) ⟨hx, hb, hml, hown, hts⟩ (k_X3_clear l D T A Sx fi ) (cwV 0 hts gL_law_X3_clear rfl rfl rfl (by decide +kernel) ⟨Nat.le_of_ble_eq_true rfl, Nat.le_of_ble_eq_true rfl⟩) (pre_V (Φ := fun X => PSE D T X A Sx fi) hK (hPr.2.1) rfl hP) rfl rfl hl.1 rfl (lv_room (Nat.le_of_ble_eq_true rfl)) dL_law_766 ⟨Nat.le_of_ble_eq_true rfl, Nat.le_of_ble_eq_true rfl⟩) hS (fun q _ h => hSq q h) (fun q h => hSq q h) (fun r_1 u_1 t H_1 locs ht hvm hw hB hz hk hS => ?_)
  rw [ht] at hB
  try dsimp only at hw
  try dsimp only at hB
  subst hw
  obtain ⟨B9, hB0, hP⟩ := hB
  have hF9 : Fr _ _ _ := hk
  have hM := hM.frm hF9 (fun q h z => hdis q z h)
  obtain ⟨v, as, pa, bi, at0, hMr, -⟩ := id hM
  refine lv_aload_n hx hb dL_law_769 rfl (lv_at hl 2 rfl) ?_
  refine va_calli (va_runV (As := []) (rest := [.int (cleR fi)]) ⟨hx, hb, hml, hown, hts⟩ (k_X4_clear l D T M Sy fi ) (cwV 0 hts gL_law_X4_clear rfl rfl rfl (by decide +kernel) ⟨Nat.le_of_ble_eq_true rfl, Nat.le_of_ble_eq_true rfl⟩) (pre_V (Φ := fun X => MSE D T X M Sy fi) hK (hMr.2.1) rfl hM) rfl rfl hl.1 rfl (lv_room (Nat.le_of_ble_eq_true rfl)) dL_law_770 ⟨Nat.le_of_ble_eq_true rfl, Nat.le_of_ble_eq_true rfl⟩) hS (fun q _ h => hTq q h) (fun q h => hTq q h) (fun r_2 u_2 t H_2 locs ht hvm hw hB hz hk hS => ?_)
  rw [ht] at hB
  try dsimp only at hw
  try dsimp only at hB
  subst hw
  have hF9 : Fr _ _ _ := hk
  have hP := hP.frm hF9 (fun q h => hdis q h)
  have hM := hB
  refine lv_icmp_eq (tgt := 996) hx hb dL_law_773 (by decide) (fun c_1 => ?_) (fun c_1 => ?_)
  · skip
    exact kk _ B9 _ _ hB0 hP hM hS
  · skip
    exact absurd rfl c_1
set_option maxHeartbeats 4000000 in
set_option maxRecDepth 100000 in
theorem law_c18 {p : Program} {l : Launch} {e : Env} {s : State} {m : MethodId} {below : List Frame} {meth : Method} {c : Code} {b L : Nat} {xs : Nat → Int32} {D : va_G} {T : Nat → ClassId} {Q : State → Prop} {Sx Sy : Nat → Prop} (hL : L ≤ 2560) (hx : p.tables.exec = Jvm.exec) (hb : c.code = cL_law) (hml : c.maxLocals = 4) (hown : s.vm.findClass RL = some m.cls) (hts : ∀ w ∈ wsL_law, w.before #[Value.ref b] s = true) (hX : va_X b L xs s s.heap) (hbl : b < s.heap.size) (hK : KS D T s) (hSq : ∀ q, Sx q → s.heap.size ≤ q) (hTq : ∀ q, Sy q → s.heap.size ≤ q) (hdis : ∀ q, Sx q → ¬ Sy q) {n : Nat} (hn : n + 5 ≤ L) {fi : FS} {A M : Nat → Nat} {H : Heap} {locs : List Loc} (hP : PSE D T H A Sx fi) (hM : MSE D T H M Sy fi) (hS : va_S (fun q : Nat => s.heap.size ≤ q) s.heap H locs) {ls : Array Slot} (hl : lv_has ls 4 [(0, .ref b), (1, .ref (A 0)), (2, .ref (M 0)), (3, .int (nI n))]) (kk : ∀ (fi' : FS) (A' : Nat → Nat) (H' : Heap) (locs' : List Loc), A' 0 = A 0 → PSE D T H' A' Sx fi' → MSE D T H' M Sy fi' → va_S (fun q : Nat => s.heap.size ≤ q) s.heap H' locs' → W p l e room_1 s m #[Value.ref b] below meth c H' locs' 113 8645 Q (F0 m 996 ls [])) : W p l e room_1 s m #[Value.ref b] below meth c H locs 113 8645 Q (F0 m 778 ls []) := by
  have hbA : ¬ (fun q : Nat => s.heap.size ≤ q) b := Nat.not_le.mpr hbl
  obtain ⟨W0, me, co, sc, hPr, -⟩ := id hP
  obtain ⟨v, as, pa, bi, at0, hMr, -⟩ := id hM
  refine lv_aload_n hx hb dL_law_778 rfl (lv_at hl 1 rfl) ?_
  refine lv_aload_n hx hb dL_law_779 rfl (lv_at hl 0 rfl) ?_
  refine lv_iload_n hx hb dL_law_780 rfl (lv_at hl 3 rfl) ?_
  refine lv_iconst (v := (nI 1)) hx hb dL_law_781 (by decide) ?_
  refine lv_iadd hx hb dL_law_782 ?_
  refine top_i (nI_add n 1) ?_
  refine va_sld hx hb hX hbl hbA hS (vp_in_nI (show n + 1 < L by omega) (by omega)) dL_law_783 ?_
  refine top_i (x' := (xs (n + 1))) (congrArg xs (nI_clamp (by omega))) ?_
  refine va_calli (va_runV (As := [.int (xs (n + 1))]) (rest := []) ⟨hx, hb, hml, hown, hts⟩ (k_X3_read l D T A Sx fi (xs (n + 1)) ) (cwV 1 hts gL_law_X3_read rfl rfl rfl (by decide +kernel) ⟨Nat.le_of_ble_eq_true rfl, Nat.le_of_ble_eq_true rfl⟩) (pre_V (Φ := fun X => PSE D T X A Sx fi) hK (hPr.2.1) rfl hP) rfl rfl hl.1 rfl (lv_room (Nat.le_of_ble_eq_true rfl)) dL_law_784 ⟨Nat.le_of_ble_eq_true rfl, Nat.le_of_ble_eq_true rfl⟩) hS (fun q _ h => hSq q h) (fun q h => hSq q h) (fun r_1 u_1 t H_1 locs ht hvm hw hB hz hk hS => ?_)
  rw [ht] at hB
  try dsimp only at hw
  try dsimp only at hB
  subst hw
  obtain ⟨B9, hB0, hP⟩ := hB
  have hF9 : Fr _ _ _ := hk
  have hM := hM.frm hF9 (fun q h z => hdis q z h)
  obtain ⟨v, as, pa, bi, at0, hMr, -⟩ := id hM
  refine lv_aload_n hx hb dL_law_787 rfl (lv_at hl 2 rfl) ?_
  refine lv_aload_n hx hb dL_law_788 rfl (lv_at hl 0 rfl) ?_
  refine lv_iload_n hx hb dL_law_789 rfl (lv_at hl 3 rfl) ?_
  refine lv_iconst (v := (nI 1)) hx hb dL_law_790 (by decide) ?_
  refine lv_iadd hx hb dL_law_791 ?_
  refine top_i (nI_add n 1) ?_
  refine va_sld hx hb hX hbl hbA hS (vp_in_nI (show n + 1 < L by omega) (by omega)) dL_law_792 ?_
  refine top_i (x' := (xs (n + 1))) (congrArg xs (nI_clamp (by omega))) ?_
  refine va_calli (va_runV (As := [.int (xs (n + 1))]) (rest := [.int (reaR fi (xs (n + 1)))]) ⟨hx, hb, hml, hown, hts⟩ (k_X4_read l D T M Sy fi (xs (n + 1)) ) (cwV 1 hts gL_law_X4_read rfl rfl rfl (by decide +kernel) ⟨Nat.le_of_ble_eq_true rfl, Nat.le_of_ble_eq_true rfl⟩) (pre_V (Φ := fun X => MSE D T X M Sy fi) hK (hMr.2.1) rfl hM) rfl rfl hl.1 rfl (lv_room (Nat.le_of_ble_eq_true rfl)) dL_law_793 ⟨Nat.le_of_ble_eq_true rfl, Nat.le_of_ble_eq_true rfl⟩) hS (fun q _ h => hTq q h) (fun q h => hTq q h) (fun r_2 u_2 t H_2 locs ht hvm hw hB hz hk hS => ?_)
  rw [ht] at hB
  try dsimp only at hw
  try dsimp only at hB
  subst hw
  have hF9 : Fr _ _ _ := hk
  have hP := hP.frm hF9 (fun q h => hdis q h)
  have hM := hB
  refine lv_icmp_eq (tgt := 996) hx hb dL_law_796 (by decide) (fun c_1 => ?_) (fun c_1 => ?_)
  · skip
    exact kk _ B9 _ _ hB0 hP hM hS
  · skip
    exact absurd rfl c_1
set_option maxHeartbeats 4000000 in
set_option maxRecDepth 100000 in
theorem law_c19 {p : Program} {l : Launch} {e : Env} {s : State} {m : MethodId} {below : List Frame} {meth : Method} {c : Code} {b L : Nat} {xs : Nat → Int32} {D : va_G} {T : Nat → ClassId} {Q : State → Prop} {Sx Sy : Nat → Prop} (hL : L ≤ 2560) (hx : p.tables.exec = Jvm.exec) (hb : c.code = cL_law) (hml : c.maxLocals = 4) (hown : s.vm.findClass RL = some m.cls) (hts : ∀ w ∈ wsL_law, w.before #[Value.ref b] s = true) (hX : va_X b L xs s s.heap) (hbl : b < s.heap.size) (hK : KS D T s) (hSq : ∀ q, Sx q → s.heap.size ≤ q) (hTq : ∀ q, Sy q → s.heap.size ≤ q) (hdis : ∀ q, Sx q → ¬ Sy q) {n : Nat} (hn : n + 5 ≤ L) {fi : FS} {A M : Nat → Nat} {H : Heap} {locs : List Loc} (hP : PSE D T H A Sx fi) (hM : MSE D T H M Sy fi) (hS : va_S (fun q : Nat => s.heap.size ≤ q) s.heap H locs) {ls : Array Slot} (hl : lv_has ls 4 [(0, .ref b), (1, .ref (A 0)), (2, .ref (M 0)), (3, .int (nI n))]) (kk : ∀ (fi' : FS) (A' : Nat → Nat) (H' : Heap) (locs' : List Loc), A' 0 = A 0 → PSE D T H' A' Sx fi' → MSE D T H' M Sy fi' → va_S (fun q : Nat => s.heap.size ≤ q) s.heap H' locs' → W p l e room_1 s m #[Value.ref b] below meth c H' locs' 113 8645 Q (F0 m 996 ls [])) : W p l e room_1 s m #[Value.ref b] below meth c H locs 113 8645 Q (F0 m 801 ls []) := by
  have hbA : ¬ (fun q : Nat => s.heap.size ≤ q) b := Nat.not_le.mpr hbl
  obtain ⟨W0, me, co, sc, hPr, -⟩ := id hP
  obtain ⟨v, as, pa, bi, at0, hMr, -⟩ := id hM
  refine lv_aload_n hx hb dL_law_801 rfl (lv_at hl 1 rfl) ?_
  refine lv_aload_n hx hb dL_law_802 rfl (lv_at hl 0 rfl) ?_
  refine lv_iload_n hx hb dL_law_803 rfl (lv_at hl 3 rfl) ?_
  refine lv_iconst (v := (nI 1)) hx hb dL_law_804 (by decide) ?_
  refine lv_iadd hx hb dL_law_805 ?_
  refine top_i (nI_add n 1) ?_
  refine va_sld hx hb hX hbl hbA hS (vp_in_nI (show n + 1 < L by omega) (by omega)) dL_law_806 ?_
  refine top_i (x' := (xs (n + 1))) (congrArg xs (nI_clamp (by omega))) ?_
  refine lv_aload_n hx hb dL_law_807 rfl (lv_at hl 0 rfl) ?_
  refine lv_iload_n hx hb dL_law_808 rfl (lv_at hl 3 rfl) ?_
  refine lv_iconst (v := (nI 2)) hx hb dL_law_809 (by decide) ?_
  refine lv_iadd hx hb dL_law_810 ?_
  refine top_i (nI_add n 2) ?_
  refine va_sld hx hb hX hbl hbA hS (vp_in_nI (show n + 2 < L by omega) (by omega)) dL_law_811 ?_
  refine top_i (x' := (xs (n + 2))) (congrArg xs (nI_clamp (by omega))) ?_
  refine lv_aload_n hx hb dL_law_812 rfl (lv_at hl 0 rfl) ?_
  refine lv_iload_n hx hb dL_law_813 rfl (lv_at hl 3 rfl) ?_
  refine lv_iconst (v := (nI 3)) hx hb dL_law_814 (by decide) ?_
  refine lv_iadd hx hb dL_law_815 ?_
  refine top_i (nI_add n 3) ?_
  refine va_sld hx hb hX hbl hbA hS (vp_in_nI (show n + 3 < L by omega) (by omega)) dL_law_816 ?_
  refine top_i (x' := (xs (n + 3))) (congrArg xs (nI_clamp (by omega))) ?_
  refine va_calli (va_runV (As := [.int (xs (n + 1)), .int (xs (n + 2)), .int (xs (n + 3))]) (rest := []) ⟨hx, hb, hml, hown, hts⟩ (k_X3_compare l D T A Sx fi (xs (n + 1)) (xs (n + 2)) (xs (n + 3)) ) (cwV 3 hts gL_law_X3_compare rfl rfl rfl (by decide +kernel) ⟨Nat.le_of_ble_eq_true rfl, Nat.le_of_ble_eq_true rfl⟩) (pre_V (Φ := fun X => PSE D T X A Sx fi) hK (hPr.2.1) rfl hP) rfl rfl hl.1 rfl (lv_room (Nat.le_of_ble_eq_true rfl)) dL_law_817 ⟨Nat.le_of_ble_eq_true rfl, Nat.le_of_ble_eq_true rfl⟩) hS (fun q _ h => hSq q h) (fun q h => hSq q h) (fun r_1 u_1 t H_1 locs ht hvm hw hB hz hk hS => ?_)
  rw [ht] at hB
  try dsimp only at hw
  try dsimp only at hB
  subst hw
  obtain ⟨B9, hB0, hP⟩ : ∃ B : Nat → Nat, B 0 = A 0 ∧ PSE D T H_1 B Sx fi := ⟨A, rfl, hB⟩
  have hF9 : Fr _ _ _ := hk
  have hM := hM.frm hF9 (fun q h z => hdis q z h)
  obtain ⟨v, as, pa, bi, at0, hMr, -⟩ := id hM
  refine lv_aload_n hx hb dL_law_820 rfl (lv_at hl 2 rfl) ?_
  refine lv_aload_n hx hb dL_law_821 rfl (lv_at hl 0 rfl) ?_
  refine lv_iload_n hx hb dL_law_822 rfl (lv_at hl 3 rfl) ?_
  refine lv_iconst (v := (nI 1)) hx hb dL_law_823 (by decide) ?_
  refine lv_iadd hx hb dL_law_824 ?_
  refine top_i (nI_add n 1) ?_
  refine va_sld hx hb hX hbl hbA hS (vp_in_nI (show n + 1 < L by omega) (by omega)) dL_law_825 ?_
  refine top_i (x' := (xs (n + 1))) (congrArg xs (nI_clamp (by omega))) ?_
  refine lv_aload_n hx hb dL_law_826 rfl (lv_at hl 0 rfl) ?_
  refine lv_iload_n hx hb dL_law_827 rfl (lv_at hl 3 rfl) ?_
  refine lv_iconst (v := (nI 2)) hx hb dL_law_828 (by decide) ?_
  refine lv_iadd hx hb dL_law_829 ?_
  refine top_i (nI_add n 2) ?_
  refine va_sld hx hb hX hbl hbA hS (vp_in_nI (show n + 2 < L by omega) (by omega)) dL_law_830 ?_
  refine top_i (x' := (xs (n + 2))) (congrArg xs (nI_clamp (by omega))) ?_
  refine lv_aload_n hx hb dL_law_831 rfl (lv_at hl 0 rfl) ?_
  refine lv_iload_n hx hb dL_law_832 rfl (lv_at hl 3 rfl) ?_
  refine lv_iconst (v := (nI 3)) hx hb dL_law_833 (by decide) ?_
  refine lv_iadd hx hb dL_law_834 ?_
  refine top_i (nI_add n 3) ?_
  refine va_sld hx hb hX hbl hbA hS (vp_in_nI (show n + 3 < L by omega) (by omega)) dL_law_835 ?_
  refine top_i (x' := (xs (n + 3))) (congrArg xs (nI_clamp (by omega))) ?_
  refine vp_callSi (va_Run.run (va_runV (As := [.int (xs (n + 1)), .int (xs (n + 2)), .int (xs (n + 3))]) (rest := [.int (cmpR fi (xs (n + 1)) (xs (n + 2)) (xs (n + 3)))]) ⟨hx, hb, hml, hown, hts⟩ (k_X4_compare l D T M Sy fi (xs (n + 1)) (xs (n + 2)) (xs (n + 3)) ) (cwV 3 hts gL_law_X4_compare rfl rfl rfl (by decide +kernel) ⟨Nat.le_of_ble_eq_true rfl, Nat.le_of_ble_eq_true rfl⟩) (pre_V (Φ := fun X => MSE D T X M Sy fi) hK (hMr.2.1) rfl hM) rfl rfl hl.1 rfl (lv_room (Nat.le_of_ble_eq_true rfl)) dL_law_836 ⟨Nat.le_of_ble_eq_true rfl, Nat.le_of_ble_eq_true rfl⟩)) (fun r_2 hr_2 => ?_)
  subst hr_2
  refine lv_icmp_eq (tgt := 996) hx hb dL_law_839 (by decide) (fun c_1 => ?_) (fun c_1 => ?_)
  · skip
    exact kk _ B9 _ _ hB0 hP hM hS
  · skip
    exact absurd rfl c_1
set_option maxHeartbeats 4000000 in
set_option maxRecDepth 100000 in
theorem law_c20 {p : Program} {l : Launch} {e : Env} {s : State} {m : MethodId} {below : List Frame} {meth : Method} {c : Code} {b L : Nat} {xs : Nat → Int32} {D : va_G} {T : Nat → ClassId} {Q : State → Prop} {Sx Sy : Nat → Prop} (hL : L ≤ 2560) (hx : p.tables.exec = Jvm.exec) (hb : c.code = cL_law) (hml : c.maxLocals = 4) (hown : s.vm.findClass RL = some m.cls) (hts : ∀ w ∈ wsL_law, w.before #[Value.ref b] s = true) (hX : va_X b L xs s s.heap) (hbl : b < s.heap.size) (hK : KS D T s) (hSq : ∀ q, Sx q → s.heap.size ≤ q) (hTq : ∀ q, Sy q → s.heap.size ≤ q) (hdis : ∀ q, Sx q → ¬ Sy q) {n : Nat} (hn : n + 5 ≤ L) {fi : FS} {A M : Nat → Nat} {H : Heap} {locs : List Loc} (hP : PSE D T H A Sx fi) (hM : MSE D T H M Sy fi) (hS : va_S (fun q : Nat => s.heap.size ≤ q) s.heap H locs) {ls : Array Slot} (hl : lv_has ls 4 [(0, .ref b), (1, .ref (A 0)), (2, .ref (M 0)), (3, .int (nI n))]) (kk : ∀ (fi' : FS) (A' : Nat → Nat) (H' : Heap) (locs' : List Loc), A' 0 = A 0 → PSE D T H' A' Sx fi' → MSE D T H' M Sy fi' → va_S (fun q : Nat => s.heap.size ≤ q) s.heap H' locs' → W p l e room_1 s m #[Value.ref b] below meth c H' locs' 113 8645 Q (F0 m 996 ls [])) : W p l e room_1 s m #[Value.ref b] below meth c H locs 113 8645 Q (F0 m 844 ls []) := by
  have hbA : ¬ (fun q : Nat => s.heap.size ≤ q) b := Nat.not_le.mpr hbl
  obtain ⟨W0, me, co, sc, hPr, -⟩ := id hP
  obtain ⟨v, as, pa, bi, at0, hMr, -⟩ := id hM
  refine lv_aload_n hx hb dL_law_844 rfl (lv_at hl 1 rfl) ?_
  refine lv_aload_n hx hb dL_law_845 rfl (lv_at hl 0 rfl) ?_
  refine lv_iload_n hx hb dL_law_846 rfl (lv_at hl 3 rfl) ?_
  refine lv_iconst (v := (nI 1)) hx hb dL_law_847 (by decide) ?_
  refine lv_iadd hx hb dL_law_848 ?_
  refine top_i (nI_add n 1) ?_
  refine va_sld hx hb hX hbl hbA hS (vp_in_nI (show n + 1 < L by omega) (by omega)) dL_law_849 ?_
  refine top_i (x' := (xs (n + 1))) (congrArg xs (nI_clamp (by omega))) ?_
  refine lv_aload_n hx hb dL_law_850 rfl (lv_at hl 0 rfl) ?_
  refine lv_iload_n hx hb dL_law_851 rfl (lv_at hl 3 rfl) ?_
  refine lv_iconst (v := (nI 2)) hx hb dL_law_852 (by decide) ?_
  refine lv_iadd hx hb dL_law_853 ?_
  refine top_i (nI_add n 2) ?_
  refine va_sld hx hb hX hbl hbA hS (vp_in_nI (show n + 2 < L by omega) (by omega)) dL_law_854 ?_
  refine top_i (x' := (xs (n + 2))) (congrArg xs (nI_clamp (by omega))) ?_
  refine lv_aload_n hx hb dL_law_855 rfl (lv_at hl 0 rfl) ?_
  refine lv_iload_n hx hb dL_law_856 rfl (lv_at hl 3 rfl) ?_
  refine lv_iconst (v := (nI 3)) hx hb dL_law_857 (by decide) ?_
  refine lv_iadd hx hb dL_law_858 ?_
  refine top_i (nI_add n 3) ?_
  refine va_sld hx hb hX hbl hbA hS (vp_in_nI (show n + 3 < L by omega) (by omega)) dL_law_859 ?_
  refine top_i (x' := (xs (n + 3))) (congrArg xs (nI_clamp (by omega))) ?_
  refine lv_if_eq (tgt := 867) hx hb dL_law_860 (by decide) (fun c_1 => ?_) (fun c_1 => ?_)
  · skip
    refine lv_iconst (v := (nI 0)) hx hb dL_law_867 (by decide) ?_
    refine va_calli (va_runV (As := [.int (xs (n + 1)), .int (xs (n + 2)), .int (nI 0)]) (rest := []) ⟨hx, hb, hml, hown, hts⟩ (k_X3_alike l D T A Sx fi (xs (n + 1)) (xs (n + 2)) (nI 0) ) (cwV 3 hts gL_law_X3_alike rfl rfl rfl (by decide +kernel) ⟨Nat.le_of_ble_eq_true rfl, Nat.le_of_ble_eq_true rfl⟩) (pre_V (Φ := fun X => PSE D T X A Sx fi) hK (hPr.2.1) rfl hP) rfl rfl hl.1 rfl (lv_room (Nat.le_of_ble_eq_true rfl)) dL_law_868 ⟨Nat.le_of_ble_eq_true rfl, Nat.le_of_ble_eq_true rfl⟩) hS (fun q _ h => hSq q h) (fun q h => hSq q h) (fun r_1 u_1 t H_1 locs ht hvm hw hB hz hk hS => ?_)
    rw [ht] at hB
    try dsimp only at hw
    try dsimp only at hB
    subst hw
    obtain ⟨B9, hB0, hP⟩ : ∃ B : Nat → Nat, B 0 = A 0 ∧ PSE D T H_1 B Sx fi := ⟨A, rfl, hB⟩
    have hF9 : Fr _ _ _ := hk
    have hM := hM.frm hF9 (fun q h z => hdis q z h)
    obtain ⟨v, as, pa, bi, at0, hMr, -⟩ := id hM
    refine lv_aload_n hx hb dL_law_871 rfl (lv_at hl 2 rfl) ?_
    refine lv_aload_n hx hb dL_law_872 rfl (lv_at hl 0 rfl) ?_
    refine lv_iload_n hx hb dL_law_873 rfl (lv_at hl 3 rfl) ?_
    refine lv_iconst (v := (nI 1)) hx hb dL_law_874 (by decide) ?_
    refine lv_iadd hx hb dL_law_875 ?_
    refine top_i (nI_add n 1) ?_
    refine va_sld hx hb hX hbl hbA hS (vp_in_nI (show n + 1 < L by omega) (by omega)) dL_law_876 ?_
    refine top_i (x' := (xs (n + 1))) (congrArg xs (nI_clamp (by omega))) ?_
    refine lv_aload_n hx hb dL_law_877 rfl (lv_at hl 0 rfl) ?_
    refine lv_iload_n hx hb dL_law_878 rfl (lv_at hl 3 rfl) ?_
    refine lv_iconst (v := (nI 2)) hx hb dL_law_879 (by decide) ?_
    refine lv_iadd hx hb dL_law_880 ?_
    refine top_i (nI_add n 2) ?_
    refine va_sld hx hb hX hbl hbA hS (vp_in_nI (show n + 2 < L by omega) (by omega)) dL_law_881 ?_
    refine top_i (x' := (xs (n + 2))) (congrArg xs (nI_clamp (by omega))) ?_
    refine lv_aload_n hx hb dL_law_882 rfl (lv_at hl 0 rfl) ?_
    refine lv_iload_n hx hb dL_law_883 rfl (lv_at hl 3 rfl) ?_
    refine lv_iconst (v := (nI 3)) hx hb dL_law_884 (by decide) ?_
    refine lv_iadd hx hb dL_law_885 ?_
    refine top_i (nI_add n 3) ?_
    refine va_sld hx hb hX hbl hbA hS (vp_in_nI (show n + 3 < L by omega) (by omega)) dL_law_886 ?_
    refine top_i (x' := (xs (n + 3))) (congrArg xs (nI_clamp (by omega))) ?_
    refine lv_if_eq (tgt := 894) hx hb dL_law_887 (by decide) (fun c_2 => ?_) (fun c_2 => ?_)
    · skip
      refine lv_iconst (v := (nI 0)) hx hb dL_law_894 (by decide) ?_
      refine vp_callSi (va_Run.run (va_runV (As := [.int (xs (n + 1)), .int (xs (n + 2)), .int (nI 0)]) (rest := [.int (alkR fi (xs (n + 1)) (xs (n + 2)) (nI 0))]) ⟨hx, hb, hml, hown, hts⟩ (k_X4_alike l D T M Sy fi (xs (n + 1)) (xs (n + 2)) (nI 0) ) (cwV 3 hts gL_law_X4_alike rfl rfl rfl (by decide +kernel) ⟨Nat.le_of_ble_eq_true rfl, Nat.le_of_ble_eq_true rfl⟩) (pre_V (Φ := fun X => MSE D T X M Sy fi) hK (hMr.2.1) rfl hM) rfl rfl hl.1 rfl (lv_room (Nat.le_of_ble_eq_true rfl)) dL_law_895 ⟨Nat.le_of_ble_eq_true rfl, Nat.le_of_ble_eq_true rfl⟩)) (fun r_2 hr_2 => ?_)
      subst hr_2
      refine lv_icmp_eq (tgt := 996) hx hb dL_law_898 (by decide) (fun c_3 => ?_) (fun c_3 => ?_)
      · skip
        exact kk _ B9 _ _ hB0 hP hM hS
      · skip
        exact absurd rfl c_3
    · skip
      exact absurd c_1 c_2
  · skip
    refine lv_iconst (v := (nI 1)) hx hb dL_law_863 (by decide) ?_
    refine lv_goto (tgt := 868) hx hb dL_law_864 (by decide) ?_
    refine va_calli (va_runV (As := [.int (xs (n + 1)), .int (xs (n + 2)), .int (nI 1)]) (rest := []) ⟨hx, hb, hml, hown, hts⟩ (k_X3_alike l D T A Sx fi (xs (n + 1)) (xs (n + 2)) (nI 1) ) (cwV 3 hts gL_law_X3_alike rfl rfl rfl (by decide +kernel) ⟨Nat.le_of_ble_eq_true rfl, Nat.le_of_ble_eq_true rfl⟩) (pre_V (Φ := fun X => PSE D T X A Sx fi) hK (hPr.2.1) rfl hP) rfl rfl hl.1 rfl (lv_room (Nat.le_of_ble_eq_true rfl)) dL_law_868 ⟨Nat.le_of_ble_eq_true rfl, Nat.le_of_ble_eq_true rfl⟩) hS (fun q _ h => hSq q h) (fun q h => hSq q h) (fun r_1 u_1 t H_1 locs ht hvm hw hB hz hk hS => ?_)
    rw [ht] at hB
    try dsimp only at hw
    try dsimp only at hB
    subst hw
    obtain ⟨B9, hB0, hP⟩ : ∃ B : Nat → Nat, B 0 = A 0 ∧ PSE D T H_1 B Sx fi := ⟨A, rfl, hB⟩
    have hF9 : Fr _ _ _ := hk
    have hM := hM.frm hF9 (fun q h z => hdis q z h)
    obtain ⟨v, as, pa, bi, at0, hMr, -⟩ := id hM
    refine lv_aload_n hx hb dL_law_871 rfl (lv_at hl 2 rfl) ?_
    refine lv_aload_n hx hb dL_law_872 rfl (lv_at hl 0 rfl) ?_
    refine lv_iload_n hx hb dL_law_873 rfl (lv_at hl 3 rfl) ?_
    refine lv_iconst (v := (nI 1)) hx hb dL_law_874 (by decide) ?_
    refine lv_iadd hx hb dL_law_875 ?_
    refine top_i (nI_add n 1) ?_
    refine va_sld hx hb hX hbl hbA hS (vp_in_nI (show n + 1 < L by omega) (by omega)) dL_law_876 ?_
    refine top_i (x' := (xs (n + 1))) (congrArg xs (nI_clamp (by omega))) ?_
    refine lv_aload_n hx hb dL_law_877 rfl (lv_at hl 0 rfl) ?_
    refine lv_iload_n hx hb dL_law_878 rfl (lv_at hl 3 rfl) ?_
    refine lv_iconst (v := (nI 2)) hx hb dL_law_879 (by decide) ?_
    refine lv_iadd hx hb dL_law_880 ?_
    refine top_i (nI_add n 2) ?_
    refine va_sld hx hb hX hbl hbA hS (vp_in_nI (show n + 2 < L by omega) (by omega)) dL_law_881 ?_
    refine top_i (x' := (xs (n + 2))) (congrArg xs (nI_clamp (by omega))) ?_
    refine lv_aload_n hx hb dL_law_882 rfl (lv_at hl 0 rfl) ?_
    refine lv_iload_n hx hb dL_law_883 rfl (lv_at hl 3 rfl) ?_
    refine lv_iconst (v := (nI 3)) hx hb dL_law_884 (by decide) ?_
    refine lv_iadd hx hb dL_law_885 ?_
    refine top_i (nI_add n 3) ?_
    refine va_sld hx hb hX hbl hbA hS (vp_in_nI (show n + 3 < L by omega) (by omega)) dL_law_886 ?_
    refine top_i (x' := (xs (n + 3))) (congrArg xs (nI_clamp (by omega))) ?_
    refine lv_if_eq (tgt := 894) hx hb dL_law_887 (by decide) (fun c_2 => ?_) (fun c_2 => ?_)
    · skip
      exact absurd c_2 c_1
    · skip
      refine lv_iconst (v := (nI 1)) hx hb dL_law_890 (by decide) ?_
      refine lv_goto (tgt := 895) hx hb dL_law_891 (by decide) ?_
      refine vp_callSi (va_Run.run (va_runV (As := [.int (xs (n + 1)), .int (xs (n + 2)), .int (nI 1)]) (rest := [.int (alkR fi (xs (n + 1)) (xs (n + 2)) (nI 1))]) ⟨hx, hb, hml, hown, hts⟩ (k_X4_alike l D T M Sy fi (xs (n + 1)) (xs (n + 2)) (nI 1) ) (cwV 3 hts gL_law_X4_alike rfl rfl rfl (by decide +kernel) ⟨Nat.le_of_ble_eq_true rfl, Nat.le_of_ble_eq_true rfl⟩) (pre_V (Φ := fun X => MSE D T X M Sy fi) hK (hMr.2.1) rfl hM) rfl rfl hl.1 rfl (lv_room (Nat.le_of_ble_eq_true rfl)) dL_law_895 ⟨Nat.le_of_ble_eq_true rfl, Nat.le_of_ble_eq_true rfl⟩)) (fun r_2 hr_2 => ?_)
      subst hr_2
      refine lv_icmp_eq (tgt := 996) hx hb dL_law_898 (by decide) (fun c_3 => ?_) (fun c_3 => ?_)
      · skip
        exact kk _ B9 _ _ hB0 hP hM hS
      · skip
        exact absurd rfl c_3
set_option maxHeartbeats 4000000 in
set_option maxRecDepth 100000 in
theorem law_c21 {p : Program} {l : Launch} {e : Env} {s : State} {m : MethodId} {below : List Frame} {meth : Method} {c : Code} {b L : Nat} {xs : Nat → Int32} {D : va_G} {T : Nat → ClassId} {Q : State → Prop} {Sx Sy : Nat → Prop} (hL : L ≤ 2560) (hx : p.tables.exec = Jvm.exec) (hb : c.code = cL_law) (hml : c.maxLocals = 4) (hown : s.vm.findClass RL = some m.cls) (hts : ∀ w ∈ wsL_law, w.before #[Value.ref b] s = true) (hX : va_X b L xs s s.heap) (hbl : b < s.heap.size) (hK : KS D T s) (hSq : ∀ q, Sx q → s.heap.size ≤ q) (hTq : ∀ q, Sy q → s.heap.size ≤ q) (hdis : ∀ q, Sx q → ¬ Sy q) {n : Nat} (hn : n + 5 ≤ L) {fi : FS} {A M : Nat → Nat} {H : Heap} {locs : List Loc} (hP : PSE D T H A Sx fi) (hM : MSE D T H M Sy fi) (hS : va_S (fun q : Nat => s.heap.size ≤ q) s.heap H locs) {ls : Array Slot} (hl : lv_has ls 4 [(0, .ref b), (1, .ref (A 0)), (2, .ref (M 0)), (3, .int (nI n))]) (kk : ∀ (fi' : FS) (A' : Nat → Nat) (H' : Heap) (locs' : List Loc), A' 0 = A 0 → PSE D T H' A' Sx fi' → MSE D T H' M Sy fi' → va_S (fun q : Nat => s.heap.size ≤ q) s.heap H' locs' → W p l e room_1 s m #[Value.ref b] below meth c H' locs' 113 8645 Q (F0 m 996 ls [])) : W p l e room_1 s m #[Value.ref b] below meth c H locs 113 8645 Q (F0 m 903 ls []) := by
  have hbA : ¬ (fun q : Nat => s.heap.size ≤ q) b := Nat.not_le.mpr hbl
  obtain ⟨W0, me, co, sc, hPr, -⟩ := id hP
  obtain ⟨v, as, pa, bi, at0, hMr, -⟩ := id hM
  refine lv_aload_n hx hb dL_law_903 rfl (lv_at hl 1 rfl) ?_
  refine lv_aload_n hx hb dL_law_904 rfl (lv_at hl 0 rfl) ?_
  refine lv_iload_n hx hb dL_law_905 rfl (lv_at hl 3 rfl) ?_
  refine lv_iconst (v := (nI 1)) hx hb dL_law_906 (by decide) ?_
  refine lv_iadd hx hb dL_law_907 ?_
  refine top_i (nI_add n 1) ?_
  refine va_sld hx hb hX hbl hbA hS (vp_in_nI (show n + 1 < L by omega) (by omega)) dL_law_908 ?_
  refine top_i (x' := (xs (n + 1))) (congrArg xs (nI_clamp (by omega))) ?_
  refine lv_aload_n hx hb dL_law_909 rfl (lv_at hl 0 rfl) ?_
  refine lv_iload_n hx hb dL_law_910 rfl (lv_at hl 3 rfl) ?_
  refine lv_iconst (v := (nI 2)) hx hb dL_law_911 (by decide) ?_
  refine lv_iadd hx hb dL_law_912 ?_
  refine top_i (nI_add n 2) ?_
  refine va_sld hx hb hX hbl hbA hS (vp_in_nI (show n + 2 < L by omega) (by omega)) dL_law_913 ?_
  refine top_i (x' := (xs (n + 2))) (congrArg xs (nI_clamp (by omega))) ?_
  refine vp_callSi (va_Run.run (va_runV (As := [.int (xs (n + 1)), .int (xs (n + 2))]) (rest := []) ⟨hx, hb, hml, hown, hts⟩ (k_X3_met l D T A Sx fi (xs (n + 1)) (xs (n + 2)) ) (cwV 2 hts gL_law_X3_met rfl rfl rfl (by decide +kernel) ⟨Nat.le_of_ble_eq_true rfl, Nat.le_of_ble_eq_true rfl⟩) (pre_V (Φ := fun X => PSE D T X A Sx fi) hK (hPr.2.1) rfl hP) rfl rfl hl.1 rfl (lv_room (Nat.le_of_ble_eq_true rfl)) dL_law_914 ⟨Nat.le_of_ble_eq_true rfl, Nat.le_of_ble_eq_true rfl⟩)) (fun r_1 hr_1 => ?_)
  subst hr_1
  refine lv_aload_n hx hb dL_law_917 rfl (lv_at hl 2 rfl) ?_
  refine lv_aload_n hx hb dL_law_918 rfl (lv_at hl 0 rfl) ?_
  refine lv_iload_n hx hb dL_law_919 rfl (lv_at hl 3 rfl) ?_
  refine lv_iconst (v := (nI 1)) hx hb dL_law_920 (by decide) ?_
  refine lv_iadd hx hb dL_law_921 ?_
  refine top_i (nI_add n 1) ?_
  refine va_sld hx hb hX hbl hbA hS (vp_in_nI (show n + 1 < L by omega) (by omega)) dL_law_922 ?_
  refine top_i (x' := (xs (n + 1))) (congrArg xs (nI_clamp (by omega))) ?_
  refine lv_aload_n hx hb dL_law_923 rfl (lv_at hl 0 rfl) ?_
  refine lv_iload_n hx hb dL_law_924 rfl (lv_at hl 3 rfl) ?_
  refine lv_iconst (v := (nI 2)) hx hb dL_law_925 (by decide) ?_
  refine lv_iadd hx hb dL_law_926 ?_
  refine top_i (nI_add n 2) ?_
  refine va_sld hx hb hX hbl hbA hS (vp_in_nI (show n + 2 < L by omega) (by omega)) dL_law_927 ?_
  refine top_i (x' := (xs (n + 2))) (congrArg xs (nI_clamp (by omega))) ?_
  refine vp_callSi (va_Run.run (va_runV (As := [.int (xs (n + 1)), .int (xs (n + 2))]) (rest := [.int (metR fi (xs (n + 1)) (xs (n + 2)))]) ⟨hx, hb, hml, hown, hts⟩ (k_X4_met l D T M Sy fi (xs (n + 1)) (xs (n + 2)) ) (cwV 2 hts gL_law_X4_met rfl rfl rfl (by decide +kernel) ⟨Nat.le_of_ble_eq_true rfl, Nat.le_of_ble_eq_true rfl⟩) (pre_V (Φ := fun X => MSE D T X M Sy fi) hK (hMr.2.1) rfl hM) rfl rfl hl.1 rfl (lv_room (Nat.le_of_ble_eq_true rfl)) dL_law_928 ⟨Nat.le_of_ble_eq_true rfl, Nat.le_of_ble_eq_true rfl⟩)) (fun r_2 hr_2 => ?_)
  subst hr_2
  refine lv_icmp_eq (tgt := 996) hx hb dL_law_931 (by decide) (fun c_1 => ?_) (fun c_1 => ?_)
  · skip
    exact kk fi A H locs rfl hP hM hS
  · skip
    exact absurd rfl c_1
set_option maxHeartbeats 4000000 in
set_option maxRecDepth 100000 in
theorem law_c22 {p : Program} {l : Launch} {e : Env} {s : State} {m : MethodId} {below : List Frame} {meth : Method} {c : Code} {b L : Nat} {xs : Nat → Int32} {D : va_G} {T : Nat → ClassId} {Q : State → Prop} {Sx Sy : Nat → Prop} (hL : L ≤ 2560) (hx : p.tables.exec = Jvm.exec) (hb : c.code = cL_law) (hml : c.maxLocals = 4) (hown : s.vm.findClass RL = some m.cls) (hts : ∀ w ∈ wsL_law, w.before #[Value.ref b] s = true) (hX : va_X b L xs s s.heap) (hbl : b < s.heap.size) (hK : KS D T s) (hSq : ∀ q, Sx q → s.heap.size ≤ q) (hTq : ∀ q, Sy q → s.heap.size ≤ q) (hdis : ∀ q, Sx q → ¬ Sy q) {n : Nat} (hn : n + 5 ≤ L) {fi : FS} {A M : Nat → Nat} {H : Heap} {locs : List Loc} (hP : PSE D T H A Sx fi) (hM : MSE D T H M Sy fi) (hS : va_S (fun q : Nat => s.heap.size ≤ q) s.heap H locs) {ls : Array Slot} (hl : lv_has ls 4 [(0, .ref b), (1, .ref (A 0)), (2, .ref (M 0)), (3, .int (nI n))]) (kk : ∀ (fi' : FS) (A' : Nat → Nat) (H' : Heap) (locs' : List Loc), A' 0 = A 0 → PSE D T H' A' Sx fi' → MSE D T H' M Sy fi' → va_S (fun q : Nat => s.heap.size ≤ q) s.heap H' locs' → W p l e room_1 s m #[Value.ref b] below meth c H' locs' 113 8645 Q (F0 m 996 ls [])) : W p l e room_1 s m #[Value.ref b] below meth c H locs 113 8645 Q (F0 m 936 ls []) := by
  have hbA : ¬ (fun q : Nat => s.heap.size ≤ q) b := Nat.not_le.mpr hbl
  obtain ⟨W0, me, co, sc, hPr, -⟩ := id hP
  obtain ⟨v, as, pa, bi, at0, hMr, -⟩ := id hM
  refine lv_aload_n hx hb dL_law_936 rfl (lv_at hl 1 rfl) ?_
  refine lv_aload_n hx hb dL_law_937 rfl (lv_at hl 0 rfl) ?_
  refine lv_iload_n hx hb dL_law_938 rfl (lv_at hl 3 rfl) ?_
  refine lv_iconst (v := (nI 1)) hx hb dL_law_939 (by decide) ?_
  refine lv_iadd hx hb dL_law_940 ?_
  refine top_i (nI_add n 1) ?_
  refine va_sld hx hb hX hbl hbA hS (vp_in_nI (show n + 1 < L by omega) (by omega)) dL_law_941 ?_
  refine top_i (x' := (xs (n + 1))) (congrArg xs (nI_clamp (by omega))) ?_
  refine lv_aload_n hx hb dL_law_942 rfl (lv_at hl 0 rfl) ?_
  refine lv_iload_n hx hb dL_law_943 rfl (lv_at hl 3 rfl) ?_
  refine lv_iconst (v := (nI 2)) hx hb dL_law_944 (by decide) ?_
  refine lv_iadd hx hb dL_law_945 ?_
  refine top_i (nI_add n 2) ?_
  refine va_sld hx hb hX hbl hbA hS (vp_in_nI (show n + 2 < L by omega) (by omega)) dL_law_946 ?_
  refine top_i (x' := (xs (n + 2))) (congrArg xs (nI_clamp (by omega))) ?_
  refine vp_callSi (va_Run.run (va_runV (As := [.int (xs (n + 1)), .int (xs (n + 2))]) (rest := []) ⟨hx, hb, hml, hown, hts⟩ (k_X3_converted l D T A Sx fi (xs (n + 1)) (xs (n + 2)) ) (cwV 2 hts gL_law_X3_converted rfl rfl rfl (by decide +kernel) ⟨Nat.le_of_ble_eq_true rfl, Nat.le_of_ble_eq_true rfl⟩) (pre_V (Φ := fun X => PSE D T X A Sx fi) hK (hPr.2.1) rfl hP) rfl rfl hl.1 rfl (lv_room (Nat.le_of_ble_eq_true rfl)) dL_law_947 ⟨Nat.le_of_ble_eq_true rfl, Nat.le_of_ble_eq_true rfl⟩)) (fun r_1 hr_1 => ?_)
  subst hr_1
  refine lv_aload_n hx hb dL_law_950 rfl (lv_at hl 2 rfl) ?_
  refine lv_aload_n hx hb dL_law_951 rfl (lv_at hl 0 rfl) ?_
  refine lv_iload_n hx hb dL_law_952 rfl (lv_at hl 3 rfl) ?_
  refine lv_iconst (v := (nI 1)) hx hb dL_law_953 (by decide) ?_
  refine lv_iadd hx hb dL_law_954 ?_
  refine top_i (nI_add n 1) ?_
  refine va_sld hx hb hX hbl hbA hS (vp_in_nI (show n + 1 < L by omega) (by omega)) dL_law_955 ?_
  refine top_i (x' := (xs (n + 1))) (congrArg xs (nI_clamp (by omega))) ?_
  refine lv_aload_n hx hb dL_law_956 rfl (lv_at hl 0 rfl) ?_
  refine lv_iload_n hx hb dL_law_957 rfl (lv_at hl 3 rfl) ?_
  refine lv_iconst (v := (nI 2)) hx hb dL_law_958 (by decide) ?_
  refine lv_iadd hx hb dL_law_959 ?_
  refine top_i (nI_add n 2) ?_
  refine va_sld hx hb hX hbl hbA hS (vp_in_nI (show n + 2 < L by omega) (by omega)) dL_law_960 ?_
  refine top_i (x' := (xs (n + 2))) (congrArg xs (nI_clamp (by omega))) ?_
  refine vp_callSi (va_Run.run (va_runV (As := [.int (xs (n + 1)), .int (xs (n + 2))]) (rest := [.int (cvtR fi (xs (n + 1)) (xs (n + 2)))]) ⟨hx, hb, hml, hown, hts⟩ (k_X4_converted l D T M Sy fi (xs (n + 1)) (xs (n + 2)) ) (cwV 2 hts gL_law_X4_converted rfl rfl rfl (by decide +kernel) ⟨Nat.le_of_ble_eq_true rfl, Nat.le_of_ble_eq_true rfl⟩) (pre_V (Φ := fun X => MSE D T X M Sy fi) hK (hMr.2.1) rfl hM) rfl rfl hl.1 rfl (lv_room (Nat.le_of_ble_eq_true rfl)) dL_law_961 ⟨Nat.le_of_ble_eq_true rfl, Nat.le_of_ble_eq_true rfl⟩)) (fun r_2 hr_2 => ?_)
  subst hr_2
  refine lv_icmp_eq (tgt := 996) hx hb dL_law_964 (by decide) (fun c_1 => ?_) (fun c_1 => ?_)
  · skip
    exact kk fi A H locs rfl hP hM hS
  · skip
    exact absurd rfl c_1
set_option maxHeartbeats 4000000 in
set_option maxRecDepth 100000 in
theorem law_c23 {p : Program} {l : Launch} {e : Env} {s : State} {m : MethodId} {below : List Frame} {meth : Method} {c : Code} {b L : Nat} {xs : Nat → Int32} {D : va_G} {T : Nat → ClassId} {Q : State → Prop} {Sx Sy : Nat → Prop} (hL : L ≤ 2560) (hx : p.tables.exec = Jvm.exec) (hb : c.code = cL_law) (hml : c.maxLocals = 4) (hown : s.vm.findClass RL = some m.cls) (hts : ∀ w ∈ wsL_law, w.before #[Value.ref b] s = true) (hX : va_X b L xs s s.heap) (hbl : b < s.heap.size) (hK : KS D T s) (hSq : ∀ q, Sx q → s.heap.size ≤ q) (hTq : ∀ q, Sy q → s.heap.size ≤ q) (hdis : ∀ q, Sx q → ¬ Sy q) {n : Nat} (hn : n + 5 ≤ L) {fi : FS} {A M : Nat → Nat} {H : Heap} {locs : List Loc} (hP : PSE D T H A Sx fi) (hM : MSE D T H M Sy fi) (hS : va_S (fun q : Nat => s.heap.size ≤ q) s.heap H locs) {ls : Array Slot} (hl : lv_has ls 4 [(0, .ref b), (1, .ref (A 0)), (2, .ref (M 0)), (3, .int (nI n))]) (kk : ∀ (fi' : FS) (A' : Nat → Nat) (H' : Heap) (locs' : List Loc), A' 0 = A 0 → PSE D T H' A' Sx fi' → MSE D T H' M Sy fi' → va_S (fun q : Nat => s.heap.size ≤ q) s.heap H' locs' → W p l e room_1 s m #[Value.ref b] below meth c H' locs' 113 8645 Q (F0 m 996 ls [])) : W p l e room_1 s m #[Value.ref b] below meth c H locs 113 8645 Q (F0 m 969 ls []) := by
  have hbA : ¬ (fun q : Nat => s.heap.size ≤ q) b := Nat.not_le.mpr hbl
  obtain ⟨W0, me, co, sc, hPr, -⟩ := id hP
  obtain ⟨v, as, pa, bi, at0, hMr, -⟩ := id hM
  refine lv_aload_n hx hb dL_law_969 rfl (lv_at hl 1 rfl) ?_
  refine va_calli (va_runV (As := []) (rest := []) ⟨hx, hb, hml, hown, hts⟩ (k_X3_undo l D T A Sx fi ) (cwV 0 hts gL_law_X3_undo rfl rfl rfl (by decide +kernel) ⟨Nat.le_of_ble_eq_true rfl, Nat.le_of_ble_eq_true rfl⟩) (pre_V (Φ := fun X => PSE D T X A Sx fi) hK (hPr.2.1) rfl hP) rfl rfl hl.1 rfl (lv_room (Nat.le_of_ble_eq_true rfl)) dL_law_970 ⟨Nat.le_of_ble_eq_true rfl, Nat.le_of_ble_eq_true rfl⟩) hS (fun q _ h => hSq q h) (fun q h => hSq q h) (fun r_1 u_1 t H_1 locs ht hvm hw hB hz hk hS => ?_)
  rw [ht] at hB
  try dsimp only at hw
  try dsimp only at hB
  subst hw
  obtain ⟨B9, hB0, hP⟩ := hB
  have hF9 : Fr _ _ _ := hk
  have hM := hM.frm hF9 (fun q h z => hdis q z h)
  obtain ⟨v, as, pa, bi, at0, hMr, -⟩ := id hM
  refine lv_aload_n hx hb dL_law_973 rfl (lv_at hl 2 rfl) ?_
  refine va_calli (va_runV (As := []) (rest := [.int (undR fi)]) ⟨hx, hb, hml, hown, hts⟩ (k_X4_undo l D T M Sy fi ) (cwV 0 hts gL_law_X4_undo rfl rfl rfl (by decide +kernel) ⟨Nat.le_of_ble_eq_true rfl, Nat.le_of_ble_eq_true rfl⟩) (pre_V (Φ := fun X => MSE D T X M Sy fi) hK (hMr.2.1) rfl hM) rfl rfl hl.1 rfl (lv_room (Nat.le_of_ble_eq_true rfl)) dL_law_974 ⟨Nat.le_of_ble_eq_true rfl, Nat.le_of_ble_eq_true rfl⟩) hS (fun q _ h => hTq q h) (fun q h => hTq q h) (fun r_2 u_2 t H_2 locs ht hvm hw hB hz hk hS => ?_)
  rw [ht] at hB
  try dsimp only at hw
  try dsimp only at hB
  subst hw
  have hF9 : Fr _ _ _ := hk
  have hP := hP.frm hF9 (fun q h => hdis q h)
  have hM := hB
  refine lv_icmp_eq (tgt := 996) hx hb dL_law_977 (by decide) (fun c_1 => ?_) (fun c_1 => ?_)
  · skip
    exact kk _ B9 _ _ hB0 hP hM hS
  · skip
    exact absurd rfl c_1
set_option maxHeartbeats 4000000 in
set_option maxRecDepth 100000 in
theorem law_c24 {p : Program} {l : Launch} {e : Env} {s : State} {m : MethodId} {below : List Frame} {meth : Method} {c : Code} {b L : Nat} {xs : Nat → Int32} {D : va_G} {T : Nat → ClassId} {Q : State → Prop} {Sx Sy : Nat → Prop} (hL : L ≤ 2560) (hx : p.tables.exec = Jvm.exec) (hb : c.code = cL_law) (hml : c.maxLocals = 4) (hown : s.vm.findClass RL = some m.cls) (hts : ∀ w ∈ wsL_law, w.before #[Value.ref b] s = true) (hX : va_X b L xs s s.heap) (hbl : b < s.heap.size) (hK : KS D T s) (hSq : ∀ q, Sx q → s.heap.size ≤ q) (hTq : ∀ q, Sy q → s.heap.size ≤ q) (hdis : ∀ q, Sx q → ¬ Sy q) {n : Nat} (hn : n + 5 ≤ L) {fi : FS} {A M : Nat → Nat} {H : Heap} {locs : List Loc} (hP : PSE D T H A Sx fi) (hM : MSE D T H M Sy fi) (hS : va_S (fun q : Nat => s.heap.size ≤ q) s.heap H locs) {ls : Array Slot} (hl : lv_has ls 4 [(0, .ref b), (1, .ref (A 0)), (2, .ref (M 0)), (3, .int (nI n))]) (kk : ∀ (fi' : FS) (A' : Nat → Nat) (H' : Heap) (locs' : List Loc), A' 0 = A 0 → PSE D T H' A' Sx fi' → MSE D T H' M Sy fi' → va_S (fun q : Nat => s.heap.size ≤ q) s.heap H' locs' → W p l e room_1 s m #[Value.ref b] below meth c H' locs' 113 8645 Q (F0 m 996 ls [])) : W p l e room_1 s m #[Value.ref b] below meth c H locs 113 8645 Q (F0 m 982 ls []) := by
  have hbA : ¬ (fun q : Nat => s.heap.size ≤ q) b := Nat.not_le.mpr hbl
  obtain ⟨W0, me, co, sc, hPr, -⟩ := id hP
  obtain ⟨v, as, pa, bi, at0, hMr, -⟩ := id hM
  refine lv_aload_n hx hb dL_law_982 rfl (lv_at hl 1 rfl) ?_
  refine vp_callSl (va_Run.run (va_runV (As := []) (rest := []) ⟨hx, hb, hml, hown, hts⟩ (k_X3_fingerprint l D T A Sx fi ) (cwV 0 hts gL_law_X3_fingerprint rfl rfl rfl (by decide +kernel) ⟨Nat.le_of_ble_eq_true rfl, Nat.le_of_ble_eq_true rfl⟩) (pre_V (Φ := fun X => PSE D T X A Sx fi) hK (hPr.2.1) rfl hP) rfl rfl hl.1 rfl (lv_room (Nat.le_of_ble_eq_true rfl)) dL_law_983 ⟨Nat.le_of_ble_eq_true rfl, Nat.le_of_ble_eq_true rfl⟩)) (fun r_1 hr_1 => ?_)
  subst hr_1
  refine lv_aload_n hx hb dL_law_986 rfl (lv_at hl 2 rfl) ?_
  refine vp_callSl (va_Run.run (va_runV (As := []) (rest := [.long (finR fi)]) ⟨hx, hb, hml, hown, hts⟩ (k_X4_fingerprint l D T M Sy fi ) (cwV 0 hts gL_law_X4_fingerprint rfl rfl rfl (by decide +kernel) ⟨Nat.le_of_ble_eq_true rfl, Nat.le_of_ble_eq_true rfl⟩) (pre_V (Φ := fun X => MSE D T X M Sy fi) hK (hMr.2.1) rfl hM) rfl rfl hl.1 rfl (lv_room (Nat.le_of_ble_eq_true rfl)) dL_law_987 ⟨Nat.le_of_ble_eq_true rfl, Nat.le_of_ble_eq_true rfl⟩)) (fun r_2 hr_2 => ?_)
  subst hr_2
  refine W.lcmp hx hb dL_law_990 ?_
  refine lv_if_eq (tgt := 996) hx hb dL_law_991 (by decide) (fun c_1 => ?_) (fun c_1 => ?_)
  · skip
    exact kk fi A H locs rfl hP hM hS
  · skip
    exact absurd (lcmp_self _) c_1
