set_option maxHeartbeats 1000000 in
set_option maxRecDepth 100000 in
theorem k_X4_scatter (l : Launch) (D : va_G) (T : Nat → ClassId) (M : Nat → Nat) (Sy : Nat → Prop) (fi : FS) (ss : Int32) (x : Int32) (y : Int32) : Met l yX4_scatter wsX4_scatter ({ frames := 4, cells := 0, slots := 0, locals := 92 }) (va_Pc [.ref (M 0), .int ss, .int x, .int y] (fun U => KS D T U ∧ MSE D T U.heap M Sy fi)) (va_Qi (fun (r : Int32) (u : Unit) => r = (scaR fi ss x y)) (fun u t => MSE D T t.heap M Sy (scaN fi ss x y)) (Sy)) 0 0 (Sy) := by
  refine Met.ofW (cc := cX4_scatter) (maxL := 6) (ret := (some .int)) (by decide) rfl ?_
  intro pg ev s m args below meth c s₁ B hml hv
  obtain ⟨rfl, hK, hH⟩ := hv
  have hx := B.exec
  have hb := B.bytes
  have hr := B.returns
  have hts := atoms_spec (ws := wsX4_scatter) B.pre
  have hown : s.vm.findClass RX4 = some m.cls := findClass_of_methodNamed B.named
  have hlocks := B.notSynchronized
  have in_wsX40 : ∀ w ∈ wsX40, w ∈ wsX4_scatter := fun w h => List.mem_cons_of_mem _ (List.mem_append_right _ h)
  have hS : va_S (Sy) s.heap s.heap [] := va_S.rf
  have hl := lv_entry ([.ref (M 0), .int ss, .int x, .int y]) (n := 6) (Nat.le_of_ble_eq_true rfl)
  rw [lg_entry_eq]
  generalize (lg_sl ([.ref (M 0), .int ss, .int x, .int y]) ++ List.replicate (6 - (lg_sl ([.ref (M 0), .int ss, .int x, .int y])).length) Slot.unset).toArray = ls at hl ⊢
  have hl : lv_has ls 6 [(0, .ref (M 0)), (1, .int ss), (2, .int x), (3, .int y)] := hl
  refine W_gen (fun Q hQ => ?_)
  obtain ⟨v, as, pa, bi, at0, hM, hSy, hrb, hbl, hk5, hR0, hRh⟩ := id hH
  refine lv_iload_n hx hb dX4_scatter_0 rfl (lv_at hl 1 rfl) ?_
  refine vp_callSi (va_Run.run (va_runS (As := [.int ss]) (rest := []) ⟨hx, hb, hml, hown, hts⟩ (k_X4_isSet l D T ss ) (va_cwS 1 hts gX4_scatter_X4_isSet rfl rfl rfl (by decide +kernel) ⟨Nat.le_of_ble_eq_true rfl, Nat.le_of_ble_eq_true rfl⟩) (pre_S (Φ := fun X => True) hK trivial) rfl rfl hl.1 rfl (lv_room (Nat.le_of_ble_eq_true rfl)) dX4_scatter_1 ⟨Nat.le_of_ble_eq_true rfl, Nat.le_of_ble_eq_true rfl⟩)) (fun r_1 hr_1 => ?_)
  subst hr_1
  refine lv_if_eq (tgt := 18) hx hb dX4_scatter_4 (by decide) (fun c_1 => ?_) (fun c_1 => ?_)
  · skip
    have c_1 : (decide (¬ ss < 0 ∧ ss < nI 6)) = false := b2i_0.mp c_1
    have c_1 : ¬ (¬ ss < 0 ∧ ss < nI 6) := of_decide_eq_false c_1
    refine lv_iconst (v := (-1)) hx hb dX4_scatter_18 (by decide) ?_
    subst hQ
    have hfin : MSE D T s.heap M Sy (scaN fi ss x y) := by unfold scaN; rw [if_neg (fun z => c_1 z.1)]; exact hH
    exact W.iret (v := (-1)) hx hb hr (fun t ht hW => ⟨⟨(-1), (), rfl, ((if_neg (fun z => c_1 z.1)).symm), by have h9 := hfin; rw [← ht] at h9; exact h9⟩, hS.F ht⟩) hS.2.2 dX4_scatter_19
  · skip
    have c_1 : (decide (¬ ss < 0 ∧ ss < nI 6)) = true := b2i_n0.mp c_1
    have c_1 : ¬ ss < 0 ∧ ss < nI 6 := of_decide_eq_true c_1
    refine lv_iload_n hx hb dX4_scatter_7 rfl (lv_at hl 3 rfl) ?_
    refine lv_iconst (v := (nI 1)) hx hb dX4_scatter_8 (by decide) ?_
    refine lv_sipush (v := (nI 300)) hx hb dX4_scatter_9 (by decide) ?_
    refine vp_callSi (va_Run.run (va_runS (As := [.int y, .int (nI 1), .int (nI 300)]) (rest := []) ⟨hx, hb, hml, hown, hts⟩ (k_X4_in l D T y (nI 1) (nI 300) ) (va_cwS 3 hts gX4_scatter_X4_in rfl rfl rfl (by decide +kernel) ⟨Nat.le_of_ble_eq_true rfl, Nat.le_of_ble_eq_true rfl⟩) (pre_S (Φ := fun X => True) hK trivial) rfl rfl hl.1 rfl (lv_room (Nat.le_of_ble_eq_true rfl)) dX4_scatter_12 ⟨Nat.le_of_ble_eq_true rfl, Nat.le_of_ble_eq_true rfl⟩)) (fun r_2 hr_2 => ?_)
    subst hr_2
    refine lv_if_ne (tgt := 20) hx hb dX4_scatter_15 (by decide) (fun c_2 => ?_) (fun c_2 => ?_)
    · skip
      have c_2 : (decide ((nI 1) ≤ y ∧ y ≤ (nI 300))) = true := b2i_n0.mp c_2
      have c_2 : (nI 1) ≤ y ∧ y ≤ (nI 300) := of_decide_eq_true c_2
      obtain ⟨sN, hsN, rfl⟩ := okX (N := 6) (by decide) c_1
      have hy1 := c_2
      obtain ⟨mN, hm1, hm2, rfl⟩ := okMn (Int32.not_lt.mpr hy1.1) hy1.2
      have hok : ok6 (nI sN) ∧ okM (nI mN) := ⟨okN hsN (by decide), Int32.not_lt.mpr hy1.1, Int32.not_lt.mpr hy1.2⟩
      refine lv_aload_n hx hb dX4_scatter_20 rfl (lv_at hl 0 rfl) ?_
      refine va_callv (va_runV (As := []) (rest := []) ⟨hx, hb, hml, hown, hts⟩ (k_X4_act l D T M v as pa fi.2.2.1 (buF fi) fi.2.2.2.2 bi at0 (hk5)) (cwV 0 hts gX4_scatter_X4_act rfl rfl rfl (by decide +kernel) ⟨Nat.le_of_ble_eq_true rfl, Nat.le_of_ble_eq_true rfl⟩) (pre_V (Φ := fun X => MO D T X M v as pa fi.2.2.1 (buF fi) fi.2.2.2.2 bi at0) hK (hM.2.1) rfl hM) rfl rfl hl.1 rfl (lv_room (Nat.le_of_ble_eq_true rfl)) dX4_scatter_21 ⟨Nat.le_of_ble_eq_true rfl, Nat.le_of_ble_eq_true rfl⟩) hS (fun q _ h => by obtain ⟨i, h1, h2⟩ := h; rw [h2]; exact hSy i h1) (fun q h => by obtain ⟨i, h1, h2⟩ := h; rw [h2]; exact hSy i h1) (fun u_1 t H_1 locs ht hvm hw hB hz hk hS => ?_)
      rw [ht] at hB
      try dsimp only at hw
      try dsimp only at hB
      have hM := hB
      refine lv_iload_n hx hb dX4_scatter_24 rfl (lv_at hl 2 rfl) ?_
      refine lv_istore (lv' := [(4, .int x), (0, .ref (M 0)), (1, .int (nI sN)), (2, .int x), (3, .int (nI mN))]) hx hb dX4_scatter_25 hl (by decide) rfl (fun ls hl => ?_)
      refine lv_iconst (v := (nI 0)) hx hb dX4_scatter_27 (by decide) ?_
      refine lv_istore (lv' := [(5, .int (nI 0)), (4, .int x), (0, .ref (M 0)), (1, .int (nI sN)), (2, .int x), (3, .int (nI mN))]) hx hb dX4_scatter_28 hl (by decide) rfl (fun ls hl => ?_)
      have loop30 : ∀ (n30 : Nat) (i : Nat) (xx : Int32) (w9 : Nat → Int32) (hi : i ≤ mN) (e1 : ∀ t, t < 6 → t ≠ sN → ∀ y, y < 4096 → bI w9 t y = bI v t y) (hmm : ∀ j, 768 ≤ j → w9 j = v j) (hv : Eq4 (scF (mN - i) xx (bI w9 sN)) (scF mN x (bI v sN))) (H : Heap) (locs : List Loc) (hM : MO D T H M w9 v (acF v pa fi.2.2.1) (kpt fi.2.2.1) (buF fi) fi.2.2.2.2 bi at0) (hS : va_S (Sy) s.heap H locs) (ls : Array Slot) (hl : lv_has ls 6 [(0, .ref (M 0)), (1, .int (nI sN)), (2, .int x), (3, .int (nI mN)), (4, .int xx), (5, .int (nI i))]) (hn30 : mN - i < n30), W pg l ev (headSpec wsX4_scatter ({ frames := 4, cells := 0, slots := 0, locals := 92 })).room s m ([.ref (M 0), .int (nI sN), .int x, .int (nI mN)] : List Value).toArray below meth c H locs 0 0 Q (F0 m 30 ls []) := by
        intro n30
        induction n30 with
        | zero =>
          intro i xx w9 hi e1 hmm hv H locs hM hS ls hl hn30
          exact absurd hn30 (Nat.not_lt_zero _)
        | succ n30 ih30 =>
          intro i xx w9 hi e1 hmm hv H locs hM hS ls hl hn30
          refine lv_iload hx hb dX4_scatter_30 (lv_at hl 5 rfl) ?_
          refine lv_iload_n hx hb dX4_scatter_32 rfl (lv_at hl 3 rfl) ?_
          refine lv_icmp_ge (tgt := 68) hx hb dX4_scatter_33 (by decide) (fun c_3 => ?_) (fun c_3 => ?_)
          · skip
            have c_3 : mN ≤ i := (nI_leI (a := mN) (b := i) (by omega) (by omega)).mp c_3
            refine lv_aload_n hx hb dX4_scatter_68 rfl (lv_at hl 0 rfl) ?_
            refine lv_iload_n hx hb dX4_scatter_69 rfl (lv_at hl 1 rfl) ?_
            refine va_callv (va_runV (As := [.int (nI sN)]) (rest := []) ⟨hx, hb, hml, hown, hts⟩ (k_X4_converts l D T M w9 v (acF v pa fi.2.2.1) (kpt fi.2.2.1) (buF fi) fi.2.2.2.2 bi at0 sN (by omega)) (cwV 1 hts gX4_scatter_X4_converts rfl rfl rfl (by decide +kernel) ⟨Nat.le_of_ble_eq_true rfl, Nat.le_of_ble_eq_true rfl⟩) (pre_V (Φ := fun X => MO D T X M w9 v (acF v pa fi.2.2.1) (kpt fi.2.2.1) (buF fi) fi.2.2.2.2 bi at0) hK (hM.2.1) rfl hM) rfl rfl hl.1 rfl (lv_room (Nat.le_of_ble_eq_true rfl)) dX4_scatter_70 ⟨Nat.le_of_ble_eq_true rfl, Nat.le_of_ble_eq_true rfl⟩) hS (fun q _ h => by rw [h]; exact hSy 1 (by decide)) (fun q h => by rw [h]; exact hSy 1 (by decide)) (fun u_2 t H_2 locs ht hvm hw hB hz hk hS => ?_)
            rw [ht] at hB
            try dsimp only at hw
            try dsimp only at hB
            have hM := hB
            refine lv_aload_n hx hb dX4_scatter_73 rfl (lv_at hl 0 rfl) ?_
            refine lv_iload_n hx hb dX4_scatter_74 rfl (lv_at hl 1 rfl) ?_
            refine vp_callSi (va_Run.run (va_runV (As := [.int (nI sN)]) (rest := []) ⟨hx, hb, hml, hown, hts⟩ (k_X4_sizeOf l D T M (cvU v w9 sN 16) v (acF v pa fi.2.2.1) (kpt fi.2.2.1) (buF fi) fi.2.2.2.2 bi at0 sN (by omega)) (cwV 1 hts gX4_scatter_X4_sizeOf rfl rfl rfl (by decide +kernel) ⟨Nat.le_of_ble_eq_true rfl, Nat.le_of_ble_eq_true rfl⟩) (pre_V (Φ := fun X => MO D T X M (cvU v w9 sN 16) v (acF v pa fi.2.2.1) (kpt fi.2.2.1) (buF fi) fi.2.2.2.2 bi at0) hK (hM.2.1) rfl hM) rfl rfl hl.1 rfl (lv_room (Nat.le_of_ble_eq_true rfl)) dX4_scatter_75 ⟨Nat.le_of_ble_eq_true rfl, Nat.le_of_ble_eq_true rfl⟩)) (fun r_5 hr_5 => ?_)
            subst hr_5
            subst hQ
            have hu9 := hv
            rw [show mN - i = 0 by omega] at hu9
            have hu : Eq4 (bI w9 sN) (scF mN x (fi.1.1 sN)) := fun z hz => (hu9 z hz).trans (scF_cong mN x (hR0.1 sN hsN) z hz)
            have hwe : ∀ t, t < 6 → ∀ y, y < 4096 → bI w9 t y = if t = sN then scF mN x (fi.1.1 sN) y else bI v t y := fun t ht y hy => by
              by_cases e : t = sN
              · rw [if_pos e, e]; exact hu y hy
              · rw [if_neg e]; exact e1 t ht e y hy
            have hfin : MSE D T H_2 M Sy (scaN fi (nI sN) x (nI mN)) := by
              unfold scaN
              rw [if_pos hok, cl_n (by omega), cl_n (by omega)]
              exact ⟨_, _, _, _, _, hM, hSy, hrb, hbl, kpt_5, MRp_act hsN hR0 hwe (fun j hj => (hmm _ (by omega)).trans (hR0.2.1 j hj)) (fun j hj => hmm _ (by omega)), MRp_push hk5 hR0 hRh⟩
            exact W.iret (v := (nI (ct (bI (cvU v w9 sN 16) sN) 0 4096))) hx hb hr (fun t ht hW => ⟨⟨(nI (ct (bI (cvU v w9 sN 16) sN) 0 4096)), (), rfl, (by unfold scaR; rw [if_pos hok, cl_n (by omega), cl_n (by omega)]; exact congrArg nI (ct_cong (fun z _ hz => (bI_cvU hsN z (by omega)).trans (hu z (by omega))))), by have h9 := hfin; rw [← ht] at h9; exact h9⟩, hS.F ht⟩) hS.2.2 dX4_scatter_78
          · skip
            have c_3 : ¬ (mN ≤ i) := fun z => c_3 ((nI_leI (a := mN) (b := i) (by omega) (by omega)).mpr z)
            refine lv_ldc hx hb hown (hts (.constant RX4 77 (1103515245)) (by decide +kernel)) dX4_scatter_36 ?_
            refine lv_iload hx hb dX4_scatter_38 (lv_at hl 4 rfl) ?_
            refine lv_imul hx hb dX4_scatter_40 ?_
            refine lv_sipush (v := (nI 12345)) hx hb dX4_scatter_41 (by decide) ?_
            refine lv_iadd hx hb dX4_scatter_44 ?_
            refine top_i (x' := (nxI xx)) (rfl) ?_
            refine lv_istore (lv' := [(4, .int (nxI xx)), (0, .ref (M 0)), (1, .int (nI sN)), (2, .int x), (3, .int (nI mN)), (5, .int (nI i))]) hx hb dX4_scatter_45 hl (by decide) rfl (fun ls hl => ?_)
            refine lv_aload_n hx hb dX4_scatter_47 rfl (lv_at hl 1 rfl) ?_
            refine lv_iload_n hx hb dX4_scatter_48 rfl (lv_at hl 2 rfl) ?_
            have hix := ixN_lt (nxI xx)
            refine lv_iload hx hb dX4_scatter_49 (lv_at hl 0 rfl) ?_
            refine lv_bipush (v := (nI 16)) hx hb dX4_scatter_51 (by decide) ?_
            refine lv_iushr (v := (ushrI (nxI xx) (nI 16))) hx hb dX4_scatter_53 rfl ?_
            refine lv_sipush (v := (nI 4096)) hx hb dX4_scatter_54 (by decide) ?_
            refine lv_irem hx hb dX4_scatter_57 (by decide) ?_
            refine top_i (x' := (remI (ushrI (nxI xx) (nI 16)) (nI 4096))) rfl ?_
            refine top_i (x' := (nI (ixN (nxI xx)))) (rem_ix _) ?_
            refine lv_iconst (v := (nI 1)) hx hb dX4_scatter_58 (by decide) ?_
            refine top_i (x' := b2i true) rfl ?_
            refine va_callv (va_runV (As := [.int (nI sN), .int (nI (ixN (nxI xx))), .int (b2i true)]) (rest := []) ⟨hx, hb, hml, hown, hts⟩ (k_X4_puts l D T M w9 v (acF v pa fi.2.2.1) (kpt fi.2.2.1) (buF fi) fi.2.2.2.2 bi at0 sN (ixN (nxI xx)) true (by omega) (by omega)) (cwV 3 hts gX4_scatter_X4_puts rfl rfl rfl (by decide +kernel) ⟨Nat.le_of_ble_eq_true rfl, Nat.le_of_ble_eq_true rfl⟩) (pre_V (Φ := fun X => MO D T X M w9 v (acF v pa fi.2.2.1) (kpt fi.2.2.1) (buF fi) fi.2.2.2.2 bi at0) hK (hM.2.1) rfl hM) rfl rfl hl.1 rfl (lv_room (Nat.le_of_ble_eq_true rfl)) dX4_scatter_59 ⟨Nat.le_of_ble_eq_true rfl, Nat.le_of_ble_eq_true rfl⟩) hS (fun q _ h => by rw [h]; exact hSy 1 (by decide)) (fun q h => by rw [h]; exact hSy 1 (by decide)) (fun u_2 t H_2 locs ht hvm hw hB hz hk hS => ?_)
            rw [ht] at hB
            try dsimp only at hw
            try dsimp only at hB
            have hM := hB
            refine lv_iinc (v := (nI (i + 1))) (lv' := [(5, .int (nI (i + 1))), (4, .int (nxI xx)), (0, .ref (M 0)), (1, .int (nI sN)), (2, .int x), (3, .int (nI mN))]) hx hb dX4_scatter_62 hl (k := 5) rfl (iinc_n i 1) (by decide) rfl (fun ls hl => ?_)
            refine lv_goto (tgt := 30) hx hb dX4_scatter_65 (by decide) ?_
            have hl := lv_sub hl (l' := [(0, .ref (M 0)), (1, .int (nI sN)), (2, .int x), (3, .int (nI mN)), (4, .int (nxI xx)), (5, .int (nI (i + 1)))]) [2, 3, 4, 5, 1, 0] rfl
            exact ih30 (i + 1) (nxI xx) u_2 (by omega) (fun t ht hn y hy => (hw.1 t y hy).trans ((if_neg (fun z => hn z.1)).trans (e1 t ht hn y hy))) (fun j hj => (hw.2 j hj).trans (hmm j hj)) (sca_next (by omega) hv (fun y hy => (hw.1 sN y hy).trans put_or)) H_2 _ hM hS ls hl (by omega)
      have hl := lv_sub hl (l' := [(0, .ref (M 0)), (1, .int (nI sN)), (2, .int x), (3, .int (nI mN)), (4, .int x), (5, .int (nI 0))]) [2, 3, 4, 5, 1, 0] rfl
      exact loop30 (mN - 0 + 1) 0 x v (Nat.zero_le _) (fun _ _ _ _ _ => rfl) (fun _ _ => rfl) (fun _ _ => rfl) H_1 _ hM hS ls hl (Nat.lt_succ_self _)
    · skip
      have c_2 : (decide ((nI 1) ≤ y ∧ y ≤ (nI 300))) = false := b2i_0.mp c_2
      have c_2 : ¬ ((nI 1) ≤ y ∧ y ≤ (nI 300)) := of_decide_eq_false c_2
      refine lv_iconst (v := (-1)) hx hb dX4_scatter_18 (by decide) ?_
      subst hQ
      have hfin : MSE D T s.heap M Sy (scaN fi ss x y) := by unfold scaN; rw [if_neg (fun z => c_2 ⟨Int32.not_lt.mp z.2.1, Int32.not_lt.mp z.2.2⟩)]; exact hH
      exact W.iret (v := (-1)) hx hb hr (fun t ht hW => ⟨⟨(-1), (), rfl, ((if_neg (fun z => c_2 ⟨Int32.not_lt.mp z.2.1, Int32.not_lt.mp z.2.2⟩)).symm), by have h9 := hfin; rw [← ht] at h9; exact h9⟩, hS.F ht⟩) hS.2.2 dX4_scatter_19
set_option maxHeartbeats 1000000 in
set_option maxRecDepth 100000 in
theorem k_X4_combine (l : Launch) (D : va_G) (T : Nat → ClassId) (M : Nat → Nat) (Sy : Nat → Prop) (fi : FS) (oo : Int32) (ss : Int32) (tt : Int32) (uu : Int32) : Met l yX4_combine wsX4_combine ({ frames := 4, cells := 0, slots := 0, locals := 92 }) (va_Pc [.ref (M 0), .int oo, .int ss, .int tt, .int uu] (fun U => KS D T U ∧ MSE D T U.heap M Sy fi)) (va_Qi (fun (r : Int32) (u : Unit) => r = (comR fi oo ss tt uu)) (fun u t => MSE D T t.heap M Sy (comN fi oo ss tt uu)) (Sy)) 0 0 (Sy) := by
  refine Met.ofW (cc := cX4_combine) (maxL := 8) (ret := (some .int)) (by decide) rfl ?_
  intro pg ev s m args below meth c s₁ B hml hv
  obtain ⟨rfl, hK, hH⟩ := hv
  have hx := B.exec
  have hb := B.bytes
  have hr := B.returns
  have hts := atoms_spec (ws := wsX4_combine) B.pre
  have hown : s.vm.findClass RX4 = some m.cls := findClass_of_methodNamed B.named
  have hlocks := B.notSynchronized
  have in_wsX40 : ∀ w ∈ wsX40, w ∈ wsX4_combine := fun w h => List.mem_cons_of_mem _ (List.mem_append_right _ h)
  have hS : va_S (Sy) s.heap s.heap [] := va_S.rf
  have hl := lv_entry ([.ref (M 0), .int oo, .int ss, .int tt, .int uu]) (n := 8) (Nat.le_of_ble_eq_true rfl)
  rw [lg_entry_eq]
  generalize (lg_sl ([.ref (M 0), .int oo, .int ss, .int tt, .int uu]) ++ List.replicate (8 - (lg_sl ([.ref (M 0), .int oo, .int ss, .int tt, .int uu])).length) Slot.unset).toArray = ls at hl ⊢
  have hl : lv_has ls 8 [(0, .ref (M 0)), (1, .int oo), (2, .int ss), (3, .int tt), (4, .int uu)] := hl
  refine W_gen (fun Q hQ => ?_)
  obtain ⟨v, as, pa, bi, at0, hM, hSy, hrb, hbl, hk5, hR0, hRh⟩ := id hH
  refine lv_iload_n hx hb dX4_combine_0 rfl (lv_at hl 1 rfl) ?_
  refine lv_iconst (v := (nI 0)) hx hb dX4_combine_1 (by decide) ?_
  refine lv_iconst (v := (nI 3)) hx hb dX4_combine_2 (by decide) ?_
  refine vp_callSi (va_Run.run (va_runS (As := [.int oo, .int (nI 0), .int (nI 3)]) (rest := []) ⟨hx, hb, hml, hown, hts⟩ (k_X4_in l D T oo (nI 0) (nI 3) ) (va_cwS 3 hts gX4_combine_X4_in rfl rfl rfl (by decide +kernel) ⟨Nat.le_of_ble_eq_true rfl, Nat.le_of_ble_eq_true rfl⟩) (pre_S (Φ := fun X => True) hK trivial) rfl rfl hl.1 rfl (lv_room (Nat.le_of_ble_eq_true rfl)) dX4_combine_3 ⟨Nat.le_of_ble_eq_true rfl, Nat.le_of_ble_eq_true rfl⟩)) (fun r_1 hr_1 => ?_)
  subst hr_1
  refine lv_if_eq (tgt := 31) hx hb dX4_combine_6 (by decide) (fun c_1 => ?_) (fun c_1 => ?_)
  · skip
    have c_1 : (decide ((nI 0) ≤ oo ∧ oo ≤ (nI 3))) = false := b2i_0.mp c_1
    have c_1 : ¬ ((nI 0) ≤ oo ∧ oo ≤ (nI 3)) := of_decide_eq_false c_1
    refine lv_iconst (v := (-1)) hx hb dX4_combine_31 (by decide) ?_
    subst hQ
    have hfin : MSE D T s.heap M Sy (comN fi oo ss tt uu) := by unfold comN; rw [if_neg (fun z => c_1 ⟨Int32.not_lt.mp z.1, Int32.not_lt.mp z.2.1⟩)]; exact hH
    exact W.iret (v := (-1)) hx hb hr (fun t ht hW => ⟨⟨(-1), (), rfl, ((if_neg (fun z => c_1 ⟨Int32.not_lt.mp z.1, Int32.not_lt.mp z.2.1⟩)).symm), by have h9 := hfin; rw [← ht] at h9; exact h9⟩, hS.F ht⟩) hS.2.2 dX4_combine_32
  · skip
    have c_1 : (decide ((nI 0) ≤ oo ∧ oo ≤ (nI 3))) = true := b2i_n0.mp c_1
    have c_1 : (nI 0) ≤ oo ∧ oo ≤ (nI 3) := of_decide_eq_true c_1
    refine lv_iload_n hx hb dX4_combine_9 rfl (lv_at hl 2 rfl) ?_
    refine vp_callSi (va_Run.run (va_runS (As := [.int ss]) (rest := []) ⟨hx, hb, hml, hown, hts⟩ (k_X4_isSet l D T ss ) (va_cwS 1 hts gX4_combine_X4_isSet rfl rfl rfl (by decide +kernel) ⟨Nat.le_of_ble_eq_true rfl, Nat.le_of_ble_eq_true rfl⟩) (pre_S (Φ := fun X => True) hK trivial) rfl rfl hl.1 rfl (lv_room (Nat.le_of_ble_eq_true rfl)) dX4_combine_10 ⟨Nat.le_of_ble_eq_true rfl, Nat.le_of_ble_eq_true rfl⟩)) (fun r_2 hr_2 => ?_)
    subst hr_2
    refine lv_if_eq (tgt := 31) hx hb dX4_combine_13 (by decide) (fun c_2 => ?_) (fun c_2 => ?_)
    · skip
      have c_2 : (decide (¬ ss < 0 ∧ ss < nI 6)) = false := b2i_0.mp c_2
      have c_2 : ¬ (¬ ss < 0 ∧ ss < nI 6) := of_decide_eq_false c_2
      refine lv_iconst (v := (-1)) hx hb dX4_combine_31 (by decide) ?_
      subst hQ
      have hfin : MSE D T s.heap M Sy (comN fi oo ss tt uu) := by unfold comN; rw [if_neg (fun z => c_2 z.2.2.1)]; exact hH
      exact W.iret (v := (-1)) hx hb hr (fun t ht hW => ⟨⟨(-1), (), rfl, ((if_neg (fun z => c_2 z.2.2.1)).symm), by have h9 := hfin; rw [← ht] at h9; exact h9⟩, hS.F ht⟩) hS.2.2 dX4_combine_32
    · skip
      have c_2 : (decide (¬ ss < 0 ∧ ss < nI 6)) = true := b2i_n0.mp c_2
      have c_2 : ¬ ss < 0 ∧ ss < nI 6 := of_decide_eq_true c_2
      refine lv_iload_n hx hb dX4_combine_16 rfl (lv_at hl 3 rfl) ?_
      refine vp_callSi (va_Run.run (va_runS (As := [.int tt]) (rest := []) ⟨hx, hb, hml, hown, hts⟩ (k_X4_isSet l D T tt ) (va_cwS 1 hts gX4_combine_X4_isSet rfl rfl rfl (by decide +kernel) ⟨Nat.le_of_ble_eq_true rfl, Nat.le_of_ble_eq_true rfl⟩) (pre_S (Φ := fun X => True) hK trivial) rfl rfl hl.1 rfl (lv_room (Nat.le_of_ble_eq_true rfl)) dX4_combine_17 ⟨Nat.le_of_ble_eq_true rfl, Nat.le_of_ble_eq_true rfl⟩)) (fun r_3 hr_3 => ?_)
      subst hr_3
      refine lv_if_eq (tgt := 31) hx hb dX4_combine_20 (by decide) (fun c_3 => ?_) (fun c_3 => ?_)
      · skip
        have c_3 : (decide (¬ tt < 0 ∧ tt < nI 6)) = false := b2i_0.mp c_3
        have c_3 : ¬ (¬ tt < 0 ∧ tt < nI 6) := of_decide_eq_false c_3
        refine lv_iconst (v := (-1)) hx hb dX4_combine_31 (by decide) ?_
        subst hQ
        have hfin : MSE D T s.heap M Sy (comN fi oo ss tt uu) := by unfold comN; rw [if_neg (fun z => c_3 z.2.2.2.1)]; exact hH
        exact W.iret (v := (-1)) hx hb hr (fun t ht hW => ⟨⟨(-1), (), rfl, ((if_neg (fun z => c_3 z.2.2.2.1)).symm), by have h9 := hfin; rw [← ht] at h9; exact h9⟩, hS.F ht⟩) hS.2.2 dX4_combine_32
      · skip
        have c_3 : (decide (¬ tt < 0 ∧ tt < nI 6)) = true := b2i_n0.mp c_3
        have c_3 : ¬ tt < 0 ∧ tt < nI 6 := of_decide_eq_true c_3
        refine lv_iload hx hb dX4_combine_23 (lv_at hl 4 rfl) ?_
        refine vp_callSi (va_Run.run (va_runS (As := [.int uu]) (rest := []) ⟨hx, hb, hml, hown, hts⟩ (k_X4_isSet l D T uu ) (va_cwS 1 hts gX4_combine_X4_isSet rfl rfl rfl (by decide +kernel) ⟨Nat.le_of_ble_eq_true rfl, Nat.le_of_ble_eq_true rfl⟩) (pre_S (Φ := fun X => True) hK trivial) rfl rfl hl.1 rfl (lv_room (Nat.le_of_ble_eq_true rfl)) dX4_combine_25 ⟨Nat.le_of_ble_eq_true rfl, Nat.le_of_ble_eq_true rfl⟩)) (fun r_4 hr_4 => ?_)
        subst hr_4
        refine lv_if_ne (tgt := 33) hx hb dX4_combine_28 (by decide) (fun c_4 => ?_) (fun c_4 => ?_)
        · skip
          have c_4 : (decide (¬ uu < 0 ∧ uu < nI 6)) = true := b2i_n0.mp c_4
          have c_4 : ¬ uu < 0 ∧ uu < nI 6 := of_decide_eq_true c_4
          have ho1 := c_1
          obtain ⟨oN, hoN, rfl⟩ := okOn (Int32.not_lt.mpr ho1.1) (Int32.not_lt.mpr ho1.2)
          obtain ⟨sN, hsN, rfl⟩ := okX (N := 6) (by decide) c_2
          obtain ⟨tN, htN, rfl⟩ := okX (N := 6) (by decide) c_3
          obtain ⟨uN, huN, rfl⟩ := okX (N := 6) (by decide) c_4
          have hok : okC (nI oN) (nI sN) (nI tN) (nI uN) := ⟨Int32.not_lt.mpr ho1.1, Int32.not_lt.mpr ho1.2, okN hsN (by decide), okN htN (by decide), okN huN (by decide)⟩
          refine lv_aload_n hx hb dX4_combine_33 rfl (lv_at hl 0 rfl) ?_
          refine va_callv (va_runV (As := []) (rest := []) ⟨hx, hb, hml, hown, hts⟩ (k_X4_act l D T M v as pa fi.2.2.1 (buF fi) fi.2.2.2.2 bi at0 (hk5)) (cwV 0 hts gX4_combine_X4_act rfl rfl rfl (by decide +kernel) ⟨Nat.le_of_ble_eq_true rfl, Nat.le_of_ble_eq_true rfl⟩) (pre_V (Φ := fun X => MO D T X M v as pa fi.2.2.1 (buF fi) fi.2.2.2.2 bi at0) hK (hM.2.1) rfl hM) rfl rfl hl.1 rfl (lv_room (Nat.le_of_ble_eq_true rfl)) dX4_combine_34 ⟨Nat.le_of_ble_eq_true rfl, Nat.le_of_ble_eq_true rfl⟩) hS (fun q _ h => by obtain ⟨i, h1, h2⟩ := h; rw [h2]; exact hSy i h1) (fun q h => by obtain ⟨i, h1, h2⟩ := h; rw [h2]; exact hSy i h1) (fun u_1 t H_1 locs ht hvm hw hB hz hk hS => ?_)
          rw [ht] at hB
          try dsimp only at hw
          try dsimp only at hB
          have hM := hB
          refine lv_iconst (v := (nI 0)) hx hb dX4_combine_37 (by decide) ?_
          refine lv_istore (lv' := [(5, .int (nI 0)), (0, .ref (M 0)), (1, .int (nI oN)), (2, .int (nI sN)), (3, .int (nI tN)), (4, .int (nI uN))]) hx hb dX4_combine_38 hl (by decide) rfl (fun ls hl => ?_)
          have loop40 : ∀ (n40 : Nat) (i : Nat) (hi : i ≤ 16) (H : Heap) (locs : List Loc) (hM : MO D T H M (mtU v sN tN i) v (acF v pa fi.2.2.1) (kpt fi.2.2.1) (buF fi) fi.2.2.2.2 bi at0) (hS : va_S (Sy) s.heap H locs) (ls : Array Slot) (hl : lv_has ls 8 [(0, .ref (M 0)), (1, .int (nI oN)), (2, .int (nI sN)), (3, .int (nI tN)), (4, .int (nI uN)), (5, .int (nI i))]) (hn40 : 16 - i < n40), W pg l ev (headSpec wsX4_combine ({ frames := 4, cells := 0, slots := 0, locals := 92 })).room s m ([.ref (M 0), .int (nI oN), .int (nI sN), .int (nI tN), .int (nI uN)] : List Value).toArray below meth c H locs 0 0 Q (F0 m 40 ls []) := by
            intro n40
            induction n40 with
            | zero =>
              intro i hi H locs hM hS ls hl hn40
              exact absurd hn40 (Nat.not_lt_zero _)
            | succ n40 ih40 =>
              intro i hi H locs hM hS ls hl hn40
              refine lv_iload hx hb dX4_combine_40 (lv_at hl 5 rfl) ?_
              refine lv_bipush (v := (nI 16)) hx hb dX4_combine_42 (by decide) ?_
              refine lv_icmp_ge (tgt := 107) hx hb dX4_combine_44 (by decide) (fun c_5 => ?_) (fun c_5 => ?_)
              · skip
                have c_5 : 16 ≤ i := (nI_leI (a := 16) (b := i) (by omega) (by omega)).mp c_5
                refine lv_iconst (v := (nI 0)) hx hb dX4_combine_107 (by decide) ?_
                refine lv_istore (lv' := [(5, .int (nI 0)), (0, .ref (M 0)), (1, .int (nI oN)), (2, .int (nI sN)), (3, .int (nI tN)), (4, .int (nI uN))]) hx hb dX4_combine_108 hl (by decide) rfl (fun ls hl => ?_)
                have loop110 : ∀ (n110 : Nat) (i : Nat) (hi : i ≤ 128) (H : Heap) (locs : List Loc) (hM : MO D T H M (cpF (mtU v sN tN 16) (128 * uN) (jwF v oN sN tN) i) v (acF v pa fi.2.2.1) (kpt fi.2.2.1) (buF fi) fi.2.2.2.2 bi at0) (hS : va_S (Sy) s.heap H locs) (ls : Array Slot) (hl : lv_has ls 8 [(0, .ref (M 0)), (1, .int (nI oN)), (2, .int (nI sN)), (3, .int (nI tN)), (4, .int (nI uN)), (5, .int (nI i))]) (hn110 : 128 - i < n110), W pg l ev (headSpec wsX4_combine ({ frames := 4, cells := 0, slots := 0, locals := 92 })).room s m ([.ref (M 0), .int (nI oN), .int (nI sN), .int (nI tN), .int (nI uN)] : List Value).toArray below meth c H locs 0 0 Q (F0 m 110 ls []) := by
                  intro n110
                  induction n110 with
                  | zero =>
                    intro i hi H locs hM hS ls hl hn110
                    exact absurd hn110 (Nat.not_lt_zero _)
                  | succ n110 ih110 =>
                    intro i hi H locs hM hS ls hl hn110
                    refine lv_iload hx hb dX4_combine_110 (lv_at hl 5 rfl) ?_
                    refine lv_sipush (v := (nI 128)) hx hb dX4_combine_112 (by decide) ?_
                    refine lv_icmp_ge (tgt := 213) hx hb dX4_combine_115 (by decide) (fun c_6 => ?_) (fun c_6 => ?_)
                    · skip
                      have c_6 : 128 ≤ i := (nI_leI (a := 128) (b := i) (by omega) (by omega)).mp c_6
                      refine lv_aload_n hx hb dX4_combine_213 rfl (lv_at hl 0 rfl) ?_
                      refine lv_iload hx hb dX4_combine_214 (lv_at hl 4 rfl) ?_
                      refine va_callv (va_runV (As := [.int (nI uN)]) (rest := []) ⟨hx, hb, hml, hown, hts⟩ (k_X4_converts l D T M (cpF (mtU v sN tN 16) (128 * uN) (jwF v oN sN tN) i) v (acF v pa fi.2.2.1) (kpt fi.2.2.1) (buF fi) fi.2.2.2.2 bi at0 uN (by omega)) (cwV 1 hts gX4_combine_X4_converts rfl rfl rfl (by decide +kernel) ⟨Nat.le_of_ble_eq_true rfl, Nat.le_of_ble_eq_true rfl⟩) (pre_V (Φ := fun X => MO D T X M (cpF (mtU v sN tN 16) (128 * uN) (jwF v oN sN tN) i) v (acF v pa fi.2.2.1) (kpt fi.2.2.1) (buF fi) fi.2.2.2.2 bi at0) hK (hM.2.1) rfl hM) rfl rfl hl.1 rfl (lv_room (Nat.le_of_ble_eq_true rfl)) dX4_combine_216 ⟨Nat.le_of_ble_eq_true rfl, Nat.le_of_ble_eq_true rfl⟩) hS (fun q _ h => by rw [h]; exact hSy 1 (by decide)) (fun q h => by rw [h]; exact hSy 1 (by decide)) (fun u_2 t H_2 locs ht hvm hw hB hz hk hS => ?_)
                      rw [ht] at hB
                      try dsimp only at hw
                      try dsimp only at hB
                      have hM := hB
                      refine lv_aload_n hx hb dX4_combine_219 rfl (lv_at hl 0 rfl) ?_
                      refine lv_iload hx hb dX4_combine_220 (lv_at hl 4 rfl) ?_
                      refine vp_callSi (va_Run.run (va_runV (As := [.int (nI uN)]) (rest := []) ⟨hx, hb, hml, hown, hts⟩ (k_X4_sizeOf l D T M (cvU v (cpF (mtU v sN tN 16) (128 * uN) (jwF v oN sN tN) i) uN 16) v (acF v pa fi.2.2.1) (kpt fi.2.2.1) (buF fi) fi.2.2.2.2 bi at0 uN (by omega)) (cwV 1 hts gX4_combine_X4_sizeOf rfl rfl rfl (by decide +kernel) ⟨Nat.le_of_ble_eq_true rfl, Nat.le_of_ble_eq_true rfl⟩) (pre_V (Φ := fun X => MO D T X M (cvU v (cpF (mtU v sN tN 16) (128 * uN) (jwF v oN sN tN) i) uN 16) v (acF v pa fi.2.2.1) (kpt fi.2.2.1) (buF fi) fi.2.2.2.2 bi at0) hK (hM.2.1) rfl hM) rfl rfl hl.1 rfl (lv_room (Nat.le_of_ble_eq_true rfl)) dX4_combine_222 ⟨Nat.le_of_ble_eq_true rfl, Nat.le_of_ble_eq_true rfl⟩)) (fun r_7 hr_7 => ?_)
                      subst hr_7
                      subst hQ
                      have hi8 : i = 128 := by omega
                      have hwe : ∀ t, t < 6 → ∀ y, y < 4096 → bI (cpF (mtU v sN tN 16) (128 * uN) (jwF v oN sN tN) i) t y = if t = uN then (fun z => jb oN (fi.1.1 sN z) (fi.1.1 tN z)) y else bI v t y := fun t ht y hy => by rw [hi8]; exact (com_w huN t ht y hy).trans (by rw [hR0.1 sN hsN y hy, hR0.1 tN htN y hy])
                      have hfin : MSE D T H_2 M Sy (comN fi (nI oN) (nI sN) (nI tN) (nI uN)) := by
                        unfold comN comB
                        rw [if_pos hok, cl_n (n := oN) (by omega), cl_n (n := sN) (by omega), cl_n (n := tN) (by omega), cl_n (n := uN) (by omega)]
                        exact ⟨_, _, _, _, _, hM, hSy, hrb, hbl, kpt_5, MRp_act huN hR0 hwe (fun j hj => by rw [hi8]; exact (com_m huN hj).trans (mtF_cong (hR0.1 sN hsN) (hR0.1 tN htN) hR0.2.1 16 (Nat.le_refl _) j hj)) (fun j hj => by rw [hi8]; exact com_c huN hj), MRp_push hk5 hR0 hRh⟩
                      exact W.iret (v := (nI (ct (bI (cvU v (cpF (mtU v sN tN 16) (128 * uN) (jwF v oN sN tN) i) uN 16) uN) 0 4096))) hx hb hr (fun t ht hW => ⟨⟨(nI (ct (bI (cvU v (cpF (mtU v sN tN 16) (128 * uN) (jwF v oN sN tN) i) uN 16) uN) 0 4096)), (), rfl, (by unfold comR comB; rw [if_pos hok, cl_n (n := oN) (by omega), cl_n (n := sN) (by omega), cl_n (n := tN) (by omega)]; exact congrArg nI (ct_cong (fun z _ hz => (bI_cvU huN z (by omega)).trans ((hwe uN huN z (by omega)).trans (if_pos rfl))))), by have h9 := hfin; rw [← ht] at h9; exact h9⟩, hS.F ht⟩) hS.2.2 dX4_combine_225
                    · skip
                      have c_6 : ¬ (128 ≤ i) := fun z => c_6 ((nI_leI (a := 128) (b := i) (by omega) (by omega)).mpr z)
                      refine lv_aload_n hx hb dX4_combine_118 rfl (lv_at hl 0 rfl) ?_
                      refine r_get (C := RX4) (Tb := TX4) (N := 8) hx hb hts in_wsX40 hown hK (hM.2.1) rfl 1 (by decide) (hts (.fieldLink RX4 13 "PieceSetsModel" "aside" "[I") (by decide +kernel)) rfl (v := .ref (M 2)) rfl dX4_combine_119 ?_
                      refine lv_sipush (v := (nI 128)) hx hb dX4_combine_122 (by decide) ?_
                      refine lv_iload_n hx hb dX4_combine_125 rfl (lv_at hl 2 rfl) ?_
                      refine lv_imul hx hb dX4_combine_126 ?_
                      refine top_i (pk_mul 128 sN) ?_
                      refine lv_iload hx hb dX4_combine_127 (lv_at hl 5 rfl) ?_
                      refine lv_iadd hx hb dX4_combine_129 ?_
                      refine top_i (nI_add (128 * sN) i) ?_
                      refine r_iald hx hb hK (hM.2.2.2.1) (i := (128 * sN) + i) (by omega) (by decide) dX4_combine_130 ?_
                      refine lv_istore (lv' := [(6, .int (v ((128 * sN) + i))), (0, .ref (M 0)), (1, .int (nI oN)), (2, .int (nI sN)), (3, .int (nI tN)), (4, .int (nI uN)), (5, .int (nI i))]) hx hb dX4_combine_131 hl (by decide) rfl (fun ls hl => ?_)
                      refine lv_aload_n hx hb dX4_combine_133 rfl (lv_at hl 1 rfl) ?_
                      refine r_get (C := RX4) (Tb := TX4) (N := 8) hx hb hts in_wsX40 hown hK (hM.2.1) rfl 1 (by decide) (hts (.fieldLink RX4 13 "PieceSetsModel" "aside" "[I") (by decide +kernel)) rfl (v := .ref (M 2)) rfl dX4_combine_134 ?_
                      refine lv_sipush (v := (nI 128)) hx hb dX4_combine_137 (by decide) ?_
                      refine lv_iload_n hx hb dX4_combine_140 rfl (lv_at hl 4 rfl) ?_
                      refine lv_imul hx hb dX4_combine_141 ?_
                      refine top_i (pk_mul 128 tN) ?_
                      refine lv_iload hx hb dX4_combine_142 (lv_at hl 6 rfl) ?_
                      refine lv_iadd hx hb dX4_combine_144 ?_
                      refine top_i (nI_add (128 * tN) i) ?_
                      refine r_iald hx hb hK (hM.2.2.2.1) (i := (128 * tN) + i) (by omega) (by decide) dX4_combine_145 ?_
                      refine lv_istore (lv' := [(7, .int (v ((128 * tN) + i))), (6, .int (v ((128 * sN) + i))), (0, .ref (M 0)), (1, .int (nI oN)), (2, .int (nI sN)), (3, .int (nI tN)), (4, .int (nI uN)), (5, .int (nI i))]) hx hb dX4_combine_146 hl (by decide) rfl (fun ls hl => ?_)
                      refine lv_aload_n hx hb dX4_combine_148 rfl (lv_at hl 2 rfl) ?_
                      refine r_get (C := RX4) (Tb := TX4) (N := 8) hx hb hts in_wsX40 hown hK (hM.2.1) rfl 0 (by decide) (hts (.fieldLink RX4 7 "PieceSetsModel" "v" "[I") (by decide +kernel)) rfl (v := .ref (M 1)) rfl dX4_combine_149 ?_
                      refine lv_sipush (v := (nI 128)) hx hb dX4_combine_152 (by decide) ?_
                      refine lv_iload hx hb dX4_combine_155 (lv_at hl 6 rfl) ?_
                      refine lv_imul hx hb dX4_combine_157 ?_
                      refine top_i (pk_mul 128 uN) ?_
                      refine lv_iload hx hb dX4_combine_158 (lv_at hl 7 rfl) ?_
                      refine lv_iadd hx hb dX4_combine_160 ?_
                      refine top_i (nI_add (128 * uN) i) ?_
                      refine lv_iload_n hx hb dX4_combine_161 rfl (lv_at hl 3 rfl) ?_
                      refine lv_if_ne (tgt := 173) hx hb dX4_combine_162 (by decide) (fun c_7 => ?_) (fun c_7 => ?_)
                      · skip
                        have c_7 : ¬ (oN = 0) := fun z => c_7 ((nI_e0 (a := oN) (by omega)).mpr z)
                        refine lv_iload_n hx hb dX4_combine_173 rfl (lv_at hl 3 rfl) ?_
                        refine lv_iconst (v := (nI 1)) hx hb dX4_combine_174 (by decide) ?_
                        refine lv_icmp_ne (tgt := 186) hx hb dX4_combine_175 (by decide) (fun c_8 => ?_) (fun c_8 => ?_)
                        · skip
                          have c_8 : ¬ (oN = 1) := fun z => c_8 ((nI_eq (a := oN) (b := 1) (by omega) (by omega)).mpr z)
                          refine lv_iload_n hx hb dX4_combine_186 rfl (lv_at hl 3 rfl) ?_
                          refine lv_iconst (v := (nI 2)) hx hb dX4_combine_187 (by decide) ?_
                          refine lv_icmp_ne (tgt := 199) hx hb dX4_combine_188 (by decide) (fun c_9 => ?_) (fun c_9 => ?_)
                          · skip
                            have c_9 : ¬ (oN = 2) := fun z => c_9 ((nI_eq (a := oN) (b := 2) (by omega) (by omega)).mpr z)
                            refine lv_iload hx hb dX4_combine_199 (lv_at hl 1 rfl) ?_
                            refine lv_iload hx hb dX4_combine_201 (lv_at hl 0 rfl) ?_
                            refine lv_iconst (v := (-1)) hx hb dX4_combine_203 (by decide) ?_
                            refine lv_ixor hx hb dX4_combine_204 ?_
                            refine lv_iand hx hb dX4_combine_205 ?_
                            refine top_i (x' := jw oN (v (128 * sN + i)) (v (128 * tN + i))) (by unfold jw; rw [if_neg c_7, if_neg c_8, if_neg c_9]) ?_
                            refine r_iast hx hb hK hS ((hSy 1 (by decide))) (hM.2.2.1) (i := (128 * uN) + i) (by omega) (by decide) dX4_combine_206 (fun H_2 locs hat oq hS => ?_)
                            have hM := (hM.set1 hat (Fr.oq oq)).eqv (g := (cpF (mtU v sN tN 16) (128 * uN) (jwF v oN sN tN) (i + 1))) (fun j _ => cpF_s (mtU v sN tN 16) (128 * uN) (jwF v oN sN tN) i j)
                            refine lv_iinc (v := (nI (i + 1))) (lv' := [(5, .int (nI (i + 1))), (7, .int (v ((128 * tN) + i))), (6, .int (v ((128 * sN) + i))), (0, .ref (M 0)), (1, .int (nI oN)), (2, .int (nI sN)), (3, .int (nI tN)), (4, .int (nI uN))]) hx hb dX4_combine_207 hl (k := 7) rfl (iinc_n i 1) (by decide) rfl (fun ls hl => ?_)
                            refine lv_goto (tgt := 110) hx hb dX4_combine_210 (by decide) ?_
                            have hl := lv_sub hl (l' := [(0, .ref (M 0)), (1, .int (nI oN)), (2, .int (nI sN)), (3, .int (nI tN)), (4, .int (nI uN)), (5, .int (nI (i + 1)))]) [3, 4, 5, 6, 7, 0] rfl
                            exact ih110 (i + 1) (by omega) H_2 _ hM hS ls hl (by omega)
                          · skip
                            have c_9 : oN = 2 := (nI_eq (a := oN) (b := 2) (by omega) (by omega)).mp c_9
                            refine lv_iload hx hb dX4_combine_191 (lv_at hl 1 rfl) ?_
                            refine lv_iload hx hb dX4_combine_193 (lv_at hl 0 rfl) ?_
                            refine lv_ixor hx hb dX4_combine_195 ?_
                            refine lv_goto (tgt := 206) hx hb dX4_combine_196 (by decide) ?_
                            refine top_i (x' := jw oN (v (128 * sN + i)) (v (128 * tN + i))) (by unfold jw; rw [if_neg c_7, if_neg c_8, if_pos c_9]) ?_
                            refine r_iast hx hb hK hS ((hSy 1 (by decide))) (hM.2.2.1) (i := (128 * uN) + i) (by omega) (by decide) dX4_combine_206 (fun H_2 locs hat oq hS => ?_)
                            have hM := (hM.set1 hat (Fr.oq oq)).eqv (g := (cpF (mtU v sN tN 16) (128 * uN) (jwF v oN sN tN) (i + 1))) (fun j _ => cpF_s (mtU v sN tN 16) (128 * uN) (jwF v oN sN tN) i j)
                            refine lv_iinc (v := (nI (i + 1))) (lv' := [(5, .int (nI (i + 1))), (7, .int (v ((128 * tN) + i))), (6, .int (v ((128 * sN) + i))), (0, .ref (M 0)), (1, .int (nI oN)), (2, .int (nI sN)), (3, .int (nI tN)), (4, .int (nI uN))]) hx hb dX4_combine_207 hl (k := 7) rfl (iinc_n i 1) (by decide) rfl (fun ls hl => ?_)
                            refine lv_goto (tgt := 110) hx hb dX4_combine_210 (by decide) ?_
                            have hl := lv_sub hl (l' := [(0, .ref (M 0)), (1, .int (nI oN)), (2, .int (nI sN)), (3, .int (nI tN)), (4, .int (nI uN)), (5, .int (nI (i + 1)))]) [3, 4, 5, 6, 7, 0] rfl
                            exact ih110 (i + 1) (by omega) H_2 _ hM hS ls hl (by omega)
                        · skip
                          have c_8 : oN = 1 := (nI_eq (a := oN) (b := 1) (by omega) (by omega)).mp c_8
                          refine lv_iload hx hb dX4_combine_178 (lv_at hl 1 rfl) ?_
                          refine lv_iload hx hb dX4_combine_180 (lv_at hl 0 rfl) ?_
                          refine lv_ior hx hb dX4_combine_182 ?_
                          refine lv_goto (tgt := 206) hx hb dX4_combine_183 (by decide) ?_
                          refine top_i (x' := jw oN (v (128 * sN + i)) (v (128 * tN + i))) (by unfold jw; rw [if_neg c_7, if_pos c_8]) ?_
                          refine r_iast hx hb hK hS ((hSy 1 (by decide))) (hM.2.2.1) (i := (128 * uN) + i) (by omega) (by decide) dX4_combine_206 (fun H_2 locs hat oq hS => ?_)
                          have hM := (hM.set1 hat (Fr.oq oq)).eqv (g := (cpF (mtU v sN tN 16) (128 * uN) (jwF v oN sN tN) (i + 1))) (fun j _ => cpF_s (mtU v sN tN 16) (128 * uN) (jwF v oN sN tN) i j)
                          refine lv_iinc (v := (nI (i + 1))) (lv' := [(5, .int (nI (i + 1))), (7, .int (v ((128 * tN) + i))), (6, .int (v ((128 * sN) + i))), (0, .ref (M 0)), (1, .int (nI oN)), (2, .int (nI sN)), (3, .int (nI tN)), (4, .int (nI uN))]) hx hb dX4_combine_207 hl (k := 7) rfl (iinc_n i 1) (by decide) rfl (fun ls hl => ?_)
                          refine lv_goto (tgt := 110) hx hb dX4_combine_210 (by decide) ?_
                          have hl := lv_sub hl (l' := [(0, .ref (M 0)), (1, .int (nI oN)), (2, .int (nI sN)), (3, .int (nI tN)), (4, .int (nI uN)), (5, .int (nI (i + 1)))]) [3, 4, 5, 6, 7, 0] rfl
                          exact ih110 (i + 1) (by omega) H_2 _ hM hS ls hl (by omega)
                      · skip
                        have c_7 : oN = 0 := (nI_e0 (a := oN) (by omega)).mp c_7
                        refine lv_iload hx hb dX4_combine_165 (lv_at hl 1 rfl) ?_
                        refine lv_iload hx hb dX4_combine_167 (lv_at hl 0 rfl) ?_
                        refine lv_iand hx hb dX4_combine_169 ?_
                        refine lv_goto (tgt := 206) hx hb dX4_combine_170 (by decide) ?_
                        refine top_i (x' := jw oN (v (128 * sN + i)) (v (128 * tN + i))) ((if_pos c_7).symm) ?_
                        refine r_iast hx hb hK hS ((hSy 1 (by decide))) (hM.2.2.1) (i := (128 * uN) + i) (by omega) (by decide) dX4_combine_206 (fun H_2 locs hat oq hS => ?_)
                        have hM := (hM.set1 hat (Fr.oq oq)).eqv (g := (cpF (mtU v sN tN 16) (128 * uN) (jwF v oN sN tN) (i + 1))) (fun j _ => cpF_s (mtU v sN tN 16) (128 * uN) (jwF v oN sN tN) i j)
                        refine lv_iinc (v := (nI (i + 1))) (lv' := [(5, .int (nI (i + 1))), (7, .int (v ((128 * tN) + i))), (6, .int (v ((128 * sN) + i))), (0, .ref (M 0)), (1, .int (nI oN)), (2, .int (nI sN)), (3, .int (nI tN)), (4, .int (nI uN))]) hx hb dX4_combine_207 hl (k := 7) rfl (iinc_n i 1) (by decide) rfl (fun ls hl => ?_)
                        refine lv_goto (tgt := 110) hx hb dX4_combine_210 (by decide) ?_
                        have hl := lv_sub hl (l' := [(0, .ref (M 0)), (1, .int (nI oN)), (2, .int (nI sN)), (3, .int (nI tN)), (4, .int (nI uN)), (5, .int (nI (i + 1)))]) [3, 4, 5, 6, 7, 0] rfl
                        exact ih110 (i + 1) (by omega) H_2 _ hM hS ls hl (by omega)
                have hM := hM.eqv (fun j _ => (congrFun (congrArg (mtU v sN tN) (show i = 16 by omega)) j).trans (cpF_0 (mtU v sN tN 16) (128 * uN) (jwF v oN sN tN) j))
                have hl := lv_sub hl (l' := [(0, .ref (M 0)), (1, .int (nI oN)), (2, .int (nI sN)), (3, .int (nI tN)), (4, .int (nI uN)), (5, .int (nI 0))]) [1, 2, 3, 4, 5, 0] rfl
                exact loop110 (128 - 0 + 1) 0 (Nat.zero_le _) H _ hM hS ls hl (Nat.lt_succ_self _)
              · skip
                have c_5 : ¬ (16 ≤ i) := fun z => c_5 ((nI_leI (a := 16) (b := i) (by omega) (by omega)).mpr z)
                refine lv_aload_n hx hb dX4_combine_47 rfl (lv_at hl 0 rfl) ?_
                refine r_get (C := RX4) (Tb := TX4) (N := 8) hx hb hts in_wsX40 hown hK (hM.2.1) rfl 1 (by decide) (hts (.fieldLink RX4 13 "PieceSetsModel" "aside" "[I") (by decide +kernel)) rfl (v := .ref (M 2)) rfl dX4_combine_48 ?_
                refine lv_iload_n hx hb dX4_combine_51 rfl (lv_at hl 2 rfl) ?_
                refine lv_iload hx hb dX4_combine_52 (lv_at hl 5 rfl) ?_
                refine vp_callSi (va_Run.run (va_runS (As := [.ref (M 2), .int (nI sN), .int (nI i)]) (rest := []) ⟨hx, hb, hml, hown, hts⟩ (k_X4_kindIn l D T (M 2) v sN i (by omega) (by omega)) (va_cwS 3 hts gX4_combine_X4_kindIn rfl rfl rfl (by decide +kernel) ⟨Nat.le_of_ble_eq_true rfl, Nat.le_of_ble_eq_true rfl⟩) (pre_S (Φ := fun X => va_at D vwCl ((M 2), eI T 790 v) X) hK hM.2.2.2.1) rfl rfl hl.1 rfl (lv_room (Nat.le_of_ble_eq_true rfl)) dX4_combine_54 ⟨Nat.le_of_ble_eq_true rfl, Nat.le_of_ble_eq_true rfl⟩)) (fun r_6 hr_6 => ?_)
                subst hr_6
                refine lv_istore (lv' := [(6, .int (pkd (bI v sN) i)), (0, .ref (M 0)), (1, .int (nI oN)), (2, .int (nI sN)), (3, .int (nI tN)), (4, .int (nI uN)), (5, .int (nI i))]) hx hb dX4_combine_57 hl (by decide) rfl (fun ls hl => ?_)
                refine lv_aload_n hx hb dX4_combine_59 rfl (lv_at hl 1 rfl) ?_
                refine r_get (C := RX4) (Tb := TX4) (N := 8) hx hb hts in_wsX40 hown hK (hM.2.1) rfl 1 (by decide) (hts (.fieldLink RX4 13 "PieceSetsModel" "aside" "[I") (by decide +kernel)) rfl (v := .ref (M 2)) rfl dX4_combine_60 ?_
                refine lv_iload_n hx hb dX4_combine_63 rfl (lv_at hl 4 rfl) ?_
                refine lv_iload hx hb dX4_combine_64 (lv_at hl 6 rfl) ?_
                refine vp_callSi (va_Run.run (va_runS (As := [.ref (M 2), .int (nI tN), .int (nI i)]) (rest := []) ⟨hx, hb, hml, hown, hts⟩ (k_X4_kindIn l D T (M 2) v tN i (by omega) (by omega)) (va_cwS 3 hts gX4_combine_X4_kindIn rfl rfl rfl (by decide +kernel) ⟨Nat.le_of_ble_eq_true rfl, Nat.le_of_ble_eq_true rfl⟩) (pre_S (Φ := fun X => va_at D vwCl ((M 2), eI T 790 v) X) hK hM.2.2.2.1) rfl rfl hl.1 rfl (lv_room (Nat.le_of_ble_eq_true rfl)) dX4_combine_66 ⟨Nat.le_of_ble_eq_true rfl, Nat.le_of_ble_eq_true rfl⟩)) (fun r_7 hr_7 => ?_)
                subst hr_7
                refine lv_istore (lv' := [(7, .int (pkd (bI v tN) i)), (6, .int (pkd (bI v sN) i)), (0, .ref (M 0)), (1, .int (nI oN)), (2, .int (nI sN)), (3, .int (nI tN)), (4, .int (nI uN)), (5, .int (nI i))]) hx hb dX4_combine_69 hl (by decide) rfl (fun ls hl => ?_)
                refine lv_iload hx hb dX4_combine_71 (lv_at hl 1 rfl) ?_
                refine lv_if_lt (tgt := 101) hx hb dX4_combine_73 (by decide) (fun c_6 => ?_) (fun c_6 => ?_)
                · skip
                  refine lv_iinc (v := (nI (i + 1))) (lv' := [(5, .int (nI (i + 1))), (7, .int (pkd (bI v tN) i)), (6, .int (pkd (bI v sN) i)), (0, .ref (M 0)), (1, .int (nI oN)), (2, .int (nI sN)), (3, .int (nI tN)), (4, .int (nI uN))]) hx hb dX4_combine_101 hl (k := 7) rfl (iinc_n i 1) (by decide) rfl (fun ls hl => ?_)
                  refine lv_goto (tgt := 40) hx hb dX4_combine_104 (by decide) ?_
                  have hM := hM.eqv (fun j _ => mtU_s0 (fun z => z.1 (pkd_neg c_6)) j)
                  have hl := lv_sub hl (l' := [(0, .ref (M 0)), (1, .int (nI oN)), (2, .int (nI sN)), (3, .int (nI tN)), (4, .int (nI uN)), (5, .int (nI (i + 1)))]) [3, 4, 5, 6, 7, 0] rfl
                  exact ih40 (i + 1) (by omega) H _ hM hS ls hl (by omega)
                · skip
                  refine lv_iload hx hb dX4_combine_76 (lv_at hl 0 rfl) ?_
                  refine lv_if_lt (tgt := 101) hx hb dX4_combine_78 (by decide) (fun c_7 => ?_) (fun c_7 => ?_)
                  · skip
                    refine lv_iinc (v := (nI (i + 1))) (lv' := [(5, .int (nI (i + 1))), (7, .int (pkd (bI v tN) i)), (6, .int (pkd (bI v sN) i)), (0, .ref (M 0)), (1, .int (nI oN)), (2, .int (nI sN)), (3, .int (nI tN)), (4, .int (nI uN))]) hx hb dX4_combine_101 hl (k := 7) rfl (iinc_n i 1) (by decide) rfl (fun ls hl => ?_)
                    refine lv_goto (tgt := 40) hx hb dX4_combine_104 (by decide) ?_
                    have hM := hM.eqv (fun j _ => mtU_s0 (fun z => z.2 (pkd_neg c_7)) j)
                    have hl := lv_sub hl (l' := [(0, .ref (M 0)), (1, .int (nI oN)), (2, .int (nI sN)), (3, .int (nI tN)), (4, .int (nI uN)), (5, .int (nI (i + 1)))]) [3, 4, 5, 6, 7, 0] rfl
                    exact ih40 (i + 1) (by omega) H _ hM hS ls hl (by omega)
                  · skip
                    have hp1 := pkd_pos c_6
                    have hp2 := pkd_pos c_7
                    have hk1 := kk_lt (bI v sN) i
                    have hk2 := kk_lt (bI v tN) i
                    have k_1 : pkd (bI v sN) i = nI (kk (bI v sN) i) := pkd_n hp1
                    have hl : lv_has ls 8 [(7, .int (pkd (bI v tN) i)), (6, .int (nI (kk (bI v sN) i))), (0, .ref (M 0)), (1, .int (nI oN)), (2, .int (nI sN)), (3, .int (nI tN)), (4, .int (nI uN)), (5, .int (nI i))] := by have h := hl; rw [k_1] at h; exact h
                    have k_2 : pkd (bI v tN) i = nI (kk (bI v tN) i) := pkd_n hp2
                    have hl : lv_has ls 8 [(7, .int (nI (kk (bI v tN) i))), (6, .int (nI (kk (bI v sN) i))), (0, .ref (M 0)), (1, .int (nI oN)), (2, .int (nI sN)), (3, .int (nI tN)), (4, .int (nI uN)), (5, .int (nI i))] := by have h := hl; rw [k_2] at h; exact h
                    refine lv_aload_n hx hb dX4_combine_81 rfl (lv_at hl 2 rfl) ?_
                    refine r_get (C := RX4) (Tb := TX4) (N := 8) hx hb hts in_wsX40 hown hK (hM.2.1) rfl 0 (by decide) (hts (.fieldLink RX4 7 "PieceSetsModel" "v" "[I") (by decide +kernel)) rfl (v := .ref (M 1)) rfl dX4_combine_82 ?_
                    refine lv_sipush (v := (nI 768)) hx hb dX4_combine_85 (by decide) ?_
                    refine lv_iconst (v := (nI 3)) hx hb dX4_combine_88 (by decide) ?_
                    refine lv_iload hx hb dX4_combine_89 (lv_at hl 1 rfl) ?_
                    refine lv_imul hx hb dX4_combine_91 ?_
                    refine top_i (pk_mul 3 (kk (bI v sN) i)) ?_
                    refine lv_iadd hx hb dX4_combine_92 ?_
                    refine top_i (nI_add 768 (3 * (kk (bI v sN) i))) ?_
                    refine lv_iload hx hb dX4_combine_93 (lv_at hl 0 rfl) ?_
                    refine lv_iadd hx hb dX4_combine_95 ?_
                    refine top_i (nI_add (768 + (3 * (kk (bI v sN) i))) (kk (bI v tN) i)) ?_
                    refine lv_dup2_11 hx hb dX4_combine_96 rfl rfl ?_
                    refine r_iald hx hb hK (hM.2.2.1) (i := (768 + (3 * (kk (bI v sN) i))) + (kk (bI v tN) i)) (by omega) (by decide) dX4_combine_97 ?_
                    refine lv_iconst (v := (nI 1)) hx hb dX4_combine_98 (by decide) ?_
                    refine lv_iadd hx hb dX4_combine_99 ?_
                    refine r_iast hx hb hK hS ((hSy 1 (by decide))) (hM.2.2.1) (i := (768 + (3 * (kk (bI v sN) i))) + (kk (bI v tN) i)) (by omega) (by decide) dX4_combine_100 (fun H_2 locs hat oq hS => ?_)
                    have hM := (hM.set1 hat (Fr.oq oq)).eqv (g := (mtU v sN tN (i + 1))) (fun j _ => mtU_s1 ⟨hp1, hp2⟩ j)
                    refine lv_iinc (v := (nI (i + 1))) (lv' := [(5, .int (nI (i + 1))), (7, .int (nI (kk (bI v tN) i))), (6, .int (nI (kk (bI v sN) i))), (0, .ref (M 0)), (1, .int (nI oN)), (2, .int (nI sN)), (3, .int (nI tN)), (4, .int (nI uN))]) hx hb dX4_combine_101 hl (k := 7) rfl (iinc_n i 1) (by decide) rfl (fun ls hl => ?_)
                    refine lv_goto (tgt := 40) hx hb dX4_combine_104 (by decide) ?_
                    have hl := lv_sub hl (l' := [(0, .ref (M 0)), (1, .int (nI oN)), (2, .int (nI sN)), (3, .int (nI tN)), (4, .int (nI uN)), (5, .int (nI (i + 1)))]) [3, 4, 5, 6, 7, 0] rfl
                    exact ih40 (i + 1) (by omega) H_2 _ hM hS ls hl (by omega)
          have hM := hM.eqv (fun j _ => mtU_0 (s := sN) (t := tN) j)
          have hl := lv_sub hl (l' := [(0, .ref (M 0)), (1, .int (nI oN)), (2, .int (nI sN)), (3, .int (nI tN)), (4, .int (nI uN)), (5, .int (nI 0))]) [1, 2, 3, 4, 5, 0] rfl
          exact loop40 (16 - 0 + 1) 0 (Nat.zero_le _) H_1 _ hM hS ls hl (Nat.lt_succ_self _)
        · skip
          have c_4 : (decide (¬ uu < 0 ∧ uu < nI 6)) = false := b2i_0.mp c_4
          have c_4 : ¬ (¬ uu < 0 ∧ uu < nI 6) := of_decide_eq_false c_4
          refine lv_iconst (v := (-1)) hx hb dX4_combine_31 (by decide) ?_
          subst hQ
          have hfin : MSE D T s.heap M Sy (comN fi oo ss tt uu) := by unfold comN; rw [if_neg (fun z => c_4 z.2.2.2.2)]; exact hH
          exact W.iret (v := (-1)) hx hb hr (fun t ht hW => ⟨⟨(-1), (), rfl, ((if_neg (fun z => c_4 z.2.2.2.2)).symm), by have h9 := hfin; rw [← ht] at h9; exact h9⟩, hS.F ht⟩) hS.2.2 dX4_combine_32
set_option maxHeartbeats 1000000 in
set_option maxRecDepth 100000 in
theorem k_X4_shift (l : Launch) (D : va_G) (T : Nat → ClassId) (M : Nat → Nat) (Sy : Nat → Prop) (fi : FS) (ss : Int32) (y : Int32) : Met l yX4_shift wsX4_shift ({ frames := 4, cells := 0, slots := 0, locals := 92 }) (va_Pc [.ref (M 0), .int ss, .int y] (fun U => KS D T U ∧ MSE D T U.heap M Sy fi)) (va_Qi (fun (r : Int32) (u : Unit) => r = (shiR fi ss y)) (fun u t => MSE D T t.heap M Sy (shiN fi ss y)) (Sy)) 0 0 (Sy) := by
  refine Met.ofW (cc := cX4_shift) (maxL := 5) (ret := (some .int)) (by decide) rfl ?_
  intro pg ev s m args below meth c s₁ B hml hv
  obtain ⟨rfl, hK, hH⟩ := hv
  have hx := B.exec
  have hb := B.bytes
  have hr := B.returns
  have hts := atoms_spec (ws := wsX4_shift) B.pre
  have hown : s.vm.findClass RX4 = some m.cls := findClass_of_methodNamed B.named
  have hlocks := B.notSynchronized
  have in_wsX40 : ∀ w ∈ wsX40, w ∈ wsX4_shift := fun w h => List.mem_cons_of_mem _ (List.mem_append_right _ h)
  have hS : va_S (Sy) s.heap s.heap [] := va_S.rf
  have hl := lv_entry ([.ref (M 0), .int ss, .int y]) (n := 5) (Nat.le_of_ble_eq_true rfl)
  rw [lg_entry_eq]
  generalize (lg_sl ([.ref (M 0), .int ss, .int y]) ++ List.replicate (5 - (lg_sl ([.ref (M 0), .int ss, .int y])).length) Slot.unset).toArray = ls at hl ⊢
  have hl : lv_has ls 5 [(0, .ref (M 0)), (1, .int ss), (2, .int y)] := hl
  refine W_gen (fun Q hQ => ?_)
  obtain ⟨v, as, pa, bi, at0, hM, hSy, hrb, hbl, hk5, hR0, hRh⟩ := id hH
  refine lv_iload_n hx hb dX4_shift_0 rfl (lv_at hl 1 rfl) ?_
  refine vp_callSi (va_Run.run (va_runS (As := [.int ss]) (rest := []) ⟨hx, hb, hml, hown, hts⟩ (k_X4_isSet l D T ss ) (va_cwS 1 hts gX4_shift_X4_isSet rfl rfl rfl (by decide +kernel) ⟨Nat.le_of_ble_eq_true rfl, Nat.le_of_ble_eq_true rfl⟩) (pre_S (Φ := fun X => True) hK trivial) rfl rfl hl.1 rfl (lv_room (Nat.le_of_ble_eq_true rfl)) dX4_shift_1 ⟨Nat.le_of_ble_eq_true rfl, Nat.le_of_ble_eq_true rfl⟩)) (fun r_1 hr_1 => ?_)
  subst hr_1
  refine lv_if_eq (tgt := 20) hx hb dX4_shift_4 (by decide) (fun c_1 => ?_) (fun c_1 => ?_)
  · skip
    have c_1 : (decide (¬ ss < 0 ∧ ss < nI 6)) = false := b2i_0.mp c_1
    have c_1 : ¬ (¬ ss < 0 ∧ ss < nI 6) := of_decide_eq_false c_1
    refine lv_iconst (v := (-1)) hx hb dX4_shift_20 (by decide) ?_
    subst hQ
    have hfin : MSE D T s.heap M Sy (shiN fi ss y) := by unfold shiN; rw [if_neg (fun z => c_1 z.1)]; exact hH
    exact W.iret (v := (-1)) hx hb hr (fun t ht hW => ⟨⟨(-1), (), rfl, ((if_neg (fun z => c_1 z.1)).symm), by have h9 := hfin; rw [← ht] at h9; exact h9⟩, hS.F ht⟩) hS.2.2 dX4_shift_21
  · skip
    have c_1 : (decide (¬ ss < 0 ∧ ss < nI 6)) = true := b2i_n0.mp c_1
    have c_1 : ¬ ss < 0 ∧ ss < nI 6 := of_decide_eq_true c_1
    refine lv_iload_n hx hb dX4_shift_7 rfl (lv_at hl 2 rfl) ?_
    refine lv_sipush (v := (-4095)) hx hb dX4_shift_8 (by decide) ?_
    refine lv_sipush (v := (nI 4095)) hx hb dX4_shift_11 (by decide) ?_
    refine vp_callSi (va_Run.run (va_runS (As := [.int y, .int (-4095), .int (nI 4095)]) (rest := []) ⟨hx, hb, hml, hown, hts⟩ (k_X4_in l D T y (-4095) (nI 4095) ) (va_cwS 3 hts gX4_shift_X4_in rfl rfl rfl (by decide +kernel) ⟨Nat.le_of_ble_eq_true rfl, Nat.le_of_ble_eq_true rfl⟩) (pre_S (Φ := fun X => True) hK trivial) rfl rfl hl.1 rfl (lv_room (Nat.le_of_ble_eq_true rfl)) dX4_shift_14 ⟨Nat.le_of_ble_eq_true rfl, Nat.le_of_ble_eq_true rfl⟩)) (fun r_2 hr_2 => ?_)
    subst hr_2
    refine lv_if_ne (tgt := 22) hx hb dX4_shift_17 (by decide) (fun c_2 => ?_) (fun c_2 => ?_)
    · skip
      have c_2 : (decide ((-4095) ≤ y ∧ y ≤ (nI 4095))) = true := b2i_n0.mp c_2
      have c_2 : (-4095) ≤ y ∧ y ≤ (nI 4095) := of_decide_eq_true c_2
      obtain ⟨sN, hsN, rfl⟩ := okX (N := 6) (by decide) c_1
      have hyo : okS y := shr_rng.mp c_2
      have hy := okSn hyo.1 (Int32.not_le.mp hyo.2)
      have hok : ok6 (nI sN) ∧ okS y := ⟨okN hsN (by decide), hyo⟩
      refine lv_aload_n hx hb dX4_shift_22 rfl (lv_at hl 0 rfl) ?_
      refine va_callv (va_runV (As := []) (rest := []) ⟨hx, hb, hml, hown, hts⟩ (k_X4_act l D T M v as pa fi.2.2.1 (buF fi) fi.2.2.2.2 bi at0 (hk5)) (cwV 0 hts gX4_shift_X4_act rfl rfl rfl (by decide +kernel) ⟨Nat.le_of_ble_eq_true rfl, Nat.le_of_ble_eq_true rfl⟩) (pre_V (Φ := fun X => MO D T X M v as pa fi.2.2.1 (buF fi) fi.2.2.2.2 bi at0) hK (hM.2.1) rfl hM) rfl rfl hl.1 rfl (lv_room (Nat.le_of_ble_eq_true rfl)) dX4_shift_23 ⟨Nat.le_of_ble_eq_true rfl, Nat.le_of_ble_eq_true rfl⟩) hS (fun q _ h => by obtain ⟨i, h1, h2⟩ := h; rw [h2]; exact hSy i h1) (fun q h => by obtain ⟨i, h1, h2⟩ := h; rw [h2]; exact hSy i h1) (fun u_1 t H_1 locs ht hvm hw hB hz hk hS => ?_)
      rw [ht] at hB
      try dsimp only at hw
      try dsimp only at hB
      have hM := hB
      refine lv_iconst (v := (nI 0)) hx hb dX4_shift_26 (by decide) ?_
      refine lv_istore_n (lv' := [(3, .int (nI 0)), (0, .ref (M 0)), (1, .int (nI sN)), (2, .int y)]) hx hb dX4_shift_27 rfl hl (by decide) rfl (fun ls hl => ?_)
      refine lv_iconst (v := (nI 0)) hx hb dX4_shift_28 (by decide) ?_
      refine lv_istore (lv' := [(4, .int (nI 0)), (3, .int (nI 0)), (0, .ref (M 0)), (1, .int (nI sN)), (2, .int y)]) hx hb dX4_shift_29 hl (by decide) rfl (fun ls hl => ?_)
      have loop31 : ∀ (n31 : Nat) (i : Nat) (hi : i ≤ 128) (H : Heap) (locs : List Loc) (hM : MO D T H M (cpF v (128 * sN) (fun _ => nI 0) i) v (acF v pa fi.2.2.1) (kpt fi.2.2.1) (buF fi) fi.2.2.2.2 bi at0) (hS : va_S (Sy) s.heap H locs) (ls : Array Slot) (hl : lv_has ls 5 [(0, .ref (M 0)), (1, .int (nI sN)), (2, .int y), (3, .int (nI 0)), (4, .int (nI i))]) (hn31 : 128 - i < n31), W pg l ev (headSpec wsX4_shift ({ frames := 4, cells := 0, slots := 0, locals := 92 })).room s m ([.ref (M 0), .int (nI sN), .int y] : List Value).toArray below meth c H locs 0 0 Q (F0 m 31 ls []) := by
        intro n31
        induction n31 with
        | zero =>
          intro i hi H locs hM hS ls hl hn31
          exact absurd hn31 (Nat.not_lt_zero _)
        | succ n31 ih31 =>
          intro i hi H locs hM hS ls hl hn31
          refine lv_iload hx hb dX4_shift_31 (lv_at hl 4 rfl) ?_
          refine lv_sipush (v := (nI 128)) hx hb dX4_shift_33 (by decide) ?_
          refine lv_icmp_ge (tgt := 59) hx hb dX4_shift_36 (by decide) (fun c_3 => ?_) (fun c_3 => ?_)
          · skip
            have c_3 : 128 ≤ i := (nI_leI (a := 128) (b := i) (by omega) (by omega)).mp c_3
            refine lv_iconst (v := (nI 0)) hx hb dX4_shift_59 (by decide) ?_
            refine lv_istore (lv' := [(4, .int (nI 0)), (0, .ref (M 0)), (1, .int (nI sN)), (2, .int y), (3, .int (nI 0))]) hx hb dX4_shift_60 hl (by decide) rfl (fun ls hl => ?_)
            have loop62 : ∀ (n62 : Nat) (x : Nat) (w9 : Nat → Int32) (hxx : x ≤ 4096) (hv9 : shI v w9 sN x y.toInt) (hmm : ∀ j, 768 ≤ j → w9 j = v j) (H : Heap) (locs : List Loc) (hM : MO D T H M w9 v (acF v pa fi.2.2.1) (kpt fi.2.2.1) (buF fi) fi.2.2.2.2 bi at0) (hS : va_S (Sy) s.heap H locs) (ls : Array Slot) (hl : lv_has ls 5 [(0, .ref (M 0)), (1, .int (nI sN)), (2, .int y), (3, .int (nI (ct (loF (bI v sN) y.toInt) 0 x))), (4, .int (nI x))]) (hn62 : 4096 - x < n62), W pg l ev (headSpec wsX4_shift ({ frames := 4, cells := 0, slots := 0, locals := 92 })).room s m ([.ref (M 0), .int (nI sN), .int y] : List Value).toArray below meth c H locs 0 0 Q (F0 m 62 ls []) := by
              intro n62
              induction n62 with
              | zero =>
                intro x w9 hxx hv9 hmm H locs hM hS ls hl hn62
                exact absurd hn62 (Nat.not_lt_zero _)
              | succ n62 ih62 =>
                intro x w9 hxx hv9 hmm H locs hM hS ls hl hn62
                refine lv_iload hx hb dX4_shift_62 (lv_at hl 4 rfl) ?_
                refine lv_sipush (v := (nI 4096)) hx hb dX4_shift_64 (by decide) ?_
                refine lv_icmp_ge (tgt := 119) hx hb dX4_shift_67 (by decide) (fun c_4 => ?_) (fun c_4 => ?_)
                · skip
                  have c_4 : 4096 ≤ x := (nI_leI (a := 4096) (b := x) (by omega) (by omega)).mp c_4
                  refine lv_aload_n hx hb dX4_shift_119 rfl (lv_at hl 0 rfl) ?_
                  refine lv_iload_n hx hb dX4_shift_120 rfl (lv_at hl 1 rfl) ?_
                  refine va_callv (va_runV (As := [.int (nI sN)]) (rest := []) ⟨hx, hb, hml, hown, hts⟩ (k_X4_converts l D T M w9 v (acF v pa fi.2.2.1) (kpt fi.2.2.1) (buF fi) fi.2.2.2.2 bi at0 sN (by omega)) (cwV 1 hts gX4_shift_X4_converts rfl rfl rfl (by decide +kernel) ⟨Nat.le_of_ble_eq_true rfl, Nat.le_of_ble_eq_true rfl⟩) (pre_V (Φ := fun X => MO D T X M w9 v (acF v pa fi.2.2.1) (kpt fi.2.2.1) (buF fi) fi.2.2.2.2 bi at0) hK (hM.2.1) rfl hM) rfl rfl hl.1 rfl (lv_room (Nat.le_of_ble_eq_true rfl)) dX4_shift_121 ⟨Nat.le_of_ble_eq_true rfl, Nat.le_of_ble_eq_true rfl⟩) hS (fun q _ h => by rw [h]; exact hSy 1 (by decide)) (fun q h => by rw [h]; exact hSy 1 (by decide)) (fun u_2 t H_2 locs ht hvm hw hB hz hk hS => ?_)
                  rw [ht] at hB
                  try dsimp only at hw
                  try dsimp only at hB
                  have hM := hB
                  refine lv_iload_n hx hb dX4_shift_124 rfl (lv_at hl 3 rfl) ?_
                  subst hQ
                  have hx4 : x = 4096 := by omega
                  have hwe := shI_end (by rw [hx4] at hv9; exact hv9) hy (hR0.1 sN hsN)
                  have hfin : MSE D T H_2 M Sy (shiN fi (nI sN) y) := by
                    unfold shiN
                    rw [if_pos hok, cl_n (by omega)]
                    exact ⟨_, _, _, _, _, hM, hSy, hrb, hbl, kpt_5, MRp_act hsN hR0 hwe (fun j hj => (hmm _ (by omega)).trans (hR0.2.1 j hj)) (fun j hj => hmm _ (by omega)), MRp_push hk5 hR0 hRh⟩
                  have hc1 := lo_cong (hR0.1 sN hsN) y.toInt
                  exact W.iret (v := (nI (ct (loF (bI v sN) y.toInt) 0 x))) hx hb hr (fun t ht hW => ⟨⟨(nI (ct (loF (bI v sN) y.toInt) 0 x)), (), rfl, (by unfold shiR; rw [if_pos hok, cl_n (by omega), hx4, hc1, lost_ct]), by have h9 := hfin; rw [← ht] at h9; exact h9⟩, hS.F ht⟩) hS.2.2 dX4_shift_125
                · skip
                  have c_4 : ¬ (4096 ≤ x) := fun z => c_4 ((nI_leI (a := 4096) (b := x) (by omega) (by omega)).mpr z)
                  refine lv_aload_n hx hb dX4_shift_70 rfl (lv_at hl 0 rfl) ?_
                  refine r_get (C := RX4) (Tb := TX4) (N := 8) hx hb hts in_wsX40 hown hK (hM.2.1) rfl 1 (by decide) (hts (.fieldLink RX4 13 "PieceSetsModel" "aside" "[I") (by decide +kernel)) rfl (v := .ref (M 2)) rfl dX4_shift_71 ?_
                  refine lv_iload_n hx hb dX4_shift_74 rfl (lv_at hl 1 rfl) ?_
                  refine lv_iload hx hb dX4_shift_75 (lv_at hl 4 rfl) ?_
                  refine vp_callSi (va_Run.run (va_runS (As := [.ref (M 2), .int (nI sN), .int (nI x)]) (rest := []) ⟨hx, hb, hml, hown, hts⟩ (k_X4_bit l D T (M 2) v sN x (by omega) (by omega)) (va_cwS 3 hts gX4_shift_X4_bit rfl rfl rfl (by decide +kernel) ⟨Nat.le_of_ble_eq_true rfl, Nat.le_of_ble_eq_true rfl⟩) (pre_S (Φ := fun X => va_at D vwCl ((M 2), eI T 790 v) X) hK hM.2.2.2.1) rfl rfl hl.1 rfl (lv_room (Nat.le_of_ble_eq_true rfl)) dX4_shift_77 ⟨Nat.le_of_ble_eq_true rfl, Nat.le_of_ble_eq_true rfl⟩)) (fun r_4 hr_4 => ?_)
                  subst hr_4
                  refine lv_if_eq (tgt := 113) hx hb dX4_shift_80 (by decide) (fun c_5 => ?_) (fun c_5 => ?_)
                  · skip
                    have c_5 : bI v sN x = false := b2i_0.mp c_5
                    refine lv_iinc (v := (nI (x + 1))) (lv' := [(4, .int (nI (x + 1))), (0, .ref (M 0)), (1, .int (nI sN)), (2, .int y), (3, .int (nI (ct (loF (bI v sN) y.toInt) 0 x)))]) hx hb dX4_shift_113 hl (k := 4) rfl (iinc_n x 1) (by decide) rfl (fun ls hl => ?_)
                    refine lv_goto (tgt := 62) hx hb dX4_shift_116 (by decide) ?_
                    have hl := lv_sub hl (l' := [(0, .ref (M 0)), (1, .int (nI sN)), (2, .int y), (3, .int (nI (ct (loF (bI v sN) y.toInt) 0 x))), (4, .int (nI (x + 1)))]) [1, 2, 3, 4, 0] rfl
                    have q_1 : (nI (ct (loF (bI v sN) y.toInt) 0 x)) = (nI (ct (loF (bI v sN) y.toInt) 0 (x + 1))) := by rw [ct_end, Nat.zero_add]; first | rw [lo_f c_5, if_neg Bool.false_ne_true, Nat.add_zero] | rw [lo_in ((add_rng (by omega) hy).mp c_6), if_neg Bool.false_ne_true, Nat.add_zero] | rw [lo_out c_5 (fun q => c_6 ((add_rng (by omega) hy).mpr q)), if_pos rfl]
                    have hl : lv_has ls 5 [(0, .ref (M 0)), (1, .int (nI sN)), (2, .int y), (3, .int (nI (ct (loF (bI v sN) y.toInt) 0 (x + 1)))), (4, .int (nI (x + 1)))] := by
                      have h := hl
                      rw [q_1] at h
                      exact h
                    exact ih62 (x + 1) w9 (by omega) (shf_no (by omega) hv9 (Or.inl c_5)) (hmm) H _ hM hS ls hl (by omega)
                  · skip
                    have c_5 : bI v sN x = true := b2i_n0.mp c_5
                    refine lv_iload hx hb dX4_shift_83 (lv_at hl 4 rfl) ?_
                    refine lv_iload_n hx hb dX4_shift_85 rfl (lv_at hl 2 rfl) ?_
                    refine lv_iadd hx hb dX4_shift_86 ?_
                    refine lv_iconst (v := (nI 0)) hx hb dX4_shift_87 (by decide) ?_
                    refine lv_sipush (v := (nI 4095)) hx hb dX4_shift_88 (by decide) ?_
                    refine vp_callSi (va_Run.run (va_runS (As := [.int ((nI x) + y), .int (nI 0), .int (nI 4095)]) (rest := []) ⟨hx, hb, hml, hown, hts⟩ (k_X4_in l D T ((nI x) + y) (nI 0) (nI 4095) ) (va_cwS 3 hts gX4_shift_X4_in rfl rfl rfl (by decide +kernel) ⟨Nat.le_of_ble_eq_true rfl, Nat.le_of_ble_eq_true rfl⟩) (pre_S (Φ := fun X => True) hK trivial) rfl rfl hl.1 rfl (lv_room (Nat.le_of_ble_eq_true rfl)) dX4_shift_91 ⟨Nat.le_of_ble_eq_true rfl, Nat.le_of_ble_eq_true rfl⟩)) (fun r_5 hr_5 => ?_)
                    subst hr_5
                    refine lv_if_eq (tgt := 110) hx hb dX4_shift_94 (by decide) (fun c_6 => ?_) (fun c_6 => ?_)
                    · skip
                      have c_6 : (decide ((nI 0) ≤ ((nI x) + y) ∧ ((nI x) + y) ≤ (nI 4095))) = false := b2i_0.mp c_6
                      have c_6 : ¬ ((nI 0) ≤ ((nI x) + y) ∧ ((nI x) + y) ≤ (nI 4095)) := of_decide_eq_false c_6
                      refine lv_iinc (v := (nI ((ct (loF (bI v sN) y.toInt) 0 x) + 1))) (lv' := [(3, .int (nI ((ct (loF (bI v sN) y.toInt) 0 x) + 1))), (0, .ref (M 0)), (1, .int (nI sN)), (2, .int y), (4, .int (nI x))]) hx hb dX4_shift_110 hl (k := 3) rfl (iinc_n (ct (loF (bI v sN) y.toInt) 0 x) 1) (by decide) rfl (fun ls hl => ?_)
                      refine lv_iinc (v := (nI (x + 1))) (lv' := [(4, .int (nI (x + 1))), (3, .int (nI ((ct (loF (bI v sN) y.toInt) 0 x) + 1))), (0, .ref (M 0)), (1, .int (nI sN)), (2, .int y)]) hx hb dX4_shift_113 hl (k := 4) rfl (iinc_n x 1) (by decide) rfl (fun ls hl => ?_)
                      refine lv_goto (tgt := 62) hx hb dX4_shift_116 (by decide) ?_
                      have hl := lv_sub hl (l' := [(0, .ref (M 0)), (1, .int (nI sN)), (2, .int y), (3, .int (nI ((ct (loF (bI v sN) y.toInt) 0 x) + 1))), (4, .int (nI (x + 1)))]) [2, 3, 4, 1, 0] rfl
                      have q_1 : (nI ((ct (loF (bI v sN) y.toInt) 0 x) + 1)) = (nI (ct (loF (bI v sN) y.toInt) 0 (x + 1))) := by rw [ct_end, Nat.zero_add]; first | rw [lo_f c_5, if_neg Bool.false_ne_true, Nat.add_zero] | rw [lo_in ((add_rng (by omega) hy).mp c_6), if_neg Bool.false_ne_true, Nat.add_zero] | rw [lo_out c_5 (fun q => c_6 ((add_rng (by omega) hy).mpr q)), if_pos rfl]
                      have hl : lv_has ls 5 [(0, .ref (M 0)), (1, .int (nI sN)), (2, .int y), (3, .int (nI (ct (loF (bI v sN) y.toInt) 0 (x + 1)))), (4, .int (nI (x + 1)))] := by
                        have h := hl
                        rw [q_1] at h
                        exact h
                      exact ih62 (x + 1) w9 (by omega) (shf_no (by omega) hv9 (Or.inr (fun q => c_6 ((add_rng (by omega) hy).mpr q)))) (hmm) H _ hM hS ls hl (by omega)
                    · skip
                      have c_6 : (decide ((nI 0) ≤ ((nI x) + y) ∧ ((nI x) + y) ≤ (nI 4095))) = true := b2i_n0.mp c_6
                      have c_6 : (nI 0) ≤ ((nI x) + y) ∧ ((nI x) + y) ≤ (nI 4095) := of_decide_eq_true c_6
                      obtain ⟨mN, hm4, hme, hmi⟩ := add_nat (show x < 4096 by omega) hy c_6
                      refine lv_aload_n hx hb dX4_shift_97 rfl (lv_at hl 0 rfl) ?_
                      refine lv_iload_n hx hb dX4_shift_98 rfl (lv_at hl 1 rfl) ?_
                      refine lv_iload hx hb dX4_shift_99 (lv_at hl 4 rfl) ?_
                      refine lv_iload_n hx hb dX4_shift_101 rfl (lv_at hl 2 rfl) ?_
                      refine lv_iadd hx hb dX4_shift_102 ?_
                      refine top_i (x' := (nI mN)) (hme) ?_
                      refine lv_iconst (v := (nI 1)) hx hb dX4_shift_103 (by decide) ?_
                      refine top_i (x' := b2i true) rfl ?_
                      refine va_callv (va_runV (As := [.int (nI sN), .int (nI mN), .int (b2i true)]) (rest := []) ⟨hx, hb, hml, hown, hts⟩ (k_X4_puts l D T M w9 v (acF v pa fi.2.2.1) (kpt fi.2.2.1) (buF fi) fi.2.2.2.2 bi at0 sN mN true (by omega) (by omega)) (cwV 3 hts gX4_shift_X4_puts rfl rfl rfl (by decide +kernel) ⟨Nat.le_of_ble_eq_true rfl, Nat.le_of_ble_eq_true rfl⟩) (pre_V (Φ := fun X => MO D T X M w9 v (acF v pa fi.2.2.1) (kpt fi.2.2.1) (buF fi) fi.2.2.2.2 bi at0) hK (hM.2.1) rfl hM) rfl rfl hl.1 rfl (lv_room (Nat.le_of_ble_eq_true rfl)) dX4_shift_104 ⟨Nat.le_of_ble_eq_true rfl, Nat.le_of_ble_eq_true rfl⟩) hS (fun q _ h => by rw [h]; exact hSy 1 (by decide)) (fun q h => by rw [h]; exact hSy 1 (by decide)) (fun u_2 t H_2 locs ht hvm hw hB hz hk hS => ?_)
                      rw [ht] at hB
                      try dsimp only at hw
                      try dsimp only at hB
                      have hM := hB
                      refine lv_goto (tgt := 113) hx hb dX4_shift_107 (by decide) ?_
                      refine lv_iinc (v := (nI (x + 1))) (lv' := [(4, .int (nI (x + 1))), (0, .ref (M 0)), (1, .int (nI sN)), (2, .int y), (3, .int (nI (ct (loF (bI v sN) y.toInt) 0 x)))]) hx hb dX4_shift_113 hl (k := 4) rfl (iinc_n x 1) (by decide) rfl (fun ls hl => ?_)
                      refine lv_goto (tgt := 62) hx hb dX4_shift_116 (by decide) ?_
                      have hl := lv_sub hl (l' := [(0, .ref (M 0)), (1, .int (nI sN)), (2, .int y), (3, .int (nI (ct (loF (bI v sN) y.toInt) 0 x))), (4, .int (nI (x + 1)))]) [1, 2, 3, 4, 0] rfl
                      have q_1 : (nI (ct (loF (bI v sN) y.toInt) 0 x)) = (nI (ct (loF (bI v sN) y.toInt) 0 (x + 1))) := by rw [ct_end, Nat.zero_add]; first | rw [lo_f c_5, if_neg Bool.false_ne_true, Nat.add_zero] | rw [lo_in ((add_rng (by omega) hy).mp c_6), if_neg Bool.false_ne_true, Nat.add_zero] | rw [lo_out c_5 (fun q => c_6 ((add_rng (by omega) hy).mpr q)), if_pos rfl]
                      have hl : lv_has ls 5 [(0, .ref (M 0)), (1, .int (nI sN)), (2, .int y), (3, .int (nI (ct (loF (bI v sN) y.toInt) 0 (x + 1)))), (4, .int (nI (x + 1)))] := by
                        have h := hl
                        rw [q_1] at h
                        exact h
                      exact ih62 (x + 1) u_2 (by omega) (shf_put (by omega) hv9 hw.1 hmi c_5) (fun j hj => (hw.2 j hj).trans (hmm j hj)) H_2 _ hM hS ls hl (by omega)
            rw [show i = 128 by omega] at hM
            have hl := lv_sub hl (l' := [(0, .ref (M 0)), (1, .int (nI sN)), (2, .int y), (3, .int (nI 0)), (4, .int (nI 0))]) [1, 2, 3, 4, 0] rfl
            have q_1 : (nI 0) = (nI (ct (loF (bI v sN) y.toInt) 0 0)) := rfl
            have hl : lv_has ls 5 [(0, .ref (M 0)), (1, .int (nI sN)), (2, .int y), (3, .int (nI (ct (loF (bI v sN) y.toInt) 0 0))), (4, .int (nI 0))] := by
              have h := hl
              rw [q_1] at h
              exact h
            exact loop62 (4096 - 0 + 1) 0 (cpF v (128 * sN) (fun _ => nI 0) 128) (Nat.zero_le _) (shf_0 hsN hy) (fun j hj => cpF_o (by omega)) H _ hM hS ls hl (Nat.lt_succ_self _)
          · skip
            have c_3 : ¬ (128 ≤ i) := fun z => c_3 ((nI_leI (a := 128) (b := i) (by omega) (by omega)).mpr z)
            refine lv_aload_n hx hb dX4_shift_39 rfl (lv_at hl 0 rfl) ?_
            refine r_get (C := RX4) (Tb := TX4) (N := 8) hx hb hts in_wsX40 hown hK (hM.2.1) rfl 0 (by decide) (hts (.fieldLink RX4 7 "PieceSetsModel" "v" "[I") (by decide +kernel)) rfl (v := .ref (M 1)) rfl dX4_shift_40 ?_
            refine lv_sipush (v := (nI 128)) hx hb dX4_shift_43 (by decide) ?_
            refine lv_iload_n hx hb dX4_shift_46 rfl (lv_at hl 1 rfl) ?_
            refine lv_imul hx hb dX4_shift_47 ?_
            refine top_i (pk_mul 128 sN) ?_
            refine lv_iload hx hb dX4_shift_48 (lv_at hl 4 rfl) ?_
            refine lv_iadd hx hb dX4_shift_50 ?_
            refine top_i (nI_add (128 * sN) i) ?_
            refine lv_iconst (v := (nI 0)) hx hb dX4_shift_51 (by decide) ?_
            refine r_iast hx hb hK hS ((hSy 1 (by decide))) (hM.2.2.1) (i := (128 * sN) + i) (by omega) (by decide) dX4_shift_52 (fun H_2 locs hat oq hS => ?_)
            have hM := (hM.set1 hat (Fr.oq oq)).eqv (g := (cpF v (128 * sN) (fun _ => nI 0) (i + 1))) (fun j _ => cpF_s v (128 * sN) (fun _ => nI 0) i j)
            refine lv_iinc (v := (nI (i + 1))) (lv' := [(4, .int (nI (i + 1))), (0, .ref (M 0)), (1, .int (nI sN)), (2, .int y), (3, .int (nI 0))]) hx hb dX4_shift_53 hl (k := 4) rfl (iinc_n i 1) (by decide) rfl (fun ls hl => ?_)
            refine lv_goto (tgt := 31) hx hb dX4_shift_56 (by decide) ?_
            have hl := lv_sub hl (l' := [(0, .ref (M 0)), (1, .int (nI sN)), (2, .int y), (3, .int (nI 0)), (4, .int (nI (i + 1)))]) [1, 2, 3, 4, 0] rfl
            exact ih31 (i + 1) (by omega) H_2 _ hM hS ls hl (by omega)
      have hM := hM.eqv (fun j _ => cpF_0 v (128 * sN) (fun _ => nI 0) j)
      have hl := lv_sub hl (l' := [(0, .ref (M 0)), (1, .int (nI sN)), (2, .int y), (3, .int (nI 0)), (4, .int (nI 0))]) [2, 3, 4, 1, 0] rfl
      exact loop31 (128 - 0 + 1) 0 (Nat.zero_le _) H_1 _ hM hS ls hl (Nat.lt_succ_self _)
    · skip
      have c_2 : (decide ((-4095) ≤ y ∧ y ≤ (nI 4095))) = false := b2i_0.mp c_2
      have c_2 : ¬ ((-4095) ≤ y ∧ y ≤ (nI 4095)) := of_decide_eq_false c_2
      refine lv_iconst (v := (-1)) hx hb dX4_shift_20 (by decide) ?_
      subst hQ
      have hfin : MSE D T s.heap M Sy (shiN fi ss y) := by unfold shiN; rw [if_neg (fun z => c_2 (shr_rng.mpr z.2))]; exact hH
      exact W.iret (v := (-1)) hx hb hr (fun t ht hW => ⟨⟨(-1), (), rfl, ((if_neg (fun z => c_2 (shr_rng.mpr z.2))).symm), by have h9 := hfin; rw [← ht] at h9; exact h9⟩, hS.F ht⟩) hS.2.2 dX4_shift_21
set_option maxHeartbeats 1000000 in
set_option maxRecDepth 100000 in
theorem k_X4_undo (l : Launch) (D : va_G) (T : Nat → ClassId) (M : Nat → Nat) (Sy : Nat → Prop) (fi : FS) : Met l yX4_undo wsX4_undo ({ frames := 0, cells := 0, slots := 0, locals := 0 }) (va_Pc [.ref (M 0)] (fun U => KS D T U ∧ MSE D T U.heap M Sy fi)) (va_Qi (fun (r : Int32) (u : Unit) => r = (undR fi)) (fun u t => MSE D T t.heap M Sy (undN fi)) (Sy)) 0 0 (Sy) := by
  refine Met.ofW (cc := cX4_undo) (maxL := 2) (ret := (some .int)) (by decide) rfl ?_
  intro pg ev s m args below meth c s₁ B hml hv
  obtain ⟨rfl, hK, hH⟩ := hv
  have hx := B.exec
  have hb := B.bytes
  have hr := B.returns
  have hts := atoms_spec (ws := wsX4_undo) B.pre
  have hown : s.vm.findClass RX4 = some m.cls := findClass_of_methodNamed B.named
  have hlocks := B.notSynchronized
  have in_wsX40 : ∀ w ∈ wsX40, w ∈ wsX4_undo := fun w h => List.mem_cons_of_mem _ (List.mem_append_right _ h)
  have hS : va_S (Sy) s.heap s.heap [] := va_S.rf
  have hl := lv_entry ([.ref (M 0)]) (n := 2) (Nat.le_of_ble_eq_true rfl)
  rw [lg_entry_eq]
  generalize (lg_sl ([.ref (M 0)]) ++ List.replicate (2 - (lg_sl ([.ref (M 0)])).length) Slot.unset).toArray = ls at hl ⊢
  have hl : lv_has ls 2 [(0, .ref (M 0))] := hl
  refine W_gen (fun Q hQ => ?_)
  obtain ⟨v, as, pa, bi, at0, hM, hSy, hrb, hbl, hk5, hR0, hRh⟩ := id hH
  refine lv_aload_n hx hb dX4_undo_0 rfl (lv_at hl 0 rfl) ?_
  refine r_get (C := RX4) (Tb := TX4) (N := 8) hx hb hts in_wsX40 hown hK (hM.2.1) rfl 3 (by decide) (hts (.fieldLink RX4 33 "PieceSetsModel" "pastMany" "I") (by decide +kernel)) rfl (v := .int (nI fi.2.2.1)) rfl dX4_undo_1 ?_
  refine lv_if_ne (tgt := 10) hx hb dX4_undo_4 (by decide) (fun c_1 => ?_) (fun c_1 => ?_)
  · skip
    have c_1 : ¬ (fi.2.2.1 = 0) := fun z => c_1 ((nI_e0 (a := fi.2.2.1) (by omega)).mpr z)
    refine lv_aload_n hx hb dX4_undo_10 rfl (lv_at hl 0 rfl) ?_
    refine lv_dup hx hb dX4_undo_11 rfl ?_
    refine r_get (C := RX4) (Tb := TX4) (N := 8) hx hb hts in_wsX40 hown hK (hM.2.1) rfl 3 (by decide) (hts (.fieldLink RX4 33 "PieceSetsModel" "pastMany" "I") (by decide +kernel)) rfl (v := .int (nI fi.2.2.1)) rfl dX4_undo_12 ?_
    refine lv_iconst (v := (nI 1)) hx hb dX4_undo_15 (by decide) ?_
    refine lv_isub hx hb dX4_undo_16 ?_
    refine top_i (pk_sub (a := fi.2.2.1) (b := 1) (by omega)) ?_
    refine r_put (C := RX4) (Tb := TX4) (N := 8) hx hb hts in_wsX40 tyX4 tyX4_ok nmX4 hown hK hS (hSy 0 (by decide)) hM.2.1 rfl 3 (by decide) (hts (.fieldLink RX4 33 "PieceSetsModel" "pastMany" "I") (by decide +kernel)) rfl rfl (ty := .int) (by decide +kernel) rfl rfl (show (3 : Nat) < 8 by decide) dX4_undo_17 (fun H_1 locs hat oq hS => ?_)
    have hM := hM.set0 (pk' := fi.2.2.1 - 1) (bm' := fi.2.2.2.2) (at' := at0) hat (Fr.oq oq)
    refine lv_iconst (v := (nI 0)) hx hb dX4_undo_20 (by decide) ?_
    refine lv_istore_n (lv' := [(1, .int (nI 0)), (0, .ref (M 0))]) hx hb dX4_undo_21 rfl hl (by decide) rfl (fun ls hl => ?_)
    have loop22 : ∀ (n22 : Nat) (i : Nat) (hi : i ≤ 790) (H : Heap) (locs : List Loc) (hM : MO D T H M (cpF v 0 (fun j => pa (790 * (fi.2.2.1 - 1) + j)) i) as pa (fi.2.2.1 - 1) (buF fi) fi.2.2.2.2 bi at0) (hS : va_S (Sy) s.heap H locs) (ls : Array Slot) (hl : lv_has ls 2 [(0, .ref (M 0)), (1, .int (nI i))]) (hn22 : 790 - i < n22), W pg l ev (headSpec wsX4_undo ({ frames := 0, cells := 0, slots := 0, locals := 0 })).room s m ([.ref (M 0)] : List Value).toArray below meth c H locs 0 0 Q (F0 m 22 ls []) := by
      intro n22
      induction n22 with
      | zero =>
        intro i hi H locs hM hS ls hl hn22
        exact absurd hn22 (Nat.not_lt_zero _)
      | succ n22 ih22 =>
        intro i hi H locs hM hS ls hl hn22
        refine lv_iload_n hx hb dX4_undo_22 rfl (lv_at hl 1 rfl) ?_
        refine lv_sipush (v := (nI 790)) hx hb dX4_undo_23 (by decide) ?_
        refine lv_icmp_ge (tgt := 56) hx hb dX4_undo_26 (by decide) (fun c_2 => ?_) (fun c_2 => ?_)
        · skip
          have c_2 : 790 ≤ i := (nI_leI (a := 790) (b := i) (by omega) (by omega)).mp c_2
          refine lv_aload_n hx hb dX4_undo_56 rfl (lv_at hl 0 rfl) ?_
          refine r_get (C := RX4) (Tb := TX4) (N := 8) hx hb hts in_wsX40 hown hK (hM.2.1) rfl 3 (by decide) (hts (.fieldLink RX4 33 "PieceSetsModel" "pastMany" "I") (by decide +kernel)) rfl (v := .int (nI (fi.2.2.1 - 1))) rfl dX4_undo_57 ?_
          subst hQ
          rw [show i = 790 by omega] at hM
          have hfin : MSE D T H M Sy (undN fi) := by
            unfold undN
            rw [if_neg (show ¬ fi.2.2.1 = 0 by omega)]
            exact ⟨_, _, _, _, _, hM, hSy, hrb, hbl, (show fi.2.2.1 - 1 ≤ 5 by omega), (hRh (fi.2.2.1 - 1) (by omega)).cong (fun j hj => (cpF_i (by omega)).trans (by rw [Nat.sub_zero])), fun i hi => hRh i (by have h9 : i < fi.2.2.1 - 1 := hi; omega)⟩
          exact W.iret (v := (nI (fi.2.2.1 - 1))) hx hb hr (fun t ht hW => ⟨⟨(nI (fi.2.2.1 - 1)), (), rfl, (if_neg (show ¬ fi.2.2.1 = 0 by omega)).symm, by have h9 := hfin; rw [← ht] at h9; exact h9⟩, hS.F ht⟩) hS.2.2 dX4_undo_60
        · skip
          have c_2 : ¬ (790 ≤ i) := fun z => c_2 ((nI_leI (a := 790) (b := i) (by omega) (by omega)).mpr z)
          refine lv_aload_n hx hb dX4_undo_29 rfl (lv_at hl 0 rfl) ?_
          refine r_get (C := RX4) (Tb := TX4) (N := 8) hx hb hts in_wsX40 hown hK (hM.2.1) rfl 0 (by decide) (hts (.fieldLink RX4 7 "PieceSetsModel" "v" "[I") (by decide +kernel)) rfl (v := .ref (M 1)) rfl dX4_undo_30 ?_
          refine lv_iload_n hx hb dX4_undo_33 rfl (lv_at hl 1 rfl) ?_
          refine lv_aload_n hx hb dX4_undo_34 rfl (lv_at hl 0 rfl) ?_
          refine r_get (C := RX4) (Tb := TX4) (N := 8) hx hb hts in_wsX40 hown hK (hM.2.1) rfl 2 (by decide) (hts (.fieldLink RX4 16 "PieceSetsModel" "past" "[I") (by decide +kernel)) rfl (v := .ref (M 3)) rfl dX4_undo_35 ?_
          refine lv_sipush (v := (nI 790)) hx hb dX4_undo_38 (by decide) ?_
          refine lv_aload_n hx hb dX4_undo_41 rfl (lv_at hl 0 rfl) ?_
          refine r_get (C := RX4) (Tb := TX4) (N := 8) hx hb hts in_wsX40 hown hK (hM.2.1) rfl 3 (by decide) (hts (.fieldLink RX4 33 "PieceSetsModel" "pastMany" "I") (by decide +kernel)) rfl (v := .int (nI (fi.2.2.1 - 1))) rfl dX4_undo_42 ?_
          refine lv_imul hx hb dX4_undo_45 ?_
          refine top_i (pk_mul 790 (fi.2.2.1 - 1)) ?_
          refine lv_iload_n hx hb dX4_undo_46 rfl (lv_at hl 1 rfl) ?_
          refine lv_iadd hx hb dX4_undo_47 ?_
          refine top_i (nI_add (790 * (fi.2.2.1 - 1)) i) ?_
          refine r_iald hx hb hK (hM.2.2.2.2.1) (i := (790 * (fi.2.2.1 - 1)) + i) (by omega) (by decide) dX4_undo_48 ?_
          refine r_iast hx hb hK hS ((hSy 1 (by decide))) (hM.2.2.1) (i := i) (by omega) (by decide) dX4_undo_49 (fun H_2 locs hat oq hS => ?_)
          have hM := (hM.set1 hat (Fr.oq oq)).eqv (g := (cpF v 0 (fun j => pa (790 * (fi.2.2.1 - 1) + j)) (i + 1))) (fun j _ => by have h9 := cpF_s v 0 (fun j => pa (790 * (fi.2.2.1 - 1) + j)) i j; rw [Nat.zero_add] at h9; exact h9)
          refine lv_iinc (v := (nI (i + 1))) (lv' := [(1, .int (nI (i + 1))), (0, .ref (M 0))]) hx hb dX4_undo_50 hl (k := 1) rfl (iinc_n i 1) (by decide) rfl (fun ls hl => ?_)
          refine lv_goto (tgt := 22) hx hb dX4_undo_53 (by decide) ?_
          have hl := lv_sub hl (l' := [(0, .ref (M 0)), (1, .int (nI (i + 1)))]) [1, 0] rfl
          exact ih22 (i + 1) (by omega) H_2 _ hM hS ls hl (by omega)
    have hM := hM.eqv (fun j _ => cpF_0 v 0 (fun j => pa (790 * (fi.2.2.1 - 1) + j)) j)
    have hl := lv_sub hl (l' := [(0, .ref (M 0)), (1, .int (nI 0))]) [1, 0] rfl
    exact loop22 (790 - 0 + 1) 0 (Nat.zero_le _) H_1 _ hM hS ls hl (Nat.lt_succ_self _)
  · skip
    have c_1 : fi.2.2.1 = 0 := (nI_e0 (a := fi.2.2.1) (by omega)).mp c_1
    refine lv_bipush (v := (-9)) hx hb dX4_undo_7 (by decide) ?_
    subst hQ
    have h00 : fi.2.2.1 = 0 := by omega
    have hfin : MSE D T s.heap M Sy (undN fi) := by unfold undN; rw [if_pos h00]; exact hH
    exact W.iret (v := (-9)) hx hb hr (fun t ht hW => ⟨⟨(-9), (), rfl, (if_pos h00).symm, by have h9 := hfin; rw [← ht] at h9; exact h9⟩, hS.F ht⟩) hS.2.2 dX4_undo_9
set_option maxHeartbeats 1000000 in
set_option maxRecDepth 100000 in
theorem k_X4_put (l : Launch) (D : va_G) (T : Nat → ClassId) (M : Nat → Nat) (Sy : Nat → Prop) (fi : FS) (x : Int32) : Met l yX4_put wsX4_put ({ frames := 1, cells := 0, slots := 0, locals := 22 }) (va_Pc [.ref (M 0), .int x] (fun U => KS D T U ∧ MSE D T U.heap M Sy fi)) (va_Qi (fun (r : Int32) (u : Unit) => r = (putR fi x)) (fun u t => MSE D T t.heap M Sy (putN fi x)) (Sy)) 0 0 (Sy) := by
  refine Met.ofW (cc := cX4_put) (maxL := 2) (ret := (some .int)) (by decide) rfl ?_
  intro pg ev s m args below meth c s₁ B hml hv
  obtain ⟨rfl, hK, hH⟩ := hv
  have hx := B.exec
  have hb := B.bytes
  have hr := B.returns
  have hts := atoms_spec (ws := wsX4_put) B.pre
  have hown : s.vm.findClass RX4 = some m.cls := findClass_of_methodNamed B.named
  have hlocks := B.notSynchronized
  have in_wsX40 : ∀ w ∈ wsX40, w ∈ wsX4_put := fun w h => List.mem_cons_of_mem _ (List.mem_append_right _ h)
  have hS : va_S (Sy) s.heap s.heap [] := va_S.rf
  have hl := lv_entry ([.ref (M 0), .int x]) (n := 2) (Nat.le_of_ble_eq_true rfl)
  rw [lg_entry_eq]
  generalize (lg_sl ([.ref (M 0), .int x]) ++ List.replicate (2 - (lg_sl ([.ref (M 0), .int x])).length) Slot.unset).toArray = ls at hl ⊢
  have hl : lv_has ls 2 [(0, .ref (M 0)), (1, .int x)] := hl
  refine W_gen (fun Q hQ => ?_)
  obtain ⟨v, as, pa, bi, at0, hM, hSy, hrb, hbl, hk5, hR0, hRh⟩ := id hH
  refine lv_iload_n hx hb dX4_put_0 rfl (lv_at hl 1 rfl) ?_
  refine lv_iconst (v := (nI 0)) hx hb dX4_put_1 (by decide) ?_
  refine lv_sipush (v := (nI 255)) hx hb dX4_put_2 (by decide) ?_
  refine vp_callSi (va_Run.run (va_runS (As := [.int x, .int (nI 0), .int (nI 255)]) (rest := []) ⟨hx, hb, hml, hown, hts⟩ (k_X4_in l D T x (nI 0) (nI 255) ) (va_cwS 3 hts gX4_put_X4_in rfl rfl rfl (by decide +kernel) ⟨Nat.le_of_ble_eq_true rfl, Nat.le_of_ble_eq_true rfl⟩) (pre_S (Φ := fun X => True) hK trivial) rfl rfl hl.1 rfl (lv_room (Nat.le_of_ble_eq_true rfl)) dX4_put_5 ⟨Nat.le_of_ble_eq_true rfl, Nat.le_of_ble_eq_true rfl⟩)) (fun r_1 hr_1 => ?_)
  subst hr_1
  refine lv_if_ne (tgt := 13) hx hb dX4_put_8 (by decide) (fun c_1 => ?_) (fun c_1 => ?_)
  · skip
    have c_1 : (decide ((nI 0) ≤ x ∧ x ≤ (nI 255))) = true := b2i_n0.mp c_1
    have c_1 : (nI 0) ≤ x ∧ x ≤ (nI 255) := of_decide_eq_true c_1
    have hx1 := c_1
    have hokv : okV x := ⟨Int32.not_lt.mpr hx1.1, Int32.not_lt.mpr hx1.2⟩
    obtain ⟨xN, hxN, rfl⟩ := okVn hokv.1 hx1.2
    refine lv_aload_n hx hb dX4_put_13 rfl (lv_at hl 0 rfl) ?_
    refine r_get (C := RX4) (Tb := TX4) (N := 8) hx hb hts in_wsX40 hown hK (hM.2.1) rfl 5 (by decide) (hts (.fieldLink RX4 95 "PieceSetsModel" "bufferMany" "I") (by decide +kernel)) rfl (v := .int (nI fi.2.2.2.2)) rfl dX4_put_14 ?_
    refine lv_sipush (v := (nI 200)) hx hb dX4_put_17 (by decide) ?_
    refine lv_icmp_ne (tgt := 26) hx hb dX4_put_20 (by decide) (fun c_2 => ?_) (fun c_2 => ?_)
    · skip
      have c_2 : ¬ (fi.2.2.2.2 = 200) := fun z => c_2 ((nI_eq (a := fi.2.2.2.2) (b := 200) (by omega) (by omega)).mpr z)
      refine lv_aload_n hx hb dX4_put_26 rfl (lv_at hl 0 rfl) ?_
      refine r_get (C := RX4) (Tb := TX4) (N := 8) hx hb hts in_wsX40 hown hK (hM.2.1) rfl 4 (by decide) (hts (.fieldLink RX4 19 "PieceSetsModel" "buffer" "[I") (by decide +kernel)) rfl (v := .ref (M 4)) rfl dX4_put_27 ?_
      refine lv_aload_n hx hb dX4_put_30 rfl (lv_at hl 0 rfl) ?_
      refine r_get (C := RX4) (Tb := TX4) (N := 8) hx hb hts in_wsX40 hown hK (hM.2.1) rfl 5 (by decide) (hts (.fieldLink RX4 95 "PieceSetsModel" "bufferMany" "I") (by decide +kernel)) rfl (v := .int (nI fi.2.2.2.2)) rfl dX4_put_31 ?_
      refine lv_iload_n hx hb dX4_put_34 rfl (lv_at hl 1 rfl) ?_
      refine r_iast hx hb hK hS ((hSy 4 (by decide))) (hM.2.2.2.2.2.1) (i := fi.2.2.2.2) (by omega) (by decide) dX4_put_35 (fun H_1 locs hat oq hS => ?_)
      have hM := (hM.set4 hat (Fr.oq oq)).equ (g := (fun i => nI (apR fi.2.2.2.1 fi.2.2.2.2 xN i))) (fun j _ => by unfold apR; rw [if_pos (show fi.2.2.2.2 < 200 by omega)]; unfold upd; show (if j = fi.2.2.2.2 then nI xN else nI (fi.2.2.2.1 j)) = nI (if j = fi.2.2.2.2 then xN else fi.2.2.2.1 j); split <;> rfl)
      refine lv_aload_n hx hb dX4_put_36 rfl (lv_at hl 0 rfl) ?_
      refine lv_dup hx hb dX4_put_37 rfl ?_
      refine r_get (C := RX4) (Tb := TX4) (N := 8) hx hb hts in_wsX40 hown hK (hM.2.1) rfl 5 (by decide) (hts (.fieldLink RX4 95 "PieceSetsModel" "bufferMany" "I") (by decide +kernel)) rfl (v := .int (nI fi.2.2.2.2)) rfl dX4_put_38 ?_
      refine lv_iconst (v := (nI 1)) hx hb dX4_put_41 (by decide) ?_
      refine lv_iadd hx hb dX4_put_42 ?_
      refine top_i (nI_add fi.2.2.2.2 1) ?_
      refine r_put (C := RX4) (Tb := TX4) (N := 8) hx hb hts in_wsX40 tyX4 tyX4_ok nmX4 hown hK hS (hSy 0 (by decide)) hM.2.1 rfl 5 (by decide) (hts (.fieldLink RX4 95 "PieceSetsModel" "bufferMany" "I") (by decide +kernel)) rfl rfl (ty := .int) (by decide +kernel) rfl rfl (show (5 : Nat) < 8 by decide) dX4_put_43 (fun H_2 locs hat oq hS => ?_)
      have hM := hM.set0 (pk' := fi.2.2.1) (bm' := fi.2.2.2.2 + 1) (at' := at0) hat (Fr.oq oq)
      refine lv_aload_n hx hb dX4_put_46 rfl (lv_at hl 0 rfl) ?_
      refine r_get (C := RX4) (Tb := TX4) (N := 8) hx hb hts in_wsX40 hown hK (hM.2.1) rfl 5 (by decide) (hts (.fieldLink RX4 95 "PieceSetsModel" "bufferMany" "I") (by decide +kernel)) rfl (v := .int (nI (fi.2.2.2.2 + 1))) rfl dX4_put_47 ?_
      subst hQ
      have h200 : fi.2.2.2.2 < 200 := by omega
      have hal : apL fi.2.2.2.2 = fi.2.2.2.2 + 1 := if_pos h200
      have hfin : MSE D T H_2 M Sy (putN fi (nI xN)) := by
        unfold putN
        rw [if_pos hokv, cl_n (by omega), hal]
        exact ⟨v, as, pa, bi, at0, hM, hSy, apR_lt hrb hxN, (show fi.2.2.2.2 + 1 ≤ 200 by omega), hk5, hR0, hRh⟩
      exact W.iret (v := (nI (fi.2.2.2.2 + 1))) hx hb hr (fun t ht hW => ⟨⟨(nI (fi.2.2.2.2 + 1)), (), rfl, (by unfold putR; rw [if_pos hokv, if_pos h200]), by have h9 := hfin; rw [← ht] at h9; exact h9⟩, hS.F ht⟩) hS.2.2 dX4_put_50
    · skip
      have c_2 : fi.2.2.2.2 = 200 := (nI_eq (a := fi.2.2.2.2) (b := 200) (by omega) (by omega)).mp c_2
      refine lv_bipush (v := (-3)) hx hb dX4_put_23 (by decide) ?_
      subst hQ
      have hn200 : ¬ fi.2.2.2.2 < 200 := by omega
      have hfin : MSE D T s.heap M Sy (putN fi (nI xN)) := by unfold putN; rw [if_pos hokv]; unfold apR apL; rw [if_neg hn200, if_neg hn200]; exact hH
      exact W.iret (v := (-3)) hx hb hr (fun t ht hW => ⟨⟨(-3), (), rfl, (by unfold putR; rw [if_pos hokv, if_neg hn200]), by have h9 := hfin; rw [← ht] at h9; exact h9⟩, hS.F ht⟩) hS.2.2 dX4_put_25
  · skip
    have c_1 : (decide ((nI 0) ≤ x ∧ x ≤ (nI 255))) = false := b2i_0.mp c_1
    have c_1 : ¬ ((nI 0) ≤ x ∧ x ≤ (nI 255)) := of_decide_eq_false c_1
    refine lv_iconst (v := (-1)) hx hb dX4_put_11 (by decide) ?_
    subst hQ
    have hfin : MSE D T s.heap M Sy (putN fi x) := by unfold putN; rw [if_neg (fun z => c_1 ⟨Int32.not_lt.mp z.1, Int32.not_lt.mp z.2⟩)]; exact hH
    exact W.iret (v := (-1)) hx hb hr (fun t ht hW => ⟨⟨(-1), (), rfl, ((if_neg (fun z => c_1 ⟨Int32.not_lt.mp z.1, Int32.not_lt.mp z.2⟩)).symm), by have h9 := hfin; rw [← ht] at h9; exact h9⟩, hS.F ht⟩) hS.2.2 dX4_put_12
set_option maxHeartbeats 1000000 in
set_option maxRecDepth 100000 in
theorem k_X4_clear (l : Launch) (D : va_G) (T : Nat → ClassId) (M : Nat → Nat) (Sy : Nat → Prop) (fi : FS) : Met l yX4_clear wsX4_clear ({ frames := 0, cells := 0, slots := 0, locals := 0 }) (va_Pc [.ref (M 0)] (fun U => KS D T U ∧ MSE D T U.heap M Sy fi)) (va_Qi (fun (r : Int32) (u : Unit) => r = (cleR fi)) (fun u t => MSE D T t.heap M Sy (cleN fi)) (Sy)) 0 0 (Sy) := by
  refine Met.ofW (cc := cX4_clear) (maxL := 2) (ret := (some .int)) (by decide) rfl ?_
  intro pg ev s m args below meth c s₁ B hml hv
  obtain ⟨rfl, hK, hH⟩ := hv
  have hx := B.exec
  have hb := B.bytes
  have hr := B.returns
  have hts := atoms_spec (ws := wsX4_clear) B.pre
  have hown : s.vm.findClass RX4 = some m.cls := findClass_of_methodNamed B.named
  have hlocks := B.notSynchronized
  have in_wsX40 : ∀ w ∈ wsX40, w ∈ wsX4_clear := fun w h => List.mem_cons_of_mem _ (List.mem_append_right _ h)
  have hS : va_S (Sy) s.heap s.heap [] := va_S.rf
  have hl := lv_entry ([.ref (M 0)]) (n := 2) (Nat.le_of_ble_eq_true rfl)
  rw [lg_entry_eq]
  generalize (lg_sl ([.ref (M 0)]) ++ List.replicate (2 - (lg_sl ([.ref (M 0)])).length) Slot.unset).toArray = ls at hl ⊢
  have hl : lv_has ls 2 [(0, .ref (M 0))] := hl
  refine W_gen (fun Q hQ => ?_)
  obtain ⟨v, as, pa, bi, at0, hM, hSy, hrb, hbl, hk5, hR0, hRh⟩ := id hH
  refine lv_aload_n hx hb dX4_clear_0 rfl (lv_at hl 0 rfl) ?_
  refine r_get (C := RX4) (Tb := TX4) (N := 8) hx hb hts in_wsX40 hown hK (hM.2.1) rfl 5 (by decide) (hts (.fieldLink RX4 95 "PieceSetsModel" "bufferMany" "I") (by decide +kernel)) rfl (v := .int (nI fi.2.2.2.2)) rfl dX4_clear_1 ?_
  refine lv_istore_n (lv' := [(1, .int (nI fi.2.2.2.2)), (0, .ref (M 0))]) hx hb dX4_clear_4 rfl hl (by decide) rfl (fun ls hl => ?_)
  refine lv_aload_n hx hb dX4_clear_5 rfl (lv_at hl 1 rfl) ?_
  refine lv_iconst (v := (nI 0)) hx hb dX4_clear_6 (by decide) ?_
  refine r_put (C := RX4) (Tb := TX4) (N := 8) hx hb hts in_wsX40 tyX4 tyX4_ok nmX4 hown hK hS (hSy 0 (by decide)) hM.2.1 rfl 5 (by decide) (hts (.fieldLink RX4 95 "PieceSetsModel" "bufferMany" "I") (by decide +kernel)) rfl rfl (ty := .int) (by decide +kernel) rfl rfl (show (5 : Nat) < 8 by decide) dX4_clear_7 (fun H_1 locs hat oq hS => ?_)
  have hM := hM.set0 (pk' := fi.2.2.1) (bm' := 0) (at' := at0) hat (Fr.oq oq)
  refine lv_iload_n hx hb dX4_clear_10 rfl (lv_at hl 0 rfl) ?_
  subst hQ
  have hfin : MSE D T H_1 M Sy (cleN fi) := ⟨v, as, pa, bi, at0, hM, hSy, hrb, Nat.zero_le _, hk5, hR0, hRh⟩
  exact W.iret (v := (nI fi.2.2.2.2)) hx hb hr (fun t ht hW => ⟨⟨(nI fi.2.2.2.2), (), rfl, rfl, by have h9 := hfin; rw [← ht] at h9; exact h9⟩, hS.F ht⟩) hS.2.2 dX4_clear_11
