set_option maxHeartbeats 4000000 in
set_option maxRecDepth 100000 in
theorem k_L_combines (l : Launch) (D : va_G) (T : Nat → ClassId) (o : Nat) (Sx : Nat → Prop) (fi : FS) (x : Int32) (ss : Nat) (tt : Nat) (hs6 : ss < 6) (ht6 : tt < 6) (hbl : fi.2.2.2.2 = 0) : Met l yL_combines wsL_combines ({ frames := 7, cells := 0, slots := 0, locals := 165 }) (va_Pc [.ref o, .int x, .int (nI ss), .int (nI tt)] (fun U => KS D T U ∧ PO D T U.heap o Sx fi)) (va_Qi (fun (r : Int32) (u : FS) => r = (nI 1) ∧ u.2.2.2.2 = 0) (fun u t => PO D T t.heap o Sx u) (Sx)) 0 0 (Sx) := by
  refine Met.ofW (cc := cL_combines) (maxL := 16) (ret := (some .boolean)) (by decide) rfl ?_
  intro pg ev s m args below meth c s₁ B hml hv
  obtain ⟨rfl, hK, hH⟩ := hv
  have hx := B.exec
  have hb := B.bytes
  have hr := B.returns
  have hts := atoms_spec (ws := wsL_combines) B.pre
  have hown : s.vm.findClass RL = some m.cls := findClass_of_methodNamed B.named
  have hlocks := B.notSynchronized
  have in_wsX30 : ∀ w ∈ wsX30, w ∈ wsL_combines := fun w h => List.mem_cons_of_mem _ (List.mem_append_left _ (List.mem_append_left _ (List.mem_append_right _ h)))
  have in_wsX20 : ∀ w ∈ wsX20, w ∈ wsL_combines := fun w h => List.mem_cons_of_mem _ (List.mem_append_left _ (List.mem_append_right _ h))
  have in_wsX10 : ∀ w ∈ wsX10, w ∈ wsL_combines := fun w h => List.mem_cons_of_mem _ (List.mem_append_right _ h)
  have hS : va_S (Sx) s.heap s.heap [] := va_S.rf
  have hl := lv_entry ([.ref o, .int x, .int (nI ss), .int (nI tt)]) (n := 16) (Nat.le_of_ble_eq_true rfl)
  rw [lg_entry_eq]
  generalize (lg_sl ([.ref o, .int x, .int (nI ss), .int (nI tt)]) ++ List.replicate (16 - (lg_sl ([.ref o, .int x, .int (nI ss), .int (nI tt)])).length) Slot.unset).toArray = ls at hl ⊢
  have hl : lv_has ls 16 [(0, .ref o), (1, .int x), (2, .int (nI ss)), (3, .int (nI tt))] := hl
  refine W_gen (fun Q hQ => ?_)
  have hP := hH
  have hkp := kpt_lt (k := fi.2.2.1)
  have hcl := ct_le (fi.1.1 ss) 0 4096
  refine lv_aload_n hx hb dL_combines_0 rfl (lv_at hl 0 rfl) ?_
  refine vp_callSl (va_Run.run (va_runV (As := []) (rest := []) ⟨hx, hb, hml, hown, hts⟩ (k_X3_fingerprint_o l D T o Sx fi ) (cwV 0 hts gL_combines_X3_fingerprint rfl rfl rfl (by decide +kernel) ⟨Nat.le_of_ble_eq_true rfl, Nat.le_of_ble_eq_true rfl⟩) (pre_V (Φ := fun X => PO D T X o Sx fi) hK ((PO.recv hP).choose_spec) rfl hP) rfl rfl hl.1 rfl (lv_room (Nat.le_of_ble_eq_true rfl)) dL_combines_1 ⟨Nat.le_of_ble_eq_true rfl, Nat.le_of_ble_eq_true rfl⟩)) (fun r_1 hr_1 => ?_)
  subst hr_1
  refine lv_lstore (lv' := [(4, .long (finR fi)), (0, .ref o), (1, .int x), (2, .int (nI ss)), (3, .int (nI tt))]) hx hb dL_combines_4 hl (by decide) rfl (fun ls hl => ?_)
  refine lv_aload_n hx hb dL_combines_6 rfl (lv_at hl 1 rfl) ?_
  refine lv_iload_n hx hb dL_combines_7 rfl (lv_at hl 3 rfl) ?_
  refine lv_iload_n hx hb dL_combines_8 rfl (lv_at hl 4 rfl) ?_
  refine lv_iconst (v := (nI 0)) hx hb dL_combines_9 (by decide) ?_
  refine va_calli (va_runV (As := [.int (nI ss), .int (nI tt), .int (nI 0)]) (rest := []) ⟨hx, hb, hml, hown, hts⟩ (k_X3_compare_o l D T o Sx fi (nI ss) (nI tt) (nI 0) ) (cwV 3 hts gL_combines_X3_compare rfl rfl rfl (by decide +kernel) ⟨Nat.le_of_ble_eq_true rfl, Nat.le_of_ble_eq_true rfl⟩) (pre_V (Φ := fun X => PO D T X o Sx fi) hK ((PO.recv hP).choose_spec) rfl hP) rfl rfl hl.1 rfl (lv_room (Nat.le_of_ble_eq_true rfl)) dL_combines_10 ⟨Nat.le_of_ble_eq_true rfl, Nat.le_of_ble_eq_true rfl⟩) hS (fun q _ h => h) (fun q h => h) (fun r_2 u_1 t H_1 locs ht hvm hw hB hz hk hS => ?_)
  rw [ht] at hB
  try dsimp only at hw
  try dsimp only at hB
  subst hw
  have hP := hB
  refine top_i (x' := (nI (jct 0 (fi.1.1 ss) (fi.1.1 tt)))) (o_cmp0 hs6 ht6) ?_
  refine lv_istore (lv' := [(6, .int (nI (jct 0 (fi.1.1 ss) (fi.1.1 tt)))), (4, .long (finR fi)), (0, .ref o), (1, .int x), (2, .int (nI ss)), (3, .int (nI tt))]) hx hb dL_combines_13 hl (by decide) rfl (fun ls hl => ?_)
  refine lv_aload_n hx hb dL_combines_15 rfl (lv_at hl 2 rfl) ?_
  refine lv_iload_n hx hb dL_combines_16 rfl (lv_at hl 4 rfl) ?_
  refine lv_iload_n hx hb dL_combines_17 rfl (lv_at hl 5 rfl) ?_
  refine lv_iconst (v := (nI 1)) hx hb dL_combines_18 (by decide) ?_
  refine va_calli (va_runV (As := [.int (nI ss), .int (nI tt), .int (nI 1)]) (rest := []) ⟨hx, hb, hml, hown, hts⟩ (k_X3_compare_o l D T o Sx fi (nI ss) (nI tt) (nI 1) ) (cwV 3 hts gL_combines_X3_compare rfl rfl rfl (by decide +kernel) ⟨Nat.le_of_ble_eq_true rfl, Nat.le_of_ble_eq_true rfl⟩) (pre_V (Φ := fun X => PO D T X o Sx fi) hK ((PO.recv hP).choose_spec) rfl hP) rfl rfl hl.1 rfl (lv_room (Nat.le_of_ble_eq_true rfl)) dL_combines_19 ⟨Nat.le_of_ble_eq_true rfl, Nat.le_of_ble_eq_true rfl⟩) hS (fun q _ h => h) (fun q h => h) (fun r_3 u_2 t H_2 locs ht hvm hw hB hz hk hS => ?_)
  rw [ht] at hB
  try dsimp only at hw
  try dsimp only at hB
  subst hw
  have hP := hB
  refine top_i (x' := (nI (jct 2 (fi.1.1 ss) (fi.1.1 tt)))) (o_cmp1 hs6 ht6) ?_
  refine lv_istore (lv' := [(7, .int (nI (jct 2 (fi.1.1 ss) (fi.1.1 tt)))), (6, .int (nI (jct 0 (fi.1.1 ss) (fi.1.1 tt)))), (4, .long (finR fi)), (0, .ref o), (1, .int x), (2, .int (nI ss)), (3, .int (nI tt))]) hx hb dL_combines_22 hl (by decide) rfl (fun ls hl => ?_)
  refine lv_aload_n hx hb dL_combines_24 rfl (lv_at hl 3 rfl) ?_
  refine lv_iload_n hx hb dL_combines_25 rfl (lv_at hl 5 rfl) ?_
  refine vp_callSi (va_Run.run (va_runV (As := [.int (nI ss)]) (rest := []) ⟨hx, hb, hml, hown, hts⟩ (k_X3_size_o l D T o Sx fi (nI ss) ) (cwV 1 hts gL_combines_X3_size rfl rfl rfl (by decide +kernel) ⟨Nat.le_of_ble_eq_true rfl, Nat.le_of_ble_eq_true rfl⟩) (pre_V (Φ := fun X => PO D T X o Sx fi) hK ((PO.recv hP).choose_spec) rfl hP) rfl rfl hl.1 rfl (lv_room (Nat.le_of_ble_eq_true rfl)) dL_combines_26 ⟨Nat.le_of_ble_eq_true rfl, Nat.le_of_ble_eq_true rfl⟩)) (fun r_4 hr_4 => ?_)
  subst hr_4
  refine top_i (x' := (nI (ct (fi.1.1 ss) 0 4096))) (o_siz hs6) ?_
  refine lv_istore (lv' := [(8, .int (nI (ct (fi.1.1 ss) 0 4096))), (7, .int (nI (jct 2 (fi.1.1 ss) (fi.1.1 tt)))), (6, .int (nI (jct 0 (fi.1.1 ss) (fi.1.1 tt)))), (4, .long (finR fi)), (0, .ref o), (1, .int x), (2, .int (nI ss)), (3, .int (nI tt))]) hx hb dL_combines_29 hl (by decide) rfl (fun ls hl => ?_)
  refine lv_iload_n hx hb dL_combines_31 rfl (lv_at hl 5 rfl) ?_
  refine lv_iconst (v := (nI 4)) hx hb dL_combines_32 (by decide) ?_
  refine vp_callSi (va_Run.run (va_runS (As := [.int x, .int (nI 4)]) (rest := []) ⟨hx, hb, hml, hown, hts⟩ (k_L_up l D T x 4 (by decide) (by decide)) (va_cwS 2 hts gL_combines_L_up rfl rfl rfl (by decide +kernel) ⟨Nat.le_of_ble_eq_true rfl, Nat.le_of_ble_eq_true rfl⟩) (pre_S (Φ := fun X => True) hK trivial) rfl rfl hl.1 rfl (lv_room (Nat.le_of_ble_eq_true rfl)) dL_combines_33 ⟨Nat.le_of_ble_eq_true rfl, Nat.le_of_ble_eq_true rfl⟩)) (fun r_5 hr_5 => ?_)
  obtain ⟨qo, hqo, rfl⟩ := hr_5
  refine lv_istore (lv' := [(9, .int (nI qo)), (8, .int (nI (ct (fi.1.1 ss) 0 4096))), (7, .int (nI (jct 2 (fi.1.1 ss) (fi.1.1 tt)))), (6, .int (nI (jct 0 (fi.1.1 ss) (fi.1.1 tt)))), (4, .long (finR fi)), (0, .ref o), (1, .int x), (2, .int (nI ss)), (3, .int (nI tt))]) hx hb dL_combines_36 hl (by decide) rfl (fun ls hl => ?_)
  refine lv_iload_n hx hb dL_combines_38 rfl (lv_at hl 6 rfl) ?_
  refine lv_iconst (v := (nI 2)) hx hb dL_combines_39 (by decide) ?_
  refine lv_ishr hx hb dL_combines_40 ?_
  refine top_i (x' := (shrI x (nI 2))) rfl ?_
  refine lv_bipush (v := (nI 6)) hx hb dL_combines_41 (by decide) ?_
  refine vp_callSi (va_Run.run (va_runS (As := [.int (shrI x (nI 2)), .int (nI 6)]) (rest := []) ⟨hx, hb, hml, hown, hts⟩ (k_L_up l D T (shrI x (nI 2)) 6 (by decide) (by decide)) (va_cwS 2 hts gL_combines_L_up rfl rfl rfl (by decide +kernel) ⟨Nat.le_of_ble_eq_true rfl, Nat.le_of_ble_eq_true rfl⟩) (pre_S (Φ := fun X => True) hK trivial) rfl rfl hl.1 rfl (lv_room (Nat.le_of_ble_eq_true rfl)) dL_combines_43 ⟨Nat.le_of_ble_eq_true rfl, Nat.le_of_ble_eq_true rfl⟩)) (fun r_6 hr_6 => ?_)
  obtain ⟨qu, hqu, rfl⟩ := hr_6
  refine lv_istore (lv' := [(10, .int (nI qu)), (9, .int (nI qo)), (8, .int (nI (ct (fi.1.1 ss) 0 4096))), (7, .int (nI (jct 2 (fi.1.1 ss) (fi.1.1 tt)))), (6, .int (nI (jct 0 (fi.1.1 ss) (fi.1.1 tt)))), (4, .long (finR fi)), (0, .ref o), (1, .int x), (2, .int (nI ss)), (3, .int (nI tt))]) hx hb dL_combines_46 hl (by decide) rfl (fun ls hl => ?_)
  have hj0 := jct_le 0 (fi.1.1 ss) (fi.1.1 tt)
  have hj1 := jct_le 1 (fi.1.1 ss) (fi.1.1 tt)
  have hj2 := jct_le 2 (fi.1.1 ss) (fi.1.1 tt)
  have hj4 := jct_le qo (fi.1.1 ss) (fi.1.1 tt)
  have hjo := jct_or (fi.1.1 ss) (fi.1.1 tt)
  have hju := jct_un (fi.1.1 ss) (fi.1.1 tt)
  have k88 : ∀ (ls : Array Slot), lv_has ls 16 [(10, .int (nI qu)), (9, .int (nI qo)), (8, .int (nI (ct (fi.1.1 ss) 0 4096))), (7, .int (nI (jct 2 (fi.1.1 ss) (fi.1.1 tt)))), (6, .int (nI (jct 0 (fi.1.1 ss) (fi.1.1 tt)))), (4, .long (finR fi)), (0, .ref o), (1, .int x), (2, .int (nI ss)), (3, .int (nI tt))] → W pg l ev (headSpec wsL_combines ({ frames := 7, cells := 0, slots := 0, locals := 165 })).room s m ([.ref o, .int x, .int (nI ss), .int (nI tt)] : List Value).toArray below meth c H_2 locs 0 0 Q (F0 m 88 ls [.int (nI (jct qo (fi.1.1 ss) (fi.1.1 tt)))]) := by
    intro ls hl
    refine lv_istore (lv' := [(11, .int (nI (jct qo (fi.1.1 ss) (fi.1.1 tt)))), (10, .int (nI qu)), (9, .int (nI qo)), (8, .int (nI (ct (fi.1.1 ss) 0 4096))), (7, .int (nI (jct 2 (fi.1.1 ss) (fi.1.1 tt)))), (6, .int (nI (jct 0 (fi.1.1 ss) (fi.1.1 tt)))), (4, .long (finR fi)), (0, .ref o), (1, .int x), (2, .int (nI ss)), (3, .int (nI tt))]) hx hb dL_combines_88 hl (by decide) rfl (fun ls hl => ?_)
    refine lv_iconst (v := (nI 0)) hx hb dL_combines_90 (by decide) ?_
    refine lv_istore (lv' := [(12, .int (nI 0)), (11, .int (nI (jct qo (fi.1.1 ss) (fi.1.1 tt)))), (10, .int (nI qu)), (9, .int (nI qo)), (8, .int (nI (ct (fi.1.1 ss) 0 4096))), (7, .int (nI (jct 2 (fi.1.1 ss) (fi.1.1 tt)))), (6, .int (nI (jct 0 (fi.1.1 ss) (fi.1.1 tt)))), (4, .long (finR fi)), (0, .ref o), (1, .int x), (2, .int (nI ss)), (3, .int (nI tt))]) hx hb dL_combines_91 hl (by decide) rfl (fun ls hl => ?_)
    refine lv_iconst (v := (nI 0)) hx hb dL_combines_93 (by decide) ?_
    refine lv_istore (lv' := [(13, .int (nI 0)), (12, .int (nI 0)), (11, .int (nI (jct qo (fi.1.1 ss) (fi.1.1 tt)))), (10, .int (nI qu)), (9, .int (nI qo)), (8, .int (nI (ct (fi.1.1 ss) 0 4096))), (7, .int (nI (jct 2 (fi.1.1 ss) (fi.1.1 tt)))), (6, .int (nI (jct 0 (fi.1.1 ss) (fi.1.1 tt)))), (4, .long (finR fi)), (0, .ref o), (1, .int x), (2, .int (nI ss)), (3, .int (nI tt))]) hx hb dL_combines_94 hl (by decide) rfl (fun ls hl => ?_)
    refine lv_iconst (v := (nI 0)) hx hb dL_combines_96 (by decide) ?_
    refine lv_istore (lv' := [(14, .int (nI 0)), (13, .int (nI 0)), (12, .int (nI 0)), (11, .int (nI (jct qo (fi.1.1 ss) (fi.1.1 tt)))), (10, .int (nI qu)), (9, .int (nI qo)), (8, .int (nI (ct (fi.1.1 ss) 0 4096))), (7, .int (nI (jct 2 (fi.1.1 ss) (fi.1.1 tt)))), (6, .int (nI (jct 0 (fi.1.1 ss) (fi.1.1 tt)))), (4, .long (finR fi)), (0, .ref o), (1, .int x), (2, .int (nI ss)), (3, .int (nI tt))]) hx hb dL_combines_97 hl (by decide) rfl (fun ls hl => ?_)
    have loop99 : ∀ (n99 : Nat) (i : Nat) (hi : i ≤ 9) (H : Heap) (locs : List Loc) (hP : PO D T H o Sx fi) (hS : va_S (Sx) s.heap H locs) (ls : Array Slot) (hl : lv_has ls 16 [(0, .ref o), (1, .int x), (2, .int (nI ss)), (3, .int (nI tt)), (4, .long (finR fi)), (9, .int (nI qo)), (10, .int (nI qu)), (11, .int (nI (jct qo (fi.1.1 ss) (fi.1.1 tt)))), (12, .int (siF fi.1.2.1 i)), (13, .int (nI 0)), (14, .int (nI i))]) (hn99 : 9 - i < n99), W pg l ev (headSpec wsL_combines ({ frames := 7, cells := 0, slots := 0, locals := 165 })).room s m ([.ref o, .int x, .int (nI ss), .int (nI tt)] : List Value).toArray below meth c H locs 0 0 Q (F0 m 99 ls []) := by
      intro n99
      induction n99 with
      | zero =>
        intro i hi H locs hP hS ls hl hn99
        exact absurd hn99 (Nat.not_lt_zero _)
      | succ n99 ih99 =>
        intro i hi H locs hP hS ls hl hn99
        refine lv_iload hx hb dL_combines_99 (lv_at hl 10 rfl) ?_
        refine lv_bipush (v := (nI 9)) hx hb dL_combines_101 (by decide) ?_
        refine lv_icmp_ge (tgt := 129) hx hb dL_combines_103 (by decide) (fun c_1 => ?_) (fun c_1 => ?_)
        · skip
          have c_1 : 9 ≤ i := (nI_leI (a := 9) (b := i) (by omega) (by omega)).mp c_1
          refine lv_iconst (v := (nI 0)) hx hb dL_combines_129 (by decide) ?_
          refine lv_istore (lv' := [(14, .int (nI 0)), (0, .ref o), (1, .int x), (2, .int (nI ss)), (3, .int (nI tt)), (4, .long (finR fi)), (9, .int (nI qo)), (10, .int (nI qu)), (11, .int (nI (jct qo (fi.1.1 ss) (fi.1.1 tt)))), (12, .int (siF fi.1.2.1 i)), (13, .int (nI 0))]) hx hb dL_combines_130 hl (by decide) rfl (fun ls hl => ?_)
          have loop132 : ∀ (n132 : Nat) (j : Nat) (hj : j ≤ 16) (H : Heap) (locs : List Loc) (hP : PO D T H o Sx fi) (hS : va_S (Sx) s.heap H locs) (ls : Array Slot) (hl : lv_has ls 16 [(0, .ref o), (1, .int x), (2, .int (nI ss)), (3, .int (nI tt)), (4, .long (finR fi)), (9, .int (nI qo)), (10, .int (nI qu)), (11, .int (nI (jct qo (fi.1.1 ss) (fi.1.1 tt)))), (12, .int (siF fi.1.2.1 9)), (13, .int (nI (prC (fi.1.1 ss) (fi.1.1 tt) j))), (14, .int (nI j))]) (hn132 : 16 - j < n132), W pg l ev (headSpec wsL_combines ({ frames := 7, cells := 0, slots := 0, locals := 165 })).room s m ([.ref o, .int x, .int (nI ss), .int (nI tt)] : List Value).toArray below meth c H locs 0 0 Q (F0 m 132 ls []) := by
            intro n132
            induction n132 with
            | zero =>
              intro j hj H locs hP hS ls hl hn132
              exact absurd hn132 (Nat.not_lt_zero _)
            | succ n132 ih132 =>
              intro j hj H locs hP hS ls hl hn132
              have hpa := pn_le (fi.1.1 ss) j
              have hpb := pn_le (fi.1.1 tt) j
              refine lv_iload hx hb dL_combines_132 (lv_at hl 10 rfl) ?_
              refine lv_bipush (v := (nI 16)) hx hb dL_combines_134 (by decide) ?_
              refine lv_icmp_ge (tgt := 177) hx hb dL_combines_136 (by decide) (fun c_2 => ?_) (fun c_2 => ?_)
              · skip
                have c_2 : 16 ≤ j := (nI_leI (a := 16) (b := j) (by omega) (by omega)).mp c_2
                refine lv_aload_n hx hb dL_combines_177 rfl (lv_at hl 0 rfl) ?_
                refine lv_iload_n hx hb dL_combines_178 rfl (lv_at hl 2 rfl) ?_
                refine lv_iload_n hx hb dL_combines_179 rfl (lv_at hl 3 rfl) ?_
                refine lv_iconst (v := (nI 4)) hx hb dL_combines_180 (by decide) ?_
                refine va_calli (va_runV (As := [.int (nI ss), .int (nI tt), .int (nI 4)]) (rest := []) ⟨hx, hb, hml, hown, hts⟩ (k_X3_compare_o l D T o Sx fi (nI ss) (nI tt) (nI 4) ) (cwV 3 hts gL_combines_X3_compare rfl rfl rfl (by decide +kernel) ⟨Nat.le_of_ble_eq_true rfl, Nat.le_of_ble_eq_true rfl⟩) (pre_V (Φ := fun X => PO D T X o Sx fi) hK ((PO.recv hP).choose_spec) rfl hP) rfl rfl hl.1 rfl (lv_room (Nat.le_of_ble_eq_true rfl)) dL_combines_181 ⟨Nat.le_of_ble_eq_true rfl, Nat.le_of_ble_eq_true rfl⟩) hS (fun q _ h => h) (fun q h => h) (fun r_7 u_3 t H_3 locs ht hvm hw hB hz hk hS => ?_)
                rw [ht] at hB
                try dsimp only at hw
                try dsimp only at hB
                subst hw
                have hP := hB
                refine top_i (x' := (nthA (fun z => jb 2 ((fi.1.1 ss) z) ((fi.1.1 tt) z)) (nI 0))) (o_cmp4 hs6 ht6) ?_
                refine lv_istore (lv' := [(14, .int (nthA (fun z => jb 2 ((fi.1.1 ss) z) ((fi.1.1 tt) z)) (nI 0))), (0, .ref o), (1, .int x), (2, .int (nI ss)), (3, .int (nI tt)), (4, .long (finR fi)), (9, .int (nI qo)), (10, .int (nI qu)), (11, .int (nI (jct qo (fi.1.1 ss) (fi.1.1 tt)))), (12, .int (siF fi.1.2.1 9)), (13, .int (nI (prC (fi.1.1 ss) (fi.1.1 tt) j)))]) hx hb dL_combines_184 hl (by decide) rfl (fun ls hl => ?_)
                refine lv_aload_n hx hb dL_combines_186 rfl (lv_at hl 1 rfl) ?_
                refine lv_iload hx hb dL_combines_187 (lv_at hl 6 rfl) ?_
                refine lv_iload_n hx hb dL_combines_189 rfl (lv_at hl 3 rfl) ?_
                refine lv_iload_n hx hb dL_combines_190 rfl (lv_at hl 4 rfl) ?_
                refine lv_iload hx hb dL_combines_191 (lv_at hl 7 rfl) ?_
                refine va_calli (va_runV (As := [.int (nI qo), .int (nI ss), .int (nI tt), .int (nI qu)]) (rest := []) ⟨hx, hb, hml, hown, hts⟩ (k_X3_combine_o l D T o Sx fi (nI qo) (nI ss) (nI tt) (nI qu) ) (cwV 4 hts gL_combines_X3_combine rfl rfl rfl (by decide +kernel) ⟨Nat.le_of_ble_eq_true rfl, Nat.le_of_ble_eq_true rfl⟩) (pre_V (Φ := fun X => PO D T X o Sx fi) hK ((PO.recv hP).choose_spec) rfl hP) rfl rfl hl.1 rfl (lv_room (Nat.le_of_ble_eq_true rfl)) dL_combines_193 ⟨Nat.le_of_ble_eq_true rfl, Nat.le_of_ble_eq_true rfl⟩) hS (fun q _ h => h) (fun q h => h) (fun r_8 u_4 t H_4 locs ht hvm hw hB hz hk hS => ?_)
                rw [ht] at hB
                try dsimp only at hw
                try dsimp only at hB
                subst hw
                have hP := hB
                obtain ⟨hm1, hm2, hm3, hm4, hm5, hm6⟩ := com_step (p := fi) hqo hs6 ht6 hqu
                obtain ⟨f2, hf2⟩ : ∃ f2, f2 = comN fi (nI qo) (nI ss) (nI tt) (nI qu) := ⟨_, rfl⟩
                rw [← hf2] at hP hm1 hm2 hm3 hm4 hm5 hm6
                refine top_i (x' := (nI (jct qo (fi.1.1 ss) (fi.1.1 tt)))) (o_com hqo hs6 ht6 hqu) ?_
                refine lv_iload hx hb dL_combines_196 (lv_at hl 8 rfl) ?_
                refine lv_icmp_ne (tgt := 212) hx hb dL_combines_198 (by decide) (fun c_3 => ?_) (fun c_3 => ?_)
                · skip
                  have c_3 : ¬ ((jct qo (fi.1.1 ss) (fi.1.1 tt)) = (jct qo (fi.1.1 ss) (fi.1.1 tt))) := fun z => c_3 ((nI_eq (a := (jct qo (fi.1.1 ss) (fi.1.1 tt))) (b := (jct qo (fi.1.1 ss) (fi.1.1 tt))) (by omega) (by omega)).mpr z)
                  first | exact absurd rfl c_3 | exact absurd (by omega) c_3 | exact absurd c_3 (by omega)
                · skip
                  have c_3 : (jct qo (fi.1.1 ss) (fi.1.1 tt)) = (jct qo (fi.1.1 ss) (fi.1.1 tt)) := (nI_eq (a := (jct qo (fi.1.1 ss) (fi.1.1 tt))) (b := (jct qo (fi.1.1 ss) (fi.1.1 tt))) (by omega) (by omega)).mp c_3
                  refine lv_aload_n hx hb dL_combines_201 rfl (lv_at hl 1 rfl) ?_
                  refine lv_iload hx hb dL_combines_202 (lv_at hl 7 rfl) ?_
                  refine vp_callSi (va_Run.run (va_runV (As := [.int (nI qu)]) (rest := []) ⟨hx, hb, hml, hown, hts⟩ (k_X3_size_o l D T o Sx f2 (nI qu) ) (cwV 1 hts gL_combines_X3_size rfl rfl rfl (by decide +kernel) ⟨Nat.le_of_ble_eq_true rfl, Nat.le_of_ble_eq_true rfl⟩) (pre_V (Φ := fun X => PO D T X o Sx f2) hK ((PO.recv hP).choose_spec) rfl hP) rfl rfl hl.1 rfl (lv_room (Nat.le_of_ble_eq_true rfl)) dL_combines_204 ⟨Nat.le_of_ble_eq_true rfl, Nat.le_of_ble_eq_true rfl⟩)) (fun r_9 hr_9 => ?_)
                  subst hr_9
                  refine top_i (x' := (nI (jct qo (fi.1.1 ss) (fi.1.1 tt)))) ((o_siz hqu).trans (congrArg nI (by rw [hm1]; rfl))) ?_
                  refine lv_iload hx hb dL_combines_207 (lv_at hl 8 rfl) ?_
                  refine lv_icmp_eq (tgt := 214) hx hb dL_combines_209 (by decide) (fun c_4 => ?_) (fun c_4 => ?_)
                  · skip
                    have c_4 : (jct qo (fi.1.1 ss) (fi.1.1 tt)) = (jct qo (fi.1.1 ss) (fi.1.1 tt)) := (nI_eq (a := (jct qo (fi.1.1 ss) (fi.1.1 tt))) (b := (jct qo (fi.1.1 ss) (fi.1.1 tt))) (by omega) (by omega)).mp c_4
                    refine lv_iconst (v := (nI 0)) hx hb dL_combines_214 (by decide) ?_
                    refine lv_istore (lv' := [(15, .int (nI 0)), (14, .int (nthA (fun z => jb 2 ((fi.1.1 ss) z) ((fi.1.1 tt) z)) (nI 0))), (0, .ref o), (1, .int x), (2, .int (nI ss)), (3, .int (nI tt)), (4, .long (finR fi)), (9, .int (nI qo)), (10, .int (nI qu)), (11, .int (nI (jct qo (fi.1.1 ss) (fi.1.1 tt)))), (12, .int (siF fi.1.2.1 9)), (13, .int (nI (prC (fi.1.1 ss) (fi.1.1 tt) j)))]) hx hb dL_combines_215 hl (by decide) rfl (fun ls hl => ?_)
                    have loop217 : ∀ (n217 : Nat) (k : Nat) (hk : k ≤ 9) (H : Heap) (locs : List Loc) (hP : PO D T H o Sx f2) (hS : va_S (Sx) s.heap H locs) (ls : Array Slot) (hl : lv_has ls 16 [(0, .ref o), (1, .int x), (4, .long (finR fi)), (9, .int (nI qo)), (10, .int (nI qu)), (12, .int (siF fi.1.2.1 9 - siF f2.1.2.1 k)), (13, .int (nI (prC (fi.1.1 ss) (fi.1.1 tt) 16))), (14, .int (nthA (fun z => jb 2 ((fi.1.1 ss) z) ((fi.1.1 tt) z)) (nI 0))), (15, .int (nI k))]) (hn217 : 9 - k < n217), W pg l ev (headSpec wsL_combines ({ frames := 7, cells := 0, slots := 0, locals := 165 })).room s m ([.ref o, .int x, .int (nI ss), .int (nI tt)] : List Value).toArray below meth c H locs 0 0 Q (F0 m 217 ls []) := by
                      intro n217
                      induction n217 with
                      | zero =>
                        intro k hk H locs hP hS ls hl hn217
                        exact absurd hn217 (Nat.not_lt_zero _)
                      | succ n217 ih217 =>
                        intro k hk H locs hP hS ls hl hn217
                        refine lv_iload hx hb dL_combines_217 (lv_at hl 8 rfl) ?_
                        refine lv_bipush (v := (nI 9)) hx hb dL_combines_219 (by decide) ?_
                        refine lv_icmp_ge (tgt := 247) hx hb dL_combines_221 (by decide) (fun c_5 => ?_) (fun c_5 => ?_)
                        · skip
                          have c_5 : 9 ≤ k := (nI_leI (a := 9) (b := k) (by omega) (by omega)).mp c_5
                          refine lv_iload hx hb dL_combines_247 (lv_at hl 5 rfl) ?_
                          refine lv_iload hx hb dL_combines_249 (lv_at hl 6 rfl) ?_
                          refine lv_ineg hx hb dL_combines_251 ?_
                          refine lv_icmp_ne (tgt := 273) hx hb dL_combines_252 (by decide) (fun c_6 => ?_) (fun c_6 => ?_)
                          · skip
                            exact absurd (by rw [show k = 9 by omega, hm2]; exact met_diff _ _) c_6
                          · skip
                            refine lv_iload hx hb dL_combines_255 (lv_at hl 3 rfl) ?_
                            refine lv_iconst (v := (nI 2)) hx hb dL_combines_257 (by decide) ?_
                            refine lv_icmp_ne (tgt := 275) hx hb dL_combines_258 (by decide) (fun c_7 => ?_) (fun c_7 => ?_)
                            · skip
                              have c_7 : ¬ (qo = 2) := fun z => c_7 ((nI_eq (a := qo) (b := 2) (by omega) (by omega)).mpr z)
                              refine lv_iload_n hx hb dL_combines_275 rfl (lv_at hl 1 rfl) ?_
                              refine lv_iconst (v := (nI 5)) hx hb dL_combines_276 (by decide) ?_
                              refine lv_ishr hx hb dL_combines_277 ?_
                              refine top_i (x' := (shrI x (nI 5))) rfl ?_
                              refine lv_iconst (v := (nI 3)) hx hb dL_combines_278 (by decide) ?_
                              refine lv_iand hx hb dL_combines_279 ?_
                              refine lv_if_ne (tgt := 300) hx hb dL_combines_280 (by decide) (fun c_8 => ?_) (fun c_8 => ?_)
                              · skip
                                refine lv_iconst (v := (nI 1)) hx hb dL_combines_300 (by decide) ?_
                                refine lv_goto (tgt := 305) hx hb dL_combines_301 (by decide) ?_
                                subst hQ
                                exact W.zret (v := (nI 1)) hx hb hr nb1 (fun t ht hW => ⟨⟨(nI 1), f2, rfl, ⟨rfl, hm3.trans hbl⟩, by have h9 := hP; rw [← ht] at h9; exact h9⟩, hS.F ht⟩) hS.2.2 dL_combines_305
                              · skip
                                refine lv_aload_n hx hb dL_combines_283 rfl (lv_at hl 0 rfl) ?_
                                refine va_calli (va_runV (As := []) (rest := []) ⟨hx, hb, hml, hown, hts⟩ (k_X3_undo_o l D T o Sx f2 ) (cwV 0 hts gL_combines_X3_undo rfl rfl rfl (by decide +kernel) ⟨Nat.le_of_ble_eq_true rfl, Nat.le_of_ble_eq_true rfl⟩) (pre_V (Φ := fun X => PO D T X o Sx f2) hK ((PO.recv hP).choose_spec) rfl hP) rfl rfl hl.1 rfl (lv_room (Nat.le_of_ble_eq_true rfl)) dL_combines_284 ⟨Nat.le_of_ble_eq_true rfl, Nat.le_of_ble_eq_true rfl⟩) hS (fun q _ h => h) (fun q h => h) (fun r_10 u_5 t H_5 locs ht hvm hw hB hz hk hS => ?_)
                                rw [ht] at hB
                                try dsimp only at hw
                                try dsimp only at hB
                                subst hw
                                have hP := hB
                                refine top_i (x' := (nI (kpt fi.2.2.1 - 1))) (hm4) ?_
                                refine lv_if_lt (tgt := 304) hx hb dL_combines_287 (by decide) (fun c_9 => ?_) (fun c_9 => ?_)
                                · skip
                                  exact absurd c_9 (nI_pos (n := (kpt fi.2.2.1 - 1)) (by omega))
                                · skip
                                  refine lv_aload_n hx hb dL_combines_290 rfl (lv_at hl 0 rfl) ?_
                                  refine vp_callSl (va_Run.run (va_runV (As := []) (rest := []) ⟨hx, hb, hml, hown, hts⟩ (k_X3_fingerprint_o l D T o Sx (undN f2) ) (cwV 0 hts gL_combines_X3_fingerprint rfl rfl rfl (by decide +kernel) ⟨Nat.le_of_ble_eq_true rfl, Nat.le_of_ble_eq_true rfl⟩) (pre_V (Φ := fun X => PO D T X o Sx (undN f2)) hK ((PO.recv hP).choose_spec) rfl hP) rfl rfl hl.1 rfl (lv_room (Nat.le_of_ble_eq_true rfl)) dL_combines_291 ⟨Nat.le_of_ble_eq_true rfl, Nat.le_of_ble_eq_true rfl⟩)) (fun r_11 hr_11 => ?_)
                                  subst hr_11
                                  refine top_l (x' := (finR fi)) (fin_eq hm5) ?_
                                  refine lv_lload hx hb dL_combines_294 (lv_at hl 2 rfl) ?_
                                  refine W.lcmp hx hb dL_combines_296 ?_
                                  refine lv_if_ne (tgt := 304) hx hb dL_combines_297 (by decide) (fun c_10 => ?_) (fun c_10 => ?_)
                                  · skip
                                    exact absurd (lcmp_self _) c_10
                                  · skip
                                    refine lv_iconst (v := (nI 1)) hx hb dL_combines_300 (by decide) ?_
                                    refine lv_goto (tgt := 305) hx hb dL_combines_301 (by decide) ?_
                                    subst hQ
                                    exact W.zret (v := (nI 1)) hx hb hr nb1 (fun t ht hW => ⟨⟨(nI 1), undN f2, rfl, ⟨rfl, hm6.trans hbl⟩, by have h9 := hP; rw [← ht] at h9; exact h9⟩, hS.F ht⟩) hS.2.2 dL_combines_305
                            · skip
                              have c_7 : qo = 2 := (nI_eq (a := qo) (b := 2) (by omega) (by omega)).mp c_7
                              refine lv_aload_n hx hb dL_combines_261 rfl (lv_at hl 0 rfl) ?_
                              refine lv_iload hx hb dL_combines_262 (lv_at hl 4 rfl) ?_
                              refine lv_iconst (v := (nI 0)) hx hb dL_combines_264 (by decide) ?_
                              refine vp_callSi (va_Run.run (va_runV (As := [.int (nI qu), .int (nI 0)]) (rest := []) ⟨hx, hb, hml, hown, hts⟩ (k_X3_select_o l D T o Sx f2 (nI qu) (nI 0) ) (cwV 2 hts gL_combines_X3_select rfl rfl rfl (by decide +kernel) ⟨Nat.le_of_ble_eq_true rfl, Nat.le_of_ble_eq_true rfl⟩) (pre_V (Φ := fun X => PO D T X o Sx f2) hK ((PO.recv hP).choose_spec) rfl hP) rfl rfl hl.1 rfl (lv_room (Nat.le_of_ble_eq_true rfl)) dL_combines_265 ⟨Nat.le_of_ble_eq_true rfl, Nat.le_of_ble_eq_true rfl⟩)) (fun r_10 hr_10 => ?_)
                              subst hr_10
                              refine top_i (x' := (nthA (fun z => jb qo ((fi.1.1 ss) z) ((fi.1.1 tt) z)) (nI 0))) ((o_sel hqu (by decide)).trans (by rw [hm1])) ?_
                              refine lv_iload hx hb dL_combines_268 (lv_at hl 7 rfl) ?_
                              refine lv_icmp_eq (tgt := 275) hx hb dL_combines_270 (by decide) (fun c_8 => ?_) (fun c_8 => ?_)
                              · skip
                                refine lv_iload_n hx hb dL_combines_275 rfl (lv_at hl 1 rfl) ?_
                                refine lv_iconst (v := (nI 5)) hx hb dL_combines_276 (by decide) ?_
                                refine lv_ishr hx hb dL_combines_277 ?_
                                refine top_i (x' := (shrI x (nI 5))) rfl ?_
                                refine lv_iconst (v := (nI 3)) hx hb dL_combines_278 (by decide) ?_
                                refine lv_iand hx hb dL_combines_279 ?_
                                refine lv_if_ne (tgt := 300) hx hb dL_combines_280 (by decide) (fun c_9 => ?_) (fun c_9 => ?_)
                                · skip
                                  refine lv_iconst (v := (nI 1)) hx hb dL_combines_300 (by decide) ?_
                                  refine lv_goto (tgt := 305) hx hb dL_combines_301 (by decide) ?_
                                  subst hQ
                                  exact W.zret (v := (nI 1)) hx hb hr nb1 (fun t ht hW => ⟨⟨(nI 1), f2, rfl, ⟨rfl, hm3.trans hbl⟩, by have h9 := hP; rw [← ht] at h9; exact h9⟩, hS.F ht⟩) hS.2.2 dL_combines_305
                                · skip
                                  refine lv_aload_n hx hb dL_combines_283 rfl (lv_at hl 0 rfl) ?_
                                  refine va_calli (va_runV (As := []) (rest := []) ⟨hx, hb, hml, hown, hts⟩ (k_X3_undo_o l D T o Sx f2 ) (cwV 0 hts gL_combines_X3_undo rfl rfl rfl (by decide +kernel) ⟨Nat.le_of_ble_eq_true rfl, Nat.le_of_ble_eq_true rfl⟩) (pre_V (Φ := fun X => PO D T X o Sx f2) hK ((PO.recv hP).choose_spec) rfl hP) rfl rfl hl.1 rfl (lv_room (Nat.le_of_ble_eq_true rfl)) dL_combines_284 ⟨Nat.le_of_ble_eq_true rfl, Nat.le_of_ble_eq_true rfl⟩) hS (fun q _ h => h) (fun q h => h) (fun r_11 u_5 t H_5 locs ht hvm hw hB hz hk hS => ?_)
                                  rw [ht] at hB
                                  try dsimp only at hw
                                  try dsimp only at hB
                                  subst hw
                                  have hP := hB
                                  refine top_i (x' := (nI (kpt fi.2.2.1 - 1))) (hm4) ?_
                                  refine lv_if_lt (tgt := 304) hx hb dL_combines_287 (by decide) (fun c_10 => ?_) (fun c_10 => ?_)
                                  · skip
                                    exact absurd c_10 (nI_pos (n := (kpt fi.2.2.1 - 1)) (by omega))
                                  · skip
                                    refine lv_aload_n hx hb dL_combines_290 rfl (lv_at hl 0 rfl) ?_
                                    refine vp_callSl (va_Run.run (va_runV (As := []) (rest := []) ⟨hx, hb, hml, hown, hts⟩ (k_X3_fingerprint_o l D T o Sx (undN f2) ) (cwV 0 hts gL_combines_X3_fingerprint rfl rfl rfl (by decide +kernel) ⟨Nat.le_of_ble_eq_true rfl, Nat.le_of_ble_eq_true rfl⟩) (pre_V (Φ := fun X => PO D T X o Sx (undN f2)) hK ((PO.recv hP).choose_spec) rfl hP) rfl rfl hl.1 rfl (lv_room (Nat.le_of_ble_eq_true rfl)) dL_combines_291 ⟨Nat.le_of_ble_eq_true rfl, Nat.le_of_ble_eq_true rfl⟩)) (fun r_12 hr_12 => ?_)
                                    subst hr_12
                                    refine top_l (x' := (finR fi)) (fin_eq hm5) ?_
                                    refine lv_lload hx hb dL_combines_294 (lv_at hl 2 rfl) ?_
                                    refine W.lcmp hx hb dL_combines_296 ?_
                                    refine lv_if_ne (tgt := 304) hx hb dL_combines_297 (by decide) (fun c_11 => ?_) (fun c_11 => ?_)
                                    · skip
                                      exact absurd (lcmp_self _) c_11
                                    · skip
                                      refine lv_iconst (v := (nI 1)) hx hb dL_combines_300 (by decide) ?_
                                      refine lv_goto (tgt := 305) hx hb dL_combines_301 (by decide) ?_
                                      subst hQ
                                      exact W.zret (v := (nI 1)) hx hb hr nb1 (fun t ht hW => ⟨⟨(nI 1), undN f2, rfl, ⟨rfl, hm6.trans hbl⟩, by have h9 := hP; rw [← ht] at h9; exact h9⟩, hS.F ht⟩) hS.2.2 dL_combines_305
                              · skip
                                exact absurd (by rw [c_7]) c_8
                        · skip
                          have c_5 : ¬ (9 ≤ k) := fun z => c_5 ((nI_leI (a := 9) (b := k) (by omega) (by omega)).mpr z)
                          refine lv_iload hx hb dL_combines_224 (lv_at hl 5 rfl) ?_
                          refine lv_aload_n hx hb dL_combines_226 rfl (lv_at hl 0 rfl) ?_
                          refine lv_iload hx hb dL_combines_227 (lv_at hl 8 rfl) ?_
                          refine lv_iconst (v := (nI 3)) hx hb dL_combines_229 (by decide) ?_
                          refine lv_idiv hx hb dL_combines_230 (by decide) ?_
                          refine top_i (pk_div (a := k) (d := 3) (by omega) (by omega) (by omega)) ?_
                          refine lv_iload hx hb dL_combines_231 (lv_at hl 8 rfl) ?_
                          refine lv_iconst (v := (nI 3)) hx hb dL_combines_233 (by decide) ?_
                          refine lv_irem hx hb dL_combines_234 (by decide) ?_
                          refine top_i (pk_rem (a := k) (d := 3) (by omega) (by omega) (by omega)) ?_
                          refine vp_callSi (va_Run.run (va_runV (As := [.int (nI (k / 3)), .int (nI (k % 3))]) (rest := [.int (siF fi.1.2.1 9 - siF f2.1.2.1 k)]) ⟨hx, hb, hml, hown, hts⟩ (k_X3_met_o l D T o Sx f2 (nI (k / 3)) (nI (k % 3)) ) (cwV 2 hts gL_combines_X3_met rfl rfl rfl (by decide +kernel) ⟨Nat.le_of_ble_eq_true rfl, Nat.le_of_ble_eq_true rfl⟩) (pre_V (Φ := fun X => PO D T X o Sx f2) hK ((PO.recv hP).choose_spec) rfl hP) rfl rfl hl.1 rfl (lv_room (Nat.le_of_ble_eq_true rfl)) dL_combines_235 ⟨Nat.le_of_ble_eq_true rfl, Nat.le_of_ble_eq_true rfl⟩)) (fun r_10 hr_10 => ?_)
                          subst hr_10
                          refine top_i (x' := (f2.1.2.1 k)) (o_met (by omega)) ?_
                          refine lv_isub hx hb dL_combines_238 ?_
                          refine lv_istore (lv' := [(12, .int ((siF fi.1.2.1 9 - siF f2.1.2.1 k) - (f2.1.2.1 k))), (0, .ref o), (1, .int x), (4, .long (finR fi)), (9, .int (nI qo)), (10, .int (nI qu)), (13, .int (nI (prC (fi.1.1 ss) (fi.1.1 tt) 16))), (14, .int (nthA (fun z => jb 2 ((fi.1.1 ss) z) ((fi.1.1 tt) z)) (nI 0))), (15, .int (nI k))]) hx hb dL_combines_239 hl (by decide) rfl (fun ls hl => ?_)
                          refine lv_iinc (v := (nI (k + 1))) (lv' := [(15, .int (nI (k + 1))), (12, .int ((siF fi.1.2.1 9 - siF f2.1.2.1 k) - (f2.1.2.1 k))), (0, .ref o), (1, .int x), (4, .long (finR fi)), (9, .int (nI qo)), (10, .int (nI qu)), (13, .int (nI (prC (fi.1.1 ss) (fi.1.1 tt) 16))), (14, .int (nthA (fun z => jb 2 ((fi.1.1 ss) z) ((fi.1.1 tt) z)) (nI 0)))]) hx hb dL_combines_241 hl (k := 8) rfl (iinc_n k 1) (by decide) rfl (fun ls hl => ?_)
                          refine lv_goto (tgt := 217) hx hb dL_combines_244 (by decide) ?_
                          have hl := lv_sub hl (l' := [(0, .ref o), (1, .int x), (4, .long (finR fi)), (9, .int (nI qo)), (10, .int (nI qu)), (12, .int ((siF fi.1.2.1 9 - siF f2.1.2.1 k) - (f2.1.2.1 k))), (13, .int (nI (prC (fi.1.1 ss) (fi.1.1 tt) 16))), (14, .int (nthA (fun z => jb 2 ((fi.1.1 ss) z) ((fi.1.1 tt) z)) (nI 0))), (15, .int (nI (k + 1)))]) [2, 3, 4, 5, 6, 1, 7, 8, 0] rfl
                          have q_1 : ((siF fi.1.2.1 9 - siF f2.1.2.1 k) - (f2.1.2.1 k)) = (siF fi.1.2.1 9 - siF f2.1.2.1 (k + 1)) := i_subsub _ _ _
                          have hl : lv_has ls 16 [(0, .ref o), (1, .int x), (4, .long (finR fi)), (9, .int (nI qo)), (10, .int (nI qu)), (12, .int (siF fi.1.2.1 9 - siF f2.1.2.1 (k + 1))), (13, .int (nI (prC (fi.1.1 ss) (fi.1.1 tt) 16))), (14, .int (nthA (fun z => jb 2 ((fi.1.1 ss) z) ((fi.1.1 tt) z)) (nI 0))), (15, .int (nI (k + 1)))] := by
                            have h := hl
                            rw [q_1] at h
                            exact h
                          exact ih217 (k + 1) (by omega) H _ hP hS ls hl (by omega)
                    have hl := lv_sub hl (l' := [(0, .ref o), (1, .int x), (4, .long (finR fi)), (9, .int (nI qo)), (10, .int (nI qu)), (12, .int (siF fi.1.2.1 9)), (13, .int (nI (prC (fi.1.1 ss) (fi.1.1 tt) j))), (14, .int (nthA (fun z => jb 2 ((fi.1.1 ss) z) ((fi.1.1 tt) z)) (nI 0))), (15, .int (nI 0))]) [2, 3, 6, 7, 8, 10, 11, 1, 0] rfl
                    have q_1 : (siF fi.1.2.1 9) = (siF fi.1.2.1 9 - siF f2.1.2.1 0) := i_sub0 _
                    have q_2 : (nI (prC (fi.1.1 ss) (fi.1.1 tt) j)) = (nI (prC (fi.1.1 ss) (fi.1.1 tt) 16)) := by rw [show j = 16 by omega]
                    have hl : lv_has ls 16 [(0, .ref o), (1, .int x), (4, .long (finR fi)), (9, .int (nI qo)), (10, .int (nI qu)), (12, .int (siF fi.1.2.1 9 - siF f2.1.2.1 0)), (13, .int (nI (prC (fi.1.1 ss) (fi.1.1 tt) 16))), (14, .int (nthA (fun z => jb 2 ((fi.1.1 ss) z) ((fi.1.1 tt) z)) (nI 0))), (15, .int (nI 0))] := by
                      have h := hl
                      rw [q_1] at h
                      rw [q_2] at h
                      exact h
                    exact loop217 (9 - 0 + 1) 0 (Nat.zero_le _) H_4 _ hP hS ls hl (Nat.lt_succ_self _)
                  · skip
                    have c_4 : ¬ ((jct qo (fi.1.1 ss) (fi.1.1 tt)) = (jct qo (fi.1.1 ss) (fi.1.1 tt))) := fun z => c_4 ((nI_eq (a := (jct qo (fi.1.1 ss) (fi.1.1 tt))) (b := (jct qo (fi.1.1 ss) (fi.1.1 tt))) (by omega) (by omega)).mpr z)
                    first | exact absurd rfl c_4 | exact absurd (by omega) c_4 | exact absurd c_4 (by omega)
              · skip
                have c_2 : ¬ (16 ≤ j) := fun z => c_2 ((nI_leI (a := 16) (b := j) (by omega) (by omega)).mpr z)
                refine lv_iload hx hb dL_combines_139 (lv_at hl 9 rfl) ?_
                refine lv_aload_n hx hb dL_combines_141 rfl (lv_at hl 0 rfl) ?_
                refine lv_iload_n hx hb dL_combines_142 rfl (lv_at hl 2 rfl) ?_
                refine lv_iload hx hb dL_combines_143 (lv_at hl 10 rfl) ?_
                refine lv_iconst (v := (nI 1)) hx hb dL_combines_145 (by decide) ?_
                refine vp_callSi (va_Run.run (va_runV (As := [.int (nI ss), .int (nI j), .int (nI 1)]) (rest := [.int (nI (prC (fi.1.1 ss) (fi.1.1 tt) j))]) ⟨hx, hb, hml, hown, hts⟩ (k_X3_piece_o l D T o Sx fi (nI ss) (nI j) (nI 1) ) (cwV 3 hts gL_combines_X3_piece rfl rfl rfl (by decide +kernel) ⟨Nat.le_of_ble_eq_true rfl, Nat.le_of_ble_eq_true rfl⟩) (pre_V (Φ := fun X => PO D T X o Sx fi) hK ((PO.recv hP).choose_spec) rfl hP) rfl rfl hl.1 rfl (lv_room (Nat.le_of_ble_eq_true rfl)) dL_combines_146 ⟨Nat.le_of_ble_eq_true rfl, Nat.le_of_ble_eq_true rfl⟩)) (fun r_7 hr_7 => ?_)
                subst hr_7
                refine top_i (x' := (nI (pn (fi.1.1 ss) j))) (o_pie1 hs6 (by omega)) ?_
                refine lv_if_le (tgt := 167) hx hb dL_combines_149 (by decide) (fun c_3 => ?_) (fun c_3 => ?_)
                · skip
                  have c_3 : (pn (fi.1.1 ss) j) = 0 := (nI_le0 (a := (pn (fi.1.1 ss) j)) (by omega)).mp c_3
                  refine lv_iconst (v := (nI 0)) hx hb dL_combines_167 (by decide) ?_
                  refine lv_iadd hx hb dL_combines_168 ?_
                  refine top_i (nI_add (prC (fi.1.1 ss) (fi.1.1 tt) j) 0) ?_
                  refine lv_istore (lv' := [(13, .int (nI ((prC (fi.1.1 ss) (fi.1.1 tt) j) + 0))), (0, .ref o), (1, .int x), (2, .int (nI ss)), (3, .int (nI tt)), (4, .long (finR fi)), (9, .int (nI qo)), (10, .int (nI qu)), (11, .int (nI (jct qo (fi.1.1 ss) (fi.1.1 tt)))), (12, .int (siF fi.1.2.1 9)), (14, .int (nI j))]) hx hb dL_combines_169 hl (by decide) rfl (fun ls hl => ?_)
                  refine lv_iinc (v := (nI (j + 1))) (lv' := [(14, .int (nI (j + 1))), (13, .int (nI ((prC (fi.1.1 ss) (fi.1.1 tt) j) + 0))), (0, .ref o), (1, .int x), (2, .int (nI ss)), (3, .int (nI tt)), (4, .long (finR fi)), (9, .int (nI qo)), (10, .int (nI qu)), (11, .int (nI (jct qo (fi.1.1 ss) (fi.1.1 tt)))), (12, .int (siF fi.1.2.1 9))]) hx hb dL_combines_171 hl (k := 10) rfl (iinc_n j 1) (by decide) rfl (fun ls hl => ?_)
                  refine lv_goto (tgt := 132) hx hb dL_combines_174 (by decide) ?_
                  have hl := lv_sub hl (l' := [(0, .ref o), (1, .int x), (2, .int (nI ss)), (3, .int (nI tt)), (4, .long (finR fi)), (9, .int (nI qo)), (10, .int (nI qu)), (11, .int (nI (jct qo (fi.1.1 ss) (fi.1.1 tt)))), (12, .int (siF fi.1.2.1 9)), (13, .int (nI ((prC (fi.1.1 ss) (fi.1.1 tt) j) + 0))), (14, .int (nI (j + 1)))]) [2, 3, 4, 5, 6, 7, 8, 9, 10, 1, 0] rfl
                  have q_1 : (nI ((prC (fi.1.1 ss) (fi.1.1 tt) j) + 0)) = (nI (prC (fi.1.1 ss) (fi.1.1 tt) (j + 1))) := congrArg nI (by first | exact (prC_1 ⟨by omega, by omega⟩).symm | exact (prC_0 (fun z => by have z1 := z.1; have z2 := z.2; omega)).symm)
                  have hl : lv_has ls 16 [(0, .ref o), (1, .int x), (2, .int (nI ss)), (3, .int (nI tt)), (4, .long (finR fi)), (9, .int (nI qo)), (10, .int (nI qu)), (11, .int (nI (jct qo (fi.1.1 ss) (fi.1.1 tt)))), (12, .int (siF fi.1.2.1 9)), (13, .int (nI (prC (fi.1.1 ss) (fi.1.1 tt) (j + 1)))), (14, .int (nI (j + 1)))] := by
                    have h := hl
                    rw [q_1] at h
                    exact h
                  exact ih132 (j + 1) (by omega) H _ hP hS ls hl (by omega)
                · skip
                  have c_3 : ¬ ((pn (fi.1.1 ss) j) = 0) := fun z => c_3 ((nI_le0 (a := (pn (fi.1.1 ss) j)) (by omega)).mpr z)
                  refine lv_aload_n hx hb dL_combines_152 rfl (lv_at hl 0 rfl) ?_
                  refine lv_iload_n hx hb dL_combines_153 rfl (lv_at hl 3 rfl) ?_
                  refine lv_iload hx hb dL_combines_154 (lv_at hl 10 rfl) ?_
                  refine lv_iconst (v := (nI 1)) hx hb dL_combines_156 (by decide) ?_
                  refine vp_callSi (va_Run.run (va_runV (As := [.int (nI tt), .int (nI j), .int (nI 1)]) (rest := [.int (nI (prC (fi.1.1 ss) (fi.1.1 tt) j))]) ⟨hx, hb, hml, hown, hts⟩ (k_X3_piece_o l D T o Sx fi (nI tt) (nI j) (nI 1) ) (cwV 3 hts gL_combines_X3_piece rfl rfl rfl (by decide +kernel) ⟨Nat.le_of_ble_eq_true rfl, Nat.le_of_ble_eq_true rfl⟩) (pre_V (Φ := fun X => PO D T X o Sx fi) hK ((PO.recv hP).choose_spec) rfl hP) rfl rfl hl.1 rfl (lv_room (Nat.le_of_ble_eq_true rfl)) dL_combines_157 ⟨Nat.le_of_ble_eq_true rfl, Nat.le_of_ble_eq_true rfl⟩)) (fun r_8 hr_8 => ?_)
                  subst hr_8
                  refine top_i (x' := (nI (pn (fi.1.1 tt) j))) (o_pie1 ht6 (by omega)) ?_
                  refine lv_if_le (tgt := 167) hx hb dL_combines_160 (by decide) (fun c_4 => ?_) (fun c_4 => ?_)
                  · skip
                    have c_4 : (pn (fi.1.1 tt) j) = 0 := (nI_le0 (a := (pn (fi.1.1 tt) j)) (by omega)).mp c_4
                    refine lv_iconst (v := (nI 0)) hx hb dL_combines_167 (by decide) ?_
                    refine lv_iadd hx hb dL_combines_168 ?_
                    refine top_i (nI_add (prC (fi.1.1 ss) (fi.1.1 tt) j) 0) ?_
                    refine lv_istore (lv' := [(13, .int (nI ((prC (fi.1.1 ss) (fi.1.1 tt) j) + 0))), (0, .ref o), (1, .int x), (2, .int (nI ss)), (3, .int (nI tt)), (4, .long (finR fi)), (9, .int (nI qo)), (10, .int (nI qu)), (11, .int (nI (jct qo (fi.1.1 ss) (fi.1.1 tt)))), (12, .int (siF fi.1.2.1 9)), (14, .int (nI j))]) hx hb dL_combines_169 hl (by decide) rfl (fun ls hl => ?_)
                    refine lv_iinc (v := (nI (j + 1))) (lv' := [(14, .int (nI (j + 1))), (13, .int (nI ((prC (fi.1.1 ss) (fi.1.1 tt) j) + 0))), (0, .ref o), (1, .int x), (2, .int (nI ss)), (3, .int (nI tt)), (4, .long (finR fi)), (9, .int (nI qo)), (10, .int (nI qu)), (11, .int (nI (jct qo (fi.1.1 ss) (fi.1.1 tt)))), (12, .int (siF fi.1.2.1 9))]) hx hb dL_combines_171 hl (k := 10) rfl (iinc_n j 1) (by decide) rfl (fun ls hl => ?_)
                    refine lv_goto (tgt := 132) hx hb dL_combines_174 (by decide) ?_
                    have hl := lv_sub hl (l' := [(0, .ref o), (1, .int x), (2, .int (nI ss)), (3, .int (nI tt)), (4, .long (finR fi)), (9, .int (nI qo)), (10, .int (nI qu)), (11, .int (nI (jct qo (fi.1.1 ss) (fi.1.1 tt)))), (12, .int (siF fi.1.2.1 9)), (13, .int (nI ((prC (fi.1.1 ss) (fi.1.1 tt) j) + 0))), (14, .int (nI (j + 1)))]) [2, 3, 4, 5, 6, 7, 8, 9, 10, 1, 0] rfl
                    have q_1 : (nI ((prC (fi.1.1 ss) (fi.1.1 tt) j) + 0)) = (nI (prC (fi.1.1 ss) (fi.1.1 tt) (j + 1))) := congrArg nI (by first | exact (prC_1 ⟨by omega, by omega⟩).symm | exact (prC_0 (fun z => by have z1 := z.1; have z2 := z.2; omega)).symm)
                    have hl : lv_has ls 16 [(0, .ref o), (1, .int x), (2, .int (nI ss)), (3, .int (nI tt)), (4, .long (finR fi)), (9, .int (nI qo)), (10, .int (nI qu)), (11, .int (nI (jct qo (fi.1.1 ss) (fi.1.1 tt)))), (12, .int (siF fi.1.2.1 9)), (13, .int (nI (prC (fi.1.1 ss) (fi.1.1 tt) (j + 1)))), (14, .int (nI (j + 1)))] := by
                      have h := hl
                      rw [q_1] at h
                      exact h
                    exact ih132 (j + 1) (by omega) H _ hP hS ls hl (by omega)
                  · skip
                    have c_4 : ¬ ((pn (fi.1.1 tt) j) = 0) := fun z => c_4 ((nI_le0 (a := (pn (fi.1.1 tt) j)) (by omega)).mpr z)
                    refine lv_iconst (v := (nI 1)) hx hb dL_combines_163 (by decide) ?_
                    refine lv_goto (tgt := 168) hx hb dL_combines_164 (by decide) ?_
                    refine lv_iadd hx hb dL_combines_168 ?_
                    refine top_i (nI_add (prC (fi.1.1 ss) (fi.1.1 tt) j) 1) ?_
                    refine lv_istore (lv' := [(13, .int (nI ((prC (fi.1.1 ss) (fi.1.1 tt) j) + 1))), (0, .ref o), (1, .int x), (2, .int (nI ss)), (3, .int (nI tt)), (4, .long (finR fi)), (9, .int (nI qo)), (10, .int (nI qu)), (11, .int (nI (jct qo (fi.1.1 ss) (fi.1.1 tt)))), (12, .int (siF fi.1.2.1 9)), (14, .int (nI j))]) hx hb dL_combines_169 hl (by decide) rfl (fun ls hl => ?_)
                    refine lv_iinc (v := (nI (j + 1))) (lv' := [(14, .int (nI (j + 1))), (13, .int (nI ((prC (fi.1.1 ss) (fi.1.1 tt) j) + 1))), (0, .ref o), (1, .int x), (2, .int (nI ss)), (3, .int (nI tt)), (4, .long (finR fi)), (9, .int (nI qo)), (10, .int (nI qu)), (11, .int (nI (jct qo (fi.1.1 ss) (fi.1.1 tt)))), (12, .int (siF fi.1.2.1 9))]) hx hb dL_combines_171 hl (k := 10) rfl (iinc_n j 1) (by decide) rfl (fun ls hl => ?_)
                    refine lv_goto (tgt := 132) hx hb dL_combines_174 (by decide) ?_
                    have hl := lv_sub hl (l' := [(0, .ref o), (1, .int x), (2, .int (nI ss)), (3, .int (nI tt)), (4, .long (finR fi)), (9, .int (nI qo)), (10, .int (nI qu)), (11, .int (nI (jct qo (fi.1.1 ss) (fi.1.1 tt)))), (12, .int (siF fi.1.2.1 9)), (13, .int (nI ((prC (fi.1.1 ss) (fi.1.1 tt) j) + 1))), (14, .int (nI (j + 1)))]) [2, 3, 4, 5, 6, 7, 8, 9, 10, 1, 0] rfl
                    have q_1 : (nI ((prC (fi.1.1 ss) (fi.1.1 tt) j) + 1)) = (nI (prC (fi.1.1 ss) (fi.1.1 tt) (j + 1))) := congrArg nI (by first | exact (prC_1 ⟨by omega, by omega⟩).symm | exact (prC_0 (fun z => by have z1 := z.1; have z2 := z.2; omega)).symm)
                    have hl : lv_has ls 16 [(0, .ref o), (1, .int x), (2, .int (nI ss)), (3, .int (nI tt)), (4, .long (finR fi)), (9, .int (nI qo)), (10, .int (nI qu)), (11, .int (nI (jct qo (fi.1.1 ss) (fi.1.1 tt)))), (12, .int (siF fi.1.2.1 9)), (13, .int (nI (prC (fi.1.1 ss) (fi.1.1 tt) (j + 1)))), (14, .int (nI (j + 1)))] := by
                      have h := hl
                      rw [q_1] at h
                      exact h
                    exact ih132 (j + 1) (by omega) H _ hP hS ls hl (by omega)
          have hl := lv_sub hl (l' := [(0, .ref o), (1, .int x), (2, .int (nI ss)), (3, .int (nI tt)), (4, .long (finR fi)), (9, .int (nI qo)), (10, .int (nI qu)), (11, .int (nI (jct qo (fi.1.1 ss) (fi.1.1 tt)))), (12, .int (siF fi.1.2.1 i)), (13, .int (nI 0)), (14, .int (nI 0))]) [1, 2, 3, 4, 5, 6, 7, 8, 9, 10, 0] rfl
          have q_1 : (siF fi.1.2.1 i) = (siF fi.1.2.1 9) := by rw [show i = 9 by omega]
          have q_2 : (nI 0) = (nI (prC (fi.1.1 ss) (fi.1.1 tt) 0)) := rfl
          have hl : lv_has ls 16 [(0, .ref o), (1, .int x), (2, .int (nI ss)), (3, .int (nI tt)), (4, .long (finR fi)), (9, .int (nI qo)), (10, .int (nI qu)), (11, .int (nI (jct qo (fi.1.1 ss) (fi.1.1 tt)))), (12, .int (siF fi.1.2.1 9)), (13, .int (nI (prC (fi.1.1 ss) (fi.1.1 tt) 0))), (14, .int (nI 0))] := by
            have h := hl
            rw [q_1] at h
            rw [q_2] at h
            exact h
          exact loop132 (16 - 0 + 1) 0 (Nat.zero_le _) H _ hP hS ls hl (Nat.lt_succ_self _)
        · skip
          have c_1 : ¬ (9 ≤ i) := fun z => c_1 ((nI_leI (a := 9) (b := i) (by omega) (by omega)).mpr z)
          refine lv_iload hx hb dL_combines_106 (lv_at hl 8 rfl) ?_
          refine lv_aload_n hx hb dL_combines_108 rfl (lv_at hl 0 rfl) ?_
          refine lv_iload hx hb dL_combines_109 (lv_at hl 10 rfl) ?_
          refine lv_iconst (v := (nI 3)) hx hb dL_combines_111 (by decide) ?_
          refine lv_idiv hx hb dL_combines_112 (by decide) ?_
          refine top_i (pk_div (a := i) (d := 3) (by omega) (by omega) (by omega)) ?_
          refine lv_iload hx hb dL_combines_113 (lv_at hl 10 rfl) ?_
          refine lv_iconst (v := (nI 3)) hx hb dL_combines_115 (by decide) ?_
          refine lv_irem hx hb dL_combines_116 (by decide) ?_
          refine top_i (pk_rem (a := i) (d := 3) (by omega) (by omega) (by omega)) ?_
          refine vp_callSi (va_Run.run (va_runV (As := [.int (nI (i / 3)), .int (nI (i % 3))]) (rest := [.int (siF fi.1.2.1 i)]) ⟨hx, hb, hml, hown, hts⟩ (k_X3_met_o l D T o Sx fi (nI (i / 3)) (nI (i % 3)) ) (cwV 2 hts gL_combines_X3_met rfl rfl rfl (by decide +kernel) ⟨Nat.le_of_ble_eq_true rfl, Nat.le_of_ble_eq_true rfl⟩) (pre_V (Φ := fun X => PO D T X o Sx fi) hK ((PO.recv hP).choose_spec) rfl hP) rfl rfl hl.1 rfl (lv_room (Nat.le_of_ble_eq_true rfl)) dL_combines_117 ⟨Nat.le_of_ble_eq_true rfl, Nat.le_of_ble_eq_true rfl⟩)) (fun r_7 hr_7 => ?_)
          subst hr_7
          refine top_i (x' := (fi.1.2.1 i)) (o_met (by omega)) ?_
          refine lv_iadd hx hb dL_combines_120 ?_
          refine lv_istore (lv' := [(12, .int ((siF fi.1.2.1 i) + (fi.1.2.1 i))), (0, .ref o), (1, .int x), (2, .int (nI ss)), (3, .int (nI tt)), (4, .long (finR fi)), (9, .int (nI qo)), (10, .int (nI qu)), (11, .int (nI (jct qo (fi.1.1 ss) (fi.1.1 tt)))), (13, .int (nI 0)), (14, .int (nI i))]) hx hb dL_combines_121 hl (by decide) rfl (fun ls hl => ?_)
          refine lv_iinc (v := (nI (i + 1))) (lv' := [(14, .int (nI (i + 1))), (12, .int ((siF fi.1.2.1 i) + (fi.1.2.1 i))), (0, .ref o), (1, .int x), (2, .int (nI ss)), (3, .int (nI tt)), (4, .long (finR fi)), (9, .int (nI qo)), (10, .int (nI qu)), (11, .int (nI (jct qo (fi.1.1 ss) (fi.1.1 tt)))), (13, .int (nI 0))]) hx hb dL_combines_123 hl (k := 10) rfl (iinc_n i 1) (by decide) rfl (fun ls hl => ?_)
          refine lv_goto (tgt := 99) hx hb dL_combines_126 (by decide) ?_
          have hl := lv_sub hl (l' := [(0, .ref o), (1, .int x), (2, .int (nI ss)), (3, .int (nI tt)), (4, .long (finR fi)), (9, .int (nI qo)), (10, .int (nI qu)), (11, .int (nI (jct qo (fi.1.1 ss) (fi.1.1 tt)))), (12, .int ((siF fi.1.2.1 i) + (fi.1.2.1 i))), (13, .int (nI 0)), (14, .int (nI (i + 1)))]) [2, 3, 4, 5, 6, 7, 8, 9, 1, 10, 0] rfl
          have q_1 : ((siF fi.1.2.1 i) + (fi.1.2.1 i)) = (siF fi.1.2.1 (i + 1)) := rfl
          have hl : lv_has ls 16 [(0, .ref o), (1, .int x), (2, .int (nI ss)), (3, .int (nI tt)), (4, .long (finR fi)), (9, .int (nI qo)), (10, .int (nI qu)), (11, .int (nI (jct qo (fi.1.1 ss) (fi.1.1 tt)))), (12, .int (siF fi.1.2.1 (i + 1))), (13, .int (nI 0)), (14, .int (nI (i + 1)))] := by
            have h := hl
            rw [q_1] at h
            exact h
          exact ih99 (i + 1) (by omega) H _ hP hS ls hl (by omega)
    have hl := lv_sub hl (l' := [(0, .ref o), (1, .int x), (2, .int (nI ss)), (3, .int (nI tt)), (4, .long (finR fi)), (9, .int (nI qo)), (10, .int (nI qu)), (11, .int (nI (jct qo (fi.1.1 ss) (fi.1.1 tt)))), (12, .int (nI 0)), (13, .int (nI 0)), (14, .int (nI 0))]) [10, 11, 12, 13, 9, 5, 4, 3, 2, 1, 0] rfl
    have q_1 : (nI 0) = (siF fi.1.2.1 0) := rfl
    have hl : lv_has ls 16 [(0, .ref o), (1, .int x), (2, .int (nI ss)), (3, .int (nI tt)), (4, .long (finR fi)), (9, .int (nI qo)), (10, .int (nI qu)), (11, .int (nI (jct qo (fi.1.1 ss) (fi.1.1 tt)))), (12, .int (siF fi.1.2.1 0)), (13, .int (nI 0)), (14, .int (nI 0))] := by
      have h := hl
      rw [q_1] at h
      exact h
    exact loop99 (9 - 0 + 1) 0 (Nat.zero_le _) H_2 _ hP hS ls hl (Nat.lt_succ_self _)
  refine lv_iload hx hb dL_combines_48 (lv_at hl 1 rfl) ?_
  refine lv_if_ne (tgt := 58) hx hb dL_combines_50 (by decide) (fun c_1 => ?_) (fun c_1 => ?_)
  · skip
    have c_1 : ¬ (qo = 0) := fun z => c_1 ((nI_e0 (a := qo) (by omega)).mpr z)
    refine lv_iload hx hb dL_combines_58 (lv_at hl 1 rfl) ?_
    refine lv_iconst (v := (nI 1)) hx hb dL_combines_60 (by decide) ?_
    refine lv_icmp_ne (tgt := 72) hx hb dL_combines_61 (by decide) (fun c_2 => ?_) (fun c_2 => ?_)
    · skip
      have c_2 : ¬ (qo = 1) := fun z => c_2 ((nI_eq (a := qo) (b := 1) (by omega) (by omega)).mpr z)
      refine lv_iload hx hb dL_combines_72 (lv_at hl 1 rfl) ?_
      refine lv_iconst (v := (nI 2)) hx hb dL_combines_74 (by decide) ?_
      refine lv_icmp_ne (tgt := 83) hx hb dL_combines_75 (by decide) (fun c_3 => ?_) (fun c_3 => ?_)
      · skip
        have c_3 : ¬ (qo = 2) := fun z => c_3 ((nI_eq (a := qo) (b := 2) (by omega) (by omega)).mpr z)
        refine lv_iload hx hb dL_combines_83 (lv_at hl 2 rfl) ?_
        refine lv_iload hx hb dL_combines_85 (lv_at hl 4 rfl) ?_
        refine lv_isub hx hb dL_combines_87 ?_
        refine top_i (pk_sub (a := ct (fi.1.1 ss) 0 4096) (b := jct 0 (fi.1.1 ss) (fi.1.1 tt)) (by omega)) ?_
        refine top_i (x' := (nI (jct qo (fi.1.1 ss) (fi.1.1 tt)))) (congrArg nI (show (ct (fi.1.1 ss) 0 4096) - (jct 0 (fi.1.1 ss) (fi.1.1 tt)) = jct qo (fi.1.1 ss) (fi.1.1 tt) by rcases (show qo = 0 ∨ qo = 1 ∨ qo = 2 ∨ qo = 3 by omega) with h9 | h9 | h9 | h9 <;> first | (exfalso; omega) | (rw [h9]; done) | (rw [h9]; omega))) ?_
        exact k88 ls hl
      · skip
        have c_3 : qo = 2 := (nI_eq (a := qo) (b := 2) (by omega) (by omega)).mp c_3
        refine lv_iload hx hb dL_combines_78 (lv_at hl 3 rfl) ?_
        refine lv_goto (tgt := 88) hx hb dL_combines_80 (by decide) ?_
        refine top_i (x' := (nI (jct qo (fi.1.1 ss) (fi.1.1 tt)))) (congrArg nI (show jct 2 (fi.1.1 ss) (fi.1.1 tt) = jct qo (fi.1.1 ss) (fi.1.1 tt) by rcases (show qo = 0 ∨ qo = 1 ∨ qo = 2 ∨ qo = 3 by omega) with h9 | h9 | h9 | h9 <;> first | (exfalso; omega) | (rw [h9]; done) | (rw [h9]; omega))) ?_
        exact k88 ls hl
    · skip
      have c_2 : qo = 1 := (nI_eq (a := qo) (b := 1) (by omega) (by omega)).mp c_2
      refine lv_iload hx hb dL_combines_64 (lv_at hl 4 rfl) ?_
      refine lv_iload hx hb dL_combines_66 (lv_at hl 3 rfl) ?_
      refine lv_iadd hx hb dL_combines_68 ?_
      refine top_i (nI_add (jct 0 (fi.1.1 ss) (fi.1.1 tt)) (jct 2 (fi.1.1 ss) (fi.1.1 tt))) ?_
      refine lv_goto (tgt := 88) hx hb dL_combines_69 (by decide) ?_
      refine top_i (x' := (nI (jct qo (fi.1.1 ss) (fi.1.1 tt)))) (congrArg nI (show (jct 0 (fi.1.1 ss) (fi.1.1 tt)) + (jct 2 (fi.1.1 ss) (fi.1.1 tt)) = jct qo (fi.1.1 ss) (fi.1.1 tt) by rcases (show qo = 0 ∨ qo = 1 ∨ qo = 2 ∨ qo = 3 by omega) with h9 | h9 | h9 | h9 <;> first | (exfalso; omega) | (rw [h9]; done) | (rw [h9]; omega))) ?_
      exact k88 ls hl
  · skip
    have c_1 : qo = 0 := (nI_e0 (a := qo) (by omega)).mp c_1
    refine lv_iload hx hb dL_combines_53 (lv_at hl 4 rfl) ?_
    refine lv_goto (tgt := 88) hx hb dL_combines_55 (by decide) ?_
    refine top_i (x' := (nI (jct qo (fi.1.1 ss) (fi.1.1 tt)))) (congrArg nI (show jct 0 (fi.1.1 ss) (fi.1.1 tt) = jct qo (fi.1.1 ss) (fi.1.1 tt) by rcases (show qo = 0 ∨ qo = 1 ∨ qo = 2 ∨ qo = 3 by omega) with h9 | h9 | h9 | h9 <;> first | (exfalso; omega) | (rw [h9]; done) | (rw [h9]; omega))) ?_
    exact k88 ls hl
