set_option maxHeartbeats 4000000 in
set_option maxRecDepth 100000 in
theorem k_L_copies (l : Launch) (D : va_G) (T : Nat → ClassId) (o : Nat) (Sx : Nat → Prop) (fi : FS) (ss : Nat) (tt : Nat) (hs6 : ss < 6) (ht6 : tt < 6) (hbl : fi.2.2.2.2 = 0) : Met l yL_copies wsL_copies ({ frames := 7, cells := 0, slots := 0, locals := 189 }) (va_Pc [.ref o, .int (nI ss), .int (nI tt)] (fun U => KS D T U ∧ PO D T U.heap o Sx fi)) (va_Qi (fun (r : Int32) (u : FS) => r = (nI 1) ∧ u.2.2.2.2 = 0) (fun u t => PO D T t.heap o Sx u) (Sx)) 0 0 (Sx) := by
  refine Met.ofW (cc := cL_copies) (maxL := 5) (ret := (some .boolean)) (by decide) rfl ?_
  intro pg ev s m args below meth c s₁ B hml hv
  obtain ⟨rfl, hK, hH⟩ := hv
  have hx := B.exec
  have hb := B.bytes
  have hr := B.returns
  have hts := atoms_spec (ws := wsL_copies) B.pre
  have hown : s.vm.findClass RL = some m.cls := findClass_of_methodNamed B.named
  have hlocks := B.notSynchronized
  have in_wsX30 : ∀ w ∈ wsX30, w ∈ wsL_copies := fun w h => List.mem_cons_of_mem _ (List.mem_append_left _ (List.mem_append_left _ (List.mem_append_left _ (List.mem_append_right _ h))))
  have in_wsX20 : ∀ w ∈ wsX20, w ∈ wsL_copies := fun w h => List.mem_cons_of_mem _ (List.mem_append_left _ (List.mem_append_left _ (List.mem_append_right _ h)))
  have in_wsX10 : ∀ w ∈ wsX10, w ∈ wsL_copies := fun w h => List.mem_cons_of_mem _ (List.mem_append_left _ (List.mem_append_right _ h))
  have in_wsX00 : ∀ w ∈ wsX00, w ∈ wsL_copies := fun w h => List.mem_cons_of_mem _ (List.mem_append_right _ h)
  have hS : va_S (Sx) s.heap s.heap [] := va_S.rf
  have hl := lv_entry ([.ref o, .int (nI ss), .int (nI tt)]) (n := 5) (Nat.le_of_ble_eq_true rfl)
  rw [lg_entry_eq]
  generalize (lg_sl ([.ref o, .int (nI ss), .int (nI tt)]) ++ List.replicate (5 - (lg_sl ([.ref o, .int (nI ss), .int (nI tt)])).length) Slot.unset).toArray = ls at hl ⊢
  have hl : lv_has ls 5 [(0, .ref o), (1, .int (nI ss)), (2, .int (nI tt))] := hl
  refine W_gen (fun Q hQ => ?_)
  have hP := hH
  have hsa : fb_sm (pcst (fi.1.1 ss)) 16 ≤ 16 * 33 := fb_sm_bound (fun k _ => pcst_le _ k)
  have hcl := ct_le (fi.1.1 ss) 0 4096
  refine lv_aload_n hx hb dL_copies_0 rfl (lv_at hl 0 rfl) ?_
  refine lv_iload_n hx hb dL_copies_1 rfl (lv_at hl 1 rfl) ?_
  refine vp_callSi (va_Run.run (va_runV (As := [.int (nI ss)]) (rest := []) ⟨hx, hb, hml, hown, hts⟩ (k_X3_bytes_o l D T o Sx fi (nI ss) ) (cwV 1 hts gL_copies_X3_bytes rfl rfl rfl (by decide +kernel) ⟨Nat.le_of_ble_eq_true rfl, Nat.le_of_ble_eq_true rfl⟩) (pre_V (Φ := fun X => PO D T X o Sx fi) hK ((PO.recv hP).choose_spec) rfl hP) rfl rfl hl.1 rfl (lv_room (Nat.le_of_ble_eq_true rfl)) dL_copies_2 ⟨Nat.le_of_ble_eq_true rfl, Nat.le_of_ble_eq_true rfl⟩)) (fun r_1 hr_1 => ?_)
  subst hr_1
  refine top_i (x' := (nI (fb_sm (pcst (fi.1.1 ss)) 16))) (o_byt hs6) ?_
  refine lv_istore_n (lv' := [(3, .int (nI (fb_sm (pcst (fi.1.1 ss)) 16))), (0, .ref o), (1, .int (nI ss)), (2, .int (nI tt))]) hx hb dL_copies_5 rfl hl (by decide) rfl (fun ls hl => ?_)
  refine lv_iload_n hx hb dL_copies_6 rfl (lv_at hl 0 rfl) ?_
  refine lv_sipush (v := (nI 200)) hx hb dL_copies_7 (by decide) ?_
  refine lv_icmp_le (tgt := 15) hx hb dL_copies_10 (by decide) (fun c_1 => ?_) (fun c_1 => ?_)
  · skip
    have c_1 : (fb_sm (pcst (fi.1.1 ss)) 16) ≤ 200 := (nI_leI (a := (fb_sm (pcst (fi.1.1 ss)) 16)) (b := 200) (by omega) (by omega)).mp c_1
    refine lv_iconst (v := (nI 0)) hx hb dL_copies_15 (by decide) ?_
    refine lv_istore (lv' := [(4, .int (nI 0)), (3, .int (nI (fb_sm (pcst (fi.1.1 ss)) 16))), (0, .ref o), (1, .int (nI ss)), (2, .int (nI tt))]) hx hb dL_copies_16 hl (by decide) rfl (fun ls hl => ?_)
    have loop18 : ∀ (n18 : Nat) (k : Nat) (fk : FS) (hk : k ≤ fb_sm (pcst (fi.1.1 ss)) 16) (h1 : fk.1 = fi.1) (hl2 : fk.2.2.2.2 = k) (hrr : ∀ j, j < k → fk.2.2.2.1 j < 256 ∧ nI (fk.2.2.2.1 j) = bfF (fi.1.1 ss) 16 0 j) (H : Heap) (locs : List Loc) (hP : PO D T H o Sx fk) (hS : va_S (Sx) s.heap H locs) (ls : Array Slot) (hl : lv_has ls 5 [(0, .ref o), (1, .int (nI ss)), (2, .int (nI tt)), (3, .int (nI (fb_sm (pcst (fi.1.1 ss)) 16))), (4, .int (nI k))]) (hn18 : fb_sm (pcst (fi.1.1 ss)) 16 - k < n18), W pg l ev (headSpec wsL_copies ({ frames := 7, cells := 0, slots := 0, locals := 189 })).room s m ([.ref o, .int (nI ss), .int (nI tt)] : List Value).toArray below meth c H locs 0 0 Q (F0 m 18 ls []) := by
      intro n18
      induction n18 with
      | zero =>
        intro k fk hk h1 hl2 hrr H locs hP hS ls hl hn18
        exact absurd hn18 (Nat.not_lt_zero _)
      | succ n18 ih18 =>
        intro k fk hk h1 hl2 hrr H locs hP hS ls hl hn18
        refine lv_iload hx hb dL_copies_18 (lv_at hl 4 rfl) ?_
        refine lv_iload_n hx hb dL_copies_20 rfl (lv_at hl 3 rfl) ?_
        refine lv_icmp_ge (tgt := 50) hx hb dL_copies_21 (by decide) (fun c_2 => ?_) (fun c_2 => ?_)
        · skip
          have c_2 : (fb_sm (pcst (fi.1.1 ss)) 16) ≤ k := (nI_leI (a := (fb_sm (pcst (fi.1.1 ss)) 16)) (b := k) (by omega) (by omega)).mp c_2
          have hk16 : k = fb_sm (pcst (fi.1.1 ss)) 16 := by omega
          obtain ⟨hre, hES, hET, hl3⟩ := rea_step (fk := fk) (b := (fi.1.1 ss)) hs6 ht6 (by rw [h1]) (hl2.trans hk16) (fun j hj => hrr j (by omega))
          refine lv_aload_n hx hb dL_copies_50 rfl (lv_at hl 0 rfl) ?_
          refine lv_iload_n hx hb dL_copies_51 rfl (lv_at hl 2 rfl) ?_
          refine va_calli (va_runV (As := [.int (nI tt)]) (rest := []) ⟨hx, hb, hml, hown, hts⟩ (k_X3_read_o l D T o Sx fk (nI tt) ) (cwV 1 hts gL_copies_X3_read rfl rfl rfl (by decide +kernel) ⟨Nat.le_of_ble_eq_true rfl, Nat.le_of_ble_eq_true rfl⟩) (pre_V (Φ := fun X => PO D T X o Sx fk) hK ((PO.recv hP).choose_spec) rfl hP) rfl rfl hl.1 rfl (lv_room (Nat.le_of_ble_eq_true rfl)) dL_copies_52 ⟨Nat.le_of_ble_eq_true rfl, Nat.le_of_ble_eq_true rfl⟩) hS (fun q _ h => h) (fun q h => h) (fun r_2 u_1 t H_1 locs ht hvm hw hB hz hk hS => ?_)
          rw [ht] at hB
          try dsimp only at hw
          try dsimp only at hB
          subst hw
          have hP := hB
          obtain ⟨f2, hf2⟩ : ∃ f2, f2 = reaN fk (nI tt) := ⟨_, rfl⟩
          rw [← hf2] at hP hES hET hl3
          have hE : Eq4 ((cleN f2).1.1 ss) ((cleN f2).1.1 tt) := fun x hx => (hES x hx).trans (hET x hx).symm
          have hE2 : Eq4 ((cleN f2).1.1 tt) ((cleN f2).1.1 ss) := fun x hx => (hE x hx).symm
          refine top_i (x' := (nI (ct (fi.1.1 ss) 0 4096))) (hre) ?_
          refine lv_aload_n hx hb dL_copies_55 rfl (lv_at hl 0 rfl) ?_
          refine lv_iload_n hx hb dL_copies_56 rfl (lv_at hl 1 rfl) ?_
          refine vp_callSi (va_Run.run (va_runV (As := [.int (nI ss)]) (rest := [.int (nI (ct (fi.1.1 ss) 0 4096))]) ⟨hx, hb, hml, hown, hts⟩ (k_X3_size_o l D T o Sx f2 (nI ss) ) (cwV 1 hts gL_copies_X3_size rfl rfl rfl (by decide +kernel) ⟨Nat.le_of_ble_eq_true rfl, Nat.le_of_ble_eq_true rfl⟩) (pre_V (Φ := fun X => PO D T X o Sx f2) hK ((PO.recv hP).choose_spec) rfl hP) rfl rfl hl.1 rfl (lv_room (Nat.le_of_ble_eq_true rfl)) dL_copies_57 ⟨Nat.le_of_ble_eq_true rfl, Nat.le_of_ble_eq_true rfl⟩)) (fun r_3 hr_3 => ?_)
          subst hr_3
          refine top_i (x' := (nI (ct (fi.1.1 ss) 0 4096))) ((o_siz hs6).trans (congrArg nI (ct_cong (fun x _ hx => hES x (by omega))))) ?_
          refine lv_icmp_ne (tgt := 130) hx hb dL_copies_60 (by decide) (fun c_3 => ?_) (fun c_3 => ?_)
          · skip
            have c_3 : ¬ ((ct (fi.1.1 ss) 0 4096) = (ct (fi.1.1 ss) 0 4096)) := fun z => c_3 ((nI_eq (a := (ct (fi.1.1 ss) 0 4096)) (b := (ct (fi.1.1 ss) 0 4096)) (by omega) (by omega)).mpr z)
            first | exact absurd rfl c_3 | exact absurd (by omega) c_3 | exact absurd c_3 (by omega)
          · skip
            have c_3 : (ct (fi.1.1 ss) 0 4096) = (ct (fi.1.1 ss) 0 4096) := (nI_eq (a := (ct (fi.1.1 ss) 0 4096)) (b := (ct (fi.1.1 ss) 0 4096)) (by omega) (by omega)).mp c_3
            refine lv_aload_n hx hb dL_copies_63 rfl (lv_at hl 0 rfl) ?_
            refine va_calli (va_runV (As := []) (rest := []) ⟨hx, hb, hml, hown, hts⟩ (k_X3_clear_o l D T o Sx f2 ) (cwV 0 hts gL_copies_X3_clear rfl rfl rfl (by decide +kernel) ⟨Nat.le_of_ble_eq_true rfl, Nat.le_of_ble_eq_true rfl⟩) (pre_V (Φ := fun X => PO D T X o Sx f2) hK ((PO.recv hP).choose_spec) rfl hP) rfl rfl hl.1 rfl (lv_room (Nat.le_of_ble_eq_true rfl)) dL_copies_64 ⟨Nat.le_of_ble_eq_true rfl, Nat.le_of_ble_eq_true rfl⟩) hS (fun q _ h => h) (fun q h => h) (fun r_4 u_2 t H_2 locs ht hvm hw hB hz hk hS => ?_)
            rw [ht] at hB
            try dsimp only at hw
            try dsimp only at hB
            subst hw
            have hP := hB
            refine top_i (x' := (nI 0)) (congrArg nI hl3) ?_
            refine lv_if_ne (tgt := 130) hx hb dL_copies_67 (by decide) (fun c_4 => ?_) (fun c_4 => ?_)
            · skip
              exact absurd (by decide) c_4
            · skip
              refine lv_aload_n hx hb dL_copies_70 rfl (lv_at hl 0 rfl) ?_
              refine lv_iload_n hx hb dL_copies_71 rfl (lv_at hl 1 rfl) ?_
              refine lv_iload_n hx hb dL_copies_72 rfl (lv_at hl 2 rfl) ?_
              refine lv_iconst (v := (nI 1)) hx hb dL_copies_73 (by decide) ?_
              refine va_calli (va_runV (As := [.int (nI ss), .int (nI tt), .int (nI 1)]) (rest := []) ⟨hx, hb, hml, hown, hts⟩ (k_X3_compare_o l D T o Sx (cleN f2) (nI ss) (nI tt) (nI 1) ) (cwV 3 hts gL_copies_X3_compare rfl rfl rfl (by decide +kernel) ⟨Nat.le_of_ble_eq_true rfl, Nat.le_of_ble_eq_true rfl⟩) (pre_V (Φ := fun X => PO D T X o Sx (cleN f2)) hK ((PO.recv hP).choose_spec) rfl hP) rfl rfl hl.1 rfl (lv_room (Nat.le_of_ble_eq_true rfl)) dL_copies_74 ⟨Nat.le_of_ble_eq_true rfl, Nat.le_of_ble_eq_true rfl⟩) hS (fun q _ h => h) (fun q h => h) (fun r_5 u_3 t H_3 locs ht hvm hw hB hz hk hS => ?_)
              rw [ht] at hB
              try dsimp only at hw
              try dsimp only at hB
              subst hw
              have hP := hB
              refine top_i (x' := (nI 0)) ((o_cmp1 hs6 ht6).trans (congrArg nI (jct2_same hE))) ?_
              refine lv_if_ne (tgt := 130) hx hb dL_copies_77 (by decide) (fun c_5 => ?_) (fun c_5 => ?_)
              · skip
                exact absurd (by decide) c_5
              · skip
                refine lv_aload_n hx hb dL_copies_80 rfl (lv_at hl 0 rfl) ?_
                refine lv_iload_n hx hb dL_copies_81 rfl (lv_at hl 1 rfl) ?_
                refine lv_iload_n hx hb dL_copies_82 rfl (lv_at hl 2 rfl) ?_
                refine lv_iconst (v := (nI 3)) hx hb dL_copies_83 (by decide) ?_
                refine va_calli (va_runV (As := [.int (nI ss), .int (nI tt), .int (nI 3)]) (rest := []) ⟨hx, hb, hml, hown, hts⟩ (k_X3_compare_o l D T o Sx (cleN f2) (nI ss) (nI tt) (nI 3) ) (cwV 3 hts gL_copies_X3_compare rfl rfl rfl (by decide +kernel) ⟨Nat.le_of_ble_eq_true rfl, Nat.le_of_ble_eq_true rfl⟩) (pre_V (Φ := fun X => PO D T X o Sx (cleN f2)) hK ((PO.recv hP).choose_spec) rfl hP) rfl rfl hl.1 rfl (lv_room (Nat.le_of_ble_eq_true rfl)) dL_copies_84 ⟨Nat.le_of_ble_eq_true rfl, Nat.le_of_ble_eq_true rfl⟩) hS (fun q _ h => h) (fun q h => h) (fun r_6 u_4 t H_4 locs ht hvm hw hB hz hk hS => ?_)
                rw [ht] at hB
                try dsimp only at hw
                try dsimp only at hB
                subst hw
                have hP := hB
                refine top_i (x' := (nI 16)) ((o_cmp3 hs6 ht6).trans (congrArg nI (smP_same hE))) ?_
                refine lv_bipush (v := (nI 16)) hx hb dL_copies_87 (by decide) ?_
                refine lv_icmp_ne (tgt := 130) hx hb dL_copies_89 (by decide) (fun c_6 => ?_) (fun c_6 => ?_)
                · skip
                  exact absurd rfl c_6
                · skip
                  refine lv_aload_n hx hb dL_copies_92 rfl (lv_at hl 0 rfl) ?_
                  refine lv_iload_n hx hb dL_copies_93 rfl (lv_at hl 2 rfl) ?_
                  refine lv_iload_n hx hb dL_copies_94 rfl (lv_at hl 1 rfl) ?_
                  refine lv_iconst (v := (nI 0)) hx hb dL_copies_95 (by decide) ?_
                  refine va_calli (va_runV (As := [.int (nI tt), .int (nI ss), .int (nI 0)]) (rest := []) ⟨hx, hb, hml, hown, hts⟩ (k_X3_alike_o l D T o Sx (cleN f2) (nI tt) (nI ss) (nI 0) ) (cwV 3 hts gL_copies_X3_alike rfl rfl rfl (by decide +kernel) ⟨Nat.le_of_ble_eq_true rfl, Nat.le_of_ble_eq_true rfl⟩) (pre_V (Φ := fun X => PO D T X o Sx (cleN f2)) hK ((PO.recv hP).choose_spec) rfl hP) rfl rfl hl.1 rfl (lv_room (Nat.le_of_ble_eq_true rfl)) dL_copies_96 ⟨Nat.le_of_ble_eq_true rfl, Nat.le_of_ble_eq_true rfl⟩) hS (fun q _ h => h) (fun q h => h) (fun r_7 u_5 t H_5 locs ht hvm hw hB hz hk hS => ?_)
                  rw [ht] at hB
                  try dsimp only at hw
                  try dsimp only at hB
                  subst hw
                  have hP := hB
                  refine top_i (x' := (nI 1)) (o_alk ht6 hs6 _ hE2) ?_
                  refine lv_iconst (v := (nI 1)) hx hb dL_copies_99 (by decide) ?_
                  refine lv_icmp_ne (tgt := 130) hx hb dL_copies_100 (by decide) (fun c_7 => ?_) (fun c_7 => ?_)
                  · skip
                    exact absurd rfl c_7
                  · skip
                    refine lv_aload_n hx hb dL_copies_103 rfl (lv_at hl 0 rfl) ?_
                    refine lv_iload_n hx hb dL_copies_104 rfl (lv_at hl 1 rfl) ?_
                    refine lv_iload_n hx hb dL_copies_105 rfl (lv_at hl 2 rfl) ?_
                    refine lv_iconst (v := (nI 1)) hx hb dL_copies_106 (by decide) ?_
                    refine va_calli (va_runV (As := [.int (nI ss), .int (nI tt), .int (nI 1)]) (rest := []) ⟨hx, hb, hml, hown, hts⟩ (k_X3_alike_o l D T o Sx (cleN f2) (nI ss) (nI tt) (nI 1) ) (cwV 3 hts gL_copies_X3_alike rfl rfl rfl (by decide +kernel) ⟨Nat.le_of_ble_eq_true rfl, Nat.le_of_ble_eq_true rfl⟩) (pre_V (Φ := fun X => PO D T X o Sx (cleN f2)) hK ((PO.recv hP).choose_spec) rfl hP) rfl rfl hl.1 rfl (lv_room (Nat.le_of_ble_eq_true rfl)) dL_copies_107 ⟨Nat.le_of_ble_eq_true rfl, Nat.le_of_ble_eq_true rfl⟩) hS (fun q _ h => h) (fun q h => h) (fun r_8 u_6 t H_6 locs ht hvm hw hB hz hk hS => ?_)
                    rw [ht] at hB
                    try dsimp only at hw
                    try dsimp only at hB
                    subst hw
                    have hP := hB
                    refine top_i (x' := (nI 1)) (o_alk hs6 ht6 _ hE) ?_
                    refine lv_iconst (v := (nI 1)) hx hb dL_copies_110 (by decide) ?_
                    refine lv_icmp_ne (tgt := 130) hx hb dL_copies_111 (by decide) (fun c_8 => ?_) (fun c_8 => ?_)
                    · skip
                      exact absurd rfl c_8
                    · skip
                      refine lv_aload_n hx hb dL_copies_114 rfl (lv_at hl 0 rfl) ?_
                      refine lv_iload_n hx hb dL_copies_115 rfl (lv_at hl 2 rfl) ?_
                      refine lv_iload_n hx hb dL_copies_116 rfl (lv_at hl 1 rfl) ?_
                      refine lv_iconst (v := (nI 4)) hx hb dL_copies_117 (by decide) ?_
                      refine va_calli (va_runV (As := [.int (nI tt), .int (nI ss), .int (nI 4)]) (rest := []) ⟨hx, hb, hml, hown, hts⟩ (k_X3_compare_o l D T o Sx (cleN f2) (nI tt) (nI ss) (nI 4) ) (cwV 3 hts gL_copies_X3_compare rfl rfl rfl (by decide +kernel) ⟨Nat.le_of_ble_eq_true rfl, Nat.le_of_ble_eq_true rfl⟩) (pre_V (Φ := fun X => PO D T X o Sx (cleN f2)) hK ((PO.recv hP).choose_spec) rfl hP) rfl rfl hl.1 rfl (lv_room (Nat.le_of_ble_eq_true rfl)) dL_copies_118 ⟨Nat.le_of_ble_eq_true rfl, Nat.le_of_ble_eq_true rfl⟩) hS (fun q _ h => h) (fun q h => h) (fun r_9 u_7 t H_7 locs ht hvm hw hB hz hk hS => ?_)
                      rw [ht] at hB
                      try dsimp only at hw
                      try dsimp only at hB
                      subst hw
                      have hP := hB
                      refine top_i (x' := (-9)) ((o_cmp4 ht6 hs6).trans (nth_same hE2)) ?_
                      refine lv_bipush (v := (-9)) hx hb dL_copies_121 (by decide) ?_
                      refine lv_icmp_ne (tgt := 130) hx hb dL_copies_123 (by decide) (fun c_9 => ?_) (fun c_9 => ?_)
                      · skip
                        exact absurd rfl c_9
                      · skip
                        refine lv_iconst (v := (nI 1)) hx hb dL_copies_126 (by decide) ?_
                        refine lv_goto (tgt := 131) hx hb dL_copies_127 (by decide) ?_
                        subst hQ
                        exact W.zret (v := (nI 1)) hx hb hr nb1 (fun t ht hW => ⟨⟨(nI 1), (cleN f2), rfl, ⟨rfl, rfl⟩, by have h9 := hP; rw [← ht] at h9; exact h9⟩, hS.F ht⟩) hS.2.2 dL_copies_131
        · skip
          have c_2 : ¬ ((fb_sm (pcst (fi.1.1 ss)) 16) ≤ k) := fun z => c_2 ((nI_leI (a := (fb_sm (pcst (fi.1.1 ss)) 16)) (b := k) (by omega) (by omega)).mpr z)
          obtain ⟨v9, hv9, hb9⟩ := bfF_in (b := (fi.1.1 ss)) (j := k) (by omega)
          have hps := put_step (p := fi) (n := 0) (b := (fi.1.1 ss)) hv9 hb9 (by omega) h1 hl2 hrr
          refine lv_aload_n hx hb dL_copies_24 rfl (lv_at hl 0 rfl) ?_
          refine lv_aload_n hx hb dL_copies_25 rfl (lv_at hl 0 rfl) ?_
          refine lv_iload_n hx hb dL_copies_26 rfl (lv_at hl 1 rfl) ?_
          refine lv_iload hx hb dL_copies_27 (lv_at hl 4 rfl) ?_
          refine vp_callSi (va_Run.run (va_runV (As := [.int (nI ss), .int (nI k)]) (rest := [.ref o]) ⟨hx, hb, hml, hown, hts⟩ (k_X3_byteAt_o l D T o Sx fk (nI ss) (nI k) ) (cwV 2 hts gL_copies_X3_byteAt rfl rfl rfl (by decide +kernel) ⟨Nat.le_of_ble_eq_true rfl, Nat.le_of_ble_eq_true rfl⟩) (pre_V (Φ := fun X => PO D T X o Sx fk) hK ((PO.recv hP).choose_spec) rfl hP) rfl rfl hl.1 rfl (lv_room (Nat.le_of_ble_eq_true rfl)) dL_copies_29 ⟨Nat.le_of_ble_eq_true rfl, Nat.le_of_ble_eq_true rfl⟩)) (fun r_2 hr_2 => ?_)
          subst hr_2
          refine top_i (x' := (nI v9)) ((o_bya hs6 (by omega)).trans ((congrArg (fun a : AS => bfF (a.1 ss) 16 0 k) h1).trans hb9)) ?_
          refine va_calli (va_runV (As := [.int (nI v9)]) (rest := []) ⟨hx, hb, hml, hown, hts⟩ (k_X3_put_o l D T o Sx fk (nI v9) ) (cwV 1 hts gL_copies_X3_put rfl rfl rfl (by decide +kernel) ⟨Nat.le_of_ble_eq_true rfl, Nat.le_of_ble_eq_true rfl⟩) (pre_V (Φ := fun X => PO D T X o Sx fk) hK ((PO.recv hP).choose_spec) rfl hP) rfl rfl hl.1 rfl (lv_room (Nat.le_of_ble_eq_true rfl)) dL_copies_32 ⟨Nat.le_of_ble_eq_true rfl, Nat.le_of_ble_eq_true rfl⟩) hS (fun q _ h => h) (fun q h => h) (fun r_3 u_1 t H_1 locs ht hvm hw hB hz hk hS => ?_)
          rw [ht] at hB
          try dsimp only at hw
          try dsimp only at hB
          subst hw
          have hP := hB
          refine top_i (x' := (nI (k + 1))) (o_put hv9 hl2 (by omega)) ?_
          refine lv_iload hx hb dL_copies_35 (lv_at hl 4 rfl) ?_
          refine lv_iconst (v := (nI 1)) hx hb dL_copies_37 (by decide) ?_
          refine lv_iadd hx hb dL_copies_38 ?_
          refine top_i (nI_add k 1) ?_
          refine lv_icmp_eq (tgt := 44) hx hb dL_copies_39 (by decide) (fun c_3 => ?_) (fun c_3 => ?_)
          · skip
            have c_3 : (k + 1) = (k + 1) := (nI_eq (a := (k + 1)) (b := (k + 1)) (by omega) (by omega)).mp c_3
            refine lv_iinc (v := (nI (k + 1))) (lv' := [(4, .int (nI (k + 1))), (0, .ref o), (1, .int (nI ss)), (2, .int (nI tt)), (3, .int (nI (fb_sm (pcst (fi.1.1 ss)) 16)))]) hx hb dL_copies_44 hl (k := 4) rfl (iinc_n k 1) (by decide) rfl (fun ls hl => ?_)
            refine lv_goto (tgt := 18) hx hb dL_copies_47 (by decide) ?_
            have hl := lv_sub hl (l' := [(0, .ref o), (1, .int (nI ss)), (2, .int (nI tt)), (3, .int (nI (fb_sm (pcst (fi.1.1 ss)) 16))), (4, .int (nI (k + 1)))]) [1, 2, 3, 4, 0] rfl
            exact ih18 (k + 1) (putN fk (nI v9)) (by omega) (hps.1) (hps.2.1) (hps.2.2) H_1 _ hP hS ls hl (by omega)
          · skip
            have c_3 : ¬ ((k + 1) = (k + 1)) := fun z => c_3 ((nI_eq (a := (k + 1)) (b := (k + 1)) (by omega) (by omega)).mpr z)
            first | exact absurd rfl c_3 | exact absurd (by omega) c_3 | exact absurd c_3 (by omega)
    have hl := lv_sub hl (l' := [(0, .ref o), (1, .int (nI ss)), (2, .int (nI tt)), (3, .int (nI (fb_sm (pcst (fi.1.1 ss)) 16))), (4, .int (nI 0))]) [2, 3, 4, 1, 0] rfl
    exact loop18 (fb_sm (pcst (fi.1.1 ss)) 16 - 0 + 1) 0 fi (Nat.zero_le _) (rfl) (hbl) (fun j h => absurd h (Nat.not_lt_zero _)) s.heap _ hP hS ls hl (Nat.lt_succ_self _)
  · skip
    have c_1 : ¬ ((fb_sm (pcst (fi.1.1 ss)) 16) ≤ 200) := fun z => c_1 ((nI_leI (a := (fb_sm (pcst (fi.1.1 ss)) 16)) (b := 200) (by omega) (by omega)).mpr z)
    refine lv_iconst (v := (nI 1)) hx hb dL_copies_13 (by decide) ?_
    subst hQ
    exact W.zret (v := (nI 1)) hx hb hr nb1 (fun t ht hW => ⟨⟨(nI 1), fi, rfl, ⟨rfl, hbl⟩, by have h9 := hP; rw [← ht] at h9; exact h9⟩, hS.F ht⟩) hS.2.2 dL_copies_14
