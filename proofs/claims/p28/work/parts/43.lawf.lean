set_option maxHeartbeats 4000000 in
set_option maxRecDepth 100000 in
theorem k_L_up (l : Launch) (D : va_G) (T : Nat → ClassId) (x : Int32) (mo : Nat) (h0 : 0 < mo) (h1 : mo < 2 ^ 31) : Met l yL_up wsL_up ({ frames := 0, cells := 0, slots := 0, locals := 0 }) (va_Pc [.int x, .int (nI mo)] (fun U => KS D T U ∧ True)) (vp_Si (fun r => ∃ n9 : Nat, n9 < mo ∧ r = nI n9)) 0 0 (fun _ => False) := by
  refine Met.ofW (cc := cL_up) (maxL := 2) (ret := (some .int)) (by decide) rfl ?_
  intro pg ev s m args below meth c s₁ B hml hv
  obtain ⟨rfl, hK, hH⟩ := hv
  have hx := B.exec
  have hb := B.bytes
  have hr := B.returns
  have hts := atoms_spec (ws := wsL_up) B.pre
  have hown : s.vm.findClass RL = some m.cls := findClass_of_methodNamed B.named
  have hlocks := B.notSynchronized
  have hl := lv_entry ([.int x, .int (nI mo)]) (n := 2) (Nat.le_of_ble_eq_true rfl)
  rw [lg_entry_eq]
  generalize (lg_sl ([.int x, .int (nI mo)]) ++ List.replicate (2 - (lg_sl ([.int x, .int (nI mo)])).length) Slot.unset).toArray = ls at hl ⊢
  have hl : lv_has ls 2 [(0, .int x), (1, .int (nI mo))] := hl
  refine W_gen (fun Q hQ => ?_)
  refine lv_iload_n hx hb dL_up_0 rfl (lv_at hl 0 rfl) ?_
  refine lv_ldc hx hb hown (hts (.constant RL 8 (2147483647)) (by decide +kernel)) dL_up_1 ?_
  refine lv_iand hx hb dL_up_3 ?_
  refine lv_iload_n hx hb dL_up_4 rfl (lv_at hl 1 rfl) ?_
  refine lv_irem hx hb dL_up_5 (fun z => absurd ((nI_e0 (by omega)).mp z) (by omega)) ?_
  refine top_i (x' := (remI (x &&& 2147483647) (nI mo))) rfl ?_
  subst hQ
  refine W.iret (v := (remI (x &&& 2147483647) (nI mo))) hx hb hr (fun t ht hW => ⟨(remI (x &&& 2147483647) (nI mo)), rfl, ?_, ht⟩) (fun q h => absurd h List.not_mem_nil) dL_up_6
  exact up_ok x h0 h1
set_option maxHeartbeats 4000000 in
set_option maxRecDepth 100000 in
theorem k_L_fails (l : Launch) (D : va_G) (T : Nat → ClassId) (o : Nat) (Sx : Nat → Prop) (fi : FS) : Met l yL_fails wsL_fails ({ frames := 7, cells := 0, slots := 0, locals := 189 }) (va_Pc [.ref o] (fun U => KS D T U ∧ PO D T U.heap o Sx fi)) (va_Qi (fun (r : Int32) (u : Unit) => r = (nI 1)) (fun u t => PO D T t.heap o Sx fi) (Sx)) 0 0 (Sx) := by
  refine Met.ofW (cc := cL_fails) (maxL := 4) (ret := (some .boolean)) (by decide) rfl ?_
  intro pg ev s m args below meth c s₁ B hml hv
  obtain ⟨rfl, hK, hH⟩ := hv
  have hx := B.exec
  have hb := B.bytes
  have hr := B.returns
  have hts := atoms_spec (ws := wsL_fails) B.pre
  have hown : s.vm.findClass RL = some m.cls := findClass_of_methodNamed B.named
  have hlocks := B.notSynchronized
  have in_wsX30 : ∀ w ∈ wsX30, w ∈ wsL_fails := fun w h => List.mem_cons_of_mem _ (List.mem_append_left _ (List.mem_append_left _ (List.mem_append_left _ (List.mem_append_right _ h))))
  have in_wsX20 : ∀ w ∈ wsX20, w ∈ wsL_fails := fun w h => List.mem_cons_of_mem _ (List.mem_append_left _ (List.mem_append_left _ (List.mem_append_right _ h)))
  have in_wsX10 : ∀ w ∈ wsX10, w ∈ wsL_fails := fun w h => List.mem_cons_of_mem _ (List.mem_append_left _ (List.mem_append_right _ h))
  have in_wsX00 : ∀ w ∈ wsX00, w ∈ wsL_fails := fun w h => List.mem_cons_of_mem _ (List.mem_append_right _ h)
  have hS : va_S (Sx) s.heap s.heap [] := va_S.rf
  have hl := lv_entry ([.ref o]) (n := 4) (Nat.le_of_ble_eq_true rfl)
  rw [lg_entry_eq]
  generalize (lg_sl ([.ref o]) ++ List.replicate (4 - (lg_sl ([.ref o])).length) Slot.unset).toArray = ls at hl ⊢
  have hl : lv_has ls 4 [(0, .ref o)] := hl
  refine W_gen (fun Q hQ => ?_)
  have hP := hH
  refine lv_aload_n hx hb dL_fails_0 rfl (lv_at hl 0 rfl) ?_
  refine vp_callSl (va_Run.run (va_runV (As := []) (rest := []) ⟨hx, hb, hml, hown, hts⟩ (k_X3_fingerprint_o l D T o Sx fi ) (cwV 0 hts gL_fails_X3_fingerprint rfl rfl rfl (by decide +kernel) ⟨Nat.le_of_ble_eq_true rfl, Nat.le_of_ble_eq_true rfl⟩) (pre_V (Φ := fun X => PO D T X o Sx fi) hK ((PO.recv hP).choose_spec) rfl hP) rfl rfl hl.1 rfl (lv_room (Nat.le_of_ble_eq_true rfl)) dL_fails_1 ⟨Nat.le_of_ble_eq_true rfl, Nat.le_of_ble_eq_true rfl⟩)) (fun r_1 hr_1 => ?_)
  subst hr_1
  refine lv_lstore_n (lv' := [(1, .long (finR fi)), (0, .ref o)]) hx hb dL_fails_4 rfl hl (by decide) rfl (fun ls hl => ?_)
  refine lv_aload_n hx hb dL_fails_5 rfl (lv_at hl 1 rfl) ?_
  refine lv_bipush (v := (nI 6)) hx hb dL_fails_6 (by decide) ?_
  refine lv_iconst (v := (nI 0)) hx hb dL_fails_8 (by decide) ?_
  refine lv_iconst (v := (nI 0)) hx hb dL_fails_9 (by decide) ?_
  refine va_calli (va_runV (As := [.int (nI 6), .int (nI 0), .int (nI 0)]) (rest := []) ⟨hx, hb, hml, hown, hts⟩ (k_X3_add_o l D T o Sx fi (nI 6) (nI 0) (nI 0) ) (cwV 3 hts gL_fails_X3_add rfl rfl rfl (by decide +kernel) ⟨Nat.le_of_ble_eq_true rfl, Nat.le_of_ble_eq_true rfl⟩) (pre_V (Φ := fun X => PO D T X o Sx fi) hK ((PO.recv hP).choose_spec) rfl hP) rfl rfl hl.1 rfl (lv_room (Nat.le_of_ble_eq_true rfl)) dL_fails_10 ⟨Nat.le_of_ble_eq_true rfl, Nat.le_of_ble_eq_true rfl⟩) hS (fun q _ h => h) (fun q h => h) (fun r_2 u_1 t H_1 locs ht hvm hw hB hz hk hS => ?_)
  rw [ht] at hB
  try dsimp only at hw
  try dsimp only at hB
  subst hw
  have hP := hB
  rw [show addN fi (nI 6) (nI 0) (nI 0) = fi from if_neg (by decide +kernel)] at hP
  refine top_i (x' := (-1)) (if_neg (by decide +kernel)) ?_
  refine lv_iconst (v := (-1)) hx hb dL_fails_13 (by decide) ?_
  refine lv_icmp_ne (tgt := 179) hx hb dL_fails_14 (by decide) (fun c_1 => ?_) (fun c_1 => ?_)
  · skip
    exact absurd rfl c_1
  · skip
    refine lv_aload_n hx hb dL_fails_17 rfl (lv_at hl 1 rfl) ?_
    refine lv_iconst (v := (nI 0)) hx hb dL_fails_18 (by decide) ?_
    refine lv_iconst (v := (-1)) hx hb dL_fails_19 (by decide) ?_
    refine lv_iconst (v := (nI 0)) hx hb dL_fails_20 (by decide) ?_
    refine va_calli (va_runV (As := [.int (nI 0), .int (-1), .int (nI 0)]) (rest := []) ⟨hx, hb, hml, hown, hts⟩ (k_X3_add_o l D T o Sx fi (nI 0) (-1) (nI 0) ) (cwV 3 hts gL_fails_X3_add rfl rfl rfl (by decide +kernel) ⟨Nat.le_of_ble_eq_true rfl, Nat.le_of_ble_eq_true rfl⟩) (pre_V (Φ := fun X => PO D T X o Sx fi) hK ((PO.recv hP).choose_spec) rfl hP) rfl rfl hl.1 rfl (lv_room (Nat.le_of_ble_eq_true rfl)) dL_fails_21 ⟨Nat.le_of_ble_eq_true rfl, Nat.le_of_ble_eq_true rfl⟩) hS (fun q _ h => h) (fun q h => h) (fun r_3 u_2 t H_2 locs ht hvm hw hB hz hk hS => ?_)
    rw [ht] at hB
    try dsimp only at hw
    try dsimp only at hB
    subst hw
    have hP := hB
    rw [show addN fi (nI 0) (-1) (nI 0) = fi from if_neg (by decide +kernel)] at hP
    refine top_i (x' := (-1)) (if_neg (by decide +kernel)) ?_
    refine lv_iconst (v := (-1)) hx hb dL_fails_24 (by decide) ?_
    refine lv_icmp_ne (tgt := 179) hx hb dL_fails_25 (by decide) (fun c_2 => ?_) (fun c_2 => ?_)
    · skip
      exact absurd rfl c_2
    · skip
      refine lv_aload_n hx hb dL_fails_28 rfl (lv_at hl 1 rfl) ?_
      refine lv_iconst (v := (nI 0)) hx hb dL_fails_29 (by decide) ?_
      refine lv_iconst (v := (nI 5)) hx hb dL_fails_30 (by decide) ?_
      refine lv_iconst (v := (nI 4)) hx hb dL_fails_31 (by decide) ?_
      refine va_calli (va_runV (As := [.int (nI 0), .int (nI 5), .int (nI 4)]) (rest := []) ⟨hx, hb, hml, hown, hts⟩ (k_X3_add_o l D T o Sx fi (nI 0) (nI 5) (nI 4) ) (cwV 3 hts gL_fails_X3_add rfl rfl rfl (by decide +kernel) ⟨Nat.le_of_ble_eq_true rfl, Nat.le_of_ble_eq_true rfl⟩) (pre_V (Φ := fun X => PO D T X o Sx fi) hK ((PO.recv hP).choose_spec) rfl hP) rfl rfl hl.1 rfl (lv_room (Nat.le_of_ble_eq_true rfl)) dL_fails_32 ⟨Nat.le_of_ble_eq_true rfl, Nat.le_of_ble_eq_true rfl⟩) hS (fun q _ h => h) (fun q h => h) (fun r_4 u_3 t H_3 locs ht hvm hw hB hz hk hS => ?_)
      rw [ht] at hB
      try dsimp only at hw
      try dsimp only at hB
      subst hw
      have hP := hB
      rw [show addN fi (nI 0) (nI 5) (nI 4) = fi from if_neg (by decide +kernel)] at hP
      refine top_i (x' := (-1)) (if_neg (by decide +kernel)) ?_
      refine lv_iconst (v := (-1)) hx hb dL_fails_35 (by decide) ?_
      refine lv_icmp_ne (tgt := 179) hx hb dL_fails_36 (by decide) (fun c_3 => ?_) (fun c_3 => ?_)
      · skip
        exact absurd rfl c_3
      · skip
        refine lv_aload_n hx hb dL_fails_39 rfl (lv_at hl 1 rfl) ?_
        refine lv_iconst (v := (nI 0)) hx hb dL_fails_40 (by decide) ?_
        refine lv_iconst (v := (nI 0)) hx hb dL_fails_41 (by decide) ?_
        refine lv_sipush (v := (nI 4096)) hx hb dL_fails_42 (by decide) ?_
        refine va_calli (va_runV (As := [.int (nI 0), .int (nI 0), .int (nI 4096)]) (rest := []) ⟨hx, hb, hml, hown, hts⟩ (k_X3_add_o l D T o Sx fi (nI 0) (nI 0) (nI 4096) ) (cwV 3 hts gL_fails_X3_add rfl rfl rfl (by decide +kernel) ⟨Nat.le_of_ble_eq_true rfl, Nat.le_of_ble_eq_true rfl⟩) (pre_V (Φ := fun X => PO D T X o Sx fi) hK ((PO.recv hP).choose_spec) rfl hP) rfl rfl hl.1 rfl (lv_room (Nat.le_of_ble_eq_true rfl)) dL_fails_45 ⟨Nat.le_of_ble_eq_true rfl, Nat.le_of_ble_eq_true rfl⟩) hS (fun q _ h => h) (fun q h => h) (fun r_5 u_4 t H_4 locs ht hvm hw hB hz hk hS => ?_)
        rw [ht] at hB
        try dsimp only at hw
        try dsimp only at hB
        subst hw
        have hP := hB
        rw [show addN fi (nI 0) (nI 0) (nI 4096) = fi from if_neg (by decide +kernel)] at hP
        refine top_i (x' := (-1)) (if_neg (by decide +kernel)) ?_
        refine lv_iconst (v := (-1)) hx hb dL_fails_48 (by decide) ?_
        refine lv_icmp_ne (tgt := 179) hx hb dL_fails_49 (by decide) (fun c_4 => ?_) (fun c_4 => ?_)
        · skip
          exact absurd rfl c_4
        · skip
          refine lv_aload_n hx hb dL_fails_52 rfl (lv_at hl 1 rfl) ?_
          refine lv_iconst (v := (-1)) hx hb dL_fails_53 (by decide) ?_
          refine lv_iconst (v := (nI 0)) hx hb dL_fails_54 (by decide) ?_
          refine lv_iconst (v := (nI 0)) hx hb dL_fails_55 (by decide) ?_
          refine va_calli (va_runV (As := [.int (-1), .int (nI 0), .int (nI 0)]) (rest := []) ⟨hx, hb, hml, hown, hts⟩ (k_X3_remove_o l D T o Sx fi (-1) (nI 0) (nI 0) ) (cwV 3 hts gL_fails_X3_remove rfl rfl rfl (by decide +kernel) ⟨Nat.le_of_ble_eq_true rfl, Nat.le_of_ble_eq_true rfl⟩) (pre_V (Φ := fun X => PO D T X o Sx fi) hK ((PO.recv hP).choose_spec) rfl hP) rfl rfl hl.1 rfl (lv_room (Nat.le_of_ble_eq_true rfl)) dL_fails_56 ⟨Nat.le_of_ble_eq_true rfl, Nat.le_of_ble_eq_true rfl⟩) hS (fun q _ h => h) (fun q h => h) (fun r_6 u_5 t H_5 locs ht hvm hw hB hz hk hS => ?_)
          rw [ht] at hB
          try dsimp only at hw
          try dsimp only at hB
          subst hw
          have hP := hB
          rw [show remN fi (-1) (nI 0) (nI 0) = fi from if_neg (by decide +kernel)] at hP
          refine top_i (x' := (-1)) (if_neg (by decide +kernel)) ?_
          refine lv_iconst (v := (-1)) hx hb dL_fails_59 (by decide) ?_
          refine lv_icmp_ne (tgt := 179) hx hb dL_fails_60 (by decide) (fun c_5 => ?_) (fun c_5 => ?_)
          · skip
            exact absurd rfl c_5
          · skip
            refine lv_aload_n hx hb dL_fails_63 rfl (lv_at hl 1 rfl) ?_
            refine lv_iconst (v := (nI 0)) hx hb dL_fails_64 (by decide) ?_
            refine lv_bipush (v := (nI 7)) hx hb dL_fails_65 (by decide) ?_
            refine lv_bipush (v := (nI 6)) hx hb dL_fails_67 (by decide) ?_
            refine va_calli (va_runV (As := [.int (nI 0), .int (nI 7), .int (nI 6)]) (rest := []) ⟨hx, hb, hml, hown, hts⟩ (k_X3_remove_o l D T o Sx fi (nI 0) (nI 7) (nI 6) ) (cwV 3 hts gL_fails_X3_remove rfl rfl rfl (by decide +kernel) ⟨Nat.le_of_ble_eq_true rfl, Nat.le_of_ble_eq_true rfl⟩) (pre_V (Φ := fun X => PO D T X o Sx fi) hK ((PO.recv hP).choose_spec) rfl hP) rfl rfl hl.1 rfl (lv_room (Nat.le_of_ble_eq_true rfl)) dL_fails_69 ⟨Nat.le_of_ble_eq_true rfl, Nat.le_of_ble_eq_true rfl⟩) hS (fun q _ h => h) (fun q h => h) (fun r_7 u_6 t H_6 locs ht hvm hw hB hz hk hS => ?_)
            rw [ht] at hB
            try dsimp only at hw
            try dsimp only at hB
            subst hw
            have hP := hB
            rw [show remN fi (nI 0) (nI 7) (nI 6) = fi from if_neg (by decide +kernel)] at hP
            refine top_i (x' := (-1)) (if_neg (by decide +kernel)) ?_
            refine lv_iconst (v := (-1)) hx hb dL_fails_72 (by decide) ?_
            refine lv_icmp_ne (tgt := 179) hx hb dL_fails_73 (by decide) (fun c_6 => ?_) (fun c_6 => ?_)
            · skip
              exact absurd rfl c_6
            · skip
              refine lv_aload_n hx hb dL_fails_76 rfl (lv_at hl 1 rfl) ?_
              refine lv_iconst (v := (nI 0)) hx hb dL_fails_77 (by decide) ?_
              refine lv_sipush (v := (nI 4096)) hx hb dL_fails_78 (by decide) ?_
              refine lv_sipush (v := (nI 4096)) hx hb dL_fails_81 (by decide) ?_
              refine va_calli (va_runV (As := [.int (nI 0), .int (nI 4096), .int (nI 4096)]) (rest := []) ⟨hx, hb, hml, hown, hts⟩ (k_X3_flip_o l D T o Sx fi (nI 0) (nI 4096) (nI 4096) ) (cwV 3 hts gL_fails_X3_flip rfl rfl rfl (by decide +kernel) ⟨Nat.le_of_ble_eq_true rfl, Nat.le_of_ble_eq_true rfl⟩) (pre_V (Φ := fun X => PO D T X o Sx fi) hK ((PO.recv hP).choose_spec) rfl hP) rfl rfl hl.1 rfl (lv_room (Nat.le_of_ble_eq_true rfl)) dL_fails_84 ⟨Nat.le_of_ble_eq_true rfl, Nat.le_of_ble_eq_true rfl⟩) hS (fun q _ h => h) (fun q h => h) (fun r_8 u_7 t H_7 locs ht hvm hw hB hz hk hS => ?_)
              rw [ht] at hB
              try dsimp only at hw
              try dsimp only at hB
              subst hw
              have hP := hB
              rw [show flpN fi (nI 0) (nI 4096) (nI 4096) = fi from if_neg (by decide +kernel)] at hP
              refine top_i (x' := (-1)) (if_neg (by decide +kernel)) ?_
              refine lv_iconst (v := (-1)) hx hb dL_fails_87 (by decide) ?_
              refine lv_icmp_ne (tgt := 179) hx hb dL_fails_88 (by decide) (fun c_7 => ?_) (fun c_7 => ?_)
              · skip
                exact absurd rfl c_7
              · skip
                refine lv_aload_n hx hb dL_fails_91 rfl (lv_at hl 1 rfl) ?_
                refine lv_iconst (v := (nI 0)) hx hb dL_fails_92 (by decide) ?_
                refine lv_iconst (v := (nI 1)) hx hb dL_fails_93 (by decide) ?_
                refine lv_iconst (v := (nI 0)) hx hb dL_fails_94 (by decide) ?_
                refine va_calli (va_runV (As := [.int (nI 0), .int (nI 1), .int (nI 0)]) (rest := []) ⟨hx, hb, hml, hown, hts⟩ (k_X3_scatter_o l D T o Sx fi (nI 0) (nI 1) (nI 0) ) (cwV 3 hts gL_fails_X3_scatter rfl rfl rfl (by decide +kernel) ⟨Nat.le_of_ble_eq_true rfl, Nat.le_of_ble_eq_true rfl⟩) (pre_V (Φ := fun X => PO D T X o Sx fi) hK ((PO.recv hP).choose_spec) rfl hP) rfl rfl hl.1 rfl (lv_room (Nat.le_of_ble_eq_true rfl)) dL_fails_95 ⟨Nat.le_of_ble_eq_true rfl, Nat.le_of_ble_eq_true rfl⟩) hS (fun q _ h => h) (fun q h => h) (fun r_9 u_8 t H_8 locs ht hvm hw hB hz hk hS => ?_)
                rw [ht] at hB
                try dsimp only at hw
                try dsimp only at hB
                subst hw
                have hP := hB
                rw [show scaN fi (nI 0) (nI 1) (nI 0) = fi from if_neg (by decide +kernel)] at hP
                refine top_i (x' := (-1)) (if_neg (by decide +kernel)) ?_
                refine lv_iconst (v := (-1)) hx hb dL_fails_98 (by decide) ?_
                refine lv_icmp_ne (tgt := 179) hx hb dL_fails_99 (by decide) (fun c_8 => ?_) (fun c_8 => ?_)
                · skip
                  exact absurd rfl c_8
                · skip
                  refine lv_aload_n hx hb dL_fails_102 rfl (lv_at hl 1 rfl) ?_
                  refine lv_iconst (v := (nI 0)) hx hb dL_fails_103 (by decide) ?_
                  refine lv_iconst (v := (nI 1)) hx hb dL_fails_104 (by decide) ?_
                  refine lv_sipush (v := (nI 301)) hx hb dL_fails_105 (by decide) ?_
                  refine va_calli (va_runV (As := [.int (nI 0), .int (nI 1), .int (nI 301)]) (rest := []) ⟨hx, hb, hml, hown, hts⟩ (k_X3_scatter_o l D T o Sx fi (nI 0) (nI 1) (nI 301) ) (cwV 3 hts gL_fails_X3_scatter rfl rfl rfl (by decide +kernel) ⟨Nat.le_of_ble_eq_true rfl, Nat.le_of_ble_eq_true rfl⟩) (pre_V (Φ := fun X => PO D T X o Sx fi) hK ((PO.recv hP).choose_spec) rfl hP) rfl rfl hl.1 rfl (lv_room (Nat.le_of_ble_eq_true rfl)) dL_fails_108 ⟨Nat.le_of_ble_eq_true rfl, Nat.le_of_ble_eq_true rfl⟩) hS (fun q _ h => h) (fun q h => h) (fun r_10 u_9 t H_9 locs ht hvm hw hB hz hk hS => ?_)
                  rw [ht] at hB
                  try dsimp only at hw
                  try dsimp only at hB
                  subst hw
                  have hP := hB
                  rw [show scaN fi (nI 0) (nI 1) (nI 301) = fi from if_neg (by decide +kernel)] at hP
                  refine top_i (x' := (-1)) (if_neg (by decide +kernel)) ?_
                  refine lv_iconst (v := (-1)) hx hb dL_fails_111 (by decide) ?_
                  refine lv_icmp_ne (tgt := 179) hx hb dL_fails_112 (by decide) (fun c_9 => ?_) (fun c_9 => ?_)
                  · skip
                    exact absurd rfl c_9
                  · skip
                    refine lv_aload_n hx hb dL_fails_115 rfl (lv_at hl 1 rfl) ?_
                    refine lv_iconst (v := (nI 4)) hx hb dL_fails_116 (by decide) ?_
                    refine lv_iconst (v := (nI 0)) hx hb dL_fails_117 (by decide) ?_
                    refine lv_iconst (v := (nI 0)) hx hb dL_fails_118 (by decide) ?_
                    refine lv_iconst (v := (nI 0)) hx hb dL_fails_119 (by decide) ?_
                    refine va_calli (va_runV (As := [.int (nI 4), .int (nI 0), .int (nI 0), .int (nI 0)]) (rest := []) ⟨hx, hb, hml, hown, hts⟩ (k_X3_combine_o l D T o Sx fi (nI 4) (nI 0) (nI 0) (nI 0) ) (cwV 4 hts gL_fails_X3_combine rfl rfl rfl (by decide +kernel) ⟨Nat.le_of_ble_eq_true rfl, Nat.le_of_ble_eq_true rfl⟩) (pre_V (Φ := fun X => PO D T X o Sx fi) hK ((PO.recv hP).choose_spec) rfl hP) rfl rfl hl.1 rfl (lv_room (Nat.le_of_ble_eq_true rfl)) dL_fails_120 ⟨Nat.le_of_ble_eq_true rfl, Nat.le_of_ble_eq_true rfl⟩) hS (fun q _ h => h) (fun q h => h) (fun r_11 u_10 t H_10 locs ht hvm hw hB hz hk hS => ?_)
                    rw [ht] at hB
                    try dsimp only at hw
                    try dsimp only at hB
                    subst hw
                    have hP := hB
                    rw [show comN fi (nI 4) (nI 0) (nI 0) (nI 0) = fi from if_neg (by decide +kernel)] at hP
                    refine top_i (x' := (-1)) (if_neg (by decide +kernel)) ?_
                    refine lv_iconst (v := (-1)) hx hb dL_fails_123 (by decide) ?_
                    refine lv_icmp_ne (tgt := 179) hx hb dL_fails_124 (by decide) (fun c_10 => ?_) (fun c_10 => ?_)
                    · skip
                      exact absurd rfl c_10
                    · skip
                      refine lv_aload_n hx hb dL_fails_127 rfl (lv_at hl 1 rfl) ?_
                      refine lv_iconst (v := (nI 0)) hx hb dL_fails_128 (by decide) ?_
                      refine lv_bipush (v := (nI 6)) hx hb dL_fails_129 (by decide) ?_
                      refine lv_iconst (v := (nI 0)) hx hb dL_fails_131 (by decide) ?_
                      refine lv_iconst (v := (nI 0)) hx hb dL_fails_132 (by decide) ?_
                      refine va_calli (va_runV (As := [.int (nI 0), .int (nI 6), .int (nI 0), .int (nI 0)]) (rest := []) ⟨hx, hb, hml, hown, hts⟩ (k_X3_combine_o l D T o Sx fi (nI 0) (nI 6) (nI 0) (nI 0) ) (cwV 4 hts gL_fails_X3_combine rfl rfl rfl (by decide +kernel) ⟨Nat.le_of_ble_eq_true rfl, Nat.le_of_ble_eq_true rfl⟩) (pre_V (Φ := fun X => PO D T X o Sx fi) hK ((PO.recv hP).choose_spec) rfl hP) rfl rfl hl.1 rfl (lv_room (Nat.le_of_ble_eq_true rfl)) dL_fails_133 ⟨Nat.le_of_ble_eq_true rfl, Nat.le_of_ble_eq_true rfl⟩) hS (fun q _ h => h) (fun q h => h) (fun r_12 u_11 t H_11 locs ht hvm hw hB hz hk hS => ?_)
                      rw [ht] at hB
                      try dsimp only at hw
                      try dsimp only at hB
                      subst hw
                      have hP := hB
                      rw [show comN fi (nI 0) (nI 6) (nI 0) (nI 0) = fi from if_neg (by decide +kernel)] at hP
                      refine top_i (x' := (-1)) (if_neg (by decide +kernel)) ?_
                      refine lv_iconst (v := (-1)) hx hb dL_fails_136 (by decide) ?_
                      refine lv_icmp_ne (tgt := 179) hx hb dL_fails_137 (by decide) (fun c_11 => ?_) (fun c_11 => ?_)
                      · skip
                        exact absurd rfl c_11
                      · skip
                        refine lv_aload_n hx hb dL_fails_140 rfl (lv_at hl 1 rfl) ?_
                        refine lv_iconst (v := (nI 0)) hx hb dL_fails_141 (by decide) ?_
                        refine lv_iconst (v := (nI 0)) hx hb dL_fails_142 (by decide) ?_
                        refine lv_iconst (v := (nI 0)) hx hb dL_fails_143 (by decide) ?_
                        refine lv_iconst (v := (-1)) hx hb dL_fails_144 (by decide) ?_
                        refine va_calli (va_runV (As := [.int (nI 0), .int (nI 0), .int (nI 0), .int (-1)]) (rest := []) ⟨hx, hb, hml, hown, hts⟩ (k_X3_combine_o l D T o Sx fi (nI 0) (nI 0) (nI 0) (-1) ) (cwV 4 hts gL_fails_X3_combine rfl rfl rfl (by decide +kernel) ⟨Nat.le_of_ble_eq_true rfl, Nat.le_of_ble_eq_true rfl⟩) (pre_V (Φ := fun X => PO D T X o Sx fi) hK ((PO.recv hP).choose_spec) rfl hP) rfl rfl hl.1 rfl (lv_room (Nat.le_of_ble_eq_true rfl)) dL_fails_145 ⟨Nat.le_of_ble_eq_true rfl, Nat.le_of_ble_eq_true rfl⟩) hS (fun q _ h => h) (fun q h => h) (fun r_13 u_12 t H_12 locs ht hvm hw hB hz hk hS => ?_)
                        rw [ht] at hB
                        try dsimp only at hw
                        try dsimp only at hB
                        subst hw
                        have hP := hB
                        rw [show comN fi (nI 0) (nI 0) (nI 0) (-1) = fi from if_neg (by decide +kernel)] at hP
                        refine top_i (x' := (-1)) (if_neg (by decide +kernel)) ?_
                        refine lv_iconst (v := (-1)) hx hb dL_fails_148 (by decide) ?_
                        refine lv_icmp_ne (tgt := 179) hx hb dL_fails_149 (by decide) (fun c_12 => ?_) (fun c_12 => ?_)
                        · skip
                          exact absurd rfl c_12
                        · skip
                          refine lv_aload_n hx hb dL_fails_152 rfl (lv_at hl 1 rfl) ?_
                          refine lv_iconst (v := (nI 0)) hx hb dL_fails_153 (by decide) ?_
                          refine lv_sipush (v := (nI 4096)) hx hb dL_fails_154 (by decide) ?_
                          refine va_calli (va_runV (As := [.int (nI 0), .int (nI 4096)]) (rest := []) ⟨hx, hb, hml, hown, hts⟩ (k_X3_shift_o l D T o Sx fi (nI 0) (nI 4096) ) (cwV 2 hts gL_fails_X3_shift rfl rfl rfl (by decide +kernel) ⟨Nat.le_of_ble_eq_true rfl, Nat.le_of_ble_eq_true rfl⟩) (pre_V (Φ := fun X => PO D T X o Sx fi) hK ((PO.recv hP).choose_spec) rfl hP) rfl rfl hl.1 rfl (lv_room (Nat.le_of_ble_eq_true rfl)) dL_fails_157 ⟨Nat.le_of_ble_eq_true rfl, Nat.le_of_ble_eq_true rfl⟩) hS (fun q _ h => h) (fun q h => h) (fun r_14 u_13 t H_13 locs ht hvm hw hB hz hk hS => ?_)
                          rw [ht] at hB
                          try dsimp only at hw
                          try dsimp only at hB
                          subst hw
                          have hP := hB
                          rw [show shiN fi (nI 0) (nI 4096) = fi from if_neg (by decide +kernel)] at hP
                          refine top_i (x' := (-1)) (if_neg (by decide +kernel)) ?_
                          refine lv_iconst (v := (-1)) hx hb dL_fails_160 (by decide) ?_
                          refine lv_icmp_ne (tgt := 179) hx hb dL_fails_161 (by decide) (fun c_13 => ?_) (fun c_13 => ?_)
                          · skip
                            exact absurd rfl c_13
                          · skip
                            refine lv_aload_n hx hb dL_fails_164 rfl (lv_at hl 1 rfl) ?_
                            refine lv_bipush (v := (nI 6)) hx hb dL_fails_165 (by decide) ?_
                            refine lv_iconst (v := (nI 0)) hx hb dL_fails_167 (by decide) ?_
                            refine va_calli (va_runV (As := [.int (nI 6), .int (nI 0)]) (rest := []) ⟨hx, hb, hml, hown, hts⟩ (k_X3_shift_o l D T o Sx fi (nI 6) (nI 0) ) (cwV 2 hts gL_fails_X3_shift rfl rfl rfl (by decide +kernel) ⟨Nat.le_of_ble_eq_true rfl, Nat.le_of_ble_eq_true rfl⟩) (pre_V (Φ := fun X => PO D T X o Sx fi) hK ((PO.recv hP).choose_spec) rfl hP) rfl rfl hl.1 rfl (lv_room (Nat.le_of_ble_eq_true rfl)) dL_fails_168 ⟨Nat.le_of_ble_eq_true rfl, Nat.le_of_ble_eq_true rfl⟩) hS (fun q _ h => h) (fun q h => h) (fun r_15 u_14 t H_14 locs ht hvm hw hB hz hk hS => ?_)
                            rw [ht] at hB
                            try dsimp only at hw
                            try dsimp only at hB
                            subst hw
                            have hP := hB
                            rw [show shiN fi (nI 6) (nI 0) = fi from if_neg (by decide +kernel)] at hP
                            refine top_i (x' := (-1)) (if_neg (by decide +kernel)) ?_
                            refine lv_iconst (v := (-1)) hx hb dL_fails_171 (by decide) ?_
                            refine lv_icmp_ne (tgt := 179) hx hb dL_fails_172 (by decide) (fun c_14 => ?_) (fun c_14 => ?_)
                            · skip
                              exact absurd rfl c_14
                            · skip
                              refine lv_iconst (v := (nI 1)) hx hb dL_fails_175 (by decide) ?_
                              refine lv_goto (tgt := 180) hx hb dL_fails_176 (by decide) ?_
                              refine lv_istore_n (lv' := [(3, .int (nI 1)), (1, .long (finR fi)), (0, .ref o)]) hx hb dL_fails_180 rfl hl (by decide) rfl (fun ls hl => ?_)
                              refine lv_iload_n hx hb dL_fails_181 rfl (lv_at hl 0 rfl) ?_
                              refine lv_if_eq (tgt := 344) hx hb dL_fails_182 (by decide) (fun c_15 => ?_) (fun c_15 => ?_)
                              · skip
                                exact absurd c_15 (by decide)
                              · skip
                                refine lv_aload_n hx hb dL_fails_185 rfl (lv_at hl 2 rfl) ?_
                                refine lv_bipush (v := (nI 6)) hx hb dL_fails_186 (by decide) ?_
                                refine vp_callSi (va_Run.run (va_runV (As := [.int (nI 6)]) (rest := []) ⟨hx, hb, hml, hown, hts⟩ (k_X3_size_o l D T o Sx fi (nI 6) ) (cwV 1 hts gL_fails_X3_size rfl rfl rfl (by decide +kernel) ⟨Nat.le_of_ble_eq_true rfl, Nat.le_of_ble_eq_true rfl⟩) (pre_V (Φ := fun X => PO D T X o Sx fi) hK ((PO.recv hP).choose_spec) rfl hP) rfl rfl hl.1 rfl (lv_room (Nat.le_of_ble_eq_true rfl)) dL_fails_188 ⟨Nat.le_of_ble_eq_true rfl, Nat.le_of_ble_eq_true rfl⟩)) (fun r_16 hr_16 => ?_)
                                subst hr_16
                                refine top_i (x' := (-1)) (if_neg (by decide +kernel)) ?_
                                refine lv_iconst (v := (-1)) hx hb dL_fails_191 (by decide) ?_
                                refine lv_icmp_ne (tgt := 344) hx hb dL_fails_192 (by decide) (fun c_16 => ?_) (fun c_16 => ?_)
                                · skip
                                  exact absurd rfl c_16
                                · skip
                                  refine lv_aload_n hx hb dL_fails_195 rfl (lv_at hl 2 rfl) ?_
                                  refine lv_iconst (v := (-1)) hx hb dL_fails_196 (by decide) ?_
                                  refine lv_iconst (v := (nI 0)) hx hb dL_fails_197 (by decide) ?_
                                  refine vp_callSi (va_Run.run (va_runV (As := [.int (-1), .int (nI 0)]) (rest := []) ⟨hx, hb, hml, hown, hts⟩ (k_X3_contains_o l D T o Sx fi (-1) (nI 0) ) (cwV 2 hts gL_fails_X3_contains rfl rfl rfl (by decide +kernel) ⟨Nat.le_of_ble_eq_true rfl, Nat.le_of_ble_eq_true rfl⟩) (pre_V (Φ := fun X => PO D T X o Sx fi) hK ((PO.recv hP).choose_spec) rfl hP) rfl rfl hl.1 rfl (lv_room (Nat.le_of_ble_eq_true rfl)) dL_fails_198 ⟨Nat.le_of_ble_eq_true rfl, Nat.le_of_ble_eq_true rfl⟩)) (fun r_17 hr_17 => ?_)
                                  subst hr_17
                                  refine top_i (x' := (-1)) (if_neg (by decide +kernel)) ?_
                                  refine lv_iconst (v := (-1)) hx hb dL_fails_201 (by decide) ?_
                                  refine lv_icmp_ne (tgt := 344) hx hb dL_fails_202 (by decide) (fun c_17 => ?_) (fun c_17 => ?_)
                                  · skip
                                    exact absurd rfl c_17
                                  · skip
                                    refine lv_aload_n hx hb dL_fails_205 rfl (lv_at hl 2 rfl) ?_
                                    refine lv_iconst (v := (nI 0)) hx hb dL_fails_206 (by decide) ?_
                                    refine lv_bipush (v := (-5)) hx hb dL_fails_207 (by decide) ?_
                                    refine vp_callSi (va_Run.run (va_runV (As := [.int (nI 0), .int (-5)]) (rest := []) ⟨hx, hb, hml, hown, hts⟩ (k_X3_contains_o l D T o Sx fi (nI 0) (-5) ) (cwV 2 hts gL_fails_X3_contains rfl rfl rfl (by decide +kernel) ⟨Nat.le_of_ble_eq_true rfl, Nat.le_of_ble_eq_true rfl⟩) (pre_V (Φ := fun X => PO D T X o Sx fi) hK ((PO.recv hP).choose_spec) rfl hP) rfl rfl hl.1 rfl (lv_room (Nat.le_of_ble_eq_true rfl)) dL_fails_209 ⟨Nat.le_of_ble_eq_true rfl, Nat.le_of_ble_eq_true rfl⟩)) (fun r_18 hr_18 => ?_)
                                    subst hr_18
                                    refine top_i (x' := (nI 0)) ((o_con (by decide) _).trans (congrArg b2i (hlt_neg _ (by decide +kernel)))) ?_
                                    refine lv_if_ne (tgt := 344) hx hb dL_fails_212 (by decide) (fun c_18 => ?_) (fun c_18 => ?_)
                                    · skip
                                      exact absurd (by decide) c_18
                                    · skip
                                      refine lv_aload_n hx hb dL_fails_215 rfl (lv_at hl 2 rfl) ?_
                                      refine lv_iconst (v := (nI 0)) hx hb dL_fails_216 (by decide) ?_
                                      refine lv_sipush (v := (nI 4096)) hx hb dL_fails_217 (by decide) ?_
                                      refine vp_callSi (va_Run.run (va_runV (As := [.int (nI 0), .int (nI 4096)]) (rest := []) ⟨hx, hb, hml, hown, hts⟩ (k_X3_contains_o l D T o Sx fi (nI 0) (nI 4096) ) (cwV 2 hts gL_fails_X3_contains rfl rfl rfl (by decide +kernel) ⟨Nat.le_of_ble_eq_true rfl, Nat.le_of_ble_eq_true rfl⟩) (pre_V (Φ := fun X => PO D T X o Sx fi) hK ((PO.recv hP).choose_spec) rfl hP) rfl rfl hl.1 rfl (lv_room (Nat.le_of_ble_eq_true rfl)) dL_fails_220 ⟨Nat.le_of_ble_eq_true rfl, Nat.le_of_ble_eq_true rfl⟩)) (fun r_19 hr_19 => ?_)
                                      subst hr_19
                                      refine top_i (x' := (nI 0)) ((o_con (by decide) _).trans (congrArg b2i (hlt_out _ (by decide +kernel)))) ?_
                                      refine lv_if_ne (tgt := 344) hx hb dL_fails_223 (by decide) (fun c_19 => ?_) (fun c_19 => ?_)
                                      · skip
                                        exact absurd (by decide) c_19
                                      · skip
                                        refine lv_aload_n hx hb dL_fails_226 rfl (lv_at hl 2 rfl) ?_
                                        refine lv_bipush (v := (nI 6)) hx hb dL_fails_227 (by decide) ?_
                                        refine lv_iconst (v := (nI 0)) hx hb dL_fails_229 (by decide) ?_
                                        refine vp_callSi (va_Run.run (va_runV (As := [.int (nI 6), .int (nI 0)]) (rest := []) ⟨hx, hb, hml, hown, hts⟩ (k_X3_rank_o l D T o Sx fi (nI 6) (nI 0) ) (cwV 2 hts gL_fails_X3_rank rfl rfl rfl (by decide +kernel) ⟨Nat.le_of_ble_eq_true rfl, Nat.le_of_ble_eq_true rfl⟩) (pre_V (Φ := fun X => PO D T X o Sx fi) hK ((PO.recv hP).choose_spec) rfl hP) rfl rfl hl.1 rfl (lv_room (Nat.le_of_ble_eq_true rfl)) dL_fails_230 ⟨Nat.le_of_ble_eq_true rfl, Nat.le_of_ble_eq_true rfl⟩)) (fun r_20 hr_20 => ?_)
                                        subst hr_20
                                        refine top_i (x' := (-1)) (if_neg (by decide +kernel)) ?_
                                        refine lv_iconst (v := (-1)) hx hb dL_fails_233 (by decide) ?_
                                        refine lv_icmp_ne (tgt := 344) hx hb dL_fails_234 (by decide) (fun c_20 => ?_) (fun c_20 => ?_)
                                        · skip
                                          exact absurd rfl c_20
                                        · skip
                                          refine lv_aload_n hx hb dL_fails_237 rfl (lv_at hl 2 rfl) ?_
                                          refine lv_iconst (v := (nI 0)) hx hb dL_fails_238 (by decide) ?_
                                          refine lv_iconst (v := (-1)) hx hb dL_fails_239 (by decide) ?_
                                          refine vp_callSi (va_Run.run (va_runV (As := [.int (nI 0), .int (-1)]) (rest := []) ⟨hx, hb, hml, hown, hts⟩ (k_X3_rank_o l D T o Sx fi (nI 0) (-1) ) (cwV 2 hts gL_fails_X3_rank rfl rfl rfl (by decide +kernel) ⟨Nat.le_of_ble_eq_true rfl, Nat.le_of_ble_eq_true rfl⟩) (pre_V (Φ := fun X => PO D T X o Sx fi) hK ((PO.recv hP).choose_spec) rfl hP) rfl rfl hl.1 rfl (lv_room (Nat.le_of_ble_eq_true rfl)) dL_fails_240 ⟨Nat.le_of_ble_eq_true rfl, Nat.le_of_ble_eq_true rfl⟩)) (fun r_21 hr_21 => ?_)
                                          subst hr_21
                                          refine top_i (x' := (nI 0)) ((o_ran (by decide) _).trans (congrArg nI (ctr_neg _ (by decide +kernel)))) ?_
                                          refine lv_if_ne (tgt := 344) hx hb dL_fails_243 (by decide) (fun c_21 => ?_) (fun c_21 => ?_)
                                          · skip
                                            exact absurd (by decide) c_21
                                          · skip
                                            refine lv_aload_n hx hb dL_fails_246 rfl (lv_at hl 2 rfl) ?_
                                            refine lv_iconst (v := (nI 0)) hx hb dL_fails_247 (by decide) ?_
                                            refine lv_iconst (v := (-1)) hx hb dL_fails_248 (by decide) ?_
                                            refine vp_callSi (va_Run.run (va_runV (As := [.int (nI 0), .int (-1)]) (rest := []) ⟨hx, hb, hml, hown, hts⟩ (k_X3_select_o l D T o Sx fi (nI 0) (-1) ) (cwV 2 hts gL_fails_X3_select rfl rfl rfl (by decide +kernel) ⟨Nat.le_of_ble_eq_true rfl, Nat.le_of_ble_eq_true rfl⟩) (pre_V (Φ := fun X => PO D T X o Sx fi) hK ((PO.recv hP).choose_spec) rfl hP) rfl rfl hl.1 rfl (lv_room (Nat.le_of_ble_eq_true rfl)) dL_fails_249 ⟨Nat.le_of_ble_eq_true rfl, Nat.le_of_ble_eq_true rfl⟩)) (fun r_22 hr_22 => ?_)
                                            subst hr_22
                                            refine top_i (x' := (-1)) (if_neg (by decide +kernel)) ?_
                                            refine lv_iconst (v := (-1)) hx hb dL_fails_252 (by decide) ?_
                                            refine lv_icmp_ne (tgt := 344) hx hb dL_fails_253 (by decide) (fun c_22 => ?_) (fun c_22 => ?_)
                                            · skip
                                              exact absurd rfl c_22
                                            · skip
                                              refine lv_aload_n hx hb dL_fails_256 rfl (lv_at hl 2 rfl) ?_
                                              refine lv_iconst (v := (nI 0)) hx hb dL_fails_257 (by decide) ?_
                                              refine lv_sipush (v := (nI 4096)) hx hb dL_fails_258 (by decide) ?_
                                              refine vp_callSi (va_Run.run (va_runV (As := [.int (nI 0), .int (nI 4096)]) (rest := []) ⟨hx, hb, hml, hown, hts⟩ (k_X3_select_o l D T o Sx fi (nI 0) (nI 4096) ) (cwV 2 hts gL_fails_X3_select rfl rfl rfl (by decide +kernel) ⟨Nat.le_of_ble_eq_true rfl, Nat.le_of_ble_eq_true rfl⟩) (pre_V (Φ := fun X => PO D T X o Sx fi) hK ((PO.recv hP).choose_spec) rfl hP) rfl rfl hl.1 rfl (lv_room (Nat.le_of_ble_eq_true rfl)) dL_fails_261 ⟨Nat.le_of_ble_eq_true rfl, Nat.le_of_ble_eq_true rfl⟩)) (fun r_23 hr_23 => ?_)
                                              subst hr_23
                                              refine top_i (x' := (-9)) ((o_sel (by decide) (by decide)).trans (size_far _)) ?_
                                              refine lv_bipush (v := (-9)) hx hb dL_fails_264 (by decide) ?_
                                              refine lv_icmp_ne (tgt := 344) hx hb dL_fails_266 (by decide) (fun c_23 => ?_) (fun c_23 => ?_)
                                              · skip
                                                exact absurd rfl c_23
                                              · skip
                                                refine lv_aload_n hx hb dL_fails_269 rfl (lv_at hl 2 rfl) ?_
                                                refine lv_bipush (v := (nI 6)) hx hb dL_fails_270 (by decide) ?_
                                                refine lv_iconst (v := (nI 0)) hx hb dL_fails_272 (by decide) ?_
                                                refine lv_iconst (v := (nI 1)) hx hb dL_fails_273 (by decide) ?_
                                                refine vp_callSi (va_Run.run (va_runV (As := [.int (nI 6), .int (nI 0), .int (nI 1)]) (rest := []) ⟨hx, hb, hml, hown, hts⟩ (k_X3_near_o l D T o Sx fi (nI 6) (nI 0) (nI 1) ) (cwV 3 hts gL_fails_X3_near rfl rfl rfl (by decide +kernel) ⟨Nat.le_of_ble_eq_true rfl, Nat.le_of_ble_eq_true rfl⟩) (pre_V (Φ := fun X => PO D T X o Sx fi) hK ((PO.recv hP).choose_spec) rfl hP) rfl rfl hl.1 rfl (lv_room (Nat.le_of_ble_eq_true rfl)) dL_fails_274 ⟨Nat.le_of_ble_eq_true rfl, Nat.le_of_ble_eq_true rfl⟩)) (fun r_24 hr_24 => ?_)
                                                subst hr_24
                                                refine top_i (x' := (-1)) (if_neg (by decide +kernel)) ?_
                                                refine lv_iconst (v := (-1)) hx hb dL_fails_277 (by decide) ?_
                                                refine lv_icmp_ne (tgt := 344) hx hb dL_fails_278 (by decide) (fun c_24 => ?_) (fun c_24 => ?_)
                                                · skip
                                                  exact absurd rfl c_24
                                                · skip
                                                  refine lv_aload_n hx hb dL_fails_281 rfl (lv_at hl 2 rfl) ?_
                                                  refine lv_iconst (v := (nI 0)) hx hb dL_fails_282 (by decide) ?_
                                                  refine lv_sipush (v := (nI 4096)) hx hb dL_fails_283 (by decide) ?_
                                                  refine lv_iconst (v := (nI 1)) hx hb dL_fails_286 (by decide) ?_
                                                  refine vp_callSi (va_Run.run (va_runV (As := [.int (nI 0), .int (nI 4096), .int (nI 1)]) (rest := []) ⟨hx, hb, hml, hown, hts⟩ (k_X3_near_o l D T o Sx fi (nI 0) (nI 4096) (nI 1) ) (cwV 3 hts gL_fails_X3_near rfl rfl rfl (by decide +kernel) ⟨Nat.le_of_ble_eq_true rfl, Nat.le_of_ble_eq_true rfl⟩) (pre_V (Φ := fun X => PO D T X o Sx fi) hK ((PO.recv hP).choose_spec) rfl hP) rfl rfl hl.1 rfl (lv_room (Nat.le_of_ble_eq_true rfl)) dL_fails_287 ⟨Nat.le_of_ble_eq_true rfl, Nat.le_of_ble_eq_true rfl⟩)) (fun r_25 hr_25 => ?_)
                                                  subst hr_25
                                                  refine top_i (x' := (-9)) ((o_neu (by decide) _).trans (up_none 4096 0 (fun y _ hy z => by have := (nI_leI (by decide) (by omega)).mp z.2; omega))) ?_
                                                  refine lv_bipush (v := (-9)) hx hb dL_fails_290 (by decide) ?_
                                                  refine lv_icmp_ne (tgt := 344) hx hb dL_fails_292 (by decide) (fun c_25 => ?_) (fun c_25 => ?_)
                                                  · skip
                                                    exact absurd rfl c_25
                                                  · skip
                                                    refine lv_aload_n hx hb dL_fails_295 rfl (lv_at hl 2 rfl) ?_
                                                    refine lv_iconst (v := (nI 0)) hx hb dL_fails_296 (by decide) ?_
                                                    refine lv_iconst (v := (-1)) hx hb dL_fails_297 (by decide) ?_
                                                    refine lv_iconst (v := (nI 0)) hx hb dL_fails_298 (by decide) ?_
                                                    refine vp_callSi (va_Run.run (va_runV (As := [.int (nI 0), .int (-1), .int (nI 0)]) (rest := []) ⟨hx, hb, hml, hown, hts⟩ (k_X3_near_o l D T o Sx fi (nI 0) (-1) (nI 0) ) (cwV 3 hts gL_fails_X3_near rfl rfl rfl (by decide +kernel) ⟨Nat.le_of_ble_eq_true rfl, Nat.le_of_ble_eq_true rfl⟩) (pre_V (Φ := fun X => PO D T X o Sx fi) hK ((PO.recv hP).choose_spec) rfl hP) rfl rfl hl.1 rfl (lv_room (Nat.le_of_ble_eq_true rfl)) dL_fails_299 ⟨Nat.le_of_ble_eq_true rfl, Nat.le_of_ble_eq_true rfl⟩)) (fun r_26 hr_26 => ?_)
                                                    subst hr_26
                                                    refine top_i (x' := (-9)) ((o_ned (by decide) _).trans (dn_none 4096 (fun y hy z => by have h := z.2; rw [Int32.le_iff_toInt_le, nI_toInt (by omega), show (-1 : Int32).toInt = -1 by decide] at h; omega))) ?_
                                                    refine lv_bipush (v := (-9)) hx hb dL_fails_302 (by decide) ?_
                                                    refine lv_icmp_ne (tgt := 344) hx hb dL_fails_304 (by decide) (fun c_26 => ?_) (fun c_26 => ?_)
                                                    · skip
                                                      exact absurd rfl c_26
                                                    · skip
                                                      refine lv_aload_n hx hb dL_fails_307 rfl (lv_at hl 2 rfl) ?_
                                                      refine lv_bipush (v := (nI 6)) hx hb dL_fails_308 (by decide) ?_
                                                      refine vp_callSi (va_Run.run (va_runV (As := [.int (nI 6)]) (rest := []) ⟨hx, hb, hml, hown, hts⟩ (k_X3_runs_o l D T o Sx fi (nI 6) ) (cwV 1 hts gL_fails_X3_runs rfl rfl rfl (by decide +kernel) ⟨Nat.le_of_ble_eq_true rfl, Nat.le_of_ble_eq_true rfl⟩) (pre_V (Φ := fun X => PO D T X o Sx fi) hK ((PO.recv hP).choose_spec) rfl hP) rfl rfl hl.1 rfl (lv_room (Nat.le_of_ble_eq_true rfl)) dL_fails_310 ⟨Nat.le_of_ble_eq_true rfl, Nat.le_of_ble_eq_true rfl⟩)) (fun r_27 hr_27 => ?_)
                                                      subst hr_27
                                                      refine top_i (x' := (-1)) (if_neg (by decide +kernel)) ?_
                                                      refine lv_iconst (v := (-1)) hx hb dL_fails_313 (by decide) ?_
                                                      refine lv_icmp_ne (tgt := 344) hx hb dL_fails_314 (by decide) (fun c_27 => ?_) (fun c_27 => ?_)
                                                      · skip
                                                        exact absurd rfl c_27
                                                      · skip
                                                        refine lv_aload_n hx hb dL_fails_317 rfl (lv_at hl 2 rfl) ?_
                                                        refine lv_iconst (v := (nI 0)) hx hb dL_fails_318 (by decide) ?_
                                                        refine lv_iconst (v := (-1)) hx hb dL_fails_319 (by decide) ?_
                                                        refine va_calli (va_runV (As := [.int (nI 0), .int (-1)]) (rest := []) ⟨hx, hb, hml, hown, hts⟩ (k_X3_run_o l D T o Sx fi (nI 0) (-1) ) (cwV 2 hts gL_fails_X3_run rfl rfl rfl (by decide +kernel) ⟨Nat.le_of_ble_eq_true rfl, Nat.le_of_ble_eq_true rfl⟩) (pre_V (Φ := fun X => PO D T X o Sx fi) hK ((PO.recv hP).choose_spec) rfl hP) rfl rfl hl.1 rfl (lv_room (Nat.le_of_ble_eq_true rfl)) dL_fails_320 ⟨Nat.le_of_ble_eq_true rfl, Nat.le_of_ble_eq_true rfl⟩) hS (fun q _ h => h) (fun q h => h) (fun r_28 u_15 t H_15 locs ht hvm hw hB hz hk hS => ?_)
                                                        rw [ht] at hB
                                                        try dsimp only at hw
                                                        try dsimp only at hB
                                                        subst hw
                                                        have hP := hB
                                                        refine top_i (x' := (-1)) (if_neg (by decide +kernel)) ?_
                                                        refine lv_iconst (v := (-1)) hx hb dL_fails_323 (by decide) ?_
                                                        refine lv_icmp_ne (tgt := 344) hx hb dL_fails_324 (by decide) (fun c_28 => ?_) (fun c_28 => ?_)
                                                        · skip
                                                          exact absurd rfl c_28
                                                        · skip
                                                          refine lv_aload_n hx hb dL_fails_327 rfl (lv_at hl 2 rfl) ?_
                                                          refine lv_iconst (v := (nI 0)) hx hb dL_fails_328 (by decide) ?_
                                                          refine lv_sipush (v := (nI 2049)) hx hb dL_fails_329 (by decide) ?_
                                                          refine va_calli (va_runV (As := [.int (nI 0), .int (nI 2049)]) (rest := []) ⟨hx, hb, hml, hown, hts⟩ (k_X3_run_o l D T o Sx fi (nI 0) (nI 2049) ) (cwV 2 hts gL_fails_X3_run rfl rfl rfl (by decide +kernel) ⟨Nat.le_of_ble_eq_true rfl, Nat.le_of_ble_eq_true rfl⟩) (pre_V (Φ := fun X => PO D T X o Sx fi) hK ((PO.recv hP).choose_spec) rfl hP) rfl rfl hl.1 rfl (lv_room (Nat.le_of_ble_eq_true rfl)) dL_fails_332 ⟨Nat.le_of_ble_eq_true rfl, Nat.le_of_ble_eq_true rfl⟩) hS (fun q _ h => h) (fun q h => h) (fun r_29 u_16 t H_16 locs ht hvm hw hB hz hk hS => ?_)
                                                          rw [ht] at hB
                                                          try dsimp only at hw
                                                          try dsimp only at hB
                                                          subst hw
                                                          have hP := hB
                                                          refine top_i (x' := (-9)) (o_run9 (by decide) (by decide) (run_far _)) ?_
                                                          refine lv_bipush (v := (-9)) hx hb dL_fails_335 (by decide) ?_
                                                          refine lv_icmp_ne (tgt := 344) hx hb dL_fails_337 (by decide) (fun c_29 => ?_) (fun c_29 => ?_)
                                                          · skip
                                                            exact absurd rfl c_29
                                                          · skip
                                                            refine lv_iconst (v := (nI 1)) hx hb dL_fails_340 (by decide) ?_
                                                            refine lv_goto (tgt := 345) hx hb dL_fails_341 (by decide) ?_
                                                            refine lv_istore_n (lv' := [(3, .int (nI 1)), (1, .long (finR fi)), (0, .ref o)]) hx hb dL_fails_345 rfl hl (by decide) rfl (fun ls hl => ?_)
                                                            refine lv_iload_n hx hb dL_fails_346 rfl (lv_at hl 0 rfl) ?_
                                                            refine lv_if_eq (tgt := 495) hx hb dL_fails_347 (by decide) (fun c_30 => ?_) (fun c_30 => ?_)
                                                            · skip
                                                              exact absurd c_30 (by decide)
                                                            · skip
                                                              refine lv_aload_n hx hb dL_fails_350 rfl (lv_at hl 2 rfl) ?_
                                                              refine lv_iconst (v := (nI 0)) hx hb dL_fails_351 (by decide) ?_
                                                              refine lv_bipush (v := (nI 16)) hx hb dL_fails_352 (by decide) ?_
                                                              refine lv_iconst (v := (nI 0)) hx hb dL_fails_354 (by decide) ?_
                                                              refine vp_callSi (va_Run.run (va_runV (As := [.int (nI 0), .int (nI 16), .int (nI 0)]) (rest := []) ⟨hx, hb, hml, hown, hts⟩ (k_X3_piece_o l D T o Sx fi (nI 0) (nI 16) (nI 0) ) (cwV 3 hts gL_fails_X3_piece rfl rfl rfl (by decide +kernel) ⟨Nat.le_of_ble_eq_true rfl, Nat.le_of_ble_eq_true rfl⟩) (pre_V (Φ := fun X => PO D T X o Sx fi) hK ((PO.recv hP).choose_spec) rfl hP) rfl rfl hl.1 rfl (lv_room (Nat.le_of_ble_eq_true rfl)) dL_fails_355 ⟨Nat.le_of_ble_eq_true rfl, Nat.le_of_ble_eq_true rfl⟩)) (fun r_30 hr_30 => ?_)
                                                              subst hr_30
                                                              refine top_i (x' := (-1)) (if_neg (by decide +kernel)) ?_
                                                              refine lv_iconst (v := (-1)) hx hb dL_fails_358 (by decide) ?_
                                                              refine lv_icmp_ne (tgt := 495) hx hb dL_fails_359 (by decide) (fun c_31 => ?_) (fun c_31 => ?_)
                                                              · skip
                                                                exact absurd rfl c_31
                                                              · skip
                                                                refine lv_aload_n hx hb dL_fails_362 rfl (lv_at hl 2 rfl) ?_
                                                                refine lv_iconst (v := (nI 0)) hx hb dL_fails_363 (by decide) ?_
                                                                refine lv_iconst (v := (nI 0)) hx hb dL_fails_364 (by decide) ?_
                                                                refine lv_iconst (v := (nI 4)) hx hb dL_fails_365 (by decide) ?_
                                                                refine vp_callSi (va_Run.run (va_runV (As := [.int (nI 0), .int (nI 0), .int (nI 4)]) (rest := []) ⟨hx, hb, hml, hown, hts⟩ (k_X3_piece_o l D T o Sx fi (nI 0) (nI 0) (nI 4) ) (cwV 3 hts gL_fails_X3_piece rfl rfl rfl (by decide +kernel) ⟨Nat.le_of_ble_eq_true rfl, Nat.le_of_ble_eq_true rfl⟩) (pre_V (Φ := fun X => PO D T X o Sx fi) hK ((PO.recv hP).choose_spec) rfl hP) rfl rfl hl.1 rfl (lv_room (Nat.le_of_ble_eq_true rfl)) dL_fails_366 ⟨Nat.le_of_ble_eq_true rfl, Nat.le_of_ble_eq_true rfl⟩)) (fun r_31 hr_31 => ?_)
                                                                subst hr_31
                                                                refine top_i (x' := (-1)) (by rw [o_pie (by decide) (by decide)]; unfold det; rw [if_neg (by decide), if_neg (by decide), if_neg (by decide), if_neg (by decide)]) ?_
                                                                refine lv_iconst (v := (-1)) hx hb dL_fails_369 (by decide) ?_
                                                                refine lv_icmp_ne (tgt := 495) hx hb dL_fails_370 (by decide) (fun c_32 => ?_) (fun c_32 => ?_)
                                                                · skip
                                                                  exact absurd rfl c_32
                                                                · skip
                                                                  refine lv_aload_n hx hb dL_fails_373 rfl (lv_at hl 2 rfl) ?_
                                                                  refine lv_bipush (v := (nI 6)) hx hb dL_fails_374 (by decide) ?_
                                                                  refine vp_callSi (va_Run.run (va_runV (As := [.int (nI 6)]) (rest := []) ⟨hx, hb, hml, hown, hts⟩ (k_X3_bytes_o l D T o Sx fi (nI 6) ) (cwV 1 hts gL_fails_X3_bytes rfl rfl rfl (by decide +kernel) ⟨Nat.le_of_ble_eq_true rfl, Nat.le_of_ble_eq_true rfl⟩) (pre_V (Φ := fun X => PO D T X o Sx fi) hK ((PO.recv hP).choose_spec) rfl hP) rfl rfl hl.1 rfl (lv_room (Nat.le_of_ble_eq_true rfl)) dL_fails_376 ⟨Nat.le_of_ble_eq_true rfl, Nat.le_of_ble_eq_true rfl⟩)) (fun r_32 hr_32 => ?_)
                                                                  subst hr_32
                                                                  refine top_i (x' := (-1)) (if_neg (by decide +kernel)) ?_
                                                                  refine lv_iconst (v := (-1)) hx hb dL_fails_379 (by decide) ?_
                                                                  refine lv_icmp_ne (tgt := 495) hx hb dL_fails_380 (by decide) (fun c_33 => ?_) (fun c_33 => ?_)
                                                                  · skip
                                                                    exact absurd rfl c_33
                                                                  · skip
                                                                    refine lv_aload_n hx hb dL_fails_383 rfl (lv_at hl 2 rfl) ?_
                                                                    refine lv_iconst (v := (nI 0)) hx hb dL_fails_384 (by decide) ?_
                                                                    refine lv_iconst (v := (-1)) hx hb dL_fails_385 (by decide) ?_
                                                                    refine vp_callSi (va_Run.run (va_runV (As := [.int (nI 0), .int (-1)]) (rest := []) ⟨hx, hb, hml, hown, hts⟩ (k_X3_byteAt_o l D T o Sx fi (nI 0) (-1) ) (cwV 2 hts gL_fails_X3_byteAt rfl rfl rfl (by decide +kernel) ⟨Nat.le_of_ble_eq_true rfl, Nat.le_of_ble_eq_true rfl⟩) (pre_V (Φ := fun X => PO D T X o Sx fi) hK ((PO.recv hP).choose_spec) rfl hP) rfl rfl hl.1 rfl (lv_room (Nat.le_of_ble_eq_true rfl)) dL_fails_386 ⟨Nat.le_of_ble_eq_true rfl, Nat.le_of_ble_eq_true rfl⟩)) (fun r_33 hr_33 => ?_)
                                                                    subst hr_33
                                                                    refine top_i (x' := (-1)) (if_neg (by decide +kernel)) ?_
                                                                    refine lv_iconst (v := (-1)) hx hb dL_fails_389 (by decide) ?_
                                                                    refine lv_icmp_ne (tgt := 495) hx hb dL_fails_390 (by decide) (fun c_34 => ?_) (fun c_34 => ?_)
                                                                    · skip
                                                                      exact absurd rfl c_34
                                                                    · skip
                                                                      refine lv_aload_n hx hb dL_fails_393 rfl (lv_at hl 2 rfl) ?_
                                                                      refine lv_iconst (v := (nI 0)) hx hb dL_fails_394 (by decide) ?_
                                                                      refine lv_sipush (v := (nI 529)) hx hb dL_fails_395 (by decide) ?_
                                                                      refine vp_callSi (va_Run.run (va_runV (As := [.int (nI 0), .int (nI 529)]) (rest := []) ⟨hx, hb, hml, hown, hts⟩ (k_X3_byteAt_o l D T o Sx fi (nI 0) (nI 529) ) (cwV 2 hts gL_fails_X3_byteAt rfl rfl rfl (by decide +kernel) ⟨Nat.le_of_ble_eq_true rfl, Nat.le_of_ble_eq_true rfl⟩) (pre_V (Φ := fun X => PO D T X o Sx fi) hK ((PO.recv hP).choose_spec) rfl hP) rfl rfl hl.1 rfl (lv_room (Nat.le_of_ble_eq_true rfl)) dL_fails_398 ⟨Nat.le_of_ble_eq_true rfl, Nat.le_of_ble_eq_true rfl⟩)) (fun r_34 hr_34 => ?_)
                                                                      subst hr_34
                                                                      refine top_i (x' := (-9)) ((o_bya (by decide) (by decide)).trans (by_far _)) ?_
                                                                      refine lv_bipush (v := (-9)) hx hb dL_fails_401 (by decide) ?_
                                                                      refine lv_icmp_ne (tgt := 495) hx hb dL_fails_403 (by decide) (fun c_35 => ?_) (fun c_35 => ?_)
                                                                      · skip
                                                                        exact absurd rfl c_35
                                                                      · skip
                                                                        refine lv_aload_n hx hb dL_fails_406 rfl (lv_at hl 2 rfl) ?_
                                                                        refine lv_sipush (v := (nI 256)) hx hb dL_fails_407 (by decide) ?_
                                                                        refine va_calli (va_runV (As := [.int (nI 256)]) (rest := []) ⟨hx, hb, hml, hown, hts⟩ (k_X3_put_o l D T o Sx fi (nI 256) ) (cwV 1 hts gL_fails_X3_put rfl rfl rfl (by decide +kernel) ⟨Nat.le_of_ble_eq_true rfl, Nat.le_of_ble_eq_true rfl⟩) (pre_V (Φ := fun X => PO D T X o Sx fi) hK ((PO.recv hP).choose_spec) rfl hP) rfl rfl hl.1 rfl (lv_room (Nat.le_of_ble_eq_true rfl)) dL_fails_410 ⟨Nat.le_of_ble_eq_true rfl, Nat.le_of_ble_eq_true rfl⟩) hS (fun q _ h => h) (fun q h => h) (fun r_35 u_17 t H_17 locs ht hvm hw hB hz hk hS => ?_)
                                                                        rw [ht] at hB
                                                                        try dsimp only at hw
                                                                        try dsimp only at hB
                                                                        subst hw
                                                                        have hP := hB
                                                                        rw [show putN fi (nI 256) = fi from if_neg (by decide +kernel)] at hP
                                                                        refine top_i (x' := (-1)) (if_neg (by decide +kernel)) ?_
                                                                        refine lv_iconst (v := (-1)) hx hb dL_fails_413 (by decide) ?_
                                                                        refine lv_icmp_ne (tgt := 495) hx hb dL_fails_414 (by decide) (fun c_36 => ?_) (fun c_36 => ?_)
                                                                        · skip
                                                                          exact absurd rfl c_36
                                                                        · skip
                                                                          refine lv_aload_n hx hb dL_fails_417 rfl (lv_at hl 2 rfl) ?_
                                                                          refine lv_bipush (v := (nI 6)) hx hb dL_fails_418 (by decide) ?_
                                                                          refine va_calli (va_runV (As := [.int (nI 6)]) (rest := []) ⟨hx, hb, hml, hown, hts⟩ (k_X3_read_o l D T o Sx fi (nI 6) ) (cwV 1 hts gL_fails_X3_read rfl rfl rfl (by decide +kernel) ⟨Nat.le_of_ble_eq_true rfl, Nat.le_of_ble_eq_true rfl⟩) (pre_V (Φ := fun X => PO D T X o Sx fi) hK ((PO.recv hP).choose_spec) rfl hP) rfl rfl hl.1 rfl (lv_room (Nat.le_of_ble_eq_true rfl)) dL_fails_420 ⟨Nat.le_of_ble_eq_true rfl, Nat.le_of_ble_eq_true rfl⟩) hS (fun q _ h => h) (fun q h => h) (fun r_36 u_18 t H_18 locs ht hvm hw hB hz hk hS => ?_)
                                                                          rw [ht] at hB
                                                                          try dsimp only at hw
                                                                          try dsimp only at hB
                                                                          subst hw
                                                                          have hP := hB
                                                                          rw [show reaN fi (nI 6) = fi from if_neg (fun z => absurd z.1 (by decide +kernel))] at hP
                                                                          refine top_i (x' := (-1)) (if_neg (by decide +kernel)) ?_
                                                                          refine lv_iconst (v := (-1)) hx hb dL_fails_423 (by decide) ?_
                                                                          refine lv_icmp_ne (tgt := 495) hx hb dL_fails_424 (by decide) (fun c_37 => ?_) (fun c_37 => ?_)
                                                                          · skip
                                                                            exact absurd rfl c_37
                                                                          · skip
                                                                            refine lv_aload_n hx hb dL_fails_427 rfl (lv_at hl 2 rfl) ?_
                                                                            refine lv_iconst (v := (nI 0)) hx hb dL_fails_428 (by decide) ?_
                                                                            refine lv_bipush (v := (nI 6)) hx hb dL_fails_429 (by decide) ?_
                                                                            refine lv_iconst (v := (nI 0)) hx hb dL_fails_431 (by decide) ?_
                                                                            refine va_calli (va_runV (As := [.int (nI 0), .int (nI 6), .int (nI 0)]) (rest := []) ⟨hx, hb, hml, hown, hts⟩ (k_X3_compare_o l D T o Sx fi (nI 0) (nI 6) (nI 0) ) (cwV 3 hts gL_fails_X3_compare rfl rfl rfl (by decide +kernel) ⟨Nat.le_of_ble_eq_true rfl, Nat.le_of_ble_eq_true rfl⟩) (pre_V (Φ := fun X => PO D T X o Sx fi) hK ((PO.recv hP).choose_spec) rfl hP) rfl rfl hl.1 rfl (lv_room (Nat.le_of_ble_eq_true rfl)) dL_fails_432 ⟨Nat.le_of_ble_eq_true rfl, Nat.le_of_ble_eq_true rfl⟩) hS (fun q _ h => h) (fun q h => h) (fun r_37 u_19 t H_19 locs ht hvm hw hB hz hk hS => ?_)
                                                                            rw [ht] at hB
                                                                            try dsimp only at hw
                                                                            try dsimp only at hB
                                                                            subst hw
                                                                            have hP := hB
                                                                            refine top_i (x' := (-1)) (if_neg (by decide +kernel)) ?_
                                                                            refine lv_iconst (v := (-1)) hx hb dL_fails_435 (by decide) ?_
                                                                            refine lv_icmp_ne (tgt := 495) hx hb dL_fails_436 (by decide) (fun c_38 => ?_) (fun c_38 => ?_)
                                                                            · skip
                                                                              exact absurd rfl c_38
                                                                            · skip
                                                                              refine lv_aload_n hx hb dL_fails_439 rfl (lv_at hl 2 rfl) ?_
                                                                              refine lv_iconst (v := (nI 0)) hx hb dL_fails_440 (by decide) ?_
                                                                              refine lv_iconst (v := (nI 0)) hx hb dL_fails_441 (by decide) ?_
                                                                              refine lv_iconst (v := (nI 5)) hx hb dL_fails_442 (by decide) ?_
                                                                              refine va_calli (va_runV (As := [.int (nI 0), .int (nI 0), .int (nI 5)]) (rest := []) ⟨hx, hb, hml, hown, hts⟩ (k_X3_compare_o l D T o Sx fi (nI 0) (nI 0) (nI 5) ) (cwV 3 hts gL_fails_X3_compare rfl rfl rfl (by decide +kernel) ⟨Nat.le_of_ble_eq_true rfl, Nat.le_of_ble_eq_true rfl⟩) (pre_V (Φ := fun X => PO D T X o Sx fi) hK ((PO.recv hP).choose_spec) rfl hP) rfl rfl hl.1 rfl (lv_room (Nat.le_of_ble_eq_true rfl)) dL_fails_443 ⟨Nat.le_of_ble_eq_true rfl, Nat.le_of_ble_eq_true rfl⟩) hS (fun q _ h => h) (fun q h => h) (fun r_38 u_20 t H_20 locs ht hvm hw hB hz hk hS => ?_)
                                                                              rw [ht] at hB
                                                                              try dsimp only at hw
                                                                              try dsimp only at hB
                                                                              subst hw
                                                                              have hP := hB
                                                                              refine top_i (x' := (-1)) (by rw [o_cmp (by decide) (by decide)]; unfold cmpV; rw [if_neg (by decide), if_neg (by decide), if_neg (by decide), if_neg (by decide), if_neg (by decide)]) ?_
                                                                              refine lv_iconst (v := (-1)) hx hb dL_fails_446 (by decide) ?_
                                                                              refine lv_icmp_ne (tgt := 495) hx hb dL_fails_447 (by decide) (fun c_39 => ?_) (fun c_39 => ?_)
                                                                              · skip
                                                                                exact absurd rfl c_39
                                                                              · skip
                                                                                refine lv_aload_n hx hb dL_fails_450 rfl (lv_at hl 2 rfl) ?_
                                                                                refine lv_iconst (v := (nI 0)) hx hb dL_fails_451 (by decide) ?_
                                                                                refine lv_iconst (v := (-1)) hx hb dL_fails_452 (by decide) ?_
                                                                                refine lv_iconst (v := (nI 1)) hx hb dL_fails_453 (by decide) ?_
                                                                                refine va_calli (va_runV (As := [.int (nI 0), .int (-1), .int (nI 1)]) (rest := []) ⟨hx, hb, hml, hown, hts⟩ (k_X3_alike_o l D T o Sx fi (nI 0) (-1) (nI 1) ) (cwV 3 hts gL_fails_X3_alike rfl rfl rfl (by decide +kernel) ⟨Nat.le_of_ble_eq_true rfl, Nat.le_of_ble_eq_true rfl⟩) (pre_V (Φ := fun X => PO D T X o Sx fi) hK ((PO.recv hP).choose_spec) rfl hP) rfl rfl hl.1 rfl (lv_room (Nat.le_of_ble_eq_true rfl)) dL_fails_454 ⟨Nat.le_of_ble_eq_true rfl, Nat.le_of_ble_eq_true rfl⟩) hS (fun q _ h => h) (fun q h => h) (fun r_39 u_21 t H_21 locs ht hvm hw hB hz hk hS => ?_)
                                                                                rw [ht] at hB
                                                                                try dsimp only at hw
                                                                                try dsimp only at hB
                                                                                subst hw
                                                                                have hP := hB
                                                                                refine top_i (x' := (-1)) (if_neg (by decide +kernel)) ?_
                                                                                refine lv_iconst (v := (-1)) hx hb dL_fails_457 (by decide) ?_
                                                                                refine lv_icmp_ne (tgt := 495) hx hb dL_fails_458 (by decide) (fun c_40 => ?_) (fun c_40 => ?_)
                                                                                · skip
                                                                                  exact absurd rfl c_40
                                                                                · skip
                                                                                  refine lv_aload_n hx hb dL_fails_461 rfl (lv_at hl 2 rfl) ?_
                                                                                  refine lv_iconst (v := (nI 3)) hx hb dL_fails_462 (by decide) ?_
                                                                                  refine lv_iconst (v := (nI 0)) hx hb dL_fails_463 (by decide) ?_
                                                                                  refine vp_callSi (va_Run.run (va_runV (As := [.int (nI 3), .int (nI 0)]) (rest := []) ⟨hx, hb, hml, hown, hts⟩ (k_X3_met_o l D T o Sx fi (nI 3) (nI 0) ) (cwV 2 hts gL_fails_X3_met rfl rfl rfl (by decide +kernel) ⟨Nat.le_of_ble_eq_true rfl, Nat.le_of_ble_eq_true rfl⟩) (pre_V (Φ := fun X => PO D T X o Sx fi) hK ((PO.recv hP).choose_spec) rfl hP) rfl rfl hl.1 rfl (lv_room (Nat.le_of_ble_eq_true rfl)) dL_fails_464 ⟨Nat.le_of_ble_eq_true rfl, Nat.le_of_ble_eq_true rfl⟩)) (fun r_40 hr_40 => ?_)
                                                                                  subst hr_40
                                                                                  refine top_i (x' := (-1)) (if_neg (by decide +kernel)) ?_
                                                                                  refine lv_iconst (v := (-1)) hx hb dL_fails_467 (by decide) ?_
                                                                                  refine lv_icmp_ne (tgt := 495) hx hb dL_fails_468 (by decide) (fun c_41 => ?_) (fun c_41 => ?_)
                                                                                  · skip
                                                                                    exact absurd rfl c_41
                                                                                  · skip
                                                                                    refine lv_aload_n hx hb dL_fails_471 rfl (lv_at hl 2 rfl) ?_
                                                                                    refine lv_iconst (v := (nI 1)) hx hb dL_fails_472 (by decide) ?_
                                                                                    refine lv_iconst (v := (nI 1)) hx hb dL_fails_473 (by decide) ?_
                                                                                    refine vp_callSi (va_Run.run (va_runV (As := [.int (nI 1), .int (nI 1)]) (rest := []) ⟨hx, hb, hml, hown, hts⟩ (k_X3_converted_o l D T o Sx fi (nI 1) (nI 1) ) (cwV 2 hts gL_fails_X3_converted rfl rfl rfl (by decide +kernel) ⟨Nat.le_of_ble_eq_true rfl, Nat.le_of_ble_eq_true rfl⟩) (pre_V (Φ := fun X => PO D T X o Sx fi) hK ((PO.recv hP).choose_spec) rfl hP) rfl rfl hl.1 rfl (lv_room (Nat.le_of_ble_eq_true rfl)) dL_fails_474 ⟨Nat.le_of_ble_eq_true rfl, Nat.le_of_ble_eq_true rfl⟩)) (fun r_41 hr_41 => ?_)
                                                                                    subst hr_41
                                                                                    refine top_i (x' := (-1)) (if_neg (by decide +kernel)) ?_
                                                                                    refine lv_iconst (v := (-1)) hx hb dL_fails_477 (by decide) ?_
                                                                                    refine lv_icmp_ne (tgt := 495) hx hb dL_fails_478 (by decide) (fun c_42 => ?_) (fun c_42 => ?_)
                                                                                    · skip
                                                                                      exact absurd rfl c_42
                                                                                    · skip
                                                                                      refine lv_aload_n hx hb dL_fails_481 rfl (lv_at hl 2 rfl) ?_
                                                                                      refine lv_iconst (v := (nI 0)) hx hb dL_fails_482 (by decide) ?_
                                                                                      refine lv_iconst (v := (nI 3)) hx hb dL_fails_483 (by decide) ?_
                                                                                      refine vp_callSi (va_Run.run (va_runV (As := [.int (nI 0), .int (nI 3)]) (rest := []) ⟨hx, hb, hml, hown, hts⟩ (k_X3_converted_o l D T o Sx fi (nI 0) (nI 3) ) (cwV 2 hts gL_fails_X3_converted rfl rfl rfl (by decide +kernel) ⟨Nat.le_of_ble_eq_true rfl, Nat.le_of_ble_eq_true rfl⟩) (pre_V (Φ := fun X => PO D T X o Sx fi) hK ((PO.recv hP).choose_spec) rfl hP) rfl rfl hl.1 rfl (lv_room (Nat.le_of_ble_eq_true rfl)) dL_fails_484 ⟨Nat.le_of_ble_eq_true rfl, Nat.le_of_ble_eq_true rfl⟩)) (fun r_42 hr_42 => ?_)
                                                                                      subst hr_42
                                                                                      refine top_i (x' := (-1)) (if_neg (by decide +kernel)) ?_
                                                                                      refine lv_iconst (v := (-1)) hx hb dL_fails_487 (by decide) ?_
                                                                                      refine lv_icmp_ne (tgt := 495) hx hb dL_fails_488 (by decide) (fun c_43 => ?_) (fun c_43 => ?_)
                                                                                      · skip
                                                                                        exact absurd rfl c_43
                                                                                      · skip
                                                                                        refine lv_iconst (v := (nI 1)) hx hb dL_fails_491 (by decide) ?_
                                                                                        refine lv_goto (tgt := 496) hx hb dL_fails_492 (by decide) ?_
                                                                                        refine lv_istore_n (lv' := [(3, .int (nI 1)), (1, .long (finR fi)), (0, .ref o)]) hx hb dL_fails_496 rfl hl (by decide) rfl (fun ls hl => ?_)
                                                                                        refine lv_iload_n hx hb dL_fails_497 rfl (lv_at hl 0 rfl) ?_
                                                                                        refine lv_if_eq (tgt := 514) hx hb dL_fails_498 (by decide) (fun c_44 => ?_) (fun c_44 => ?_)
                                                                                        · skip
                                                                                          exact absurd c_44 (by decide)
                                                                                        · skip
                                                                                          refine lv_aload_n hx hb dL_fails_501 rfl (lv_at hl 2 rfl) ?_
                                                                                          refine vp_callSl (va_Run.run (va_runV (As := []) (rest := []) ⟨hx, hb, hml, hown, hts⟩ (k_X3_fingerprint_o l D T o Sx fi ) (cwV 0 hts gL_fails_X3_fingerprint rfl rfl rfl (by decide +kernel) ⟨Nat.le_of_ble_eq_true rfl, Nat.le_of_ble_eq_true rfl⟩) (pre_V (Φ := fun X => PO D T X o Sx fi) hK ((PO.recv hP).choose_spec) rfl hP) rfl rfl hl.1 rfl (lv_room (Nat.le_of_ble_eq_true rfl)) dL_fails_502 ⟨Nat.le_of_ble_eq_true rfl, Nat.le_of_ble_eq_true rfl⟩)) (fun r_43 hr_43 => ?_)
                                                                                          subst hr_43
                                                                                          refine lv_lload_n hx hb dL_fails_505 rfl (lv_at hl 1 rfl) ?_
                                                                                          refine W.lcmp hx hb dL_fails_506 ?_
                                                                                          refine lv_if_ne (tgt := 514) hx hb dL_fails_507 (by decide) (fun c_45 => ?_) (fun c_45 => ?_)
                                                                                          · skip
                                                                                            exact absurd (lcmp_self _) c_45
                                                                                          · skip
                                                                                            refine lv_iconst (v := (nI 1)) hx hb dL_fails_510 (by decide) ?_
                                                                                            refine lv_goto (tgt := 515) hx hb dL_fails_511 (by decide) ?_
                                                                                            subst hQ
                                                                                            exact W.zret (v := (nI 1)) hx hb hr nb1 (fun t ht hW => ⟨⟨(nI 1), (), rfl, rfl, by have h9 := hP; rw [← ht] at h9; exact h9⟩, hS.F ht⟩) hS.2.2 dL_fails_515
