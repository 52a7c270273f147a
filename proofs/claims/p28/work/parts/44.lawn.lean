set_option maxHeartbeats 4000000 in
set_option maxRecDepth 100000 in
theorem k_L_numbers (l : Launch) (D : va_G) (T : Nat → ClassId) (o : Nat) (Sx : Nat → Prop) (fi : FS) (ss : Nat) (hs6 : ss < 6) : Met l yL_numbers wsL_numbers ({ frames := 4, cells := 0, slots := 0, locals := 112 }) (va_Pc [.ref o, .int (nI ss)] (fun U => KS D T U ∧ PO D T U.heap o Sx fi)) (va_Qi (fun (r : Int32) (u : Unit) => r = (nI 1)) (fun u t => PO D T t.heap o Sx fi) (Sx)) 0 0 (Sx) := by
  refine Met.ofW (cc := cL_numbers) (maxL := 9) (ret := (some .boolean)) (by decide) rfl ?_
  intro pg ev s m args below meth c s₁ B hml hv
  obtain ⟨rfl, hK, hH⟩ := hv
  have hx := B.exec
  have hb := B.bytes
  have hr := B.returns
  have hts := atoms_spec (ws := wsL_numbers) B.pre
  have hown : s.vm.findClass RL = some m.cls := findClass_of_methodNamed B.named
  have hlocks := B.notSynchronized
  have in_wsX30 : ∀ w ∈ wsX30, w ∈ wsL_numbers := fun w h => List.mem_cons_of_mem _ (List.mem_append_left _ (List.mem_append_left _ (List.mem_append_right _ h)))
  have in_wsX20 : ∀ w ∈ wsX20, w ∈ wsL_numbers := fun w h => List.mem_cons_of_mem _ (List.mem_append_left _ (List.mem_append_right _ h))
  have in_wsX10 : ∀ w ∈ wsX10, w ∈ wsL_numbers := fun w h => List.mem_cons_of_mem _ (List.mem_append_right _ h)
  have hS : va_S (Sx) s.heap s.heap [] := va_S.rf
  have hl := lv_entry ([.ref o, .int (nI ss)]) (n := 9) (Nat.le_of_ble_eq_true rfl)
  rw [lg_entry_eq]
  generalize (lg_sl ([.ref o, .int (nI ss)]) ++ List.replicate (9 - (lg_sl ([.ref o, .int (nI ss)])).length) Slot.unset).toArray = ls at hl ⊢
  have hl : lv_has ls 9 [(0, .ref o), (1, .int (nI ss))] := hl
  refine W_gen (fun Q hQ => ?_)
  have hP := hH
  have hcl := ct_le (fi.1.1 ss) 0 4096
  have hcr := ct_le (rsG (fi.1.1 ss) 0) 0 4096
  refine lv_aload_n hx hb dL_numbers_0 rfl (lv_at hl 0 rfl) ?_
  refine lv_iload_n hx hb dL_numbers_1 rfl (lv_at hl 1 rfl) ?_
  refine vp_callSi (va_Run.run (va_runV (As := [.int (nI ss)]) (rest := []) ⟨hx, hb, hml, hown, hts⟩ (k_X3_size_o l D T o Sx fi (nI ss) ) (cwV 1 hts gL_numbers_X3_size rfl rfl rfl (by decide +kernel) ⟨Nat.le_of_ble_eq_true rfl, Nat.le_of_ble_eq_true rfl⟩) (pre_V (Φ := fun X => PO D T X o Sx fi) hK ((PO.recv hP).choose_spec) rfl hP) rfl rfl hl.1 rfl (lv_room (Nat.le_of_ble_eq_true rfl)) dL_numbers_2 ⟨Nat.le_of_ble_eq_true rfl, Nat.le_of_ble_eq_true rfl⟩)) (fun r_1 hr_1 => ?_)
  subst hr_1
  refine top_i (x' := (nI (ct (fi.1.1 ss) 0 4096))) (o_siz hs6) ?_
  refine lv_istore_n (lv' := [(2, .int (nI (ct (fi.1.1 ss) 0 4096))), (0, .ref o), (1, .int (nI ss))]) hx hb dL_numbers_5 rfl hl (by decide) rfl (fun ls hl => ?_)
  refine lv_aload_n hx hb dL_numbers_6 rfl (lv_at hl 1 rfl) ?_
  refine lv_iload_n hx hb dL_numbers_7 rfl (lv_at hl 2 rfl) ?_
  refine vp_callSi (va_Run.run (va_runV (As := [.int (nI ss)]) (rest := []) ⟨hx, hb, hml, hown, hts⟩ (k_X3_runs_o l D T o Sx fi (nI ss) ) (cwV 1 hts gL_numbers_X3_runs rfl rfl rfl (by decide +kernel) ⟨Nat.le_of_ble_eq_true rfl, Nat.le_of_ble_eq_true rfl⟩) (pre_V (Φ := fun X => PO D T X o Sx fi) hK ((PO.recv hP).choose_spec) rfl hP) rfl rfl hl.1 rfl (lv_room (Nat.le_of_ble_eq_true rfl)) dL_numbers_8 ⟨Nat.le_of_ble_eq_true rfl, Nat.le_of_ble_eq_true rfl⟩)) (fun r_2 hr_2 => ?_)
  subst hr_2
  refine top_i (x' := (nI (ct (rsG (fi.1.1 ss) 0) 0 4096))) (o_rus hs6) ?_
  refine lv_istore_n (lv' := [(3, .int (nI (ct (rsG (fi.1.1 ss) 0) 0 4096))), (2, .int (nI (ct (fi.1.1 ss) 0 4096))), (0, .ref o), (1, .int (nI ss))]) hx hb dL_numbers_11 rfl hl (by decide) rfl (fun ls hl => ?_)
  refine lv_iconst (v := (nI 0)) hx hb dL_numbers_12 (by decide) ?_
  refine lv_istore (lv' := [(4, .int (nI 0)), (3, .int (nI (ct (rsG (fi.1.1 ss) 0) 0 4096))), (2, .int (nI (ct (fi.1.1 ss) 0 4096))), (0, .ref o), (1, .int (nI ss))]) hx hb dL_numbers_13 hl (by decide) rfl (fun ls hl => ?_)
  refine lv_bipush (v := (-2)) hx hb dL_numbers_15 (by decide) ?_
  refine lv_istore (lv' := [(5, .int (-2)), (4, .int (nI 0)), (3, .int (nI (ct (rsG (fi.1.1 ss) 0) 0 4096))), (2, .int (nI (ct (fi.1.1 ss) 0 4096))), (0, .ref o), (1, .int (nI ss))]) hx hb dL_numbers_17 hl (by decide) rfl (fun ls hl => ?_)
  refine lv_iconst (v := (nI 0)) hx hb dL_numbers_19 (by decide) ?_
  refine lv_istore (lv' := [(6, .int (nI 0)), (5, .int (-2)), (4, .int (nI 0)), (3, .int (nI (ct (rsG (fi.1.1 ss) 0) 0 4096))), (2, .int (nI (ct (fi.1.1 ss) 0 4096))), (0, .ref o), (1, .int (nI ss))]) hx hb dL_numbers_20 hl (by decide) rfl (fun ls hl => ?_)
  have loop22 : ∀ (n22 : Nat) (i : Nat) (P : Nat) (lz : Int32) (hi : i ≤ ct (rsG (fi.1.1 ss) 0) 0 4096) (hnu : nuB (fi.1.1 ss) i P lz) (H : Heap) (locs : List Loc) (hP : PO D T H o Sx fi) (hS : va_S (Sx) s.heap H locs) (ls : Array Slot) (hl : lv_has ls 9 [(0, .ref o), (1, .int (nI ss)), (2, .int (nI (ct (fi.1.1 ss) 0 4096))), (3, .int (nI (ct (rsG (fi.1.1 ss) 0) 0 4096))), (4, .int (nI (ct (fi.1.1 ss) 0 P))), (5, .int lz), (6, .int (nI i))]) (hn22 : ct (rsG (fi.1.1 ss) 0) 0 4096 - i < n22), W pg l ev (headSpec wsL_numbers ({ frames := 4, cells := 0, slots := 0, locals := 112 })).room s m ([.ref o, .int (nI ss)] : List Value).toArray below meth c H locs 0 0 Q (F0 m 22 ls []) := by
    intro n22
    induction n22 with
    | zero =>
      intro i P lz hi hnu H locs hP hS ls hl hn22
      exact absurd hn22 (Nat.not_lt_zero _)
    | succ n22 ih22 =>
      intro i P lz hi hnu H locs hP hS ls hl hn22
      have hP4 := hnu.1
      have hcP := ct_le (fi.1.1 ss) 0 P
      refine lv_iload hx hb dL_numbers_22 (lv_at hl 6 rfl) ?_
      refine lv_iload_n hx hb dL_numbers_24 rfl (lv_at hl 3 rfl) ?_
      refine lv_icmp_ge (tgt := 204) hx hb dL_numbers_25 (by decide) (fun c_1 => ?_) (fun c_1 => ?_)
      · skip
        have c_1 : (ct (rsG (fi.1.1 ss) 0) 0 4096) ≤ i := (nI_leI (a := (ct (rsG (fi.1.1 ss) 0) 0 4096)) (b := i) (by omega) (by omega)).mp c_1
        have hend := nu_end hnu (by omega)
        refine lv_iload hx hb dL_numbers_204 (lv_at hl 4 rfl) ?_
        refine lv_iload_n hx hb dL_numbers_206 rfl (lv_at hl 2 rfl) ?_
        refine lv_icmp_ne (tgt := 248) hx hb dL_numbers_207 (by decide) (fun c_2 => ?_) (fun c_2 => ?_)
        · skip
          have c_2 : ¬ ((ct (fi.1.1 ss) 0 P) = (ct (fi.1.1 ss) 0 4096)) := fun z => c_2 ((nI_eq (a := (ct (fi.1.1 ss) 0 P)) (b := (ct (fi.1.1 ss) 0 4096)) (by omega) (by omega)).mpr z)
          first | exact absurd rfl c_2 | exact absurd (by omega) c_2 | exact absurd c_2 (by omega)
        · skip
          have c_2 : (ct (fi.1.1 ss) 0 P) = (ct (fi.1.1 ss) 0 4096) := (nI_eq (a := (ct (fi.1.1 ss) 0 P)) (b := (ct (fi.1.1 ss) 0 4096)) (by omega) (by omega)).mp c_2
          refine lv_aload_n hx hb dL_numbers_210 rfl (lv_at hl 0 rfl) ?_
          refine lv_iload_n hx hb dL_numbers_211 rfl (lv_at hl 1 rfl) ?_
          refine lv_iload_n hx hb dL_numbers_212 rfl (lv_at hl 3 rfl) ?_
          refine va_calli (va_runV (As := [.int (nI ss), .int (nI (ct (rsG (fi.1.1 ss) 0) 0 4096))]) (rest := []) ⟨hx, hb, hml, hown, hts⟩ (k_X3_run_o l D T o Sx fi (nI ss) (nI (ct (rsG (fi.1.1 ss) 0) 0 4096)) ) (cwV 2 hts gL_numbers_X3_run rfl rfl rfl (by decide +kernel) ⟨Nat.le_of_ble_eq_true rfl, Nat.le_of_ble_eq_true rfl⟩) (pre_V (Φ := fun X => PO D T X o Sx fi) hK ((PO.recv hP).choose_spec) rfl hP) rfl rfl hl.1 rfl (lv_room (Nat.le_of_ble_eq_true rfl)) dL_numbers_213 ⟨Nat.le_of_ble_eq_true rfl, Nat.le_of_ble_eq_true rfl⟩) hS (fun q _ h => h) (fun q h => h) (fun r_3 u_1 t H_1 locs ht hvm hw hB hz hk hS => ?_)
          rw [ht] at hB
          try dsimp only at hw
          try dsimp only at hB
          subst hw
          have hP := hB
          refine top_i (x' := (-9)) (o_run9 hs6 (by omega) (nu_none _)) ?_
          refine lv_bipush (v := (-9)) hx hb dL_numbers_216 (by decide) ?_
          refine lv_icmp_ne (tgt := 248) hx hb dL_numbers_218 (by decide) (fun c_3 => ?_) (fun c_3 => ?_)
          · skip
            exact absurd rfl c_3
          · skip
            refine lv_aload_n hx hb dL_numbers_221 rfl (lv_at hl 0 rfl) ?_
            refine lv_iload_n hx hb dL_numbers_222 rfl (lv_at hl 1 rfl) ?_
            refine lv_iload_n hx hb dL_numbers_223 rfl (lv_at hl 2 rfl) ?_
            refine vp_callSi (va_Run.run (va_runV (As := [.int (nI ss), .int (nI (ct (fi.1.1 ss) 0 4096))]) (rest := []) ⟨hx, hb, hml, hown, hts⟩ (k_X3_select_o l D T o Sx fi (nI ss) (nI (ct (fi.1.1 ss) 0 4096)) ) (cwV 2 hts gL_numbers_X3_select rfl rfl rfl (by decide +kernel) ⟨Nat.le_of_ble_eq_true rfl, Nat.le_of_ble_eq_true rfl⟩) (pre_V (Φ := fun X => PO D T X o Sx fi) hK ((PO.recv hP).choose_spec) rfl hP) rfl rfl hl.1 rfl (lv_room (Nat.le_of_ble_eq_true rfl)) dL_numbers_224 ⟨Nat.le_of_ble_eq_true rfl, Nat.le_of_ble_eq_true rfl⟩)) (fun r_4 hr_4 => ?_)
            subst hr_4
            refine top_i (x' := (-9)) ((o_sel hs6 (by omega)).trans (nth_out (Nat.le_refl _) (by omega))) ?_
            refine lv_bipush (v := (-9)) hx hb dL_numbers_227 (by decide) ?_
            refine lv_icmp_ne (tgt := 248) hx hb dL_numbers_229 (by decide) (fun c_4 => ?_) (fun c_4 => ?_)
            · skip
              exact absurd rfl c_4
            · skip
              refine lv_aload_n hx hb dL_numbers_232 rfl (lv_at hl 0 rfl) ?_
              refine lv_iload_n hx hb dL_numbers_233 rfl (lv_at hl 1 rfl) ?_
              refine lv_sipush (v := (nI 4095)) hx hb dL_numbers_234 (by decide) ?_
              refine vp_callSi (va_Run.run (va_runV (As := [.int (nI ss), .int (nI 4095)]) (rest := []) ⟨hx, hb, hml, hown, hts⟩ (k_X3_rank_o l D T o Sx fi (nI ss) (nI 4095) ) (cwV 2 hts gL_numbers_X3_rank rfl rfl rfl (by decide +kernel) ⟨Nat.le_of_ble_eq_true rfl, Nat.le_of_ble_eq_true rfl⟩) (pre_V (Φ := fun X => PO D T X o Sx fi) hK ((PO.recv hP).choose_spec) rfl hP) rfl rfl hl.1 rfl (lv_room (Nat.le_of_ble_eq_true rfl)) dL_numbers_237 ⟨Nat.le_of_ble_eq_true rfl, Nat.le_of_ble_eq_true rfl⟩)) (fun r_5 hr_5 => ?_)
              subst hr_5
              refine top_i (x' := (nI (ct (fi.1.1 ss) 0 4096))) (o_rann hs6 (by decide)) ?_
              refine lv_iload_n hx hb dL_numbers_240 rfl (lv_at hl 2 rfl) ?_
              refine lv_icmp_ne (tgt := 248) hx hb dL_numbers_241 (by decide) (fun c_5 => ?_) (fun c_5 => ?_)
              · skip
                have c_5 : ¬ ((ct (fi.1.1 ss) 0 4096) = (ct (fi.1.1 ss) 0 4096)) := fun z => c_5 ((nI_eq (a := (ct (fi.1.1 ss) 0 4096)) (b := (ct (fi.1.1 ss) 0 4096)) (by omega) (by omega)).mpr z)
                first | exact absurd rfl c_5 | exact absurd (by omega) c_5 | exact absurd c_5 (by omega)
              · skip
                have c_5 : (ct (fi.1.1 ss) 0 4096) = (ct (fi.1.1 ss) 0 4096) := (nI_eq (a := (ct (fi.1.1 ss) 0 4096)) (b := (ct (fi.1.1 ss) 0 4096)) (by omega) (by omega)).mp c_5
                refine lv_iconst (v := (nI 1)) hx hb dL_numbers_244 (by decide) ?_
                refine lv_goto (tgt := 249) hx hb dL_numbers_245 (by decide) ?_
                subst hQ
                exact W.zret (v := (nI 1)) hx hb hr nb1 (fun t ht hW => ⟨⟨(nI 1), (), rfl, rfl, by have h9 := hP; rw [← ht] at h9; exact h9⟩, hS.F ht⟩) hS.2.2 dL_numbers_249
      · skip
        have c_1 : ¬ ((ct (rsG (fi.1.1 ss) 0) 0 4096) ≤ i) := fun z => c_1 ((nI_leI (a := (ct (rsG (fi.1.1 ss) 0) 0 4096)) (b := i) (by omega) (by omega)).mpr z)
        obtain ⟨f, q, hft, hq4, hn1, hn2, hlt2, hh1, hh2, hh3, hc1, hc2, hc3, hn3, hu, hd, hnx⟩ := nu_step hnu (by omega)
        refine lv_aload_n hx hb dL_numbers_28 rfl (lv_at hl 0 rfl) ?_
        refine lv_iload_n hx hb dL_numbers_29 rfl (lv_at hl 1 rfl) ?_
        refine lv_iload hx hb dL_numbers_30 (lv_at hl 6 rfl) ?_
        refine va_calli (va_runV (As := [.int (nI ss), .int (nI i)]) (rest := []) ⟨hx, hb, hml, hown, hts⟩ (k_X3_run_o l D T o Sx fi (nI ss) (nI i) ) (cwV 2 hts gL_numbers_X3_run rfl rfl rfl (by decide +kernel) ⟨Nat.le_of_ble_eq_true rfl, Nat.le_of_ble_eq_true rfl⟩) (pre_V (Φ := fun X => PO D T X o Sx fi) hK ((PO.recv hP).choose_spec) rfl hP) rfl rfl hl.1 rfl (lv_room (Nat.le_of_ble_eq_true rfl)) dL_numbers_32 ⟨Nat.le_of_ble_eq_true rfl, Nat.le_of_ble_eq_true rfl⟩) hS (fun q _ h => h) (fun q h => h) (fun r_3 u_1 t H_1 locs ht hvm hw hB hz hk hS => ?_)
        rw [ht] at hB
        try dsimp only at hw
        try dsimp only at hB
        subst hw
        have hP := hB
        refine top_i (x' := (nI (4096 * f + q))) (o_run hs6 (by omega) (by omega) hq4 hn1 hn2) ?_
        refine lv_sipush (v := (nI 4096)) hx hb dL_numbers_35 (by decide) ?_
        refine lv_idiv hx hb dL_numbers_38 (by decide) ?_
        refine top_i (pk_div (a := 4096 * f + q) (d := 4096) (by omega) (by omega) (by omega)) ?_
        refine top_i (x' := (nI f)) (congrArg nI (by omega)) ?_
        refine lv_istore (lv' := [(7, .int (nI f)), (0, .ref o), (1, .int (nI ss)), (2, .int (nI (ct (fi.1.1 ss) 0 4096))), (3, .int (nI (ct (rsG (fi.1.1 ss) 0) 0 4096))), (4, .int (nI (ct (fi.1.1 ss) 0 P))), (5, .int lz), (6, .int (nI i))]) hx hb dL_numbers_39 hl (by decide) rfl (fun ls hl => ?_)
        refine lv_aload_n hx hb dL_numbers_41 rfl (lv_at hl 1 rfl) ?_
        refine lv_iload_n hx hb dL_numbers_42 rfl (lv_at hl 2 rfl) ?_
        refine lv_iload hx hb dL_numbers_43 (lv_at hl 7 rfl) ?_
        refine va_calli (va_runV (As := [.int (nI ss), .int (nI i)]) (rest := []) ⟨hx, hb, hml, hown, hts⟩ (k_X3_run_o l D T o Sx fi (nI ss) (nI i) ) (cwV 2 hts gL_numbers_X3_run rfl rfl rfl (by decide +kernel) ⟨Nat.le_of_ble_eq_true rfl, Nat.le_of_ble_eq_true rfl⟩) (pre_V (Φ := fun X => PO D T X o Sx fi) hK ((PO.recv hP).choose_spec) rfl hP) rfl rfl hl.1 rfl (lv_room (Nat.le_of_ble_eq_true rfl)) dL_numbers_45 ⟨Nat.le_of_ble_eq_true rfl, Nat.le_of_ble_eq_true rfl⟩) hS (fun q _ h => h) (fun q h => h) (fun r_4 u_2 t H_2 locs ht hvm hw hB hz hk hS => ?_)
        rw [ht] at hB
        try dsimp only at hw
        try dsimp only at hB
        subst hw
        have hP := hB
        refine top_i (x' := (nI (4096 * f + q))) (o_run hs6 (by omega) (by omega) hq4 hn1 hn2) ?_
        refine lv_sipush (v := (nI 4096)) hx hb dL_numbers_48 (by decide) ?_
        refine lv_irem hx hb dL_numbers_51 (by decide) ?_
        refine top_i (pk_rem (a := 4096 * f + q) (d := 4096) (by omega) (by omega) (by omega)) ?_
        refine top_i (x' := (nI q)) (congrArg nI (by omega)) ?_
        refine lv_istore (lv' := [(8, .int (nI q)), (7, .int (nI f)), (0, .ref o), (1, .int (nI ss)), (2, .int (nI (ct (fi.1.1 ss) 0 4096))), (3, .int (nI (ct (rsG (fi.1.1 ss) 0) 0 4096))), (4, .int (nI (ct (fi.1.1 ss) 0 P))), (5, .int lz), (6, .int (nI i))]) hx hb dL_numbers_52 hl (by decide) rfl (fun ls hl => ?_)
        refine lv_iload hx hb dL_numbers_54 (lv_at hl 1 rfl) ?_
        refine lv_iload hx hb dL_numbers_56 (lv_at hl 7 rfl) ?_
        refine lv_iconst (v := (nI 2)) hx hb dL_numbers_58 (by decide) ?_
        refine lv_iadd hx hb dL_numbers_59 ?_
        refine lv_icmp_lt (tgt := 180) hx hb dL_numbers_60 (by decide) (fun c_2 => ?_) (fun c_2 => ?_)
        · skip
          exact absurd c_2 hlt2
        · skip
          refine lv_iload hx hb dL_numbers_63 (lv_at hl 0 rfl) ?_
          refine lv_iload hx hb dL_numbers_65 (lv_at hl 1 rfl) ?_
          refine lv_icmp_lt (tgt := 180) hx hb dL_numbers_67 (by decide) (fun c_3 => ?_) (fun c_3 => ?_)
          · skip
            have c_3 : q < f := (nI_ltI (a := q) (b := f) (by omega) (by omega)).mp c_3
            first | exact absurd rfl c_3 | exact absurd (by omega) c_3 | exact absurd c_3 (by omega)
          · skip
            have c_3 : ¬ (q < f) := fun z => c_3 ((nI_ltI (a := q) (b := f) (by omega) (by omega)).mpr z)
            refine lv_aload_n hx hb dL_numbers_70 rfl (lv_at hl 2 rfl) ?_
            refine lv_iload_n hx hb dL_numbers_71 rfl (lv_at hl 3 rfl) ?_
            refine lv_iload hx hb dL_numbers_72 (lv_at hl 1 rfl) ?_
            refine vp_callSi (va_Run.run (va_runV (As := [.int (nI ss), .int (nI f)]) (rest := []) ⟨hx, hb, hml, hown, hts⟩ (k_X3_contains_o l D T o Sx fi (nI ss) (nI f) ) (cwV 2 hts gL_numbers_X3_contains rfl rfl rfl (by decide +kernel) ⟨Nat.le_of_ble_eq_true rfl, Nat.le_of_ble_eq_true rfl⟩) (pre_V (Φ := fun X => PO D T X o Sx fi) hK ((PO.recv hP).choose_spec) rfl hP) rfl rfl hl.1 rfl (lv_room (Nat.le_of_ble_eq_true rfl)) dL_numbers_74 ⟨Nat.le_of_ble_eq_true rfl, Nat.le_of_ble_eq_true rfl⟩)) (fun r_5 hr_5 => ?_)
            subst hr_5
            refine top_i (x' := (nI 1)) ((o_con hs6 _).trans (congrArg b2i hh1)) ?_
            refine lv_iconst (v := (nI 1)) hx hb dL_numbers_77 (by decide) ?_
            refine lv_icmp_ne (tgt := 180) hx hb dL_numbers_78 (by decide) (fun c_4 => ?_) (fun c_4 => ?_)
            · skip
              exact absurd rfl c_4
            · skip
              refine lv_aload_n hx hb dL_numbers_81 rfl (lv_at hl 2 rfl) ?_
              refine lv_iload_n hx hb dL_numbers_82 rfl (lv_at hl 3 rfl) ?_
              refine lv_iload hx hb dL_numbers_83 (lv_at hl 0 rfl) ?_
              refine vp_callSi (va_Run.run (va_runV (As := [.int (nI ss), .int (nI q)]) (rest := []) ⟨hx, hb, hml, hown, hts⟩ (k_X3_contains_o l D T o Sx fi (nI ss) (nI q) ) (cwV 2 hts gL_numbers_X3_contains rfl rfl rfl (by decide +kernel) ⟨Nat.le_of_ble_eq_true rfl, Nat.le_of_ble_eq_true rfl⟩) (pre_V (Φ := fun X => PO D T X o Sx fi) hK ((PO.recv hP).choose_spec) rfl hP) rfl rfl hl.1 rfl (lv_room (Nat.le_of_ble_eq_true rfl)) dL_numbers_85 ⟨Nat.le_of_ble_eq_true rfl, Nat.le_of_ble_eq_true rfl⟩)) (fun r_6 hr_6 => ?_)
              subst hr_6
              refine top_i (x' := (nI 1)) ((o_con hs6 _).trans (congrArg b2i hh2)) ?_
              refine lv_iconst (v := (nI 1)) hx hb dL_numbers_88 (by decide) ?_
              refine lv_icmp_ne (tgt := 180) hx hb dL_numbers_89 (by decide) (fun c_5 => ?_) (fun c_5 => ?_)
              · skip
                exact absurd rfl c_5
              · skip
                refine lv_aload_n hx hb dL_numbers_92 rfl (lv_at hl 2 rfl) ?_
                refine lv_iload_n hx hb dL_numbers_93 rfl (lv_at hl 3 rfl) ?_
                refine lv_iload hx hb dL_numbers_94 (lv_at hl 0 rfl) ?_
                refine lv_iconst (v := (nI 1)) hx hb dL_numbers_96 (by decide) ?_
                refine lv_iadd hx hb dL_numbers_97 ?_
                refine top_i (nI_add q 1) ?_
                refine vp_callSi (va_Run.run (va_runV (As := [.int (nI ss), .int (nI (q + 1))]) (rest := []) ⟨hx, hb, hml, hown, hts⟩ (k_X3_contains_o l D T o Sx fi (nI ss) (nI (q + 1)) ) (cwV 2 hts gL_numbers_X3_contains rfl rfl rfl (by decide +kernel) ⟨Nat.le_of_ble_eq_true rfl, Nat.le_of_ble_eq_true rfl⟩) (pre_V (Φ := fun X => PO D T X o Sx fi) hK ((PO.recv hP).choose_spec) rfl hP) rfl rfl hl.1 rfl (lv_room (Nat.le_of_ble_eq_true rfl)) dL_numbers_98 ⟨Nat.le_of_ble_eq_true rfl, Nat.le_of_ble_eq_true rfl⟩)) (fun r_7 hr_7 => ?_)
                subst hr_7
                refine top_i (x' := (nI 0)) ((o_con hs6 _).trans (congrArg b2i hh3)) ?_
                refine lv_if_ne (tgt := 180) hx hb dL_numbers_101 (by decide) (fun c_6 => ?_) (fun c_6 => ?_)
                · skip
                  exact absurd (by decide) c_6
                · skip
                  refine lv_aload_n hx hb dL_numbers_104 rfl (lv_at hl 2 rfl) ?_
                  refine lv_iload_n hx hb dL_numbers_105 rfl (lv_at hl 3 rfl) ?_
                  refine lv_iload hx hb dL_numbers_106 (lv_at hl 1 rfl) ?_
                  refine vp_callSi (va_Run.run (va_runV (As := [.int (nI ss), .int (nI f)]) (rest := []) ⟨hx, hb, hml, hown, hts⟩ (k_X3_rank_o l D T o Sx fi (nI ss) (nI f) ) (cwV 2 hts gL_numbers_X3_rank rfl rfl rfl (by decide +kernel) ⟨Nat.le_of_ble_eq_true rfl, Nat.le_of_ble_eq_true rfl⟩) (pre_V (Φ := fun X => PO D T X o Sx fi) hK ((PO.recv hP).choose_spec) rfl hP) rfl rfl hl.1 rfl (lv_room (Nat.le_of_ble_eq_true rfl)) dL_numbers_108 ⟨Nat.le_of_ble_eq_true rfl, Nat.le_of_ble_eq_true rfl⟩)) (fun r_8 hr_8 => ?_)
                  subst hr_8
                  refine top_i (x' := (nI (ct (fi.1.1 ss) 0 P + 1))) ((o_ran hs6 _).trans (congrArg nI hc1)) ?_
                  refine lv_iload hx hb dL_numbers_111 (lv_at hl 6 rfl) ?_
                  refine lv_iconst (v := (nI 1)) hx hb dL_numbers_113 (by decide) ?_
                  refine lv_iadd hx hb dL_numbers_114 ?_
                  refine top_i (nI_add (ct (fi.1.1 ss) 0 P) 1) ?_
                  refine lv_icmp_ne (tgt := 180) hx hb dL_numbers_115 (by decide) (fun c_7 => ?_) (fun c_7 => ?_)
                  · skip
                    have c_7 : ¬ ((ct (fi.1.1 ss) 0 P + 1) = ((ct (fi.1.1 ss) 0 P) + 1)) := fun z => c_7 ((nI_eq (a := (ct (fi.1.1 ss) 0 P + 1)) (b := ((ct (fi.1.1 ss) 0 P) + 1)) (by omega) (by omega)).mpr z)
                    first | exact absurd rfl c_7 | exact absurd (by omega) c_7 | exact absurd c_7 (by omega)
                  · skip
                    have c_7 : (ct (fi.1.1 ss) 0 P + 1) = ((ct (fi.1.1 ss) 0 P) + 1) := (nI_eq (a := (ct (fi.1.1 ss) 0 P + 1)) (b := ((ct (fi.1.1 ss) 0 P) + 1)) (by omega) (by omega)).mp c_7
                    refine lv_aload_n hx hb dL_numbers_118 rfl (lv_at hl 2 rfl) ?_
                    refine lv_iload_n hx hb dL_numbers_119 rfl (lv_at hl 3 rfl) ?_
                    refine lv_iload hx hb dL_numbers_120 (lv_at hl 0 rfl) ?_
                    refine vp_callSi (va_Run.run (va_runV (As := [.int (nI ss), .int (nI q)]) (rest := []) ⟨hx, hb, hml, hown, hts⟩ (k_X3_rank_o l D T o Sx fi (nI ss) (nI q) ) (cwV 2 hts gL_numbers_X3_rank rfl rfl rfl (by decide +kernel) ⟨Nat.le_of_ble_eq_true rfl, Nat.le_of_ble_eq_true rfl⟩) (pre_V (Φ := fun X => PO D T X o Sx fi) hK ((PO.recv hP).choose_spec) rfl hP) rfl rfl hl.1 rfl (lv_room (Nat.le_of_ble_eq_true rfl)) dL_numbers_122 ⟨Nat.le_of_ble_eq_true rfl, Nat.le_of_ble_eq_true rfl⟩)) (fun r_9 hr_9 => ?_)
                    subst hr_9
                    refine top_i (x' := (nI (ct (fi.1.1 ss) 0 P + (q - f) + 1))) ((o_ran hs6 _).trans (congrArg nI hc2)) ?_
                    refine lv_iload hx hb dL_numbers_125 (lv_at hl 6 rfl) ?_
                    refine lv_iload hx hb dL_numbers_127 (lv_at hl 0 rfl) ?_
                    refine lv_iadd hx hb dL_numbers_129 ?_
                    refine top_i (nI_add (ct (fi.1.1 ss) 0 P) q) ?_
                    refine lv_iload hx hb dL_numbers_130 (lv_at hl 1 rfl) ?_
                    refine lv_isub hx hb dL_numbers_132 ?_
                    refine top_i (pk_sub (a := (ct (fi.1.1 ss) 0 P) + q) (b := f) (by omega)) ?_
                    refine lv_iconst (v := (nI 1)) hx hb dL_numbers_133 (by decide) ?_
                    refine lv_iadd hx hb dL_numbers_134 ?_
                    refine top_i (nI_add (((ct (fi.1.1 ss) 0 P) + q) - f) 1) ?_
                    refine lv_icmp_ne (tgt := 180) hx hb dL_numbers_135 (by decide) (fun c_8 => ?_) (fun c_8 => ?_)
                    · skip
                      have c_8 : ¬ ((ct (fi.1.1 ss) 0 P + (q - f) + 1) = ((((ct (fi.1.1 ss) 0 P) + q) - f) + 1)) := fun z => c_8 ((nI_eq (a := (ct (fi.1.1 ss) 0 P + (q - f) + 1)) (b := ((((ct (fi.1.1 ss) 0 P) + q) - f) + 1)) (by omega) (by omega)).mpr z)
                      first | exact absurd rfl c_8 | exact absurd (by omega) c_8 | exact absurd c_8 (by omega)
                    · skip
                      have c_8 : (ct (fi.1.1 ss) 0 P + (q - f) + 1) = ((((ct (fi.1.1 ss) 0 P) + q) - f) + 1) := (nI_eq (a := (ct (fi.1.1 ss) 0 P + (q - f) + 1)) (b := ((((ct (fi.1.1 ss) 0 P) + q) - f) + 1)) (by omega) (by omega)).mp c_8
                      refine lv_aload_n hx hb dL_numbers_138 rfl (lv_at hl 2 rfl) ?_
                      refine lv_iload_n hx hb dL_numbers_139 rfl (lv_at hl 3 rfl) ?_
                      refine lv_iload hx hb dL_numbers_140 (lv_at hl 6 rfl) ?_
                      refine vp_callSi (va_Run.run (va_runV (As := [.int (nI ss), .int (nI (ct (fi.1.1 ss) 0 P))]) (rest := []) ⟨hx, hb, hml, hown, hts⟩ (k_X3_select_o l D T o Sx fi (nI ss) (nI (ct (fi.1.1 ss) 0 P)) ) (cwV 2 hts gL_numbers_X3_select rfl rfl rfl (by decide +kernel) ⟨Nat.le_of_ble_eq_true rfl, Nat.le_of_ble_eq_true rfl⟩) (pre_V (Φ := fun X => PO D T X o Sx fi) hK ((PO.recv hP).choose_spec) rfl hP) rfl rfl hl.1 rfl (lv_room (Nat.le_of_ble_eq_true rfl)) dL_numbers_142 ⟨Nat.le_of_ble_eq_true rfl, Nat.le_of_ble_eq_true rfl⟩)) (fun r_10 hr_10 => ?_)
                      subst hr_10
                      refine top_i (x' := (nI f)) ((o_sel hs6 (by omega)).trans hn3) ?_
                      refine lv_iload hx hb dL_numbers_145 (lv_at hl 1 rfl) ?_
                      refine lv_icmp_ne (tgt := 180) hx hb dL_numbers_147 (by decide) (fun c_9 => ?_) (fun c_9 => ?_)
                      · skip
                        have c_9 : ¬ (f = f) := fun z => c_9 ((nI_eq (a := f) (b := f) (by omega) (by omega)).mpr z)
                        first | exact absurd rfl c_9 | exact absurd (by omega) c_9 | exact absurd c_9 (by omega)
                      · skip
                        have c_9 : f = f := (nI_eq (a := f) (b := f) (by omega) (by omega)).mp c_9
                        refine lv_aload_n hx hb dL_numbers_150 rfl (lv_at hl 2 rfl) ?_
                        refine lv_iload_n hx hb dL_numbers_151 rfl (lv_at hl 3 rfl) ?_
                        refine lv_iload hx hb dL_numbers_152 (lv_at hl 7 rfl) ?_
                        refine lv_iconst (v := (nI 1)) hx hb dL_numbers_154 (by decide) ?_
                        refine lv_iadd hx hb dL_numbers_155 ?_
                        refine lv_iconst (v := (nI 1)) hx hb dL_numbers_156 (by decide) ?_
                        refine vp_callSi (va_Run.run (va_runV (As := [.int (nI ss), .int (lz + (nI 1)), .int (nI 1)]) (rest := []) ⟨hx, hb, hml, hown, hts⟩ (k_X3_near_o l D T o Sx fi (nI ss) (lz + (nI 1)) (nI 1) ) (cwV 3 hts gL_numbers_X3_near rfl rfl rfl (by decide +kernel) ⟨Nat.le_of_ble_eq_true rfl, Nat.le_of_ble_eq_true rfl⟩) (pre_V (Φ := fun X => PO D T X o Sx fi) hK ((PO.recv hP).choose_spec) rfl hP) rfl rfl hl.1 rfl (lv_room (Nat.le_of_ble_eq_true rfl)) dL_numbers_157 ⟨Nat.le_of_ble_eq_true rfl, Nat.le_of_ble_eq_true rfl⟩)) (fun r_11 hr_11 => ?_)
                        subst hr_11
                        refine top_i (x' := (nI f)) ((o_neu hs6 _).trans hu) ?_
                        refine lv_iload hx hb dL_numbers_160 (lv_at hl 1 rfl) ?_
                        refine lv_icmp_ne (tgt := 180) hx hb dL_numbers_162 (by decide) (fun c_10 => ?_) (fun c_10 => ?_)
                        · skip
                          have c_10 : ¬ (f = f) := fun z => c_10 ((nI_eq (a := f) (b := f) (by omega) (by omega)).mpr z)
                          first | exact absurd rfl c_10 | exact absurd (by omega) c_10 | exact absurd c_10 (by omega)
                        · skip
                          have c_10 : f = f := (nI_eq (a := f) (b := f) (by omega) (by omega)).mp c_10
                          refine lv_aload_n hx hb dL_numbers_165 rfl (lv_at hl 2 rfl) ?_
                          refine lv_iload_n hx hb dL_numbers_166 rfl (lv_at hl 3 rfl) ?_
                          refine lv_iload hx hb dL_numbers_167 (lv_at hl 0 rfl) ?_
                          refine lv_iconst (v := (nI 1)) hx hb dL_numbers_169 (by decide) ?_
                          refine lv_iadd hx hb dL_numbers_170 ?_
                          refine top_i (nI_add q 1) ?_
                          refine lv_iconst (v := (nI 0)) hx hb dL_numbers_171 (by decide) ?_
                          refine vp_callSi (va_Run.run (va_runV (As := [.int (nI ss), .int (nI (q + 1)), .int (nI 0)]) (rest := []) ⟨hx, hb, hml, hown, hts⟩ (k_X3_near_o l D T o Sx fi (nI ss) (nI (q + 1)) (nI 0) ) (cwV 3 hts gL_numbers_X3_near rfl rfl rfl (by decide +kernel) ⟨Nat.le_of_ble_eq_true rfl, Nat.le_of_ble_eq_true rfl⟩) (pre_V (Φ := fun X => PO D T X o Sx fi) hK ((PO.recv hP).choose_spec) rfl hP) rfl rfl hl.1 rfl (lv_room (Nat.le_of_ble_eq_true rfl)) dL_numbers_172 ⟨Nat.le_of_ble_eq_true rfl, Nat.le_of_ble_eq_true rfl⟩)) (fun r_12 hr_12 => ?_)
                          subst hr_12
                          refine top_i (x' := (nI q)) ((o_ned hs6 _).trans hd) ?_
                          refine lv_iload hx hb dL_numbers_175 (lv_at hl 0 rfl) ?_
                          refine lv_icmp_eq (tgt := 182) hx hb dL_numbers_177 (by decide) (fun c_11 => ?_) (fun c_11 => ?_)
                          · skip
                            have c_11 : q = q := (nI_eq (a := q) (b := q) (by omega) (by omega)).mp c_11
                            refine lv_iload hx hb dL_numbers_182 (lv_at hl 6 rfl) ?_
                            refine lv_iload hx hb dL_numbers_184 (lv_at hl 0 rfl) ?_
                            refine lv_iload hx hb dL_numbers_186 (lv_at hl 1 rfl) ?_
                            refine lv_isub hx hb dL_numbers_188 ?_
                            refine top_i (pk_sub (a := q) (b := f) (by omega)) ?_
                            refine lv_iconst (v := (nI 1)) hx hb dL_numbers_189 (by decide) ?_
                            refine lv_iadd hx hb dL_numbers_190 ?_
                            refine top_i (nI_add (q - f) 1) ?_
                            refine lv_iadd hx hb dL_numbers_191 ?_
                            refine top_i (nI_add (ct (fi.1.1 ss) 0 P) ((q - f) + 1)) ?_
                            refine lv_istore (lv' := [(4, .int (nI ((ct (fi.1.1 ss) 0 P) + ((q - f) + 1)))), (8, .int (nI q)), (7, .int (nI f)), (0, .ref o), (1, .int (nI ss)), (2, .int (nI (ct (fi.1.1 ss) 0 4096))), (3, .int (nI (ct (rsG (fi.1.1 ss) 0) 0 4096))), (5, .int lz), (6, .int (nI i))]) hx hb dL_numbers_192 hl (by decide) rfl (fun ls hl => ?_)
                            refine lv_iload hx hb dL_numbers_194 (lv_at hl 1 rfl) ?_
                            refine lv_istore (lv' := [(5, .int (nI q)), (4, .int (nI ((ct (fi.1.1 ss) 0 P) + ((q - f) + 1)))), (8, .int (nI q)), (7, .int (nI f)), (0, .ref o), (1, .int (nI ss)), (2, .int (nI (ct (fi.1.1 ss) 0 4096))), (3, .int (nI (ct (rsG (fi.1.1 ss) 0) 0 4096))), (6, .int (nI i))]) hx hb dL_numbers_196 hl (by decide) rfl (fun ls hl => ?_)
                            refine lv_iinc (v := (nI (i + 1))) (lv' := [(6, .int (nI (i + 1))), (5, .int (nI q)), (4, .int (nI ((ct (fi.1.1 ss) 0 P) + ((q - f) + 1)))), (8, .int (nI q)), (7, .int (nI f)), (0, .ref o), (1, .int (nI ss)), (2, .int (nI (ct (fi.1.1 ss) 0 4096))), (3, .int (nI (ct (rsG (fi.1.1 ss) 0) 0 4096)))]) hx hb dL_numbers_198 hl (k := 8) rfl (iinc_n i 1) (by decide) rfl (fun ls hl => ?_)
                            refine lv_goto (tgt := 22) hx hb dL_numbers_201 (by decide) ?_
                            have hl := lv_sub hl (l' := [(0, .ref o), (1, .int (nI ss)), (2, .int (nI (ct (fi.1.1 ss) 0 4096))), (3, .int (nI (ct (rsG (fi.1.1 ss) 0) 0 4096))), (4, .int (nI ((ct (fi.1.1 ss) 0 P) + ((q - f) + 1)))), (5, .int (nI q)), (6, .int (nI (i + 1)))]) [5, 6, 7, 8, 2, 1, 0] rfl
                            have q_1 : (nI ((ct (fi.1.1 ss) 0 P) + ((q - f) + 1))) = (nI (ct (fi.1.1 ss) 0 (q + 1))) := congrArg nI (by omega)
                            have hl : lv_has ls 9 [(0, .ref o), (1, .int (nI ss)), (2, .int (nI (ct (fi.1.1 ss) 0 4096))), (3, .int (nI (ct (rsG (fi.1.1 ss) 0) 0 4096))), (4, .int (nI (ct (fi.1.1 ss) 0 (q + 1)))), (5, .int (nI q)), (6, .int (nI (i + 1)))] := by
                              have h := hl
                              rw [q_1] at h
                              exact h
                            exact ih22 (i + 1) (q + 1) (nI q) (by omega) (hnx) H_2 _ hP hS ls hl (by omega)
                          · skip
                            have c_11 : ¬ (q = q) := fun z => c_11 ((nI_eq (a := q) (b := q) (by omega) (by omega)).mpr z)
                            first | exact absurd rfl c_11 | exact absurd (by omega) c_11 | exact absurd c_11 (by omega)
  have hl := lv_sub hl (l' := [(0, .ref o), (1, .int (nI ss)), (2, .int (nI (ct (fi.1.1 ss) 0 4096))), (3, .int (nI (ct (rsG (fi.1.1 ss) 0) 0 4096))), (4, .int (nI 0)), (5, .int (-2)), (6, .int (nI 0))]) [5, 6, 4, 3, 2, 1, 0] rfl
  have q_1 : (nI 0) = (nI (ct (fi.1.1 ss) 0 0)) := rfl
  have hl : lv_has ls 9 [(0, .ref o), (1, .int (nI ss)), (2, .int (nI (ct (fi.1.1 ss) 0 4096))), (3, .int (nI (ct (rsG (fi.1.1 ss) 0) 0 4096))), (4, .int (nI (ct (fi.1.1 ss) 0 0))), (5, .int (-2)), (6, .int (nI 0))] := by
    have h := hl
    rw [q_1] at h
    exact h
  exact loop22 (ct (rsG (fi.1.1 ss) 0) 0 4096 - 0 + 1) 0 0 (-2) (Nat.zero_le _) (nu_0 _) s.heap _ hP hS ls hl (Nat.lt_succ_self _)
