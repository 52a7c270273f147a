set_option maxHeartbeats 2000000 in
set_option maxRecDepth 100000 in
theorem k_X4_byteOf (l : Launch) (D : va_G) (T : Nat → ClassId) (M : Nat → Nat) (v : Nat → Int32) (as : Nat → Int32) (pa : Nat → Int32) (pk : Nat) (bu : Nat → Int32) (bm : Nat) (bi : Nat → Int32) (at0 : Nat) (ss : Nat) (k : Nat) (zz : Nat) (hs : ss < 6) (hk : k < 16) (hz : zz < pcst (bI v ss) k) : Met l yX4_byteOf wsX4_byteOf ({ frames := 3, cells := 0, slots := 0, locals := 71 }) (va_Pc [.ref (M 0), .int (nI ss), .int (nI k), .int (nI zz)] (fun U => KS D T U ∧ MO D T U.heap M v as pa pk bu bm bi at0)) (vp_Si (fun r => r = (wb (bI v ss) k zz))) 0 0 (fun _ => False) := by
  refine Met.ofW (cc := cX4_byteOf) (maxL := 10) (ret := (some .int)) (by decide) rfl ?_
  intro pg ev s m args below meth c s₁ B hml hv
  obtain ⟨rfl, hK, hH⟩ := hv
  have hx := B.exec
  have hb := B.bytes
  have hr := B.returns
  have hts := atoms_spec (ws := wsX4_byteOf) B.pre
  have hown : s.vm.findClass RX4 = some m.cls := findClass_of_methodNamed B.named
  have hlocks := B.notSynchronized
  have in_wsX40 : ∀ w ∈ wsX40, w ∈ wsX4_byteOf := fun w h => List.mem_cons_of_mem _ (List.mem_append_right _ h)
  have hl := lv_entry ([.ref (M 0), .int (nI ss), .int (nI k), .int (nI zz)]) (n := 10) (Nat.le_of_ble_eq_true rfl)
  rw [lg_entry_eq]
  generalize (lg_sl ([.ref (M 0), .int (nI ss), .int (nI k), .int (nI zz)]) ++ List.replicate (10 - (lg_sl ([.ref (M 0), .int (nI ss), .int (nI k), .int (nI zz)])).length) Slot.unset).toArray = ls at hl ⊢
  have hl : lv_has ls 10 [(0, .ref (M 0)), (1, .int (nI ss)), (2, .int (nI k)), (3, .int (nI zz))] := hl
  refine W_gen (fun Q hQ => ?_)
  have hM := hH
  have hcs9 := cst_le (pn (bI v ss) k) (pr (bI v ss) k)
  have hz9 : zz < 34 := Nat.lt_of_lt_of_le hz (Nat.le_trans hcs9 (by decide))
  refine lv_aload_n hx hb dX4_byteOf_0 rfl (lv_at hl 0 rfl) ?_
  refine lv_iload_n hx hb dX4_byteOf_1 rfl (lv_at hl 1 rfl) ?_
  refine lv_iload_n hx hb dX4_byteOf_2 rfl (lv_at hl 2 rfl) ?_
  refine lv_iconst (v := (nI 0)) hx hb dX4_byteOf_3 (by decide) ?_
  refine vp_callSi (va_Run.run (va_runV (As := [.int (nI ss), .int (nI k), .int (nI 0)]) (rest := []) ⟨hx, hb, hml, hown, hts⟩ (k_X4_told l D T M v as pa pk bu bm bi at0 ss k (nI 0) (by omega) (by omega)) (cwV 3 hts gX4_byteOf_X4_told rfl rfl rfl (by decide +kernel) ⟨Nat.le_of_ble_eq_true rfl, Nat.le_of_ble_eq_true rfl⟩) (pre_V (Φ := fun X => MO D T X M v as pa pk bu bm bi at0) hK (hM.2.1) rfl hM) rfl rfl hl.1 rfl (lv_room (Nat.le_of_ble_eq_true rfl)) dX4_byteOf_4 ⟨Nat.le_of_ble_eq_true rfl, Nat.le_of_ble_eq_true rfl⟩)) (fun r_1 hr_1 => ?_)
  subst hr_1
  refine top_i (x' := (pkd (bI v ss) k)) (if_pos rfl) ?_
  refine lv_istore (lv' := [(4, .int (pkd (bI v ss) k)), (0, .ref (M 0)), (1, .int (nI ss)), (2, .int (nI k)), (3, .int (nI zz))]) hx hb dX4_byteOf_7 hl (by decide) rfl (fun ls hl => ?_)
  refine lv_sipush (v := (nI 256)) hx hb dX4_byteOf_9 (by decide) ?_
  refine lv_iload_n hx hb dX4_byteOf_12 rfl (lv_at hl 3 rfl) ?_
  refine lv_imul hx hb dX4_byteOf_13 ?_
  refine top_i (pk_mul 256 k) ?_
  refine lv_istore (lv' := [(5, .int (nI (256 * k))), (4, .int (pkd (bI v ss) k)), (0, .ref (M 0)), (1, .int (nI ss)), (2, .int (nI k)), (3, .int (nI zz))]) hx hb dX4_byteOf_14 hl (by decide) rfl (fun ls hl => ?_)
  refine lv_iload_n hx hb dX4_byteOf_16 rfl (lv_at hl 5 rfl) ?_
  refine lv_if_ne (tgt := 27) hx hb dX4_byteOf_17 (by decide) (fun c_1 => ?_) (fun c_1 => ?_)
  · skip
    have c_1 : ¬ (zz = 0) := fun z => c_1 ((nI_e0 (a := zz) (by omega)).mpr z)
    refine lv_iload hx hb dX4_byteOf_27 (lv_at hl 1 rfl) ?_
    refine lv_iconst (v := (nI 2)) hx hb dX4_byteOf_29 (by decide) ?_
    refine lv_icmp_ne (tgt := 88) hx hb dX4_byteOf_30 (by decide) (fun c_2 => ?_) (fun c_2 => ?_)
    · skip
      rcases pkd_cases hz with ⟨hk0, hcs⟩ | ⟨hk0, hcs⟩ | ⟨hk0, hcs⟩
      · skip
        have k_1 : pkd (bI v ss) k = nI 0 := hk0
        have hl : lv_has ls 10 [(5, .int (nI (256 * k))), (4, .int (nI 0)), (0, .ref (M 0)), (1, .int (nI ss)), (2, .int (nI k)), (3, .int (nI zz))] := by have h := hl; rw [k_1] at h; exact h
        refine lv_iload_n hx hb dX4_byteOf_88 rfl (lv_at hl 5 rfl) ?_
        refine lv_iconst (v := (nI 1)) hx hb dX4_byteOf_89 (by decide) ?_
        refine lv_icmp_ne (tgt := 110) hx hb dX4_byteOf_90 (by decide) (fun c_3 => ?_) (fun c_3 => ?_)
        · skip
          have c_3 : ¬ (zz = 1) := fun z => c_3 ((nI_eq (a := zz) (b := 1) (by omega) (by omega)).mpr z)
          refine lv_iload_n hx hb dX4_byteOf_110 rfl (lv_at hl 5 rfl) ?_
          refine lv_iconst (v := (nI 2)) hx hb dX4_byteOf_111 (by decide) ?_
          refine lv_isub hx hb dX4_byteOf_112 ?_
          refine top_i (pk_sub (a := zz) (b := 2) (by omega)) ?_
          refine lv_istore (lv' := [(6, .int (nI (zz - 2))), (5, .int (nI (256 * k))), (4, .int (nI 0)), (0, .ref (M 0)), (1, .int (nI ss)), (2, .int (nI k)), (3, .int (nI zz))]) hx hb dX4_byteOf_113 hl (by decide) rfl (fun ls hl => ?_)
          refine lv_iconst (v := (nI 0)) hx hb dX4_byteOf_115 (by decide) ?_
          refine lv_istore (lv' := [(7, .int (nI 0)), (6, .int (nI (zz - 2))), (5, .int (nI (256 * k))), (4, .int (nI 0)), (0, .ref (M 0)), (1, .int (nI ss)), (2, .int (nI k)), (3, .int (nI zz))]) hx hb dX4_byteOf_116 hl (by decide) rfl (fun ls hl => ?_)
          have loop118 : ∀ (n118 : Nat) (x : Nat) (q : Nat) (hxx : x ≤ 256) (hq : q < 2 ^ 31) (hv : nthF (pcb (bI v ss) k) (256 - x) x q = nthF (pcb (bI v ss) k) 256 0 (zz - 2)) (ls : Array Slot) (hl : lv_has ls 10 [(0, .ref (M 0)), (1, .int (nI ss)), (2, .int (nI k)), (3, .int (nI zz)), (4, .int (nI 0)), (5, .int (nI (256 * k))), (6, .int (nI q)), (7, .int (nI x))]) (hn118 : 256 - x < n118), W pg l ev (headSpec wsX4_byteOf ({ frames := 3, cells := 0, slots := 0, locals := 71 })).room s m ([.ref (M 0), .int (nI ss), .int (nI k), .int (nI zz)] : List Value).toArray below meth c s.heap [] 0 0 Q (F0 m 118 ls []) := by
            intro n118
            induction n118 with
            | zero =>
              intro x q hxx hq hv ls hl hn118
              exact absurd hn118 (Nat.not_lt_zero _)
            | succ n118 ih118 =>
              intro x q hxx hq hv ls hl hn118
              refine lv_iload hx hb dX4_byteOf_118 (lv_at hl 7 rfl) ?_
              refine lv_sipush (v := (nI 256)) hx hb dX4_byteOf_120 (by decide) ?_
              refine lv_icmp_ge (tgt := 245) hx hb dX4_byteOf_123 (by decide) (fun c_4 => ?_) (fun c_4 => ?_)
              · skip
                have c_4 : 256 ≤ x := (nI_leI (a := 256) (b := x) (by omega) (by omega)).mp c_4
                refine lv_bipush (v := (-9)) hx hb dX4_byteOf_245 (by decide) ?_
                subst hQ
                refine W.iret (v := (-9)) hx hb hr (fun t ht hW => ⟨(-9), rfl, ?_, ht⟩) (fun q h => absurd h List.not_mem_nil) dX4_byteOf_247
                rw [wb_a c_1 hk0 c_3, ← hv, show 256 - x = 0 by omega]
                exact rfl
              · skip
                have c_4 : ¬ (256 ≤ x) := fun z => c_4 ((nI_leI (a := 256) (b := x) (by omega) (by omega)).mpr z)
                refine lv_aload_n hx hb dX4_byteOf_126 rfl (lv_at hl 0 rfl) ?_
                refine lv_iload_n hx hb dX4_byteOf_127 rfl (lv_at hl 1 rfl) ?_
                refine lv_iload hx hb dX4_byteOf_128 (lv_at hl 5 rfl) ?_
                refine lv_iload hx hb dX4_byteOf_130 (lv_at hl 7 rfl) ?_
                refine lv_iadd hx hb dX4_byteOf_132 ?_
                refine top_i (nI_add (256 * k) x) ?_
                refine vp_callSi (va_Run.run (va_runV (As := [.int (nI ss), .int (nI ((256 * k) + x))]) (rest := []) ⟨hx, hb, hml, hown, hts⟩ (k_X4_has l D T M v as pa pk bu bm bi at0 ss ((256 * k) + x) (by omega) (by omega)) (cwV 2 hts gX4_byteOf_X4_has rfl rfl rfl (by decide +kernel) ⟨Nat.le_of_ble_eq_true rfl, Nat.le_of_ble_eq_true rfl⟩) (pre_V (Φ := fun X => MO D T X M v as pa pk bu bm bi at0) hK (hM.2.1) rfl hM) rfl rfl hl.1 rfl (lv_room (Nat.le_of_ble_eq_true rfl)) dX4_byteOf_133 ⟨Nat.le_of_ble_eq_true rfl, Nat.le_of_ble_eq_true rfl⟩)) (fun r_2 hr_2 => ?_)
                subst hr_2
                refine top_i (x' := (b2i ((pcb (bI v ss) k) x))) (rfl) ?_
                refine lv_if_eq (tgt := 239) hx hb dX4_byteOf_136 (by decide) (fun c_5 => ?_) (fun c_5 => ?_)
                · skip
                  have c_5 : (pcb (bI v ss) k) x = false := b2i_0.mp c_5
                  refine lv_iinc (v := (nI (x + 1))) (lv' := [(7, .int (nI (x + 1))), (0, .ref (M 0)), (1, .int (nI ss)), (2, .int (nI k)), (3, .int (nI zz)), (4, .int (nI 0)), (5, .int (nI (256 * k))), (6, .int (nI q))]) hx hb dX4_byteOf_239 hl (k := 7) rfl (iinc_n x 1) (by decide) rfl (fun ls hl => ?_)
                  refine lv_goto (tgt := 118) hx hb dX4_byteOf_242 (by decide) ?_
                  have hl := lv_sub hl (l' := [(0, .ref (M 0)), (1, .int (nI ss)), (2, .int (nI k)), (3, .int (nI zz)), (4, .int (nI 0)), (5, .int (nI (256 * k))), (6, .int (nI q)), (7, .int (nI (x + 1)))]) [1, 2, 3, 4, 5, 6, 7, 0] rfl
                  exact ih118 (x + 1) q (by omega) (by omega) (by rw [show 256 - x = (256 - (x + 1)) + 1 by omega, nthF_s (pcb (bI v ss) k) (256 - (x + 1)) x q, if_neg (show ¬ ((pcb (bI v ss) k) x = true) by rw [c_5]; exact Bool.false_ne_true)] at hv; exact hv) ls hl (by omega)
                · skip
                  have c_5 : (pcb (bI v ss) k) x = true := b2i_n0.mp c_5
                  refine lv_iload hx hb dX4_byteOf_139 (lv_at hl 7 rfl) ?_
                  refine lv_if_eq (tgt := 159) hx hb dX4_byteOf_141 (by decide) (fun c_6 => ?_) (fun c_6 => ?_)
                  · skip
                    have c_6 : x = 0 := (nI_e0 (a := x) (by omega)).mp c_6
                    refine lv_iconst (v := (nI 1)) hx hb dX4_byteOf_159 (by decide) ?_
                    refine lv_goto (tgt := 164) hx hb dX4_byteOf_160 (by decide) ?_
                    refine lv_istore (lv' := [(8, .int (nI 1)), (0, .ref (M 0)), (1, .int (nI ss)), (2, .int (nI k)), (3, .int (nI zz)), (4, .int (nI 0)), (5, .int (nI (256 * k))), (6, .int (nI q)), (7, .int (nI x))]) hx hb dX4_byteOf_164 hl (by decide) rfl (fun ls hl => ?_)
                    have hst : stA (pcb (bI v ss) k) x = true := stA_0 _ c_6
                    refine lv_iload hx hb dX4_byteOf_166 (lv_at hl 8 rfl) ?_
                    refine lv_sipush (v := (nI 255)) hx hb dX4_byteOf_168 (by decide) ?_
                    refine lv_icmp_eq (tgt := 189) hx hb dX4_byteOf_171 (by decide) (fun c_7 => ?_) (fun c_7 => ?_)
                    · skip
                      have c_7 : x = 255 := (nI_eq (a := x) (b := 255) (by omega) (by omega)).mp c_7
                      refine lv_iconst (v := (nI 1)) hx hb dX4_byteOf_189 (by decide) ?_
                      refine lv_goto (tgt := 194) hx hb dX4_byteOf_190 (by decide) ?_
                      refine lv_istore (lv' := [(9, .int (nI 1)), (8, .int (nI 1)), (0, .ref (M 0)), (1, .int (nI ss)), (2, .int (nI k)), (3, .int (nI zz)), (4, .int (nI 0)), (5, .int (nI (256 * k))), (6, .int (nI q)), (7, .int (nI x))]) hx hb dX4_byteOf_194 hl (by decide) rfl (fun ls hl => ?_)
                      have hen : enA (pcb (bI v ss) k) x = true := enA_0 _ c_7
                      refine lv_iload hx hb dX4_byteOf_196 (lv_at hl 6 rfl) ?_
                      refine lv_if_eq (tgt := 206) hx hb dX4_byteOf_198 (by decide) (fun c_8 => ?_) (fun c_8 => ?_)
                      · skip
                        refine lv_iload hx hb dX4_byteOf_206 (lv_at hl 8 rfl) ?_
                        refine lv_if_ne (tgt := 214) hx hb dX4_byteOf_208 (by decide) (fun c_9 => ?_) (fun c_9 => ?_)
                        · skip
                          have c_9 : ¬ (q = 0) := fun z => c_9 ((nI_e0 (a := q) (by omega)).mpr z)
                          refine lv_iinc (v := (nI (q - 1))) (lv' := [(6, .int (nI (q - 1))), (9, .int (nI 1)), (8, .int (nI 1)), (0, .ref (M 0)), (1, .int (nI ss)), (2, .int (nI k)), (3, .int (nI zz)), (4, .int (nI 0)), (5, .int (nI (256 * k))), (7, .int (nI x))]) hx hb dX4_byteOf_214 hl (k := 8) rfl (iinc_m (a := q) (by omega)) (by decide) rfl (fun ls hl => ?_)
                          refine lv_iload hx hb dX4_byteOf_217 (lv_at hl 7 rfl) ?_
                          refine lv_iconst (v := (nI 1)) hx hb dX4_byteOf_219 (by decide) ?_
                          refine lv_icmp_ne (tgt := 239) hx hb dX4_byteOf_220 (by decide) (fun c_10 => ?_) (fun c_10 => ?_)
                          · skip
                            refine lv_iinc (v := (nI (x + 1))) (lv' := [(7, .int (nI (x + 1))), (6, .int (nI (q - 1))), (9, .int (nI 1)), (8, .int (nI 1)), (0, .ref (M 0)), (1, .int (nI ss)), (2, .int (nI k)), (3, .int (nI zz)), (4, .int (nI 0)), (5, .int (nI (256 * k)))]) hx hb dX4_byteOf_239 hl (k := 9) rfl (iinc_n x 1) (by decide) rfl (fun ls hl => ?_)
                            refine lv_goto (tgt := 118) hx hb dX4_byteOf_242 (by decide) ?_
                            have hl := lv_sub hl (l' := [(0, .ref (M 0)), (1, .int (nI ss)), (2, .int (nI k)), (3, .int (nI zz)), (4, .int (nI 0)), (5, .int (nI (256 * k))), (6, .int (nI (q - 1))), (7, .int (nI (x + 1)))]) [4, 5, 6, 7, 8, 9, 1, 0] rfl
                            exact ih118 (x + 1) (q - 1) (by omega) (by omega) (by rw [show 256 - x = (256 - (x + 1)) + 1 by omega, nthF_s (pcb (bI v ss) k) (256 - (x + 1)) x q, if_pos c_5, if_neg c_9] at hv; exact hv) ls hl (by omega)
                          · skip
                            exact absurd c_10 (by decide)
                        · skip
                          have c_9 : q = 0 := (nI_e0 (a := q) (by omega)).mp c_9
                          refine lv_iload hx hb dX4_byteOf_211 (lv_at hl 9 rfl) ?_
                          subst hQ
                          refine W.iret (v := (nI x)) hx hb hr (fun t ht hW => ⟨(nI x), rfl, ?_, ht⟩) (fun q h => absurd h List.not_mem_nil) dX4_byteOf_213
                          rw [wb_a c_1 hk0 c_3, ← hv, show 256 - x = (256 - (x + 1)) + 1 by omega, nthF_s, if_pos c_5, if_pos c_9]
                      · skip
                        exact absurd (by decide) c_8
                    · skip
                      have c_7 : ¬ (x = 255) := fun z => c_7 ((nI_eq (a := x) (b := 255) (by omega) (by omega)).mpr z)
                      refine lv_aload_n hx hb dX4_byteOf_174 rfl (lv_at hl 1 rfl) ?_
                      refine lv_iload_n hx hb dX4_byteOf_175 rfl (lv_at hl 2 rfl) ?_
                      refine lv_iload hx hb dX4_byteOf_176 (lv_at hl 6 rfl) ?_
                      refine lv_iload hx hb dX4_byteOf_178 (lv_at hl 8 rfl) ?_
                      refine lv_iadd hx hb dX4_byteOf_180 ?_
                      refine top_i (nI_add (256 * k) x) ?_
                      refine lv_iconst (v := (nI 1)) hx hb dX4_byteOf_181 (by decide) ?_
                      refine lv_iadd hx hb dX4_byteOf_182 ?_
                      refine top_i (nI_add ((256 * k) + x) 1) ?_
                      refine vp_callSi (va_Run.run (va_runV (As := [.int (nI ss), .int (nI (((256 * k) + x) + 1))]) (rest := []) ⟨hx, hb, hml, hown, hts⟩ (k_X4_has l D T M v as pa pk bu bm bi at0 ss (((256 * k) + x) + 1) (by omega) (by omega)) (cwV 2 hts gX4_byteOf_X4_has rfl rfl rfl (by decide +kernel) ⟨Nat.le_of_ble_eq_true rfl, Nat.le_of_ble_eq_true rfl⟩) (pre_V (Φ := fun X => MO D T X M v as pa pk bu bm bi at0) hK (hM.2.1) rfl hM) rfl rfl hl.1 rfl (lv_room (Nat.le_of_ble_eq_true rfl)) dX4_byteOf_183 ⟨Nat.le_of_ble_eq_true rfl, Nat.le_of_ble_eq_true rfl⟩)) (fun r_3 hr_3 => ?_)
                      subst hr_3
                      refine top_i (x' := (b2i ((pcb (bI v ss) k) (x + 1)))) (rfl) ?_
                      refine lv_if_ne (tgt := 193) hx hb dX4_byteOf_186 (by decide) (fun c_8 => ?_) (fun c_8 => ?_)
                      · skip
                        have c_8 : (pcb (bI v ss) k) (x + 1) = true := b2i_n0.mp c_8
                        refine lv_iconst (v := (nI 0)) hx hb dX4_byteOf_193 (by decide) ?_
                        refine lv_istore (lv' := [(9, .int (nI 0)), (8, .int (nI 1)), (0, .ref (M 0)), (1, .int (nI ss)), (2, .int (nI k)), (3, .int (nI zz)), (4, .int (nI 0)), (5, .int (nI (256 * k))), (6, .int (nI q)), (7, .int (nI x))]) hx hb dX4_byteOf_194 hl (by decide) rfl (fun ls hl => ?_)
                        have hen : enA (pcb (bI v ss) k) x = false := enA_p c_7 c_8
                        refine lv_iload hx hb dX4_byteOf_196 (lv_at hl 6 rfl) ?_
                        refine lv_if_eq (tgt := 206) hx hb dX4_byteOf_198 (by decide) (fun c_9 => ?_) (fun c_9 => ?_)
                        · skip
                          refine lv_iload hx hb dX4_byteOf_206 (lv_at hl 8 rfl) ?_
                          refine lv_if_ne (tgt := 214) hx hb dX4_byteOf_208 (by decide) (fun c_10 => ?_) (fun c_10 => ?_)
                          · skip
                            have c_10 : ¬ (q = 0) := fun z => c_10 ((nI_e0 (a := q) (by omega)).mpr z)
                            refine lv_iinc (v := (nI (q - 1))) (lv' := [(6, .int (nI (q - 1))), (9, .int (nI 0)), (8, .int (nI 1)), (0, .ref (M 0)), (1, .int (nI ss)), (2, .int (nI k)), (3, .int (nI zz)), (4, .int (nI 0)), (5, .int (nI (256 * k))), (7, .int (nI x))]) hx hb dX4_byteOf_214 hl (k := 8) rfl (iinc_m (a := q) (by omega)) (by decide) rfl (fun ls hl => ?_)
                            refine lv_iload hx hb dX4_byteOf_217 (lv_at hl 7 rfl) ?_
                            refine lv_iconst (v := (nI 1)) hx hb dX4_byteOf_219 (by decide) ?_
                            refine lv_icmp_ne (tgt := 239) hx hb dX4_byteOf_220 (by decide) (fun c_11 => ?_) (fun c_11 => ?_)
                            · skip
                              refine lv_iinc (v := (nI (x + 1))) (lv' := [(7, .int (nI (x + 1))), (6, .int (nI (q - 1))), (9, .int (nI 0)), (8, .int (nI 1)), (0, .ref (M 0)), (1, .int (nI ss)), (2, .int (nI k)), (3, .int (nI zz)), (4, .int (nI 0)), (5, .int (nI (256 * k)))]) hx hb dX4_byteOf_239 hl (k := 9) rfl (iinc_n x 1) (by decide) rfl (fun ls hl => ?_)
                              refine lv_goto (tgt := 118) hx hb dX4_byteOf_242 (by decide) ?_
                              have hl := lv_sub hl (l' := [(0, .ref (M 0)), (1, .int (nI ss)), (2, .int (nI k)), (3, .int (nI zz)), (4, .int (nI 0)), (5, .int (nI (256 * k))), (6, .int (nI (q - 1))), (7, .int (nI (x + 1)))]) [4, 5, 6, 7, 8, 9, 1, 0] rfl
                              exact ih118 (x + 1) (q - 1) (by omega) (by omega) (by rw [show 256 - x = (256 - (x + 1)) + 1 by omega, nthF_s (pcb (bI v ss) k) (256 - (x + 1)) x q, if_pos c_5, if_neg c_10] at hv; exact hv) ls hl (by omega)
                            · skip
                              exact absurd c_11 (by decide)
                          · skip
                            have c_10 : q = 0 := (nI_e0 (a := q) (by omega)).mp c_10
                            refine lv_iload hx hb dX4_byteOf_211 (lv_at hl 9 rfl) ?_
                            subst hQ
                            refine W.iret (v := (nI x)) hx hb hr (fun t ht hW => ⟨(nI x), rfl, ?_, ht⟩) (fun q h => absurd h List.not_mem_nil) dX4_byteOf_213
                            rw [wb_a c_1 hk0 c_3, ← hv, show 256 - x = (256 - (x + 1)) + 1 by omega, nthF_s, if_pos c_5, if_pos c_10]
                        · skip
                          exact absurd (by decide) c_9
                      · skip
                        have c_8 : (pcb (bI v ss) k) (x + 1) = false := b2i_0.mp c_8
                        refine lv_iconst (v := (nI 1)) hx hb dX4_byteOf_189 (by decide) ?_
                        refine lv_goto (tgt := 194) hx hb dX4_byteOf_190 (by decide) ?_
                        refine lv_istore (lv' := [(9, .int (nI 1)), (8, .int (nI 1)), (0, .ref (M 0)), (1, .int (nI ss)), (2, .int (nI k)), (3, .int (nI zz)), (4, .int (nI 0)), (5, .int (nI (256 * k))), (6, .int (nI q)), (7, .int (nI x))]) hx hb dX4_byteOf_194 hl (by decide) rfl (fun ls hl => ?_)
                        have hen : enA (pcb (bI v ss) k) x = true := enA_p c_7 c_8
                        refine lv_iload hx hb dX4_byteOf_196 (lv_at hl 6 rfl) ?_
                        refine lv_if_eq (tgt := 206) hx hb dX4_byteOf_198 (by decide) (fun c_9 => ?_) (fun c_9 => ?_)
                        · skip
                          refine lv_iload hx hb dX4_byteOf_206 (lv_at hl 8 rfl) ?_
                          refine lv_if_ne (tgt := 214) hx hb dX4_byteOf_208 (by decide) (fun c_10 => ?_) (fun c_10 => ?_)
                          · skip
                            have c_10 : ¬ (q = 0) := fun z => c_10 ((nI_e0 (a := q) (by omega)).mpr z)
                            refine lv_iinc (v := (nI (q - 1))) (lv' := [(6, .int (nI (q - 1))), (9, .int (nI 1)), (8, .int (nI 1)), (0, .ref (M 0)), (1, .int (nI ss)), (2, .int (nI k)), (3, .int (nI zz)), (4, .int (nI 0)), (5, .int (nI (256 * k))), (7, .int (nI x))]) hx hb dX4_byteOf_214 hl (k := 8) rfl (iinc_m (a := q) (by omega)) (by decide) rfl (fun ls hl => ?_)
                            refine lv_iload hx hb dX4_byteOf_217 (lv_at hl 7 rfl) ?_
                            refine lv_iconst (v := (nI 1)) hx hb dX4_byteOf_219 (by decide) ?_
                            refine lv_icmp_ne (tgt := 239) hx hb dX4_byteOf_220 (by decide) (fun c_11 => ?_) (fun c_11 => ?_)
                            · skip
                              refine lv_iinc (v := (nI (x + 1))) (lv' := [(7, .int (nI (x + 1))), (6, .int (nI (q - 1))), (9, .int (nI 1)), (8, .int (nI 1)), (0, .ref (M 0)), (1, .int (nI ss)), (2, .int (nI k)), (3, .int (nI zz)), (4, .int (nI 0)), (5, .int (nI (256 * k)))]) hx hb dX4_byteOf_239 hl (k := 9) rfl (iinc_n x 1) (by decide) rfl (fun ls hl => ?_)
                              refine lv_goto (tgt := 118) hx hb dX4_byteOf_242 (by decide) ?_
                              have hl := lv_sub hl (l' := [(0, .ref (M 0)), (1, .int (nI ss)), (2, .int (nI k)), (3, .int (nI zz)), (4, .int (nI 0)), (5, .int (nI (256 * k))), (6, .int (nI (q - 1))), (7, .int (nI (x + 1)))]) [4, 5, 6, 7, 8, 9, 1, 0] rfl
                              exact ih118 (x + 1) (q - 1) (by omega) (by omega) (by rw [show 256 - x = (256 - (x + 1)) + 1 by omega, nthF_s (pcb (bI v ss) k) (256 - (x + 1)) x q, if_pos c_5, if_neg c_10] at hv; exact hv) ls hl (by omega)
                            · skip
                              exact absurd c_11 (by decide)
                          · skip
                            have c_10 : q = 0 := (nI_e0 (a := q) (by omega)).mp c_10
                            refine lv_iload hx hb dX4_byteOf_211 (lv_at hl 9 rfl) ?_
                            subst hQ
                            refine W.iret (v := (nI x)) hx hb hr (fun t ht hW => ⟨(nI x), rfl, ?_, ht⟩) (fun q h => absurd h List.not_mem_nil) dX4_byteOf_213
                            rw [wb_a c_1 hk0 c_3, ← hv, show 256 - x = (256 - (x + 1)) + 1 by omega, nthF_s, if_pos c_5, if_pos c_10]
                        · skip
                          exact absurd (by decide) c_9
                  · skip
                    have c_6 : ¬ (x = 0) := fun z => c_6 ((nI_e0 (a := x) (by omega)).mpr z)
                    refine lv_aload_n hx hb dX4_byteOf_144 rfl (lv_at hl 0 rfl) ?_
                    refine lv_iload_n hx hb dX4_byteOf_145 rfl (lv_at hl 1 rfl) ?_
                    refine lv_iload hx hb dX4_byteOf_146 (lv_at hl 5 rfl) ?_
                    refine lv_iload hx hb dX4_byteOf_148 (lv_at hl 7 rfl) ?_
                    refine lv_iadd hx hb dX4_byteOf_150 ?_
                    refine top_i (nI_add (256 * k) x) ?_
                    refine lv_iconst (v := (nI 1)) hx hb dX4_byteOf_151 (by decide) ?_
                    refine lv_isub hx hb dX4_byteOf_152 ?_
                    refine top_i (pk_sub (a := (256 * k) + x) (b := 1) (by omega)) ?_
                    refine vp_callSi (va_Run.run (va_runV (As := [.int (nI ss), .int (nI (((256 * k) + x) - 1))]) (rest := []) ⟨hx, hb, hml, hown, hts⟩ (k_X4_has l D T M v as pa pk bu bm bi at0 ss (((256 * k) + x) - 1) (by omega) (by omega)) (cwV 2 hts gX4_byteOf_X4_has rfl rfl rfl (by decide +kernel) ⟨Nat.le_of_ble_eq_true rfl, Nat.le_of_ble_eq_true rfl⟩) (pre_V (Φ := fun X => MO D T X M v as pa pk bu bm bi at0) hK (hM.2.1) rfl hM) rfl rfl hl.1 rfl (lv_room (Nat.le_of_ble_eq_true rfl)) dX4_byteOf_153 ⟨Nat.le_of_ble_eq_true rfl, Nat.le_of_ble_eq_true rfl⟩)) (fun r_3 hr_3 => ?_)
                    subst hr_3
                    refine top_i (x' := (b2i ((pcb (bI v ss) k) (x - 1)))) (congrArg b2i (congrArg (bI v ss) (show 256 * k + x - 1 = 256 * k + (x - 1) by omega))) ?_
                    refine lv_if_ne (tgt := 163) hx hb dX4_byteOf_156 (by decide) (fun c_7 => ?_) (fun c_7 => ?_)
                    · skip
                      have c_7 : (pcb (bI v ss) k) (x - 1) = true := b2i_n0.mp c_7
                      refine lv_iconst (v := (nI 0)) hx hb dX4_byteOf_163 (by decide) ?_
                      refine lv_istore (lv' := [(8, .int (nI 0)), (0, .ref (M 0)), (1, .int (nI ss)), (2, .int (nI k)), (3, .int (nI zz)), (4, .int (nI 0)), (5, .int (nI (256 * k))), (6, .int (nI q)), (7, .int (nI x))]) hx hb dX4_byteOf_164 hl (by decide) rfl (fun ls hl => ?_)
                      have hst : stA (pcb (bI v ss) k) x = false := stA_p c_6 c_7
                      refine lv_iload hx hb dX4_byteOf_166 (lv_at hl 8 rfl) ?_
                      refine lv_sipush (v := (nI 255)) hx hb dX4_byteOf_168 (by decide) ?_
                      refine lv_icmp_eq (tgt := 189) hx hb dX4_byteOf_171 (by decide) (fun c_8 => ?_) (fun c_8 => ?_)
                      · skip
                        have c_8 : x = 255 := (nI_eq (a := x) (b := 255) (by omega) (by omega)).mp c_8
                        refine lv_iconst (v := (nI 1)) hx hb dX4_byteOf_189 (by decide) ?_
                        refine lv_goto (tgt := 194) hx hb dX4_byteOf_190 (by decide) ?_
                        refine lv_istore (lv' := [(9, .int (nI 1)), (8, .int (nI 0)), (0, .ref (M 0)), (1, .int (nI ss)), (2, .int (nI k)), (3, .int (nI zz)), (4, .int (nI 0)), (5, .int (nI (256 * k))), (6, .int (nI q)), (7, .int (nI x))]) hx hb dX4_byteOf_194 hl (by decide) rfl (fun ls hl => ?_)
                        have hen : enA (pcb (bI v ss) k) x = true := enA_0 _ c_8
                        refine lv_iload hx hb dX4_byteOf_196 (lv_at hl 6 rfl) ?_
                        refine lv_if_eq (tgt := 206) hx hb dX4_byteOf_198 (by decide) (fun c_9 => ?_) (fun c_9 => ?_)
                        · skip
                          refine lv_iload hx hb dX4_byteOf_206 (lv_at hl 8 rfl) ?_
                          refine lv_if_ne (tgt := 214) hx hb dX4_byteOf_208 (by decide) (fun c_10 => ?_) (fun c_10 => ?_)
                          · skip
                            have c_10 : ¬ (q = 0) := fun z => c_10 ((nI_e0 (a := q) (by omega)).mpr z)
                            refine lv_iinc (v := (nI (q - 1))) (lv' := [(6, .int (nI (q - 1))), (9, .int (nI 1)), (8, .int (nI 0)), (0, .ref (M 0)), (1, .int (nI ss)), (2, .int (nI k)), (3, .int (nI zz)), (4, .int (nI 0)), (5, .int (nI (256 * k))), (7, .int (nI x))]) hx hb dX4_byteOf_214 hl (k := 8) rfl (iinc_m (a := q) (by omega)) (by decide) rfl (fun ls hl => ?_)
                            refine lv_iload hx hb dX4_byteOf_217 (lv_at hl 7 rfl) ?_
                            refine lv_iconst (v := (nI 1)) hx hb dX4_byteOf_219 (by decide) ?_
                            refine lv_icmp_ne (tgt := 239) hx hb dX4_byteOf_220 (by decide) (fun c_11 => ?_) (fun c_11 => ?_)
                            · skip
                              refine lv_iinc (v := (nI (x + 1))) (lv' := [(7, .int (nI (x + 1))), (6, .int (nI (q - 1))), (9, .int (nI 1)), (8, .int (nI 0)), (0, .ref (M 0)), (1, .int (nI ss)), (2, .int (nI k)), (3, .int (nI zz)), (4, .int (nI 0)), (5, .int (nI (256 * k)))]) hx hb dX4_byteOf_239 hl (k := 9) rfl (iinc_n x 1) (by decide) rfl (fun ls hl => ?_)
                              refine lv_goto (tgt := 118) hx hb dX4_byteOf_242 (by decide) ?_
                              have hl := lv_sub hl (l' := [(0, .ref (M 0)), (1, .int (nI ss)), (2, .int (nI k)), (3, .int (nI zz)), (4, .int (nI 0)), (5, .int (nI (256 * k))), (6, .int (nI (q - 1))), (7, .int (nI (x + 1)))]) [4, 5, 6, 7, 8, 9, 1, 0] rfl
                              exact ih118 (x + 1) (q - 1) (by omega) (by omega) (by rw [show 256 - x = (256 - (x + 1)) + 1 by omega, nthF_s (pcb (bI v ss) k) (256 - (x + 1)) x q, if_pos c_5, if_neg c_10] at hv; exact hv) ls hl (by omega)
                            · skip
                              exact absurd c_11 (by decide)
                          · skip
                            have c_10 : q = 0 := (nI_e0 (a := q) (by omega)).mp c_10
                            refine lv_iload hx hb dX4_byteOf_211 (lv_at hl 9 rfl) ?_
                            subst hQ
                            refine W.iret (v := (nI x)) hx hb hr (fun t ht hW => ⟨(nI x), rfl, ?_, ht⟩) (fun q h => absurd h List.not_mem_nil) dX4_byteOf_213
                            rw [wb_a c_1 hk0 c_3, ← hv, show 256 - x = (256 - (x + 1)) + 1 by omega, nthF_s, if_pos c_5, if_pos c_10]
                        · skip
                          exact absurd (by decide) c_9
                      · skip
                        have c_8 : ¬ (x = 255) := fun z => c_8 ((nI_eq (a := x) (b := 255) (by omega) (by omega)).mpr z)
                        refine lv_aload_n hx hb dX4_byteOf_174 rfl (lv_at hl 1 rfl) ?_
                        refine lv_iload_n hx hb dX4_byteOf_175 rfl (lv_at hl 2 rfl) ?_
                        refine lv_iload hx hb dX4_byteOf_176 (lv_at hl 6 rfl) ?_
                        refine lv_iload hx hb dX4_byteOf_178 (lv_at hl 8 rfl) ?_
                        refine lv_iadd hx hb dX4_byteOf_180 ?_
                        refine top_i (nI_add (256 * k) x) ?_
                        refine lv_iconst (v := (nI 1)) hx hb dX4_byteOf_181 (by decide) ?_
                        refine lv_iadd hx hb dX4_byteOf_182 ?_
                        refine top_i (nI_add ((256 * k) + x) 1) ?_
                        refine vp_callSi (va_Run.run (va_runV (As := [.int (nI ss), .int (nI (((256 * k) + x) + 1))]) (rest := []) ⟨hx, hb, hml, hown, hts⟩ (k_X4_has l D T M v as pa pk bu bm bi at0 ss (((256 * k) + x) + 1) (by omega) (by omega)) (cwV 2 hts gX4_byteOf_X4_has rfl rfl rfl (by decide +kernel) ⟨Nat.le_of_ble_eq_true rfl, Nat.le_of_ble_eq_true rfl⟩) (pre_V (Φ := fun X => MO D T X M v as pa pk bu bm bi at0) hK (hM.2.1) rfl hM) rfl rfl hl.1 rfl (lv_room (Nat.le_of_ble_eq_true rfl)) dX4_byteOf_183 ⟨Nat.le_of_ble_eq_true rfl, Nat.le_of_ble_eq_true rfl⟩)) (fun r_4 hr_4 => ?_)
                        subst hr_4
                        refine top_i (x' := (b2i ((pcb (bI v ss) k) (x + 1)))) (rfl) ?_
                        refine lv_if_ne (tgt := 193) hx hb dX4_byteOf_186 (by decide) (fun c_9 => ?_) (fun c_9 => ?_)
                        · skip
                          have c_9 : (pcb (bI v ss) k) (x + 1) = true := b2i_n0.mp c_9
                          refine lv_iconst (v := (nI 0)) hx hb dX4_byteOf_193 (by decide) ?_
                          refine lv_istore (lv' := [(9, .int (nI 0)), (8, .int (nI 0)), (0, .ref (M 0)), (1, .int (nI ss)), (2, .int (nI k)), (3, .int (nI zz)), (4, .int (nI 0)), (5, .int (nI (256 * k))), (6, .int (nI q)), (7, .int (nI x))]) hx hb dX4_byteOf_194 hl (by decide) rfl (fun ls hl => ?_)
                          have hen : enA (pcb (bI v ss) k) x = false := enA_p c_8 c_9
                          refine lv_iload hx hb dX4_byteOf_196 (lv_at hl 6 rfl) ?_
                          refine lv_if_eq (tgt := 206) hx hb dX4_byteOf_198 (by decide) (fun c_10 => ?_) (fun c_10 => ?_)
                          · skip
                            refine lv_iload hx hb dX4_byteOf_206 (lv_at hl 8 rfl) ?_
                            refine lv_if_ne (tgt := 214) hx hb dX4_byteOf_208 (by decide) (fun c_11 => ?_) (fun c_11 => ?_)
                            · skip
                              have c_11 : ¬ (q = 0) := fun z => c_11 ((nI_e0 (a := q) (by omega)).mpr z)
                              refine lv_iinc (v := (nI (q - 1))) (lv' := [(6, .int (nI (q - 1))), (9, .int (nI 0)), (8, .int (nI 0)), (0, .ref (M 0)), (1, .int (nI ss)), (2, .int (nI k)), (3, .int (nI zz)), (4, .int (nI 0)), (5, .int (nI (256 * k))), (7, .int (nI x))]) hx hb dX4_byteOf_214 hl (k := 8) rfl (iinc_m (a := q) (by omega)) (by decide) rfl (fun ls hl => ?_)
                              refine lv_iload hx hb dX4_byteOf_217 (lv_at hl 7 rfl) ?_
                              refine lv_iconst (v := (nI 1)) hx hb dX4_byteOf_219 (by decide) ?_
                              refine lv_icmp_ne (tgt := 239) hx hb dX4_byteOf_220 (by decide) (fun c_12 => ?_) (fun c_12 => ?_)
                              · skip
                                refine lv_iinc (v := (nI (x + 1))) (lv' := [(7, .int (nI (x + 1))), (6, .int (nI (q - 1))), (9, .int (nI 0)), (8, .int (nI 0)), (0, .ref (M 0)), (1, .int (nI ss)), (2, .int (nI k)), (3, .int (nI zz)), (4, .int (nI 0)), (5, .int (nI (256 * k)))]) hx hb dX4_byteOf_239 hl (k := 9) rfl (iinc_n x 1) (by decide) rfl (fun ls hl => ?_)
                                refine lv_goto (tgt := 118) hx hb dX4_byteOf_242 (by decide) ?_
                                have hl := lv_sub hl (l' := [(0, .ref (M 0)), (1, .int (nI ss)), (2, .int (nI k)), (3, .int (nI zz)), (4, .int (nI 0)), (5, .int (nI (256 * k))), (6, .int (nI (q - 1))), (7, .int (nI (x + 1)))]) [4, 5, 6, 7, 8, 9, 1, 0] rfl
                                exact ih118 (x + 1) (q - 1) (by omega) (by omega) (by rw [show 256 - x = (256 - (x + 1)) + 1 by omega, nthF_s (pcb (bI v ss) k) (256 - (x + 1)) x q, if_pos c_5, if_neg c_11] at hv; exact hv) ls hl (by omega)
                              · skip
                                exact absurd c_12 (by decide)
                            · skip
                              have c_11 : q = 0 := (nI_e0 (a := q) (by omega)).mp c_11
                              refine lv_iload hx hb dX4_byteOf_211 (lv_at hl 9 rfl) ?_
                              subst hQ
                              refine W.iret (v := (nI x)) hx hb hr (fun t ht hW => ⟨(nI x), rfl, ?_, ht⟩) (fun q h => absurd h List.not_mem_nil) dX4_byteOf_213
                              rw [wb_a c_1 hk0 c_3, ← hv, show 256 - x = (256 - (x + 1)) + 1 by omega, nthF_s, if_pos c_5, if_pos c_11]
                          · skip
                            exact absurd (by decide) c_10
                        · skip
                          have c_9 : (pcb (bI v ss) k) (x + 1) = false := b2i_0.mp c_9
                          refine lv_iconst (v := (nI 1)) hx hb dX4_byteOf_189 (by decide) ?_
                          refine lv_goto (tgt := 194) hx hb dX4_byteOf_190 (by decide) ?_
                          refine lv_istore (lv' := [(9, .int (nI 1)), (8, .int (nI 0)), (0, .ref (M 0)), (1, .int (nI ss)), (2, .int (nI k)), (3, .int (nI zz)), (4, .int (nI 0)), (5, .int (nI (256 * k))), (6, .int (nI q)), (7, .int (nI x))]) hx hb dX4_byteOf_194 hl (by decide) rfl (fun ls hl => ?_)
                          have hen : enA (pcb (bI v ss) k) x = true := enA_p c_8 c_9
                          refine lv_iload hx hb dX4_byteOf_196 (lv_at hl 6 rfl) ?_
                          refine lv_if_eq (tgt := 206) hx hb dX4_byteOf_198 (by decide) (fun c_10 => ?_) (fun c_10 => ?_)
                          · skip
                            refine lv_iload hx hb dX4_byteOf_206 (lv_at hl 8 rfl) ?_
                            refine lv_if_ne (tgt := 214) hx hb dX4_byteOf_208 (by decide) (fun c_11 => ?_) (fun c_11 => ?_)
                            · skip
                              have c_11 : ¬ (q = 0) := fun z => c_11 ((nI_e0 (a := q) (by omega)).mpr z)
                              refine lv_iinc (v := (nI (q - 1))) (lv' := [(6, .int (nI (q - 1))), (9, .int (nI 1)), (8, .int (nI 0)), (0, .ref (M 0)), (1, .int (nI ss)), (2, .int (nI k)), (3, .int (nI zz)), (4, .int (nI 0)), (5, .int (nI (256 * k))), (7, .int (nI x))]) hx hb dX4_byteOf_214 hl (k := 8) rfl (iinc_m (a := q) (by omega)) (by decide) rfl (fun ls hl => ?_)
                              refine lv_iload hx hb dX4_byteOf_217 (lv_at hl 7 rfl) ?_
                              refine lv_iconst (v := (nI 1)) hx hb dX4_byteOf_219 (by decide) ?_
                              refine lv_icmp_ne (tgt := 239) hx hb dX4_byteOf_220 (by decide) (fun c_12 => ?_) (fun c_12 => ?_)
                              · skip
                                refine lv_iinc (v := (nI (x + 1))) (lv' := [(7, .int (nI (x + 1))), (6, .int (nI (q - 1))), (9, .int (nI 1)), (8, .int (nI 0)), (0, .ref (M 0)), (1, .int (nI ss)), (2, .int (nI k)), (3, .int (nI zz)), (4, .int (nI 0)), (5, .int (nI (256 * k)))]) hx hb dX4_byteOf_239 hl (k := 9) rfl (iinc_n x 1) (by decide) rfl (fun ls hl => ?_)
                                refine lv_goto (tgt := 118) hx hb dX4_byteOf_242 (by decide) ?_
                                have hl := lv_sub hl (l' := [(0, .ref (M 0)), (1, .int (nI ss)), (2, .int (nI k)), (3, .int (nI zz)), (4, .int (nI 0)), (5, .int (nI (256 * k))), (6, .int (nI (q - 1))), (7, .int (nI (x + 1)))]) [4, 5, 6, 7, 8, 9, 1, 0] rfl
                                exact ih118 (x + 1) (q - 1) (by omega) (by omega) (by rw [show 256 - x = (256 - (x + 1)) + 1 by omega, nthF_s (pcb (bI v ss) k) (256 - (x + 1)) x q, if_pos c_5, if_neg c_11] at hv; exact hv) ls hl (by omega)
                              · skip
                                exact absurd c_12 (by decide)
                            · skip
                              have c_11 : q = 0 := (nI_e0 (a := q) (by omega)).mp c_11
                              refine lv_iload hx hb dX4_byteOf_211 (lv_at hl 9 rfl) ?_
                              subst hQ
                              refine W.iret (v := (nI x)) hx hb hr (fun t ht hW => ⟨(nI x), rfl, ?_, ht⟩) (fun q h => absurd h List.not_mem_nil) dX4_byteOf_213
                              rw [wb_a c_1 hk0 c_3, ← hv, show 256 - x = (256 - (x + 1)) + 1 by omega, nthF_s, if_pos c_5, if_pos c_11]
                          · skip
                            exact absurd (by decide) c_10
                    · skip
                      have c_7 : (pcb (bI v ss) k) (x - 1) = false := b2i_0.mp c_7
                      refine lv_iconst (v := (nI 1)) hx hb dX4_byteOf_159 (by decide) ?_
                      refine lv_goto (tgt := 164) hx hb dX4_byteOf_160 (by decide) ?_
                      refine lv_istore (lv' := [(8, .int (nI 1)), (0, .ref (M 0)), (1, .int (nI ss)), (2, .int (nI k)), (3, .int (nI zz)), (4, .int (nI 0)), (5, .int (nI (256 * k))), (6, .int (nI q)), (7, .int (nI x))]) hx hb dX4_byteOf_164 hl (by decide) rfl (fun ls hl => ?_)
                      have hst : stA (pcb (bI v ss) k) x = true := stA_p c_6 c_7
                      refine lv_iload hx hb dX4_byteOf_166 (lv_at hl 8 rfl) ?_
                      refine lv_sipush (v := (nI 255)) hx hb dX4_byteOf_168 (by decide) ?_
                      refine lv_icmp_eq (tgt := 189) hx hb dX4_byteOf_171 (by decide) (fun c_8 => ?_) (fun c_8 => ?_)
                      · skip
                        have c_8 : x = 255 := (nI_eq (a := x) (b := 255) (by omega) (by omega)).mp c_8
                        refine lv_iconst (v := (nI 1)) hx hb dX4_byteOf_189 (by decide) ?_
                        refine lv_goto (tgt := 194) hx hb dX4_byteOf_190 (by decide) ?_
                        refine lv_istore (lv' := [(9, .int (nI 1)), (8, .int (nI 1)), (0, .ref (M 0)), (1, .int (nI ss)), (2, .int (nI k)), (3, .int (nI zz)), (4, .int (nI 0)), (5, .int (nI (256 * k))), (6, .int (nI q)), (7, .int (nI x))]) hx hb dX4_byteOf_194 hl (by decide) rfl (fun ls hl => ?_)
                        have hen : enA (pcb (bI v ss) k) x = true := enA_0 _ c_8
                        refine lv_iload hx hb dX4_byteOf_196 (lv_at hl 6 rfl) ?_
                        refine lv_if_eq (tgt := 206) hx hb dX4_byteOf_198 (by decide) (fun c_9 => ?_) (fun c_9 => ?_)
                        · skip
                          refine lv_iload hx hb dX4_byteOf_206 (lv_at hl 8 rfl) ?_
                          refine lv_if_ne (tgt := 214) hx hb dX4_byteOf_208 (by decide) (fun c_10 => ?_) (fun c_10 => ?_)
                          · skip
                            have c_10 : ¬ (q = 0) := fun z => c_10 ((nI_e0 (a := q) (by omega)).mpr z)
                            refine lv_iinc (v := (nI (q - 1))) (lv' := [(6, .int (nI (q - 1))), (9, .int (nI 1)), (8, .int (nI 1)), (0, .ref (M 0)), (1, .int (nI ss)), (2, .int (nI k)), (3, .int (nI zz)), (4, .int (nI 0)), (5, .int (nI (256 * k))), (7, .int (nI x))]) hx hb dX4_byteOf_214 hl (k := 8) rfl (iinc_m (a := q) (by omega)) (by decide) rfl (fun ls hl => ?_)
                            refine lv_iload hx hb dX4_byteOf_217 (lv_at hl 7 rfl) ?_
                            refine lv_iconst (v := (nI 1)) hx hb dX4_byteOf_219 (by decide) ?_
                            refine lv_icmp_ne (tgt := 239) hx hb dX4_byteOf_220 (by decide) (fun c_11 => ?_) (fun c_11 => ?_)
                            · skip
                              refine lv_iinc (v := (nI (x + 1))) (lv' := [(7, .int (nI (x + 1))), (6, .int (nI (q - 1))), (9, .int (nI 1)), (8, .int (nI 1)), (0, .ref (M 0)), (1, .int (nI ss)), (2, .int (nI k)), (3, .int (nI zz)), (4, .int (nI 0)), (5, .int (nI (256 * k)))]) hx hb dX4_byteOf_239 hl (k := 9) rfl (iinc_n x 1) (by decide) rfl (fun ls hl => ?_)
                              refine lv_goto (tgt := 118) hx hb dX4_byteOf_242 (by decide) ?_
                              have hl := lv_sub hl (l' := [(0, .ref (M 0)), (1, .int (nI ss)), (2, .int (nI k)), (3, .int (nI zz)), (4, .int (nI 0)), (5, .int (nI (256 * k))), (6, .int (nI (q - 1))), (7, .int (nI (x + 1)))]) [4, 5, 6, 7, 8, 9, 1, 0] rfl
                              exact ih118 (x + 1) (q - 1) (by omega) (by omega) (by rw [show 256 - x = (256 - (x + 1)) + 1 by omega, nthF_s (pcb (bI v ss) k) (256 - (x + 1)) x q, if_pos c_5, if_neg c_10] at hv; exact hv) ls hl (by omega)
                            · skip
                              exact absurd c_11 (by decide)
                          · skip
                            have c_10 : q = 0 := (nI_e0 (a := q) (by omega)).mp c_10
                            refine lv_iload hx hb dX4_byteOf_211 (lv_at hl 9 rfl) ?_
                            subst hQ
                            refine W.iret (v := (nI x)) hx hb hr (fun t ht hW => ⟨(nI x), rfl, ?_, ht⟩) (fun q h => absurd h List.not_mem_nil) dX4_byteOf_213
                            rw [wb_a c_1 hk0 c_3, ← hv, show 256 - x = (256 - (x + 1)) + 1 by omega, nthF_s, if_pos c_5, if_pos c_10]
                        · skip
                          exact absurd (by decide) c_9
                      · skip
                        have c_8 : ¬ (x = 255) := fun z => c_8 ((nI_eq (a := x) (b := 255) (by omega) (by omega)).mpr z)
                        refine lv_aload_n hx hb dX4_byteOf_174 rfl (lv_at hl 1 rfl) ?_
                        refine lv_iload_n hx hb dX4_byteOf_175 rfl (lv_at hl 2 rfl) ?_
                        refine lv_iload hx hb dX4_byteOf_176 (lv_at hl 6 rfl) ?_
                        refine lv_iload hx hb dX4_byteOf_178 (lv_at hl 8 rfl) ?_
                        refine lv_iadd hx hb dX4_byteOf_180 ?_
                        refine top_i (nI_add (256 * k) x) ?_
                        refine lv_iconst (v := (nI 1)) hx hb dX4_byteOf_181 (by decide) ?_
                        refine lv_iadd hx hb dX4_byteOf_182 ?_
                        refine top_i (nI_add ((256 * k) + x) 1) ?_
                        refine vp_callSi (va_Run.run (va_runV (As := [.int (nI ss), .int (nI (((256 * k) + x) + 1))]) (rest := []) ⟨hx, hb, hml, hown, hts⟩ (k_X4_has l D T M v as pa pk bu bm bi at0 ss (((256 * k) + x) + 1) (by omega) (by omega)) (cwV 2 hts gX4_byteOf_X4_has rfl rfl rfl (by decide +kernel) ⟨Nat.le_of_ble_eq_true rfl, Nat.le_of_ble_eq_true rfl⟩) (pre_V (Φ := fun X => MO D T X M v as pa pk bu bm bi at0) hK (hM.2.1) rfl hM) rfl rfl hl.1 rfl (lv_room (Nat.le_of_ble_eq_true rfl)) dX4_byteOf_183 ⟨Nat.le_of_ble_eq_true rfl, Nat.le_of_ble_eq_true rfl⟩)) (fun r_4 hr_4 => ?_)
                        subst hr_4
                        refine top_i (x' := (b2i ((pcb (bI v ss) k) (x + 1)))) (rfl) ?_
                        refine lv_if_ne (tgt := 193) hx hb dX4_byteOf_186 (by decide) (fun c_9 => ?_) (fun c_9 => ?_)
                        · skip
                          have c_9 : (pcb (bI v ss) k) (x + 1) = true := b2i_n0.mp c_9
                          refine lv_iconst (v := (nI 0)) hx hb dX4_byteOf_193 (by decide) ?_
                          refine lv_istore (lv' := [(9, .int (nI 0)), (8, .int (nI 1)), (0, .ref (M 0)), (1, .int (nI ss)), (2, .int (nI k)), (3, .int (nI zz)), (4, .int (nI 0)), (5, .int (nI (256 * k))), (6, .int (nI q)), (7, .int (nI x))]) hx hb dX4_byteOf_194 hl (by decide) rfl (fun ls hl => ?_)
                          have hen : enA (pcb (bI v ss) k) x = false := enA_p c_8 c_9
                          refine lv_iload hx hb dX4_byteOf_196 (lv_at hl 6 rfl) ?_
                          refine lv_if_eq (tgt := 206) hx hb dX4_byteOf_198 (by decide) (fun c_10 => ?_) (fun c_10 => ?_)
                          · skip
                            refine lv_iload hx hb dX4_byteOf_206 (lv_at hl 8 rfl) ?_
                            refine lv_if_ne (tgt := 214) hx hb dX4_byteOf_208 (by decide) (fun c_11 => ?_) (fun c_11 => ?_)
                            · skip
                              have c_11 : ¬ (q = 0) := fun z => c_11 ((nI_e0 (a := q) (by omega)).mpr z)
                              refine lv_iinc (v := (nI (q - 1))) (lv' := [(6, .int (nI (q - 1))), (9, .int (nI 0)), (8, .int (nI 1)), (0, .ref (M 0)), (1, .int (nI ss)), (2, .int (nI k)), (3, .int (nI zz)), (4, .int (nI 0)), (5, .int (nI (256 * k))), (7, .int (nI x))]) hx hb dX4_byteOf_214 hl (k := 8) rfl (iinc_m (a := q) (by omega)) (by decide) rfl (fun ls hl => ?_)
                              refine lv_iload hx hb dX4_byteOf_217 (lv_at hl 7 rfl) ?_
                              refine lv_iconst (v := (nI 1)) hx hb dX4_byteOf_219 (by decide) ?_
                              refine lv_icmp_ne (tgt := 239) hx hb dX4_byteOf_220 (by decide) (fun c_12 => ?_) (fun c_12 => ?_)
                              · skip
                                refine lv_iinc (v := (nI (x + 1))) (lv' := [(7, .int (nI (x + 1))), (6, .int (nI (q - 1))), (9, .int (nI 0)), (8, .int (nI 1)), (0, .ref (M 0)), (1, .int (nI ss)), (2, .int (nI k)), (3, .int (nI zz)), (4, .int (nI 0)), (5, .int (nI (256 * k)))]) hx hb dX4_byteOf_239 hl (k := 9) rfl (iinc_n x 1) (by decide) rfl (fun ls hl => ?_)
                                refine lv_goto (tgt := 118) hx hb dX4_byteOf_242 (by decide) ?_
                                have hl := lv_sub hl (l' := [(0, .ref (M 0)), (1, .int (nI ss)), (2, .int (nI k)), (3, .int (nI zz)), (4, .int (nI 0)), (5, .int (nI (256 * k))), (6, .int (nI (q - 1))), (7, .int (nI (x + 1)))]) [4, 5, 6, 7, 8, 9, 1, 0] rfl
                                exact ih118 (x + 1) (q - 1) (by omega) (by omega) (by rw [show 256 - x = (256 - (x + 1)) + 1 by omega, nthF_s (pcb (bI v ss) k) (256 - (x + 1)) x q, if_pos c_5, if_neg c_11] at hv; exact hv) ls hl (by omega)
                              · skip
                                exact absurd c_12 (by decide)
                            · skip
                              have c_11 : q = 0 := (nI_e0 (a := q) (by omega)).mp c_11
                              refine lv_iload hx hb dX4_byteOf_211 (lv_at hl 9 rfl) ?_
                              subst hQ
                              refine W.iret (v := (nI x)) hx hb hr (fun t ht hW => ⟨(nI x), rfl, ?_, ht⟩) (fun q h => absurd h List.not_mem_nil) dX4_byteOf_213
                              rw [wb_a c_1 hk0 c_3, ← hv, show 256 - x = (256 - (x + 1)) + 1 by omega, nthF_s, if_pos c_5, if_pos c_11]
                          · skip
                            exact absurd (by decide) c_10
                        · skip
                          have c_9 : (pcb (bI v ss) k) (x + 1) = false := b2i_0.mp c_9
                          refine lv_iconst (v := (nI 1)) hx hb dX4_byteOf_189 (by decide) ?_
                          refine lv_goto (tgt := 194) hx hb dX4_byteOf_190 (by decide) ?_
                          refine lv_istore (lv' := [(9, .int (nI 1)), (8, .int (nI 1)), (0, .ref (M 0)), (1, .int (nI ss)), (2, .int (nI k)), (3, .int (nI zz)), (4, .int (nI 0)), (5, .int (nI (256 * k))), (6, .int (nI q)), (7, .int (nI x))]) hx hb dX4_byteOf_194 hl (by decide) rfl (fun ls hl => ?_)
                          have hen : enA (pcb (bI v ss) k) x = true := enA_p c_8 c_9
                          refine lv_iload hx hb dX4_byteOf_196 (lv_at hl 6 rfl) ?_
                          refine lv_if_eq (tgt := 206) hx hb dX4_byteOf_198 (by decide) (fun c_10 => ?_) (fun c_10 => ?_)
                          · skip
                            refine lv_iload hx hb dX4_byteOf_206 (lv_at hl 8 rfl) ?_
                            refine lv_if_ne (tgt := 214) hx hb dX4_byteOf_208 (by decide) (fun c_11 => ?_) (fun c_11 => ?_)
                            · skip
                              have c_11 : ¬ (q = 0) := fun z => c_11 ((nI_e0 (a := q) (by omega)).mpr z)
                              refine lv_iinc (v := (nI (q - 1))) (lv' := [(6, .int (nI (q - 1))), (9, .int (nI 1)), (8, .int (nI 1)), (0, .ref (M 0)), (1, .int (nI ss)), (2, .int (nI k)), (3, .int (nI zz)), (4, .int (nI 0)), (5, .int (nI (256 * k))), (7, .int (nI x))]) hx hb dX4_byteOf_214 hl (k := 8) rfl (iinc_m (a := q) (by omega)) (by decide) rfl (fun ls hl => ?_)
                              refine lv_iload hx hb dX4_byteOf_217 (lv_at hl 7 rfl) ?_
                              refine lv_iconst (v := (nI 1)) hx hb dX4_byteOf_219 (by decide) ?_
                              refine lv_icmp_ne (tgt := 239) hx hb dX4_byteOf_220 (by decide) (fun c_12 => ?_) (fun c_12 => ?_)
                              · skip
                                refine lv_iinc (v := (nI (x + 1))) (lv' := [(7, .int (nI (x + 1))), (6, .int (nI (q - 1))), (9, .int (nI 1)), (8, .int (nI 1)), (0, .ref (M 0)), (1, .int (nI ss)), (2, .int (nI k)), (3, .int (nI zz)), (4, .int (nI 0)), (5, .int (nI (256 * k)))]) hx hb dX4_byteOf_239 hl (k := 9) rfl (iinc_n x 1) (by decide) rfl (fun ls hl => ?_)
                                refine lv_goto (tgt := 118) hx hb dX4_byteOf_242 (by decide) ?_
                                have hl := lv_sub hl (l' := [(0, .ref (M 0)), (1, .int (nI ss)), (2, .int (nI k)), (3, .int (nI zz)), (4, .int (nI 0)), (5, .int (nI (256 * k))), (6, .int (nI (q - 1))), (7, .int (nI (x + 1)))]) [4, 5, 6, 7, 8, 9, 1, 0] rfl
                                exact ih118 (x + 1) (q - 1) (by omega) (by omega) (by rw [show 256 - x = (256 - (x + 1)) + 1 by omega, nthF_s (pcb (bI v ss) k) (256 - (x + 1)) x q, if_pos c_5, if_neg c_11] at hv; exact hv) ls hl (by omega)
                              · skip
                                exact absurd c_12 (by decide)
                            · skip
                              have c_11 : q = 0 := (nI_e0 (a := q) (by omega)).mp c_11
                              refine lv_iload hx hb dX4_byteOf_211 (lv_at hl 9 rfl) ?_
                              subst hQ
                              refine W.iret (v := (nI x)) hx hb hr (fun t ht hW => ⟨(nI x), rfl, ?_, ht⟩) (fun q h => absurd h List.not_mem_nil) dX4_byteOf_213
                              rw [wb_a c_1 hk0 c_3, ← hv, show 256 - x = (256 - (x + 1)) + 1 by omega, nthF_s, if_pos c_5, if_pos c_11]
                          · skip
                            exact absurd (by decide) c_10
          have hl := lv_sub hl (l' := [(0, .ref (M 0)), (1, .int (nI ss)), (2, .int (nI k)), (3, .int (nI zz)), (4, .int (nI 0)), (5, .int (nI (256 * k))), (6, .int (nI (zz - 2))), (7, .int (nI 0))]) [4, 5, 6, 7, 3, 2, 1, 0] rfl
          exact loop118 (256 - 0 + 1) 0 (zz - 2) (Nat.zero_le _) (by omega) (rfl) ls hl (Nat.lt_succ_self _)
        · skip
          have c_3 : zz = 1 := (nI_eq (a := zz) (b := 1) (by omega) (by omega)).mp c_3
          refine lv_aload_n hx hb dX4_byteOf_93 rfl (lv_at hl 2 rfl) ?_
          refine lv_iload_n hx hb dX4_byteOf_94 rfl (lv_at hl 3 rfl) ?_
          refine lv_iload_n hx hb dX4_byteOf_95 rfl (lv_at hl 4 rfl) ?_
          refine lv_iload hx hb dX4_byteOf_96 (lv_at hl 1 rfl) ?_
          refine lv_if_ne (tgt := 105) hx hb dX4_byteOf_98 (by decide) (fun c_4 => ?_) (fun c_4 => ?_)
          · skip
            exact absurd (by decide) c_4
          · skip
            refine lv_iconst (v := (nI 1)) hx hb dX4_byteOf_101 (by decide) ?_
            refine lv_goto (tgt := 106) hx hb dX4_byteOf_102 (by decide) ?_
            refine vp_callSi (va_Run.run (va_runV (As := [.int (nI ss), .int (nI k), .int (nI 1)]) (rest := []) ⟨hx, hb, hml, hown, hts⟩ (k_X4_told l D T M v as pa pk bu bm bi at0 ss k (nI 1) (by omega) (by omega)) (cwV 3 hts gX4_byteOf_X4_told rfl rfl rfl (by decide +kernel) ⟨Nat.le_of_ble_eq_true rfl, Nat.le_of_ble_eq_true rfl⟩) (pre_V (Φ := fun X => MO D T X M v as pa pk bu bm bi at0) hK (hM.2.1) rfl hM) rfl rfl hl.1 rfl (lv_room (Nat.le_of_ble_eq_true rfl)) dX4_byteOf_106 ⟨Nat.le_of_ble_eq_true rfl, Nat.le_of_ble_eq_true rfl⟩)) (fun r_2 hr_2 => ?_)
            subst hr_2
            subst hQ
            refine W.iret (v := (tol (bI v ss) k (nI 1))) hx hb hr (fun t ht hW => ⟨(tol (bI v ss) k (nI 1)), rfl, ?_, ht⟩) (fun q h => absurd h List.not_mem_nil) dX4_byteOf_109
            rw [wb_1a c_1 hk0 c_3]
            exact (if_neg (by decide)).trans (if_pos rfl)
      · skip
        have k_1 : pkd (bI v ss) k = nI 1 := hk0
        have hl : lv_has ls 10 [(5, .int (nI (256 * k))), (4, .int (nI 1)), (0, .ref (M 0)), (1, .int (nI ss)), (2, .int (nI k)), (3, .int (nI zz))] := by have h := hl; rw [k_1] at h; exact h
        refine lv_iload_n hx hb dX4_byteOf_88 rfl (lv_at hl 5 rfl) ?_
        refine lv_iconst (v := (nI 1)) hx hb dX4_byteOf_89 (by decide) ?_
        refine lv_icmp_ne (tgt := 110) hx hb dX4_byteOf_90 (by decide) (fun c_3 => ?_) (fun c_3 => ?_)
        · skip
          have c_3 : ¬ (zz = 1) := fun z => c_3 ((nI_eq (a := zz) (b := 1) (by omega) (by omega)).mpr z)
          refine lv_iload_n hx hb dX4_byteOf_110 rfl (lv_at hl 5 rfl) ?_
          refine lv_iconst (v := (nI 2)) hx hb dX4_byteOf_111 (by decide) ?_
          refine lv_isub hx hb dX4_byteOf_112 ?_
          refine top_i (pk_sub (a := zz) (b := 2) (by omega)) ?_
          refine lv_istore (lv' := [(6, .int (nI (zz - 2))), (5, .int (nI (256 * k))), (4, .int (nI 1)), (0, .ref (M 0)), (1, .int (nI ss)), (2, .int (nI k)), (3, .int (nI zz))]) hx hb dX4_byteOf_113 hl (by decide) rfl (fun ls hl => ?_)
          refine lv_iconst (v := (nI 0)) hx hb dX4_byteOf_115 (by decide) ?_
          refine lv_istore (lv' := [(7, .int (nI 0)), (6, .int (nI (zz - 2))), (5, .int (nI (256 * k))), (4, .int (nI 1)), (0, .ref (M 0)), (1, .int (nI ss)), (2, .int (nI k)), (3, .int (nI zz))]) hx hb dX4_byteOf_116 hl (by decide) rfl (fun ls hl => ?_)
          have loop118 : ∀ (n118 : Nat) (x : Nat) (q : Nat) (hxx : x ≤ 256) (hq : q < 2 ^ 31) (hv : brF (pcb (bI v ss) k) (256 - x) x q = brF (pcb (bI v ss) k) 256 0 (zz - 2)) (ls : Array Slot) (hl : lv_has ls 10 [(0, .ref (M 0)), (1, .int (nI ss)), (2, .int (nI k)), (3, .int (nI zz)), (4, .int (nI 1)), (5, .int (nI (256 * k))), (6, .int (nI q)), (7, .int (nI x))]) (hn118 : 256 - x < n118), W pg l ev (headSpec wsX4_byteOf ({ frames := 3, cells := 0, slots := 0, locals := 71 })).room s m ([.ref (M 0), .int (nI ss), .int (nI k), .int (nI zz)] : List Value).toArray below meth c s.heap [] 0 0 Q (F0 m 118 ls []) := by
            intro n118
            induction n118 with
            | zero =>
              intro x q hxx hq hv ls hl hn118
              exact absurd hn118 (Nat.not_lt_zero _)
            | succ n118 ih118 =>
              intro x q hxx hq hv ls hl hn118
              refine lv_iload hx hb dX4_byteOf_118 (lv_at hl 7 rfl) ?_
              refine lv_sipush (v := (nI 256)) hx hb dX4_byteOf_120 (by decide) ?_
              refine lv_icmp_ge (tgt := 245) hx hb dX4_byteOf_123 (by decide) (fun c_4 => ?_) (fun c_4 => ?_)
              · skip
                have c_4 : 256 ≤ x := (nI_leI (a := 256) (b := x) (by omega) (by omega)).mp c_4
                refine lv_bipush (v := (-9)) hx hb dX4_byteOf_245 (by decide) ?_
                subst hQ
                refine W.iret (v := (-9)) hx hb hr (fun t ht hW => ⟨(-9), rfl, ?_, ht⟩) (fun q h => absurd h List.not_mem_nil) dX4_byteOf_247
                rw [wb_r c_1 hk0 c_3, ← hv, show 256 - x = 0 by omega]
                exact rfl
              · skip
                have c_4 : ¬ (256 ≤ x) := fun z => c_4 ((nI_leI (a := 256) (b := x) (by omega) (by omega)).mpr z)
                refine lv_aload_n hx hb dX4_byteOf_126 rfl (lv_at hl 0 rfl) ?_
                refine lv_iload_n hx hb dX4_byteOf_127 rfl (lv_at hl 1 rfl) ?_
                refine lv_iload hx hb dX4_byteOf_128 (lv_at hl 5 rfl) ?_
                refine lv_iload hx hb dX4_byteOf_130 (lv_at hl 7 rfl) ?_
                refine lv_iadd hx hb dX4_byteOf_132 ?_
                refine top_i (nI_add (256 * k) x) ?_
                refine vp_callSi (va_Run.run (va_runV (As := [.int (nI ss), .int (nI ((256 * k) + x))]) (rest := []) ⟨hx, hb, hml, hown, hts⟩ (k_X4_has l D T M v as pa pk bu bm bi at0 ss ((256 * k) + x) (by omega) (by omega)) (cwV 2 hts gX4_byteOf_X4_has rfl rfl rfl (by decide +kernel) ⟨Nat.le_of_ble_eq_true rfl, Nat.le_of_ble_eq_true rfl⟩) (pre_V (Φ := fun X => MO D T X M v as pa pk bu bm bi at0) hK (hM.2.1) rfl hM) rfl rfl hl.1 rfl (lv_room (Nat.le_of_ble_eq_true rfl)) dX4_byteOf_133 ⟨Nat.le_of_ble_eq_true rfl, Nat.le_of_ble_eq_true rfl⟩)) (fun r_2 hr_2 => ?_)
                subst hr_2
                refine top_i (x' := (b2i ((pcb (bI v ss) k) x))) (rfl) ?_
                refine lv_if_eq (tgt := 239) hx hb dX4_byteOf_136 (by decide) (fun c_5 => ?_) (fun c_5 => ?_)
                · skip
                  have c_5 : (pcb (bI v ss) k) x = false := b2i_0.mp c_5
                  refine lv_iinc (v := (nI (x + 1))) (lv' := [(7, .int (nI (x + 1))), (0, .ref (M 0)), (1, .int (nI ss)), (2, .int (nI k)), (3, .int (nI zz)), (4, .int (nI 1)), (5, .int (nI (256 * k))), (6, .int (nI q))]) hx hb dX4_byteOf_239 hl (k := 7) rfl (iinc_n x 1) (by decide) rfl (fun ls hl => ?_)
                  refine lv_goto (tgt := 118) hx hb dX4_byteOf_242 (by decide) ?_
                  have hl := lv_sub hl (l' := [(0, .ref (M 0)), (1, .int (nI ss)), (2, .int (nI k)), (3, .int (nI zz)), (4, .int (nI 1)), (5, .int (nI (256 * k))), (6, .int (nI q)), (7, .int (nI (x + 1)))]) [1, 2, 3, 4, 5, 6, 7, 0] rfl
                  exact ih118 (x + 1) q (by omega) (by omega) (by rw [show 256 - x = (256 - (x + 1)) + 1 by omega, brF_0 c_5] at hv; exact hv) ls hl (by omega)
                · skip
                  have c_5 : (pcb (bI v ss) k) x = true := b2i_n0.mp c_5
                  refine lv_iload hx hb dX4_byteOf_139 (lv_at hl 7 rfl) ?_
                  refine lv_if_eq (tgt := 159) hx hb dX4_byteOf_141 (by decide) (fun c_6 => ?_) (fun c_6 => ?_)
                  · skip
                    have c_6 : x = 0 := (nI_e0 (a := x) (by omega)).mp c_6
                    refine lv_iconst (v := (nI 1)) hx hb dX4_byteOf_159 (by decide) ?_
                    refine lv_goto (tgt := 164) hx hb dX4_byteOf_160 (by decide) ?_
                    refine lv_istore (lv' := [(8, .int (nI 1)), (0, .ref (M 0)), (1, .int (nI ss)), (2, .int (nI k)), (3, .int (nI zz)), (4, .int (nI 1)), (5, .int (nI (256 * k))), (6, .int (nI q)), (7, .int (nI x))]) hx hb dX4_byteOf_164 hl (by decide) rfl (fun ls hl => ?_)
                    have hst : stA (pcb (bI v ss) k) x = true := stA_0 _ c_6
                    refine lv_iload hx hb dX4_byteOf_166 (lv_at hl 8 rfl) ?_
                    refine lv_sipush (v := (nI 255)) hx hb dX4_byteOf_168 (by decide) ?_
                    refine lv_icmp_eq (tgt := 189) hx hb dX4_byteOf_171 (by decide) (fun c_7 => ?_) (fun c_7 => ?_)
                    · skip
                      have c_7 : x = 255 := (nI_eq (a := x) (b := 255) (by omega) (by omega)).mp c_7
                      refine lv_iconst (v := (nI 1)) hx hb dX4_byteOf_189 (by decide) ?_
                      refine lv_goto (tgt := 194) hx hb dX4_byteOf_190 (by decide) ?_
                      refine lv_istore (lv' := [(9, .int (nI 1)), (8, .int (nI 1)), (0, .ref (M 0)), (1, .int (nI ss)), (2, .int (nI k)), (3, .int (nI zz)), (4, .int (nI 1)), (5, .int (nI (256 * k))), (6, .int (nI q)), (7, .int (nI x))]) hx hb dX4_byteOf_194 hl (by decide) rfl (fun ls hl => ?_)
                      have hen : enA (pcb (bI v ss) k) x = true := enA_0 _ c_7
                      refine lv_iload hx hb dX4_byteOf_196 (lv_at hl 6 rfl) ?_
                      refine lv_if_eq (tgt := 206) hx hb dX4_byteOf_198 (by decide) (fun c_8 => ?_) (fun c_8 => ?_)
                      · skip
                        exact absurd c_8 (by decide)
                      · skip
                        refine lv_iload hx hb dX4_byteOf_201 (lv_at hl 1 rfl) ?_
                        refine lv_if_eq (tgt := 217) hx hb dX4_byteOf_203 (by decide) (fun c_9 => ?_) (fun c_9 => ?_)
                        · skip
                          exact absurd c_9 (by decide)
                        · skip
                          refine lv_iload hx hb dX4_byteOf_206 (lv_at hl 8 rfl) ?_
                          refine lv_if_ne (tgt := 214) hx hb dX4_byteOf_208 (by decide) (fun c_10 => ?_) (fun c_10 => ?_)
                          · skip
                            have c_10 : ¬ (q = 0) := fun z => c_10 ((nI_e0 (a := q) (by omega)).mpr z)
                            refine lv_iinc (v := (nI (q - 1))) (lv' := [(6, .int (nI (q - 1))), (9, .int (nI 1)), (8, .int (nI 1)), (0, .ref (M 0)), (1, .int (nI ss)), (2, .int (nI k)), (3, .int (nI zz)), (4, .int (nI 1)), (5, .int (nI (256 * k))), (7, .int (nI x))]) hx hb dX4_byteOf_214 hl (k := 8) rfl (iinc_m (a := q) (by omega)) (by decide) rfl (fun ls hl => ?_)
                            refine lv_iload hx hb dX4_byteOf_217 (lv_at hl 7 rfl) ?_
                            refine lv_iconst (v := (nI 1)) hx hb dX4_byteOf_219 (by decide) ?_
                            refine lv_icmp_ne (tgt := 239) hx hb dX4_byteOf_220 (by decide) (fun c_11 => ?_) (fun c_11 => ?_)
                            · skip
                              exact absurd rfl c_11
                            · skip
                              refine lv_iload hx hb dX4_byteOf_223 (lv_at hl 1 rfl) ?_
                              refine lv_if_eq (tgt := 239) hx hb dX4_byteOf_225 (by decide) (fun c_12 => ?_) (fun c_12 => ?_)
                              · skip
                                exact absurd c_12 (by decide)
                              · skip
                                refine lv_iload hx hb dX4_byteOf_228 (lv_at hl 0 rfl) ?_
                                refine lv_if_ne (tgt := 236) hx hb dX4_byteOf_230 (by decide) (fun c_13 => ?_) (fun c_13 => ?_)
                                · skip
                                  have c_13 : ¬ ((q - 1) = 0) := fun z => c_13 ((nI_e0 (a := (q - 1)) (by omega)).mpr z)
                                  refine lv_iinc (v := (nI ((q - 1) - 1))) (lv' := [(6, .int (nI ((q - 1) - 1))), (9, .int (nI 1)), (8, .int (nI 1)), (0, .ref (M 0)), (1, .int (nI ss)), (2, .int (nI k)), (3, .int (nI zz)), (4, .int (nI 1)), (5, .int (nI (256 * k))), (7, .int (nI x))]) hx hb dX4_byteOf_236 hl (k := 0) rfl (iinc_m (a := q - 1) (by omega)) (by decide) rfl (fun ls hl => ?_)
                                  refine lv_iinc (v := (nI (x + 1))) (lv' := [(7, .int (nI (x + 1))), (6, .int (nI ((q - 1) - 1))), (9, .int (nI 1)), (8, .int (nI 1)), (0, .ref (M 0)), (1, .int (nI ss)), (2, .int (nI k)), (3, .int (nI zz)), (4, .int (nI 1)), (5, .int (nI (256 * k)))]) hx hb dX4_byteOf_239 hl (k := 9) rfl (iinc_n x 1) (by decide) rfl (fun ls hl => ?_)
                                  refine lv_goto (tgt := 118) hx hb dX4_byteOf_242 (by decide) ?_
                                  have hl := lv_sub hl (l' := [(0, .ref (M 0)), (1, .int (nI ss)), (2, .int (nI k)), (3, .int (nI zz)), (4, .int (nI 1)), (5, .int (nI (256 * k))), (6, .int (nI ((q - 1) - 1))), (7, .int (nI (x + 1)))]) [4, 5, 6, 7, 8, 9, 1, 0] rfl
                                  exact ih118 (x + 1) ((q - 1) - 1) (by omega) (by omega) (by rw [show 256 - x = (256 - (x + 1)) + 1 by omega, brF_3 c_5 hst c_10 hen c_13] at hv; exact hv) ls hl (by omega)
                                · skip
                                  have c_13 : (q - 1) = 0 := (nI_e0 (a := (q - 1)) (by omega)).mp c_13
                                  refine lv_iload hx hb dX4_byteOf_233 (lv_at hl 9 rfl) ?_
                                  subst hQ
                                  refine W.iret (v := (nI x)) hx hb hr (fun t ht hW => ⟨(nI x), rfl, ?_, ht⟩) (fun q h => absurd h List.not_mem_nil) dX4_byteOf_235
                                  rw [wb_r c_1 hk0 c_3, ← hv, show 256 - x = (256 - (x + 1)) + 1 by omega, brF_2 c_5 hst c_10 hen c_13]
                          · skip
                            have c_10 : q = 0 := (nI_e0 (a := q) (by omega)).mp c_10
                            refine lv_iload hx hb dX4_byteOf_211 (lv_at hl 9 rfl) ?_
                            subst hQ
                            refine W.iret (v := (nI x)) hx hb hr (fun t ht hW => ⟨(nI x), rfl, ?_, ht⟩) (fun q h => absurd h List.not_mem_nil) dX4_byteOf_213
                            rw [wb_r c_1 hk0 c_3, ← hv, show 256 - x = (256 - (x + 1)) + 1 by omega, brF_1 c_5 hst c_10]
                    · skip
                      have c_7 : ¬ (x = 255) := fun z => c_7 ((nI_eq (a := x) (b := 255) (by omega) (by omega)).mpr z)
                      refine lv_aload_n hx hb dX4_byteOf_174 rfl (lv_at hl 1 rfl) ?_
                      refine lv_iload_n hx hb dX4_byteOf_175 rfl (lv_at hl 2 rfl) ?_
                      refine lv_iload hx hb dX4_byteOf_176 (lv_at hl 6 rfl) ?_
                      refine lv_iload hx hb dX4_byteOf_178 (lv_at hl 8 rfl) ?_
                      refine lv_iadd hx hb dX4_byteOf_180 ?_
                      refine top_i (nI_add (256 * k) x) ?_
                      refine lv_iconst (v := (nI 1)) hx hb dX4_byteOf_181 (by decide) ?_
                      refine lv_iadd hx hb dX4_byteOf_182 ?_
                      refine top_i (nI_add ((256 * k) + x) 1) ?_
                      refine vp_callSi (va_Run.run (va_runV (As := [.int (nI ss), .int (nI (((256 * k) + x) + 1))]) (rest := []) ⟨hx, hb, hml, hown, hts⟩ (k_X4_has l D T M v as pa pk bu bm bi at0 ss (((256 * k) + x) + 1) (by omega) (by omega)) (cwV 2 hts gX4_byteOf_X4_has rfl rfl rfl (by decide +kernel) ⟨Nat.le_of_ble_eq_true rfl, Nat.le_of_ble_eq_true rfl⟩) (pre_V (Φ := fun X => MO D T X M v as pa pk bu bm bi at0) hK (hM.2.1) rfl hM) rfl rfl hl.1 rfl (lv_room (Nat.le_of_ble_eq_true rfl)) dX4_byteOf_183 ⟨Nat.le_of_ble_eq_true rfl, Nat.le_of_ble_eq_true rfl⟩)) (fun r_3 hr_3 => ?_)
                      subst hr_3
                      refine top_i (x' := (b2i ((pcb (bI v ss) k) (x + 1)))) (rfl) ?_
                      refine lv_if_ne (tgt := 193) hx hb dX4_byteOf_186 (by decide) (fun c_8 => ?_) (fun c_8 => ?_)
                      · skip
                        have c_8 : (pcb (bI v ss) k) (x + 1) = true := b2i_n0.mp c_8
                        refine lv_iconst (v := (nI 0)) hx hb dX4_byteOf_193 (by decide) ?_
                        refine lv_istore (lv' := [(9, .int (nI 0)), (8, .int (nI 1)), (0, .ref (M 0)), (1, .int (nI ss)), (2, .int (nI k)), (3, .int (nI zz)), (4, .int (nI 1)), (5, .int (nI (256 * k))), (6, .int (nI q)), (7, .int (nI x))]) hx hb dX4_byteOf_194 hl (by decide) rfl (fun ls hl => ?_)
                        have hen : enA (pcb (bI v ss) k) x = false := enA_p c_7 c_8
                        refine lv_iload hx hb dX4_byteOf_196 (lv_at hl 6 rfl) ?_
                        refine lv_if_eq (tgt := 206) hx hb dX4_byteOf_198 (by decide) (fun c_9 => ?_) (fun c_9 => ?_)
                        · skip
                          exact absurd c_9 (by decide)
                        · skip
                          refine lv_iload hx hb dX4_byteOf_201 (lv_at hl 1 rfl) ?_
                          refine lv_if_eq (tgt := 217) hx hb dX4_byteOf_203 (by decide) (fun c_10 => ?_) (fun c_10 => ?_)
                          · skip
                            exact absurd c_10 (by decide)
                          · skip
                            refine lv_iload hx hb dX4_byteOf_206 (lv_at hl 8 rfl) ?_
                            refine lv_if_ne (tgt := 214) hx hb dX4_byteOf_208 (by decide) (fun c_11 => ?_) (fun c_11 => ?_)
                            · skip
                              have c_11 : ¬ (q = 0) := fun z => c_11 ((nI_e0 (a := q) (by omega)).mpr z)
                              refine lv_iinc (v := (nI (q - 1))) (lv' := [(6, .int (nI (q - 1))), (9, .int (nI 0)), (8, .int (nI 1)), (0, .ref (M 0)), (1, .int (nI ss)), (2, .int (nI k)), (3, .int (nI zz)), (4, .int (nI 1)), (5, .int (nI (256 * k))), (7, .int (nI x))]) hx hb dX4_byteOf_214 hl (k := 8) rfl (iinc_m (a := q) (by omega)) (by decide) rfl (fun ls hl => ?_)
                              refine lv_iload hx hb dX4_byteOf_217 (lv_at hl 7 rfl) ?_
                              refine lv_iconst (v := (nI 1)) hx hb dX4_byteOf_219 (by decide) ?_
                              refine lv_icmp_ne (tgt := 239) hx hb dX4_byteOf_220 (by decide) (fun c_12 => ?_) (fun c_12 => ?_)
                              · skip
                                exact absurd rfl c_12
                              · skip
                                refine lv_iload hx hb dX4_byteOf_223 (lv_at hl 1 rfl) ?_
                                refine lv_if_eq (tgt := 239) hx hb dX4_byteOf_225 (by decide) (fun c_13 => ?_) (fun c_13 => ?_)
                                · skip
                                  refine lv_iinc (v := (nI (x + 1))) (lv' := [(7, .int (nI (x + 1))), (6, .int (nI (q - 1))), (9, .int (nI 0)), (8, .int (nI 1)), (0, .ref (M 0)), (1, .int (nI ss)), (2, .int (nI k)), (3, .int (nI zz)), (4, .int (nI 1)), (5, .int (nI (256 * k)))]) hx hb dX4_byteOf_239 hl (k := 9) rfl (iinc_n x 1) (by decide) rfl (fun ls hl => ?_)
                                  refine lv_goto (tgt := 118) hx hb dX4_byteOf_242 (by decide) ?_
                                  have hl := lv_sub hl (l' := [(0, .ref (M 0)), (1, .int (nI ss)), (2, .int (nI k)), (3, .int (nI zz)), (4, .int (nI 1)), (5, .int (nI (256 * k))), (6, .int (nI (q - 1))), (7, .int (nI (x + 1)))]) [4, 5, 6, 7, 8, 9, 1, 0] rfl
                                  exact ih118 (x + 1) (q - 1) (by omega) (by omega) (by rw [show 256 - x = (256 - (x + 1)) + 1 by omega, brF_4 c_5 hst c_11 hen] at hv; exact hv) ls hl (by omega)
                                · skip
                                  exact absurd (by decide) c_13
                            · skip
                              have c_11 : q = 0 := (nI_e0 (a := q) (by omega)).mp c_11
                              refine lv_iload hx hb dX4_byteOf_211 (lv_at hl 9 rfl) ?_
                              subst hQ
                              refine W.iret (v := (nI x)) hx hb hr (fun t ht hW => ⟨(nI x), rfl, ?_, ht⟩) (fun q h => absurd h List.not_mem_nil) dX4_byteOf_213
                              rw [wb_r c_1 hk0 c_3, ← hv, show 256 - x = (256 - (x + 1)) + 1 by omega, brF_1 c_5 hst c_11]
                      · skip
                        have c_8 : (pcb (bI v ss) k) (x + 1) = false := b2i_0.mp c_8
                        refine lv_iconst (v := (nI 1)) hx hb dX4_byteOf_189 (by decide) ?_
                        refine lv_goto (tgt := 194) hx hb dX4_byteOf_190 (by decide) ?_
                        refine lv_istore (lv' := [(9, .int (nI 1)), (8, .int (nI 1)), (0, .ref (M 0)), (1, .int (nI ss)), (2, .int (nI k)), (3, .int (nI zz)), (4, .int (nI 1)), (5, .int (nI (256 * k))), (6, .int (nI q)), (7, .int (nI x))]) hx hb dX4_byteOf_194 hl (by decide) rfl (fun ls hl => ?_)
                        have hen : enA (pcb (bI v ss) k) x = true := enA_p c_7 c_8
                        refine lv_iload hx hb dX4_byteOf_196 (lv_at hl 6 rfl) ?_
                        refine lv_if_eq (tgt := 206) hx hb dX4_byteOf_198 (by decide) (fun c_9 => ?_) (fun c_9 => ?_)
                        · skip
                          exact absurd c_9 (by decide)
                        · skip
                          refine lv_iload hx hb dX4_byteOf_201 (lv_at hl 1 rfl) ?_
                          refine lv_if_eq (tgt := 217) hx hb dX4_byteOf_203 (by decide) (fun c_10 => ?_) (fun c_10 => ?_)
                          · skip
                            exact absurd c_10 (by decide)
                          · skip
                            refine lv_iload hx hb dX4_byteOf_206 (lv_at hl 8 rfl) ?_
                            refine lv_if_ne (tgt := 214) hx hb dX4_byteOf_208 (by decide) (fun c_11 => ?_) (fun c_11 => ?_)
                            · skip
                              have c_11 : ¬ (q = 0) := fun z => c_11 ((nI_e0 (a := q) (by omega)).mpr z)
                              refine lv_iinc (v := (nI (q - 1))) (lv' := [(6, .int (nI (q - 1))), (9, .int (nI 1)), (8, .int (nI 1)), (0, .ref (M 0)), (1, .int (nI ss)), (2, .int (nI k)), (3, .int (nI zz)), (4, .int (nI 1)), (5, .int (nI (256 * k))), (7, .int (nI x))]) hx hb dX4_byteOf_214 hl (k := 8) rfl (iinc_m (a := q) (by omega)) (by decide) rfl (fun ls hl => ?_)
                              refine lv_iload hx hb dX4_byteOf_217 (lv_at hl 7 rfl) ?_
                              refine lv_iconst (v := (nI 1)) hx hb dX4_byteOf_219 (by decide) ?_
                              refine lv_icmp_ne (tgt := 239) hx hb dX4_byteOf_220 (by decide) (fun c_12 => ?_) (fun c_12 => ?_)
                              · skip
                                exact absurd rfl c_12
                              · skip
                                refine lv_iload hx hb dX4_byteOf_223 (lv_at hl 1 rfl) ?_
                                refine lv_if_eq (tgt := 239) hx hb dX4_byteOf_225 (by decide) (fun c_13 => ?_) (fun c_13 => ?_)
                                · skip
                                  exact absurd c_13 (by decide)
                                · skip
                                  refine lv_iload hx hb dX4_byteOf_228 (lv_at hl 0 rfl) ?_
                                  refine lv_if_ne (tgt := 236) hx hb dX4_byteOf_230 (by decide) (fun c_14 => ?_) (fun c_14 => ?_)
                                  · skip
                                    have c_14 : ¬ ((q - 1) = 0) := fun z => c_14 ((nI_e0 (a := (q - 1)) (by omega)).mpr z)
                                    refine lv_iinc (v := (nI ((q - 1) - 1))) (lv' := [(6, .int (nI ((q - 1) - 1))), (9, .int (nI 1)), (8, .int (nI 1)), (0, .ref (M 0)), (1, .int (nI ss)), (2, .int (nI k)), (3, .int (nI zz)), (4, .int (nI 1)), (5, .int (nI (256 * k))), (7, .int (nI x))]) hx hb dX4_byteOf_236 hl (k := 0) rfl (iinc_m (a := q - 1) (by omega)) (by decide) rfl (fun ls hl => ?_)
                                    refine lv_iinc (v := (nI (x + 1))) (lv' := [(7, .int (nI (x + 1))), (6, .int (nI ((q - 1) - 1))), (9, .int (nI 1)), (8, .int (nI 1)), (0, .ref (M 0)), (1, .int (nI ss)), (2, .int (nI k)), (3, .int (nI zz)), (4, .int (nI 1)), (5, .int (nI (256 * k)))]) hx hb dX4_byteOf_239 hl (k := 9) rfl (iinc_n x 1) (by decide) rfl (fun ls hl => ?_)
                                    refine lv_goto (tgt := 118) hx hb dX4_byteOf_242 (by decide) ?_
                                    have hl := lv_sub hl (l' := [(0, .ref (M 0)), (1, .int (nI ss)), (2, .int (nI k)), (3, .int (nI zz)), (4, .int (nI 1)), (5, .int (nI (256 * k))), (6, .int (nI ((q - 1) - 1))), (7, .int (nI (x + 1)))]) [4, 5, 6, 7, 8, 9, 1, 0] rfl
                                    exact ih118 (x + 1) ((q - 1) - 1) (by omega) (by omega) (by rw [show 256 - x = (256 - (x + 1)) + 1 by omega, brF_3 c_5 hst c_11 hen c_14] at hv; exact hv) ls hl (by omega)
                                  · skip
                                    have c_14 : (q - 1) = 0 := (nI_e0 (a := (q - 1)) (by omega)).mp c_14
                                    refine lv_iload hx hb dX4_byteOf_233 (lv_at hl 9 rfl) ?_
                                    subst hQ
                                    refine W.iret (v := (nI x)) hx hb hr (fun t ht hW => ⟨(nI x), rfl, ?_, ht⟩) (fun q h => absurd h List.not_mem_nil) dX4_byteOf_235
                                    rw [wb_r c_1 hk0 c_3, ← hv, show 256 - x = (256 - (x + 1)) + 1 by omega, brF_2 c_5 hst c_11 hen c_14]
                            · skip
                              have c_11 : q = 0 := (nI_e0 (a := q) (by omega)).mp c_11
                              refine lv_iload hx hb dX4_byteOf_211 (lv_at hl 9 rfl) ?_
                              subst hQ
                              refine W.iret (v := (nI x)) hx hb hr (fun t ht hW => ⟨(nI x), rfl, ?_, ht⟩) (fun q h => absurd h List.not_mem_nil) dX4_byteOf_213
                              rw [wb_r c_1 hk0 c_3, ← hv, show 256 - x = (256 - (x + 1)) + 1 by omega, brF_1 c_5 hst c_11]
                  · skip
                    have c_6 : ¬ (x = 0) := fun z => c_6 ((nI_e0 (a := x) (by omega)).mpr z)
                    refine lv_aload_n hx hb dX4_byteOf_144 rfl (lv_at hl 0 rfl) ?_
                    refine lv_iload_n hx hb dX4_byteOf_145 rfl (lv_at hl 1 rfl) ?_
                    refine lv_iload hx hb dX4_byteOf_146 (lv_at hl 5 rfl) ?_
                    refine lv_iload hx hb dX4_byteOf_148 (lv_at hl 7 rfl) ?_
                    refine lv_iadd hx hb dX4_byteOf_150 ?_
                    refine top_i (nI_add (256 * k) x) ?_
                    refine lv_iconst (v := (nI 1)) hx hb dX4_byteOf_151 (by decide) ?_
                    refine lv_isub hx hb dX4_byteOf_152 ?_
                    refine top_i (pk_sub (a := (256 * k) + x) (b := 1) (by omega)) ?_
                    refine vp_callSi (va_Run.run (va_runV (As := [.int (nI ss), .int (nI (((256 * k) + x) - 1))]) (rest := []) ⟨hx, hb, hml, hown, hts⟩ (k_X4_has l D T M v as pa pk bu bm bi at0 ss (((256 * k) + x) - 1) (by omega) (by omega)) (cwV 2 hts gX4_byteOf_X4_has rfl rfl rfl (by decide +kernel) ⟨Nat.le_of_ble_eq_true rfl, Nat.le_of_ble_eq_true rfl⟩) (pre_V (Φ := fun X => MO D T X M v as pa pk bu bm bi at0) hK (hM.2.1) rfl hM) rfl rfl hl.1 rfl (lv_room (Nat.le_of_ble_eq_true rfl)) dX4_byteOf_153 ⟨Nat.le_of_ble_eq_true rfl, Nat.le_of_ble_eq_true rfl⟩)) (fun r_3 hr_3 => ?_)
                    subst hr_3
                    refine top_i (x' := (b2i ((pcb (bI v ss) k) (x - 1)))) (congrArg b2i (congrArg (bI v ss) (show 256 * k + x - 1 = 256 * k + (x - 1) by omega))) ?_
                    refine lv_if_ne (tgt := 163) hx hb dX4_byteOf_156 (by decide) (fun c_7 => ?_) (fun c_7 => ?_)
                    · skip
                      have c_7 : (pcb (bI v ss) k) (x - 1) = true := b2i_n0.mp c_7
                      refine lv_iconst (v := (nI 0)) hx hb dX4_byteOf_163 (by decide) ?_
                      refine lv_istore (lv' := [(8, .int (nI 0)), (0, .ref (M 0)), (1, .int (nI ss)), (2, .int (nI k)), (3, .int (nI zz)), (4, .int (nI 1)), (5, .int (nI (256 * k))), (6, .int (nI q)), (7, .int (nI x))]) hx hb dX4_byteOf_164 hl (by decide) rfl (fun ls hl => ?_)
                      have hst : stA (pcb (bI v ss) k) x = false := stA_p c_6 c_7
                      refine lv_iload hx hb dX4_byteOf_166 (lv_at hl 8 rfl) ?_
                      refine lv_sipush (v := (nI 255)) hx hb dX4_byteOf_168 (by decide) ?_
                      refine lv_icmp_eq (tgt := 189) hx hb dX4_byteOf_171 (by decide) (fun c_8 => ?_) (fun c_8 => ?_)
                      · skip
                        have c_8 : x = 255 := (nI_eq (a := x) (b := 255) (by omega) (by omega)).mp c_8
                        refine lv_iconst (v := (nI 1)) hx hb dX4_byteOf_189 (by decide) ?_
                        refine lv_goto (tgt := 194) hx hb dX4_byteOf_190 (by decide) ?_
                        refine lv_istore (lv' := [(9, .int (nI 1)), (8, .int (nI 0)), (0, .ref (M 0)), (1, .int (nI ss)), (2, .int (nI k)), (3, .int (nI zz)), (4, .int (nI 1)), (5, .int (nI (256 * k))), (6, .int (nI q)), (7, .int (nI x))]) hx hb dX4_byteOf_194 hl (by decide) rfl (fun ls hl => ?_)
                        have hen : enA (pcb (bI v ss) k) x = true := enA_0 _ c_8
                        refine lv_iload hx hb dX4_byteOf_196 (lv_at hl 6 rfl) ?_
                        refine lv_if_eq (tgt := 206) hx hb dX4_byteOf_198 (by decide) (fun c_9 => ?_) (fun c_9 => ?_)
                        · skip
                          exact absurd c_9 (by decide)
                        · skip
                          refine lv_iload hx hb dX4_byteOf_201 (lv_at hl 1 rfl) ?_
                          refine lv_if_eq (tgt := 217) hx hb dX4_byteOf_203 (by decide) (fun c_10 => ?_) (fun c_10 => ?_)
                          · skip
                            refine lv_iload hx hb dX4_byteOf_217 (lv_at hl 6 rfl) ?_
                            refine lv_iconst (v := (nI 1)) hx hb dX4_byteOf_219 (by decide) ?_
                            refine lv_icmp_ne (tgt := 239) hx hb dX4_byteOf_220 (by decide) (fun c_11 => ?_) (fun c_11 => ?_)
                            · skip
                              exact absurd rfl c_11
                            · skip
                              refine lv_iload hx hb dX4_byteOf_223 (lv_at hl 0 rfl) ?_
                              refine lv_if_eq (tgt := 239) hx hb dX4_byteOf_225 (by decide) (fun c_12 => ?_) (fun c_12 => ?_)
                              · skip
                                exact absurd c_12 (by decide)
                              · skip
                                refine lv_iload hx hb dX4_byteOf_228 (lv_at hl 8 rfl) ?_
                                refine lv_if_ne (tgt := 236) hx hb dX4_byteOf_230 (by decide) (fun c_13 => ?_) (fun c_13 => ?_)
                                · skip
                                  have c_13 : ¬ (q = 0) := fun z => c_13 ((nI_e0 (a := q) (by omega)).mpr z)
                                  refine lv_iinc (v := (nI (q - 1))) (lv' := [(6, .int (nI (q - 1))), (9, .int (nI 1)), (8, .int (nI 0)), (0, .ref (M 0)), (1, .int (nI ss)), (2, .int (nI k)), (3, .int (nI zz)), (4, .int (nI 1)), (5, .int (nI (256 * k))), (7, .int (nI x))]) hx hb dX4_byteOf_236 hl (k := 8) rfl (iinc_m (a := q) (by omega)) (by decide) rfl (fun ls hl => ?_)
                                  refine lv_iinc (v := (nI (x + 1))) (lv' := [(7, .int (nI (x + 1))), (6, .int (nI (q - 1))), (9, .int (nI 1)), (8, .int (nI 0)), (0, .ref (M 0)), (1, .int (nI ss)), (2, .int (nI k)), (3, .int (nI zz)), (4, .int (nI 1)), (5, .int (nI (256 * k)))]) hx hb dX4_byteOf_239 hl (k := 9) rfl (iinc_n x 1) (by decide) rfl (fun ls hl => ?_)
                                  refine lv_goto (tgt := 118) hx hb dX4_byteOf_242 (by decide) ?_
                                  have hl := lv_sub hl (l' := [(0, .ref (M 0)), (1, .int (nI ss)), (2, .int (nI k)), (3, .int (nI zz)), (4, .int (nI 1)), (5, .int (nI (256 * k))), (6, .int (nI (q - 1))), (7, .int (nI (x + 1)))]) [4, 5, 6, 7, 8, 9, 1, 0] rfl
                                  exact ih118 (x + 1) (q - 1) (by omega) (by omega) (by rw [show 256 - x = (256 - (x + 1)) + 1 by omega, brF_6 c_5 hst hen c_13] at hv; exact hv) ls hl (by omega)
                                · skip
                                  have c_13 : q = 0 := (nI_e0 (a := q) (by omega)).mp c_13
                                  refine lv_iload hx hb dX4_byteOf_233 (lv_at hl 9 rfl) ?_
                                  subst hQ
                                  refine W.iret (v := (nI x)) hx hb hr (fun t ht hW => ⟨(nI x), rfl, ?_, ht⟩) (fun q h => absurd h List.not_mem_nil) dX4_byteOf_235
                                  rw [wb_r c_1 hk0 c_3, ← hv, show 256 - x = (256 - (x + 1)) + 1 by omega, brF_5 c_5 hst hen c_13]
                          · skip
                            exact absurd (by decide) c_10
                      · skip
                        have c_8 : ¬ (x = 255) := fun z => c_8 ((nI_eq (a := x) (b := 255) (by omega) (by omega)).mpr z)
                        refine lv_aload_n hx hb dX4_byteOf_174 rfl (lv_at hl 1 rfl) ?_
                        refine lv_iload_n hx hb dX4_byteOf_175 rfl (lv_at hl 2 rfl) ?_
                        refine lv_iload hx hb dX4_byteOf_176 (lv_at hl 6 rfl) ?_
                        refine lv_iload hx hb dX4_byteOf_178 (lv_at hl 8 rfl) ?_
                        refine lv_iadd hx hb dX4_byteOf_180 ?_
                        refine top_i (nI_add (256 * k) x) ?_
                        refine lv_iconst (v := (nI 1)) hx hb dX4_byteOf_181 (by decide) ?_
                        refine lv_iadd hx hb dX4_byteOf_182 ?_
                        refine top_i (nI_add ((256 * k) + x) 1) ?_
                        refine vp_callSi (va_Run.run (va_runV (As := [.int (nI ss), .int (nI (((256 * k) + x) + 1))]) (rest := []) ⟨hx, hb, hml, hown, hts⟩ (k_X4_has l D T M v as pa pk bu bm bi at0 ss (((256 * k) + x) + 1) (by omega) (by omega)) (cwV 2 hts gX4_byteOf_X4_has rfl rfl rfl (by decide +kernel) ⟨Nat.le_of_ble_eq_true rfl, Nat.le_of_ble_eq_true rfl⟩) (pre_V (Φ := fun X => MO D T X M v as pa pk bu bm bi at0) hK (hM.2.1) rfl hM) rfl rfl hl.1 rfl (lv_room (Nat.le_of_ble_eq_true rfl)) dX4_byteOf_183 ⟨Nat.le_of_ble_eq_true rfl, Nat.le_of_ble_eq_true rfl⟩)) (fun r_4 hr_4 => ?_)
                        subst hr_4
                        refine top_i (x' := (b2i ((pcb (bI v ss) k) (x + 1)))) (rfl) ?_
                        refine lv_if_ne (tgt := 193) hx hb dX4_byteOf_186 (by decide) (fun c_9 => ?_) (fun c_9 => ?_)
                        · skip
                          have c_9 : (pcb (bI v ss) k) (x + 1) = true := b2i_n0.mp c_9
                          refine lv_iconst (v := (nI 0)) hx hb dX4_byteOf_193 (by decide) ?_
                          refine lv_istore (lv' := [(9, .int (nI 0)), (8, .int (nI 0)), (0, .ref (M 0)), (1, .int (nI ss)), (2, .int (nI k)), (3, .int (nI zz)), (4, .int (nI 1)), (5, .int (nI (256 * k))), (6, .int (nI q)), (7, .int (nI x))]) hx hb dX4_byteOf_194 hl (by decide) rfl (fun ls hl => ?_)
                          have hen : enA (pcb (bI v ss) k) x = false := enA_p c_8 c_9
                          refine lv_iload hx hb dX4_byteOf_196 (lv_at hl 6 rfl) ?_
                          refine lv_if_eq (tgt := 206) hx hb dX4_byteOf_198 (by decide) (fun c_10 => ?_) (fun c_10 => ?_)
                          · skip
                            exact absurd c_10 (by decide)
                          · skip
                            refine lv_iload hx hb dX4_byteOf_201 (lv_at hl 1 rfl) ?_
                            refine lv_if_eq (tgt := 217) hx hb dX4_byteOf_203 (by decide) (fun c_11 => ?_) (fun c_11 => ?_)
                            · skip
                              refine lv_iload hx hb dX4_byteOf_217 (lv_at hl 6 rfl) ?_
                              refine lv_iconst (v := (nI 1)) hx hb dX4_byteOf_219 (by decide) ?_
                              refine lv_icmp_ne (tgt := 239) hx hb dX4_byteOf_220 (by decide) (fun c_12 => ?_) (fun c_12 => ?_)
                              · skip
                                exact absurd rfl c_12
                              · skip
                                refine lv_iload hx hb dX4_byteOf_223 (lv_at hl 0 rfl) ?_
                                refine lv_if_eq (tgt := 239) hx hb dX4_byteOf_225 (by decide) (fun c_13 => ?_) (fun c_13 => ?_)
                                · skip
                                  refine lv_iinc (v := (nI (x + 1))) (lv' := [(7, .int (nI (x + 1))), (9, .int (nI 0)), (8, .int (nI 0)), (0, .ref (M 0)), (1, .int (nI ss)), (2, .int (nI k)), (3, .int (nI zz)), (4, .int (nI 1)), (5, .int (nI (256 * k))), (6, .int (nI q))]) hx hb dX4_byteOf_239 hl (k := 9) rfl (iinc_n x 1) (by decide) rfl (fun ls hl => ?_)
                                  refine lv_goto (tgt := 118) hx hb dX4_byteOf_242 (by decide) ?_
                                  have hl := lv_sub hl (l' := [(0, .ref (M 0)), (1, .int (nI ss)), (2, .int (nI k)), (3, .int (nI zz)), (4, .int (nI 1)), (5, .int (nI (256 * k))), (6, .int (nI q)), (7, .int (nI (x + 1)))]) [3, 4, 5, 6, 7, 8, 9, 0] rfl
                                  exact ih118 (x + 1) q (by omega) (by omega) (by rw [show 256 - x = (256 - (x + 1)) + 1 by omega, brF_7 c_5 hst hen] at hv; exact hv) ls hl (by omega)
                                · skip
                                  exact absurd (by decide) c_13
                            · skip
                              exact absurd (by decide) c_11
                        · skip
                          have c_9 : (pcb (bI v ss) k) (x + 1) = false := b2i_0.mp c_9
                          refine lv_iconst (v := (nI 1)) hx hb dX4_byteOf_189 (by decide) ?_
                          refine lv_goto (tgt := 194) hx hb dX4_byteOf_190 (by decide) ?_
                          refine lv_istore (lv' := [(9, .int (nI 1)), (8, .int (nI 0)), (0, .ref (M 0)), (1, .int (nI ss)), (2, .int (nI k)), (3, .int (nI zz)), (4, .int (nI 1)), (5, .int (nI (256 * k))), (6, .int (nI q)), (7, .int (nI x))]) hx hb dX4_byteOf_194 hl (by decide) rfl (fun ls hl => ?_)
                          have hen : enA (pcb (bI v ss) k) x = true := enA_p c_8 c_9
                          refine lv_iload hx hb dX4_byteOf_196 (lv_at hl 6 rfl) ?_
                          refine lv_if_eq (tgt := 206) hx hb dX4_byteOf_198 (by decide) (fun c_10 => ?_) (fun c_10 => ?_)
                          · skip
                            exact absurd c_10 (by decide)
                          · skip
                            refine lv_iload hx hb dX4_byteOf_201 (lv_at hl 1 rfl) ?_
                            refine lv_if_eq (tgt := 217) hx hb dX4_byteOf_203 (by decide) (fun c_11 => ?_) (fun c_11 => ?_)
                            · skip
                              refine lv_iload hx hb dX4_byteOf_217 (lv_at hl 6 rfl) ?_
                              refine lv_iconst (v := (nI 1)) hx hb dX4_byteOf_219 (by decide) ?_
                              refine lv_icmp_ne (tgt := 239) hx hb dX4_byteOf_220 (by decide) (fun c_12 => ?_) (fun c_12 => ?_)
                              · skip
                                exact absurd rfl c_12
                              · skip
                                refine lv_iload hx hb dX4_byteOf_223 (lv_at hl 0 rfl) ?_
                                refine lv_if_eq (tgt := 239) hx hb dX4_byteOf_225 (by decide) (fun c_13 => ?_) (fun c_13 => ?_)
                                · skip
                                  exact absurd c_13 (by decide)
                                · skip
                                  refine lv_iload hx hb dX4_byteOf_228 (lv_at hl 8 rfl) ?_
                                  refine lv_if_ne (tgt := 236) hx hb dX4_byteOf_230 (by decide) (fun c_14 => ?_) (fun c_14 => ?_)
                                  · skip
                                    have c_14 : ¬ (q = 0) := fun z => c_14 ((nI_e0 (a := q) (by omega)).mpr z)
                                    refine lv_iinc (v := (nI (q - 1))) (lv' := [(6, .int (nI (q - 1))), (9, .int (nI 1)), (8, .int (nI 0)), (0, .ref (M 0)), (1, .int (nI ss)), (2, .int (nI k)), (3, .int (nI zz)), (4, .int (nI 1)), (5, .int (nI (256 * k))), (7, .int (nI x))]) hx hb dX4_byteOf_236 hl (k := 8) rfl (iinc_m (a := q) (by omega)) (by decide) rfl (fun ls hl => ?_)
                                    refine lv_iinc (v := (nI (x + 1))) (lv' := [(7, .int (nI (x + 1))), (6, .int (nI (q - 1))), (9, .int (nI 1)), (8, .int (nI 0)), (0, .ref (M 0)), (1, .int (nI ss)), (2, .int (nI k)), (3, .int (nI zz)), (4, .int (nI 1)), (5, .int (nI (256 * k)))]) hx hb dX4_byteOf_239 hl (k := 9) rfl (iinc_n x 1) (by decide) rfl (fun ls hl => ?_)
                                    refine lv_goto (tgt := 118) hx hb dX4_byteOf_242 (by decide) ?_
                                    have hl := lv_sub hl (l' := [(0, .ref (M 0)), (1, .int (nI ss)), (2, .int (nI k)), (3, .int (nI zz)), (4, .int (nI 1)), (5, .int (nI (256 * k))), (6, .int (nI (q - 1))), (7, .int (nI (x + 1)))]) [4, 5, 6, 7, 8, 9, 1, 0] rfl
                                    exact ih118 (x + 1) (q - 1) (by omega) (by omega) (by rw [show 256 - x = (256 - (x + 1)) + 1 by omega, brF_6 c_5 hst hen c_14] at hv; exact hv) ls hl (by omega)
                                  · skip
                                    have c_14 : q = 0 := (nI_e0 (a := q) (by omega)).mp c_14
                                    refine lv_iload hx hb dX4_byteOf_233 (lv_at hl 9 rfl) ?_
                                    subst hQ
                                    refine W.iret (v := (nI x)) hx hb hr (fun t ht hW => ⟨(nI x), rfl, ?_, ht⟩) (fun q h => absurd h List.not_mem_nil) dX4_byteOf_235
                                    rw [wb_r c_1 hk0 c_3, ← hv, show 256 - x = (256 - (x + 1)) + 1 by omega, brF_5 c_5 hst hen c_14]
                            · skip
                              exact absurd (by decide) c_11
                    · skip
                      have c_7 : (pcb (bI v ss) k) (x - 1) = false := b2i_0.mp c_7
                      refine lv_iconst (v := (nI 1)) hx hb dX4_byteOf_159 (by decide) ?_
                      refine lv_goto (tgt := 164) hx hb dX4_byteOf_160 (by decide) ?_
                      refine lv_istore (lv' := [(8, .int (nI 1)), (0, .ref (M 0)), (1, .int (nI ss)), (2, .int (nI k)), (3, .int (nI zz)), (4, .int (nI 1)), (5, .int (nI (256 * k))), (6, .int (nI q)), (7, .int (nI x))]) hx hb dX4_byteOf_164 hl (by decide) rfl (fun ls hl => ?_)
                      have hst : stA (pcb (bI v ss) k) x = true := stA_p c_6 c_7
                      refine lv_iload hx hb dX4_byteOf_166 (lv_at hl 8 rfl) ?_
                      refine lv_sipush (v := (nI 255)) hx hb dX4_byteOf_168 (by decide) ?_
                      refine lv_icmp_eq (tgt := 189) hx hb dX4_byteOf_171 (by decide) (fun c_8 => ?_) (fun c_8 => ?_)
                      · skip
                        have c_8 : x = 255 := (nI_eq (a := x) (b := 255) (by omega) (by omega)).mp c_8
                        refine lv_iconst (v := (nI 1)) hx hb dX4_byteOf_189 (by decide) ?_
                        refine lv_goto (tgt := 194) hx hb dX4_byteOf_190 (by decide) ?_
                        refine lv_istore (lv' := [(9, .int (nI 1)), (8, .int (nI 1)), (0, .ref (M 0)), (1, .int (nI ss)), (2, .int (nI k)), (3, .int (nI zz)), (4, .int (nI 1)), (5, .int (nI (256 * k))), (6, .int (nI q)), (7, .int (nI x))]) hx hb dX4_byteOf_194 hl (by decide) rfl (fun ls hl => ?_)
                        have hen : enA (pcb (bI v ss) k) x = true := enA_0 _ c_8
                        refine lv_iload hx hb dX4_byteOf_196 (lv_at hl 6 rfl) ?_
                        refine lv_if_eq (tgt := 206) hx hb dX4_byteOf_198 (by decide) (fun c_9 => ?_) (fun c_9 => ?_)
                        · skip
                          exact absurd c_9 (by decide)
                        · skip
                          refine lv_iload hx hb dX4_byteOf_201 (lv_at hl 1 rfl) ?_
                          refine lv_if_eq (tgt := 217) hx hb dX4_byteOf_203 (by decide) (fun c_10 => ?_) (fun c_10 => ?_)
                          · skip
                            exact absurd c_10 (by decide)
                          · skip
                            refine lv_iload hx hb dX4_byteOf_206 (lv_at hl 8 rfl) ?_
                            refine lv_if_ne (tgt := 214) hx hb dX4_byteOf_208 (by decide) (fun c_11 => ?_) (fun c_11 => ?_)
                            · skip
                              have c_11 : ¬ (q = 0) := fun z => c_11 ((nI_e0 (a := q) (by omega)).mpr z)
                              refine lv_iinc (v := (nI (q - 1))) (lv' := [(6, .int (nI (q - 1))), (9, .int (nI 1)), (8, .int (nI 1)), (0, .ref (M 0)), (1, .int (nI ss)), (2, .int (nI k)), (3, .int (nI zz)), (4, .int (nI 1)), (5, .int (nI (256 * k))), (7, .int (nI x))]) hx hb dX4_byteOf_214 hl (k := 8) rfl (iinc_m (a := q) (by omega)) (by decide) rfl (fun ls hl => ?_)
                              refine lv_iload hx hb dX4_byteOf_217 (lv_at hl 7 rfl) ?_
                              refine lv_iconst (v := (nI 1)) hx hb dX4_byteOf_219 (by decide) ?_
                              refine lv_icmp_ne (tgt := 239) hx hb dX4_byteOf_220 (by decide) (fun c_12 => ?_) (fun c_12 => ?_)
                              · skip
                                exact absurd rfl c_12
                              · skip
                                refine lv_iload hx hb dX4_byteOf_223 (lv_at hl 1 rfl) ?_
                                refine lv_if_eq (tgt := 239) hx hb dX4_byteOf_225 (by decide) (fun c_13 => ?_) (fun c_13 => ?_)
                                · skip
                                  exact absurd c_13 (by decide)
                                · skip
                                  refine lv_iload hx hb dX4_byteOf_228 (lv_at hl 0 rfl) ?_
                                  refine lv_if_ne (tgt := 236) hx hb dX4_byteOf_230 (by decide) (fun c_14 => ?_) (fun c_14 => ?_)
                                  · skip
                                    have c_14 : ¬ ((q - 1) = 0) := fun z => c_14 ((nI_e0 (a := (q - 1)) (by omega)).mpr z)
                                    refine lv_iinc (v := (nI ((q - 1) - 1))) (lv' := [(6, .int (nI ((q - 1) - 1))), (9, .int (nI 1)), (8, .int (nI 1)), (0, .ref (M 0)), (1, .int (nI ss)), (2, .int (nI k)), (3, .int (nI zz)), (4, .int (nI 1)), (5, .int (nI (256 * k))), (7, .int (nI x))]) hx hb dX4_byteOf_236 hl (k := 0) rfl (iinc_m (a := q - 1) (by omega)) (by decide) rfl (fun ls hl => ?_)
                                    refine lv_iinc (v := (nI (x + 1))) (lv' := [(7, .int (nI (x + 1))), (6, .int (nI ((q - 1) - 1))), (9, .int (nI 1)), (8, .int (nI 1)), (0, .ref (M 0)), (1, .int (nI ss)), (2, .int (nI k)), (3, .int (nI zz)), (4, .int (nI 1)), (5, .int (nI (256 * k)))]) hx hb dX4_byteOf_239 hl (k := 9) rfl (iinc_n x 1) (by decide) rfl (fun ls hl => ?_)
                                    refine lv_goto (tgt := 118) hx hb dX4_byteOf_242 (by decide) ?_
                                    have hl := lv_sub hl (l' := [(0, .ref (M 0)), (1, .int (nI ss)), (2, .int (nI k)), (3, .int (nI zz)), (4, .int (nI 1)), (5, .int (nI (256 * k))), (6, .int (nI ((q - 1) - 1))), (7, .int (nI (x + 1)))]) [4, 5, 6, 7, 8, 9, 1, 0] rfl
                                    exact ih118 (x + 1) ((q - 1) - 1) (by omega) (by omega) (by rw [show 256 - x = (256 - (x + 1)) + 1 by omega, brF_3 c_5 hst c_11 hen c_14] at hv; exact hv) ls hl (by omega)
                                  · skip
                                    have c_14 : (q - 1) = 0 := (nI_e0 (a := (q - 1)) (by omega)).mp c_14
                                    refine lv_iload hx hb dX4_byteOf_233 (lv_at hl 9 rfl) ?_
                                    subst hQ
                                    refine W.iret (v := (nI x)) hx hb hr (fun t ht hW => ⟨(nI x), rfl, ?_, ht⟩) (fun q h => absurd h List.not_mem_nil) dX4_byteOf_235
                                    rw [wb_r c_1 hk0 c_3, ← hv, show 256 - x = (256 - (x + 1)) + 1 by omega, brF_2 c_5 hst c_11 hen c_14]
                            · skip
                              have c_11 : q = 0 := (nI_e0 (a := q) (by omega)).mp c_11
                              refine lv_iload hx hb dX4_byteOf_211 (lv_at hl 9 rfl) ?_
                              subst hQ
                              refine W.iret (v := (nI x)) hx hb hr (fun t ht hW => ⟨(nI x), rfl, ?_, ht⟩) (fun q h => absurd h List.not_mem_nil) dX4_byteOf_213
                              rw [wb_r c_1 hk0 c_3, ← hv, show 256 - x = (256 - (x + 1)) + 1 by omega, brF_1 c_5 hst c_11]
                      · skip
                        have c_8 : ¬ (x = 255) := fun z => c_8 ((nI_eq (a := x) (b := 255) (by omega) (by omega)).mpr z)
                        refine lv_aload_n hx hb dX4_byteOf_174 rfl (lv_at hl 1 rfl) ?_
                        refine lv_iload_n hx hb dX4_byteOf_175 rfl (lv_at hl 2 rfl) ?_
                        refine lv_iload hx hb dX4_byteOf_176 (lv_at hl 6 rfl) ?_
                        refine lv_iload hx hb dX4_byteOf_178 (lv_at hl 8 rfl) ?_
                        refine lv_iadd hx hb dX4_byteOf_180 ?_
                        refine top_i (nI_add (256 * k) x) ?_
                        refine lv_iconst (v := (nI 1)) hx hb dX4_byteOf_181 (by decide) ?_
                        refine lv_iadd hx hb dX4_byteOf_182 ?_
                        refine top_i (nI_add ((256 * k) + x) 1) ?_
                        refine vp_callSi (va_Run.run (va_runV (As := [.int (nI ss), .int (nI (((256 * k) + x) + 1))]) (rest := []) ⟨hx, hb, hml, hown, hts⟩ (k_X4_has l D T M v as pa pk bu bm bi at0 ss (((256 * k) + x) + 1) (by omega) (by omega)) (cwV 2 hts gX4_byteOf_X4_has rfl rfl rfl (by decide +kernel) ⟨Nat.le_of_ble_eq_true rfl, Nat.le_of_ble_eq_true rfl⟩) (pre_V (Φ := fun X => MO D T X M v as pa pk bu bm bi at0) hK (hM.2.1) rfl hM) rfl rfl hl.1 rfl (lv_room (Nat.le_of_ble_eq_true rfl)) dX4_byteOf_183 ⟨Nat.le_of_ble_eq_true rfl, Nat.le_of_ble_eq_true rfl⟩)) (fun r_4 hr_4 => ?_)
                        subst hr_4
                        refine top_i (x' := (b2i ((pcb (bI v ss) k) (x + 1)))) (rfl) ?_
                        refine lv_if_ne (tgt := 193) hx hb dX4_byteOf_186 (by decide) (fun c_9 => ?_) (fun c_9 => ?_)
                        · skip
                          have c_9 : (pcb (bI v ss) k) (x + 1) = true := b2i_n0.mp c_9
                          refine lv_iconst (v := (nI 0)) hx hb dX4_byteOf_193 (by decide) ?_
                          refine lv_istore (lv' := [(9, .int (nI 0)), (8, .int (nI 1)), (0, .ref (M 0)), (1, .int (nI ss)), (2, .int (nI k)), (3, .int (nI zz)), (4, .int (nI 1)), (5, .int (nI (256 * k))), (6, .int (nI q)), (7, .int (nI x))]) hx hb dX4_byteOf_194 hl (by decide) rfl (fun ls hl => ?_)
                          have hen : enA (pcb (bI v ss) k) x = false := enA_p c_8 c_9
                          refine lv_iload hx hb dX4_byteOf_196 (lv_at hl 6 rfl) ?_
                          refine lv_if_eq (tgt := 206) hx hb dX4_byteOf_198 (by decide) (fun c_10 => ?_) (fun c_10 => ?_)
                          · skip
                            exact absurd c_10 (by decide)
                          · skip
                            refine lv_iload hx hb dX4_byteOf_201 (lv_at hl 1 rfl) ?_
                            refine lv_if_eq (tgt := 217) hx hb dX4_byteOf_203 (by decide) (fun c_11 => ?_) (fun c_11 => ?_)
                            · skip
                              exact absurd c_11 (by decide)
                            · skip
                              refine lv_iload hx hb dX4_byteOf_206 (lv_at hl 8 rfl) ?_
                              refine lv_if_ne (tgt := 214) hx hb dX4_byteOf_208 (by decide) (fun c_12 => ?_) (fun c_12 => ?_)
                              · skip
                                have c_12 : ¬ (q = 0) := fun z => c_12 ((nI_e0 (a := q) (by omega)).mpr z)
                                refine lv_iinc (v := (nI (q - 1))) (lv' := [(6, .int (nI (q - 1))), (9, .int (nI 0)), (8, .int (nI 1)), (0, .ref (M 0)), (1, .int (nI ss)), (2, .int (nI k)), (3, .int (nI zz)), (4, .int (nI 1)), (5, .int (nI (256 * k))), (7, .int (nI x))]) hx hb dX4_byteOf_214 hl (k := 8) rfl (iinc_m (a := q) (by omega)) (by decide) rfl (fun ls hl => ?_)
                                refine lv_iload hx hb dX4_byteOf_217 (lv_at hl 7 rfl) ?_
                                refine lv_iconst (v := (nI 1)) hx hb dX4_byteOf_219 (by decide) ?_
                                refine lv_icmp_ne (tgt := 239) hx hb dX4_byteOf_220 (by decide) (fun c_13 => ?_) (fun c_13 => ?_)
                                · skip
                                  exact absurd rfl c_13
                                · skip
                                  refine lv_iload hx hb dX4_byteOf_223 (lv_at hl 1 rfl) ?_
                                  refine lv_if_eq (tgt := 239) hx hb dX4_byteOf_225 (by decide) (fun c_14 => ?_) (fun c_14 => ?_)
                                  · skip
                                    refine lv_iinc (v := (nI (x + 1))) (lv' := [(7, .int (nI (x + 1))), (6, .int (nI (q - 1))), (9, .int (nI 0)), (8, .int (nI 1)), (0, .ref (M 0)), (1, .int (nI ss)), (2, .int (nI k)), (3, .int (nI zz)), (4, .int (nI 1)), (5, .int (nI (256 * k)))]) hx hb dX4_byteOf_239 hl (k := 9) rfl (iinc_n x 1) (by decide) rfl (fun ls hl => ?_)
                                    refine lv_goto (tgt := 118) hx hb dX4_byteOf_242 (by decide) ?_
                                    have hl := lv_sub hl (l' := [(0, .ref (M 0)), (1, .int (nI ss)), (2, .int (nI k)), (3, .int (nI zz)), (4, .int (nI 1)), (5, .int (nI (256 * k))), (6, .int (nI (q - 1))), (7, .int (nI (x + 1)))]) [4, 5, 6, 7, 8, 9, 1, 0] rfl
                                    exact ih118 (x + 1) (q - 1) (by omega) (by omega) (by rw [show 256 - x = (256 - (x + 1)) + 1 by omega, brF_4 c_5 hst c_12 hen] at hv; exact hv) ls hl (by omega)
                                  · skip
                                    exact absurd (by decide) c_14
                              · skip
                                have c_12 : q = 0 := (nI_e0 (a := q) (by omega)).mp c_12
                                refine lv_iload hx hb dX4_byteOf_211 (lv_at hl 9 rfl) ?_
                                subst hQ
                                refine W.iret (v := (nI x)) hx hb hr (fun t ht hW => ⟨(nI x), rfl, ?_, ht⟩) (fun q h => absurd h List.not_mem_nil) dX4_byteOf_213
                                rw [wb_r c_1 hk0 c_3, ← hv, show 256 - x = (256 - (x + 1)) + 1 by omega, brF_1 c_5 hst c_12]
                        · skip
                          have c_9 : (pcb (bI v ss) k) (x + 1) = false := b2i_0.mp c_9
                          refine lv_iconst (v := (nI 1)) hx hb dX4_byteOf_189 (by decide) ?_
                          refine lv_goto (tgt := 194) hx hb dX4_byteOf_190 (by decide) ?_
                          refine lv_istore (lv' := [(9, .int (nI 1)), (8, .int (nI 1)), (0, .ref (M 0)), (1, .int (nI ss)), (2, .int (nI k)), (3, .int (nI zz)), (4, .int (nI 1)), (5, .int (nI (256 * k))), (6, .int (nI q)), (7, .int (nI x))]) hx hb dX4_byteOf_194 hl (by decide) rfl (fun ls hl => ?_)
                          have hen : enA (pcb (bI v ss) k) x = true := enA_p c_8 c_9
                          refine lv_iload hx hb dX4_byteOf_196 (lv_at hl 6 rfl) ?_
                          refine lv_if_eq (tgt := 206) hx hb dX4_byteOf_198 (by decide) (fun c_10 => ?_) (fun c_10 => ?_)
                          · skip
                            exact absurd c_10 (by decide)
                          · skip
                            refine lv_iload hx hb dX4_byteOf_201 (lv_at hl 1 rfl) ?_
                            refine lv_if_eq (tgt := 217) hx hb dX4_byteOf_203 (by decide) (fun c_11 => ?_) (fun c_11 => ?_)
                            · skip
                              exact absurd c_11 (by decide)
                            · skip
                              refine lv_iload hx hb dX4_byteOf_206 (lv_at hl 8 rfl) ?_
                              refine lv_if_ne (tgt := 214) hx hb dX4_byteOf_208 (by decide) (fun c_12 => ?_) (fun c_12 => ?_)
                              · skip
                                have c_12 : ¬ (q = 0) := fun z => c_12 ((nI_e0 (a := q) (by omega)).mpr z)
                                refine lv_iinc (v := (nI (q - 1))) (lv' := [(6, .int (nI (q - 1))), (9, .int (nI 1)), (8, .int (nI 1)), (0, .ref (M 0)), (1, .int (nI ss)), (2, .int (nI k)), (3, .int (nI zz)), (4, .int (nI 1)), (5, .int (nI (256 * k))), (7, .int (nI x))]) hx hb dX4_byteOf_214 hl (k := 8) rfl (iinc_m (a := q) (by omega)) (by decide) rfl (fun ls hl => ?_)
                                refine lv_iload hx hb dX4_byteOf_217 (lv_at hl 7 rfl) ?_
                                refine lv_iconst (v := (nI 1)) hx hb dX4_byteOf_219 (by decide) ?_
                                refine lv_icmp_ne (tgt := 239) hx hb dX4_byteOf_220 (by decide) (fun c_13 => ?_) (fun c_13 => ?_)
                                · skip
                                  exact absurd rfl c_13
                                · skip
                                  refine lv_iload hx hb dX4_byteOf_223 (lv_at hl 1 rfl) ?_
                                  refine lv_if_eq (tgt := 239) hx hb dX4_byteOf_225 (by decide) (fun c_14 => ?_) (fun c_14 => ?_)
                                  · skip
                                    exact absurd c_14 (by decide)
                                  · skip
                                    refine lv_iload hx hb dX4_byteOf_228 (lv_at hl 0 rfl) ?_
                                    refine lv_if_ne (tgt := 236) hx hb dX4_byteOf_230 (by decide) (fun c_15 => ?_) (fun c_15 => ?_)
                                    · skip
                                      have c_15 : ¬ ((q - 1) = 0) := fun z => c_15 ((nI_e0 (a := (q - 1)) (by omega)).mpr z)
                                      refine lv_iinc (v := (nI ((q - 1) - 1))) (lv' := [(6, .int (nI ((q - 1) - 1))), (9, .int (nI 1)), (8, .int (nI 1)), (0, .ref (M 0)), (1, .int (nI ss)), (2, .int (nI k)), (3, .int (nI zz)), (4, .int (nI 1)), (5, .int (nI (256 * k))), (7, .int (nI x))]) hx hb dX4_byteOf_236 hl (k := 0) rfl (iinc_m (a := q - 1) (by omega)) (by decide) rfl (fun ls hl => ?_)
                                      refine lv_iinc (v := (nI (x + 1))) (lv' := [(7, .int (nI (x + 1))), (6, .int (nI ((q - 1) - 1))), (9, .int (nI 1)), (8, .int (nI 1)), (0, .ref (M 0)), (1, .int (nI ss)), (2, .int (nI k)), (3, .int (nI zz)), (4, .int (nI 1)), (5, .int (nI (256 * k)))]) hx hb dX4_byteOf_239 hl (k := 9) rfl (iinc_n x 1) (by decide) rfl (fun ls hl => ?_)
                                      refine lv_goto (tgt := 118) hx hb dX4_byteOf_242 (by decide) ?_
                                      have hl := lv_sub hl (l' := [(0, .ref (M 0)), (1, .int (nI ss)), (2, .int (nI k)), (3, .int (nI zz)), (4, .int (nI 1)), (5, .int (nI (256 * k))), (6, .int (nI ((q - 1) - 1))), (7, .int (nI (x + 1)))]) [4, 5, 6, 7, 8, 9, 1, 0] rfl
                                      exact ih118 (x + 1) ((q - 1) - 1) (by omega) (by omega) (by rw [show 256 - x = (256 - (x + 1)) + 1 by omega, brF_3 c_5 hst c_12 hen c_15] at hv; exact hv) ls hl (by omega)
                                    · skip
                                      have c_15 : (q - 1) = 0 := (nI_e0 (a := (q - 1)) (by omega)).mp c_15
                                      refine lv_iload hx hb dX4_byteOf_233 (lv_at hl 9 rfl) ?_
                                      subst hQ
                                      refine W.iret (v := (nI x)) hx hb hr (fun t ht hW => ⟨(nI x), rfl, ?_, ht⟩) (fun q h => absurd h List.not_mem_nil) dX4_byteOf_235
                                      rw [wb_r c_1 hk0 c_3, ← hv, show 256 - x = (256 - (x + 1)) + 1 by omega, brF_2 c_5 hst c_12 hen c_15]
                              · skip
                                have c_12 : q = 0 := (nI_e0 (a := q) (by omega)).mp c_12
                                refine lv_iload hx hb dX4_byteOf_211 (lv_at hl 9 rfl) ?_
                                subst hQ
                                refine W.iret (v := (nI x)) hx hb hr (fun t ht hW => ⟨(nI x), rfl, ?_, ht⟩) (fun q h => absurd h List.not_mem_nil) dX4_byteOf_213
                                rw [wb_r c_1 hk0 c_3, ← hv, show 256 - x = (256 - (x + 1)) + 1 by omega, brF_1 c_5 hst c_12]
          have hl := lv_sub hl (l' := [(0, .ref (M 0)), (1, .int (nI ss)), (2, .int (nI k)), (3, .int (nI zz)), (4, .int (nI 1)), (5, .int (nI (256 * k))), (6, .int (nI (zz - 2))), (7, .int (nI 0))]) [4, 5, 6, 7, 3, 2, 1, 0] rfl
          exact loop118 (256 - 0 + 1) 0 (zz - 2) (Nat.zero_le _) (by omega) (rfl) ls hl (Nat.lt_succ_self _)
        · skip
          have c_3 : zz = 1 := (nI_eq (a := zz) (b := 1) (by omega) (by omega)).mp c_3
          refine lv_aload_n hx hb dX4_byteOf_93 rfl (lv_at hl 2 rfl) ?_
          refine lv_iload_n hx hb dX4_byteOf_94 rfl (lv_at hl 3 rfl) ?_
          refine lv_iload_n hx hb dX4_byteOf_95 rfl (lv_at hl 4 rfl) ?_
          refine lv_iload hx hb dX4_byteOf_96 (lv_at hl 1 rfl) ?_
          refine lv_if_ne (tgt := 105) hx hb dX4_byteOf_98 (by decide) (fun c_4 => ?_) (fun c_4 => ?_)
          · skip
            refine lv_iconst (v := (nI 2)) hx hb dX4_byteOf_105 (by decide) ?_
            refine vp_callSi (va_Run.run (va_runV (As := [.int (nI ss), .int (nI k), .int (nI 2)]) (rest := []) ⟨hx, hb, hml, hown, hts⟩ (k_X4_told l D T M v as pa pk bu bm bi at0 ss k (nI 2) (by omega) (by omega)) (cwV 3 hts gX4_byteOf_X4_told rfl rfl rfl (by decide +kernel) ⟨Nat.le_of_ble_eq_true rfl, Nat.le_of_ble_eq_true rfl⟩) (pre_V (Φ := fun X => MO D T X M v as pa pk bu bm bi at0) hK (hM.2.1) rfl hM) rfl rfl hl.1 rfl (lv_room (Nat.le_of_ble_eq_true rfl)) dX4_byteOf_106 ⟨Nat.le_of_ble_eq_true rfl, Nat.le_of_ble_eq_true rfl⟩)) (fun r_2 hr_2 => ?_)
            subst hr_2
            subst hQ
            refine W.iret (v := (tol (bI v ss) k (nI 2))) hx hb hr (fun t ht hW => ⟨(tol (bI v ss) k (nI 2)), rfl, ?_, ht⟩) (fun q h => absurd h List.not_mem_nil) dX4_byteOf_109
            rw [wb_1r c_1 hk0 c_3]
            exact (if_neg (by decide)).trans ((if_neg (by decide)).trans (if_pos rfl))
          · skip
            exact absurd c_4 (by decide)
      · exact absurd hk0 c_2
    · skip
      have hz33 : zz < 33 := by rcases pkd_cases hz with ⟨h1, h2⟩ | ⟨h1, h2⟩ | ⟨h1, h2⟩; exact absurd (h1.symm.trans c_2) (by decide); exact absurd (h1.symm.trans c_2) (by decide); omega
      refine lv_iconst (v := (nI 0)) hx hb dX4_byteOf_33 (by decide) ?_
      refine lv_istore (lv' := [(6, .int (nI 0)), (5, .int (nI (256 * k))), (4, .int (pkd (bI v ss) k)), (0, .ref (M 0)), (1, .int (nI ss)), (2, .int (nI k)), (3, .int (nI zz))]) hx hb dX4_byteOf_34 hl (by decide) rfl (fun ls hl => ?_)
      refine lv_iconst (v := (nI 0)) hx hb dX4_byteOf_36 (by decide) ?_
      refine lv_istore (lv' := [(7, .int (nI 0)), (6, .int (nI 0)), (5, .int (nI (256 * k))), (4, .int (pkd (bI v ss) k)), (0, .ref (M 0)), (1, .int (nI ss)), (2, .int (nI k)), (3, .int (nI zz))]) hx hb dX4_byteOf_37 hl (by decide) rfl (fun ls hl => ?_)
      have loop39 : ∀ (n39 : Nat) (i : Nat) (hi : i ≤ 8) (ls : Array Slot) (hl : lv_has ls 10 [(0, .ref (M 0)), (1, .int (nI ss)), (2, .int (nI k)), (3, .int (nI zz)), (5, .int (nI (256 * k))), (6, .int (nI (bySum (fun e9 => bI v ss (256 * k + 8 * (zz - 1) + e9)) i))), (7, .int (nI i))]) (hn39 : 8 - i < n39), W pg l ev (headSpec wsX4_byteOf ({ frames := 3, cells := 0, slots := 0, locals := 71 })).room s m ([.ref (M 0), .int (nI ss), .int (nI k), .int (nI zz)] : List Value).toArray below meth c s.heap [] 0 0 Q (F0 m 39 ls []) := by
        intro n39
        induction n39 with
        | zero =>
          intro i hi ls hl hn39
          exact absurd hn39 (Nat.not_lt_zero _)
        | succ n39 ih39 =>
          intro i hi ls hl hn39
          refine lv_iload hx hb dX4_byteOf_39 (lv_at hl 6 rfl) ?_
          refine lv_bipush (v := (nI 8)) hx hb dX4_byteOf_41 (by decide) ?_
          refine lv_icmp_ge (tgt := 85) hx hb dX4_byteOf_43 (by decide) (fun c_3 => ?_) (fun c_3 => ?_)
          · skip
            have c_3 : 8 ≤ i := (nI_leI (a := 8) (b := i) (by omega) (by omega)).mp c_3
            refine lv_iload hx hb dX4_byteOf_85 (lv_at hl 5 rfl) ?_
            subst hQ
            refine W.iret (v := (nI (bySum (fun e9 => bI v ss (256 * k + 8 * (zz - 1) + e9)) i))) hx hb hr (fun t ht hW => ⟨(nI (bySum (fun e9 => bI v ss (256 * k + 8 * (zz - 1) + e9)) i)), rfl, ?_, ht⟩) (fun q h => absurd h List.not_mem_nil) dX4_byteOf_87
            rw [show i = 8 by omega, wb_b c_1 c_2]
            exact rfl
          · skip
            have c_3 : ¬ (8 ≤ i) := fun z => c_3 ((nI_leI (a := 8) (b := i) (by omega) (by omega)).mpr z)
            refine lv_iload hx hb dX4_byteOf_46 (lv_at hl 5 rfl) ?_
            refine lv_aload_n hx hb dX4_byteOf_48 rfl (lv_at hl 0 rfl) ?_
            refine lv_iload_n hx hb dX4_byteOf_49 rfl (lv_at hl 1 rfl) ?_
            refine lv_iload hx hb dX4_byteOf_50 (lv_at hl 4 rfl) ?_
            refine lv_bipush (v := (nI 8)) hx hb dX4_byteOf_52 (by decide) ?_
            refine lv_iload_n hx hb dX4_byteOf_54 rfl (lv_at hl 3 rfl) ?_
            refine lv_iconst (v := (nI 1)) hx hb dX4_byteOf_55 (by decide) ?_
            refine lv_isub hx hb dX4_byteOf_56 ?_
            refine top_i (pk_sub (a := zz) (b := 1) (by omega)) ?_
            refine lv_imul hx hb dX4_byteOf_57 ?_
            refine top_i (pk_mul 8 (zz - 1)) ?_
            refine lv_iadd hx hb dX4_byteOf_58 ?_
            refine top_i (nI_add (256 * k) (8 * (zz - 1))) ?_
            refine lv_iload hx hb dX4_byteOf_59 (lv_at hl 6 rfl) ?_
            refine lv_iadd hx hb dX4_byteOf_61 ?_
            refine top_i (nI_add ((256 * k) + (8 * (zz - 1))) i) ?_
            refine vp_callSi (va_Run.run (va_runV (As := [.int (nI ss), .int (nI (((256 * k) + (8 * (zz - 1))) + i))]) (rest := [.int (nI (bySum (fun e9 => bI v ss (256 * k + 8 * (zz - 1) + e9)) i))]) ⟨hx, hb, hml, hown, hts⟩ (k_X4_has l D T M v as pa pk bu bm bi at0 ss (((256 * k) + (8 * (zz - 1))) + i) (by omega) (by omega)) (cwV 2 hts gX4_byteOf_X4_has rfl rfl rfl (by decide +kernel) ⟨Nat.le_of_ble_eq_true rfl, Nat.le_of_ble_eq_true rfl⟩) (pre_V (Φ := fun X => MO D T X M v as pa pk bu bm bi at0) hK (hM.2.1) rfl hM) rfl rfl hl.1 rfl (lv_room (Nat.le_of_ble_eq_true rfl)) dX4_byteOf_62 ⟨Nat.le_of_ble_eq_true rfl, Nat.le_of_ble_eq_true rfl⟩)) (fun r_2 hr_2 => ?_)
            subst hr_2
            refine lv_if_eq (tgt := 75) hx hb dX4_byteOf_65 (by decide) (fun c_4 => ?_) (fun c_4 => ?_)
            · skip
              have c_4 : bI v ss (((256 * k) + (8 * (zz - 1))) + i) = false := b2i_0.mp c_4
              refine lv_iconst (v := (nI 0)) hx hb dX4_byteOf_75 (by decide) ?_
              refine lv_ior hx hb dX4_byteOf_76 ?_
              refine lv_istore (lv' := [(6, .int ((nI (bySum (fun e9 => bI v ss (256 * k + 8 * (zz - 1) + e9)) i)) ||| (nI 0))), (0, .ref (M 0)), (1, .int (nI ss)), (2, .int (nI k)), (3, .int (nI zz)), (5, .int (nI (256 * k))), (7, .int (nI i))]) hx hb dX4_byteOf_77 hl (by decide) rfl (fun ls hl => ?_)
              refine lv_iinc (v := (nI (i + 1))) (lv' := [(7, .int (nI (i + 1))), (6, .int ((nI (bySum (fun e9 => bI v ss (256 * k + 8 * (zz - 1) + e9)) i)) ||| (nI 0))), (0, .ref (M 0)), (1, .int (nI ss)), (2, .int (nI k)), (3, .int (nI zz)), (5, .int (nI (256 * k)))]) hx hb dX4_byteOf_79 hl (k := 6) rfl (iinc_n i 1) (by decide) rfl (fun ls hl => ?_)
              refine lv_goto (tgt := 39) hx hb dX4_byteOf_82 (by decide) ?_
              have hl := lv_sub hl (l' := [(0, .ref (M 0)), (1, .int (nI ss)), (2, .int (nI k)), (3, .int (nI zz)), (5, .int (nI (256 * k))), (6, .int ((nI (bySum (fun e9 => bI v ss (256 * k + 8 * (zz - 1) + e9)) i)) ||| (nI 0))), (7, .int (nI (i + 1)))]) [2, 3, 4, 5, 6, 1, 0] rfl
              have q_1 : ((nI (bySum (fun e9 => bI v ss (256 * k + 8 * (zz - 1) + e9)) i)) ||| (nI 0)) = (nI (bySum (fun e9 => bI v ss (256 * k + 8 * (zz - 1) + e9)) (i + 1))) := by first | exact bySum_t (c := (fun e9 => bI v ss (256 * k + 8 * (zz - 1) + e9))) (by omega) (by assumption) | exact bySum_f (c := (fun e9 => bI v ss (256 * k + 8 * (zz - 1) + e9))) (by assumption)
              have hl : lv_has ls 10 [(0, .ref (M 0)), (1, .int (nI ss)), (2, .int (nI k)), (3, .int (nI zz)), (5, .int (nI (256 * k))), (6, .int (nI (bySum (fun e9 => bI v ss (256 * k + 8 * (zz - 1) + e9)) (i + 1)))), (7, .int (nI (i + 1)))] := by
                have h := hl
                rw [q_1] at h
                exact h
              exact ih39 (i + 1) (by omega) ls hl (by omega)
            · skip
              have c_4 : bI v ss (((256 * k) + (8 * (zz - 1))) + i) = true := b2i_n0.mp c_4
              refine lv_iconst (v := (nI 1)) hx hb dX4_byteOf_68 (by decide) ?_
              refine lv_iload hx hb dX4_byteOf_69 (lv_at hl 6 rfl) ?_
              refine lv_ishl hx hb dX4_byteOf_71 ?_
              refine top_i (x' := (shlI (nI 1) (nI i))) rfl ?_
              refine lv_goto (tgt := 76) hx hb dX4_byteOf_72 (by decide) ?_
              refine lv_ior hx hb dX4_byteOf_76 ?_
              refine lv_istore (lv' := [(6, .int ((nI (bySum (fun e9 => bI v ss (256 * k + 8 * (zz - 1) + e9)) i)) ||| (shlI (nI 1) (nI i)))), (0, .ref (M 0)), (1, .int (nI ss)), (2, .int (nI k)), (3, .int (nI zz)), (5, .int (nI (256 * k))), (7, .int (nI i))]) hx hb dX4_byteOf_77 hl (by decide) rfl (fun ls hl => ?_)
              refine lv_iinc (v := (nI (i + 1))) (lv' := [(7, .int (nI (i + 1))), (6, .int ((nI (bySum (fun e9 => bI v ss (256 * k + 8 * (zz - 1) + e9)) i)) ||| (shlI (nI 1) (nI i)))), (0, .ref (M 0)), (1, .int (nI ss)), (2, .int (nI k)), (3, .int (nI zz)), (5, .int (nI (256 * k)))]) hx hb dX4_byteOf_79 hl (k := 6) rfl (iinc_n i 1) (by decide) rfl (fun ls hl => ?_)
              refine lv_goto (tgt := 39) hx hb dX4_byteOf_82 (by decide) ?_
              have hl := lv_sub hl (l' := [(0, .ref (M 0)), (1, .int (nI ss)), (2, .int (nI k)), (3, .int (nI zz)), (5, .int (nI (256 * k))), (6, .int ((nI (bySum (fun e9 => bI v ss (256 * k + 8 * (zz - 1) + e9)) i)) ||| (shlI (nI 1) (nI i)))), (7, .int (nI (i + 1)))]) [2, 3, 4, 5, 6, 1, 0] rfl
              have q_1 : ((nI (bySum (fun e9 => bI v ss (256 * k + 8 * (zz - 1) + e9)) i)) ||| (shlI (nI 1) (nI i))) = (nI (bySum (fun e9 => bI v ss (256 * k + 8 * (zz - 1) + e9)) (i + 1))) := by first | exact bySum_t (c := (fun e9 => bI v ss (256 * k + 8 * (zz - 1) + e9))) (by omega) (by assumption) | exact bySum_f (c := (fun e9 => bI v ss (256 * k + 8 * (zz - 1) + e9))) (by assumption)
              have hl : lv_has ls 10 [(0, .ref (M 0)), (1, .int (nI ss)), (2, .int (nI k)), (3, .int (nI zz)), (5, .int (nI (256 * k))), (6, .int (nI (bySum (fun e9 => bI v ss (256 * k + 8 * (zz - 1) + e9)) (i + 1)))), (7, .int (nI (i + 1)))] := by
                have h := hl
                rw [q_1] at h
                exact h
              exact ih39 (i + 1) (by omega) ls hl (by omega)
      have hl := lv_sub hl (l' := [(0, .ref (M 0)), (1, .int (nI ss)), (2, .int (nI k)), (3, .int (nI zz)), (5, .int (nI (256 * k))), (6, .int (nI 0)), (7, .int (nI 0))]) [4, 5, 6, 7, 2, 1, 0] rfl
      have hl : lv_has ls 10 [(0, .ref (M 0)), (1, .int (nI ss)), (2, .int (nI k)), (3, .int (nI zz)), (5, .int (nI (256 * k))), (6, .int (nI (bySum (fun e9 => bI v ss (256 * k + 8 * (zz - 1) + e9)) 0))), (7, .int (nI 0))] := by
        have h := hl
        exact h
      exact loop39 (8 - 0 + 1) 0 (Nat.zero_le _) ls hl (Nat.lt_succ_self _)
  · skip
    have c_1 : zz = 0 := (nI_e0 (a := zz) (by omega)).mp c_1
    refine lv_iconst (v := (nI 4)) hx hb dX4_byteOf_20 (by decide) ?_
    refine lv_iload_n hx hb dX4_byteOf_21 rfl (lv_at hl 4 rfl) ?_
    refine lv_imul hx hb dX4_byteOf_22 ?_
    refine top_i (pk_mul 4 k) ?_
    refine lv_iload hx hb dX4_byteOf_23 (lv_at hl 1 rfl) ?_
    refine lv_iadd hx hb dX4_byteOf_25 ?_
    subst hQ
    refine W.iret (v := ((nI (4 * k)) + (pkd (bI v ss) k))) hx hb hr (fun t ht hW => ⟨((nI (4 * k)) + (pkd (bI v ss) k)), rfl, ?_, ht⟩) (fun q h => absurd h List.not_mem_nil) dX4_byteOf_26
    rw [c_1]
    exact (wb_0 _ _).symm
set_option maxHeartbeats 2000000 in
set_option maxRecDepth 100000 in
theorem k_X4_byteAt (l : Launch) (D : va_G) (T : Nat → ClassId) (M : Nat → Nat) (Sy : Nat → Prop) (fi : FS) (ss : Int32) (x : Int32) : Met l yX4_byteAt wsX4_byteAt ({ frames := 4, cells := 0, slots := 0, locals := 100 }) (va_Pc [.ref (M 0), .int ss, .int x] (fun U => KS D T U ∧ MSE D T U.heap M Sy fi)) (vp_Si (fun r => r = (byaR fi ss x))) 0 0 (fun _ => False) := by
  refine Met.ofW (cc := cX4_byteAt) (maxL := 6) (ret := (some .int)) (by decide) rfl ?_
  intro pg ev s m args below meth c s₁ B hml hv
  obtain ⟨rfl, hK, hH⟩ := hv
  have hx := B.exec
  have hb := B.bytes
  have hr := B.returns
  have hts := atoms_spec (ws := wsX4_byteAt) B.pre
  have hown : s.vm.findClass RX4 = some m.cls := findClass_of_methodNamed B.named
  have hlocks := B.notSynchronized
  have in_wsX40 : ∀ w ∈ wsX40, w ∈ wsX4_byteAt := fun w h => List.mem_cons_of_mem _ (List.mem_append_right _ h)
  have hl := lv_entry ([.ref (M 0), .int ss, .int x]) (n := 6) (Nat.le_of_ble_eq_true rfl)
  rw [lg_entry_eq]
  generalize (lg_sl ([.ref (M 0), .int ss, .int x]) ++ List.replicate (6 - (lg_sl ([.ref (M 0), .int ss, .int x])).length) Slot.unset).toArray = ls at hl ⊢
  have hl : lv_has ls 6 [(0, .ref (M 0)), (1, .int ss), (2, .int x)] := hl
  refine W_gen (fun Q hQ => ?_)
  obtain ⟨v, as, pa, bi, at0, hM, hSy, hrb, hbl, hk5, hR0, hRh⟩ := id hH
  refine lv_iload_n hx hb dX4_byteAt_0 rfl (lv_at hl 1 rfl) ?_
  refine vp_callSi (va_Run.run (va_runS (As := [.int ss]) (rest := []) ⟨hx, hb, hml, hown, hts⟩ (k_X4_isSet l D T ss ) (va_cwS 1 hts gX4_byteAt_X4_isSet rfl rfl rfl (by decide +kernel) ⟨Nat.le_of_ble_eq_true rfl, Nat.le_of_ble_eq_true rfl⟩) (pre_S (Φ := fun X => True) hK trivial) rfl rfl hl.1 rfl (lv_room (Nat.le_of_ble_eq_true rfl)) dX4_byteAt_1 ⟨Nat.le_of_ble_eq_true rfl, Nat.le_of_ble_eq_true rfl⟩)) (fun r_1 hr_1 => ?_)
  subst hr_1
  refine lv_if_eq (tgt := 11) hx hb dX4_byteAt_4 (by decide) (fun c_1 => ?_) (fun c_1 => ?_)
  · skip
    have c_1 : (decide (¬ ss < 0 ∧ ss < nI 6)) = false := b2i_0.mp c_1
    have c_1 : ¬ (¬ ss < 0 ∧ ss < nI 6) := of_decide_eq_false c_1
    refine lv_iconst (v := (-1)) hx hb dX4_byteAt_11 (by decide) ?_
    subst hQ
    refine W.iret (v := (-1)) hx hb hr (fun t ht hW => ⟨(-1), rfl, ?_, ht⟩) (fun q h => absurd h List.not_mem_nil) dX4_byteAt_12
    first | exact (if_neg (fun z => c_1 z.1)).symm | exact (if_neg (fun z => c_2 (Int32.not_lt.mp z.2))).symm
  · skip
    have c_1 : (decide (¬ ss < 0 ∧ ss < nI 6)) = true := b2i_n0.mp c_1
    have c_1 : ¬ ss < 0 ∧ ss < nI 6 := of_decide_eq_true c_1
    refine lv_iload_n hx hb dX4_byteAt_7 rfl (lv_at hl 2 rfl) ?_
    refine lv_if_ge (tgt := 13) hx hb dX4_byteAt_8 (by decide) (fun c_2 => ?_) (fun c_2 => ?_)
    · skip
      obtain ⟨sN, hsN, rfl⟩ := okX (N := 6) (by decide) c_1
      obtain ⟨xN, hxN, rfl⟩ := nI_of (Int32.not_lt.mpr c_2)
      refine lv_iload_n hx hb dX4_byteAt_13 rfl (lv_at hl 2 rfl) ?_
      refine lv_istore_n (lv' := [(3, .int (nI xN)), (0, .ref (M 0)), (1, .int (nI sN)), (2, .int (nI xN))]) hx hb dX4_byteAt_14 rfl hl (by decide) rfl (fun ls hl => ?_)
      refine lv_iconst (v := (nI 0)) hx hb dX4_byteAt_15 (by decide) ?_
      refine lv_istore (lv' := [(4, .int (nI 0)), (3, .int (nI xN)), (0, .ref (M 0)), (1, .int (nI sN)), (2, .int (nI xN))]) hx hb dX4_byteAt_16 hl (by decide) rfl (fun ls hl => ?_)
      have loop18 : ∀ (n18 : Nat) (i : Nat) (u : Nat) (hi : i ≤ 16) (hu : u < 2 ^ 31) (hv : bfF (bI v sN) (16 - i) i u = bfF (bI v sN) 16 0 xN) (ls : Array Slot) (hl : lv_has ls 6 [(0, .ref (M 0)), (1, .int (nI sN)), (3, .int (nI u)), (4, .int (nI i))]) (hn18 : 16 - i < n18), W pg l ev (headSpec wsX4_byteAt ({ frames := 4, cells := 0, slots := 0, locals := 100 })).room s m ([.ref (M 0), .int (nI sN), .int (nI xN)] : List Value).toArray below meth c s.heap [] 0 0 Q (F0 m 18 ls []) := by
        intro n18
        induction n18 with
        | zero =>
          intro i u hi hu hv ls hl hn18
          exact absurd hn18 (Nat.not_lt_zero _)
        | succ n18 ih18 =>
          intro i u hi hu hv ls hl hn18
          have hcs := cst_le (pn (bI v sN) i) (pr (bI v sN) i)
          have hcs2 : pcst (bI v sN) i ≤ 33 := hcs
          refine lv_iload hx hb dX4_byteAt_18 (lv_at hl 3 rfl) ?_
          refine lv_bipush (v := (nI 16)) hx hb dX4_byteAt_20 (by decide) ?_
          refine lv_icmp_ge (tgt := 61) hx hb dX4_byteAt_22 (by decide) (fun c_3 => ?_) (fun c_3 => ?_)
          · skip
            have c_3 : 16 ≤ i := (nI_leI (a := 16) (b := i) (by omega) (by omega)).mp c_3
            refine lv_bipush (v := (-9)) hx hb dX4_byteAt_61 (by decide) ?_
            subst hQ
            refine W.iret (v := (-9)) hx hb hr (fun t ht hW => ⟨(-9), rfl, ?_, ht⟩) (fun q h => absurd h List.not_mem_nil) dX4_byteAt_63
            unfold byaR
            rw [if_pos ⟨okN hsN (by decide), Int32.not_lt.mpr c_2⟩, cl_n (by omega), cl_n hxN, ← bfF_cong (hR0.1 _ hsN) 16 0 xN (by decide), ← hv, show 16 - i = 0 by omega]
            exact rfl
          · skip
            have c_3 : ¬ (16 ≤ i) := fun z => c_3 ((nI_leI (a := 16) (b := i) (by omega) (by omega)).mpr z)
            refine lv_aload_n hx hb dX4_byteAt_25 rfl (lv_at hl 0 rfl) ?_
            refine lv_iload_n hx hb dX4_byteAt_26 rfl (lv_at hl 1 rfl) ?_
            refine lv_iload hx hb dX4_byteAt_27 (lv_at hl 3 rfl) ?_
            refine lv_iconst (v := (nI 3)) hx hb dX4_byteAt_29 (by decide) ?_
            refine vp_callSi (va_Run.run (va_runV (As := [.int (nI sN), .int (nI i), .int (nI 3)]) (rest := []) ⟨hx, hb, hml, hown, hts⟩ (k_X4_told l D T M v as pa fi.2.2.1 (buF fi) fi.2.2.2.2 bi at0 sN i (nI 3) (by omega) (by omega)) (cwV 3 hts gX4_byteAt_X4_told rfl rfl rfl (by decide +kernel) ⟨Nat.le_of_ble_eq_true rfl, Nat.le_of_ble_eq_true rfl⟩) (pre_V (Φ := fun X => MO D T X M v as pa fi.2.2.1 (buF fi) fi.2.2.2.2 bi at0) hK (hM.2.1) rfl hM) rfl rfl hl.1 rfl (lv_room (Nat.le_of_ble_eq_true rfl)) dX4_byteAt_30 ⟨Nat.le_of_ble_eq_true rfl, Nat.le_of_ble_eq_true rfl⟩)) (fun r_2 hr_2 => ?_)
            subst hr_2
            refine top_i (x' := (nI (pcst (bI v sN) i))) (rfl) ?_
            refine lv_istore (lv' := [(5, .int (nI (pcst (bI v sN) i))), (0, .ref (M 0)), (1, .int (nI sN)), (3, .int (nI u)), (4, .int (nI i))]) hx hb dX4_byteAt_33 hl (by decide) rfl (fun ls hl => ?_)
            refine lv_iload_n hx hb dX4_byteAt_35 rfl (lv_at hl 3 rfl) ?_
            refine lv_iload hx hb dX4_byteAt_36 (lv_at hl 0 rfl) ?_
            refine lv_icmp_ge (tgt := 50) hx hb dX4_byteAt_38 (by decide) (fun c_4 => ?_) (fun c_4 => ?_)
            · skip
              have c_4 : (pcst (bI v sN) i) ≤ u := (nI_leI (a := (pcst (bI v sN) i)) (b := u) (by omega) (by omega)).mp c_4
              refine lv_iload_n hx hb dX4_byteAt_50 rfl (lv_at hl 3 rfl) ?_
              refine lv_iload hx hb dX4_byteAt_51 (lv_at hl 0 rfl) ?_
              refine lv_isub hx hb dX4_byteAt_53 ?_
              refine top_i (pk_sub (a := u) (b := pcst (bI v sN) i) (by omega)) ?_
              refine lv_istore_n (lv' := [(3, .int (nI (u - (pcst (bI v sN) i)))), (5, .int (nI (pcst (bI v sN) i))), (0, .ref (M 0)), (1, .int (nI sN)), (4, .int (nI i))]) hx hb dX4_byteAt_54 rfl hl (by decide) rfl (fun ls hl => ?_)
              refine lv_iinc (v := (nI (i + 1))) (lv' := [(4, .int (nI (i + 1))), (3, .int (nI (u - (pcst (bI v sN) i)))), (5, .int (nI (pcst (bI v sN) i))), (0, .ref (M 0)), (1, .int (nI sN))]) hx hb dX4_byteAt_55 hl (k := 4) rfl (iinc_n i 1) (by decide) rfl (fun ls hl => ?_)
              refine lv_goto (tgt := 18) hx hb dX4_byteAt_58 (by decide) ?_
              have hl := lv_sub hl (l' := [(0, .ref (M 0)), (1, .int (nI sN)), (3, .int (nI (u - (pcst (bI v sN) i)))), (4, .int (nI (i + 1)))]) [3, 4, 1, 0] rfl
              exact ih18 (i + 1) (u - (pcst (bI v sN) i)) (by omega) (by omega) (by rw [show 16 - i = (16 - (i + 1)) + 1 by omega] at hv; rw [bfF_s, if_neg (by omega)] at hv; exact hv) ls hl (by omega)
            · skip
              have c_4 : ¬ ((pcst (bI v sN) i) ≤ u) := fun z => c_4 ((nI_leI (a := (pcst (bI v sN) i)) (b := u) (by omega) (by omega)).mpr z)
              refine lv_aload_n hx hb dX4_byteAt_41 rfl (lv_at hl 1 rfl) ?_
              refine lv_iload_n hx hb dX4_byteAt_42 rfl (lv_at hl 2 rfl) ?_
              refine lv_iload hx hb dX4_byteAt_43 (lv_at hl 4 rfl) ?_
              refine lv_iload_n hx hb dX4_byteAt_45 rfl (lv_at hl 3 rfl) ?_
              refine vp_callSi (va_Run.run (va_runV (As := [.int (nI sN), .int (nI i), .int (nI u)]) (rest := []) ⟨hx, hb, hml, hown, hts⟩ (k_X4_byteOf l D T M v as pa fi.2.2.1 (buF fi) fi.2.2.2.2 bi at0 sN i u (hsN) (by omega) (by omega)) (cwV 3 hts gX4_byteAt_X4_byteOf rfl rfl rfl (by decide +kernel) ⟨Nat.le_of_ble_eq_true rfl, Nat.le_of_ble_eq_true rfl⟩) (pre_V (Φ := fun X => MO D T X M v as pa fi.2.2.1 (buF fi) fi.2.2.2.2 bi at0) hK (hM.2.1) rfl hM) rfl rfl hl.1 rfl (lv_room (Nat.le_of_ble_eq_true rfl)) dX4_byteAt_46 ⟨Nat.le_of_ble_eq_true rfl, Nat.le_of_ble_eq_true rfl⟩)) (fun r_3 hr_3 => ?_)
              subst hr_3
              subst hQ
              refine W.iret (v := (wb (bI v sN) i u)) hx hb hr (fun t ht hW => ⟨(wb (bI v sN) i u), rfl, ?_, ht⟩) (fun q h => absurd h List.not_mem_nil) dX4_byteAt_49
              unfold byaR
              rw [if_pos ⟨okN hsN (by decide), Int32.not_lt.mpr c_2⟩, cl_n (by omega), cl_n hxN, ← bfF_cong (hR0.1 _ hsN) 16 0 xN (by decide), ← hv, show 16 - i = (16 - (i + 1)) + 1 by omega, bfF_s, if_pos (by omega)]
      have hl := lv_sub hl (l' := [(0, .ref (M 0)), (1, .int (nI sN)), (3, .int (nI xN)), (4, .int (nI 0))]) [2, 3, 1, 0] rfl
      exact loop18 (16 - 0 + 1) 0 xN (Nat.zero_le _) (hxN) (rfl) ls hl (Nat.lt_succ_self _)
    · skip
      refine lv_iconst (v := (-1)) hx hb dX4_byteAt_11 (by decide) ?_
      subst hQ
      refine W.iret (v := (-1)) hx hb hr (fun t ht hW => ⟨(-1), rfl, ?_, ht⟩) (fun q h => absurd h List.not_mem_nil) dX4_byteAt_12
      first | exact (if_neg (fun z => c_1 z.1)).symm | exact (if_neg (fun z => c_2 (Int32.not_lt.mp z.2))).symm
set_option maxHeartbeats 2000000 in
set_option maxRecDepth 100000 in
theorem k_X4_comparison (l : Launch) (D : va_G) (T : Nat → ClassId) (M : Nat → Nat) (v : Nat → Int32) (as : Nat → Int32) (pa : Nat → Int32) (pk : Nat) (bu : Nat → Int32) (bm : Nat) (bi : Nat → Int32) (at0 : Nat) (ss : Nat) (tt : Nat) (x : Int32) (hs : ss < 6) (ht6 : tt < 6) : Met l yX4_comparison wsX4_comparison ({ frames := 2, cells := 0, slots := 0, locals := 44 }) (va_Pc [.ref (M 0), .int (nI ss), .int (nI tt), .int x] (fun U => KS D T U ∧ MO D T U.heap M v as pa pk bu bm bi at0)) (vp_Si (fun r => r = (cmM (bI v ss) (bI v tt) x))) 0 0 (fun _ => False) := by
  refine Met.ofW (cc := cX4_comparison) (maxL := 14) (ret := (some .int)) (by decide) rfl ?_
  intro pg ev s m args below meth c s₁ B hml hv
  obtain ⟨rfl, hK, hH⟩ := hv
  have hx := B.exec
  have hb := B.bytes
  have hr := B.returns
  have hts := atoms_spec (ws := wsX4_comparison) B.pre
  have hown : s.vm.findClass RX4 = some m.cls := findClass_of_methodNamed B.named
  have hlocks := B.notSynchronized
  have in_wsX40 : ∀ w ∈ wsX40, w ∈ wsX4_comparison := fun w h => List.mem_cons_of_mem _ (List.mem_append_right _ h)
  have hl := lv_entry ([.ref (M 0), .int (nI ss), .int (nI tt), .int x]) (n := 14) (Nat.le_of_ble_eq_true rfl)
  rw [lg_entry_eq]
  generalize (lg_sl ([.ref (M 0), .int (nI ss), .int (nI tt), .int x]) ++ List.replicate (14 - (lg_sl ([.ref (M 0), .int (nI ss), .int (nI tt), .int x])).length) Slot.unset).toArray = ls at hl ⊢
  have hl : lv_has ls 14 [(0, .ref (M 0)), (1, .int (nI ss)), (2, .int (nI tt)), (3, .int x)] := hl
  refine W_gen (fun Q hQ => ?_)
  have hM := hH
  refine lv_iconst (v := (nI 0)) hx hb dX4_comparison_0 (by decide) ?_
  refine lv_istore (lv' := [(4, .int (nI 0)), (0, .ref (M 0)), (1, .int (nI ss)), (2, .int (nI tt)), (3, .int x)]) hx hb dX4_comparison_1 hl (by decide) rfl (fun ls hl => ?_)
  refine lv_iconst (v := (nI 0)) hx hb dX4_comparison_3 (by decide) ?_
  refine lv_istore (lv' := [(5, .int (nI 0)), (4, .int (nI 0)), (0, .ref (M 0)), (1, .int (nI ss)), (2, .int (nI tt)), (3, .int x)]) hx hb dX4_comparison_4 hl (by decide) rfl (fun ls hl => ?_)
  refine lv_iconst (v := (nI 0)) hx hb dX4_comparison_6 (by decide) ?_
  refine lv_istore (lv' := [(6, .int (nI 0)), (5, .int (nI 0)), (4, .int (nI 0)), (0, .ref (M 0)), (1, .int (nI ss)), (2, .int (nI tt)), (3, .int x)]) hx hb dX4_comparison_7 hl (by decide) rfl (fun ls hl => ?_)
  refine lv_bipush (v := (-9)) hx hb dX4_comparison_9 (by decide) ?_
  refine lv_istore (lv' := [(7, .int (-9)), (6, .int (nI 0)), (5, .int (nI 0)), (4, .int (nI 0)), (0, .ref (M 0)), (1, .int (nI ss)), (2, .int (nI tt)), (3, .int x)]) hx hb dX4_comparison_11 hl (by decide) rfl (fun ls hl => ?_)
  refine lv_iconst (v := (nI 0)) hx hb dX4_comparison_13 (by decide) ?_
  refine lv_istore (lv' := [(8, .int (nI 0)), (7, .int (-9)), (6, .int (nI 0)), (5, .int (nI 0)), (4, .int (nI 0)), (0, .ref (M 0)), (1, .int (nI ss)), (2, .int (nI tt)), (3, .int x)]) hx hb dX4_comparison_14 hl (by decide) rfl (fun ls hl => ?_)
  refine lv_iconst (v := (nI 0)) hx hb dX4_comparison_16 (by decide) ?_
  refine lv_istore (lv' := [(9, .int (nI 0)), (8, .int (nI 0)), (7, .int (-9)), (6, .int (nI 0)), (5, .int (nI 0)), (4, .int (nI 0)), (0, .ref (M 0)), (1, .int (nI ss)), (2, .int (nI tt)), (3, .int x)]) hx hb dX4_comparison_17 hl (by decide) rfl (fun ls hl => ?_)
  have loop19 : ∀ (n19 : Nat) (p : Nat) (hp : p ≤ 16) (ls : Array Slot) (hl : lv_has ls 14 [(0, .ref (M 0)), (1, .int (nI ss)), (2, .int (nI tt)), (3, .int x), (4, .int (nI (ct (Jb 0 (bI v ss) (bI v tt)) 0 (256 * p)))), (5, .int (nI (ct (Jb 2 (bI v ss) (bI v tt)) 0 (256 * p)))), (6, .int (nI (ct (Jb 3 (bI v ss) (bI v tt)) 0 (256 * p)))), (7, .int (nthF (Jb 2 (bI v ss) (bI v tt)) (256 * p) 0 0)), (8, .int (nI (fb_ct (fun k => decide (ct (Jb 2 (bI v ss) (bI v tt)) (256 * k) 256 = 0)) p))), (9, .int (nI p))]) (hn19 : 16 - p < n19), W pg l ev (headSpec wsX4_comparison ({ frames := 2, cells := 0, slots := 0, locals := 44 })).room s m ([.ref (M 0), .int (nI ss), .int (nI tt), .int x] : List Value).toArray below meth c s.heap [] 0 0 Q (F0 m 19 ls []) := by
    intro n19
    induction n19 with
    | zero =>
      intro p hp ls hl hn19
      exact absurd hn19 (Nat.not_lt_zero _)
    | succ n19 ih19 =>
      intro p hp ls hl hn19
      have hq0 := ct_le (Jb 0 (bI v ss) (bI v tt)) 0 (256 * p)
      have hq2 := ct_le (Jb 2 (bI v ss) (bI v tt)) 0 (256 * p)
      have hq3 := ct_le (Jb 3 (bI v ss) (bI v tt)) 0 (256 * p)
      refine lv_iload hx hb dX4_comparison_19 (lv_at hl 9 rfl) ?_
      refine lv_bipush (v := (nI 16)) hx hb dX4_comparison_21 (by decide) ?_
      refine lv_icmp_ge (tgt := 178) hx hb dX4_comparison_23 (by decide) (fun c_1 => ?_) (fun c_1 => ?_)
      · skip
        have c_1 : 16 ≤ p := (nI_leI (a := 16) (b := p) (by omega) (by omega)).mp c_1
        have hp6 : p = 16 := by omega
        subst hp6
        refine lv_iload_n hx hb dX4_comparison_178 rfl (lv_at hl 3 rfl) ?_
        refine lv_if_ne (tgt := 187) hx hb dX4_comparison_179 (by decide) (fun c_2 => ?_) (fun c_2 => ?_)
        · skip
          refine lv_iload_n hx hb dX4_comparison_187 rfl (lv_at hl 3 rfl) ?_
          refine lv_iconst (v := (nI 1)) hx hb dX4_comparison_188 (by decide) ?_
          refine lv_icmp_ne (tgt := 197) hx hb dX4_comparison_189 (by decide) (fun c_3 => ?_) (fun c_3 => ?_)
          · skip
            refine lv_iload_n hx hb dX4_comparison_197 rfl (lv_at hl 3 rfl) ?_
            refine lv_iconst (v := (nI 2)) hx hb dX4_comparison_198 (by decide) ?_
            refine lv_icmp_ne (tgt := 215) hx hb dX4_comparison_199 (by decide) (fun c_4 => ?_) (fun c_4 => ?_)
            · skip
              refine lv_iload_n hx hb dX4_comparison_215 rfl (lv_at hl 3 rfl) ?_
              refine lv_iconst (v := (nI 3)) hx hb dX4_comparison_216 (by decide) ?_
              refine lv_icmp_ne (tgt := 225) hx hb dX4_comparison_217 (by decide) (fun c_5 => ?_) (fun c_5 => ?_)
              · skip
                refine lv_iload hx hb dX4_comparison_225 (lv_at hl 7 rfl) ?_
                subst hQ
                refine W.iret (v := (nthF (Jb 2 (bI v ss) (bI v tt)) (256 * 16) 0 0)) hx hb hr (fun t ht hW => ⟨(nthF (Jb 2 (bI v ss) (bI v tt)) (256 * 16) 0 0), rfl, ?_, ht⟩) (fun q h => absurd h List.not_mem_nil) dX4_comparison_227
                exact (((if_neg c_2).trans ((if_neg c_3).trans ((if_neg c_4).trans ((if_neg c_5).trans (cmM_4 _)))))).symm
              · skip
                refine lv_iload hx hb dX4_comparison_220 (lv_at hl 8 rfl) ?_
                refine lv_goto (tgt := 227) hx hb dX4_comparison_222 (by decide) ?_
                subst hQ
                refine W.iret (v := (nI (fb_ct (fun k => decide (ct (Jb 2 (bI v ss) (bI v tt)) (256 * k) 256 = 0)) 16))) hx hb hr (fun t ht hW => ⟨(nI (fb_ct (fun k => decide (ct (Jb 2 (bI v ss) (bI v tt)) (256 * k) 256 = 0)) 16)), rfl, ?_, ht⟩) (fun q h => absurd h List.not_mem_nil) dX4_comparison_227
                exact (((if_neg c_2).trans ((if_neg c_3).trans ((if_neg c_4).trans (if_pos c_5))))).symm
            · skip
              refine lv_iload hx hb dX4_comparison_202 (lv_at hl 6 rfl) ?_
              refine lv_if_ne (tgt := 211) hx hb dX4_comparison_204 (by decide) (fun c_5 => ?_) (fun c_5 => ?_)
              · skip
                have c_5 : ¬ ((ct (Jb 3 (bI v ss) (bI v tt)) 0 (256 * 16)) = 0) := fun z => c_5 ((nI_e0 (a := (ct (Jb 3 (bI v ss) (bI v tt)) 0 (256 * 16))) (by omega)).mpr z)
                refine lv_iconst (v := (nI 0)) hx hb dX4_comparison_211 (by decide) ?_
                refine lv_goto (tgt := 227) hx hb dX4_comparison_212 (by decide) ?_
                subst hQ
                refine W.iret (v := (nI 0)) hx hb hr (fun t ht hW => ⟨(nI 0), rfl, ?_, ht⟩) (fun q h => absurd h List.not_mem_nil) dX4_comparison_227
                exact (((if_neg c_2).trans ((if_neg c_3).trans ((if_pos c_4).trans (if_neg c_5))))).symm
              · skip
                have c_5 : (ct (Jb 3 (bI v ss) (bI v tt)) 0 (256 * 16)) = 0 := (nI_e0 (a := (ct (Jb 3 (bI v ss) (bI v tt)) 0 (256 * 16))) (by omega)).mp c_5
                refine lv_iconst (v := (nI 1)) hx hb dX4_comparison_207 (by decide) ?_
                refine lv_goto (tgt := 227) hx hb dX4_comparison_208 (by decide) ?_
                subst hQ
                refine W.iret (v := (nI 1)) hx hb hr (fun t ht hW => ⟨(nI 1), rfl, ?_, ht⟩) (fun q h => absurd h List.not_mem_nil) dX4_comparison_227
                exact (((if_neg c_2).trans ((if_neg c_3).trans ((if_pos c_4).trans (if_pos c_5))))).symm
          · skip
            refine lv_iload hx hb dX4_comparison_192 (lv_at hl 5 rfl) ?_
            refine lv_goto (tgt := 227) hx hb dX4_comparison_194 (by decide) ?_
            subst hQ
            refine W.iret (v := (nI (ct (Jb 2 (bI v ss) (bI v tt)) 0 (256 * 16)))) hx hb hr (fun t ht hW => ⟨(nI (ct (Jb 2 (bI v ss) (bI v tt)) 0 (256 * 16))), rfl, ?_, ht⟩) (fun q h => absurd h List.not_mem_nil) dX4_comparison_227
            exact (((if_neg c_2).trans (if_pos c_3))).symm
        · skip
          refine lv_iload hx hb dX4_comparison_182 (lv_at hl 4 rfl) ?_
          refine lv_goto (tgt := 227) hx hb dX4_comparison_184 (by decide) ?_
          subst hQ
          refine W.iret (v := (nI (ct (Jb 0 (bI v ss) (bI v tt)) 0 (256 * 16)))) hx hb hr (fun t ht hW => ⟨(nI (ct (Jb 0 (bI v ss) (bI v tt)) 0 (256 * 16))), rfl, ?_, ht⟩) (fun q h => absurd h List.not_mem_nil) dX4_comparison_227
          exact (if_pos c_2).symm
      · skip
        have c_1 : ¬ (16 ≤ p) := fun z => c_1 ((nI_leI (a := 16) (b := p) (by omega) (by omega)).mpr z)
        refine lv_iload hx hb dX4_comparison_26 (lv_at hl 5 rfl) ?_
        refine lv_istore (lv' := [(10, .int (nI (ct (Jb 2 (bI v ss) (bI v tt)) 0 (256 * p)))), (0, .ref (M 0)), (1, .int (nI ss)), (2, .int (nI tt)), (3, .int x), (4, .int (nI (ct (Jb 0 (bI v ss) (bI v tt)) 0 (256 * p)))), (5, .int (nI (ct (Jb 2 (bI v ss) (bI v tt)) 0 (256 * p)))), (6, .int (nI (ct (Jb 3 (bI v ss) (bI v tt)) 0 (256 * p)))), (7, .int (nthF (Jb 2 (bI v ss) (bI v tt)) (256 * p) 0 0)), (8, .int (nI (fb_ct (fun k => decide (ct (Jb 2 (bI v ss) (bI v tt)) (256 * k) 256 = 0)) p))), (9, .int (nI p))]) hx hb dX4_comparison_28 hl (by decide) rfl (fun ls hl => ?_)
        refine lv_sipush (v := (nI 256)) hx hb dX4_comparison_30 (by decide) ?_
        refine lv_iload hx hb dX4_comparison_33 (lv_at hl 10 rfl) ?_
        refine lv_imul hx hb dX4_comparison_35 ?_
        refine top_i (pk_mul 256 p) ?_
        refine lv_istore (lv' := [(11, .int (nI (256 * p))), (10, .int (nI (ct (Jb 2 (bI v ss) (bI v tt)) 0 (256 * p)))), (0, .ref (M 0)), (1, .int (nI ss)), (2, .int (nI tt)), (3, .int x), (4, .int (nI (ct (Jb 0 (bI v ss) (bI v tt)) 0 (256 * p)))), (5, .int (nI (ct (Jb 2 (bI v ss) (bI v tt)) 0 (256 * p)))), (6, .int (nI (ct (Jb 3 (bI v ss) (bI v tt)) 0 (256 * p)))), (7, .int (nthF (Jb 2 (bI v ss) (bI v tt)) (256 * p) 0 0)), (8, .int (nI (fb_ct (fun k => decide (ct (Jb 2 (bI v ss) (bI v tt)) (256 * k) 256 = 0)) p))), (9, .int (nI p))]) hx hb dX4_comparison_36 hl (by decide) rfl (fun ls hl => ?_)
        have loop38 : ∀ (n38 : Nat) (i : Nat) (hi : i ≤ 256) (ls : Array Slot) (hl : lv_has ls 14 [(0, .ref (M 0)), (1, .int (nI ss)), (2, .int (nI tt)), (3, .int x), (4, .int (nI (ct (Jb 0 (bI v ss) (bI v tt)) 0 (256 * p + i)))), (5, .int (nI (ct (Jb 2 (bI v ss) (bI v tt)) 0 (256 * p + i)))), (6, .int (nI (ct (Jb 3 (bI v ss) (bI v tt)) 0 (256 * p + i)))), (7, .int (nthF (Jb 2 (bI v ss) (bI v tt)) (256 * p + i) 0 0)), (8, .int (nI (fb_ct (fun k => decide (ct (Jb 2 (bI v ss) (bI v tt)) (256 * k) 256 = 0)) p))), (9, .int (nI p)), (10, .int (nI (ct (Jb 2 (bI v ss) (bI v tt)) 0 (256 * p)))), (11, .int (nI (256 * p + i)))]) (hn38 : 256 - i < n38), W pg l ev (headSpec wsX4_comparison ({ frames := 2, cells := 0, slots := 0, locals := 44 })).room s m ([.ref (M 0), .int (nI ss), .int (nI tt), .int x] : List Value).toArray below meth c s.heap [] 0 0 Q (F0 m 38 ls []) := by
          intro n38
          induction n38 with
          | zero =>
            intro i hi ls hl hn38
            exact absurd hn38 (Nat.not_lt_zero _)
          | succ n38 ih38 =>
            intro i hi ls hl hn38
            have hp0 := ct_le (Jb 0 (bI v ss) (bI v tt)) 0 (256 * p + i)
            have hp2 := ct_le (Jb 2 (bI v ss) (bI v tt)) 0 (256 * p + i)
            have hp3 := ct_le (Jb 3 (bI v ss) (bI v tt)) 0 (256 * p + i)
            refine lv_iload hx hb dX4_comparison_38 (lv_at hl 11 rfl) ?_
            refine lv_sipush (v := (nI 256)) hx hb dX4_comparison_40 (by decide) ?_
            refine lv_iload hx hb dX4_comparison_43 (lv_at hl 9 rfl) ?_
            refine lv_imul hx hb dX4_comparison_45 ?_
            refine top_i (pk_mul 256 p) ?_
            refine lv_sipush (v := (nI 256)) hx hb dX4_comparison_46 (by decide) ?_
            refine lv_iadd hx hb dX4_comparison_49 ?_
            refine top_i (nI_add (256 * p) 256) ?_
            refine lv_icmp_ge (tgt := 155) hx hb dX4_comparison_50 (by decide) (fun c_2 => ?_) (fun c_2 => ?_)
            · skip
              have c_2 : ((256 * p) + 256) ≤ (256 * p + i) := (nI_leI (a := ((256 * p) + 256)) (b := (256 * p + i)) (by omega) (by omega)).mp c_2
              refine lv_iload hx hb dX4_comparison_155 (lv_at hl 8 rfl) ?_
              refine lv_iload hx hb dX4_comparison_157 (lv_at hl 5 rfl) ?_
              refine lv_iload hx hb dX4_comparison_159 (lv_at hl 10 rfl) ?_
              refine lv_icmp_ne (tgt := 168) hx hb dX4_comparison_161 (by decide) (fun c_3 => ?_) (fun c_3 => ?_)
              · skip
                have c_3 : ¬ ((ct (Jb 2 (bI v ss) (bI v tt)) 0 (256 * p + i)) = (ct (Jb 2 (bI v ss) (bI v tt)) 0 (256 * p))) := fun z => c_3 ((nI_eq (a := (ct (Jb 2 (bI v ss) (bI v tt)) 0 (256 * p + i))) (b := (ct (Jb 2 (bI v ss) (bI v tt)) 0 (256 * p))) (by omega) (by omega)).mpr z)
                refine lv_iconst (v := (nI 0)) hx hb dX4_comparison_168 (by decide) ?_
                refine lv_iadd hx hb dX4_comparison_169 ?_
                refine top_i (nI_add (fb_ct (fun k => decide (ct (Jb 2 (bI v ss) (bI v tt)) (256 * k) 256 = 0)) p) 0) ?_
                refine lv_istore (lv' := [(8, .int (nI ((fb_ct (fun k => decide (ct (Jb 2 (bI v ss) (bI v tt)) (256 * k) 256 = 0)) p) + 0))), (0, .ref (M 0)), (1, .int (nI ss)), (2, .int (nI tt)), (3, .int x), (4, .int (nI (ct (Jb 0 (bI v ss) (bI v tt)) 0 (256 * p + i)))), (5, .int (nI (ct (Jb 2 (bI v ss) (bI v tt)) 0 (256 * p + i)))), (6, .int (nI (ct (Jb 3 (bI v ss) (bI v tt)) 0 (256 * p + i)))), (7, .int (nthF (Jb 2 (bI v ss) (bI v tt)) (256 * p + i) 0 0)), (9, .int (nI p)), (10, .int (nI (ct (Jb 2 (bI v ss) (bI v tt)) 0 (256 * p)))), (11, .int (nI (256 * p + i)))]) hx hb dX4_comparison_170 hl (by decide) rfl (fun ls hl => ?_)
                refine lv_iinc (v := (nI (p + 1))) (lv' := [(9, .int (nI (p + 1))), (8, .int (nI ((fb_ct (fun k => decide (ct (Jb 2 (bI v ss) (bI v tt)) (256 * k) 256 = 0)) p) + 0))), (0, .ref (M 0)), (1, .int (nI ss)), (2, .int (nI tt)), (3, .int x), (4, .int (nI (ct (Jb 0 (bI v ss) (bI v tt)) 0 (256 * p + i)))), (5, .int (nI (ct (Jb 2 (bI v ss) (bI v tt)) 0 (256 * p + i)))), (6, .int (nI (ct (Jb 3 (bI v ss) (bI v tt)) 0 (256 * p + i)))), (7, .int (nthF (Jb 2 (bI v ss) (bI v tt)) (256 * p + i) 0 0)), (10, .int (nI (ct (Jb 2 (bI v ss) (bI v tt)) 0 (256 * p)))), (11, .int (nI (256 * p + i)))]) hx hb dX4_comparison_172 hl (k := 9) rfl (iinc_n p 1) (by decide) rfl (fun ls hl => ?_)
                refine lv_goto (tgt := 19) hx hb dX4_comparison_175 (by decide) ?_
                have hl := lv_sub hl (l' := [(0, .ref (M 0)), (1, .int (nI ss)), (2, .int (nI tt)), (3, .int x), (4, .int (nI (ct (Jb 0 (bI v ss) (bI v tt)) 0 (256 * p + i)))), (5, .int (nI (ct (Jb 2 (bI v ss) (bI v tt)) 0 (256 * p + i)))), (6, .int (nI (ct (Jb 3 (bI v ss) (bI v tt)) 0 (256 * p + i)))), (7, .int (nthF (Jb 2 (bI v ss) (bI v tt)) (256 * p + i) 0 0)), (8, .int (nI ((fb_ct (fun k => decide (ct (Jb 2 (bI v ss) (bI v tt)) (256 * k) 256 = 0)) p) + 0))), (9, .int (nI (p + 1)))]) [2, 3, 4, 5, 6, 7, 8, 9, 1, 0] rfl
                have q_1 : (nI (ct (Jb 0 (bI v ss) (bI v tt)) 0 (256 * p + i))) = (nI (ct (Jb 0 (bI v ss) (bI v tt)) 0 (256 * (p + 1)))) := by rw [show 256 * (p + 1) = 256 * p + i by omega]
                have q_2 : (nI (ct (Jb 2 (bI v ss) (bI v tt)) 0 (256 * p + i))) = (nI (ct (Jb 2 (bI v ss) (bI v tt)) 0 (256 * (p + 1)))) := by rw [show 256 * (p + 1) = 256 * p + i by omega]
                have q_3 : (nI (ct (Jb 3 (bI v ss) (bI v tt)) 0 (256 * p + i))) = (nI (ct (Jb 3 (bI v ss) (bI v tt)) 0 (256 * (p + 1)))) := by rw [show 256 * (p + 1) = 256 * p + i by omega]
                have q_4 : (nthF (Jb 2 (bI v ss) (bI v tt)) (256 * p + i) 0 0) = (nthF (Jb 2 (bI v ss) (bI v tt)) (256 * (p + 1)) 0 0) := by rw [show 256 * (p + 1) = 256 * p + i by omega]
                have q_5 : (nI ((fb_ct (fun k => decide (ct (Jb 2 (bI v ss) (bI v tt)) (256 * k) 256 = 0)) p) + 0)) = (nI (fb_ct (fun k => decide (ct (Jb 2 (bI v ss) (bI v tt)) (256 * k) 256 = 0)) (p + 1))) := by first | exact (congrArg nI (sm_1 (n := 256 * p + i) (by omega) (by assumption))).symm | exact (congrArg nI (sm_0 (n := 256 * p + i) (by omega) (by assumption))).symm
                have hl : lv_has ls 14 [(0, .ref (M 0)), (1, .int (nI ss)), (2, .int (nI tt)), (3, .int x), (4, .int (nI (ct (Jb 0 (bI v ss) (bI v tt)) 0 (256 * (p + 1))))), (5, .int (nI (ct (Jb 2 (bI v ss) (bI v tt)) 0 (256 * (p + 1))))), (6, .int (nI (ct (Jb 3 (bI v ss) (bI v tt)) 0 (256 * (p + 1))))), (7, .int (nthF (Jb 2 (bI v ss) (bI v tt)) (256 * (p + 1)) 0 0)), (8, .int (nI (fb_ct (fun k => decide (ct (Jb 2 (bI v ss) (bI v tt)) (256 * k) 256 = 0)) (p + 1)))), (9, .int (nI (p + 1)))] := by
                  have h := hl
                  rw [q_1] at h
                  rw [q_2] at h
                  rw [q_3] at h
                  rw [q_4] at h
                  rw [q_5] at h
                  exact h
                exact ih19 (p + 1) (by omega) ls hl (by omega)
              · skip
                have c_3 : (ct (Jb 2 (bI v ss) (bI v tt)) 0 (256 * p + i)) = (ct (Jb 2 (bI v ss) (bI v tt)) 0 (256 * p)) := (nI_eq (a := (ct (Jb 2 (bI v ss) (bI v tt)) 0 (256 * p + i))) (b := (ct (Jb 2 (bI v ss) (bI v tt)) 0 (256 * p))) (by omega) (by omega)).mp c_3
                refine lv_iconst (v := (nI 1)) hx hb dX4_comparison_164 (by decide) ?_
                refine lv_goto (tgt := 169) hx hb dX4_comparison_165 (by decide) ?_
                refine lv_iadd hx hb dX4_comparison_169 ?_
                refine top_i (nI_add (fb_ct (fun k => decide (ct (Jb 2 (bI v ss) (bI v tt)) (256 * k) 256 = 0)) p) 1) ?_
                refine lv_istore (lv' := [(8, .int (nI ((fb_ct (fun k => decide (ct (Jb 2 (bI v ss) (bI v tt)) (256 * k) 256 = 0)) p) + 1))), (0, .ref (M 0)), (1, .int (nI ss)), (2, .int (nI tt)), (3, .int x), (4, .int (nI (ct (Jb 0 (bI v ss) (bI v tt)) 0 (256 * p + i)))), (5, .int (nI (ct (Jb 2 (bI v ss) (bI v tt)) 0 (256 * p + i)))), (6, .int (nI (ct (Jb 3 (bI v ss) (bI v tt)) 0 (256 * p + i)))), (7, .int (nthF (Jb 2 (bI v ss) (bI v tt)) (256 * p + i) 0 0)), (9, .int (nI p)), (10, .int (nI (ct (Jb 2 (bI v ss) (bI v tt)) 0 (256 * p)))), (11, .int (nI (256 * p + i)))]) hx hb dX4_comparison_170 hl (by decide) rfl (fun ls hl => ?_)
                refine lv_iinc (v := (nI (p + 1))) (lv' := [(9, .int (nI (p + 1))), (8, .int (nI ((fb_ct (fun k => decide (ct (Jb 2 (bI v ss) (bI v tt)) (256 * k) 256 = 0)) p) + 1))), (0, .ref (M 0)), (1, .int (nI ss)), (2, .int (nI tt)), (3, .int x), (4, .int (nI (ct (Jb 0 (bI v ss) (bI v tt)) 0 (256 * p + i)))), (5, .int (nI (ct (Jb 2 (bI v ss) (bI v tt)) 0 (256 * p + i)))), (6, .int (nI (ct (Jb 3 (bI v ss) (bI v tt)) 0 (256 * p + i)))), (7, .int (nthF (Jb 2 (bI v ss) (bI v tt)) (256 * p + i) 0 0)), (10, .int (nI (ct (Jb 2 (bI v ss) (bI v tt)) 0 (256 * p)))), (11, .int (nI (256 * p + i)))]) hx hb dX4_comparison_172 hl (k := 9) rfl (iinc_n p 1) (by decide) rfl (fun ls hl => ?_)
                refine lv_goto (tgt := 19) hx hb dX4_comparison_175 (by decide) ?_
                have hl := lv_sub hl (l' := [(0, .ref (M 0)), (1, .int (nI ss)), (2, .int (nI tt)), (3, .int x), (4, .int (nI (ct (Jb 0 (bI v ss) (bI v tt)) 0 (256 * p + i)))), (5, .int (nI (ct (Jb 2 (bI v ss) (bI v tt)) 0 (256 * p + i)))), (6, .int (nI (ct (Jb 3 (bI v ss) (bI v tt)) 0 (256 * p + i)))), (7, .int (nthF (Jb 2 (bI v ss) (bI v tt)) (256 * p + i) 0 0)), (8, .int (nI ((fb_ct (fun k => decide (ct (Jb 2 (bI v ss) (bI v tt)) (256 * k) 256 = 0)) p) + 1))), (9, .int (nI (p + 1)))]) [2, 3, 4, 5, 6, 7, 8, 9, 1, 0] rfl
                have q_1 : (nI (ct (Jb 0 (bI v ss) (bI v tt)) 0 (256 * p + i))) = (nI (ct (Jb 0 (bI v ss) (bI v tt)) 0 (256 * (p + 1)))) := by rw [show 256 * (p + 1) = 256 * p + i by omega]
                have q_2 : (nI (ct (Jb 2 (bI v ss) (bI v tt)) 0 (256 * p + i))) = (nI (ct (Jb 2 (bI v ss) (bI v tt)) 0 (256 * (p + 1)))) := by rw [show 256 * (p + 1) = 256 * p + i by omega]
                have q_3 : (nI (ct (Jb 3 (bI v ss) (bI v tt)) 0 (256 * p + i))) = (nI (ct (Jb 3 (bI v ss) (bI v tt)) 0 (256 * (p + 1)))) := by rw [show 256 * (p + 1) = 256 * p + i by omega]
                have q_4 : (nthF (Jb 2 (bI v ss) (bI v tt)) (256 * p + i) 0 0) = (nthF (Jb 2 (bI v ss) (bI v tt)) (256 * (p + 1)) 0 0) := by rw [show 256 * (p + 1) = 256 * p + i by omega]
                have q_5 : (nI ((fb_ct (fun k => decide (ct (Jb 2 (bI v ss) (bI v tt)) (256 * k) 256 = 0)) p) + 1)) = (nI (fb_ct (fun k => decide (ct (Jb 2 (bI v ss) (bI v tt)) (256 * k) 256 = 0)) (p + 1))) := by first | exact (congrArg nI (sm_1 (n := 256 * p + i) (by omega) (by assumption))).symm | exact (congrArg nI (sm_0 (n := 256 * p + i) (by omega) (by assumption))).symm
                have hl : lv_has ls 14 [(0, .ref (M 0)), (1, .int (nI ss)), (2, .int (nI tt)), (3, .int x), (4, .int (nI (ct (Jb 0 (bI v ss) (bI v tt)) 0 (256 * (p + 1))))), (5, .int (nI (ct (Jb 2 (bI v ss) (bI v tt)) 0 (256 * (p + 1))))), (6, .int (nI (ct (Jb 3 (bI v ss) (bI v tt)) 0 (256 * (p + 1))))), (7, .int (nthF (Jb 2 (bI v ss) (bI v tt)) (256 * (p + 1)) 0 0)), (8, .int (nI (fb_ct (fun k => decide (ct (Jb 2 (bI v ss) (bI v tt)) (256 * k) 256 = 0)) (p + 1)))), (9, .int (nI (p + 1)))] := by
                  have h := hl
                  rw [q_1] at h
                  rw [q_2] at h
                  rw [q_3] at h
                  rw [q_4] at h
                  rw [q_5] at h
                  exact h
                exact ih19 (p + 1) (by omega) ls hl (by omega)
            · skip
              have c_2 : ¬ (((256 * p) + 256) ≤ (256 * p + i)) := fun z => c_2 ((nI_leI (a := ((256 * p) + 256)) (b := (256 * p + i)) (by omega) (by omega)).mpr z)
              refine lv_aload_n hx hb dX4_comparison_53 rfl (lv_at hl 0 rfl) ?_
              refine lv_iload_n hx hb dX4_comparison_54 rfl (lv_at hl 1 rfl) ?_
              refine lv_iload hx hb dX4_comparison_55 (lv_at hl 11 rfl) ?_
              refine vp_callSi (va_Run.run (va_runV (As := [.int (nI ss), .int (nI (256 * p + i))]) (rest := []) ⟨hx, hb, hml, hown, hts⟩ (k_X4_has l D T M v as pa pk bu bm bi at0 ss (256 * p + i) (by omega) (by omega)) (cwV 2 hts gX4_comparison_X4_has rfl rfl rfl (by decide +kernel) ⟨Nat.le_of_ble_eq_true rfl, Nat.le_of_ble_eq_true rfl⟩) (pre_V (Φ := fun X => MO D T X M v as pa pk bu bm bi at0) hK (hM.2.1) rfl hM) rfl rfl hl.1 rfl (lv_room (Nat.le_of_ble_eq_true rfl)) dX4_comparison_57 ⟨Nat.le_of_ble_eq_true rfl, Nat.le_of_ble_eq_true rfl⟩)) (fun r_1 hr_1 => ?_)
              subst hr_1
              refine lv_istore (lv' := [(12, .int (b2i (bI v ss (256 * p + i)))), (0, .ref (M 0)), (1, .int (nI ss)), (2, .int (nI tt)), (3, .int x), (4, .int (nI (ct (Jb 0 (bI v ss) (bI v tt)) 0 (256 * p + i)))), (5, .int (nI (ct (Jb 2 (bI v ss) (bI v tt)) 0 (256 * p + i)))), (6, .int (nI (ct (Jb 3 (bI v ss) (bI v tt)) 0 (256 * p + i)))), (7, .int (nthF (Jb 2 (bI v ss) (bI v tt)) (256 * p + i) 0 0)), (8, .int (nI (fb_ct (fun k => decide (ct (Jb 2 (bI v ss) (bI v tt)) (256 * k) 256 = 0)) p))), (9, .int (nI p)), (10, .int (nI (ct (Jb 2 (bI v ss) (bI v tt)) 0 (256 * p)))), (11, .int (nI (256 * p + i)))]) hx hb dX4_comparison_60 hl (by decide) rfl (fun ls hl => ?_)
              refine lv_aload_n hx hb dX4_comparison_62 rfl (lv_at hl 1 rfl) ?_
              refine lv_iload_n hx hb dX4_comparison_63 rfl (lv_at hl 3 rfl) ?_
              refine lv_iload hx hb dX4_comparison_64 (lv_at hl 12 rfl) ?_
              refine vp_callSi (va_Run.run (va_runV (As := [.int (nI tt), .int (nI (256 * p + i))]) (rest := []) ⟨hx, hb, hml, hown, hts⟩ (k_X4_has l D T M v as pa pk bu bm bi at0 tt (256 * p + i) (by omega) (by omega)) (cwV 2 hts gX4_comparison_X4_has rfl rfl rfl (by decide +kernel) ⟨Nat.le_of_ble_eq_true rfl, Nat.le_of_ble_eq_true rfl⟩) (pre_V (Φ := fun X => MO D T X M v as pa pk bu bm bi at0) hK (hM.2.1) rfl hM) rfl rfl hl.1 rfl (lv_room (Nat.le_of_ble_eq_true rfl)) dX4_comparison_66 ⟨Nat.le_of_ble_eq_true rfl, Nat.le_of_ble_eq_true rfl⟩)) (fun r_2 hr_2 => ?_)
              subst hr_2
              refine lv_istore (lv' := [(13, .int (b2i (bI v tt (256 * p + i)))), (12, .int (b2i (bI v ss (256 * p + i)))), (0, .ref (M 0)), (1, .int (nI ss)), (2, .int (nI tt)), (3, .int x), (4, .int (nI (ct (Jb 0 (bI v ss) (bI v tt)) 0 (256 * p + i)))), (5, .int (nI (ct (Jb 2 (bI v ss) (bI v tt)) 0 (256 * p + i)))), (6, .int (nI (ct (Jb 3 (bI v ss) (bI v tt)) 0 (256 * p + i)))), (7, .int (nthF (Jb 2 (bI v ss) (bI v tt)) (256 * p + i) 0 0)), (8, .int (nI (fb_ct (fun k => decide (ct (Jb 2 (bI v ss) (bI v tt)) (256 * k) 256 = 0)) p))), (9, .int (nI p)), (10, .int (nI (ct (Jb 2 (bI v ss) (bI v tt)) 0 (256 * p)))), (11, .int (nI (256 * p + i)))]) hx hb dX4_comparison_69 hl (by decide) rfl (fun ls hl => ?_)
              by_cases hAA : bI v ss (256 * p + i) = true
              · skip
                by_cases hBB : bI v tt (256 * p + i) = true
                · skip
                  have hj0 : (Jb 0 (bI v ss) (bI v tt)) (256 * p + i) = true := by show jb 0 (bI v ss (256 * p + i)) (bI v tt (256 * p + i)) = _; rw [hAA, hBB]; rfl
                  have hj2 : (Jb 2 (bI v ss) (bI v tt)) (256 * p + i) = false := by show jb 2 (bI v ss (256 * p + i)) (bI v tt (256 * p + i)) = _; rw [hAA, hBB]; rfl
                  have hj3 : (Jb 3 (bI v ss) (bI v tt)) (256 * p + i) = false := by show jb 3 (bI v ss (256 * p + i)) (bI v tt (256 * p + i)) = _; rw [hAA, hBB]; rfl
                  have hl : lv_has ls 14 [(13, .int (nI 1)), (12, .int (nI 1)), (0, .ref (M 0)), (1, .int (nI ss)), (2, .int (nI tt)), (3, .int x), (4, .int (nI (ct (Jb 0 (bI v ss) (bI v tt)) 0 (256 * p + i)))), (5, .int (nI (ct (Jb 2 (bI v ss) (bI v tt)) 0 (256 * p + i)))), (6, .int (nI (ct (Jb 3 (bI v ss) (bI v tt)) 0 (256 * p + i)))), (7, .int (nthF (Jb 2 (bI v ss) (bI v tt)) (256 * p + i) 0 0)), (8, .int (nI (fb_ct (fun k => decide (ct (Jb 2 (bI v ss) (bI v tt)) (256 * k) 256 = 0)) p))), (9, .int (nI p)), (10, .int (nI (ct (Jb 2 (bI v ss) (bI v tt)) 0 (256 * p)))), (11, .int (nI (256 * p + i)))] := by have h := hl; rw [hAA, hBB] at h; exact h
                  refine lv_iload hx hb dX4_comparison_71 (lv_at hl 6 rfl) ?_
                  refine lv_iload hx hb dX4_comparison_73 (lv_at hl 1 rfl) ?_
                  refine lv_if_eq (tgt := 87) hx hb dX4_comparison_75 (by decide) (fun c_3 => ?_) (fun c_3 => ?_)
                  · skip
                    exact absurd c_3 (by decide)
                  · skip
                    refine lv_iload hx hb dX4_comparison_78 (lv_at hl 0 rfl) ?_
                    refine lv_if_eq (tgt := 87) hx hb dX4_comparison_80 (by decide) (fun c_4 => ?_) (fun c_4 => ?_)
                    · skip
                      exact absurd c_4 (by decide)
                    · skip
                      refine lv_iconst (v := (nI 1)) hx hb dX4_comparison_83 (by decide) ?_
                      refine lv_goto (tgt := 88) hx hb dX4_comparison_84 (by decide) ?_
                      refine lv_iadd hx hb dX4_comparison_88 ?_
                      refine top_i (nI_add (ct (Jb 0 (bI v ss) (bI v tt)) 0 (256 * p + i)) 1) ?_
                      refine lv_istore (lv' := [(4, .int (nI ((ct (Jb 0 (bI v ss) (bI v tt)) 0 (256 * p + i)) + 1))), (13, .int (nI 1)), (12, .int (nI 1)), (0, .ref (M 0)), (1, .int (nI ss)), (2, .int (nI tt)), (3, .int x), (5, .int (nI (ct (Jb 2 (bI v ss) (bI v tt)) 0 (256 * p + i)))), (6, .int (nI (ct (Jb 3 (bI v ss) (bI v tt)) 0 (256 * p + i)))), (7, .int (nthF (Jb 2 (bI v ss) (bI v tt)) (256 * p + i) 0 0)), (8, .int (nI (fb_ct (fun k => decide (ct (Jb 2 (bI v ss) (bI v tt)) (256 * k) 256 = 0)) p))), (9, .int (nI p)), (10, .int (nI (ct (Jb 2 (bI v ss) (bI v tt)) 0 (256 * p)))), (11, .int (nI (256 * p + i)))]) hx hb dX4_comparison_89 hl (by decide) rfl (fun ls hl => ?_)
                      refine lv_iload hx hb dX4_comparison_91 (lv_at hl 2 rfl) ?_
                      refine lv_iload hx hb dX4_comparison_93 (lv_at hl 1 rfl) ?_
                      refine lv_icmp_eq (tgt := 108) hx hb dX4_comparison_95 (by decide) (fun c_5 => ?_) (fun c_5 => ?_)
                      · skip
                        refine lv_iload hx hb dX4_comparison_108 (lv_at hl 9 rfl) ?_
                        refine lv_istore (lv' := [(7, .int (nthF (Jb 2 (bI v ss) (bI v tt)) (256 * p + i) 0 0)), (4, .int (nI ((ct (Jb 0 (bI v ss) (bI v tt)) 0 (256 * p + i)) + 1))), (13, .int (nI 1)), (12, .int (nI 1)), (0, .ref (M 0)), (1, .int (nI ss)), (2, .int (nI tt)), (3, .int x), (5, .int (nI (ct (Jb 2 (bI v ss) (bI v tt)) 0 (256 * p + i)))), (6, .int (nI (ct (Jb 3 (bI v ss) (bI v tt)) 0 (256 * p + i)))), (8, .int (nI (fb_ct (fun k => decide (ct (Jb 2 (bI v ss) (bI v tt)) (256 * k) 256 = 0)) p))), (9, .int (nI p)), (10, .int (nI (ct (Jb 2 (bI v ss) (bI v tt)) 0 (256 * p)))), (11, .int (nI (256 * p + i)))]) hx hb dX4_comparison_110 hl (by decide) rfl (fun ls hl => ?_)
                        refine lv_iload hx hb dX4_comparison_112 (lv_at hl 8 rfl) ?_
                        refine lv_iload hx hb dX4_comparison_114 (lv_at hl 3 rfl) ?_
                        refine lv_iload hx hb dX4_comparison_116 (lv_at hl 2 rfl) ?_
                        refine lv_icmp_eq (tgt := 125) hx hb dX4_comparison_118 (by decide) (fun c_6 => ?_) (fun c_6 => ?_)
                        · skip
                          refine lv_iconst (v := (nI 0)) hx hb dX4_comparison_125 (by decide) ?_
                          refine lv_iadd hx hb dX4_comparison_126 ?_
                          refine top_i (nI_add (ct (Jb 2 (bI v ss) (bI v tt)) 0 (256 * p + i)) 0) ?_
                          refine lv_istore (lv' := [(5, .int (nI ((ct (Jb 2 (bI v ss) (bI v tt)) 0 (256 * p + i)) + 0))), (7, .int (nthF (Jb 2 (bI v ss) (bI v tt)) (256 * p + i) 0 0)), (4, .int (nI ((ct (Jb 0 (bI v ss) (bI v tt)) 0 (256 * p + i)) + 1))), (13, .int (nI 1)), (12, .int (nI 1)), (0, .ref (M 0)), (1, .int (nI ss)), (2, .int (nI tt)), (3, .int x), (6, .int (nI (ct (Jb 3 (bI v ss) (bI v tt)) 0 (256 * p + i)))), (8, .int (nI (fb_ct (fun k => decide (ct (Jb 2 (bI v ss) (bI v tt)) (256 * k) 256 = 0)) p))), (9, .int (nI p)), (10, .int (nI (ct (Jb 2 (bI v ss) (bI v tt)) 0 (256 * p)))), (11, .int (nI (256 * p + i)))]) hx hb dX4_comparison_127 hl (by decide) rfl (fun ls hl => ?_)
                          refine lv_iload hx hb dX4_comparison_129 (lv_at hl 9 rfl) ?_
                          refine lv_iload hx hb dX4_comparison_131 (lv_at hl 4 rfl) ?_
                          refine lv_if_eq (tgt := 145) hx hb dX4_comparison_133 (by decide) (fun c_7 => ?_) (fun c_7 => ?_)
                          · skip
                            exact absurd c_7 (by decide)
                          · skip
                            refine lv_iload hx hb dX4_comparison_136 (lv_at hl 3 rfl) ?_
                            refine lv_if_ne (tgt := 145) hx hb dX4_comparison_138 (by decide) (fun c_8 => ?_) (fun c_8 => ?_)
                            · skip
                              refine lv_iconst (v := (nI 0)) hx hb dX4_comparison_145 (by decide) ?_
                              refine lv_iadd hx hb dX4_comparison_146 ?_
                              refine top_i (nI_add (ct (Jb 3 (bI v ss) (bI v tt)) 0 (256 * p + i)) 0) ?_
                              refine lv_istore (lv' := [(6, .int (nI ((ct (Jb 3 (bI v ss) (bI v tt)) 0 (256 * p + i)) + 0))), (5, .int (nI ((ct (Jb 2 (bI v ss) (bI v tt)) 0 (256 * p + i)) + 0))), (7, .int (nthF (Jb 2 (bI v ss) (bI v tt)) (256 * p + i) 0 0)), (4, .int (nI ((ct (Jb 0 (bI v ss) (bI v tt)) 0 (256 * p + i)) + 1))), (13, .int (nI 1)), (12, .int (nI 1)), (0, .ref (M 0)), (1, .int (nI ss)), (2, .int (nI tt)), (3, .int x), (8, .int (nI (fb_ct (fun k => decide (ct (Jb 2 (bI v ss) (bI v tt)) (256 * k) 256 = 0)) p))), (9, .int (nI p)), (10, .int (nI (ct (Jb 2 (bI v ss) (bI v tt)) 0 (256 * p)))), (11, .int (nI (256 * p + i)))]) hx hb dX4_comparison_147 hl (by decide) rfl (fun ls hl => ?_)
                              refine lv_iinc (v := (nI ((256 * p + i) + 1))) (lv' := [(11, .int (nI ((256 * p + i) + 1))), (6, .int (nI ((ct (Jb 3 (bI v ss) (bI v tt)) 0 (256 * p + i)) + 0))), (5, .int (nI ((ct (Jb 2 (bI v ss) (bI v tt)) 0 (256 * p + i)) + 0))), (7, .int (nthF (Jb 2 (bI v ss) (bI v tt)) (256 * p + i) 0 0)), (4, .int (nI ((ct (Jb 0 (bI v ss) (bI v tt)) 0 (256 * p + i)) + 1))), (13, .int (nI 1)), (12, .int (nI 1)), (0, .ref (M 0)), (1, .int (nI ss)), (2, .int (nI tt)), (3, .int x), (8, .int (nI (fb_ct (fun k => decide (ct (Jb 2 (bI v ss) (bI v tt)) (256 * k) 256 = 0)) p))), (9, .int (nI p)), (10, .int (nI (ct (Jb 2 (bI v ss) (bI v tt)) 0 (256 * p))))]) hx hb dX4_comparison_149 hl (k := 13) rfl (iinc_n (256 * p + i) 1) (by decide) rfl (fun ls hl => ?_)
                              refine lv_goto (tgt := 38) hx hb dX4_comparison_152 (by decide) ?_
                              have hl := lv_sub hl (l' := [(0, .ref (M 0)), (1, .int (nI ss)), (2, .int (nI tt)), (3, .int x), (4, .int (nI ((ct (Jb 0 (bI v ss) (bI v tt)) 0 (256 * p + i)) + 1))), (5, .int (nI ((ct (Jb 2 (bI v ss) (bI v tt)) 0 (256 * p + i)) + 0))), (6, .int (nI ((ct (Jb 3 (bI v ss) (bI v tt)) 0 (256 * p + i)) + 0))), (7, .int (nthF (Jb 2 (bI v ss) (bI v tt)) (256 * p + i) 0 0)), (8, .int (nI (fb_ct (fun k => decide (ct (Jb 2 (bI v ss) (bI v tt)) (256 * k) 256 = 0)) p))), (9, .int (nI p)), (10, .int (nI (ct (Jb 2 (bI v ss) (bI v tt)) 0 (256 * p)))), (11, .int (nI ((256 * p + i) + 1)))]) [7, 8, 9, 10, 4, 2, 1, 3, 11, 12, 13, 0] rfl
                              have q_1 : (nI ((ct (Jb 0 (bI v ss) (bI v tt)) 0 (256 * p + i)) + 1)) = (nI (ct (Jb 0 (bI v ss) (bI v tt)) 0 (256 * p + (i + 1)))) := by first | exact (congrArg nI (J1 hj0)).symm | exact (congrArg nI (J0 hj0)).symm
                              have q_2 : (nI ((ct (Jb 2 (bI v ss) (bI v tt)) 0 (256 * p + i)) + 0)) = (nI (ct (Jb 2 (bI v ss) (bI v tt)) 0 (256 * p + (i + 1)))) := by first | exact (congrArg nI (J1 hj2)).symm | exact (congrArg nI (J0 hj2)).symm
                              have q_3 : (nI ((ct (Jb 3 (bI v ss) (bI v tt)) 0 (256 * p + i)) + 0)) = (nI (ct (Jb 3 (bI v ss) (bI v tt)) 0 (256 * p + (i + 1)))) := by first | exact (congrArg nI (J1 hj3)).symm | exact (congrArg nI (J0 hj3)).symm
                              have q_4 : (nthF (Jb 2 (bI v ss) (bI v tt)) (256 * p + i) 0 0) = (nthF (Jb 2 (bI v ss) (bI v tt)) (256 * p + (i + 1)) 0 0) := by first | exact (ls_none hj2).symm | exact (ls_first hj2 (by assumption)).symm | exact (ls_more (by assumption)).symm
                              have hl : lv_has ls 14 [(0, .ref (M 0)), (1, .int (nI ss)), (2, .int (nI tt)), (3, .int x), (4, .int (nI (ct (Jb 0 (bI v ss) (bI v tt)) 0 (256 * p + (i + 1))))), (5, .int (nI (ct (Jb 2 (bI v ss) (bI v tt)) 0 (256 * p + (i + 1))))), (6, .int (nI (ct (Jb 3 (bI v ss) (bI v tt)) 0 (256 * p + (i + 1))))), (7, .int (nthF (Jb 2 (bI v ss) (bI v tt)) (256 * p + (i + 1)) 0 0)), (8, .int (nI (fb_ct (fun k => decide (ct (Jb 2 (bI v ss) (bI v tt)) (256 * k) 256 = 0)) p))), (9, .int (nI p)), (10, .int (nI (ct (Jb 2 (bI v ss) (bI v tt)) 0 (256 * p)))), (11, .int (nI (256 * p + (i + 1))))] := by
                                have h := hl
                                rw [q_1] at h
                                rw [q_2] at h
                                rw [q_3] at h
                                rw [q_4] at h
                                exact h
                              exact ih38 (i + 1) (by omega) ls hl (by omega)
                            · skip
                              exact absurd c_8 (by decide)
                        · skip
                          exact absurd rfl c_6
                      · skip
                        exact absurd rfl c_5
                · skip
                  have hBB := Bool.eq_false_iff.mpr hBB
                  have hj0 : (Jb 0 (bI v ss) (bI v tt)) (256 * p + i) = false := by show jb 0 (bI v ss (256 * p + i)) (bI v tt (256 * p + i)) = _; rw [hAA, hBB]; rfl
                  have hj2 : (Jb 2 (bI v ss) (bI v tt)) (256 * p + i) = true := by show jb 2 (bI v ss (256 * p + i)) (bI v tt (256 * p + i)) = _; rw [hAA, hBB]; rfl
                  have hj3 : (Jb 3 (bI v ss) (bI v tt)) (256 * p + i) = true := by show jb 3 (bI v ss (256 * p + i)) (bI v tt (256 * p + i)) = _; rw [hAA, hBB]; rfl
                  have hl : lv_has ls 14 [(13, .int (nI 0)), (12, .int (nI 1)), (0, .ref (M 0)), (1, .int (nI ss)), (2, .int (nI tt)), (3, .int x), (4, .int (nI (ct (Jb 0 (bI v ss) (bI v tt)) 0 (256 * p + i)))), (5, .int (nI (ct (Jb 2 (bI v ss) (bI v tt)) 0 (256 * p + i)))), (6, .int (nI (ct (Jb 3 (bI v ss) (bI v tt)) 0 (256 * p + i)))), (7, .int (nthF (Jb 2 (bI v ss) (bI v tt)) (256 * p + i) 0 0)), (8, .int (nI (fb_ct (fun k => decide (ct (Jb 2 (bI v ss) (bI v tt)) (256 * k) 256 = 0)) p))), (9, .int (nI p)), (10, .int (nI (ct (Jb 2 (bI v ss) (bI v tt)) 0 (256 * p)))), (11, .int (nI (256 * p + i)))] := by have h := hl; rw [hAA, hBB] at h; exact h
                  refine lv_iload hx hb dX4_comparison_71 (lv_at hl 6 rfl) ?_
                  refine lv_iload hx hb dX4_comparison_73 (lv_at hl 1 rfl) ?_
                  refine lv_if_eq (tgt := 87) hx hb dX4_comparison_75 (by decide) (fun c_3 => ?_) (fun c_3 => ?_)
                  · skip
                    exact absurd c_3 (by decide)
                  · skip
                    refine lv_iload hx hb dX4_comparison_78 (lv_at hl 0 rfl) ?_
                    refine lv_if_eq (tgt := 87) hx hb dX4_comparison_80 (by decide) (fun c_4 => ?_) (fun c_4 => ?_)
                    · skip
                      refine lv_iconst (v := (nI 0)) hx hb dX4_comparison_87 (by decide) ?_
                      refine lv_iadd hx hb dX4_comparison_88 ?_
                      refine top_i (nI_add (ct (Jb 0 (bI v ss) (bI v tt)) 0 (256 * p + i)) 0) ?_
                      refine lv_istore (lv' := [(4, .int (nI ((ct (Jb 0 (bI v ss) (bI v tt)) 0 (256 * p + i)) + 0))), (13, .int (nI 0)), (12, .int (nI 1)), (0, .ref (M 0)), (1, .int (nI ss)), (2, .int (nI tt)), (3, .int x), (5, .int (nI (ct (Jb 2 (bI v ss) (bI v tt)) 0 (256 * p + i)))), (6, .int (nI (ct (Jb 3 (bI v ss) (bI v tt)) 0 (256 * p + i)))), (7, .int (nthF (Jb 2 (bI v ss) (bI v tt)) (256 * p + i) 0 0)), (8, .int (nI (fb_ct (fun k => decide (ct (Jb 2 (bI v ss) (bI v tt)) (256 * k) 256 = 0)) p))), (9, .int (nI p)), (10, .int (nI (ct (Jb 2 (bI v ss) (bI v tt)) 0 (256 * p)))), (11, .int (nI (256 * p + i)))]) hx hb dX4_comparison_89 hl (by decide) rfl (fun ls hl => ?_)
                      refine lv_iload hx hb dX4_comparison_91 (lv_at hl 2 rfl) ?_
                      refine lv_iload hx hb dX4_comparison_93 (lv_at hl 1 rfl) ?_
                      refine lv_icmp_eq (tgt := 108) hx hb dX4_comparison_95 (by decide) (fun c_5 => ?_) (fun c_5 => ?_)
                      · skip
                        exact absurd c_5 (by decide)
                      · skip
                        refine lv_iload hx hb dX4_comparison_98 (lv_at hl 7 rfl) ?_
                        refine lv_if_ne (tgt := 108) hx hb dX4_comparison_100 (by decide) (fun c_6 => ?_) (fun c_6 => ?_)
                        · skip
                          have c_6 : ¬ ((ct (Jb 2 (bI v ss) (bI v tt)) 0 (256 * p + i)) = 0) := fun z => c_6 ((nI_e0 (a := (ct (Jb 2 (bI v ss) (bI v tt)) 0 (256 * p + i))) (by omega)).mpr z)
                          refine lv_iload hx hb dX4_comparison_108 (lv_at hl 9 rfl) ?_
                          refine lv_istore (lv' := [(7, .int (nthF (Jb 2 (bI v ss) (bI v tt)) (256 * p + i) 0 0)), (4, .int (nI ((ct (Jb 0 (bI v ss) (bI v tt)) 0 (256 * p + i)) + 0))), (13, .int (nI 0)), (12, .int (nI 1)), (0, .ref (M 0)), (1, .int (nI ss)), (2, .int (nI tt)), (3, .int x), (5, .int (nI (ct (Jb 2 (bI v ss) (bI v tt)) 0 (256 * p + i)))), (6, .int (nI (ct (Jb 3 (bI v ss) (bI v tt)) 0 (256 * p + i)))), (8, .int (nI (fb_ct (fun k => decide (ct (Jb 2 (bI v ss) (bI v tt)) (256 * k) 256 = 0)) p))), (9, .int (nI p)), (10, .int (nI (ct (Jb 2 (bI v ss) (bI v tt)) 0 (256 * p)))), (11, .int (nI (256 * p + i)))]) hx hb dX4_comparison_110 hl (by decide) rfl (fun ls hl => ?_)
                          refine lv_iload hx hb dX4_comparison_112 (lv_at hl 8 rfl) ?_
                          refine lv_iload hx hb dX4_comparison_114 (lv_at hl 3 rfl) ?_
                          refine lv_iload hx hb dX4_comparison_116 (lv_at hl 2 rfl) ?_
                          refine lv_icmp_eq (tgt := 125) hx hb dX4_comparison_118 (by decide) (fun c_7 => ?_) (fun c_7 => ?_)
                          · skip
                            exact absurd c_7 (by decide)
                          · skip
                            refine lv_iconst (v := (nI 1)) hx hb dX4_comparison_121 (by decide) ?_
                            refine lv_goto (tgt := 126) hx hb dX4_comparison_122 (by decide) ?_
                            refine lv_iadd hx hb dX4_comparison_126 ?_
                            refine top_i (nI_add (ct (Jb 2 (bI v ss) (bI v tt)) 0 (256 * p + i)) 1) ?_
                            refine lv_istore (lv' := [(5, .int (nI ((ct (Jb 2 (bI v ss) (bI v tt)) 0 (256 * p + i)) + 1))), (7, .int (nthF (Jb 2 (bI v ss) (bI v tt)) (256 * p + i) 0 0)), (4, .int (nI ((ct (Jb 0 (bI v ss) (bI v tt)) 0 (256 * p + i)) + 0))), (13, .int (nI 0)), (12, .int (nI 1)), (0, .ref (M 0)), (1, .int (nI ss)), (2, .int (nI tt)), (3, .int x), (6, .int (nI (ct (Jb 3 (bI v ss) (bI v tt)) 0 (256 * p + i)))), (8, .int (nI (fb_ct (fun k => decide (ct (Jb 2 (bI v ss) (bI v tt)) (256 * k) 256 = 0)) p))), (9, .int (nI p)), (10, .int (nI (ct (Jb 2 (bI v ss) (bI v tt)) 0 (256 * p)))), (11, .int (nI (256 * p + i)))]) hx hb dX4_comparison_127 hl (by decide) rfl (fun ls hl => ?_)
                            refine lv_iload hx hb dX4_comparison_129 (lv_at hl 9 rfl) ?_
                            refine lv_iload hx hb dX4_comparison_131 (lv_at hl 4 rfl) ?_
                            refine lv_if_eq (tgt := 145) hx hb dX4_comparison_133 (by decide) (fun c_8 => ?_) (fun c_8 => ?_)
                            · skip
                              exact absurd c_8 (by decide)
                            · skip
                              refine lv_iload hx hb dX4_comparison_136 (lv_at hl 3 rfl) ?_
                              refine lv_if_ne (tgt := 145) hx hb dX4_comparison_138 (by decide) (fun c_9 => ?_) (fun c_9 => ?_)
                              · skip
                                exact absurd (by decide) c_9
                              · skip
                                refine lv_iconst (v := (nI 1)) hx hb dX4_comparison_141 (by decide) ?_
                                refine lv_goto (tgt := 146) hx hb dX4_comparison_142 (by decide) ?_
                                refine lv_iadd hx hb dX4_comparison_146 ?_
                                refine top_i (nI_add (ct (Jb 3 (bI v ss) (bI v tt)) 0 (256 * p + i)) 1) ?_
                                refine lv_istore (lv' := [(6, .int (nI ((ct (Jb 3 (bI v ss) (bI v tt)) 0 (256 * p + i)) + 1))), (5, .int (nI ((ct (Jb 2 (bI v ss) (bI v tt)) 0 (256 * p + i)) + 1))), (7, .int (nthF (Jb 2 (bI v ss) (bI v tt)) (256 * p + i) 0 0)), (4, .int (nI ((ct (Jb 0 (bI v ss) (bI v tt)) 0 (256 * p + i)) + 0))), (13, .int (nI 0)), (12, .int (nI 1)), (0, .ref (M 0)), (1, .int (nI ss)), (2, .int (nI tt)), (3, .int x), (8, .int (nI (fb_ct (fun k => decide (ct (Jb 2 (bI v ss) (bI v tt)) (256 * k) 256 = 0)) p))), (9, .int (nI p)), (10, .int (nI (ct (Jb 2 (bI v ss) (bI v tt)) 0 (256 * p)))), (11, .int (nI (256 * p + i)))]) hx hb dX4_comparison_147 hl (by decide) rfl (fun ls hl => ?_)
                                refine lv_iinc (v := (nI ((256 * p + i) + 1))) (lv' := [(11, .int (nI ((256 * p + i) + 1))), (6, .int (nI ((ct (Jb 3 (bI v ss) (bI v tt)) 0 (256 * p + i)) + 1))), (5, .int (nI ((ct (Jb 2 (bI v ss) (bI v tt)) 0 (256 * p + i)) + 1))), (7, .int (nthF (Jb 2 (bI v ss) (bI v tt)) (256 * p + i) 0 0)), (4, .int (nI ((ct (Jb 0 (bI v ss) (bI v tt)) 0 (256 * p + i)) + 0))), (13, .int (nI 0)), (12, .int (nI 1)), (0, .ref (M 0)), (1, .int (nI ss)), (2, .int (nI tt)), (3, .int x), (8, .int (nI (fb_ct (fun k => decide (ct (Jb 2 (bI v ss) (bI v tt)) (256 * k) 256 = 0)) p))), (9, .int (nI p)), (10, .int (nI (ct (Jb 2 (bI v ss) (bI v tt)) 0 (256 * p))))]) hx hb dX4_comparison_149 hl (k := 13) rfl (iinc_n (256 * p + i) 1) (by decide) rfl (fun ls hl => ?_)
                                refine lv_goto (tgt := 38) hx hb dX4_comparison_152 (by decide) ?_
                                have hl := lv_sub hl (l' := [(0, .ref (M 0)), (1, .int (nI ss)), (2, .int (nI tt)), (3, .int x), (4, .int (nI ((ct (Jb 0 (bI v ss) (bI v tt)) 0 (256 * p + i)) + 0))), (5, .int (nI ((ct (Jb 2 (bI v ss) (bI v tt)) 0 (256 * p + i)) + 1))), (6, .int (nI ((ct (Jb 3 (bI v ss) (bI v tt)) 0 (256 * p + i)) + 1))), (7, .int (nthF (Jb 2 (bI v ss) (bI v tt)) (256 * p + i) 0 0)), (8, .int (nI (fb_ct (fun k => decide (ct (Jb 2 (bI v ss) (bI v tt)) (256 * k) 256 = 0)) p))), (9, .int (nI p)), (10, .int (nI (ct (Jb 2 (bI v ss) (bI v tt)) 0 (256 * p)))), (11, .int (nI ((256 * p + i) + 1)))]) [7, 8, 9, 10, 4, 2, 1, 3, 11, 12, 13, 0] rfl
                                have q_1 : (nI ((ct (Jb 0 (bI v ss) (bI v tt)) 0 (256 * p + i)) + 0)) = (nI (ct (Jb 0 (bI v ss) (bI v tt)) 0 (256 * p + (i + 1)))) := by first | exact (congrArg nI (J1 hj0)).symm | exact (congrArg nI (J0 hj0)).symm
                                have q_2 : (nI ((ct (Jb 2 (bI v ss) (bI v tt)) 0 (256 * p + i)) + 1)) = (nI (ct (Jb 2 (bI v ss) (bI v tt)) 0 (256 * p + (i + 1)))) := by first | exact (congrArg nI (J1 hj2)).symm | exact (congrArg nI (J0 hj2)).symm
                                have q_3 : (nI ((ct (Jb 3 (bI v ss) (bI v tt)) 0 (256 * p + i)) + 1)) = (nI (ct (Jb 3 (bI v ss) (bI v tt)) 0 (256 * p + (i + 1)))) := by first | exact (congrArg nI (J1 hj3)).symm | exact (congrArg nI (J0 hj3)).symm
                                have q_4 : (nthF (Jb 2 (bI v ss) (bI v tt)) (256 * p + i) 0 0) = (nthF (Jb 2 (bI v ss) (bI v tt)) (256 * p + (i + 1)) 0 0) := by first | exact (ls_none hj2).symm | exact (ls_first hj2 (by assumption)).symm | exact (ls_more (by assumption)).symm
                                have hl : lv_has ls 14 [(0, .ref (M 0)), (1, .int (nI ss)), (2, .int (nI tt)), (3, .int x), (4, .int (nI (ct (Jb 0 (bI v ss) (bI v tt)) 0 (256 * p + (i + 1))))), (5, .int (nI (ct (Jb 2 (bI v ss) (bI v tt)) 0 (256 * p + (i + 1))))), (6, .int (nI (ct (Jb 3 (bI v ss) (bI v tt)) 0 (256 * p + (i + 1))))), (7, .int (nthF (Jb 2 (bI v ss) (bI v tt)) (256 * p + (i + 1)) 0 0)), (8, .int (nI (fb_ct (fun k => decide (ct (Jb 2 (bI v ss) (bI v tt)) (256 * k) 256 = 0)) p))), (9, .int (nI p)), (10, .int (nI (ct (Jb 2 (bI v ss) (bI v tt)) 0 (256 * p)))), (11, .int (nI (256 * p + (i + 1))))] := by
                                  have h := hl
                                  rw [q_1] at h
                                  rw [q_2] at h
                                  rw [q_3] at h
                                  rw [q_4] at h
                                  exact h
                                exact ih38 (i + 1) (by omega) ls hl (by omega)
                        · skip
                          have c_6 : (ct (Jb 2 (bI v ss) (bI v tt)) 0 (256 * p + i)) = 0 := (nI_e0 (a := (ct (Jb 2 (bI v ss) (bI v tt)) 0 (256 * p + i))) (by omega)).mp c_6
                          refine lv_iload hx hb dX4_comparison_103 (lv_at hl 13 rfl) ?_
                          refine lv_goto (tgt := 110) hx hb dX4_comparison_105 (by decide) ?_
                          refine lv_istore (lv' := [(7, .int (nI (256 * p + i))), (4, .int (nI ((ct (Jb 0 (bI v ss) (bI v tt)) 0 (256 * p + i)) + 0))), (13, .int (nI 0)), (12, .int (nI 1)), (0, .ref (M 0)), (1, .int (nI ss)), (2, .int (nI tt)), (3, .int x), (5, .int (nI (ct (Jb 2 (bI v ss) (bI v tt)) 0 (256 * p + i)))), (6, .int (nI (ct (Jb 3 (bI v ss) (bI v tt)) 0 (256 * p + i)))), (8, .int (nI (fb_ct (fun k => decide (ct (Jb 2 (bI v ss) (bI v tt)) (256 * k) 256 = 0)) p))), (9, .int (nI p)), (10, .int (nI (ct (Jb 2 (bI v ss) (bI v tt)) 0 (256 * p)))), (11, .int (nI (256 * p + i)))]) hx hb dX4_comparison_110 hl (by decide) rfl (fun ls hl => ?_)
                          refine lv_iload hx hb dX4_comparison_112 (lv_at hl 8 rfl) ?_
                          refine lv_iload hx hb dX4_comparison_114 (lv_at hl 3 rfl) ?_
                          refine lv_iload hx hb dX4_comparison_116 (lv_at hl 2 rfl) ?_
                          refine lv_icmp_eq (tgt := 125) hx hb dX4_comparison_118 (by decide) (fun c_7 => ?_) (fun c_7 => ?_)
                          · skip
                            exact absurd c_7 (by decide)
                          · skip
                            refine lv_iconst (v := (nI 1)) hx hb dX4_comparison_121 (by decide) ?_
                            refine lv_goto (tgt := 126) hx hb dX4_comparison_122 (by decide) ?_
                            refine lv_iadd hx hb dX4_comparison_126 ?_
                            refine top_i (nI_add (ct (Jb 2 (bI v ss) (bI v tt)) 0 (256 * p + i)) 1) ?_
                            refine lv_istore (lv' := [(5, .int (nI ((ct (Jb 2 (bI v ss) (bI v tt)) 0 (256 * p + i)) + 1))), (7, .int (nI (256 * p + i))), (4, .int (nI ((ct (Jb 0 (bI v ss) (bI v tt)) 0 (256 * p + i)) + 0))), (13, .int (nI 0)), (12, .int (nI 1)), (0, .ref (M 0)), (1, .int (nI ss)), (2, .int (nI tt)), (3, .int x), (6, .int (nI (ct (Jb 3 (bI v ss) (bI v tt)) 0 (256 * p + i)))), (8, .int (nI (fb_ct (fun k => decide (ct (Jb 2 (bI v ss) (bI v tt)) (256 * k) 256 = 0)) p))), (9, .int (nI p)), (10, .int (nI (ct (Jb 2 (bI v ss) (bI v tt)) 0 (256 * p)))), (11, .int (nI (256 * p + i)))]) hx hb dX4_comparison_127 hl (by decide) rfl (fun ls hl => ?_)
                            refine lv_iload hx hb dX4_comparison_129 (lv_at hl 9 rfl) ?_
                            refine lv_iload hx hb dX4_comparison_131 (lv_at hl 4 rfl) ?_
                            refine lv_if_eq (tgt := 145) hx hb dX4_comparison_133 (by decide) (fun c_8 => ?_) (fun c_8 => ?_)
                            · skip
                              exact absurd c_8 (by decide)
                            · skip
                              refine lv_iload hx hb dX4_comparison_136 (lv_at hl 3 rfl) ?_
                              refine lv_if_ne (tgt := 145) hx hb dX4_comparison_138 (by decide) (fun c_9 => ?_) (fun c_9 => ?_)
                              · skip
                                exact absurd (by decide) c_9
                              · skip
                                refine lv_iconst (v := (nI 1)) hx hb dX4_comparison_141 (by decide) ?_
                                refine lv_goto (tgt := 146) hx hb dX4_comparison_142 (by decide) ?_
                                refine lv_iadd hx hb dX4_comparison_146 ?_
                                refine top_i (nI_add (ct (Jb 3 (bI v ss) (bI v tt)) 0 (256 * p + i)) 1) ?_
                                refine lv_istore (lv' := [(6, .int (nI ((ct (Jb 3 (bI v ss) (bI v tt)) 0 (256 * p + i)) + 1))), (5, .int (nI ((ct (Jb 2 (bI v ss) (bI v tt)) 0 (256 * p + i)) + 1))), (7, .int (nI (256 * p + i))), (4, .int (nI ((ct (Jb 0 (bI v ss) (bI v tt)) 0 (256 * p + i)) + 0))), (13, .int (nI 0)), (12, .int (nI 1)), (0, .ref (M 0)), (1, .int (nI ss)), (2, .int (nI tt)), (3, .int x), (8, .int (nI (fb_ct (fun k => decide (ct (Jb 2 (bI v ss) (bI v tt)) (256 * k) 256 = 0)) p))), (9, .int (nI p)), (10, .int (nI (ct (Jb 2 (bI v ss) (bI v tt)) 0 (256 * p)))), (11, .int (nI (256 * p + i)))]) hx hb dX4_comparison_147 hl (by decide) rfl (fun ls hl => ?_)
                                refine lv_iinc (v := (nI ((256 * p + i) + 1))) (lv' := [(11, .int (nI ((256 * p + i) + 1))), (6, .int (nI ((ct (Jb 3 (bI v ss) (bI v tt)) 0 (256 * p + i)) + 1))), (5, .int (nI ((ct (Jb 2 (bI v ss) (bI v tt)) 0 (256 * p + i)) + 1))), (7, .int (nI (256 * p + i))), (4, .int (nI ((ct (Jb 0 (bI v ss) (bI v tt)) 0 (256 * p + i)) + 0))), (13, .int (nI 0)), (12, .int (nI 1)), (0, .ref (M 0)), (1, .int (nI ss)), (2, .int (nI tt)), (3, .int x), (8, .int (nI (fb_ct (fun k => decide (ct (Jb 2 (bI v ss) (bI v tt)) (256 * k) 256 = 0)) p))), (9, .int (nI p)), (10, .int (nI (ct (Jb 2 (bI v ss) (bI v tt)) 0 (256 * p))))]) hx hb dX4_comparison_149 hl (k := 13) rfl (iinc_n (256 * p + i) 1) (by decide) rfl (fun ls hl => ?_)
                                refine lv_goto (tgt := 38) hx hb dX4_comparison_152 (by decide) ?_
                                have hl := lv_sub hl (l' := [(0, .ref (M 0)), (1, .int (nI ss)), (2, .int (nI tt)), (3, .int x), (4, .int (nI ((ct (Jb 0 (bI v ss) (bI v tt)) 0 (256 * p + i)) + 0))), (5, .int (nI ((ct (Jb 2 (bI v ss) (bI v tt)) 0 (256 * p + i)) + 1))), (6, .int (nI ((ct (Jb 3 (bI v ss) (bI v tt)) 0 (256 * p + i)) + 1))), (7, .int (nI (256 * p + i))), (8, .int (nI (fb_ct (fun k => decide (ct (Jb 2 (bI v ss) (bI v tt)) (256 * k) 256 = 0)) p))), (9, .int (nI p)), (10, .int (nI (ct (Jb 2 (bI v ss) (bI v tt)) 0 (256 * p)))), (11, .int (nI ((256 * p + i) + 1)))]) [7, 8, 9, 10, 4, 2, 1, 3, 11, 12, 13, 0] rfl
                                have q_1 : (nI ((ct (Jb 0 (bI v ss) (bI v tt)) 0 (256 * p + i)) + 0)) = (nI (ct (Jb 0 (bI v ss) (bI v tt)) 0 (256 * p + (i + 1)))) := by first | exact (congrArg nI (J1 hj0)).symm | exact (congrArg nI (J0 hj0)).symm
                                have q_2 : (nI ((ct (Jb 2 (bI v ss) (bI v tt)) 0 (256 * p + i)) + 1)) = (nI (ct (Jb 2 (bI v ss) (bI v tt)) 0 (256 * p + (i + 1)))) := by first | exact (congrArg nI (J1 hj2)).symm | exact (congrArg nI (J0 hj2)).symm
                                have q_3 : (nI ((ct (Jb 3 (bI v ss) (bI v tt)) 0 (256 * p + i)) + 1)) = (nI (ct (Jb 3 (bI v ss) (bI v tt)) 0 (256 * p + (i + 1)))) := by first | exact (congrArg nI (J1 hj3)).symm | exact (congrArg nI (J0 hj3)).symm
                                have q_4 : (nI (256 * p + i)) = (nthF (Jb 2 (bI v ss) (bI v tt)) (256 * p + (i + 1)) 0 0) := by first | exact (ls_none hj2).symm | exact (ls_first hj2 (by assumption)).symm | exact (ls_more (by assumption)).symm
                                have hl : lv_has ls 14 [(0, .ref (M 0)), (1, .int (nI ss)), (2, .int (nI tt)), (3, .int x), (4, .int (nI (ct (Jb 0 (bI v ss) (bI v tt)) 0 (256 * p + (i + 1))))), (5, .int (nI (ct (Jb 2 (bI v ss) (bI v tt)) 0 (256 * p + (i + 1))))), (6, .int (nI (ct (Jb 3 (bI v ss) (bI v tt)) 0 (256 * p + (i + 1))))), (7, .int (nthF (Jb 2 (bI v ss) (bI v tt)) (256 * p + (i + 1)) 0 0)), (8, .int (nI (fb_ct (fun k => decide (ct (Jb 2 (bI v ss) (bI v tt)) (256 * k) 256 = 0)) p))), (9, .int (nI p)), (10, .int (nI (ct (Jb 2 (bI v ss) (bI v tt)) 0 (256 * p)))), (11, .int (nI (256 * p + (i + 1))))] := by
                                  have h := hl
                                  rw [q_1] at h
                                  rw [q_2] at h
                                  rw [q_3] at h
                                  rw [q_4] at h
                                  exact h
                                exact ih38 (i + 1) (by omega) ls hl (by omega)
                    · skip
                      exact absurd (by decide) c_4
              · skip
                have hAA := Bool.eq_false_iff.mpr hAA
                by_cases hBB : bI v tt (256 * p + i) = true
                · skip
                  have hj0 : (Jb 0 (bI v ss) (bI v tt)) (256 * p + i) = false := by show jb 0 (bI v ss (256 * p + i)) (bI v tt (256 * p + i)) = _; rw [hAA, hBB]; rfl
                  have hj2 : (Jb 2 (bI v ss) (bI v tt)) (256 * p + i) = true := by show jb 2 (bI v ss (256 * p + i)) (bI v tt (256 * p + i)) = _; rw [hAA, hBB]; rfl
                  have hj3 : (Jb 3 (bI v ss) (bI v tt)) (256 * p + i) = false := by show jb 3 (bI v ss (256 * p + i)) (bI v tt (256 * p + i)) = _; rw [hAA, hBB]; rfl
                  have hl : lv_has ls 14 [(13, .int (nI 1)), (12, .int (nI 0)), (0, .ref (M 0)), (1, .int (nI ss)), (2, .int (nI tt)), (3, .int x), (4, .int (nI (ct (Jb 0 (bI v ss) (bI v tt)) 0 (256 * p + i)))), (5, .int (nI (ct (Jb 2 (bI v ss) (bI v tt)) 0 (256 * p + i)))), (6, .int (nI (ct (Jb 3 (bI v ss) (bI v tt)) 0 (256 * p + i)))), (7, .int (nthF (Jb 2 (bI v ss) (bI v tt)) (256 * p + i) 0 0)), (8, .int (nI (fb_ct (fun k => decide (ct (Jb 2 (bI v ss) (bI v tt)) (256 * k) 256 = 0)) p))), (9, .int (nI p)), (10, .int (nI (ct (Jb 2 (bI v ss) (bI v tt)) 0 (256 * p)))), (11, .int (nI (256 * p + i)))] := by have h := hl; rw [hAA, hBB] at h; exact h
                  refine lv_iload hx hb dX4_comparison_71 (lv_at hl 6 rfl) ?_
                  refine lv_iload hx hb dX4_comparison_73 (lv_at hl 1 rfl) ?_
                  refine lv_if_eq (tgt := 87) hx hb dX4_comparison_75 (by decide) (fun c_3 => ?_) (fun c_3 => ?_)
                  · skip
                    refine lv_iconst (v := (nI 0)) hx hb dX4_comparison_87 (by decide) ?_
                    refine lv_iadd hx hb dX4_comparison_88 ?_
                    refine top_i (nI_add (ct (Jb 0 (bI v ss) (bI v tt)) 0 (256 * p + i)) 0) ?_
                    refine lv_istore (lv' := [(4, .int (nI ((ct (Jb 0 (bI v ss) (bI v tt)) 0 (256 * p + i)) + 0))), (13, .int (nI 1)), (12, .int (nI 0)), (0, .ref (M 0)), (1, .int (nI ss)), (2, .int (nI tt)), (3, .int x), (5, .int (nI (ct (Jb 2 (bI v ss) (bI v tt)) 0 (256 * p + i)))), (6, .int (nI (ct (Jb 3 (bI v ss) (bI v tt)) 0 (256 * p + i)))), (7, .int (nthF (Jb 2 (bI v ss) (bI v tt)) (256 * p + i) 0 0)), (8, .int (nI (fb_ct (fun k => decide (ct (Jb 2 (bI v ss) (bI v tt)) (256 * k) 256 = 0)) p))), (9, .int (nI p)), (10, .int (nI (ct (Jb 2 (bI v ss) (bI v tt)) 0 (256 * p)))), (11, .int (nI (256 * p + i)))]) hx hb dX4_comparison_89 hl (by decide) rfl (fun ls hl => ?_)
                    refine lv_iload hx hb dX4_comparison_91 (lv_at hl 2 rfl) ?_
                    refine lv_iload hx hb dX4_comparison_93 (lv_at hl 1 rfl) ?_
                    refine lv_icmp_eq (tgt := 108) hx hb dX4_comparison_95 (by decide) (fun c_4 => ?_) (fun c_4 => ?_)
                    · skip
                      exact absurd c_4 (by decide)
                    · skip
                      refine lv_iload hx hb dX4_comparison_98 (lv_at hl 7 rfl) ?_
                      refine lv_if_ne (tgt := 108) hx hb dX4_comparison_100 (by decide) (fun c_5 => ?_) (fun c_5 => ?_)
                      · skip
                        have c_5 : ¬ ((ct (Jb 2 (bI v ss) (bI v tt)) 0 (256 * p + i)) = 0) := fun z => c_5 ((nI_e0 (a := (ct (Jb 2 (bI v ss) (bI v tt)) 0 (256 * p + i))) (by omega)).mpr z)
                        refine lv_iload hx hb dX4_comparison_108 (lv_at hl 9 rfl) ?_
                        refine lv_istore (lv' := [(7, .int (nthF (Jb 2 (bI v ss) (bI v tt)) (256 * p + i) 0 0)), (4, .int (nI ((ct (Jb 0 (bI v ss) (bI v tt)) 0 (256 * p + i)) + 0))), (13, .int (nI 1)), (12, .int (nI 0)), (0, .ref (M 0)), (1, .int (nI ss)), (2, .int (nI tt)), (3, .int x), (5, .int (nI (ct (Jb 2 (bI v ss) (bI v tt)) 0 (256 * p + i)))), (6, .int (nI (ct (Jb 3 (bI v ss) (bI v tt)) 0 (256 * p + i)))), (8, .int (nI (fb_ct (fun k => decide (ct (Jb 2 (bI v ss) (bI v tt)) (256 * k) 256 = 0)) p))), (9, .int (nI p)), (10, .int (nI (ct (Jb 2 (bI v ss) (bI v tt)) 0 (256 * p)))), (11, .int (nI (256 * p + i)))]) hx hb dX4_comparison_110 hl (by decide) rfl (fun ls hl => ?_)
                        refine lv_iload hx hb dX4_comparison_112 (lv_at hl 8 rfl) ?_
                        refine lv_iload hx hb dX4_comparison_114 (lv_at hl 3 rfl) ?_
                        refine lv_iload hx hb dX4_comparison_116 (lv_at hl 2 rfl) ?_
                        refine lv_icmp_eq (tgt := 125) hx hb dX4_comparison_118 (by decide) (fun c_6 => ?_) (fun c_6 => ?_)
                        · skip
                          exact absurd c_6 (by decide)
                        · skip
                          refine lv_iconst (v := (nI 1)) hx hb dX4_comparison_121 (by decide) ?_
                          refine lv_goto (tgt := 126) hx hb dX4_comparison_122 (by decide) ?_
                          refine lv_iadd hx hb dX4_comparison_126 ?_
                          refine top_i (nI_add (ct (Jb 2 (bI v ss) (bI v tt)) 0 (256 * p + i)) 1) ?_
                          refine lv_istore (lv' := [(5, .int (nI ((ct (Jb 2 (bI v ss) (bI v tt)) 0 (256 * p + i)) + 1))), (7, .int (nthF (Jb 2 (bI v ss) (bI v tt)) (256 * p + i) 0 0)), (4, .int (nI ((ct (Jb 0 (bI v ss) (bI v tt)) 0 (256 * p + i)) + 0))), (13, .int (nI 1)), (12, .int (nI 0)), (0, .ref (M 0)), (1, .int (nI ss)), (2, .int (nI tt)), (3, .int x), (6, .int (nI (ct (Jb 3 (bI v ss) (bI v tt)) 0 (256 * p + i)))), (8, .int (nI (fb_ct (fun k => decide (ct (Jb 2 (bI v ss) (bI v tt)) (256 * k) 256 = 0)) p))), (9, .int (nI p)), (10, .int (nI (ct (Jb 2 (bI v ss) (bI v tt)) 0 (256 * p)))), (11, .int (nI (256 * p + i)))]) hx hb dX4_comparison_127 hl (by decide) rfl (fun ls hl => ?_)
                          refine lv_iload hx hb dX4_comparison_129 (lv_at hl 9 rfl) ?_
                          refine lv_iload hx hb dX4_comparison_131 (lv_at hl 4 rfl) ?_
                          refine lv_if_eq (tgt := 145) hx hb dX4_comparison_133 (by decide) (fun c_7 => ?_) (fun c_7 => ?_)
                          · skip
                            refine lv_iconst (v := (nI 0)) hx hb dX4_comparison_145 (by decide) ?_
                            refine lv_iadd hx hb dX4_comparison_146 ?_
                            refine top_i (nI_add (ct (Jb 3 (bI v ss) (bI v tt)) 0 (256 * p + i)) 0) ?_
                            refine lv_istore (lv' := [(6, .int (nI ((ct (Jb 3 (bI v ss) (bI v tt)) 0 (256 * p + i)) + 0))), (5, .int (nI ((ct (Jb 2 (bI v ss) (bI v tt)) 0 (256 * p + i)) + 1))), (7, .int (nthF (Jb 2 (bI v ss) (bI v tt)) (256 * p + i) 0 0)), (4, .int (nI ((ct (Jb 0 (bI v ss) (bI v tt)) 0 (256 * p + i)) + 0))), (13, .int (nI 1)), (12, .int (nI 0)), (0, .ref (M 0)), (1, .int (nI ss)), (2, .int (nI tt)), (3, .int x), (8, .int (nI (fb_ct (fun k => decide (ct (Jb 2 (bI v ss) (bI v tt)) (256 * k) 256 = 0)) p))), (9, .int (nI p)), (10, .int (nI (ct (Jb 2 (bI v ss) (bI v tt)) 0 (256 * p)))), (11, .int (nI (256 * p + i)))]) hx hb dX4_comparison_147 hl (by decide) rfl (fun ls hl => ?_)
                            refine lv_iinc (v := (nI ((256 * p + i) + 1))) (lv' := [(11, .int (nI ((256 * p + i) + 1))), (6, .int (nI ((ct (Jb 3 (bI v ss) (bI v tt)) 0 (256 * p + i)) + 0))), (5, .int (nI ((ct (Jb 2 (bI v ss) (bI v tt)) 0 (256 * p + i)) + 1))), (7, .int (nthF (Jb 2 (bI v ss) (bI v tt)) (256 * p + i) 0 0)), (4, .int (nI ((ct (Jb 0 (bI v ss) (bI v tt)) 0 (256 * p + i)) + 0))), (13, .int (nI 1)), (12, .int (nI 0)), (0, .ref (M 0)), (1, .int (nI ss)), (2, .int (nI tt)), (3, .int x), (8, .int (nI (fb_ct (fun k => decide (ct (Jb 2 (bI v ss) (bI v tt)) (256 * k) 256 = 0)) p))), (9, .int (nI p)), (10, .int (nI (ct (Jb 2 (bI v ss) (bI v tt)) 0 (256 * p))))]) hx hb dX4_comparison_149 hl (k := 13) rfl (iinc_n (256 * p + i) 1) (by decide) rfl (fun ls hl => ?_)
                            refine lv_goto (tgt := 38) hx hb dX4_comparison_152 (by decide) ?_
                            have hl := lv_sub hl (l' := [(0, .ref (M 0)), (1, .int (nI ss)), (2, .int (nI tt)), (3, .int x), (4, .int (nI ((ct (Jb 0 (bI v ss) (bI v tt)) 0 (256 * p + i)) + 0))), (5, .int (nI ((ct (Jb 2 (bI v ss) (bI v tt)) 0 (256 * p + i)) + 1))), (6, .int (nI ((ct (Jb 3 (bI v ss) (bI v tt)) 0 (256 * p + i)) + 0))), (7, .int (nthF (Jb 2 (bI v ss) (bI v tt)) (256 * p + i) 0 0)), (8, .int (nI (fb_ct (fun k => decide (ct (Jb 2 (bI v ss) (bI v tt)) (256 * k) 256 = 0)) p))), (9, .int (nI p)), (10, .int (nI (ct (Jb 2 (bI v ss) (bI v tt)) 0 (256 * p)))), (11, .int (nI ((256 * p + i) + 1)))]) [7, 8, 9, 10, 4, 2, 1, 3, 11, 12, 13, 0] rfl
                            have q_1 : (nI ((ct (Jb 0 (bI v ss) (bI v tt)) 0 (256 * p + i)) + 0)) = (nI (ct (Jb 0 (bI v ss) (bI v tt)) 0 (256 * p + (i + 1)))) := by first | exact (congrArg nI (J1 hj0)).symm | exact (congrArg nI (J0 hj0)).symm
                            have q_2 : (nI ((ct (Jb 2 (bI v ss) (bI v tt)) 0 (256 * p + i)) + 1)) = (nI (ct (Jb 2 (bI v ss) (bI v tt)) 0 (256 * p + (i + 1)))) := by first | exact (congrArg nI (J1 hj2)).symm | exact (congrArg nI (J0 hj2)).symm
                            have q_3 : (nI ((ct (Jb 3 (bI v ss) (bI v tt)) 0 (256 * p + i)) + 0)) = (nI (ct (Jb 3 (bI v ss) (bI v tt)) 0 (256 * p + (i + 1)))) := by first | exact (congrArg nI (J1 hj3)).symm | exact (congrArg nI (J0 hj3)).symm
                            have q_4 : (nthF (Jb 2 (bI v ss) (bI v tt)) (256 * p + i) 0 0) = (nthF (Jb 2 (bI v ss) (bI v tt)) (256 * p + (i + 1)) 0 0) := by first | exact (ls_none hj2).symm | exact (ls_first hj2 (by assumption)).symm | exact (ls_more (by assumption)).symm
                            have hl : lv_has ls 14 [(0, .ref (M 0)), (1, .int (nI ss)), (2, .int (nI tt)), (3, .int x), (4, .int (nI (ct (Jb 0 (bI v ss) (bI v tt)) 0 (256 * p + (i + 1))))), (5, .int (nI (ct (Jb 2 (bI v ss) (bI v tt)) 0 (256 * p + (i + 1))))), (6, .int (nI (ct (Jb 3 (bI v ss) (bI v tt)) 0 (256 * p + (i + 1))))), (7, .int (nthF (Jb 2 (bI v ss) (bI v tt)) (256 * p + (i + 1)) 0 0)), (8, .int (nI (fb_ct (fun k => decide (ct (Jb 2 (bI v ss) (bI v tt)) (256 * k) 256 = 0)) p))), (9, .int (nI p)), (10, .int (nI (ct (Jb 2 (bI v ss) (bI v tt)) 0 (256 * p)))), (11, .int (nI (256 * p + (i + 1))))] := by
                              have h := hl
                              rw [q_1] at h
                              rw [q_2] at h
                              rw [q_3] at h
                              rw [q_4] at h
                              exact h
                            exact ih38 (i + 1) (by omega) ls hl (by omega)
                          · skip
                            exact absurd (by decide) c_7
                      · skip
                        have c_5 : (ct (Jb 2 (bI v ss) (bI v tt)) 0 (256 * p + i)) = 0 := (nI_e0 (a := (ct (Jb 2 (bI v ss) (bI v tt)) 0 (256 * p + i))) (by omega)).mp c_5
                        refine lv_iload hx hb dX4_comparison_103 (lv_at hl 13 rfl) ?_
                        refine lv_goto (tgt := 110) hx hb dX4_comparison_105 (by decide) ?_
                        refine lv_istore (lv' := [(7, .int (nI (256 * p + i))), (4, .int (nI ((ct (Jb 0 (bI v ss) (bI v tt)) 0 (256 * p + i)) + 0))), (13, .int (nI 1)), (12, .int (nI 0)), (0, .ref (M 0)), (1, .int (nI ss)), (2, .int (nI tt)), (3, .int x), (5, .int (nI (ct (Jb 2 (bI v ss) (bI v tt)) 0 (256 * p + i)))), (6, .int (nI (ct (Jb 3 (bI v ss) (bI v tt)) 0 (256 * p + i)))), (8, .int (nI (fb_ct (fun k => decide (ct (Jb 2 (bI v ss) (bI v tt)) (256 * k) 256 = 0)) p))), (9, .int (nI p)), (10, .int (nI (ct (Jb 2 (bI v ss) (bI v tt)) 0 (256 * p)))), (11, .int (nI (256 * p + i)))]) hx hb dX4_comparison_110 hl (by decide) rfl (fun ls hl => ?_)
                        refine lv_iload hx hb dX4_comparison_112 (lv_at hl 8 rfl) ?_
                        refine lv_iload hx hb dX4_comparison_114 (lv_at hl 3 rfl) ?_
                        refine lv_iload hx hb dX4_comparison_116 (lv_at hl 2 rfl) ?_
                        refine lv_icmp_eq (tgt := 125) hx hb dX4_comparison_118 (by decide) (fun c_6 => ?_) (fun c_6 => ?_)
                        · skip
                          exact absurd c_6 (by decide)
                        · skip
                          refine lv_iconst (v := (nI 1)) hx hb dX4_comparison_121 (by decide) ?_
                          refine lv_goto (tgt := 126) hx hb dX4_comparison_122 (by decide) ?_
                          refine lv_iadd hx hb dX4_comparison_126 ?_
                          refine top_i (nI_add (ct (Jb 2 (bI v ss) (bI v tt)) 0 (256 * p + i)) 1) ?_
                          refine lv_istore (lv' := [(5, .int (nI ((ct (Jb 2 (bI v ss) (bI v tt)) 0 (256 * p + i)) + 1))), (7, .int (nI (256 * p + i))), (4, .int (nI ((ct (Jb 0 (bI v ss) (bI v tt)) 0 (256 * p + i)) + 0))), (13, .int (nI 1)), (12, .int (nI 0)), (0, .ref (M 0)), (1, .int (nI ss)), (2, .int (nI tt)), (3, .int x), (6, .int (nI (ct (Jb 3 (bI v ss) (bI v tt)) 0 (256 * p + i)))), (8, .int (nI (fb_ct (fun k => decide (ct (Jb 2 (bI v ss) (bI v tt)) (256 * k) 256 = 0)) p))), (9, .int (nI p)), (10, .int (nI (ct (Jb 2 (bI v ss) (bI v tt)) 0 (256 * p)))), (11, .int (nI (256 * p + i)))]) hx hb dX4_comparison_127 hl (by decide) rfl (fun ls hl => ?_)
                          refine lv_iload hx hb dX4_comparison_129 (lv_at hl 9 rfl) ?_
                          refine lv_iload hx hb dX4_comparison_131 (lv_at hl 4 rfl) ?_
                          refine lv_if_eq (tgt := 145) hx hb dX4_comparison_133 (by decide) (fun c_7 => ?_) (fun c_7 => ?_)
                          · skip
                            refine lv_iconst (v := (nI 0)) hx hb dX4_comparison_145 (by decide) ?_
                            refine lv_iadd hx hb dX4_comparison_146 ?_
                            refine top_i (nI_add (ct (Jb 3 (bI v ss) (bI v tt)) 0 (256 * p + i)) 0) ?_
                            refine lv_istore (lv' := [(6, .int (nI ((ct (Jb 3 (bI v ss) (bI v tt)) 0 (256 * p + i)) + 0))), (5, .int (nI ((ct (Jb 2 (bI v ss) (bI v tt)) 0 (256 * p + i)) + 1))), (7, .int (nI (256 * p + i))), (4, .int (nI ((ct (Jb 0 (bI v ss) (bI v tt)) 0 (256 * p + i)) + 0))), (13, .int (nI 1)), (12, .int (nI 0)), (0, .ref (M 0)), (1, .int (nI ss)), (2, .int (nI tt)), (3, .int x), (8, .int (nI (fb_ct (fun k => decide (ct (Jb 2 (bI v ss) (bI v tt)) (256 * k) 256 = 0)) p))), (9, .int (nI p)), (10, .int (nI (ct (Jb 2 (bI v ss) (bI v tt)) 0 (256 * p)))), (11, .int (nI (256 * p + i)))]) hx hb dX4_comparison_147 hl (by decide) rfl (fun ls hl => ?_)
                            refine lv_iinc (v := (nI ((256 * p + i) + 1))) (lv' := [(11, .int (nI ((256 * p + i) + 1))), (6, .int (nI ((ct (Jb 3 (bI v ss) (bI v tt)) 0 (256 * p + i)) + 0))), (5, .int (nI ((ct (Jb 2 (bI v ss) (bI v tt)) 0 (256 * p + i)) + 1))), (7, .int (nI (256 * p + i))), (4, .int (nI ((ct (Jb 0 (bI v ss) (bI v tt)) 0 (256 * p + i)) + 0))), (13, .int (nI 1)), (12, .int (nI 0)), (0, .ref (M 0)), (1, .int (nI ss)), (2, .int (nI tt)), (3, .int x), (8, .int (nI (fb_ct (fun k => decide (ct (Jb 2 (bI v ss) (bI v tt)) (256 * k) 256 = 0)) p))), (9, .int (nI p)), (10, .int (nI (ct (Jb 2 (bI v ss) (bI v tt)) 0 (256 * p))))]) hx hb dX4_comparison_149 hl (k := 13) rfl (iinc_n (256 * p + i) 1) (by decide) rfl (fun ls hl => ?_)
                            refine lv_goto (tgt := 38) hx hb dX4_comparison_152 (by decide) ?_
                            have hl := lv_sub hl (l' := [(0, .ref (M 0)), (1, .int (nI ss)), (2, .int (nI tt)), (3, .int x), (4, .int (nI ((ct (Jb 0 (bI v ss) (bI v tt)) 0 (256 * p + i)) + 0))), (5, .int (nI ((ct (Jb 2 (bI v ss) (bI v tt)) 0 (256 * p + i)) + 1))), (6, .int (nI ((ct (Jb 3 (bI v ss) (bI v tt)) 0 (256 * p + i)) + 0))), (7, .int (nI (256 * p + i))), (8, .int (nI (fb_ct (fun k => decide (ct (Jb 2 (bI v ss) (bI v tt)) (256 * k) 256 = 0)) p))), (9, .int (nI p)), (10, .int (nI (ct (Jb 2 (bI v ss) (bI v tt)) 0 (256 * p)))), (11, .int (nI ((256 * p + i) + 1)))]) [7, 8, 9, 10, 4, 2, 1, 3, 11, 12, 13, 0] rfl
                            have q_1 : (nI ((ct (Jb 0 (bI v ss) (bI v tt)) 0 (256 * p + i)) + 0)) = (nI (ct (Jb 0 (bI v ss) (bI v tt)) 0 (256 * p + (i + 1)))) := by first | exact (congrArg nI (J1 hj0)).symm | exact (congrArg nI (J0 hj0)).symm
                            have q_2 : (nI ((ct (Jb 2 (bI v ss) (bI v tt)) 0 (256 * p + i)) + 1)) = (nI (ct (Jb 2 (bI v ss) (bI v tt)) 0 (256 * p + (i + 1)))) := by first | exact (congrArg nI (J1 hj2)).symm | exact (congrArg nI (J0 hj2)).symm
                            have q_3 : (nI ((ct (Jb 3 (bI v ss) (bI v tt)) 0 (256 * p + i)) + 0)) = (nI (ct (Jb 3 (bI v ss) (bI v tt)) 0 (256 * p + (i + 1)))) := by first | exact (congrArg nI (J1 hj3)).symm | exact (congrArg nI (J0 hj3)).symm
                            have q_4 : (nI (256 * p + i)) = (nthF (Jb 2 (bI v ss) (bI v tt)) (256 * p + (i + 1)) 0 0) := by first | exact (ls_none hj2).symm | exact (ls_first hj2 (by assumption)).symm | exact (ls_more (by assumption)).symm
                            have hl : lv_has ls 14 [(0, .ref (M 0)), (1, .int (nI ss)), (2, .int (nI tt)), (3, .int x), (4, .int (nI (ct (Jb 0 (bI v ss) (bI v tt)) 0 (256 * p + (i + 1))))), (5, .int (nI (ct (Jb 2 (bI v ss) (bI v tt)) 0 (256 * p + (i + 1))))), (6, .int (nI (ct (Jb 3 (bI v ss) (bI v tt)) 0 (256 * p + (i + 1))))), (7, .int (nthF (Jb 2 (bI v ss) (bI v tt)) (256 * p + (i + 1)) 0 0)), (8, .int (nI (fb_ct (fun k => decide (ct (Jb 2 (bI v ss) (bI v tt)) (256 * k) 256 = 0)) p))), (9, .int (nI p)), (10, .int (nI (ct (Jb 2 (bI v ss) (bI v tt)) 0 (256 * p)))), (11, .int (nI (256 * p + (i + 1))))] := by
                              have h := hl
                              rw [q_1] at h
                              rw [q_2] at h
                              rw [q_3] at h
                              rw [q_4] at h
                              exact h
                            exact ih38 (i + 1) (by omega) ls hl (by omega)
                          · skip
                            exact absurd (by decide) c_7
                  · skip
                    exact absurd (by decide) c_3
                · skip
                  have hBB := Bool.eq_false_iff.mpr hBB
                  have hj0 : (Jb 0 (bI v ss) (bI v tt)) (256 * p + i) = false := by show jb 0 (bI v ss (256 * p + i)) (bI v tt (256 * p + i)) = _; rw [hAA, hBB]; rfl
                  have hj2 : (Jb 2 (bI v ss) (bI v tt)) (256 * p + i) = false := by show jb 2 (bI v ss (256 * p + i)) (bI v tt (256 * p + i)) = _; rw [hAA, hBB]; rfl
                  have hj3 : (Jb 3 (bI v ss) (bI v tt)) (256 * p + i) = false := by show jb 3 (bI v ss (256 * p + i)) (bI v tt (256 * p + i)) = _; rw [hAA, hBB]; rfl
                  have hl : lv_has ls 14 [(13, .int (nI 0)), (12, .int (nI 0)), (0, .ref (M 0)), (1, .int (nI ss)), (2, .int (nI tt)), (3, .int x), (4, .int (nI (ct (Jb 0 (bI v ss) (bI v tt)) 0 (256 * p + i)))), (5, .int (nI (ct (Jb 2 (bI v ss) (bI v tt)) 0 (256 * p + i)))), (6, .int (nI (ct (Jb 3 (bI v ss) (bI v tt)) 0 (256 * p + i)))), (7, .int (nthF (Jb 2 (bI v ss) (bI v tt)) (256 * p + i) 0 0)), (8, .int (nI (fb_ct (fun k => decide (ct (Jb 2 (bI v ss) (bI v tt)) (256 * k) 256 = 0)) p))), (9, .int (nI p)), (10, .int (nI (ct (Jb 2 (bI v ss) (bI v tt)) 0 (256 * p)))), (11, .int (nI (256 * p + i)))] := by have h := hl; rw [hAA, hBB] at h; exact h
                  refine lv_iload hx hb dX4_comparison_71 (lv_at hl 6 rfl) ?_
                  refine lv_iload hx hb dX4_comparison_73 (lv_at hl 1 rfl) ?_
                  refine lv_if_eq (tgt := 87) hx hb dX4_comparison_75 (by decide) (fun c_3 => ?_) (fun c_3 => ?_)
                  · skip
                    refine lv_iconst (v := (nI 0)) hx hb dX4_comparison_87 (by decide) ?_
                    refine lv_iadd hx hb dX4_comparison_88 ?_
                    refine top_i (nI_add (ct (Jb 0 (bI v ss) (bI v tt)) 0 (256 * p + i)) 0) ?_
                    refine lv_istore (lv' := [(4, .int (nI ((ct (Jb 0 (bI v ss) (bI v tt)) 0 (256 * p + i)) + 0))), (13, .int (nI 0)), (12, .int (nI 0)), (0, .ref (M 0)), (1, .int (nI ss)), (2, .int (nI tt)), (3, .int x), (5, .int (nI (ct (Jb 2 (bI v ss) (bI v tt)) 0 (256 * p + i)))), (6, .int (nI (ct (Jb 3 (bI v ss) (bI v tt)) 0 (256 * p + i)))), (7, .int (nthF (Jb 2 (bI v ss) (bI v tt)) (256 * p + i) 0 0)), (8, .int (nI (fb_ct (fun k => decide (ct (Jb 2 (bI v ss) (bI v tt)) (256 * k) 256 = 0)) p))), (9, .int (nI p)), (10, .int (nI (ct (Jb 2 (bI v ss) (bI v tt)) 0 (256 * p)))), (11, .int (nI (256 * p + i)))]) hx hb dX4_comparison_89 hl (by decide) rfl (fun ls hl => ?_)
                    refine lv_iload hx hb dX4_comparison_91 (lv_at hl 2 rfl) ?_
                    refine lv_iload hx hb dX4_comparison_93 (lv_at hl 1 rfl) ?_
                    refine lv_icmp_eq (tgt := 108) hx hb dX4_comparison_95 (by decide) (fun c_4 => ?_) (fun c_4 => ?_)
                    · skip
                      refine lv_iload hx hb dX4_comparison_108 (lv_at hl 9 rfl) ?_
                      refine lv_istore (lv' := [(7, .int (nthF (Jb 2 (bI v ss) (bI v tt)) (256 * p + i) 0 0)), (4, .int (nI ((ct (Jb 0 (bI v ss) (bI v tt)) 0 (256 * p + i)) + 0))), (13, .int (nI 0)), (12, .int (nI 0)), (0, .ref (M 0)), (1, .int (nI ss)), (2, .int (nI tt)), (3, .int x), (5, .int (nI (ct (Jb 2 (bI v ss) (bI v tt)) 0 (256 * p + i)))), (6, .int (nI (ct (Jb 3 (bI v ss) (bI v tt)) 0 (256 * p + i)))), (8, .int (nI (fb_ct (fun k => decide (ct (Jb 2 (bI v ss) (bI v tt)) (256 * k) 256 = 0)) p))), (9, .int (nI p)), (10, .int (nI (ct (Jb 2 (bI v ss) (bI v tt)) 0 (256 * p)))), (11, .int (nI (256 * p + i)))]) hx hb dX4_comparison_110 hl (by decide) rfl (fun ls hl => ?_)
                      refine lv_iload hx hb dX4_comparison_112 (lv_at hl 8 rfl) ?_
                      refine lv_iload hx hb dX4_comparison_114 (lv_at hl 3 rfl) ?_
                      refine lv_iload hx hb dX4_comparison_116 (lv_at hl 2 rfl) ?_
                      refine lv_icmp_eq (tgt := 125) hx hb dX4_comparison_118 (by decide) (fun c_5 => ?_) (fun c_5 => ?_)
                      · skip
                        refine lv_iconst (v := (nI 0)) hx hb dX4_comparison_125 (by decide) ?_
                        refine lv_iadd hx hb dX4_comparison_126 ?_
                        refine top_i (nI_add (ct (Jb 2 (bI v ss) (bI v tt)) 0 (256 * p + i)) 0) ?_
                        refine lv_istore (lv' := [(5, .int (nI ((ct (Jb 2 (bI v ss) (bI v tt)) 0 (256 * p + i)) + 0))), (7, .int (nthF (Jb 2 (bI v ss) (bI v tt)) (256 * p + i) 0 0)), (4, .int (nI ((ct (Jb 0 (bI v ss) (bI v tt)) 0 (256 * p + i)) + 0))), (13, .int (nI 0)), (12, .int (nI 0)), (0, .ref (M 0)), (1, .int (nI ss)), (2, .int (nI tt)), (3, .int x), (6, .int (nI (ct (Jb 3 (bI v ss) (bI v tt)) 0 (256 * p + i)))), (8, .int (nI (fb_ct (fun k => decide (ct (Jb 2 (bI v ss) (bI v tt)) (256 * k) 256 = 0)) p))), (9, .int (nI p)), (10, .int (nI (ct (Jb 2 (bI v ss) (bI v tt)) 0 (256 * p)))), (11, .int (nI (256 * p + i)))]) hx hb dX4_comparison_127 hl (by decide) rfl (fun ls hl => ?_)
                        refine lv_iload hx hb dX4_comparison_129 (lv_at hl 9 rfl) ?_
                        refine lv_iload hx hb dX4_comparison_131 (lv_at hl 4 rfl) ?_
                        refine lv_if_eq (tgt := 145) hx hb dX4_comparison_133 (by decide) (fun c_6 => ?_) (fun c_6 => ?_)
                        · skip
                          refine lv_iconst (v := (nI 0)) hx hb dX4_comparison_145 (by decide) ?_
                          refine lv_iadd hx hb dX4_comparison_146 ?_
                          refine top_i (nI_add (ct (Jb 3 (bI v ss) (bI v tt)) 0 (256 * p + i)) 0) ?_
                          refine lv_istore (lv' := [(6, .int (nI ((ct (Jb 3 (bI v ss) (bI v tt)) 0 (256 * p + i)) + 0))), (5, .int (nI ((ct (Jb 2 (bI v ss) (bI v tt)) 0 (256 * p + i)) + 0))), (7, .int (nthF (Jb 2 (bI v ss) (bI v tt)) (256 * p + i) 0 0)), (4, .int (nI ((ct (Jb 0 (bI v ss) (bI v tt)) 0 (256 * p + i)) + 0))), (13, .int (nI 0)), (12, .int (nI 0)), (0, .ref (M 0)), (1, .int (nI ss)), (2, .int (nI tt)), (3, .int x), (8, .int (nI (fb_ct (fun k => decide (ct (Jb 2 (bI v ss) (bI v tt)) (256 * k) 256 = 0)) p))), (9, .int (nI p)), (10, .int (nI (ct (Jb 2 (bI v ss) (bI v tt)) 0 (256 * p)))), (11, .int (nI (256 * p + i)))]) hx hb dX4_comparison_147 hl (by decide) rfl (fun ls hl => ?_)
                          refine lv_iinc (v := (nI ((256 * p + i) + 1))) (lv' := [(11, .int (nI ((256 * p + i) + 1))), (6, .int (nI ((ct (Jb 3 (bI v ss) (bI v tt)) 0 (256 * p + i)) + 0))), (5, .int (nI ((ct (Jb 2 (bI v ss) (bI v tt)) 0 (256 * p + i)) + 0))), (7, .int (nthF (Jb 2 (bI v ss) (bI v tt)) (256 * p + i) 0 0)), (4, .int (nI ((ct (Jb 0 (bI v ss) (bI v tt)) 0 (256 * p + i)) + 0))), (13, .int (nI 0)), (12, .int (nI 0)), (0, .ref (M 0)), (1, .int (nI ss)), (2, .int (nI tt)), (3, .int x), (8, .int (nI (fb_ct (fun k => decide (ct (Jb 2 (bI v ss) (bI v tt)) (256 * k) 256 = 0)) p))), (9, .int (nI p)), (10, .int (nI (ct (Jb 2 (bI v ss) (bI v tt)) 0 (256 * p))))]) hx hb dX4_comparison_149 hl (k := 13) rfl (iinc_n (256 * p + i) 1) (by decide) rfl (fun ls hl => ?_)
                          refine lv_goto (tgt := 38) hx hb dX4_comparison_152 (by decide) ?_
                          have hl := lv_sub hl (l' := [(0, .ref (M 0)), (1, .int (nI ss)), (2, .int (nI tt)), (3, .int x), (4, .int (nI ((ct (Jb 0 (bI v ss) (bI v tt)) 0 (256 * p + i)) + 0))), (5, .int (nI ((ct (Jb 2 (bI v ss) (bI v tt)) 0 (256 * p + i)) + 0))), (6, .int (nI ((ct (Jb 3 (bI v ss) (bI v tt)) 0 (256 * p + i)) + 0))), (7, .int (nthF (Jb 2 (bI v ss) (bI v tt)) (256 * p + i) 0 0)), (8, .int (nI (fb_ct (fun k => decide (ct (Jb 2 (bI v ss) (bI v tt)) (256 * k) 256 = 0)) p))), (9, .int (nI p)), (10, .int (nI (ct (Jb 2 (bI v ss) (bI v tt)) 0 (256 * p)))), (11, .int (nI ((256 * p + i) + 1)))]) [7, 8, 9, 10, 4, 2, 1, 3, 11, 12, 13, 0] rfl
                          have q_1 : (nI ((ct (Jb 0 (bI v ss) (bI v tt)) 0 (256 * p + i)) + 0)) = (nI (ct (Jb 0 (bI v ss) (bI v tt)) 0 (256 * p + (i + 1)))) := by first | exact (congrArg nI (J1 hj0)).symm | exact (congrArg nI (J0 hj0)).symm
                          have q_2 : (nI ((ct (Jb 2 (bI v ss) (bI v tt)) 0 (256 * p + i)) + 0)) = (nI (ct (Jb 2 (bI v ss) (bI v tt)) 0 (256 * p + (i + 1)))) := by first | exact (congrArg nI (J1 hj2)).symm | exact (congrArg nI (J0 hj2)).symm
                          have q_3 : (nI ((ct (Jb 3 (bI v ss) (bI v tt)) 0 (256 * p + i)) + 0)) = (nI (ct (Jb 3 (bI v ss) (bI v tt)) 0 (256 * p + (i + 1)))) := by first | exact (congrArg nI (J1 hj3)).symm | exact (congrArg nI (J0 hj3)).symm
                          have q_4 : (nthF (Jb 2 (bI v ss) (bI v tt)) (256 * p + i) 0 0) = (nthF (Jb 2 (bI v ss) (bI v tt)) (256 * p + (i + 1)) 0 0) := by first | exact (ls_none hj2).symm | exact (ls_first hj2 (by assumption)).symm | exact (ls_more (by assumption)).symm
                          have hl : lv_has ls 14 [(0, .ref (M 0)), (1, .int (nI ss)), (2, .int (nI tt)), (3, .int x), (4, .int (nI (ct (Jb 0 (bI v ss) (bI v tt)) 0 (256 * p + (i + 1))))), (5, .int (nI (ct (Jb 2 (bI v ss) (bI v tt)) 0 (256 * p + (i + 1))))), (6, .int (nI (ct (Jb 3 (bI v ss) (bI v tt)) 0 (256 * p + (i + 1))))), (7, .int (nthF (Jb 2 (bI v ss) (bI v tt)) (256 * p + (i + 1)) 0 0)), (8, .int (nI (fb_ct (fun k => decide (ct (Jb 2 (bI v ss) (bI v tt)) (256 * k) 256 = 0)) p))), (9, .int (nI p)), (10, .int (nI (ct (Jb 2 (bI v ss) (bI v tt)) 0 (256 * p)))), (11, .int (nI (256 * p + (i + 1))))] := by
                            have h := hl
                            rw [q_1] at h
                            rw [q_2] at h
                            rw [q_3] at h
                            rw [q_4] at h
                            exact h
                          exact ih38 (i + 1) (by omega) ls hl (by omega)
                        · skip
                          exact absurd (by decide) c_6
                      · skip
                        exact absurd rfl c_5
                    · skip
                      exact absurd rfl c_4
                  · skip
                    exact absurd (by decide) c_3
        have hl := lv_sub hl (l' := [(0, .ref (M 0)), (1, .int (nI ss)), (2, .int (nI tt)), (3, .int x), (4, .int (nI (ct (Jb 0 (bI v ss) (bI v tt)) 0 (256 * p)))), (5, .int (nI (ct (Jb 2 (bI v ss) (bI v tt)) 0 (256 * p)))), (6, .int (nI (ct (Jb 3 (bI v ss) (bI v tt)) 0 (256 * p)))), (7, .int (nthF (Jb 2 (bI v ss) (bI v tt)) (256 * p) 0 0)), (8, .int (nI (fb_ct (fun k => decide (ct (Jb 2 (bI v ss) (bI v tt)) (256 * k) 256 = 0)) p))), (9, .int (nI p)), (10, .int (nI (ct (Jb 2 (bI v ss) (bI v tt)) 0 (256 * p)))), (11, .int (nI (256 * p)))]) [2, 3, 4, 5, 6, 7, 8, 9, 10, 11, 1, 0] rfl
        have q_1 : (nI (ct (Jb 0 (bI v ss) (bI v tt)) 0 (256 * p))) = (nI (ct (Jb 0 (bI v ss) (bI v tt)) 0 (256 * p + 0))) := rfl
        have q_2 : (nI (ct (Jb 2 (bI v ss) (bI v tt)) 0 (256 * p))) = (nI (ct (Jb 2 (bI v ss) (bI v tt)) 0 (256 * p + 0))) := rfl
        have q_3 : (nI (ct (Jb 3 (bI v ss) (bI v tt)) 0 (256 * p))) = (nI (ct (Jb 3 (bI v ss) (bI v tt)) 0 (256 * p + 0))) := rfl
        have q_4 : (nthF (Jb 2 (bI v ss) (bI v tt)) (256 * p) 0 0) = (nthF (Jb 2 (bI v ss) (bI v tt)) (256 * p + 0) 0 0) := rfl
        have q_5 : (nI (256 * p)) = (nI (256 * p + 0)) := by first | rfl | (congr 1; omega) | omega
        have hl : lv_has ls 14 [(0, .ref (M 0)), (1, .int (nI ss)), (2, .int (nI tt)), (3, .int x), (4, .int (nI (ct (Jb 0 (bI v ss) (bI v tt)) 0 (256 * p + 0)))), (5, .int (nI (ct (Jb 2 (bI v ss) (bI v tt)) 0 (256 * p + 0)))), (6, .int (nI (ct (Jb 3 (bI v ss) (bI v tt)) 0 (256 * p + 0)))), (7, .int (nthF (Jb 2 (bI v ss) (bI v tt)) (256 * p + 0) 0 0)), (8, .int (nI (fb_ct (fun k => decide (ct (Jb 2 (bI v ss) (bI v tt)) (256 * k) 256 = 0)) p))), (9, .int (nI p)), (10, .int (nI (ct (Jb 2 (bI v ss) (bI v tt)) 0 (256 * p)))), (11, .int (nI (256 * p + 0)))] := by
          have h := hl
          rw [q_1] at h
          rw [q_2] at h
          rw [q_3] at h
          rw [q_4] at h
          rw [q_5] at h
          exact h
        exact loop38 (256 - 0 + 1) 0 (Nat.zero_le _) ls hl (Nat.lt_succ_self _)
  have hl := lv_sub hl (l' := [(0, .ref (M 0)), (1, .int (nI ss)), (2, .int (nI tt)), (3, .int x), (4, .int (nI 0)), (5, .int (nI 0)), (6, .int (nI 0)), (7, .int (-9)), (8, .int (nI 0)), (9, .int (nI 0))]) [6, 7, 8, 9, 5, 4, 3, 2, 1, 0] rfl
  have hl : lv_has ls 14 [(0, .ref (M 0)), (1, .int (nI ss)), (2, .int (nI tt)), (3, .int x), (4, .int (nI (ct (Jb 0 (bI v ss) (bI v tt)) 0 (256 * 0)))), (5, .int (nI (ct (Jb 2 (bI v ss) (bI v tt)) 0 (256 * 0)))), (6, .int (nI (ct (Jb 3 (bI v ss) (bI v tt)) 0 (256 * 0)))), (7, .int (nthF (Jb 2 (bI v ss) (bI v tt)) (256 * 0) 0 0)), (8, .int (nI (fb_ct (fun k => decide (ct (Jb 2 (bI v ss) (bI v tt)) (256 * k) 256 = 0)) 0))), (9, .int (nI 0))] := by
    have h := hl
    exact h
  exact loop19 (16 - 0 + 1) 0 (Nat.zero_le _) ls hl (Nat.lt_succ_self _)
set_option maxHeartbeats 2000000 in
set_option maxRecDepth 100000 in
theorem k_X4_compare (l : Launch) (D : va_G) (T : Nat → ClassId) (M : Nat → Nat) (Sy : Nat → Prop) (fi : FS) (ss : Int32) (tt : Int32) (x : Int32) : Met l yX4_compare wsX4_compare ({ frames := 3, cells := 0, slots := 0, locals := 77 }) (va_Pc [.ref (M 0), .int ss, .int tt, .int x] (fun U => KS D T U ∧ MSE D T U.heap M Sy fi)) (vp_Si (fun r => r = (cmpR fi ss tt x))) 0 0 (fun _ => False) := by
  refine Met.ofW (cc := cX4_compare) (maxL := 4) (ret := (some .int)) (by decide) rfl ?_
  intro pg ev s m args below meth c s₁ B hml hv
  obtain ⟨rfl, hK, hH⟩ := hv
  have hx := B.exec
  have hb := B.bytes
  have hr := B.returns
  have hts := atoms_spec (ws := wsX4_compare) B.pre
  have hown : s.vm.findClass RX4 = some m.cls := findClass_of_methodNamed B.named
  have hlocks := B.notSynchronized
  have in_wsX40 : ∀ w ∈ wsX40, w ∈ wsX4_compare := fun w h => List.mem_cons_of_mem _ (List.mem_append_right _ h)
  have hl := lv_entry ([.ref (M 0), .int ss, .int tt, .int x]) (n := 4) (Nat.le_of_ble_eq_true rfl)
  rw [lg_entry_eq]
  generalize (lg_sl ([.ref (M 0), .int ss, .int tt, .int x]) ++ List.replicate (4 - (lg_sl ([.ref (M 0), .int ss, .int tt, .int x])).length) Slot.unset).toArray = ls at hl ⊢
  have hl : lv_has ls 4 [(0, .ref (M 0)), (1, .int ss), (2, .int tt), (3, .int x)] := hl
  refine W_gen (fun Q hQ => ?_)
  obtain ⟨v, as, pa, bi, at0, hM, hSy, hrb, hbl, hk5, hR0, hRh⟩ := id hH
  refine lv_iload_n hx hb dX4_compare_0 rfl (lv_at hl 1 rfl) ?_
  refine vp_callSi (va_Run.run (va_runS (As := [.int ss]) (rest := []) ⟨hx, hb, hml, hown, hts⟩ (k_X4_isSet l D T ss ) (va_cwS 1 hts gX4_compare_X4_isSet rfl rfl rfl (by decide +kernel) ⟨Nat.le_of_ble_eq_true rfl, Nat.le_of_ble_eq_true rfl⟩) (pre_S (Φ := fun X => True) hK trivial) rfl rfl hl.1 rfl (lv_room (Nat.le_of_ble_eq_true rfl)) dX4_compare_1 ⟨Nat.le_of_ble_eq_true rfl, Nat.le_of_ble_eq_true rfl⟩)) (fun r_1 hr_1 => ?_)
  subst hr_1
  refine lv_if_eq (tgt := 33) hx hb dX4_compare_4 (by decide) (fun c_1 => ?_) (fun c_1 => ?_)
  · skip
    have c_1 : (decide (¬ ss < 0 ∧ ss < nI 6)) = false := b2i_0.mp c_1
    have c_1 : ¬ (¬ ss < 0 ∧ ss < nI 6) := of_decide_eq_false c_1
    refine lv_iconst (v := (-1)) hx hb dX4_compare_33 (by decide) ?_
    subst hQ
    refine W.iret (v := (-1)) hx hb hr (fun t ht hW => ⟨(-1), rfl, ?_, ht⟩) (fun q h => absurd h List.not_mem_nil) dX4_compare_34
    exact (if_neg (fun z => c_1 z.1)).symm
  · skip
    have c_1 : (decide (¬ ss < 0 ∧ ss < nI 6)) = true := b2i_n0.mp c_1
    have c_1 : ¬ ss < 0 ∧ ss < nI 6 := of_decide_eq_true c_1
    refine lv_iload_n hx hb dX4_compare_7 rfl (lv_at hl 2 rfl) ?_
    refine vp_callSi (va_Run.run (va_runS (As := [.int tt]) (rest := []) ⟨hx, hb, hml, hown, hts⟩ (k_X4_isSet l D T tt ) (va_cwS 1 hts gX4_compare_X4_isSet rfl rfl rfl (by decide +kernel) ⟨Nat.le_of_ble_eq_true rfl, Nat.le_of_ble_eq_true rfl⟩) (pre_S (Φ := fun X => True) hK trivial) rfl rfl hl.1 rfl (lv_room (Nat.le_of_ble_eq_true rfl)) dX4_compare_8 ⟨Nat.le_of_ble_eq_true rfl, Nat.le_of_ble_eq_true rfl⟩)) (fun r_2 hr_2 => ?_)
    subst hr_2
    refine lv_if_eq (tgt := 33) hx hb dX4_compare_11 (by decide) (fun c_2 => ?_) (fun c_2 => ?_)
    · skip
      have c_2 : (decide (¬ tt < 0 ∧ tt < nI 6)) = false := b2i_0.mp c_2
      have c_2 : ¬ (¬ tt < 0 ∧ tt < nI 6) := of_decide_eq_false c_2
      refine lv_iconst (v := (-1)) hx hb dX4_compare_33 (by decide) ?_
      subst hQ
      refine W.iret (v := (-1)) hx hb hr (fun t ht hW => ⟨(-1), rfl, ?_, ht⟩) (fun q h => absurd h List.not_mem_nil) dX4_compare_34
      exact (if_neg (fun z => c_2 z.2)).symm
    · skip
      have c_2 : (decide (¬ tt < 0 ∧ tt < nI 6)) = true := b2i_n0.mp c_2
      have c_2 : ¬ tt < 0 ∧ tt < nI 6 := of_decide_eq_true c_2
      refine lv_iload_n hx hb dX4_compare_14 rfl (lv_at hl 3 rfl) ?_
      refine lv_iconst (v := (nI 0)) hx hb dX4_compare_15 (by decide) ?_
      refine lv_iconst (v := (nI 4)) hx hb dX4_compare_16 (by decide) ?_
      refine vp_callSi (va_Run.run (va_runS (As := [.int x, .int (nI 0), .int (nI 4)]) (rest := []) ⟨hx, hb, hml, hown, hts⟩ (k_X4_in l D T x (nI 0) (nI 4) ) (va_cwS 3 hts gX4_compare_X4_in rfl rfl rfl (by decide +kernel) ⟨Nat.le_of_ble_eq_true rfl, Nat.le_of_ble_eq_true rfl⟩) (pre_S (Φ := fun X => True) hK trivial) rfl rfl hl.1 rfl (lv_room (Nat.le_of_ble_eq_true rfl)) dX4_compare_17 ⟨Nat.le_of_ble_eq_true rfl, Nat.le_of_ble_eq_true rfl⟩)) (fun r_3 hr_3 => ?_)
      subst hr_3
      refine lv_if_eq (tgt := 33) hx hb dX4_compare_20 (by decide) (fun c_3 => ?_) (fun c_3 => ?_)
      · skip
        have c_3 : (decide ((nI 0) ≤ x ∧ x ≤ (nI 4))) = false := b2i_0.mp c_3
        have c_3 : ¬ ((nI 0) ≤ x ∧ x ≤ (nI 4)) := of_decide_eq_false c_3
        refine lv_iconst (v := (-1)) hx hb dX4_compare_33 (by decide) ?_
        subst hQ
        refine W.iret (v := (-1)) hx hb hr (fun t ht hW => ⟨(-1), rfl, ?_, ht⟩) (fun q h => absurd h List.not_mem_nil) dX4_compare_34
        unfold cmpR
        by_cases hz : ok6 ss ∧ ok6 tt
        · rw [if_pos hz, cmpV_out _ _ c_3]
        · rw [if_neg hz]
      · skip
        have c_3 : (decide ((nI 0) ≤ x ∧ x ≤ (nI 4))) = true := b2i_n0.mp c_3
        have c_3 : (nI 0) ≤ x ∧ x ≤ (nI 4) := of_decide_eq_true c_3
        obtain ⟨sN, hsN, rfl⟩ := okX (N := 6) (by decide) c_1
        obtain ⟨tN, htN, rfl⟩ := okX (N := 6) (by decide) c_2
        refine lv_aload_n hx hb dX4_compare_23 rfl (lv_at hl 0 rfl) ?_
        refine lv_iload_n hx hb dX4_compare_24 rfl (lv_at hl 1 rfl) ?_
        refine lv_iload_n hx hb dX4_compare_25 rfl (lv_at hl 2 rfl) ?_
        refine lv_iload_n hx hb dX4_compare_26 rfl (lv_at hl 3 rfl) ?_
        refine vp_callSi (va_Run.run (va_runV (As := [.int (nI sN), .int (nI tN), .int x]) (rest := []) ⟨hx, hb, hml, hown, hts⟩ (k_X4_comparison l D T M v as pa fi.2.2.1 (buF fi) fi.2.2.2.2 bi at0 sN tN x (by omega) (by omega)) (cwV 3 hts gX4_compare_X4_comparison rfl rfl rfl (by decide +kernel) ⟨Nat.le_of_ble_eq_true rfl, Nat.le_of_ble_eq_true rfl⟩) (pre_V (Φ := fun X => MO D T X M v as pa fi.2.2.1 (buF fi) fi.2.2.2.2 bi at0) hK (hM.2.1) rfl hM) rfl rfl hl.1 rfl (lv_room (Nat.le_of_ble_eq_true rfl)) dX4_compare_27 ⟨Nat.le_of_ble_eq_true rfl, Nat.le_of_ble_eq_true rfl⟩)) (fun r_4 hr_4 => ?_)
        subst hr_4
        refine lv_goto (tgt := 34) hx hb dX4_compare_30 (by decide) ?_
        subst hQ
        refine W.iret (v := (cmM (bI v sN) (bI v tN) x)) hx hb hr (fun t ht hW => ⟨(cmM (bI v sN) (bI v tN) x), rfl, ?_, ht⟩) (fun q h => absurd h List.not_mem_nil) dX4_compare_34
        unfold cmpR
        rw [if_pos ⟨okN hsN (by decide), okN htN (by decide)⟩, cl_n (by omega), cl_n (by omega), ← cmM_V _ _ c_3]
        exact cmM_cong (hR0.1 _ hsN) (hR0.1 _ htN) x
set_option maxHeartbeats 2000000 in
set_option maxRecDepth 100000 in
theorem k_X4_alike (l : Launch) (D : va_G) (T : Nat → ClassId) (M : Nat → Nat) (Sy : Nat → Prop) (fi : FS) (ss : Int32) (tt : Int32) (y : Int32) : Met l yX4_alike wsX4_alike ({ frames := 3, cells := 0, slots := 0, locals := 77 }) (va_Pc [.ref (M 0), .int ss, .int tt, .int y] (fun U => KS D T U ∧ MSE D T U.heap M Sy fi)) (vp_Si (fun r => r = (alkR fi ss tt y))) 0 0 (fun _ => False) := by
  refine Met.ofW (cc := cX4_alike) (maxL := 9) (ret := (some .int)) (by decide) rfl ?_
  intro pg ev s m args below meth c s₁ B hml hv
  obtain ⟨rfl, hK, hH⟩ := hv
  have hx := B.exec
  have hb := B.bytes
  have hr := B.returns
  have hts := atoms_spec (ws := wsX4_alike) B.pre
  have hown : s.vm.findClass RX4 = some m.cls := findClass_of_methodNamed B.named
  have hlocks := B.notSynchronized
  have in_wsX40 : ∀ w ∈ wsX40, w ∈ wsX4_alike := fun w h => List.mem_cons_of_mem _ (List.mem_append_right _ h)
  have hl := lv_entry ([.ref (M 0), .int ss, .int tt, .int y]) (n := 9) (Nat.le_of_ble_eq_true rfl)
  rw [lg_entry_eq]
  generalize (lg_sl ([.ref (M 0), .int ss, .int tt, .int y]) ++ List.replicate (9 - (lg_sl ([.ref (M 0), .int ss, .int tt, .int y])).length) Slot.unset).toArray = ls at hl ⊢
  have hl : lv_has ls 9 [(0, .ref (M 0)), (1, .int ss), (2, .int tt), (3, .int y)] := hl
  refine W_gen (fun Q hQ => ?_)
  obtain ⟨v, as, pa, bi, at0, hM, hSy, hrb, hbl, hk5, hR0, hRh⟩ := id hH
  refine lv_iload_n hx hb dX4_alike_0 rfl (lv_at hl 1 rfl) ?_
  refine vp_callSi (va_Run.run (va_runS (As := [.int ss]) (rest := []) ⟨hx, hb, hml, hown, hts⟩ (k_X4_isSet l D T ss ) (va_cwS 1 hts gX4_alike_X4_isSet rfl rfl rfl (by decide +kernel) ⟨Nat.le_of_ble_eq_true rfl, Nat.le_of_ble_eq_true rfl⟩) (pre_S (Φ := fun X => True) hK trivial) rfl rfl hl.1 rfl (lv_room (Nat.le_of_ble_eq_true rfl)) dX4_alike_1 ⟨Nat.le_of_ble_eq_true rfl, Nat.le_of_ble_eq_true rfl⟩)) (fun r_1 hr_1 => ?_)
  subst hr_1
  refine lv_if_eq (tgt := 14) hx hb dX4_alike_4 (by decide) (fun c_1 => ?_) (fun c_1 => ?_)
  · skip
    have c_1 : (decide (¬ ss < 0 ∧ ss < nI 6)) = false := b2i_0.mp c_1
    have c_1 : ¬ (¬ ss < 0 ∧ ss < nI 6) := of_decide_eq_false c_1
    refine lv_iconst (v := (-1)) hx hb dX4_alike_14 (by decide) ?_
    subst hQ
    refine W.iret (v := (-1)) hx hb hr (fun t ht hW => ⟨(-1), rfl, ?_, ht⟩) (fun q h => absurd h List.not_mem_nil) dX4_alike_15
    first | exact (if_neg (fun z => c_1 z.1)).symm | exact (if_neg (fun z => c_2 z.2)).symm
  · skip
    have c_1 : (decide (¬ ss < 0 ∧ ss < nI 6)) = true := b2i_n0.mp c_1
    have c_1 : ¬ ss < 0 ∧ ss < nI 6 := of_decide_eq_true c_1
    refine lv_iload_n hx hb dX4_alike_7 rfl (lv_at hl 2 rfl) ?_
    refine vp_callSi (va_Run.run (va_runS (As := [.int tt]) (rest := []) ⟨hx, hb, hml, hown, hts⟩ (k_X4_isSet l D T tt ) (va_cwS 1 hts gX4_alike_X4_isSet rfl rfl rfl (by decide +kernel) ⟨Nat.le_of_ble_eq_true rfl, Nat.le_of_ble_eq_true rfl⟩) (pre_S (Φ := fun X => True) hK trivial) rfl rfl hl.1 rfl (lv_room (Nat.le_of_ble_eq_true rfl)) dX4_alike_8 ⟨Nat.le_of_ble_eq_true rfl, Nat.le_of_ble_eq_true rfl⟩)) (fun r_2 hr_2 => ?_)
    subst hr_2
    refine lv_if_ne (tgt := 16) hx hb dX4_alike_11 (by decide) (fun c_2 => ?_) (fun c_2 => ?_)
    · skip
      have c_2 : (decide (¬ tt < 0 ∧ tt < nI 6)) = true := b2i_n0.mp c_2
      have c_2 : ¬ tt < 0 ∧ tt < nI 6 := of_decide_eq_true c_2
      obtain ⟨sN, hsN, rfl⟩ := okX (N := 6) (by decide) c_1
      obtain ⟨tN, htN, rfl⟩ := okX (N := 6) (by decide) c_2
      refine lv_aload_n hx hb dX4_alike_16 rfl (lv_at hl 0 rfl) ?_
      refine lv_iload_n hx hb dX4_alike_17 rfl (lv_at hl 1 rfl) ?_
      refine lv_iload_n hx hb dX4_alike_18 rfl (lv_at hl 2 rfl) ?_
      refine lv_iconst (v := (nI 0)) hx hb dX4_alike_19 (by decide) ?_
      refine vp_callSi (va_Run.run (va_runV (As := [.int (nI sN), .int (nI tN), .int (nI 0)]) (rest := []) ⟨hx, hb, hml, hown, hts⟩ (k_X4_comparison l D T M v as pa fi.2.2.1 (buF fi) fi.2.2.2.2 bi at0 sN tN (nI 0) (by omega) (by omega)) (cwV 3 hts gX4_alike_X4_comparison rfl rfl rfl (by decide +kernel) ⟨Nat.le_of_ble_eq_true rfl, Nat.le_of_ble_eq_true rfl⟩) (pre_V (Φ := fun X => MO D T X M v as pa fi.2.2.1 (buF fi) fi.2.2.2.2 bi at0) hK (hM.2.1) rfl hM) rfl rfl hl.1 rfl (lv_room (Nat.le_of_ble_eq_true rfl)) dX4_alike_20 ⟨Nat.le_of_ble_eq_true rfl, Nat.le_of_ble_eq_true rfl⟩)) (fun r_3 hr_3 => ?_)
      subst hr_3
      refine top_i (x' := (nI (jct 0 (bI v sN) (bI v tN)))) (if_pos rfl) ?_
      refine lv_istore (lv' := [(4, .int (nI (jct 0 (bI v sN) (bI v tN)))), (0, .ref (M 0)), (1, .int (nI sN)), (2, .int (nI tN)), (3, .int y)]) hx hb dX4_alike_23 hl (by decide) rfl (fun ls hl => ?_)
      refine lv_iload hx hb dX4_alike_25 (lv_at hl 0 rfl) ?_
      refine lv_aload_n hx hb dX4_alike_27 rfl (lv_at hl 1 rfl) ?_
      refine lv_iload_n hx hb dX4_alike_28 rfl (lv_at hl 2 rfl) ?_
      refine lv_iload_n hx hb dX4_alike_29 rfl (lv_at hl 3 rfl) ?_
      refine lv_iconst (v := (nI 1)) hx hb dX4_alike_30 (by decide) ?_
      refine vp_callSi (va_Run.run (va_runV (As := [.int (nI sN), .int (nI tN), .int (nI 1)]) (rest := [.int (nI (jct 0 (bI v sN) (bI v tN)))]) ⟨hx, hb, hml, hown, hts⟩ (k_X4_comparison l D T M v as pa fi.2.2.1 (buF fi) fi.2.2.2.2 bi at0 sN tN (nI 1) (by omega) (by omega)) (cwV 3 hts gX4_alike_X4_comparison rfl rfl rfl (by decide +kernel) ⟨Nat.le_of_ble_eq_true rfl, Nat.le_of_ble_eq_true rfl⟩) (pre_V (Φ := fun X => MO D T X M v as pa fi.2.2.1 (buF fi) fi.2.2.2.2 bi at0) hK (hM.2.1) rfl hM) rfl rfl hl.1 rfl (lv_room (Nat.le_of_ble_eq_true rfl)) dX4_alike_31 ⟨Nat.le_of_ble_eq_true rfl, Nat.le_of_ble_eq_true rfl⟩)) (fun r_4 hr_4 => ?_)
      subst hr_4
      refine top_i (x' := (nI (jct 2 (bI v sN) (bI v tN)))) ((if_neg (by decide)).trans (if_pos rfl)) ?_
      refine lv_iadd hx hb dX4_alike_34 ?_
      refine top_i (nI_add (jct 0 (bI v sN) (bI v tN)) (jct 2 (bI v sN) (bI v tN))) ?_
      refine top_i (x' := (nI (jct 1 (bI v sN) (bI v tN)))) (congrArg nI (all_both _ _)) ?_
      refine lv_istore (lv' := [(5, .int (nI (jct 1 (bI v sN) (bI v tN)))), (4, .int (nI (jct 0 (bI v sN) (bI v tN)))), (0, .ref (M 0)), (1, .int (nI sN)), (2, .int (nI tN)), (3, .int y)]) hx hb dX4_alike_35 hl (by decide) rfl (fun ls hl => ?_)
      have hj0 := jct_le 0 (bI v sN) (bI v tN)
      have hj1 := jct_le 1 (bI v sN) (bI v tN)
      have hab := all_both (bI v sN) (bI v tN)
      refine lv_iload hx hb dX4_alike_37 (lv_at hl 0 rfl) ?_
      refine lv_if_ne (tgt := 44) hx hb dX4_alike_39 (by decide) (fun c_3 => ?_) (fun c_3 => ?_)
      · skip
        have c_3 : ¬ ((jct 1 (bI v sN) (bI v tN)) = 0) := fun z => c_3 ((nI_e0 (a := (jct 1 (bI v sN) (bI v tN))) (by omega)).mpr z)
        refine lv_iload hx hb dX4_alike_44 (lv_at hl 1 rfl) ?_
        refine lv_istore (lv' := [(6, .int (nI (jct 0 (bI v sN) (bI v tN)))), (5, .int (nI (jct 1 (bI v sN) (bI v tN)))), (4, .int (nI (jct 0 (bI v sN) (bI v tN)))), (0, .ref (M 0)), (1, .int (nI sN)), (2, .int (nI tN)), (3, .int y)]) hx hb dX4_alike_46 hl (by decide) rfl (fun ls hl => ?_)
        refine lv_iload hx hb dX4_alike_48 (lv_at hl 1 rfl) ?_
        refine lv_istore (lv' := [(7, .int (nI (jct 1 (bI v sN) (bI v tN)))), (6, .int (nI (jct 0 (bI v sN) (bI v tN)))), (5, .int (nI (jct 1 (bI v sN) (bI v tN)))), (4, .int (nI (jct 0 (bI v sN) (bI v tN)))), (0, .ref (M 0)), (1, .int (nI sN)), (2, .int (nI tN)), (3, .int y)]) hx hb dX4_alike_50 hl (by decide) rfl (fun ls hl => ?_)
        have loop52 : ∀ (n52 : Nat) (g1 : Nat) (g2 : Nat) (hg1 : g1 < 5000) (hg2 : g2 < 5000) (hg : Nat.gcd g2 g1 = Nat.gcd (jct 1 (bI v sN) (bI v tN)) (jct 0 (bI v sN) (bI v tN))) (ls : Array Slot) (hl : lv_has ls 9 [(0, .ref (M 0)), (1, .int (nI sN)), (2, .int (nI tN)), (3, .int y), (4, .int (nI (jct 0 (bI v sN) (bI v tN)))), (5, .int (nI (jct 1 (bI v sN) (bI v tN)))), (6, .int (nI g1)), (7, .int (nI g2))]) (hn52 : g1 < n52), W pg l ev (headSpec wsX4_alike ({ frames := 3, cells := 0, slots := 0, locals := 77 })).room s m ([.ref (M 0), .int (nI sN), .int (nI tN), .int y] : List Value).toArray below meth c s.heap [] 0 0 Q (F0 m 52 ls []) := by
          intro n52
          induction n52 with
          | zero =>
            intro g1 g2 hg1 hg2 hg ls hl hn52
            exact absurd hn52 (Nat.not_lt_zero _)
          | succ n52 ih52 =>
            intro g1 g2 hg1 hg2 hg ls hl hn52
            refine lv_iload hx hb dX4_alike_52 (lv_at hl 6 rfl) ?_
            refine lv_if_eq (tgt := 75) hx hb dX4_alike_54 (by decide) (fun c_4 => ?_) (fun c_4 => ?_)
            · skip
              have c_4 : g1 = 0 := (nI_e0 (a := g1) (by omega)).mp c_4
              have hg0 : g2 = Nat.gcd (jct 1 (bI v sN) (bI v tN)) (jct 0 (bI v sN) (bI v tN)) := by rw [← hg, c_4, Nat.gcd_zero_right]
              have hgp : 0 < g2 := by rw [hg0]; exact Nat.gcd_pos_of_pos_left _ (by omega)
              refine lv_iload_n hx hb dX4_alike_75 rfl (lv_at hl 3 rfl) ?_
              refine lv_if_eq (tgt := 87) hx hb dX4_alike_76 (by decide) (fun c_5 => ?_) (fun c_5 => ?_)
              · skip
                refine lv_iload hx hb dX4_alike_87 (lv_at hl 4 rfl) ?_
                refine lv_iload hx hb dX4_alike_89 (lv_at hl 7 rfl) ?_
                refine lv_idiv hx hb dX4_alike_91 ((fun z => absurd ((nI_e0 (a := g2) (by omega)).mp z) (by omega))) ?_
                refine top_i (pk_div (a := jct 0 (bI v sN) (bI v tN)) (d := g2) (by omega) (by omega) (by omega)) ?_
                subst hQ
                refine W.iret (v := (nI ((jct 0 (bI v sN) (bI v tN)) / g2))) hx hb hr (fun t ht hW => ⟨(nI ((jct 0 (bI v sN) (bI v tN)) / g2)), rfl, ?_, ht⟩) (fun q h => absurd h List.not_mem_nil) dX4_alike_92
                unfold alkR
                rw [if_pos ⟨okN hsN (by decide), okN htN (by decide)⟩, cl_n (by omega), cl_n (by omega), ← jct_cong (o := 0) (hR0.1 _ hsN) (hR0.1 _ htN), ← jct_cong (o := 1) (hR0.1 _ hsN) (hR0.1 _ htN)]
                unfold alkV
                rw [← hg0, if_neg (show ¬ g2 = 0 by omega), if_pos c_5]
              · skip
                refine lv_iload hx hb dX4_alike_79 (lv_at hl 5 rfl) ?_
                refine lv_iload hx hb dX4_alike_81 (lv_at hl 7 rfl) ?_
                refine lv_idiv hx hb dX4_alike_83 ((fun z => absurd ((nI_e0 (a := g2) (by omega)).mp z) (by omega))) ?_
                refine top_i (pk_div (a := jct 1 (bI v sN) (bI v tN)) (d := g2) (by omega) (by omega) (by omega)) ?_
                refine lv_goto (tgt := 92) hx hb dX4_alike_84 (by decide) ?_
                subst hQ
                refine W.iret (v := (nI ((jct 1 (bI v sN) (bI v tN)) / g2))) hx hb hr (fun t ht hW => ⟨(nI ((jct 1 (bI v sN) (bI v tN)) / g2)), rfl, ?_, ht⟩) (fun q h => absurd h List.not_mem_nil) dX4_alike_92
                unfold alkR
                rw [if_pos ⟨okN hsN (by decide), okN htN (by decide)⟩, cl_n (by omega), cl_n (by omega), ← jct_cong (o := 0) (hR0.1 _ hsN) (hR0.1 _ htN), ← jct_cong (o := 1) (hR0.1 _ hsN) (hR0.1 _ htN)]
                unfold alkV
                rw [← hg0, if_neg (show ¬ g2 = 0 by omega), if_neg c_5]
            · skip
              have c_4 : ¬ (g1 = 0) := fun z => c_4 ((nI_e0 (a := g1) (by omega)).mpr z)
              refine lv_iload hx hb dX4_alike_57 (lv_at hl 7 rfl) ?_
              refine lv_iload hx hb dX4_alike_59 (lv_at hl 6 rfl) ?_
              refine lv_irem hx hb dX4_alike_61 ((fun z => absurd ((nI_e0 (a := g1) (by omega)).mp z) (by omega))) ?_
              refine top_i (pk_rem (a := g2) (d := g1) (by omega) (by omega) (by omega)) ?_
              refine lv_istore (lv' := [(8, .int (nI (g2 % g1))), (0, .ref (M 0)), (1, .int (nI sN)), (2, .int (nI tN)), (3, .int y), (4, .int (nI (jct 0 (bI v sN) (bI v tN)))), (5, .int (nI (jct 1 (bI v sN) (bI v tN)))), (6, .int (nI g1)), (7, .int (nI g2))]) hx hb dX4_alike_62 hl (by decide) rfl (fun ls hl => ?_)
              refine lv_iload hx hb dX4_alike_64 (lv_at hl 7 rfl) ?_
              refine lv_istore (lv' := [(7, .int (nI g1)), (8, .int (nI (g2 % g1))), (0, .ref (M 0)), (1, .int (nI sN)), (2, .int (nI tN)), (3, .int y), (4, .int (nI (jct 0 (bI v sN) (bI v tN)))), (5, .int (nI (jct 1 (bI v sN) (bI v tN)))), (6, .int (nI g1))]) hx hb dX4_alike_66 hl (by decide) rfl (fun ls hl => ?_)
              refine lv_iload hx hb dX4_alike_68 (lv_at hl 1 rfl) ?_
              refine lv_istore (lv' := [(6, .int (nI (g2 % g1))), (7, .int (nI g1)), (8, .int (nI (g2 % g1))), (0, .ref (M 0)), (1, .int (nI sN)), (2, .int (nI tN)), (3, .int y), (4, .int (nI (jct 0 (bI v sN) (bI v tN)))), (5, .int (nI (jct 1 (bI v sN) (bI v tN))))]) hx hb dX4_alike_70 hl (by decide) rfl (fun ls hl => ?_)
              refine lv_goto (tgt := 52) hx hb dX4_alike_72 (by decide) ?_
              have hml := Nat.mod_lt g2 (show 0 < g1 by omega)
              have hl := lv_sub hl (l' := [(0, .ref (M 0)), (1, .int (nI sN)), (2, .int (nI tN)), (3, .int y), (4, .int (nI (jct 0 (bI v sN) (bI v tN)))), (5, .int (nI (jct 1 (bI v sN) (bI v tN)))), (6, .int (nI (g2 % g1))), (7, .int (nI g1))]) [3, 4, 5, 6, 7, 8, 0, 1] rfl
              exact ih52 (g2 % g1) g1 (by have h9 := Nat.mod_lt g2 (show 0 < g1 by omega); omega) (hg1) (by rw [← hg, Nat.gcd_comm g1 (g2 % g1), ← Nat.gcd_rec, Nat.gcd_comm]) ls hl (by omega)
        have hl := lv_sub hl (l' := [(0, .ref (M 0)), (1, .int (nI sN)), (2, .int (nI tN)), (3, .int y), (4, .int (nI (jct 0 (bI v sN) (bI v tN)))), (5, .int (nI (jct 1 (bI v sN) (bI v tN)))), (6, .int (nI (jct 0 (bI v sN) (bI v tN)))), (7, .int (nI (jct 1 (bI v sN) (bI v tN))))]) [4, 5, 6, 7, 3, 2, 1, 0] rfl
        exact loop52 ((jct 0 (bI v sN) (bI v tN)) + 1) (jct 0 (bI v sN) (bI v tN)) (jct 1 (bI v sN) (bI v tN)) (by omega) (by omega) (rfl) ls hl (Nat.lt_succ_self _)
      · skip
        have c_3 : (jct 1 (bI v sN) (bI v tN)) = 0 := (nI_e0 (a := (jct 1 (bI v sN) (bI v tN))) (by omega)).mp c_3
        refine lv_iconst (v := (nI 1)) hx hb dX4_alike_42 (by decide) ?_
        subst hQ
        refine W.iret (v := (nI 1)) hx hb hr (fun t ht hW => ⟨(nI 1), rfl, ?_, ht⟩) (fun q h => absurd h List.not_mem_nil) dX4_alike_43
        unfold alkR
        rw [if_pos ⟨okN hsN (by decide), okN htN (by decide)⟩, cl_n (by omega), cl_n (by omega), ← jct_cong (o := 0) (hR0.1 _ hsN) (hR0.1 _ htN), ← jct_cong (o := 1) (hR0.1 _ hsN) (hR0.1 _ htN)]
        unfold alkV
        rw [if_pos (by rw [show jct 1 (bI v sN) (bI v tN) = 0 by omega, show jct 0 (bI v sN) (bI v tN) = 0 by omega]; rfl)]
        exact rfl
    · skip
      have c_2 : (decide (¬ tt < 0 ∧ tt < nI 6)) = false := b2i_0.mp c_2
      have c_2 : ¬ (¬ tt < 0 ∧ tt < nI 6) := of_decide_eq_false c_2
      refine lv_iconst (v := (-1)) hx hb dX4_alike_14 (by decide) ?_
      subst hQ
      refine W.iret (v := (-1)) hx hb hr (fun t ht hW => ⟨(-1), rfl, ?_, ht⟩) (fun q h => absurd h List.not_mem_nil) dX4_alike_15
      first | exact (if_neg (fun z => c_1 z.1)).symm | exact (if_neg (fun z => c_2 z.2)).symm
