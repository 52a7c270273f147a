/-! THE CLAIM OUT OF ONE WALK OF THE LAW'S BODY. Your part is whole_start (and what it stands on); all else here is the same for every law, but numbers. -/
def R_law : String := "PieceSetsLaw"
def lw_P (b : Addr) (xs : List Int32) (args : Array Value) (s : State) : Prop := args = #[.ref b] ∧ s.IntsAt b xs ∧ xs.length ≤ 260 ∧ (Jvm.Cond.and given_1 narrow_1).before args s = true
def lw_Q (_ : Array Value) (s : State) (o : Outcome) (t : State) : Prop := o = .returned (some (.int 1)) ∧ Framed s o t [] 600000 7302250
def lw_Z (below : List Frame) (a : Array Value) (s : State) : State → Prop := fun t => ∃ o, t.status = .running ∧ Ended t below o ∧ lw_Q a s o t
/-- the law's own end, with 1 on the stack, nothing written that was there before, its room as the claim has it -/
theorem lw_ret {p : Program} {l : Launch} {e : Env} {s : State} {m : MethodId} {below : List Frame} {meth : Method} {c : Code} {b : Nat} (hx : p.tables.exec = Jvm.exec) (hb : c.code = code) (hr : meth.sig.returnType = ret) (hlocks : meth.locks = false) {pc : Nat} {H : Heap} {ls : Array Slot} (hdg : decode code pc = .ok (.ireturn, 1)) : W p l e room_1 s m #[Value.ref b] below meth c H [] 600000 7302250 (lw_Z below #[Value.ref b] s) (F0 m pc ls [.int 1]) := by
  intro T hT X
  obtain ⟨fs, hret, hrun, hended, hW, hframe⟩ := X.leave (v := some (.int 1)) (hlocks := hlocks) (fun h => by rw [hr] at h; cases h)
  have hmeth' : T.vm.method? m = some meth := X.method'
  refine ⟨T.setFrames fs, ?_, .returned (some (.int 1)), hrun, hended, rfl, ⟨_, rfl⟩, hW, hframe⟩
  jvm_step X.here [X.here.top, hx, hb, hdg, hmeth', hr, ret, narrow_b1]
  (try refine ⟨rfl, ?_⟩); (try refine ⟨rfl, ?_⟩)
  first | (intro acts; rw [hret _ acts rfl rfl rfl]) | rw [hret _ _ rfl rfl rfl]
  exact Steps.refl _
/-- what holds at the law's entry: the machine, the code, the tables' words (any of lw_tbl by 'hts w (by decide +kernel)'), the script of L ints xs at the cell b, what the Statement gives of the start (any of its parts by flat_of_before) -/
def lw_At (p : Program) (s : State) (m : MethodId) (meth : Method) (c : Code) (b L : Nat) (xs : Nat → Int32) : Prop :=
  p.tables.exec = Jvm.exec ∧ c.code = code ∧ meth.sig.returnType = ret ∧ c.maxLocals = 17 ∧ s.vm.findClass R_law = some m.cls ∧ (∀ w ∈ lw_tbl, w.before #[Value.ref b] s = true) ∧ va_X b L xs s s.heap ∧ b < s.heap.size ∧ meth.locks = false ∧ (Jvm.Cond.and given_1 narrow_1).before #[Value.ref b] s = true
set_option maxHeartbeats 4000000 in
set_option maxRecDepth 100000 in
theorem law_start {p : Program} {l : Launch} {e : Env} {s : State} {m : MethodId} {below : List Frame} {meth : Method} {c : Code} {b L : Nat} {xs : Nat → Int32} (hL : L ≤ 260) (C0 : lw_At p s m meth c b L xs) : W p l e room_1 s m #[Value.ref b] below meth c s.heap [] 0 0 (lw_Z below #[Value.ref b] s) (entryFrame m ([Value.ref b] : List Value).toArray 17) := by
  obtain ⟨hx, hb, hr, hml, hown, hts, hX, hbl, hlocks, hgv⟩ := id C0
  obtain ⟨D, T, hKA⟩ := KA_of hts
  have hK := hKA.1
  have hts := fun w h => hts w (wsL_law_in w h)
  have hown : s.vm.findClass RL = some m.cls := hown
  obtain ⟨Sx, hSx⟩ : ∃ Sx : Nat → Prop, Sx = (fun q => s.heap.size ≤ q) := ⟨_, rfl⟩
  have hbA : ¬ Sx b := by rw [hSx]; exact Nat.not_le.mpr hbl
  have hS : va_S Sx s.heap s.heap [] := va_S.rf
  have in_wsX30 := inlX3
  have hl := lv_entry ([.ref b]) (n := 17) (Nat.le_of_ble_eq_true rfl)
  rw [lg_entry_eq]
  generalize (lg_sl ([.ref b]) ++ List.replicate (17 - (lg_sl ([.ref b])).length) Slot.unset).toArray = ls at hl ⊢
  have hl : lv_has ls 17 [(0, .ref b)] := hl
  refine W_gen (fun Q hQ => ?_)
  refine r_newo (ci := 3) (C := RX3) (Tb := TX3) (N := 5) (fs := [.null, .null, .int 0, .null, .null]) hx hb hts in_wsX30 tyX3 tyX3_ok hown (hts (.classLink RL 10 RX3) (by decide +kernel)) (hts (.instantiable RX3 5) (by decide +kernel)) (hts (.initialized RX3) (by decide +kernel)) hK hS rfl (fun j hj => by rcases (show j = 0 ∨ j = 1 ∨ j = 2 ∨ j = 3 ∨ j = 4 by omega) with rfl | rfl | rfl | rfl | rfl <;> rfl) (show 0 + 1 ≤ 600000 by omega) (show 0 + 5 ≤ 7302250 by omega) dL_law_0 (fun q_1 H_1 hq_1 hat hz9 hF9 hS => ?_)
  refine W.widen (k := 1) (n := 5) (by omega) (by omega) ?_
  have hO := hat
  refine lv_dup hx hb dL_law_3 rfl ?_
  refine va_callv (va_runI (As := []) (rest := [.ref q_1]) ⟨hx, hb, hml, hown, hts⟩ (k_X3_init l D T q_1 H_1.size ) (cwI 0 hts ggL_law_X3_init rfl rfl rfl (hts (.initialized RX3) (by decide +kernel)) (hts (.methodLink RL 98 yX3_init) (by decide +kernel)) (hts (.instanceMethod yX3_init) (by decide +kernel)) rfl (by decide +kernel) ⟨Nat.le_of_ble_eq_true rfl, Nat.le_of_ble_eq_true rfl⟩) (pre_A (Φ := fun X => X.size = H_1.size ∧ va_at D vwCl (q_1, .inr (3, [.null, .null, .int 0, .null, .null])) X) hKA ⟨rfl, hO⟩) rfl rfl hl.1 rfl (lv_room (Nat.le_of_ble_eq_true rfl)) dL_law_4 ⟨show 1 + 101 ≤ 600000 by omega, show 5 + 2774 ≤ 7302250 by omega⟩) hS (fun q h1 (h2 : q = q_1 ∨ H_1.size ≤ q) => (by rw [hSx]; show s.heap.size ≤ q; omega)) (fun (q : Nat) (h2 : q = q_1 ∨ H_1.size ≤ q) => (by rw [hSx]; show s.heap.size ≤ q; omega)) (fun u_1 t H_2 locs ht hvm hw hB hz hk hS => ?_)
  rw [ht] at hB
  refine W.widen (k := 102) (n := 2779) (by omega) (by omega) ?_
  try dsimp only at hw
  try dsimp only at hB
  obtain ⟨A, hA0, hge, hlt, hPr⟩ := hB
  have hP : PO D T H_2 q_1 Sx fi0 := ⟨A, hA0, PSE_0 hPr (fun i hi => by rw [hSx]; show s.heap.size ≤ A i; by_cases h : i = 0; rw [h, hA0]; omega; have h9 := hge i (by omega) hi; omega)⟩
  refine lv_astore_n (lv' := [(1, .ref q_1), (0, .ref b)]) hx hb dL_law_7 rfl hl (by decide) rfl (fun ls hl => ?_)
  refine lv_aload_n hx hb dL_law_8 rfl (lv_at hl 0 rfl) ?_
  refine va_calli (va_runV (As := []) (rest := []) ⟨hx, hb, hml, hown, hts⟩ (k_X3_undo_o l D T q_1 Sx fi0 ) (cwV 0 hts gL_law_X3_undo rfl rfl rfl (by decide +kernel) ⟨Nat.le_of_ble_eq_true rfl, Nat.le_of_ble_eq_true rfl⟩) (pre_V (Φ := fun X => PO D T X q_1 Sx fi0) hK ((PO.recv hP).choose_spec) rfl hP) rfl rfl hl.1 rfl (lv_room (Nat.le_of_ble_eq_true rfl)) dL_law_9 ⟨Nat.le_of_ble_eq_true rfl, Nat.le_of_ble_eq_true rfl⟩) hS (fun q _ h => h) (fun q h => h) (fun r_2 u_2 t H_3 locs ht hvm hw hB hz hk hS => ?_)
  rw [ht] at hB
  try dsimp only at hw
  try dsimp only at hB
  subst hw
  have hP := hB
  rw [s0_undN] at hP
  refine top_i (x' := (-9)) (s0_und) ?_
  refine lv_bipush (v := (-9)) hx hb dL_law_12 (by decide) ?_
  refine lv_icmp_ne (tgt := 85) hx hb dL_law_14 (by decide) (fun c_1 => ?_) (fun c_1 => ?_)
  · skip
    exact absurd rfl c_1
  · skip
    refine lv_aload_n hx hb dL_law_17 rfl (lv_at hl 0 rfl) ?_
    refine lv_iconst (v := (nI 0)) hx hb dL_law_18 (by decide) ?_
    refine vp_callSi (va_Run.run (va_runV (As := [.int (nI 0)]) (rest := []) ⟨hx, hb, hml, hown, hts⟩ (k_X3_size_o l D T q_1 Sx fi0 (nI 0) ) (cwV 1 hts gL_law_X3_size rfl rfl rfl (by decide +kernel) ⟨Nat.le_of_ble_eq_true rfl, Nat.le_of_ble_eq_true rfl⟩) (pre_V (Φ := fun X => PO D T X q_1 Sx fi0) hK ((PO.recv hP).choose_spec) rfl hP) rfl rfl hl.1 rfl (lv_room (Nat.le_of_ble_eq_true rfl)) dL_law_19 ⟨Nat.le_of_ble_eq_true rfl, Nat.le_of_ble_eq_true rfl⟩)) (fun r_3 hr_3 => ?_)
    subst hr_3
    refine top_i (x' := (nI 0)) (s0_siz) ?_
    refine lv_if_ne (tgt := 85) hx hb dL_law_22 (by decide) (fun c_2 => ?_) (fun c_2 => ?_)
    · skip
      exact absurd (by decide) c_2
    · skip
      refine lv_aload_n hx hb dL_law_25 rfl (lv_at hl 0 rfl) ?_
      refine lv_iconst (v := (nI 5)) hx hb dL_law_26 (by decide) ?_
      refine vp_callSi (va_Run.run (va_runV (As := [.int (nI 5)]) (rest := []) ⟨hx, hb, hml, hown, hts⟩ (k_X3_bytes_o l D T q_1 Sx fi0 (nI 5) ) (cwV 1 hts gL_law_X3_bytes rfl rfl rfl (by decide +kernel) ⟨Nat.le_of_ble_eq_true rfl, Nat.le_of_ble_eq_true rfl⟩) (pre_V (Φ := fun X => PO D T X q_1 Sx fi0) hK ((PO.recv hP).choose_spec) rfl hP) rfl rfl hl.1 rfl (lv_room (Nat.le_of_ble_eq_true rfl)) dL_law_27 ⟨Nat.le_of_ble_eq_true rfl, Nat.le_of_ble_eq_true rfl⟩)) (fun r_4 hr_4 => ?_)
      subst hr_4
      refine top_i (x' := (nI 0)) (s0_byt) ?_
      refine lv_if_ne (tgt := 85) hx hb dL_law_30 (by decide) (fun c_3 => ?_) (fun c_3 => ?_)
      · skip
        exact absurd (by decide) c_3
      · skip
        refine lv_aload_n hx hb dL_law_33 rfl (lv_at hl 0 rfl) ?_
        refine lv_iconst (v := (nI 1)) hx hb dL_law_34 (by decide) ?_
        refine vp_callSi (va_Run.run (va_runV (As := [.int (nI 1)]) (rest := []) ⟨hx, hb, hml, hown, hts⟩ (k_X3_runs_o l D T q_1 Sx fi0 (nI 1) ) (cwV 1 hts gL_law_X3_runs rfl rfl rfl (by decide +kernel) ⟨Nat.le_of_ble_eq_true rfl, Nat.le_of_ble_eq_true rfl⟩) (pre_V (Φ := fun X => PO D T X q_1 Sx fi0) hK ((PO.recv hP).choose_spec) rfl hP) rfl rfl hl.1 rfl (lv_room (Nat.le_of_ble_eq_true rfl)) dL_law_35 ⟨Nat.le_of_ble_eq_true rfl, Nat.le_of_ble_eq_true rfl⟩)) (fun r_5 hr_5 => ?_)
        subst hr_5
        refine top_i (x' := (nI 0)) (s0_rus) ?_
        refine lv_if_ne (tgt := 85) hx hb dL_law_38 (by decide) (fun c_4 => ?_) (fun c_4 => ?_)
        · skip
          exact absurd (by decide) c_4
        · skip
          refine lv_aload_n hx hb dL_law_41 rfl (lv_at hl 0 rfl) ?_
          refine lv_iconst (v := (nI 0)) hx hb dL_law_42 (by decide) ?_
          refine lv_iconst (v := (nI 1)) hx hb dL_law_43 (by decide) ?_
          refine lv_iconst (v := (nI 0)) hx hb dL_law_44 (by decide) ?_
          refine va_calli (va_runV (As := [.int (nI 0), .int (nI 1), .int (nI 0)]) (rest := []) ⟨hx, hb, hml, hown, hts⟩ (k_X3_alike_o l D T q_1 Sx fi0 (nI 0) (nI 1) (nI 0) ) (cwV 3 hts gL_law_X3_alike rfl rfl rfl (by decide +kernel) ⟨Nat.le_of_ble_eq_true rfl, Nat.le_of_ble_eq_true rfl⟩) (pre_V (Φ := fun X => PO D T X q_1 Sx fi0) hK ((PO.recv hP).choose_spec) rfl hP) rfl rfl hl.1 rfl (lv_room (Nat.le_of_ble_eq_true rfl)) dL_law_45 ⟨Nat.le_of_ble_eq_true rfl, Nat.le_of_ble_eq_true rfl⟩) hS (fun q _ h => h) (fun q h => h) (fun r_6 u_3 t H_4 locs ht hvm hw hB hz hk hS => ?_)
          rw [ht] at hB
          try dsimp only at hw
          try dsimp only at hB
          subst hw
          have hP := hB
          refine top_i (x' := (nI 1)) (s0_alk _) ?_
          refine lv_iconst (v := (nI 1)) hx hb dL_law_48 (by decide) ?_
          refine lv_icmp_ne (tgt := 85) hx hb dL_law_49 (by decide) (fun c_5 => ?_) (fun c_5 => ?_)
          · skip
            exact absurd rfl c_5
          · skip
            refine lv_aload_n hx hb dL_law_52 rfl (lv_at hl 0 rfl) ?_
            refine lv_iconst (v := (nI 0)) hx hb dL_law_53 (by decide) ?_
            refine lv_iconst (v := (nI 1)) hx hb dL_law_54 (by decide) ?_
            refine lv_iconst (v := (nI 1)) hx hb dL_law_55 (by decide) ?_
            refine va_calli (va_runV (As := [.int (nI 0), .int (nI 1), .int (nI 1)]) (rest := []) ⟨hx, hb, hml, hown, hts⟩ (k_X3_alike_o l D T q_1 Sx fi0 (nI 0) (nI 1) (nI 1) ) (cwV 3 hts gL_law_X3_alike rfl rfl rfl (by decide +kernel) ⟨Nat.le_of_ble_eq_true rfl, Nat.le_of_ble_eq_true rfl⟩) (pre_V (Φ := fun X => PO D T X q_1 Sx fi0) hK ((PO.recv hP).choose_spec) rfl hP) rfl rfl hl.1 rfl (lv_room (Nat.le_of_ble_eq_true rfl)) dL_law_56 ⟨Nat.le_of_ble_eq_true rfl, Nat.le_of_ble_eq_true rfl⟩) hS (fun q _ h => h) (fun q h => h) (fun r_7 u_4 t H_5 locs ht hvm hw hB hz hk hS => ?_)
            rw [ht] at hB
            try dsimp only at hw
            try dsimp only at hB
            subst hw
            have hP := hB
            refine top_i (x' := (nI 1)) (s0_alk _) ?_
            refine lv_iconst (v := (nI 1)) hx hb dL_law_59 (by decide) ?_
            refine lv_icmp_ne (tgt := 85) hx hb dL_law_60 (by decide) (fun c_6 => ?_) (fun c_6 => ?_)
            · skip
              exact absurd rfl c_6
            · skip
              refine lv_aload_n hx hb dL_law_63 rfl (lv_at hl 0 rfl) ?_
              refine lv_iconst (v := (nI 2)) hx hb dL_law_64 (by decide) ?_
              refine va_calli (va_runV (As := [.int (nI 2)]) (rest := []) ⟨hx, hb, hml, hown, hts⟩ (k_X3_read_o l D T q_1 Sx fi0 (nI 2) ) (cwV 1 hts gL_law_X3_read rfl rfl rfl (by decide +kernel) ⟨Nat.le_of_ble_eq_true rfl, Nat.le_of_ble_eq_true rfl⟩) (pre_V (Φ := fun X => PO D T X q_1 Sx fi0) hK ((PO.recv hP).choose_spec) rfl hP) rfl rfl hl.1 rfl (lv_room (Nat.le_of_ble_eq_true rfl)) dL_law_65 ⟨Nat.le_of_ble_eq_true rfl, Nat.le_of_ble_eq_true rfl⟩) hS (fun q _ h => h) (fun q h => h) (fun r_8 u_5 t H_6 locs ht hvm hw hB hz hk hS => ?_)
              rw [ht] at hB
              try dsimp only at hw
              try dsimp only at hB
              subst hw
              have hP := hB
              refine top_i (x' := (nI 0)) (s0_rea.1) ?_
              refine lv_if_ne (tgt := 85) hx hb dL_law_68 (by decide) (fun c_7 => ?_) (fun c_7 => ?_)
              · skip
                exact absurd (by decide) c_7
              · skip
                refine lv_aload_n hx hb dL_law_71 rfl (lv_at hl 0 rfl) ?_
                refine va_calli (va_runV (As := []) (rest := []) ⟨hx, hb, hml, hown, hts⟩ (k_X3_undo_o l D T q_1 Sx (reaN fi0 (nI 2)) ) (cwV 0 hts gL_law_X3_undo rfl rfl rfl (by decide +kernel) ⟨Nat.le_of_ble_eq_true rfl, Nat.le_of_ble_eq_true rfl⟩) (pre_V (Φ := fun X => PO D T X q_1 Sx (reaN fi0 (nI 2))) hK ((PO.recv hP).choose_spec) rfl hP) rfl rfl hl.1 rfl (lv_room (Nat.le_of_ble_eq_true rfl)) dL_law_72 ⟨Nat.le_of_ble_eq_true rfl, Nat.le_of_ble_eq_true rfl⟩) hS (fun q _ h => h) (fun q h => h) (fun r_9 u_6 t H_7 locs ht hvm hw hB hz hk hS => ?_)
                rw [ht] at hB
                try dsimp only at hw
                try dsimp only at hB
                subst hw
                have hP := hB
                obtain ⟨f1, hf1⟩ : ∃ g9, g9 = undN (reaN fi0 (nI 2)) := ⟨_, rfl⟩
                rw [← hf1] at hP
                have hb1 : f1.2.2.2.2 = 0 := by rw [hf1]; exact s0_rea.2.2
                refine top_i (x' := (nI 0)) (s0_rea.2.1) ?_
                refine lv_if_ne (tgt := 85) hx hb dL_law_75 (by decide) (fun c_8 => ?_) (fun c_8 => ?_)
                · skip
                  exact absurd (by decide) c_8
                · skip
                  refine lv_aload_n hx hb dL_law_78 rfl (lv_at hl 0 rfl) ?_
                  refine va_calli (va_runS (As := [.ref q_1]) (rest := []) ⟨hx, hb, hml, hown, hts⟩ (k_L_fails l D T q_1 Sx f1 ) (va_cwS 1 hts gL_law_L_fails rfl rfl rfl (by decide +kernel) ⟨Nat.le_of_ble_eq_true rfl, Nat.le_of_ble_eq_true rfl⟩) (pre_S (Φ := fun X => PO D T X q_1 Sx f1) hK hP) rfl rfl hl.1 rfl (lv_room (Nat.le_of_ble_eq_true rfl)) dL_law_79 ⟨Nat.le_of_ble_eq_true rfl, Nat.le_of_ble_eq_true rfl⟩) hS (fun q _ h => h) (fun q h => h) (fun r_10 u_7 t H_8 locs ht hvm hw hB hz hk hS => ?_)
                  rw [ht] at hB
                  try dsimp only at hw
                  try dsimp only at hB
                  subst hw
                  have hP := hB
                  refine lv_if_ne (tgt := 87) hx hb dL_law_82 (by decide) (fun c_9 => ?_) (fun c_9 => ?_)
                  · skip
                    refine lv_iconst (v := (nI 0)) hx hb dL_law_87 (by decide) ?_
                    refine lv_istore_n (lv' := [(2, .int (nI 0)), (1, .ref q_1), (0, .ref b)]) hx hb dL_law_88 rfl hl (by decide) rfl (fun ls hl => ?_)
                    have loop89 : ∀ (n89 : Nat) (k : Nat) (fk : FS) (hk : k ≤ 18) (hbl2 : fk.2.2.2.2 = 0) (H : Heap) (locs : List Loc) (hP : PO D T H q_1 Sx fk) (hS : va_S Sx s.heap H locs) (ls : Array Slot) (hl : lv_has ls 17 [(0, .ref b), (1, .ref q_1), (2, .int (nI k))]) (hn89 : 18 - k < n89), W p l e room_1 s m #[Value.ref b] below meth c H locs 102 2779 Q (F0 m 89 ls []) := by
                      intro n89
                      induction n89 with
                      | zero =>
                        intro k fk hk hbl2 H locs hP hS ls hl hn89
                        exact absurd hn89 (Nat.not_lt_zero _)
                      | succ n89 ih89 =>
                        intro k fk hk hbl2 H locs hP hS ls hl hn89
                        refine lv_iload_n hx hb dL_law_89 rfl (lv_at hl 2 rfl) ?_
                        refine lv_bipush (v := (nI 18)) hx hb dL_law_90 (by decide) ?_
                        refine lv_icmp_ge (tgt := 701) hx hb dL_law_92 (by decide) (fun c_10 => ?_) (fun c_10 => ?_)
                        · skip
                          have c_10 : 18 ≤ k := (nI_leI (a := 18) (b := k) (by omega) (by omega)).mp c_10
                          refine lv_aload_n hx hb dL_law_701 rfl (lv_at hl 1 rfl) ?_
                          refine va_calli (va_runV (As := []) (rest := []) ⟨hx, hb, hml, hown, hts⟩ (k_X3_clear_o l D T q_1 Sx fk ) (cwV 0 hts gL_law_X3_clear rfl rfl rfl (by decide +kernel) ⟨Nat.le_of_ble_eq_true rfl, Nat.le_of_ble_eq_true rfl⟩) (pre_V (Φ := fun X => PO D T X q_1 Sx fk) hK ((PO.recv hP).choose_spec) rfl hP) rfl rfl hl.1 rfl (lv_room (Nat.le_of_ble_eq_true rfl)) dL_law_702 ⟨Nat.le_of_ble_eq_true rfl, Nat.le_of_ble_eq_true rfl⟩) hS (fun q _ h => h) (fun q h => h) (fun r_11 u_8 t H_9 locs ht hvm hw hB hz hk hS => ?_)
                          rw [ht] at hB
                          try dsimp only at hw
                          try dsimp only at hB
                          subst hw
                          have hP := hB
                          refine top_i (x' := (nI 0)) (congrArg nI hbl2) ?_
                          refine lv_if_lt (tgt := 719) hx hb dL_law_705 (by decide) (fun c_11 => ?_) (fun c_11 => ?_)
                          · skip
                            exact absurd c_11 (nI_pos (n := 0) (by omega))
                          · skip
                            refine lv_aload_n hx hb dL_law_708 rfl (lv_at hl 1 rfl) ?_
                            refine va_calli (va_runS (As := [.ref q_1]) (rest := []) ⟨hx, hb, hml, hown, hts⟩ (k_L_fails l D T q_1 Sx (cleN fk) ) (va_cwS 1 hts gL_law_L_fails rfl rfl rfl (by decide +kernel) ⟨Nat.le_of_ble_eq_true rfl, Nat.le_of_ble_eq_true rfl⟩) (pre_S (Φ := fun X => PO D T X q_1 Sx (cleN fk)) hK hP) rfl rfl hl.1 rfl (lv_room (Nat.le_of_ble_eq_true rfl)) dL_law_709 ⟨Nat.le_of_ble_eq_true rfl, Nat.le_of_ble_eq_true rfl⟩) hS (fun q _ h => h) (fun q h => h) (fun r_12 u_9 t H_10 locs ht hvm hw hB hz hk hS => ?_)
                            rw [ht] at hB
                            try dsimp only at hw
                            try dsimp only at hB
                            subst hw
                            have hP := hB
                            refine lv_if_eq (tgt := 719) hx hb dL_law_712 (by decide) (fun c_12 => ?_) (fun c_12 => ?_)
                            · skip
                              exact absurd c_12 (by decide)
                            · skip
                              refine lv_iconst (v := (nI 1)) hx hb dL_law_715 (by decide) ?_
                              refine lv_goto (tgt := 720) hx hb dL_law_716 (by decide) ?_
                              refine top_i (x' := 1) rfl ?_
                              subst hQ
                              refine va_forget (fun q hq => by have h9 := hS.2.2 q hq; rw [hSx] at h9; exact h9) ?_
                              refine W.widen (k := 600000) (n := 7302250) (by omega) (by omega) ?_
                              exact lw_ret hx hb hr hlocks dL_law_720
                        · skip
                          have c_10 : ¬ (18 ≤ k) := fun z => c_10 ((nI_leI (a := 18) (b := k) (by omega) (by omega)).mpr z)
                          refine lv_aload_n hx hb dL_law_95 rfl (lv_at hl 0 rfl) ?_
                          refine lv_iconst (v := (nI 2)) hx hb dL_law_96 (by decide) ?_
                          refine lv_iload_n hx hb dL_law_97 rfl (lv_at hl 2 rfl) ?_
                          refine lv_imul hx hb dL_law_98 ?_
                          refine top_i (pk_mul 2 k) ?_
                          refine vp_callSi (va_Run.run (va_runS (As := [.ref b, .int (nI (2 * k))]) (rest := []) ⟨hx, hb, hml, hown, hts⟩ (k_L_cell l D T b L xs (2 * k) (by omega) (by omega)) (va_cwS 2 hts gL_law_L_cell rfl rfl rfl (by decide +kernel) ⟨Nat.le_of_ble_eq_true rfl, Nat.le_of_ble_eq_true rfl⟩) (pre_X hK (hX.kept (hS.2.1 b hbl hbA))) rfl rfl hl.1 rfl (lv_room (Nat.le_of_ble_eq_true rfl)) dL_law_99 ⟨Nat.le_of_ble_eq_true rfl, Nat.le_of_ble_eq_true rfl⟩)) (fun r_11 hr_11 => ?_)
                          obtain ⟨cq, hcq⟩ : ∃ y9 : Int32, y9 = r_11 := ⟨_, rfl⟩
                          subst hcq
                          refine lv_istore_n (lv' := [(3, .int cq), (0, .ref b), (1, .ref q_1), (2, .int (nI k))]) hx hb dL_law_102 rfl hl (by decide) rfl (fun ls hl => ?_)
                          refine lv_aload_n hx hb dL_law_103 rfl (lv_at hl 1 rfl) ?_
                          refine lv_iconst (v := (nI 2)) hx hb dL_law_104 (by decide) ?_
                          refine lv_iload_n hx hb dL_law_105 rfl (lv_at hl 3 rfl) ?_
                          refine lv_imul hx hb dL_law_106 ?_
                          refine top_i (pk_mul 2 k) ?_
                          refine lv_iconst (v := (nI 1)) hx hb dL_law_107 (by decide) ?_
                          refine lv_iadd hx hb dL_law_108 ?_
                          refine top_i (nI_add (2 * k) 1) ?_
                          refine vp_callSi (va_Run.run (va_runS (As := [.ref b, .int (nI ((2 * k) + 1))]) (rest := []) ⟨hx, hb, hml, hown, hts⟩ (k_L_cell l D T b L xs ((2 * k) + 1) (by omega) (by omega)) (va_cwS 2 hts gL_law_L_cell rfl rfl rfl (by decide +kernel) ⟨Nat.le_of_ble_eq_true rfl, Nat.le_of_ble_eq_true rfl⟩) (pre_X hK (hX.kept (hS.2.1 b hbl hbA))) rfl rfl hl.1 rfl (lv_room (Nat.le_of_ble_eq_true rfl)) dL_law_109 ⟨Nat.le_of_ble_eq_true rfl, Nat.le_of_ble_eq_true rfl⟩)) (fun r_12 hr_12 => ?_)
                          obtain ⟨cp, hcp⟩ : ∃ y9 : Int32, y9 = r_12 := ⟨_, rfl⟩
                          subst hcp
                          refine lv_istore (lv' := [(4, .int cp), (3, .int cq), (0, .ref b), (1, .ref q_1), (2, .int (nI k))]) hx hb dL_law_112 hl (by decide) rfl (fun ls hl => ?_)
                          refine lv_iload_n hx hb dL_law_114 rfl (lv_at hl 1 rfl) ?_
                          refine lv_iconst (v := (nI 4)) hx hb dL_law_115 (by decide) ?_
                          refine lv_ishr hx hb dL_law_116 ?_
                          refine top_i (x' := (shrI cq (nI 4))) rfl ?_
                          refine lv_bipush (v := (nI 6)) hx hb dL_law_117 (by decide) ?_
                          refine vp_callSi (va_Run.run (va_runS (As := [.int (shrI cq (nI 4)), .int (nI 6)]) (rest := []) ⟨hx, hb, hml, hown, hts⟩ (k_L_up l D T (shrI cq (nI 4)) 6 (by decide) (by decide)) (va_cwS 2 hts gL_law_L_up rfl rfl rfl (by decide +kernel) ⟨Nat.le_of_ble_eq_true rfl, Nat.le_of_ble_eq_true rfl⟩) (pre_S (Φ := fun X => True) hK trivial) rfl rfl hl.1 rfl (lv_room (Nat.le_of_ble_eq_true rfl)) dL_law_119 ⟨Nat.le_of_ble_eq_true rfl, Nat.le_of_ble_eq_true rfl⟩)) (fun r_13 hr_13 => ?_)
                          obtain ⟨a, ha, rfl⟩ := hr_13
                          refine lv_istore (lv' := [(5, .int (nI a)), (4, .int cp), (3, .int cq), (0, .ref b), (1, .ref q_1), (2, .int (nI k))]) hx hb dL_law_122 hl (by decide) rfl (fun ls hl => ?_)
                          refine lv_iload_n hx hb dL_law_124 rfl (lv_at hl 2 rfl) ?_
                          refine lv_bipush (v := (nI 8)) hx hb dL_law_125 (by decide) ?_
                          refine lv_ishr hx hb dL_law_127 ?_
                          refine top_i (x' := (shrI cq (nI 8))) rfl ?_
                          refine lv_bipush (v := (nI 6)) hx hb dL_law_128 (by decide) ?_
                          refine vp_callSi (va_Run.run (va_runS (As := [.int (shrI cq (nI 8)), .int (nI 6)]) (rest := []) ⟨hx, hb, hml, hown, hts⟩ (k_L_up l D T (shrI cq (nI 8)) 6 (by decide) (by decide)) (va_cwS 2 hts gL_law_L_up rfl rfl rfl (by decide +kernel) ⟨Nat.le_of_ble_eq_true rfl, Nat.le_of_ble_eq_true rfl⟩) (pre_S (Φ := fun X => True) hK trivial) rfl rfl hl.1 rfl (lv_room (Nat.le_of_ble_eq_true rfl)) dL_law_130 ⟨Nat.le_of_ble_eq_true rfl, Nat.le_of_ble_eq_true rfl⟩)) (fun r_14 hr_14 => ?_)
                          obtain ⟨a2, ha2, rfl⟩ := hr_14
                          refine lv_istore (lv' := [(6, .int (nI a2)), (5, .int (nI a)), (4, .int cp), (3, .int cq), (0, .ref b), (1, .ref q_1), (2, .int (nI k))]) hx hb dL_law_133 hl (by decide) rfl (fun ls hl => ?_)
                          refine lv_iload hx hb dL_law_135 (lv_at hl 2 rfl) ?_
                          refine lv_sipush (v := (nI 4096)) hx hb dL_law_137 (by decide) ?_
                          refine vp_callSi (va_Run.run (va_runS (As := [.int cp, .int (nI 4096)]) (rest := []) ⟨hx, hb, hml, hown, hts⟩ (k_L_up l D T cp 4096 (by decide) (by decide)) (va_cwS 2 hts gL_law_L_up rfl rfl rfl (by decide +kernel) ⟨Nat.le_of_ble_eq_true rfl, Nat.le_of_ble_eq_true rfl⟩) (pre_S (Φ := fun X => True) hK trivial) rfl rfl hl.1 rfl (lv_room (Nat.le_of_ble_eq_true rfl)) dL_law_140 ⟨Nat.le_of_ble_eq_true rfl, Nat.le_of_ble_eq_true rfl⟩)) (fun r_15 hr_15 => ?_)
                          obtain ⟨f, hf, rfl⟩ := hr_15
                          refine lv_istore (lv' := [(7, .int (nI f)), (6, .int (nI a2)), (5, .int (nI a)), (4, .int cp), (3, .int cq), (0, .ref b), (1, .ref q_1), (2, .int (nI k))]) hx hb dL_law_143 hl (by decide) rfl (fun ls hl => ?_)
                          refine lv_iload hx hb dL_law_145 (lv_at hl 0 rfl) ?_
                          refine lv_iload hx hb dL_law_147 (lv_at hl 3 rfl) ?_
                          refine lv_bipush (v := (nI 12)) hx hb dL_law_149 (by decide) ?_
                          refine lv_ishr hx hb dL_law_151 ?_
                          refine top_i (x' := (shrI cp (nI 12))) rfl ?_
                          refine lv_iload hx hb dL_law_152 (lv_at hl 3 rfl) ?_
                          refine lv_iconst (v := (nI 1)) hx hb dL_law_154 (by decide) ?_
                          refine lv_iand hx hb dL_law_155 ?_
                          have k189 : ∀ (tz : Nat) (hft : f ≤ tz) (ht4 : tz < 4096) (ls : Array Slot) (hl : lv_has ls 17 [(0, .ref b), (1, .ref q_1), (2, .int (nI k)), (3, .int cq), (4, .int cp), (5, .int (nI a)), (6, .int (nI a2)), (7, .int (nI f))]), W p l e room_1 s m #[Value.ref b] below meth c H locs 102 2779 Q (F0 m 189 ls [.int (nI tz)]) := by
                            intro tz hft ht4 ls hl
                            refine lv_istore (lv' := [(8, .int (nI tz)), (0, .ref b), (1, .ref q_1), (2, .int (nI k)), (3, .int cq), (4, .int cp), (5, .int (nI a)), (6, .int (nI a2)), (7, .int (nI f))]) hx hb dL_law_189 hl (by decide) rfl (fun ls hl => ?_)
                            have hins := rank_diff (fk.1.1 a) hft
                            have hile := ct_le (fk.1.1 a) f (tz - f + 1)
                            have hcl := ct_le (fk.1.1 a) 0 4096
                            have hcm := ct0_mono (b := (fk.1.1 a)) (show tz + 1 ≤ 4096 by omega)
                            refine lv_aload_n hx hb dL_law_191 rfl (lv_at hl 2 rfl) ?_
                            refine lv_iload hx hb dL_law_192 (lv_at hl 6 rfl) ?_
                            refine lv_iload hx hb dL_law_194 (lv_at hl 0 rfl) ?_
                            refine vp_callSi (va_Run.run (va_runV (As := [.int (nI a), .int (nI tz)]) (rest := []) ⟨hx, hb, hml, hown, hts⟩ (k_X3_rank_o l D T q_1 Sx fk (nI a) (nI tz) ) (cwV 2 hts gL_law_X3_rank rfl rfl rfl (by decide +kernel) ⟨Nat.le_of_ble_eq_true rfl, Nat.le_of_ble_eq_true rfl⟩) (pre_V (Φ := fun X => PO D T X q_1 Sx fk) hK ((PO.recv hP).choose_spec) rfl hP) rfl rfl hl.1 rfl (lv_room (Nat.le_of_ble_eq_true rfl)) dL_law_196 ⟨Nat.le_of_ble_eq_true rfl, Nat.le_of_ble_eq_true rfl⟩)) (fun r_16 hr_16 => ?_)
                            subst hr_16
                            refine top_i (x' := (nI (ct (fk.1.1 a) 0 (tz + 1)))) (o_rann ha ht4) ?_
                            refine lv_aload_n hx hb dL_law_199 rfl (lv_at hl 2 rfl) ?_
                            refine lv_iload hx hb dL_law_200 (lv_at hl 6 rfl) ?_
                            refine lv_iload hx hb dL_law_202 (lv_at hl 8 rfl) ?_
                            refine lv_iconst (v := (nI 1)) hx hb dL_law_204 (by decide) ?_
                            refine lv_isub hx hb dL_law_205 ?_
                            refine vp_callSi (va_Run.run (va_runV (As := [.int (nI a), .int ((nI f) - (nI 1))]) (rest := [.int (nI (ct (fk.1.1 a) 0 (tz + 1)))]) ⟨hx, hb, hml, hown, hts⟩ (k_X3_rank_o l D T q_1 Sx fk (nI a) ((nI f) - (nI 1)) ) (cwV 2 hts gL_law_X3_rank rfl rfl rfl (by decide +kernel) ⟨Nat.le_of_ble_eq_true rfl, Nat.le_of_ble_eq_true rfl⟩) (pre_V (Φ := fun X => PO D T X q_1 Sx fk) hK ((PO.recv hP).choose_spec) rfl hP) rfl rfl hl.1 rfl (lv_room (Nat.le_of_ble_eq_true rfl)) dL_law_206 ⟨Nat.le_of_ble_eq_true rfl, Nat.le_of_ble_eq_true rfl⟩)) (fun r_17 hr_17 => ?_)
                            subst hr_17
                            refine top_i (x' := (nI (ct (fk.1.1 a) 0 f))) ((o_ran ha _).trans (congrArg nI (o_rank1 _ (by omega)))) ?_
                            refine lv_isub hx hb dL_law_209 ?_
                            refine top_i (pk_sub (a := ct (fk.1.1 a) 0 (tz + 1)) (b := ct (fk.1.1 a) 0 f) (by omega)) ?_
                            refine top_i (x' := (nI (ct (fk.1.1 a) f (tz - f + 1)))) (congrArg nI (by omega)) ?_
                            refine lv_istore (lv' := [(9, .int (nI (ct (fk.1.1 a) f (tz - f + 1)))), (8, .int (nI tz)), (0, .ref b), (1, .ref q_1), (2, .int (nI k)), (3, .int cq), (4, .int cp), (5, .int (nI a)), (6, .int (nI a2)), (7, .int (nI f))]) hx hb dL_law_210 hl (by decide) rfl (fun ls hl => ?_)
                            refine lv_aload_n hx hb dL_law_212 rfl (lv_at hl 3 rfl) ?_
                            refine lv_iload hx hb dL_law_213 (lv_at hl 7 rfl) ?_
                            refine vp_callSi (va_Run.run (va_runV (As := [.int (nI a)]) (rest := []) ⟨hx, hb, hml, hown, hts⟩ (k_X3_size_o l D T q_1 Sx fk (nI a) ) (cwV 1 hts gL_law_X3_size rfl rfl rfl (by decide +kernel) ⟨Nat.le_of_ble_eq_true rfl, Nat.le_of_ble_eq_true rfl⟩) (pre_V (Φ := fun X => PO D T X q_1 Sx fk) hK ((PO.recv hP).choose_spec) rfl hP) rfl rfl hl.1 rfl (lv_room (Nat.le_of_ble_eq_true rfl)) dL_law_215 ⟨Nat.le_of_ble_eq_true rfl, Nat.le_of_ble_eq_true rfl⟩)) (fun r_18 hr_18 => ?_)
                            subst hr_18
                            refine top_i (x' := (nI (ct (fk.1.1 a) 0 4096))) (o_siz ha) ?_
                            refine lv_istore (lv' := [(10, .int (nI (ct (fk.1.1 a) 0 4096))), (9, .int (nI (ct (fk.1.1 a) f (tz - f + 1)))), (8, .int (nI tz)), (0, .ref b), (1, .ref q_1), (2, .int (nI k)), (3, .int cq), (4, .int cp), (5, .int (nI a)), (6, .int (nI a2)), (7, .int (nI f))]) hx hb dL_law_218 hl (by decide) rfl (fun ls hl => ?_)
                            refine lv_iconst (v := (nI 1)) hx hb dL_law_220 (by decide) ?_
                            refine lv_istore (lv' := [(11, .int (nI 1)), (10, .int (nI (ct (fk.1.1 a) 0 4096))), (9, .int (nI (ct (fk.1.1 a) f (tz - f + 1)))), (8, .int (nI tz)), (0, .ref b), (1, .ref q_1), (2, .int (nI k)), (3, .int cq), (4, .int cp), (5, .int (nI a)), (6, .int (nI a2)), (7, .int (nI f))]) hx hb dL_law_221 hl (by decide) rfl (fun ls hl => ?_)
                            refine lv_iload_n hx hb dL_law_223 rfl (lv_at hl 7 rfl) ?_
                            refine lv_bipush (v := (nI 8)) hx hb dL_law_224 (by decide) ?_
                            refine vp_callSi (va_Run.run (va_runS (As := [.int cq, .int (nI 8)]) (rest := []) ⟨hx, hb, hml, hown, hts⟩ (k_L_up l D T cq 8 (by decide) (by decide)) (va_cwS 2 hts gL_law_L_up rfl rfl rfl (by decide +kernel) ⟨Nat.le_of_ble_eq_true rfl, Nat.le_of_ble_eq_true rfl⟩) (pre_S (Φ := fun X => True) hK trivial) rfl rfl hl.1 rfl (lv_room (Nat.le_of_ble_eq_true rfl)) dL_law_226 ⟨Nat.le_of_ble_eq_true rfl, Nat.le_of_ble_eq_true rfl⟩)) (fun r_19 hr_19 => ?_)
                            obtain ⟨hw9, hhw9, rfl⟩ := hr_19
                            refine lv_istore (lv' := [(12, .int (nI hw9)), (11, .int (nI 1)), (10, .int (nI (ct (fk.1.1 a) 0 4096))), (9, .int (nI (ct (fk.1.1 a) f (tz - f + 1)))), (8, .int (nI tz)), (0, .ref b), (1, .ref q_1), (2, .int (nI k)), (3, .int cq), (4, .int cp), (5, .int (nI a)), (6, .int (nI a2)), (7, .int (nI f))]) hx hb dL_law_229 hl (by decide) rfl (fun ls hl => ?_)
                            refine lv_aload_n hx hb dL_law_231 rfl (lv_at hl 6 rfl) ?_
                            refine vp_callSl (va_Run.run (va_runV (As := []) (rest := []) ⟨hx, hb, hml, hown, hts⟩ (k_X3_fingerprint_o l D T q_1 Sx fk ) (cwV 0 hts gL_law_X3_fingerprint rfl rfl rfl (by decide +kernel) ⟨Nat.le_of_ble_eq_true rfl, Nat.le_of_ble_eq_true rfl⟩) (pre_V (Φ := fun X => PO D T X q_1 Sx fk) hK ((PO.recv hP).choose_spec) rfl hP) rfl rfl hl.1 rfl (lv_room (Nat.le_of_ble_eq_true rfl)) dL_law_232 ⟨Nat.le_of_ble_eq_true rfl, Nat.le_of_ble_eq_true rfl⟩)) (fun r_20 hr_20 => ?_)
                            subst hr_20
                            refine lv_lstore (lv' := [(13, .long (finR fk)), (12, .int (nI hw9)), (11, .int (nI 1)), (10, .int (nI (ct (fk.1.1 a) 0 4096))), (9, .int (nI (ct (fk.1.1 a) f (tz - f + 1)))), (8, .int (nI tz)), (0, .ref b), (1, .ref q_1), (2, .int (nI k)), (3, .int cq), (4, .int cp), (5, .int (nI a)), (6, .int (nI a2)), (7, .int (nI f))]) hx hb dL_law_235 hl (by decide) rfl (fun ls hl => ?_)
                            have k663 : ∀ (f2 : FS) (hb2 : f2.2.2.2.2 = 0) (H : Heap) (locs : List Loc) (hP : PO D T H q_1 Sx f2) (hS : va_S Sx s.heap H locs) (ls : Array Slot) (hl : lv_has ls 17 [(0, .ref b), (1, .ref q_1), (2, .int (nI k)), (5, .int (nI a)), (11, .int (nI 1))]), W p l e room_1 s m #[Value.ref b] below meth c H locs 102 2779 Q (F0 m 663 ls []) := by
                              intro f2 hb2 H locs hP hS ls hl
                              refine lv_iload hx hb dL_law_663 (lv_at hl 4 rfl) ?_
                              refine lv_if_eq (tgt := 693) hx hb dL_law_665 (by decide) (fun c_11 => ?_) (fun c_11 => ?_)
                              · skip
                                exact absurd c_11 (by decide)
                              · skip
                                refine lv_iload_n hx hb dL_law_668 rfl (lv_at hl 2 rfl) ?_
                                refine lv_iconst (v := (nI 3)) hx hb dL_law_669 (by decide) ?_
                                refine lv_irem hx hb dL_law_670 (by decide) ?_
                                refine top_i (pk_rem (a := k) (d := 3) (by omega) (by omega) (by omega)) ?_
                                refine lv_iconst (v := (nI 2)) hx hb dL_law_671 (by decide) ?_
                                refine lv_icmp_ne (tgt := 695) hx hb dL_law_672 (by decide) (fun c_12 => ?_) (fun c_12 => ?_)
                                · skip
                                  have c_12 : ¬ ((k % 3) = 2) := fun z => c_12 ((nI_eq (a := (k % 3)) (b := 2) (by omega) (by omega)).mpr z)
                                  refine lv_iinc (v := (nI (k + 1))) (lv' := [(2, .int (nI (k + 1))), (0, .ref b), (1, .ref q_1), (5, .int (nI a)), (11, .int (nI 1))]) hx hb dL_law_695 hl (k := 2) rfl (iinc_n k 1) (by decide) rfl (fun ls hl => ?_)
                                  refine lv_goto (tgt := 89) hx hb dL_law_698 (by decide) ?_
                                  refine W.widen (k := 102) (n := 2779) (by omega) (by omega) ?_
                                  have hl := lv_sub hl (l' := [(0, .ref b), (1, .ref q_1), (2, .int (nI (k + 1)))]) [1, 2, 0] rfl
                                  exact ih89 (k + 1) f2 (by omega) (hb2) H _ hP hS ls hl (by omega)
                                · skip
                                  have c_12 : (k % 3) = 2 := (nI_eq (a := (k % 3)) (b := 2) (by omega) (by omega)).mp c_12
                                  refine lv_aload_n hx hb dL_law_675 rfl (lv_at hl 1 rfl) ?_
                                  refine lv_iload hx hb dL_law_676 (lv_at hl 3 rfl) ?_
                                  refine va_calli (va_runS (As := [.ref q_1, .int (nI a)]) (rest := []) ⟨hx, hb, hml, hown, hts⟩ (k_L_numbers l D T q_1 Sx f2 a (ha)) (va_cwS 2 hts gL_law_L_numbers rfl rfl rfl (by decide +kernel) ⟨Nat.le_of_ble_eq_true rfl, Nat.le_of_ble_eq_true rfl⟩) (pre_S (Φ := fun X => PO D T X q_1 Sx f2) hK hP) rfl rfl hl.1 rfl (lv_room (Nat.le_of_ble_eq_true rfl)) dL_law_678 ⟨Nat.le_of_ble_eq_true rfl, Nat.le_of_ble_eq_true rfl⟩) hS (fun q _ h => h) (fun q h => h) (fun r_21 u_8 t H_9 locs ht hvm hw hB hz hk hS => ?_)
                                  rw [ht] at hB
                                  try dsimp only at hw
                                  try dsimp only at hB
                                  subst hw
                                  have hP := hB
                                  refine lv_if_eq (tgt := 693) hx hb dL_law_681 (by decide) (fun c_13 => ?_) (fun c_13 => ?_)
                                  · skip
                                    exact absurd c_13 (by decide)
                                  · skip
                                    refine lv_aload_n hx hb dL_law_684 rfl (lv_at hl 1 rfl) ?_
                                    refine lv_iload hx hb dL_law_685 (lv_at hl 3 rfl) ?_
                                    refine vp_callSi (va_Run.run (va_runS (As := [.ref q_1, .int (nI a)]) (rest := []) ⟨hx, hb, hml, hown, hts⟩ (k_L_pieces l D T q_1 Sx f2 a (ha)) (va_cwS 2 hts gL_law_L_pieces rfl rfl rfl (by decide +kernel) ⟨Nat.le_of_ble_eq_true rfl, Nat.le_of_ble_eq_true rfl⟩) (pre_S (Φ := fun X => PO D T X q_1 Sx f2) hK hP) rfl rfl hl.1 rfl (lv_room (Nat.le_of_ble_eq_true rfl)) dL_law_687 ⟨Nat.le_of_ble_eq_true rfl, Nat.le_of_ble_eq_true rfl⟩)) (fun r_22 hr_22 => ?_)
                                    subst hr_22
                                    refine lv_if_ne (tgt := 695) hx hb dL_law_690 (by decide) (fun c_14 => ?_) (fun c_14 => ?_)
                                    · skip
                                      refine lv_iinc (v := (nI (k + 1))) (lv' := [(2, .int (nI (k + 1))), (0, .ref b), (1, .ref q_1), (5, .int (nI a)), (11, .int (nI 1))]) hx hb dL_law_695 hl (k := 2) rfl (iinc_n k 1) (by decide) rfl (fun ls hl => ?_)
                                      refine lv_goto (tgt := 89) hx hb dL_law_698 (by decide) ?_
                                      refine W.widen (k := 102) (n := 2779) (by omega) (by omega) ?_
                                      have hl := lv_sub hl (l' := [(0, .ref b), (1, .ref q_1), (2, .int (nI (k + 1)))]) [1, 2, 0] rfl
                                      exact ih89 (k + 1) f2 (by omega) (hb2) H_9 _ hP hS ls hl (by omega)
                                    · skip
                                      exact absurd c_14 (by decide)
                            refine lv_iload hx hb dL_law_237 (lv_at hl 1 rfl) ?_
                            refine lv_if_ne (tgt := 297) hx hb dL_law_239 (by decide) (fun c_11 => ?_) (fun c_11 => ?_)
                            · skip
                              have c_11 : ¬ (hw9 = 0) := fun z => c_11 ((nI_e0 (a := hw9) (by omega)).mpr z)
                              refine lv_iload hx hb dL_law_297 (lv_at hl 1 rfl) ?_
                              refine lv_iconst (v := (nI 1)) hx hb dL_law_299 (by decide) ?_
                              refine lv_icmp_ne (tgt := 342) hx hb dL_law_300 (by decide) (fun c_12 => ?_) (fun c_12 => ?_)
                              · skip
                                have c_12 : ¬ (hw9 = 1) := fun z => c_12 ((nI_eq (a := hw9) (b := 1) (by omega) (by omega)).mpr z)
                                refine lv_iload hx hb dL_law_342 (lv_at hl 1 rfl) ?_
                                refine lv_iconst (v := (nI 2)) hx hb dL_law_344 (by decide) ?_
                                refine lv_icmp_ne (tgt := 454) hx hb dL_law_345 (by decide) (fun c_13 => ?_) (fun c_13 => ?_)
                                · skip
                                  have c_13 : ¬ (hw9 = 2) := fun z => c_13 ((nI_eq (a := hw9) (b := 2) (by omega) (by omega)).mpr z)
                                  refine lv_iload hx hb dL_law_454 (lv_at hl 1 rfl) ?_
                                  refine lv_iconst (v := (nI 5)) hx hb dL_law_456 (by decide) ?_
                                  refine lv_icmp_ge (tgt := 538) hx hb dL_law_457 (by decide) (fun c_14 => ?_) (fun c_14 => ?_)
                                  · skip
                                    have c_14 : 5 ≤ hw9 := (nI_leI (a := 5) (b := hw9) (by omega) (by omega)).mp c_14
                                    refine lv_iload hx hb dL_law_538 (lv_at hl 1 rfl) ?_
                                    refine lv_iconst (v := (nI 5)) hx hb dL_law_540 (by decide) ?_
                                    refine lv_icmp_ne (tgt := 631) hx hb dL_law_541 (by decide) (fun c_15 => ?_) (fun c_15 => ?_)
                                    · skip
                                      have c_15 : ¬ (hw9 = 5) := fun z => c_15 ((nI_eq (a := hw9) (b := 5) (by omega) (by omega)).mpr z)
                                      refine lv_iload hx hb dL_law_631 (lv_at hl 1 rfl) ?_
                                      refine lv_bipush (v := (nI 6)) hx hb dL_law_633 (by decide) ?_
                                      refine lv_icmp_ne (tgt := 653) hx hb dL_law_635 (by decide) (fun c_16 => ?_) (fun c_16 => ?_)
                                      · skip
                                        have c_16 : ¬ (hw9 = 6) := fun z => c_16 ((nI_eq (a := hw9) (b := 6) (by omega) (by omega)).mpr z)
                                        refine lv_aload_n hx hb dL_law_653 rfl (lv_at hl 7 rfl) ?_
                                        refine lv_iload hx hb dL_law_654 (lv_at hl 11 rfl) ?_
                                        refine lv_iload hx hb dL_law_656 (lv_at hl 12 rfl) ?_
                                        refine va_calli (va_runS (As := [.ref q_1, .int (nI a), .int (nI a2)]) (rest := []) ⟨hx, hb, hml, hown, hts⟩ (k_L_copies l D T q_1 Sx fk a a2 (ha) (ha2) (hbl2)) (va_cwS 3 hts gL_law_L_copies rfl rfl rfl (by decide +kernel) ⟨Nat.le_of_ble_eq_true rfl, Nat.le_of_ble_eq_true rfl⟩) (pre_S (Φ := fun X => PO D T X q_1 Sx fk) hK hP) rfl rfl hl.1 rfl (lv_room (Nat.le_of_ble_eq_true rfl)) dL_law_658 ⟨Nat.le_of_ble_eq_true rfl, Nat.le_of_ble_eq_true rfl⟩) hS (fun q _ h => h) (fun q h => h) (fun r_21 u_8 t H_9 locs ht hvm hw hB hz hk hS => ?_)
                                        rw [ht] at hB
                                        try dsimp only at hw
                                        try dsimp only at hB
                                        obtain ⟨hr9, hbl9⟩ := hw
                                        subst hr9
                                        have hP := hB
                                        refine lv_istore (lv' := [(11, .int (nI 1)), (13, .long (finR fk)), (12, .int (nI hw9)), (10, .int (nI (ct (fk.1.1 a) 0 4096))), (9, .int (nI (ct (fk.1.1 a) f (tz - f + 1)))), (8, .int (nI tz)), (0, .ref b), (1, .ref q_1), (2, .int (nI k)), (3, .int cq), (4, .int cp), (5, .int (nI a)), (6, .int (nI a2)), (7, .int (nI f))]) hx hb dL_law_661 hl (by decide) rfl (fun ls hl => ?_)
                                        refine W.widen (k := 102) (n := 2779) (by omega) (by omega) ?_
                                        have hl := lv_sub hl (l' := [(0, .ref b), (1, .ref q_1), (2, .int (nI k)), (5, .int (nI a)), (11, .int (nI 1))]) [6, 7, 8, 11, 0] rfl
                                        exact k663 u_8 (hbl9) H_9 _ hP hS ls hl
                                      · skip
                                        have c_16 : hw9 = 6 := (nI_eq (a := hw9) (b := 6) (by omega) (by omega)).mp c_16
                                        refine lv_aload_n hx hb dL_law_638 rfl (lv_at hl 7 rfl) ?_
                                        refine lv_iload hx hb dL_law_639 (lv_at hl 10 rfl) ?_
                                        refine lv_iload hx hb dL_law_641 (lv_at hl 11 rfl) ?_
                                        refine lv_iload hx hb dL_law_643 (lv_at hl 12 rfl) ?_
                                        refine va_calli (va_runS (As := [.ref q_1, .int cp, .int (nI a), .int (nI a2)]) (rest := []) ⟨hx, hb, hml, hown, hts⟩ (k_L_combines l D T q_1 Sx fk cp a a2 (ha) (ha2) (hbl2)) (va_cwS 4 hts gL_law_L_combines rfl rfl rfl (by decide +kernel) ⟨Nat.le_of_ble_eq_true rfl, Nat.le_of_ble_eq_true rfl⟩) (pre_S (Φ := fun X => PO D T X q_1 Sx fk) hK hP) rfl rfl hl.1 rfl (lv_room (Nat.le_of_ble_eq_true rfl)) dL_law_645 ⟨Nat.le_of_ble_eq_true rfl, Nat.le_of_ble_eq_true rfl⟩) hS (fun q _ h => h) (fun q h => h) (fun r_21 u_8 t H_9 locs ht hvm hw hB hz hk hS => ?_)
                                        rw [ht] at hB
                                        try dsimp only at hw
                                        try dsimp only at hB
                                        obtain ⟨hr9, hbl9⟩ := hw
                                        subst hr9
                                        have hP := hB
                                        refine lv_istore (lv' := [(11, .int (nI 1)), (13, .long (finR fk)), (12, .int (nI hw9)), (10, .int (nI (ct (fk.1.1 a) 0 4096))), (9, .int (nI (ct (fk.1.1 a) f (tz - f + 1)))), (8, .int (nI tz)), (0, .ref b), (1, .ref q_1), (2, .int (nI k)), (3, .int cq), (4, .int cp), (5, .int (nI a)), (6, .int (nI a2)), (7, .int (nI f))]) hx hb dL_law_648 hl (by decide) rfl (fun ls hl => ?_)
                                        refine lv_goto (tgt := 663) hx hb dL_law_650 (by decide) ?_
                                        refine W.widen (k := 102) (n := 2779) (by omega) (by omega) ?_
                                        have hl := lv_sub hl (l' := [(0, .ref b), (1, .ref q_1), (2, .int (nI k)), (5, .int (nI a)), (11, .int (nI 1))]) [6, 7, 8, 11, 0] rfl
                                        exact k663 u_8 (hbl9) H_9 _ hP hS ls hl
                                    · skip
                                      have c_15 : hw9 = 5 := (nI_eq (a := hw9) (b := 5) (by omega) (by omega)).mp c_15
                                      refine lv_iload hx hb dL_law_544 (lv_at hl 10 rfl) ?_
                                      refine lv_sipush (v := (nI 1201)) hx hb dL_law_546 (by decide) ?_
                                      refine vp_callSi (va_Run.run (va_runS (As := [.int cp, .int (nI 1201)]) (rest := []) ⟨hx, hb, hml, hown, hts⟩ (k_L_up l D T cp 1201 (by decide) (by decide)) (va_cwS 2 hts gL_law_L_up rfl rfl rfl (by decide +kernel) ⟨Nat.le_of_ble_eq_true rfl, Nat.le_of_ble_eq_true rfl⟩) (pre_S (Φ := fun X => True) hK trivial) rfl rfl hl.1 rfl (lv_room (Nat.le_of_ble_eq_true rfl)) dL_law_549 ⟨Nat.le_of_ble_eq_true rfl, Nat.le_of_ble_eq_true rfl⟩)) (fun r_21 hr_21 => ?_)
                                      obtain ⟨g, hg, rfl⟩ := hr_21
                                      refine lv_sipush (v := (nI 600)) hx hb dL_law_552 (by decide) ?_
                                      refine lv_isub hx hb dL_law_555 ?_
                                      by_cases hg6 : g < 600
                                      · skip
                                        obtain ⟨uz, hu⟩ : ∃ y, y = 600 - g := ⟨_, rfl⟩
                                        refine top_i (x' := (-(nI uz))) (by rw [hu]; exact sub_neg hg6) ?_
                                        obtain ⟨hz1, hz2, hz3⟩ := shi_dn (p := fk) ha (u := uz) (by omega)
                                        have hcu := ct0_mono (b := (fk.1.1 a)) (show uz ≤ 4096 by omega)
                                        refine lv_istore (lv' := [(15, .int (-(nI uz))), (13, .long (finR fk)), (12, .int (nI hw9)), (11, .int (nI 1)), (10, .int (nI (ct (fk.1.1 a) 0 4096))), (9, .int (nI (ct (fk.1.1 a) f (tz - f + 1)))), (8, .int (nI tz)), (0, .ref b), (1, .ref q_1), (2, .int (nI k)), (3, .int cq), (4, .int cp), (5, .int (nI a)), (6, .int (nI a2)), (7, .int (nI f))]) hx hb dL_law_556 hl (by decide) rfl (fun ls hl => ?_)
                                        refine lv_iload hx hb dL_law_558 (lv_at hl 0 rfl) ?_
                                        refine lv_if_ge (tgt := 577) hx hb dL_law_560 (by decide) (fun c_16 => ?_) (fun c_16 => ?_)
                                        · skip
                                          exact absurd c_16 (Int32.not_le.mpr (neg_lt0 (by omega) (by omega)))
                                        · skip
                                          refine lv_aload_n hx hb dL_law_563 rfl (lv_at hl 8 rfl) ?_
                                          refine lv_iload hx hb dL_law_564 (lv_at hl 12 rfl) ?_
                                          refine lv_iload hx hb dL_law_566 (lv_at hl 0 rfl) ?_
                                          refine lv_ineg hx hb dL_law_568 ?_
                                          refine top_i (x' := (nI uz)) (Int32.neg_neg) ?_
                                          refine lv_iconst (v := (nI 1)) hx hb dL_law_569 (by decide) ?_
                                          refine lv_isub hx hb dL_law_570 ?_
                                          refine top_i (pk_sub (a := uz) (b := 1) (by omega)) ?_
                                          refine vp_callSi (va_Run.run (va_runV (As := [.int (nI a), .int (nI (uz - 1))]) (rest := []) ⟨hx, hb, hml, hown, hts⟩ (k_X3_rank_o l D T q_1 Sx fk (nI a) (nI (uz - 1)) ) (cwV 2 hts gL_law_X3_rank rfl rfl rfl (by decide +kernel) ⟨Nat.le_of_ble_eq_true rfl, Nat.le_of_ble_eq_true rfl⟩) (pre_V (Φ := fun X => PO D T X q_1 Sx fk) hK ((PO.recv hP).choose_spec) rfl hP) rfl rfl hl.1 rfl (lv_room (Nat.le_of_ble_eq_true rfl)) dL_law_571 ⟨Nat.le_of_ble_eq_true rfl, Nat.le_of_ble_eq_true rfl⟩)) (fun r_22 hr_22 => ?_)
                                          subst hr_22
                                          refine top_i (x' := (nI (ct (fk.1.1 a) 0 uz))) ((o_rann ha (by omega)).trans (congrArg nI (by rw [show uz - 1 + 1 = uz by omega]))) ?_
                                          refine lv_goto (tgt := 592) hx hb dL_law_574 (by decide) ?_
                                          refine lv_istore (lv' := [(16, .int (nI (ct (fk.1.1 a) 0 uz))), (15, .int (-(nI uz))), (13, .long (finR fk)), (12, .int (nI hw9)), (11, .int (nI 1)), (10, .int (nI (ct (fk.1.1 a) 0 4096))), (9, .int (nI (ct (fk.1.1 a) f (tz - f + 1)))), (8, .int (nI tz)), (0, .ref b), (1, .ref q_1), (2, .int (nI k)), (3, .int cq), (4, .int cp), (5, .int (nI a)), (6, .int (nI a2)), (7, .int (nI f))]) hx hb dL_law_592 hl (by decide) rfl (fun ls hl => ?_)
                                          refine lv_aload_n hx hb dL_law_594 rfl (lv_at hl 9 rfl) ?_
                                          refine lv_iload hx hb dL_law_595 (lv_at hl 13 rfl) ?_
                                          refine lv_iload hx hb dL_law_597 (lv_at hl 1 rfl) ?_
                                          refine va_calli (va_runV (As := [.int (nI a), .int (-(nI uz))]) (rest := []) ⟨hx, hb, hml, hown, hts⟩ (k_X3_shift_o l D T q_1 Sx fk (nI a) (-(nI uz)) ) (cwV 2 hts gL_law_X3_shift rfl rfl rfl (by decide +kernel) ⟨Nat.le_of_ble_eq_true rfl, Nat.le_of_ble_eq_true rfl⟩) (pre_V (Φ := fun X => PO D T X q_1 Sx fk) hK ((PO.recv hP).choose_spec) rfl hP) rfl rfl hl.1 rfl (lv_room (Nat.le_of_ble_eq_true rfl)) dL_law_599 ⟨Nat.le_of_ble_eq_true rfl, Nat.le_of_ble_eq_true rfl⟩) hS (fun q _ h => h) (fun q h => h) (fun r_23 u_8 t H_9 locs ht hvm hw hB hz hk hS => ?_)
                                          rw [ht] at hB
                                          try dsimp only at hw
                                          try dsimp only at hB
                                          subst hw
                                          have hP := hB
                                          refine top_i (x' := (nI (ct (fk.1.1 a) 0 uz))) (hz1) ?_
                                          refine lv_iload hx hb dL_law_602 (lv_at hl 0 rfl) ?_
                                          refine lv_icmp_ne (tgt := 625) hx hb dL_law_604 (by decide) (fun c_17 => ?_) (fun c_17 => ?_)
                                          · skip
                                            have c_17 : ¬ ((ct (fk.1.1 a) 0 uz) = (ct (fk.1.1 a) 0 uz)) := fun z => c_17 ((nI_eq (a := (ct (fk.1.1 a) 0 uz)) (b := (ct (fk.1.1 a) 0 uz)) (by omega) (by omega)).mpr z)
                                            first | exact absurd rfl c_17 | exact absurd (by omega) c_17 | exact absurd c_17 (by omega)
                                          · skip
                                            have c_17 : (ct (fk.1.1 a) 0 uz) = (ct (fk.1.1 a) 0 uz) := (nI_eq (a := (ct (fk.1.1 a) 0 uz)) (b := (ct (fk.1.1 a) 0 uz)) (by omega) (by omega)).mp c_17
                                            refine lv_aload_n hx hb dL_law_607 rfl (lv_at hl 9 rfl) ?_
                                            refine lv_iload hx hb dL_law_608 (lv_at hl 13 rfl) ?_
                                            refine vp_callSi (va_Run.run (va_runV (As := [.int (nI a)]) (rest := []) ⟨hx, hb, hml, hown, hts⟩ (k_X3_size_o l D T q_1 Sx (shiN fk (nI a) (-(nI uz))) (nI a) ) (cwV 1 hts gL_law_X3_size rfl rfl rfl (by decide +kernel) ⟨Nat.le_of_ble_eq_true rfl, Nat.le_of_ble_eq_true rfl⟩) (pre_V (Φ := fun X => PO D T X q_1 Sx (shiN fk (nI a) (-(nI uz)))) hK ((PO.recv hP).choose_spec) rfl hP) rfl rfl hl.1 rfl (lv_room (Nat.le_of_ble_eq_true rfl)) dL_law_610 ⟨Nat.le_of_ble_eq_true rfl, Nat.le_of_ble_eq_true rfl⟩)) (fun r_24 hr_24 => ?_)
                                            subst hr_24
                                            refine top_i (x' := (nI (ct (fk.1.1 a) 0 4096 - ct (fk.1.1 a) 0 uz))) ((o_siz ha).trans (congrArg nI (by omega))) ?_
                                            refine lv_iload hx hb dL_law_613 (lv_at hl 5 rfl) ?_
                                            refine lv_iload hx hb dL_law_615 (lv_at hl 0 rfl) ?_
                                            refine lv_isub hx hb dL_law_617 ?_
                                            refine top_i (pk_sub (a := ct (fk.1.1 a) 0 4096) (b := ct (fk.1.1 a) 0 uz) (by omega)) ?_
                                            refine lv_icmp_ne (tgt := 625) hx hb dL_law_618 (by decide) (fun c_18 => ?_) (fun c_18 => ?_)
                                            · skip
                                              have c_18 : ¬ ((ct (fk.1.1 a) 0 4096 - ct (fk.1.1 a) 0 uz) = ((ct (fk.1.1 a) 0 4096) - (ct (fk.1.1 a) 0 uz))) := fun z => c_18 ((nI_eq (a := (ct (fk.1.1 a) 0 4096 - ct (fk.1.1 a) 0 uz)) (b := ((ct (fk.1.1 a) 0 4096) - (ct (fk.1.1 a) 0 uz))) (by omega) (by omega)).mpr z)
                                              first | exact absurd rfl c_18 | exact absurd (by omega) c_18 | exact absurd c_18 (by omega)
                                            · skip
                                              have c_18 : (ct (fk.1.1 a) 0 4096 - ct (fk.1.1 a) 0 uz) = ((ct (fk.1.1 a) 0 4096) - (ct (fk.1.1 a) 0 uz)) := (nI_eq (a := (ct (fk.1.1 a) 0 4096 - ct (fk.1.1 a) 0 uz)) (b := ((ct (fk.1.1 a) 0 4096) - (ct (fk.1.1 a) 0 uz))) (by omega) (by omega)).mp c_18
                                              refine lv_iconst (v := (nI 1)) hx hb dL_law_621 (by decide) ?_
                                              refine lv_goto (tgt := 626) hx hb dL_law_622 (by decide) ?_
                                              refine lv_istore (lv' := [(11, .int (nI 1)), (16, .int (nI (ct (fk.1.1 a) 0 uz))), (15, .int (-(nI uz))), (13, .long (finR fk)), (12, .int (nI hw9)), (10, .int (nI (ct (fk.1.1 a) 0 4096))), (9, .int (nI (ct (fk.1.1 a) f (tz - f + 1)))), (8, .int (nI tz)), (0, .ref b), (1, .ref q_1), (2, .int (nI k)), (3, .int cq), (4, .int cp), (5, .int (nI a)), (6, .int (nI a2)), (7, .int (nI f))]) hx hb dL_law_626 hl (by decide) rfl (fun ls hl => ?_)
                                              refine lv_goto (tgt := 663) hx hb dL_law_628 (by decide) ?_
                                              refine W.widen (k := 102) (n := 2779) (by omega) (by omega) ?_
                                              have hl := lv_sub hl (l' := [(0, .ref b), (1, .ref q_1), (2, .int (nI k)), (5, .int (nI a)), (11, .int (nI 1))]) [8, 9, 10, 13, 0] rfl
                                              exact k663 (shiN fk (nI a) (-(nI uz))) (hz3.trans hbl2) H_9 _ hP hS ls hl
                                      · skip
                                        obtain ⟨uz, hu⟩ : ∃ y, y = g - 600 := ⟨_, rfl⟩
                                        refine top_i (x' := (nI uz)) (by rw [hu]; exact pk_sub (by omega)) ?_
                                        obtain ⟨hz1, hz2, hz3⟩ := shi_up (p := fk) ha (u := uz) (by omega)
                                        have hcu := ct0_mono (b := (fk.1.1 a)) (show 4096 - uz ≤ 4096 by omega)
                                        refine lv_istore (lv' := [(15, .int (nI uz)), (13, .long (finR fk)), (12, .int (nI hw9)), (11, .int (nI 1)), (10, .int (nI (ct (fk.1.1 a) 0 4096))), (9, .int (nI (ct (fk.1.1 a) f (tz - f + 1)))), (8, .int (nI tz)), (0, .ref b), (1, .ref q_1), (2, .int (nI k)), (3, .int cq), (4, .int cp), (5, .int (nI a)), (6, .int (nI a2)), (7, .int (nI f))]) hx hb dL_law_556 hl (by decide) rfl (fun ls hl => ?_)
                                        refine lv_iload hx hb dL_law_558 (lv_at hl 0 rfl) ?_
                                        refine lv_if_ge (tgt := 577) hx hb dL_law_560 (by decide) (fun c_16 => ?_) (fun c_16 => ?_)
                                        · skip
                                          refine lv_iload hx hb dL_law_577 (lv_at hl 4 rfl) ?_
                                          refine lv_aload_n hx hb dL_law_579 rfl (lv_at hl 8 rfl) ?_
                                          refine lv_iload hx hb dL_law_580 (lv_at hl 12 rfl) ?_
                                          refine lv_sipush (v := (nI 4095)) hx hb dL_law_582 (by decide) ?_
                                          refine lv_iload hx hb dL_law_585 (lv_at hl 0 rfl) ?_
                                          refine lv_isub hx hb dL_law_587 ?_
                                          refine top_i (pk_sub (a := 4095) (b := uz) (by omega)) ?_
                                          refine vp_callSi (va_Run.run (va_runV (As := [.int (nI a), .int (nI (4095 - uz))]) (rest := [.int (nI (ct (fk.1.1 a) 0 4096))]) ⟨hx, hb, hml, hown, hts⟩ (k_X3_rank_o l D T q_1 Sx fk (nI a) (nI (4095 - uz)) ) (cwV 2 hts gL_law_X3_rank rfl rfl rfl (by decide +kernel) ⟨Nat.le_of_ble_eq_true rfl, Nat.le_of_ble_eq_true rfl⟩) (pre_V (Φ := fun X => PO D T X q_1 Sx fk) hK ((PO.recv hP).choose_spec) rfl hP) rfl rfl hl.1 rfl (lv_room (Nat.le_of_ble_eq_true rfl)) dL_law_588 ⟨Nat.le_of_ble_eq_true rfl, Nat.le_of_ble_eq_true rfl⟩)) (fun r_22 hr_22 => ?_)
                                          subst hr_22
                                          refine top_i (x' := (nI (ct (fk.1.1 a) 0 (4096 - uz)))) ((o_rann ha (by omega)).trans (congrArg nI (by rw [show 4095 - uz + 1 = 4096 - uz by omega]))) ?_
                                          refine lv_isub hx hb dL_law_591 ?_
                                          refine top_i (pk_sub (a := ct (fk.1.1 a) 0 4096) (b := ct (fk.1.1 a) 0 (4096 - uz)) (by omega)) ?_
                                          refine lv_istore (lv' := [(16, .int (nI ((ct (fk.1.1 a) 0 4096) - (ct (fk.1.1 a) 0 (4096 - uz))))), (15, .int (nI uz)), (13, .long (finR fk)), (12, .int (nI hw9)), (11, .int (nI 1)), (10, .int (nI (ct (fk.1.1 a) 0 4096))), (9, .int (nI (ct (fk.1.1 a) f (tz - f + 1)))), (8, .int (nI tz)), (0, .ref b), (1, .ref q_1), (2, .int (nI k)), (3, .int cq), (4, .int cp), (5, .int (nI a)), (6, .int (nI a2)), (7, .int (nI f))]) hx hb dL_law_592 hl (by decide) rfl (fun ls hl => ?_)
                                          refine lv_aload_n hx hb dL_law_594 rfl (lv_at hl 9 rfl) ?_
                                          refine lv_iload hx hb dL_law_595 (lv_at hl 13 rfl) ?_
                                          refine lv_iload hx hb dL_law_597 (lv_at hl 1 rfl) ?_
                                          refine va_calli (va_runV (As := [.int (nI a), .int (nI uz)]) (rest := []) ⟨hx, hb, hml, hown, hts⟩ (k_X3_shift_o l D T q_1 Sx fk (nI a) (nI uz) ) (cwV 2 hts gL_law_X3_shift rfl rfl rfl (by decide +kernel) ⟨Nat.le_of_ble_eq_true rfl, Nat.le_of_ble_eq_true rfl⟩) (pre_V (Φ := fun X => PO D T X q_1 Sx fk) hK ((PO.recv hP).choose_spec) rfl hP) rfl rfl hl.1 rfl (lv_room (Nat.le_of_ble_eq_true rfl)) dL_law_599 ⟨Nat.le_of_ble_eq_true rfl, Nat.le_of_ble_eq_true rfl⟩) hS (fun q _ h => h) (fun q h => h) (fun r_23 u_8 t H_9 locs ht hvm hw hB hz hk hS => ?_)
                                          rw [ht] at hB
                                          try dsimp only at hw
                                          try dsimp only at hB
                                          subst hw
                                          have hP := hB
                                          refine top_i (x' := (nI (ct (fk.1.1 a) 0 4096 - ct (fk.1.1 a) 0 (4096 - uz)))) (hz1) ?_
                                          refine lv_iload hx hb dL_law_602 (lv_at hl 0 rfl) ?_
                                          refine lv_icmp_ne (tgt := 625) hx hb dL_law_604 (by decide) (fun c_17 => ?_) (fun c_17 => ?_)
                                          · skip
                                            have c_17 : ¬ ((ct (fk.1.1 a) 0 4096 - ct (fk.1.1 a) 0 (4096 - uz)) = ((ct (fk.1.1 a) 0 4096) - (ct (fk.1.1 a) 0 (4096 - uz)))) := fun z => c_17 ((nI_eq (a := (ct (fk.1.1 a) 0 4096 - ct (fk.1.1 a) 0 (4096 - uz))) (b := ((ct (fk.1.1 a) 0 4096) - (ct (fk.1.1 a) 0 (4096 - uz)))) (by omega) (by omega)).mpr z)
                                            first | exact absurd rfl c_17 | exact absurd (by omega) c_17 | exact absurd c_17 (by omega)
                                          · skip
                                            have c_17 : (ct (fk.1.1 a) 0 4096 - ct (fk.1.1 a) 0 (4096 - uz)) = ((ct (fk.1.1 a) 0 4096) - (ct (fk.1.1 a) 0 (4096 - uz))) := (nI_eq (a := (ct (fk.1.1 a) 0 4096 - ct (fk.1.1 a) 0 (4096 - uz))) (b := ((ct (fk.1.1 a) 0 4096) - (ct (fk.1.1 a) 0 (4096 - uz)))) (by omega) (by omega)).mp c_17
                                            refine lv_aload_n hx hb dL_law_607 rfl (lv_at hl 9 rfl) ?_
                                            refine lv_iload hx hb dL_law_608 (lv_at hl 13 rfl) ?_
                                            refine vp_callSi (va_Run.run (va_runV (As := [.int (nI a)]) (rest := []) ⟨hx, hb, hml, hown, hts⟩ (k_X3_size_o l D T q_1 Sx (shiN fk (nI a) (nI uz)) (nI a) ) (cwV 1 hts gL_law_X3_size rfl rfl rfl (by decide +kernel) ⟨Nat.le_of_ble_eq_true rfl, Nat.le_of_ble_eq_true rfl⟩) (pre_V (Φ := fun X => PO D T X q_1 Sx (shiN fk (nI a) (nI uz))) hK ((PO.recv hP).choose_spec) rfl hP) rfl rfl hl.1 rfl (lv_room (Nat.le_of_ble_eq_true rfl)) dL_law_610 ⟨Nat.le_of_ble_eq_true rfl, Nat.le_of_ble_eq_true rfl⟩)) (fun r_24 hr_24 => ?_)
                                            subst hr_24
                                            refine top_i (x' := (nI (ct (fk.1.1 a) 0 (4096 - uz)))) ((o_siz ha).trans (congrArg nI (by omega))) ?_
                                            refine lv_iload hx hb dL_law_613 (lv_at hl 5 rfl) ?_
                                            refine lv_iload hx hb dL_law_615 (lv_at hl 0 rfl) ?_
                                            refine lv_isub hx hb dL_law_617 ?_
                                            refine top_i (pk_sub (a := ct (fk.1.1 a) 0 4096) (b := (ct (fk.1.1 a) 0 4096) - (ct (fk.1.1 a) 0 (4096 - uz))) (by omega)) ?_
                                            refine lv_icmp_ne (tgt := 625) hx hb dL_law_618 (by decide) (fun c_18 => ?_) (fun c_18 => ?_)
                                            · skip
                                              have c_18 : ¬ ((ct (fk.1.1 a) 0 (4096 - uz)) = ((ct (fk.1.1 a) 0 4096) - ((ct (fk.1.1 a) 0 4096) - (ct (fk.1.1 a) 0 (4096 - uz))))) := fun z => c_18 ((nI_eq (a := (ct (fk.1.1 a) 0 (4096 - uz))) (b := ((ct (fk.1.1 a) 0 4096) - ((ct (fk.1.1 a) 0 4096) - (ct (fk.1.1 a) 0 (4096 - uz))))) (by omega) (by omega)).mpr z)
                                              first | exact absurd rfl c_18 | exact absurd (by omega) c_18 | exact absurd c_18 (by omega)
                                            · skip
                                              have c_18 : (ct (fk.1.1 a) 0 (4096 - uz)) = ((ct (fk.1.1 a) 0 4096) - ((ct (fk.1.1 a) 0 4096) - (ct (fk.1.1 a) 0 (4096 - uz)))) := (nI_eq (a := (ct (fk.1.1 a) 0 (4096 - uz))) (b := ((ct (fk.1.1 a) 0 4096) - ((ct (fk.1.1 a) 0 4096) - (ct (fk.1.1 a) 0 (4096 - uz))))) (by omega) (by omega)).mp c_18
                                              refine lv_iconst (v := (nI 1)) hx hb dL_law_621 (by decide) ?_
                                              refine lv_goto (tgt := 626) hx hb dL_law_622 (by decide) ?_
                                              refine lv_istore (lv' := [(11, .int (nI 1)), (16, .int (nI ((ct (fk.1.1 a) 0 4096) - (ct (fk.1.1 a) 0 (4096 - uz))))), (15, .int (nI uz)), (13, .long (finR fk)), (12, .int (nI hw9)), (10, .int (nI (ct (fk.1.1 a) 0 4096))), (9, .int (nI (ct (fk.1.1 a) f (tz - f + 1)))), (8, .int (nI tz)), (0, .ref b), (1, .ref q_1), (2, .int (nI k)), (3, .int cq), (4, .int cp), (5, .int (nI a)), (6, .int (nI a2)), (7, .int (nI f))]) hx hb dL_law_626 hl (by decide) rfl (fun ls hl => ?_)
                                              refine lv_goto (tgt := 663) hx hb dL_law_628 (by decide) ?_
                                              refine W.widen (k := 102) (n := 2779) (by omega) (by omega) ?_
                                              have hl := lv_sub hl (l' := [(0, .ref b), (1, .ref q_1), (2, .int (nI k)), (5, .int (nI a)), (11, .int (nI 1))]) [8, 9, 10, 13, 0] rfl
                                              exact k663 (shiN fk (nI a) (nI uz)) (hz3.trans hbl2) H_9 _ hP hS ls hl
                                        · skip
                                          exact absurd (nI_pos' (n := uz) (by omega)) c_16
                                  · skip
                                    have c_14 : ¬ (5 ≤ hw9) := fun z => c_14 ((nI_leI (a := 5) (b := hw9) (by omega) (by omega)).mpr z)
                                    refine lv_iconst (v := (nI 1)) hx hb dL_law_460 (by decide) ?_
                                    refine lv_iload_n hx hb dL_law_461 rfl (lv_at hl 9 rfl) ?_
                                    refine lv_bipush (v := (nI 12)) hx hb dL_law_462 (by decide) ?_
                                    refine lv_ishr hx hb dL_law_464 ?_
                                    refine top_i (x' := (shrI cq (nI 12))) rfl ?_
                                    refine lv_bipush (v := (nI 90)) hx hb dL_law_465 (by decide) ?_
                                    refine vp_callSi (va_Run.run (va_runS (As := [.int (shrI cq (nI 12)), .int (nI 90)]) (rest := [.int (nI 1)]) ⟨hx, hb, hml, hown, hts⟩ (k_L_up l D T (shrI cq (nI 12)) 90 (by decide) (by decide)) (va_cwS 2 hts gL_law_L_up rfl rfl rfl (by decide +kernel) ⟨Nat.le_of_ble_eq_true rfl, Nat.le_of_ble_eq_true rfl⟩) (pre_S (Φ := fun X => True) hK trivial) rfl rfl hl.1 rfl (lv_room (Nat.le_of_ble_eq_true rfl)) dL_law_467 ⟨Nat.le_of_ble_eq_true rfl, Nat.le_of_ble_eq_true rfl⟩)) (fun r_21 hr_21 => ?_)
                                    obtain ⟨g, hg, rfl⟩ := hr_21
                                    refine lv_iadd hx hb dL_law_470 ?_
                                    refine top_i (nI_add 1 g) ?_
                                    refine lv_istore (lv' := [(15, .int (nI (1 + g))), (13, .long (finR fk)), (12, .int (nI hw9)), (11, .int (nI 1)), (10, .int (nI (ct (fk.1.1 a) 0 4096))), (9, .int (nI (ct (fk.1.1 a) f (tz - f + 1)))), (8, .int (nI tz)), (0, .ref b), (1, .ref q_1), (2, .int (nI k)), (3, .int cq), (4, .int cp), (5, .int (nI a)), (6, .int (nI a2)), (7, .int (nI f))]) hx hb dL_law_471 hl (by decide) rfl (fun ls hl => ?_)
                                    refine lv_aload_n hx hb dL_law_473 rfl (lv_at hl 8 rfl) ?_
                                    refine lv_iload hx hb dL_law_474 (lv_at hl 12 rfl) ?_
                                    refine lv_iload hx hb dL_law_476 (lv_at hl 11 rfl) ?_
                                    refine lv_iload hx hb dL_law_478 (lv_at hl 0 rfl) ?_
                                    refine va_calli (va_runV (As := [.int (nI a), .int cp, .int (nI (1 + g))]) (rest := []) ⟨hx, hb, hml, hown, hts⟩ (k_X3_scatter_o l D T q_1 Sx fk (nI a) cp (nI (1 + g)) ) (cwV 3 hts gL_law_X3_scatter rfl rfl rfl (by decide +kernel) ⟨Nat.le_of_ble_eq_true rfl, Nat.le_of_ble_eq_true rfl⟩) (pre_V (Φ := fun X => PO D T X q_1 Sx fk) hK ((PO.recv hP).choose_spec) rfl hP) rfl rfl hl.1 rfl (lv_room (Nat.le_of_ble_eq_true rfl)) dL_law_480 ⟨Nat.le_of_ble_eq_true rfl, Nat.le_of_ble_eq_true rfl⟩) hS (fun q _ h => h) (fun q h => h) (fun r_22 u_8 t H_9 locs ht hvm hw hB hz hk hS => ?_)
                                    rw [ht] at hB
                                    try dsimp only at hw
                                    try dsimp only at hB
                                    subst hw
                                    have hP := hB
                                    obtain ⟨hz1, hz2, hz3⟩ := sca_step (p := fk) ha (m := 1 + g) (by omega) (by omega) cp
                                    have hz4 := sca_ge (1 + g) cp (fk.1.1 a)
                                    have hz5 := sca_le (1 + g) cp (fk.1.1 a)
                                    have hz6 := ct_le (scF (1 + g) cp (fk.1.1 a)) 0 4096
                                    refine top_i (x' := (nI (ct (scF (1 + g) cp (fk.1.1 a)) 0 4096))) (o_sca ha (by omega) (by omega) cp) ?_
                                    refine lv_istore (lv' := [(16, .int (nI (ct (scF (1 + g) cp (fk.1.1 a)) 0 4096))), (15, .int (nI (1 + g))), (13, .long (finR fk)), (12, .int (nI hw9)), (11, .int (nI 1)), (10, .int (nI (ct (fk.1.1 a) 0 4096))), (9, .int (nI (ct (fk.1.1 a) f (tz - f + 1)))), (8, .int (nI tz)), (0, .ref b), (1, .ref q_1), (2, .int (nI k)), (3, .int cq), (4, .int cp), (5, .int (nI a)), (6, .int (nI a2)), (7, .int (nI f))]) hx hb dL_law_483 hl (by decide) rfl (fun ls hl => ?_)
                                    refine lv_iload hx hb dL_law_485 (lv_at hl 0 rfl) ?_
                                    refine lv_aload_n hx hb dL_law_487 rfl (lv_at hl 9 rfl) ?_
                                    refine lv_iload hx hb dL_law_488 (lv_at hl 13 rfl) ?_
                                    refine vp_callSi (va_Run.run (va_runV (As := [.int (nI a)]) (rest := [.int (nI (ct (scF (1 + g) cp (fk.1.1 a)) 0 4096))]) ⟨hx, hb, hml, hown, hts⟩ (k_X3_size_o l D T q_1 Sx (scaN fk (nI a) cp (nI (1 + g))) (nI a) ) (cwV 1 hts gL_law_X3_size rfl rfl rfl (by decide +kernel) ⟨Nat.le_of_ble_eq_true rfl, Nat.le_of_ble_eq_true rfl⟩) (pre_V (Φ := fun X => PO D T X q_1 Sx (scaN fk (nI a) cp (nI (1 + g)))) hK ((PO.recv hP).choose_spec) rfl hP) rfl rfl hl.1 rfl (lv_room (Nat.le_of_ble_eq_true rfl)) dL_law_490 ⟨Nat.le_of_ble_eq_true rfl, Nat.le_of_ble_eq_true rfl⟩)) (fun r_23 hr_23 => ?_)
                                    subst hr_23
                                    refine top_i (x' := (nI (ct (scF (1 + g) cp (fk.1.1 a)) 0 4096))) ((o_siz ha).trans (congrArg nI hz1)) ?_
                                    refine lv_icmp_ne (tgt := 532) hx hb dL_law_493 (by decide) (fun c_15 => ?_) (fun c_15 => ?_)
                                    · skip
                                      have c_15 : ¬ ((ct (scF (1 + g) cp (fk.1.1 a)) 0 4096) = (ct (scF (1 + g) cp (fk.1.1 a)) 0 4096)) := fun z => c_15 ((nI_eq (a := (ct (scF (1 + g) cp (fk.1.1 a)) 0 4096)) (b := (ct (scF (1 + g) cp (fk.1.1 a)) 0 4096)) (by omega) (by omega)).mpr z)
                                      first | exact absurd rfl c_15 | exact absurd (by omega) c_15 | exact absurd c_15 (by omega)
                                    · skip
                                      have c_15 : (ct (scF (1 + g) cp (fk.1.1 a)) 0 4096) = (ct (scF (1 + g) cp (fk.1.1 a)) 0 4096) := (nI_eq (a := (ct (scF (1 + g) cp (fk.1.1 a)) 0 4096)) (b := (ct (scF (1 + g) cp (fk.1.1 a)) 0 4096)) (by omega) (by omega)).mp c_15
                                      refine lv_iload hx hb dL_law_496 (lv_at hl 0 rfl) ?_
                                      refine lv_iload hx hb dL_law_498 (lv_at hl 5 rfl) ?_
                                      refine lv_icmp_lt (tgt := 532) hx hb dL_law_500 (by decide) (fun c_16 => ?_) (fun c_16 => ?_)
                                      · skip
                                        have c_16 : (ct (scF (1 + g) cp (fk.1.1 a)) 0 4096) < (ct (fk.1.1 a) 0 4096) := (nI_ltI (a := (ct (scF (1 + g) cp (fk.1.1 a)) 0 4096)) (b := (ct (fk.1.1 a) 0 4096)) (by omega) (by omega)).mp c_16
                                        first | exact absurd rfl c_16 | exact absurd (by omega) c_16 | exact absurd c_16 (by omega)
                                      · skip
                                        have c_16 : ¬ ((ct (scF (1 + g) cp (fk.1.1 a)) 0 4096) < (ct (fk.1.1 a) 0 4096)) := fun z => c_16 ((nI_ltI (a := (ct (scF (1 + g) cp (fk.1.1 a)) 0 4096)) (b := (ct (fk.1.1 a) 0 4096)) (by omega) (by omega)).mpr z)
                                        refine lv_iload hx hb dL_law_503 (lv_at hl 0 rfl) ?_
                                        refine lv_iload hx hb dL_law_505 (lv_at hl 5 rfl) ?_
                                        refine lv_iload hx hb dL_law_507 (lv_at hl 1 rfl) ?_
                                        refine lv_iadd hx hb dL_law_509 ?_
                                        refine top_i (nI_add (ct (fk.1.1 a) 0 4096) (1 + g)) ?_
                                        refine lv_icmp_gt (tgt := 532) hx hb dL_law_510 (by decide) (fun c_17 => ?_) (fun c_17 => ?_)
                                        · skip
                                          have c_17 : ((ct (fk.1.1 a) 0 4096) + (1 + g)) < (ct (scF (1 + g) cp (fk.1.1 a)) 0 4096) := (nI_ltI (a := ((ct (fk.1.1 a) 0 4096) + (1 + g))) (b := (ct (scF (1 + g) cp (fk.1.1 a)) 0 4096)) (by omega) (by omega)).mp c_17
                                          first | exact absurd rfl c_17 | exact absurd (by omega) c_17 | exact absurd c_17 (by omega)
                                        · skip
                                          have c_17 : ¬ (((ct (fk.1.1 a) 0 4096) + (1 + g)) < (ct (scF (1 + g) cp (fk.1.1 a)) 0 4096)) := fun z => c_17 ((nI_ltI (a := ((ct (fk.1.1 a) 0 4096) + (1 + g))) (b := (ct (scF (1 + g) cp (fk.1.1 a)) 0 4096)) (by omega) (by omega)).mpr z)
                                          refine lv_aload_n hx hb dL_law_513 rfl (lv_at hl 9 rfl) ?_
                                          refine lv_iload hx hb dL_law_514 (lv_at hl 13 rfl) ?_
                                          refine lv_iload hx hb dL_law_516 (lv_at hl 12 rfl) ?_
                                          refine lv_iload hx hb dL_law_518 (lv_at hl 1 rfl) ?_
                                          refine va_calli (va_runV (As := [.int (nI a), .int cp, .int (nI (1 + g))]) (rest := []) ⟨hx, hb, hml, hown, hts⟩ (k_X3_scatter_o l D T q_1 Sx (scaN fk (nI a) cp (nI (1 + g))) (nI a) cp (nI (1 + g)) ) (cwV 3 hts gL_law_X3_scatter rfl rfl rfl (by decide +kernel) ⟨Nat.le_of_ble_eq_true rfl, Nat.le_of_ble_eq_true rfl⟩) (pre_V (Φ := fun X => PO D T X q_1 Sx (scaN fk (nI a) cp (nI (1 + g)))) hK ((PO.recv hP).choose_spec) rfl hP) rfl rfl hl.1 rfl (lv_room (Nat.le_of_ble_eq_true rfl)) dL_law_520 ⟨Nat.le_of_ble_eq_true rfl, Nat.le_of_ble_eq_true rfl⟩) hS (fun q _ h => h) (fun q h => h) (fun r_24 u_9 t H_10 locs ht hvm hw hB hz hk hS => ?_)
                                          rw [ht] at hB
                                          try dsimp only at hw
                                          try dsimp only at hB
                                          subst hw
                                          have hP := hB
                                          refine top_i (x' := (nI (ct (scF (1 + g) cp (fk.1.1 a)) 0 4096))) (hz2) ?_
                                          refine lv_iload hx hb dL_law_523 (lv_at hl 0 rfl) ?_
                                          refine lv_icmp_ne (tgt := 532) hx hb dL_law_525 (by decide) (fun c_18 => ?_) (fun c_18 => ?_)
                                          · skip
                                            have c_18 : ¬ ((ct (scF (1 + g) cp (fk.1.1 a)) 0 4096) = (ct (scF (1 + g) cp (fk.1.1 a)) 0 4096)) := fun z => c_18 ((nI_eq (a := (ct (scF (1 + g) cp (fk.1.1 a)) 0 4096)) (b := (ct (scF (1 + g) cp (fk.1.1 a)) 0 4096)) (by omega) (by omega)).mpr z)
                                            first | exact absurd rfl c_18 | exact absurd (by omega) c_18 | exact absurd c_18 (by omega)
                                          · skip
                                            have c_18 : (ct (scF (1 + g) cp (fk.1.1 a)) 0 4096) = (ct (scF (1 + g) cp (fk.1.1 a)) 0 4096) := (nI_eq (a := (ct (scF (1 + g) cp (fk.1.1 a)) 0 4096)) (b := (ct (scF (1 + g) cp (fk.1.1 a)) 0 4096)) (by omega) (by omega)).mp c_18
                                            refine lv_iconst (v := (nI 1)) hx hb dL_law_528 (by decide) ?_
                                            refine lv_goto (tgt := 533) hx hb dL_law_529 (by decide) ?_
                                            refine lv_istore (lv' := [(11, .int (nI 1)), (16, .int (nI (ct (scF (1 + g) cp (fk.1.1 a)) 0 4096))), (15, .int (nI (1 + g))), (13, .long (finR fk)), (12, .int (nI hw9)), (10, .int (nI (ct (fk.1.1 a) 0 4096))), (9, .int (nI (ct (fk.1.1 a) f (tz - f + 1)))), (8, .int (nI tz)), (0, .ref b), (1, .ref q_1), (2, .int (nI k)), (3, .int cq), (4, .int cp), (5, .int (nI a)), (6, .int (nI a2)), (7, .int (nI f))]) hx hb dL_law_533 hl (by decide) rfl (fun ls hl => ?_)
                                            refine lv_goto (tgt := 663) hx hb dL_law_535 (by decide) ?_
                                            refine W.widen (k := 102) (n := 2779) (by omega) (by omega) ?_
                                            have hl := lv_sub hl (l' := [(0, .ref b), (1, .ref q_1), (2, .int (nI k)), (5, .int (nI a)), (11, .int (nI 1))]) [8, 9, 10, 13, 0] rfl
                                            exact k663 (scaN (scaN fk (nI a) cp (nI (1 + g))) (nI a) cp (nI (1 + g))) (hz3.trans hbl2) H_10 _ hP hS ls hl
                                · skip
                                  have c_13 : hw9 = 2 := (nI_eq (a := hw9) (b := 2) (by omega) (by omega)).mp c_13
                                  refine lv_aload_n hx hb dL_law_348 rfl (lv_at hl 7 rfl) ?_
                                  refine lv_iload hx hb dL_law_349 (lv_at hl 11 rfl) ?_
                                  refine lv_iload hx hb dL_law_351 (lv_at hl 13 rfl) ?_
                                  refine lv_iload hx hb dL_law_353 (lv_at hl 5 rfl) ?_
                                  refine va_calli (va_runV (As := [.int (nI a), .int (nI f), .int (nI tz)]) (rest := []) ⟨hx, hb, hml, hown, hts⟩ (k_X3_flip_o l D T q_1 Sx fk (nI a) (nI f) (nI tz) ) (cwV 3 hts gL_law_X3_flip rfl rfl rfl (by decide +kernel) ⟨Nat.le_of_ble_eq_true rfl, Nat.le_of_ble_eq_true rfl⟩) (pre_V (Φ := fun X => PO D T X q_1 Sx fk) hK ((PO.recv hP).choose_spec) rfl hP) rfl rfl hl.1 rfl (lv_room (Nat.le_of_ble_eq_true rfl)) dL_law_355 ⟨Nat.le_of_ble_eq_true rfl, Nat.le_of_ble_eq_true rfl⟩) hS (fun q _ h => h) (fun q h => h) (fun r_21 u_8 t H_9 locs ht hvm hw hB hz hk hS => ?_)
                                  rw [ht] at hB
                                  try dsimp only at hw
                                  try dsimp only at hB
                                  subst hw
                                  have hP := hB
                                  obtain ⟨hz1, hz2, hz3, hz4, hz5, hz6⟩ := flp_step (p := fk) ha hft ht4
                                  have hk2 := kpt_lt (k := kpt fk.2.2.1)
                                  refine top_i (x' := (nI (tz - f + 1 - ct (fk.1.1 a) f (tz - f + 1)))) (o_add ha hft ht4) ?_
                                  refine lv_iload hx hb dL_law_358 (lv_at hl 5 rfl) ?_
                                  refine lv_iload hx hb dL_law_360 (lv_at hl 13 rfl) ?_
                                  refine lv_isub hx hb dL_law_362 ?_
                                  refine top_i (pk_sub (a := tz) (b := f) (by omega)) ?_
                                  refine lv_iconst (v := (nI 1)) hx hb dL_law_363 (by decide) ?_
                                  refine lv_iadd hx hb dL_law_364 ?_
                                  refine top_i (nI_add (tz - f) 1) ?_
                                  refine lv_iload hx hb dL_law_365 (lv_at hl 4 rfl) ?_
                                  refine lv_isub hx hb dL_law_367 ?_
                                  refine top_i (pk_sub (a := (tz - f) + 1) (b := ct (fk.1.1 a) f (tz - f + 1)) (by omega)) ?_
                                  refine lv_icmp_ne (tgt := 448) hx hb dL_law_368 (by decide) (fun c_14 => ?_) (fun c_14 => ?_)
                                  · skip
                                    have c_14 : ¬ ((tz - f + 1 - ct (fk.1.1 a) f (tz - f + 1)) = (((tz - f) + 1) - (ct (fk.1.1 a) f (tz - f + 1)))) := fun z => c_14 ((nI_eq (a := (tz - f + 1 - ct (fk.1.1 a) f (tz - f + 1))) (b := (((tz - f) + 1) - (ct (fk.1.1 a) f (tz - f + 1)))) (by omega) (by omega)).mpr z)
                                    first | exact absurd rfl c_14 | exact absurd (by omega) c_14 | exact absurd c_14 (by omega)
                                  · skip
                                    have c_14 : (tz - f + 1 - ct (fk.1.1 a) f (tz - f + 1)) = (((tz - f) + 1) - (ct (fk.1.1 a) f (tz - f + 1))) := (nI_eq (a := (tz - f + 1 - ct (fk.1.1 a) f (tz - f + 1))) (b := (((tz - f) + 1) - (ct (fk.1.1 a) f (tz - f + 1)))) (by omega) (by omega)).mp c_14
                                    refine lv_aload_n hx hb dL_law_371 rfl (lv_at hl 7 rfl) ?_
                                    refine lv_iload hx hb dL_law_372 (lv_at hl 11 rfl) ?_
                                    refine lv_iload hx hb dL_law_374 (lv_at hl 13 rfl) ?_
                                    refine lv_iload hx hb dL_law_376 (lv_at hl 5 rfl) ?_
                                    refine va_calli (va_runV (As := [.int (nI a), .int (nI f), .int (nI tz)]) (rest := []) ⟨hx, hb, hml, hown, hts⟩ (k_X3_flip_o l D T q_1 Sx (flpN fk (nI a) (nI f) (nI tz)) (nI a) (nI f) (nI tz) ) (cwV 3 hts gL_law_X3_flip rfl rfl rfl (by decide +kernel) ⟨Nat.le_of_ble_eq_true rfl, Nat.le_of_ble_eq_true rfl⟩) (pre_V (Φ := fun X => PO D T X q_1 Sx (flpN fk (nI a) (nI f) (nI tz))) hK ((PO.recv hP).choose_spec) rfl hP) rfl rfl hl.1 rfl (lv_room (Nat.le_of_ble_eq_true rfl)) dL_law_378 ⟨Nat.le_of_ble_eq_true rfl, Nat.le_of_ble_eq_true rfl⟩) hS (fun q _ h => h) (fun q h => h) (fun r_22 u_9 t H_10 locs ht hvm hw hB hz hk hS => ?_)
                                    rw [ht] at hB
                                    try dsimp only at hw
                                    try dsimp only at hB
                                    subst hw
                                    have hP := hB
                                    refine top_i (x' := (nI (ct (fk.1.1 a) f (tz - f + 1)))) (hz1) ?_
                                    refine lv_iload hx hb dL_law_381 (lv_at hl 4 rfl) ?_
                                    refine lv_icmp_ne (tgt := 448) hx hb dL_law_383 (by decide) (fun c_15 => ?_) (fun c_15 => ?_)
                                    · skip
                                      have c_15 : ¬ ((ct (fk.1.1 a) f (tz - f + 1)) = (ct (fk.1.1 a) f (tz - f + 1))) := fun z => c_15 ((nI_eq (a := (ct (fk.1.1 a) f (tz - f + 1))) (b := (ct (fk.1.1 a) f (tz - f + 1))) (by omega) (by omega)).mpr z)
                                      first | exact absurd rfl c_15 | exact absurd (by omega) c_15 | exact absurd c_15 (by omega)
                                    · skip
                                      have c_15 : (ct (fk.1.1 a) f (tz - f + 1)) = (ct (fk.1.1 a) f (tz - f + 1)) := (nI_eq (a := (ct (fk.1.1 a) f (tz - f + 1))) (b := (ct (fk.1.1 a) f (tz - f + 1))) (by omega) (by omega)).mp c_15
                                      refine lv_aload_n hx hb dL_law_386 rfl (lv_at hl 7 rfl) ?_
                                      refine lv_iload hx hb dL_law_387 (lv_at hl 11 rfl) ?_
                                      refine vp_callSi (va_Run.run (va_runV (As := [.int (nI a)]) (rest := []) ⟨hx, hb, hml, hown, hts⟩ (k_X3_size_o l D T q_1 Sx (flpN (flpN fk (nI a) (nI f) (nI tz)) (nI a) (nI f) (nI tz)) (nI a) ) (cwV 1 hts gL_law_X3_size rfl rfl rfl (by decide +kernel) ⟨Nat.le_of_ble_eq_true rfl, Nat.le_of_ble_eq_true rfl⟩) (pre_V (Φ := fun X => PO D T X q_1 Sx (flpN (flpN fk (nI a) (nI f) (nI tz)) (nI a) (nI f) (nI tz))) hK ((PO.recv hP).choose_spec) rfl hP) rfl rfl hl.1 rfl (lv_room (Nat.le_of_ble_eq_true rfl)) dL_law_389 ⟨Nat.le_of_ble_eq_true rfl, Nat.le_of_ble_eq_true rfl⟩)) (fun r_23 hr_23 => ?_)
                                      subst hr_23
                                      refine top_i (x' := (nI (ct (fk.1.1 a) 0 4096))) ((o_siz ha).trans (congrArg nI hz2)) ?_
                                      refine lv_iload hx hb dL_law_392 (lv_at hl 3 rfl) ?_
                                      refine lv_icmp_ne (tgt := 448) hx hb dL_law_394 (by decide) (fun c_16 => ?_) (fun c_16 => ?_)
                                      · skip
                                        have c_16 : ¬ ((ct (fk.1.1 a) 0 4096) = (ct (fk.1.1 a) 0 4096)) := fun z => c_16 ((nI_eq (a := (ct (fk.1.1 a) 0 4096)) (b := (ct (fk.1.1 a) 0 4096)) (by omega) (by omega)).mpr z)
                                        first | exact absurd rfl c_16 | exact absurd (by omega) c_16 | exact absurd c_16 (by omega)
                                      · skip
                                        have c_16 : (ct (fk.1.1 a) 0 4096) = (ct (fk.1.1 a) 0 4096) := (nI_eq (a := (ct (fk.1.1 a) 0 4096)) (b := (ct (fk.1.1 a) 0 4096)) (by omega) (by omega)).mp c_16
                                        refine lv_aload_n hx hb dL_law_397 rfl (lv_at hl 7 rfl) ?_
                                        refine va_calli (va_runV (As := []) (rest := []) ⟨hx, hb, hml, hown, hts⟩ (k_X3_undo_o l D T q_1 Sx (flpN (flpN fk (nI a) (nI f) (nI tz)) (nI a) (nI f) (nI tz)) ) (cwV 0 hts gL_law_X3_undo rfl rfl rfl (by decide +kernel) ⟨Nat.le_of_ble_eq_true rfl, Nat.le_of_ble_eq_true rfl⟩) (pre_V (Φ := fun X => PO D T X q_1 Sx (flpN (flpN fk (nI a) (nI f) (nI tz)) (nI a) (nI f) (nI tz))) hK ((PO.recv hP).choose_spec) rfl hP) rfl rfl hl.1 rfl (lv_room (Nat.le_of_ble_eq_true rfl)) dL_law_398 ⟨Nat.le_of_ble_eq_true rfl, Nat.le_of_ble_eq_true rfl⟩) hS (fun q _ h => h) (fun q h => h) (fun r_24 u_10 t H_11 locs ht hvm hw hB hz hk hS => ?_)
                                        rw [ht] at hB
                                        try dsimp only at hw
                                        try dsimp only at hB
                                        subst hw
                                        have hP := hB
                                        refine top_i (x' := (nI (kpt (kpt fk.2.2.1) - 1))) (hz3) ?_
                                        refine lv_if_lt (tgt := 448) hx hb dL_law_401 (by decide) (fun c_17 => ?_) (fun c_17 => ?_)
                                        · skip
                                          exact absurd c_17 (nI_pos (n := (kpt (kpt fk.2.2.1) - 1)) (by omega))
                                        · skip
                                          refine lv_aload_n hx hb dL_law_404 rfl (lv_at hl 7 rfl) ?_
                                          refine va_calli (va_runV (As := []) (rest := []) ⟨hx, hb, hml, hown, hts⟩ (k_X3_undo_o l D T q_1 Sx (undN (flpN (flpN fk (nI a) (nI f) (nI tz)) (nI a) (nI f) (nI tz))) ) (cwV 0 hts gL_law_X3_undo rfl rfl rfl (by decide +kernel) ⟨Nat.le_of_ble_eq_true rfl, Nat.le_of_ble_eq_true rfl⟩) (pre_V (Φ := fun X => PO D T X q_1 Sx (undN (flpN (flpN fk (nI a) (nI f) (nI tz)) (nI a) (nI f) (nI tz)))) hK ((PO.recv hP).choose_spec) rfl hP) rfl rfl hl.1 rfl (lv_room (Nat.le_of_ble_eq_true rfl)) dL_law_405 ⟨Nat.le_of_ble_eq_true rfl, Nat.le_of_ble_eq_true rfl⟩) hS (fun q _ h => h) (fun q h => h) (fun r_25 u_11 t H_12 locs ht hvm hw hB hz hk hS => ?_)
                                          rw [ht] at hB
                                          try dsimp only at hw
                                          try dsimp only at hB
                                          subst hw
                                          have hP := hB
                                          refine top_i (x' := (nI (kpt (kpt fk.2.2.1) - 1 - 1))) (hz4) ?_
                                          refine lv_if_lt (tgt := 448) hx hb dL_law_408 (by decide) (fun c_18 => ?_) (fun c_18 => ?_)
                                          · skip
                                            exact absurd c_18 (nI_pos (n := (kpt (kpt fk.2.2.1) - 1 - 1)) (by omega))
                                          · skip
                                            refine lv_aload_n hx hb dL_law_411 rfl (lv_at hl 7 rfl) ?_
                                            refine vp_callSl (va_Run.run (va_runV (As := []) (rest := []) ⟨hx, hb, hml, hown, hts⟩ (k_X3_fingerprint_o l D T q_1 Sx (undN (undN (flpN (flpN fk (nI a) (nI f) (nI tz)) (nI a) (nI f) (nI tz)))) ) (cwV 0 hts gL_law_X3_fingerprint rfl rfl rfl (by decide +kernel) ⟨Nat.le_of_ble_eq_true rfl, Nat.le_of_ble_eq_true rfl⟩) (pre_V (Φ := fun X => PO D T X q_1 Sx (undN (undN (flpN (flpN fk (nI a) (nI f) (nI tz)) (nI a) (nI f) (nI tz))))) hK ((PO.recv hP).choose_spec) rfl hP) rfl rfl hl.1 rfl (lv_room (Nat.le_of_ble_eq_true rfl)) dL_law_412 ⟨Nat.le_of_ble_eq_true rfl, Nat.le_of_ble_eq_true rfl⟩)) (fun r_26 hr_26 => ?_)
                                            subst hr_26
                                            refine top_l (x' := (finR fk)) (fin_eq hz5) ?_
                                            refine lv_lload hx hb dL_law_415 (lv_at hl 0 rfl) ?_
                                            refine W.lcmp hx hb dL_law_417 ?_
                                            refine lv_if_ne (tgt := 448) hx hb dL_law_418 (by decide) (fun c_19 => ?_) (fun c_19 => ?_)
                                            · skip
                                              exact absurd (lcmp_self _) c_19
                                            · skip
                                              refine lv_aload_n hx hb dL_law_421 rfl (lv_at hl 7 rfl) ?_
                                              refine lv_iload hx hb dL_law_422 (lv_at hl 11 rfl) ?_
                                              refine lv_iload hx hb dL_law_424 (lv_at hl 13 rfl) ?_
                                              refine lv_iload hx hb dL_law_426 (lv_at hl 5 rfl) ?_
                                              refine va_calli (va_runV (As := [.int (nI a), .int (nI f), .int (nI tz)]) (rest := []) ⟨hx, hb, hml, hown, hts⟩ (k_X3_flip_o l D T q_1 Sx (undN (undN (flpN (flpN fk (nI a) (nI f) (nI tz)) (nI a) (nI f) (nI tz)))) (nI a) (nI f) (nI tz) ) (cwV 3 hts gL_law_X3_flip rfl rfl rfl (by decide +kernel) ⟨Nat.le_of_ble_eq_true rfl, Nat.le_of_ble_eq_true rfl⟩) (pre_V (Φ := fun X => PO D T X q_1 Sx (undN (undN (flpN (flpN fk (nI a) (nI f) (nI tz)) (nI a) (nI f) (nI tz))))) hK ((PO.recv hP).choose_spec) rfl hP) rfl rfl hl.1 rfl (lv_room (Nat.le_of_ble_eq_true rfl)) dL_law_428 ⟨Nat.le_of_ble_eq_true rfl, Nat.le_of_ble_eq_true rfl⟩) hS (fun q _ h => h) (fun q h => h) (fun r_27 u_12 t H_13 locs ht hvm hw hB hz hk hS => ?_)
                                              rw [ht] at hB
                                              try dsimp only at hw
                                              try dsimp only at hB
                                              subst hw
                                              have hP := hB
                                              refine top_i (x' := (nI (tz - f + 1 - ct (fk.1.1 a) f (tz - f + 1)))) (o_addE ha hft ht4 hz5) ?_
                                              refine lv_iload hx hb dL_law_431 (lv_at hl 5 rfl) ?_
                                              refine lv_iload hx hb dL_law_433 (lv_at hl 13 rfl) ?_
                                              refine lv_isub hx hb dL_law_435 ?_
                                              refine top_i (pk_sub (a := tz) (b := f) (by omega)) ?_
                                              refine lv_iconst (v := (nI 1)) hx hb dL_law_436 (by decide) ?_
                                              refine lv_iadd hx hb dL_law_437 ?_
                                              refine top_i (nI_add (tz - f) 1) ?_
                                              refine lv_iload hx hb dL_law_438 (lv_at hl 4 rfl) ?_
                                              refine lv_isub hx hb dL_law_440 ?_
                                              refine top_i (pk_sub (a := (tz - f) + 1) (b := ct (fk.1.1 a) f (tz - f + 1)) (by omega)) ?_
                                              refine lv_icmp_ne (tgt := 448) hx hb dL_law_441 (by decide) (fun c_20 => ?_) (fun c_20 => ?_)
                                              · skip
                                                have c_20 : ¬ ((tz - f + 1 - ct (fk.1.1 a) f (tz - f + 1)) = (((tz - f) + 1) - (ct (fk.1.1 a) f (tz - f + 1)))) := fun z => c_20 ((nI_eq (a := (tz - f + 1 - ct (fk.1.1 a) f (tz - f + 1))) (b := (((tz - f) + 1) - (ct (fk.1.1 a) f (tz - f + 1)))) (by omega) (by omega)).mpr z)
                                                first | exact absurd rfl c_20 | exact absurd (by omega) c_20 | exact absurd c_20 (by omega)
                                              · skip
                                                have c_20 : (tz - f + 1 - ct (fk.1.1 a) f (tz - f + 1)) = (((tz - f) + 1) - (ct (fk.1.1 a) f (tz - f + 1))) := (nI_eq (a := (tz - f + 1 - ct (fk.1.1 a) f (tz - f + 1))) (b := (((tz - f) + 1) - (ct (fk.1.1 a) f (tz - f + 1)))) (by omega) (by omega)).mp c_20
                                                refine lv_iconst (v := (nI 1)) hx hb dL_law_444 (by decide) ?_
                                                refine lv_goto (tgt := 449) hx hb dL_law_445 (by decide) ?_
                                                refine lv_istore (lv' := [(11, .int (nI 1)), (13, .long (finR fk)), (12, .int (nI hw9)), (10, .int (nI (ct (fk.1.1 a) 0 4096))), (9, .int (nI (ct (fk.1.1 a) f (tz - f + 1)))), (8, .int (nI tz)), (0, .ref b), (1, .ref q_1), (2, .int (nI k)), (3, .int cq), (4, .int cp), (5, .int (nI a)), (6, .int (nI a2)), (7, .int (nI f))]) hx hb dL_law_449 hl (by decide) rfl (fun ls hl => ?_)
                                                refine lv_goto (tgt := 663) hx hb dL_law_451 (by decide) ?_
                                                refine W.widen (k := 102) (n := 2779) (by omega) (by omega) ?_
                                                have hl := lv_sub hl (l' := [(0, .ref b), (1, .ref q_1), (2, .int (nI k)), (5, .int (nI a)), (11, .int (nI 1))]) [6, 7, 8, 11, 0] rfl
                                                exact k663 (flpN (undN (undN (flpN (flpN fk (nI a) (nI f) (nI tz)) (nI a) (nI f) (nI tz)))) (nI a) (nI f) (nI tz)) (hz6.trans hbl2) H_13 _ hP hS ls hl
                              · skip
                                have c_12 : hw9 = 1 := (nI_eq (a := hw9) (b := 1) (by omega) (by omega)).mp c_12
                                refine lv_aload_n hx hb dL_law_303 rfl (lv_at hl 7 rfl) ?_
                                refine lv_iload hx hb dL_law_304 (lv_at hl 11 rfl) ?_
                                refine lv_iload hx hb dL_law_306 (lv_at hl 13 rfl) ?_
                                refine lv_iload hx hb dL_law_308 (lv_at hl 5 rfl) ?_
                                refine va_calli (va_runV (As := [.int (nI a), .int (nI f), .int (nI tz)]) (rest := []) ⟨hx, hb, hml, hown, hts⟩ (k_X3_remove_o l D T q_1 Sx fk (nI a) (nI f) (nI tz) ) (cwV 3 hts gL_law_X3_remove rfl rfl rfl (by decide +kernel) ⟨Nat.le_of_ble_eq_true rfl, Nat.le_of_ble_eq_true rfl⟩) (pre_V (Φ := fun X => PO D T X q_1 Sx fk) hK ((PO.recv hP).choose_spec) rfl hP) rfl rfl hl.1 rfl (lv_room (Nat.le_of_ble_eq_true rfl)) dL_law_310 ⟨Nat.le_of_ble_eq_true rfl, Nat.le_of_ble_eq_true rfl⟩) hS (fun q _ h => h) (fun q h => h) (fun r_21 u_8 t H_9 locs ht hvm hw hB hz hk hS => ?_)
                                rw [ht] at hB
                                try dsimp only at hw
                                try dsimp only at hB
                                subst hw
                                have hP := hB
                                obtain ⟨hz1, hz2⟩ := rem_step (p := fk) ha hft ht4
                                refine top_i (x' := (nI (ct (fk.1.1 a) f (tz - f + 1)))) (o_rem ha hft ht4) ?_
                                refine lv_iload hx hb dL_law_313 (lv_at hl 4 rfl) ?_
                                refine lv_icmp_ne (tgt := 336) hx hb dL_law_315 (by decide) (fun c_13 => ?_) (fun c_13 => ?_)
                                · skip
                                  have c_13 : ¬ ((ct (fk.1.1 a) f (tz - f + 1)) = (ct (fk.1.1 a) f (tz - f + 1))) := fun z => c_13 ((nI_eq (a := (ct (fk.1.1 a) f (tz - f + 1))) (b := (ct (fk.1.1 a) f (tz - f + 1))) (by omega) (by omega)).mpr z)
                                  first | exact absurd rfl c_13 | exact absurd (by omega) c_13 | exact absurd c_13 (by omega)
                                · skip
                                  have c_13 : (ct (fk.1.1 a) f (tz - f + 1)) = (ct (fk.1.1 a) f (tz - f + 1)) := (nI_eq (a := (ct (fk.1.1 a) f (tz - f + 1))) (b := (ct (fk.1.1 a) f (tz - f + 1))) (by omega) (by omega)).mp c_13
                                  refine lv_aload_n hx hb dL_law_318 rfl (lv_at hl 7 rfl) ?_
                                  refine lv_iload hx hb dL_law_319 (lv_at hl 11 rfl) ?_
                                  refine vp_callSi (va_Run.run (va_runV (As := [.int (nI a)]) (rest := []) ⟨hx, hb, hml, hown, hts⟩ (k_X3_size_o l D T q_1 Sx (remN fk (nI a) (nI f) (nI tz)) (nI a) ) (cwV 1 hts gL_law_X3_size rfl rfl rfl (by decide +kernel) ⟨Nat.le_of_ble_eq_true rfl, Nat.le_of_ble_eq_true rfl⟩) (pre_V (Φ := fun X => PO D T X q_1 Sx (remN fk (nI a) (nI f) (nI tz))) hK ((PO.recv hP).choose_spec) rfl hP) rfl rfl hl.1 rfl (lv_room (Nat.le_of_ble_eq_true rfl)) dL_law_321 ⟨Nat.le_of_ble_eq_true rfl, Nat.le_of_ble_eq_true rfl⟩)) (fun r_22 hr_22 => ?_)
                                  subst hr_22
                                  refine top_i (x' := (nI (ct (fk.1.1 a) 0 4096 - ct (fk.1.1 a) f (tz - f + 1)))) ((o_siz ha).trans (congrArg nI (by omega))) ?_
                                  refine lv_iload hx hb dL_law_324 (lv_at hl 3 rfl) ?_
                                  refine lv_iload hx hb dL_law_326 (lv_at hl 4 rfl) ?_
                                  refine lv_isub hx hb dL_law_328 ?_
                                  refine top_i (pk_sub (a := ct (fk.1.1 a) 0 4096) (b := ct (fk.1.1 a) f (tz - f + 1)) (by omega)) ?_
                                  refine lv_icmp_ne (tgt := 336) hx hb dL_law_329 (by decide) (fun c_14 => ?_) (fun c_14 => ?_)
                                  · skip
                                    have c_14 : ¬ ((ct (fk.1.1 a) 0 4096 - ct (fk.1.1 a) f (tz - f + 1)) = ((ct (fk.1.1 a) 0 4096) - (ct (fk.1.1 a) f (tz - f + 1)))) := fun z => c_14 ((nI_eq (a := (ct (fk.1.1 a) 0 4096 - ct (fk.1.1 a) f (tz - f + 1))) (b := ((ct (fk.1.1 a) 0 4096) - (ct (fk.1.1 a) f (tz - f + 1)))) (by omega) (by omega)).mpr z)
                                    first | exact absurd rfl c_14 | exact absurd (by omega) c_14 | exact absurd c_14 (by omega)
                                  · skip
                                    have c_14 : (ct (fk.1.1 a) 0 4096 - ct (fk.1.1 a) f (tz - f + 1)) = ((ct (fk.1.1 a) 0 4096) - (ct (fk.1.1 a) f (tz - f + 1))) := (nI_eq (a := (ct (fk.1.1 a) 0 4096 - ct (fk.1.1 a) f (tz - f + 1))) (b := ((ct (fk.1.1 a) 0 4096) - (ct (fk.1.1 a) f (tz - f + 1)))) (by omega) (by omega)).mp c_14
                                    refine lv_iconst (v := (nI 1)) hx hb dL_law_332 (by decide) ?_
                                    refine lv_goto (tgt := 337) hx hb dL_law_333 (by decide) ?_
                                    refine lv_istore (lv' := [(11, .int (nI 1)), (13, .long (finR fk)), (12, .int (nI hw9)), (10, .int (nI (ct (fk.1.1 a) 0 4096))), (9, .int (nI (ct (fk.1.1 a) f (tz - f + 1)))), (8, .int (nI tz)), (0, .ref b), (1, .ref q_1), (2, .int (nI k)), (3, .int cq), (4, .int cp), (5, .int (nI a)), (6, .int (nI a2)), (7, .int (nI f))]) hx hb dL_law_337 hl (by decide) rfl (fun ls hl => ?_)
                                    refine lv_goto (tgt := 663) hx hb dL_law_339 (by decide) ?_
                                    refine W.widen (k := 102) (n := 2779) (by omega) (by omega) ?_
                                    have hl := lv_sub hl (l' := [(0, .ref b), (1, .ref q_1), (2, .int (nI k)), (5, .int (nI a)), (11, .int (nI 1))]) [6, 7, 8, 11, 0] rfl
                                    exact k663 (remN fk (nI a) (nI f) (nI tz)) (hz2.trans hbl2) H_9 _ hP hS ls hl
                            · skip
                              have c_11 : hw9 = 0 := (nI_e0 (a := hw9) (by omega)).mp c_11
                              refine lv_aload_n hx hb dL_law_242 rfl (lv_at hl 7 rfl) ?_
                              refine lv_iload hx hb dL_law_243 (lv_at hl 11 rfl) ?_
                              refine lv_iload hx hb dL_law_245 (lv_at hl 13 rfl) ?_
                              refine lv_iload hx hb dL_law_247 (lv_at hl 5 rfl) ?_
                              refine va_calli (va_runV (As := [.int (nI a), .int (nI f), .int (nI tz)]) (rest := []) ⟨hx, hb, hml, hown, hts⟩ (k_X3_add_o l D T q_1 Sx fk (nI a) (nI f) (nI tz) ) (cwV 3 hts gL_law_X3_add rfl rfl rfl (by decide +kernel) ⟨Nat.le_of_ble_eq_true rfl, Nat.le_of_ble_eq_true rfl⟩) (pre_V (Φ := fun X => PO D T X q_1 Sx fk) hK ((PO.recv hP).choose_spec) rfl hP) rfl rfl hl.1 rfl (lv_room (Nat.le_of_ble_eq_true rfl)) dL_law_249 ⟨Nat.le_of_ble_eq_true rfl, Nat.le_of_ble_eq_true rfl⟩) hS (fun q _ h => h) (fun q h => h) (fun r_21 u_8 t H_9 locs ht hvm hw hB hz hk hS => ?_)
                              rw [ht] at hB
                              try dsimp only at hw
                              try dsimp only at hB
                              subst hw
                              have hP := hB
                              obtain ⟨hz1, hz2⟩ := add_step (p := fk) ha hft ht4
                              refine top_i (x' := (nI (tz - f + 1 - ct (fk.1.1 a) f (tz - f + 1)))) (o_add ha hft ht4) ?_
                              refine lv_iload hx hb dL_law_252 (lv_at hl 5 rfl) ?_
                              refine lv_iload hx hb dL_law_254 (lv_at hl 13 rfl) ?_
                              refine lv_isub hx hb dL_law_256 ?_
                              refine top_i (pk_sub (a := tz) (b := f) (by omega)) ?_
                              refine lv_iconst (v := (nI 1)) hx hb dL_law_257 (by decide) ?_
                              refine lv_iadd hx hb dL_law_258 ?_
                              refine top_i (nI_add (tz - f) 1) ?_
                              refine lv_iload hx hb dL_law_259 (lv_at hl 4 rfl) ?_
                              refine lv_isub hx hb dL_law_261 ?_
                              refine top_i (pk_sub (a := (tz - f) + 1) (b := ct (fk.1.1 a) f (tz - f + 1)) (by omega)) ?_
                              refine lv_icmp_ne (tgt := 291) hx hb dL_law_262 (by decide) (fun c_12 => ?_) (fun c_12 => ?_)
                              · skip
                                have c_12 : ¬ ((tz - f + 1 - ct (fk.1.1 a) f (tz - f + 1)) = (((tz - f) + 1) - (ct (fk.1.1 a) f (tz - f + 1)))) := fun z => c_12 ((nI_eq (a := (tz - f + 1 - ct (fk.1.1 a) f (tz - f + 1))) (b := (((tz - f) + 1) - (ct (fk.1.1 a) f (tz - f + 1)))) (by omega) (by omega)).mpr z)
                                first | exact absurd rfl c_12 | exact absurd (by omega) c_12 | exact absurd c_12 (by omega)
                              · skip
                                have c_12 : (tz - f + 1 - ct (fk.1.1 a) f (tz - f + 1)) = (((tz - f) + 1) - (ct (fk.1.1 a) f (tz - f + 1))) := (nI_eq (a := (tz - f + 1 - ct (fk.1.1 a) f (tz - f + 1))) (b := (((tz - f) + 1) - (ct (fk.1.1 a) f (tz - f + 1)))) (by omega) (by omega)).mp c_12
                                refine lv_aload_n hx hb dL_law_265 rfl (lv_at hl 7 rfl) ?_
                                refine lv_iload hx hb dL_law_266 (lv_at hl 11 rfl) ?_
                                refine vp_callSi (va_Run.run (va_runV (As := [.int (nI a)]) (rest := []) ⟨hx, hb, hml, hown, hts⟩ (k_X3_size_o l D T q_1 Sx (addN fk (nI a) (nI f) (nI tz)) (nI a) ) (cwV 1 hts gL_law_X3_size rfl rfl rfl (by decide +kernel) ⟨Nat.le_of_ble_eq_true rfl, Nat.le_of_ble_eq_true rfl⟩) (pre_V (Φ := fun X => PO D T X q_1 Sx (addN fk (nI a) (nI f) (nI tz))) hK ((PO.recv hP).choose_spec) rfl hP) rfl rfl hl.1 rfl (lv_room (Nat.le_of_ble_eq_true rfl)) dL_law_268 ⟨Nat.le_of_ble_eq_true rfl, Nat.le_of_ble_eq_true rfl⟩)) (fun r_22 hr_22 => ?_)
                                subst hr_22
                                refine top_i (x' := (nI (ct (fk.1.1 a) 0 4096 + (tz - f + 1 - ct (fk.1.1 a) f (tz - f + 1))))) ((o_siz ha).trans (congrArg nI hz1)) ?_
                                refine lv_iload hx hb dL_law_271 (lv_at hl 3 rfl) ?_
                                refine lv_iload hx hb dL_law_273 (lv_at hl 5 rfl) ?_
                                refine lv_iadd hx hb dL_law_275 ?_
                                refine top_i (nI_add (ct (fk.1.1 a) 0 4096) tz) ?_
                                refine lv_iload hx hb dL_law_276 (lv_at hl 13 rfl) ?_
                                refine lv_isub hx hb dL_law_278 ?_
                                refine top_i (pk_sub (a := (ct (fk.1.1 a) 0 4096) + tz) (b := f) (by omega)) ?_
                                refine lv_iconst (v := (nI 1)) hx hb dL_law_279 (by decide) ?_
                                refine lv_iadd hx hb dL_law_280 ?_
                                refine top_i (nI_add (((ct (fk.1.1 a) 0 4096) + tz) - f) 1) ?_
                                refine lv_iload hx hb dL_law_281 (lv_at hl 4 rfl) ?_
                                refine lv_isub hx hb dL_law_283 ?_
                                refine top_i (pk_sub (a := (((ct (fk.1.1 a) 0 4096) + tz) - f) + 1) (b := ct (fk.1.1 a) f (tz - f + 1)) (by omega)) ?_
                                refine lv_icmp_ne (tgt := 291) hx hb dL_law_284 (by decide) (fun c_13 => ?_) (fun c_13 => ?_)
                                · skip
                                  have c_13 : ¬ ((ct (fk.1.1 a) 0 4096 + (tz - f + 1 - ct (fk.1.1 a) f (tz - f + 1))) = (((((ct (fk.1.1 a) 0 4096) + tz) - f) + 1) - (ct (fk.1.1 a) f (tz - f + 1)))) := fun z => c_13 ((nI_eq (a := (ct (fk.1.1 a) 0 4096 + (tz - f + 1 - ct (fk.1.1 a) f (tz - f + 1)))) (b := (((((ct (fk.1.1 a) 0 4096) + tz) - f) + 1) - (ct (fk.1.1 a) f (tz - f + 1)))) (by omega) (by omega)).mpr z)
                                  first | exact absurd rfl c_13 | exact absurd (by omega) c_13 | exact absurd c_13 (by omega)
                                · skip
                                  have c_13 : (ct (fk.1.1 a) 0 4096 + (tz - f + 1 - ct (fk.1.1 a) f (tz - f + 1))) = (((((ct (fk.1.1 a) 0 4096) + tz) - f) + 1) - (ct (fk.1.1 a) f (tz - f + 1))) := (nI_eq (a := (ct (fk.1.1 a) 0 4096 + (tz - f + 1 - ct (fk.1.1 a) f (tz - f + 1)))) (b := (((((ct (fk.1.1 a) 0 4096) + tz) - f) + 1) - (ct (fk.1.1 a) f (tz - f + 1)))) (by omega) (by omega)).mp c_13
                                  refine lv_iconst (v := (nI 1)) hx hb dL_law_287 (by decide) ?_
                                  refine lv_goto (tgt := 292) hx hb dL_law_288 (by decide) ?_
                                  refine lv_istore (lv' := [(11, .int (nI 1)), (13, .long (finR fk)), (12, .int (nI hw9)), (10, .int (nI (ct (fk.1.1 a) 0 4096))), (9, .int (nI (ct (fk.1.1 a) f (tz - f + 1)))), (8, .int (nI tz)), (0, .ref b), (1, .ref q_1), (2, .int (nI k)), (3, .int cq), (4, .int cp), (5, .int (nI a)), (6, .int (nI a2)), (7, .int (nI f))]) hx hb dL_law_292 hl (by decide) rfl (fun ls hl => ?_)
                                  refine lv_goto (tgt := 663) hx hb dL_law_294 (by decide) ?_
                                  refine W.widen (k := 102) (n := 2779) (by omega) (by omega) ?_
                                  have hl := lv_sub hl (l' := [(0, .ref b), (1, .ref q_1), (2, .int (nI k)), (5, .int (nI a)), (11, .int (nI 1))]) [6, 7, 8, 11, 0] rfl
                                  exact k663 (addN fk (nI a) (nI f) (nI tz)) (hz2.trans hbl2) H_9 _ hP hS ls hl
                          refine lv_if_ne (tgt := 164) hx hb dL_law_156 (by decide) (fun c_11 => ?_) (fun c_11 => ?_)
                          · skip
                            refine lv_sipush (v := (nI 700)) hx hb dL_law_164 (by decide) ?_
                            refine vp_callSi (va_Run.run (va_runS (As := [.int (shrI cp (nI 12)), .int (nI 700)]) (rest := [.int (nI f)]) ⟨hx, hb, hml, hown, hts⟩ (k_L_up l D T (shrI cp (nI 12)) 700 (by decide) (by decide)) (va_cwS 2 hts gL_law_L_up rfl rfl rfl (by decide +kernel) ⟨Nat.le_of_ble_eq_true rfl, Nat.le_of_ble_eq_true rfl⟩) (pre_S (Φ := fun X => True) hK trivial) rfl rfl hl.1 rfl (lv_room (Nat.le_of_ble_eq_true rfl)) dL_law_167 ⟨Nat.le_of_ble_eq_true rfl, Nat.le_of_ble_eq_true rfl⟩)) (fun r_16 hr_16 => ?_)
                            obtain ⟨g, hg, rfl⟩ := hr_16
                            refine lv_iadd hx hb dL_law_170 ?_
                            refine top_i (nI_add f g) ?_
                            refine lv_istore (lv' := [(8, .int (nI (f + g))), (7, .int (nI f)), (6, .int (nI a2)), (5, .int (nI a)), (4, .int cp), (3, .int cq), (0, .ref b), (1, .ref q_1), (2, .int (nI k))]) hx hb dL_law_171 hl (by decide) rfl (fun ls hl => ?_)
                            refine lv_iload hx hb dL_law_173 (lv_at hl 0 rfl) ?_
                            refine lv_sipush (v := (nI 4095)) hx hb dL_law_175 (by decide) ?_
                            refine lv_icmp_le (tgt := 187) hx hb dL_law_178 (by decide) (fun c_12 => ?_) (fun c_12 => ?_)
                            · skip
                              have c_12 : (f + g) ≤ 4095 := (nI_leI (a := (f + g)) (b := 4095) (by omega) (by omega)).mp c_12
                              refine lv_iload hx hb dL_law_187 (lv_at hl 0 rfl) ?_
                              refine W.widen (k := 102) (n := 2779) (by omega) (by omega) ?_
                              have hl := lv_sub hl (l' := [(0, .ref b), (1, .ref q_1), (2, .int (nI k)), (3, .int cq), (4, .int cp), (5, .int (nI a)), (6, .int (nI a2)), (7, .int (nI f))]) [6, 7, 8, 5, 4, 3, 2, 1] rfl
                              exact k189 (f + g) (by omega) (by omega) ls hl
                            · skip
                              have c_12 : ¬ ((f + g) ≤ 4095) := fun z => c_12 ((nI_leI (a := (f + g)) (b := 4095) (by omega) (by omega)).mpr z)
                              refine lv_sipush (v := (nI 4095)) hx hb dL_law_181 (by decide) ?_
                              refine lv_goto (tgt := 189) hx hb dL_law_184 (by decide) ?_
                              refine W.widen (k := 102) (n := 2779) (by omega) (by omega) ?_
                              have hl := lv_sub hl (l' := [(0, .ref b), (1, .ref q_1), (2, .int (nI k)), (3, .int cq), (4, .int cp), (5, .int (nI a)), (6, .int (nI a2)), (7, .int (nI f))]) [6, 7, 8, 5, 4, 3, 2, 1] rfl
                              exact k189 4095 (by omega) (by omega) ls hl
                          · skip
                            refine lv_bipush (v := (nI 40)) hx hb dL_law_159 (by decide) ?_
                            refine lv_goto (tgt := 167) hx hb dL_law_161 (by decide) ?_
                            refine vp_callSi (va_Run.run (va_runS (As := [.int (shrI cp (nI 12)), .int (nI 40)]) (rest := [.int (nI f)]) ⟨hx, hb, hml, hown, hts⟩ (k_L_up l D T (shrI cp (nI 12)) 40 (by decide) (by decide)) (va_cwS 2 hts gL_law_L_up rfl rfl rfl (by decide +kernel) ⟨Nat.le_of_ble_eq_true rfl, Nat.le_of_ble_eq_true rfl⟩) (pre_S (Φ := fun X => True) hK trivial) rfl rfl hl.1 rfl (lv_room (Nat.le_of_ble_eq_true rfl)) dL_law_167 ⟨Nat.le_of_ble_eq_true rfl, Nat.le_of_ble_eq_true rfl⟩)) (fun r_16 hr_16 => ?_)
                            obtain ⟨g, hg, rfl⟩ := hr_16
                            refine lv_iadd hx hb dL_law_170 ?_
                            refine top_i (nI_add f g) ?_
                            refine lv_istore (lv' := [(8, .int (nI (f + g))), (7, .int (nI f)), (6, .int (nI a2)), (5, .int (nI a)), (4, .int cp), (3, .int cq), (0, .ref b), (1, .ref q_1), (2, .int (nI k))]) hx hb dL_law_171 hl (by decide) rfl (fun ls hl => ?_)
                            refine lv_iload hx hb dL_law_173 (lv_at hl 0 rfl) ?_
                            refine lv_sipush (v := (nI 4095)) hx hb dL_law_175 (by decide) ?_
                            refine lv_icmp_le (tgt := 187) hx hb dL_law_178 (by decide) (fun c_12 => ?_) (fun c_12 => ?_)
                            · skip
                              have c_12 : (f + g) ≤ 4095 := (nI_leI (a := (f + g)) (b := 4095) (by omega) (by omega)).mp c_12
                              refine lv_iload hx hb dL_law_187 (lv_at hl 0 rfl) ?_
                              refine W.widen (k := 102) (n := 2779) (by omega) (by omega) ?_
                              have hl := lv_sub hl (l' := [(0, .ref b), (1, .ref q_1), (2, .int (nI k)), (3, .int cq), (4, .int cp), (5, .int (nI a)), (6, .int (nI a2)), (7, .int (nI f))]) [6, 7, 8, 5, 4, 3, 2, 1] rfl
                              exact k189 (f + g) (by omega) (by omega) ls hl
                            · skip
                              have c_12 : ¬ ((f + g) ≤ 4095) := fun z => c_12 ((nI_leI (a := (f + g)) (b := 4095) (by omega) (by omega)).mpr z)
                              refine lv_sipush (v := (nI 4095)) hx hb dL_law_181 (by decide) ?_
                              refine lv_goto (tgt := 189) hx hb dL_law_184 (by decide) ?_
                              refine W.widen (k := 102) (n := 2779) (by omega) (by omega) ?_
                              have hl := lv_sub hl (l' := [(0, .ref b), (1, .ref q_1), (2, .int (nI k)), (3, .int cq), (4, .int cp), (5, .int (nI a)), (6, .int (nI a2)), (7, .int (nI f))]) [6, 7, 8, 5, 4, 3, 2, 1] rfl
                              exact k189 4095 (by omega) (by omega) ls hl
                    refine W.widen (k := 102) (n := 2779) (by omega) (by omega) ?_
                    have hl := lv_sub hl (l' := [(0, .ref b), (1, .ref q_1), (2, .int (nI 0))]) [2, 1, 0] rfl
                    exact loop89 (18 - 0 + 1) 0 f1 (Nat.zero_le _) (hb1) H_8 _ hP hS ls hl (Nat.lt_succ_self _)
                  · skip
                    exact absurd c_9 (by decide)
