set_option maxHeartbeats 4000000 in
set_option maxRecDepth 100000 in
theorem k_X3_init (l : Launch) (D : va_G) (T : Nat → ClassId) (o : Nat) (sz : Nat) : Met l yX3_init wsX3_init ({ frames := 3, cells := 101, slots := 2774, locals := 61 }) (va_Pc [.ref o] (fun U => KA D T U ∧ U.heap.size = sz ∧ va_at D vwCl (o, .inr (3, [.null, .null, .int 0, .null, .null])) U.heap)) (va_Qv (fun (u : Unit) => True) (fun u t => ∃ A : Nat → Nat, A 0 = o ∧ (∀ x, 1 ≤ x → x < 102 → sz ≤ A x) ∧ (∀ x, x < 102 → A x < t.heap.size) ∧ PSr D T t.heap A 0 (fun _ => 0) 0 (fun _ => 0) (fun _ _ _ => 0) (fun _ _ => 0) (fun _ _ => 0)) (fun q => q = o ∨ sz ≤ q)) 101 2774 (fun q => q = o ∨ sz ≤ q) := by
  refine Met.ofW (cc := cX3_init) (maxL := 2) (ret := none) (by decide) rfl ?_
  intro pg ev s m args below meth c s₁ B hml hv
  obtain ⟨rfl, hK, hH⟩ := hv
  have hKA := hK
  have hK := hK.1
  have hx := B.exec
  have hb := B.bytes
  have hr := B.returns
  have hts := atoms_spec (ws := wsX3_init) B.pre
  have hown : s.vm.findClass RX3 = some m.cls := findClass_of_methodNamed B.named
  have hlocks := B.notSynchronized
  have hin : meth.name = "<init>" := (name_of_methodNamed B.named B.method).1
  have in_wsX20 : ∀ w ∈ wsX20, w ∈ wsX3_init := fun w h => List.mem_cons_of_mem _ (List.mem_append_left _ (List.mem_append_left _ (List.mem_append_left _ (List.mem_append_right _ h))))
  have in_wsX30 : ∀ w ∈ wsX30, w ∈ wsX3_init := fun w h => List.mem_cons_of_mem _ (List.mem_append_left _ (List.mem_append_left _ (List.mem_append_right _ h)))
  have in_wsX00 : ∀ w ∈ wsX00, w ∈ wsX3_init := fun w h => List.mem_cons_of_mem _ (List.mem_append_left _ (List.mem_append_right _ h))
  have in_wsX10 : ∀ w ∈ wsX10, w ∈ wsX3_init := fun w h => List.mem_cons_of_mem _ (List.mem_append_right _ h)
  have hS : va_S (fun q => q = o ∨ sz ≤ q) s.heap s.heap [] := va_S.rf
  have hl := lv_entry ([.ref o]) (n := 2) (Nat.le_of_ble_eq_true rfl)
  rw [lg_entry_eq]
  generalize (lg_sl ([.ref o]) ++ List.replicate (2 - (lg_sl ([.ref o])).length) Slot.unset).toArray = ls at hl ⊢
  have hl : lv_has ls 2 [(0, .ref o)] := hl
  refine W_gen (fun Q hQ => ?_)
  obtain ⟨hsz, hO⟩ := hH
  have ho0 : o < s.heap.size := va_at.lt hO
  refine lv_aload_n hx hb dX3_init_0 rfl (lv_at hl 0 rfl) ?_
  refine W.objInit hx hb hown (hts (.methodLink RX3 1 objectInit) (by decide +kernel)) (hts (.instanceMethod objectInit) (by decide +kernel)) (hts (.code objectInit ⟨#[0xb1]⟩ 1 none) (by decide +kernel)) rfl (by rw [hml]; exact hl.1) rfl dX3_init_1 (Nat.le_of_ble_eq_true rfl) (Nat.le_of_ble_eq_true rfl) ?_
  refine W.eq (g2 := F0 m 4 ls []) rfl ?_
  refine lv_aload_n hx hb dX3_init_4 rfl (lv_at hl 0 rfl) ?_
  refine r_newo (ci := 2) (C := RX2) (Tb := TX2) (N := 3) (fs := [.null, .null, .null]) hx hb hts in_wsX20 tyX2 tyX2_ok hown (hts (.classLink RX3 7 RX2) (by decide +kernel)) (hts (.instantiable RX2 3) (by decide +kernel)) (hts (.initialized RX2) (by decide +kernel)) hK hS rfl (fun j hj => by rcases (show j = 0 ∨ j = 1 ∨ j = 2 by omega) with rfl | rfl | rfl <;> rfl) (show 0 + 1 ≤ 101 by omega) (show 0 + 3 ≤ 2774 by omega) dX3_init_5 (fun q_1 H_1 hq_1 hat hz9 hF9 hS => ?_)
  refine W.widen (k := 1) (n := 3) (by omega) (by omega) ?_
  have hO := hF9.at hO (fun z => z)
  have hV := hat
  have hq1 : o < q_1 := by omega
  refine lv_dup hx hb dX3_init_8 rfl ?_
  refine va_callv (va_runIN (As := []) (rest := [.ref q_1, .ref o]) ⟨hx, hb, hml, hown, hts⟩ (k_X2_init l D T q_1 H_1.size ) (⟨va_cnB 0 hts ggX3_init_X2_init rfl rfl rfl (hK.2.m (args := ([.ref o] : List Value).toArray) 0 rfl) (hts (.initialized RX2) (by decide +kernel)) (by decide +kernel) ⟨Nat.le_of_ble_eq_true rfl, Nat.le_of_ble_eq_true rfl⟩, rfl, hts (.instanceMethod yX2_init) (by decide +kernel)⟩) (pre_A (Φ := fun X => X.size = H_1.size ∧ va_at D vwCl (q_1, .inr (2, [.null, .null, .null])) X) hKA ⟨rfl, hV⟩) rfl rfl hl.1 rfl (lv_room (Nat.le_of_ble_eq_true rfl)) dX3_init_9 ⟨show 1 + 15 ≤ 101 by omega, show 3 + 414 ≤ 2774 by omega⟩) hS (fun q h1 (h2 : q = q_1 ∨ H_1.size ≤ q) => Or.inr (by omega)) (fun (q : Nat) (h2 : q = q_1 ∨ H_1.size ≤ q) => Or.inr (by omega)) (fun u_1 t H_2 locs ht hvm hw hB hz hk hS => ?_)
  rw [ht] at hB
  refine W.widen (k := 16) (n := 417) (by omega) (by omega) ?_
  try dsimp only at hw
  try dsimp only at hB
  have hF8 : Fr (fun q => q = q_1 ∨ H_1.size ≤ q) H_1 H_2 := hk
  have hO := hF8.at hO (fun z => by rcases z with z | z <;> omega)
  obtain ⟨a, ha0, haJ, hage, halt, haS⟩ := hB
  have hage : ∀ x, x < 16 → q_1 ≤ a x := fun x hx => by by_cases h : x = 0; rw [h, ha0]; exact Nat.le_refl _; have h1 := hage x (by omega) hx; omega
  refine r_put (C := RX3) (Tb := TX3) (N := 5) hx hb hts in_wsX30 tyX3 tyX3_ok nmX3 hown hK hS (Or.inl rfl) hO rfl 0 (by decide) (hts (.fieldLink RX3 10 "PieceSets" "now" "LPieceSets$State;") (by decide +kernel)) rfl rfl (ty := .object "PieceSets$State") (by decide +kernel) rfl rfl (show (0 : Nat) < 5 by decide) dX3_init_12 (fun H_3 locs hat oq hS => ?_)
  have hz8 := oq_size hO hat oq
  have haS := haS.fr (Fr.oq oq) (fun x hx z => by have h1 := hage x hx; omega)
  have hO := hat
  have halt : ∀ x, x < 16 → a x < H_3.size := fun x hx => by have h1 := halt x hx; omega
  refine lv_aload_n hx hb dX3_init_15 rfl (lv_at hl 0 rfl) ?_
  refine lv_iconst (v := (nI 5)) hx hb dX3_init_16 (by decide) ?_
  refine r_newR (k := 3) hx hb hown (hts (.classLink RX3 7 RX2) (by decide +kernel)) hKA.2.2 hK rfl hS (n := 5) (by omega) (show 16 + 1 ≤ 101 by omega) (show 417 + 5 ≤ 2774 by omega) dX3_init_17 (fun q_2 H_4 hq_2 hat hz9 hF9 hS => ?_)
  refine W.widen (k := 17) (n := 422) (by omega) (by omega) ?_
  have hO := hF9.at hO (fun z => z)
  have haS := haS.fr hF9 (fun x hx z => z)
  have hR := hat
  have halt : ∀ x, x < 16 → a x < q_2 := fun x hx => by have h1 := halt x hx; omega
  refine r_putF (C := RX3) (Tb := TX3) (N := 5) hx hb hts in_wsX30 tyX3 tyX3_ok nmX3 hown hK hS (Or.inl rfl) hO rfl 1 (by decide) (hts (.fieldLink RX3 16 "PieceSets" "past" "[LPieceSets$State;") (by decide +kernel)) rfl rfl hin rfl (ty := .array (.object "PieceSets$State")) (by decide +kernel) rfl rfl (show (1 : Nat) < 5 by decide) dX3_init_20 (fun H_5 locs hat oq hz8 hS => ?_)
  have hag0 := hage 0 (by omega)
  have hal0 := halt 0 (by omega)
  have hR := (Fr.oq oq).at hR (by omega)
  have haS := haS.fr (Fr.oq oq) (fun x hx z => by have h1 := hage x hx; omega)
  have hO := hat
  refine lv_iconst (v := (nI 0)) hx hb dX3_init_23 (by decide) ?_
  refine lv_istore_n (lv' := [(1, .int (nI 0)), (0, .ref o)]) hx hb dX3_init_24 rfl hl (by decide) rfl (fun ls hl => ?_)
  have loop25 : ∀ (n25 : Nat) (i : Nat) (A : Nat → Nat) (hi : i ≤ 5) (ha0 : A 0 = o) (hJ : injP (Iz i) A) (hge : ∀ x, x = 1 ∨ (6 ≤ x ∧ x < 22 + 16 * i) → sz ≤ A x) (H : Heap) (locs : List Loc) (hO : va_at D vwCl (o, .inr (3, [.ref (slA A 0 0), .ref (A 1), .int 0, .null, .null])) H) (hR : va_at D vwCl (A 1, eR T 3 5 (fun j => if j < i then some (slA A (1 + j) 0) else none)) H) (hN : ∀ n, n < i + 1 → Sta D T H (slA A n) (fun _ _ => 0) (fun _ => 0) (fun _ => 0)) (hL : ∀ x, Iz i x → A x < H.size) (hS : va_S (fun q => q = o ∨ sz ≤ q) s.heap H locs) (ls : Array Slot) (hl : lv_has ls 2 [(0, .ref o), (1, .int (nI i))]) (hn25 : 5 - i < n25), W pg l ev (headSpec wsX3_init ({ frames := 3, cells := 101, slots := 2774, locals := 61 })).room s m ([.ref o] : List Value).toArray below meth c H locs (17 + 16 * i) (422 + 417 * i) Q (F0 m 25 ls []) := by
    intro n25
    induction n25 with
    | zero =>
      intro i A hi ha0 hJ hge H locs hO hR hN hL hS ls hl hn25
      exact absurd hn25 (Nat.not_lt_zero _)
    | succ n25 ih25 =>
      intro i A hi ha0 hJ hge H locs hO hR hN hL hS ls hl hn25
      have hg1 := hge 1 (Or.inl rfl)
      have hl0 := hL 0 (Or.inl rfl)
      have hl1 := hL 1 (Or.inr (Or.inl rfl))
      refine lv_iload_n hx hb dX3_init_25 rfl (lv_at hl 1 rfl) ?_
      refine lv_iconst (v := (nI 5)) hx hb dX3_init_26 (by decide) ?_
      refine lv_icmp_ge (tgt := 49) hx hb dX3_init_27 (by decide) (fun c_1 => ?_) (fun c_1 => ?_)
      · skip
        have c_1 : 5 ≤ i := (nI_leI (a := 5) (b := i) (by omega) (by omega)).mp c_1
        refine lv_aload_n hx hb dX3_init_49 rfl (lv_at hl 0 rfl) ?_
        refine lv_iconst (v := (nI 0)) hx hb dX3_init_50 (by decide) ?_
        refine r_put (C := RX3) (Tb := TX3) (N := 5) hx hb hts in_wsX30 tyX3 tyX3_ok nmX3 hown hK hS (Or.inl rfl) hO rfl 2 (by decide) (hts (.fieldLink RX3 20 "PieceSets" "kept" "I") (by decide +kernel)) rfl rfl (ty := .int) (by decide +kernel) rfl rfl (show (2 : Nat) < 5 by decide) dX3_init_51 (fun H_6 locs hat oq hS => ?_)
        have hz8 := oq_size hO hat oq
        have hF7 := Fr.oq oq
        have hR := hF7.at hR (by omega)
        have hN := fun n (hn : n < i + 1) => (hN n hn).fr hF7 (fun x hx z => by have h1 := hJ (6 + 16 * n + x) 0 (Or.inr (Or.inr (by omega))) (Or.inl rfl) (z.trans ha0.symm); omega)
        have hO := hat
        have hL : ∀ x, Iz i x → A x < H_6.size := fun x hx => by have h1 := hL x hx; omega
        refine lv_aload_n hx hb dX3_init_54 rfl (lv_at hl 0 rfl) ?_
        refine r_newo (ci := 0) (C := RX0) (Tb := TX0) (N := 2) (fs := [.null, .int 0]) hx hb hts in_wsX00 tyX0 tyX0_ok hown (hts (.classLink RX3 24 RX0) (by decide +kernel)) (hts (.instantiable RX0 2) (by decide +kernel)) (hts (.initialized RX0) (by decide +kernel)) hK hS rfl (fun j hj => by rcases (show j = 0 ∨ j = 1 by omega) with rfl | rfl <;> rfl) (show (17 + 16 * i) + 1 ≤ 101 by omega) (show (422 + 417 * i) + 2 ≤ 2774 by omega) dX3_init_55 (fun q_3 H_7 hq_3 hat hz9 hF9 hS => ?_)
        refine W.widen (k := (18 + 16 * i)) (n := (424 + 417 * i)) (by omega) (by omega) ?_
        have hLs : ∀ x, Iz i x → A x < H_6.size := hL
        have hO := hF9.at hO (fun z => z)
        have hR := hF9.at hR (fun z => z)
        have hN := fun n (hn : n < i + 1) => (hN n hn).fr hF9 (fun x hx z => z)
        have hV := hat
        have hl0 := hL 0 (Or.inl rfl)
        have hl1 := hL 1 (Or.inr (Or.inl rfl))
        refine lv_dup hx hb dX3_init_58 rfl ?_
        refine va_callv (va_runIN (As := []) (rest := [.ref q_3, .ref o]) ⟨hx, hb, hml, hown, hts⟩ (k_X0_init l D T q_3 H_7.size ) (⟨va_cnB 0 hts ggX3_init_X0_init rfl rfl rfl (hK.2.m (args := ([.ref o] : List Value).toArray) 6 rfl) (hts (.initialized RX0) (by decide +kernel)) (by decide +kernel) ⟨Nat.le_of_ble_eq_true rfl, Nat.le_of_ble_eq_true rfl⟩, rfl, hts (.instanceMethod yX0_init) (by decide +kernel)⟩) (pre_S (Φ := fun X => X.size = H_7.size ∧ va_at D vwCl (q_3, .inr (0, [.null, .int 0])) X) hK ⟨rfl, hV⟩) rfl rfl hl.1 rfl (lv_room (Nat.le_of_ble_eq_true rfl)) dX3_init_59 ⟨show (18 + 16 * i) + 1 ≤ 101 by omega, show (424 + 417 * i) + 200 ≤ 2774 by omega⟩) hS (fun q h1 (h2 : q = q_3 ∨ H_7.size ≤ q) => Or.inr (by omega)) (fun (q : Nat) (h2 : q = q_3 ∨ H_7.size ≤ q) => Or.inr (by omega)) (fun u_2 t H_8 locs ht hvm hw hB hz hk hS => ?_)
        rw [ht] at hB
        refine W.widen (k := (19 + 16 * i)) (n := (624 + 417 * i)) (by omega) (by omega) ?_
        try dsimp only at hw
        try dsimp only at hB
        have hF8 : Fr (fun q => q = q_3 ∨ H_7.size ≤ q) H_7 H_8 := hk
        have hO := hF8.at hO (fun z => by rcases z with z | z <;> omega)
        have hR := hF8.at hR (fun z => by rcases z with z | z <;> omega)
        have hN := fun n (hn : n < i + 1) => (hN n hn).fr hF8 (fun x hx z => by have h1 := hL (6 + 16 * n + x) (Or.inr (Or.inr (by omega))); have h2 : slA A n x = A (6 + 16 * n + x) := rfl; rcases z with z | z <;> omega)
        obtain ⟨wb, hwb, hBf⟩ := hB
        have hL : ∀ x, Iz i x → A x < H_8.size := fun x hx => by have h1 := hL x hx; omega
        have hbl2 := va_at.lt hBf.2
        refine r_putF (C := RX3) (Tb := TX3) (N := 5) hx hb hts in_wsX30 tyX3 tyX3_ok nmX3 hown hK hS (Or.inl rfl) hO rfl 3 (by decide) (hts (.fieldLink RX3 27 "PieceSets" "buffer" "LPieceSets$Buffer;") (by decide +kernel)) rfl rfl hin rfl (ty := .object "PieceSets$Buffer") (by decide +kernel) rfl rfl (show (3 : Nat) < 5 by decide) dX3_init_62 (fun H_9 locs hat oq hz8 hS => ?_)
        have hF7 := Fr.oq oq
        have hR := hF7.at hR (by omega)
        have hN := fun n (hn : n < i + 1) => (hN n hn).fr hF7 (fun x hx z => by have h1 := hJ (6 + 16 * n + x) 0 (Or.inr (Or.inr (by omega))) (Or.inl rfl) (z.trans ha0.symm); omega)
        have hO := hat
        have hL : ∀ x, Iz i x → A x < H_9.size := fun x hx => by have h1 := hL x hx; omega
        have hBf := hBf.fr hF7 (by omega) (by omega)
        refine lv_aload_n hx hb dX3_init_65 rfl (lv_at hl 0 rfl) ?_
        refine r_newo (ci := 1) (C := RX1) (Tb := TX1) (N := 1) (fs := [.null]) hx hb hts in_wsX10 tyX1 tyX1_ok hown (hts (.classLink RX3 31 RX1) (by decide +kernel)) (hts (.instantiable RX1 1) (by decide +kernel)) (hts (.initialized RX1) (by decide +kernel)) hK hS rfl (fun j hj => by rcases (show j = 0 by omega) with rfl <;> rfl) (show (19 + 16 * i) + 1 ≤ 101 by omega) (show (624 + 417 * i) + 1 ≤ 2774 by omega) dX3_init_66 (fun q_4 H_10 hq_4 hat hz9 hF9 hS => ?_)
        refine W.widen (k := (20 + 16 * i)) (n := (625 + 417 * i)) (by omega) (by omega) ?_
        have hbl1 := va_at.lt hBf.1
        have hbl2 := va_at.lt hBf.2
        have hO := hF9.at hO (fun z => z)
        have hR := hF9.at hR (fun z => z)
        have hN := fun n (hn : n < i + 1) => (hN n hn).fr hF9 (fun x hx z => z)
        have hV := hat
        have hl0 := hL 0 (Or.inl rfl)
        have hl1 := hL 1 (Or.inr (Or.inl rfl))
        have hBf := hBf.fr hF9 (fun z => z) (fun z => z)
        refine lv_dup hx hb dX3_init_69 rfl ?_
        refine va_callv (va_runIN (As := []) (rest := [.ref q_4, .ref o]) ⟨hx, hb, hml, hown, hts⟩ (k_X1_init l D T q_4 H_10.size ) (⟨va_cnB 0 hts ggX3_init_X1_init rfl rfl rfl (hK.2.m (args := ([.ref o] : List Value).toArray) 8 rfl) (hts (.initialized RX1) (by decide +kernel)) (by decide +kernel) ⟨Nat.le_of_ble_eq_true rfl, Nat.le_of_ble_eq_true rfl⟩, rfl, hts (.instanceMethod yX1_init) (by decide +kernel)⟩) (pre_S (Φ := fun X => X.size = H_10.size ∧ va_at D vwCl (q_4, .inr (1, [.null])) X) hK ⟨rfl, hV⟩) rfl rfl hl.1 rfl (lv_room (Nat.le_of_ble_eq_true rfl)) dX3_init_70 ⟨show (20 + 16 * i) + 1 ≤ 101 by omega, show (625 + 417 * i) + 64 ≤ 2774 by omega⟩) hS (fun q h1 (h2 : q = q_4 ∨ H_10.size ≤ q) => Or.inr (by omega)) (fun (q : Nat) (h2 : q = q_4 ∨ H_10.size ≤ q) => Or.inr (by omega)) (fun u_3 t H_11 locs ht hvm hw hB hz hk hS => ?_)
        rw [ht] at hB
        refine W.widen (k := (21 + 16 * i)) (n := (689 + 417 * i)) (by omega) (by omega) ?_
        try dsimp only at hw
        try dsimp only at hB
        have hF8 : Fr (fun q => q = q_4 ∨ H_10.size ≤ q) H_10 H_11 := hk
        have hO := hF8.at hO (fun z => by rcases z with z | z <;> omega)
        have hR := hF8.at hR (fun z => by rcases z with z | z <;> omega)
        have hN := fun n (hn : n < i + 1) => (hN n hn).fr hF8 (fun x hx z => by have h1 := hL (6 + 16 * n + x) (Or.inr (Or.inr (by omega))); have h2 : slA A n x = A (6 + 16 * n + x) := rfl; rcases z with z | z <;> omega)
        have hBf := hBf.fr hF8 (fun z => by rcases z with z | z <;> omega) (fun z => by rcases z with z | z <;> omega)
        obtain ⟨wn, hwn, hSc⟩ := hB
        have hL : ∀ x, Iz i x → A x < H_11.size := fun x hx => by have h1 := hL x hx; omega
        have hsl2 := va_at.lt hSc.2
        refine r_putF (C := RX3) (Tb := TX3) (N := 5) hx hb hts in_wsX30 tyX3 tyX3_ok nmX3 hown hK hS (Or.inl rfl) hO rfl 4 (by decide) (hts (.fieldLink RX3 34 "PieceSets" "scratch" "LPieceSets$Numbers;") (by decide +kernel)) rfl rfl hin rfl (ty := .object "PieceSets$Numbers") (by decide +kernel) rfl rfl (show (4 : Nat) < 5 by decide) dX3_init_73 (fun H_12 locs hat oq hz8 hS => ?_)
        have hF7 := Fr.oq oq
        have hR := hF7.at hR (by omega)
        have hN := fun n (hn : n < i + 1) => (hN n hn).fr hF7 (fun x hx z => by have h1 := hJ (6 + 16 * n + x) 0 (Or.inr (Or.inr (by omega))) (Or.inl rfl) (z.trans ha0.symm); omega)
        have hO := hat
        have hL : ∀ x, Iz i x → A x < H_12.size := fun x hx => by have h1 := hL x hx; omega
        have hBf := hBf.fr hF7 (by omega) (by omega)
        have hSc := hF7.num hSc (by omega) (by omega)
        subst hQ
        have hi5 : i = 5 := by omega
        subst hi5
        obtain ⟨b, hbd⟩ : ∃ b : Nat → Nat, b = fun x => if x = 2 then q_3 else if x = 3 then wb else if x = 4 then q_4 else if x = 5 then wn else A x := ⟨_, rfl⟩
        have e0 : ∀ x, Iz 5 x → b x = A x := fun x hx => by rw [hbd]; show (if x = 2 then _ else if x = 3 then _ else if x = 4 then _ else if x = 5 then _ else _) = _; unfold Iz at hx; rw [if_neg (by omega), if_neg (by omega), if_neg (by omega), if_neg (by omega)]
        have e2 : b 2 = q_3 := by rw [hbd]; rfl
        have e3 : b 3 = wb := by rw [hbd]; rfl
        have e4 : b 4 = q_4 := by rw [hbd]; rfl
        have e5 : b 5 = wn := by rw [hbd]; rfl
        have es : ∀ n, n < 6 → ∀ j, j < 16 → slA b n j = slA A n j := fun n hn j hj => e0 _ (Or.inr (Or.inr (by omega)))
        have hfin : ∃ A : Nat → Nat, A 0 = o ∧ (∀ x, 1 ≤ x → x < 102 → sz ≤ A x) ∧ (∀ x, x < 102 → A x < H_12.size) ∧ PSr D T H_12 A 0 (fun _ => 0) 0 (fun _ => 0) (fun _ _ _ => 0) (fun _ _ => 0) (fun _ _ => 0) := by
          refine ⟨b, (e0 0 (Or.inl rfl)).trans ha0, ?_, ?_, ?_, ?_, ?_, ?_, ?_, ?_⟩
          · intro x h1 h2
            rcases (show x = 2 ∨ x = 3 ∨ x = 4 ∨ x = 5 ∨ (x = 1 ∨ 6 ≤ x) by omega) with rfl | rfl | rfl | rfl | h
            · rw [e2]; omega
            · rw [e3]; omega
            · rw [e4]; omega
            · rw [e5]; omega
            · rw [e0 x (by unfold Iz; omega)]; exact hge x (by omega)
          · intro x h2
            rcases (show x = 2 ∨ x = 3 ∨ x = 4 ∨ x = 5 ∨ (x = 0 ∨ x = 1 ∨ 6 ≤ x) by omega) with rfl | rfl | rfl | rfl | h
            · rw [e2]; exact va_at.lt hBf.1
            · rw [e3]; exact va_at.lt hBf.2
            · rw [e4]; exact va_at.lt hSc.1
            · rw [e5]; exact va_at.lt hSc.2
            · exact (e0 x (by unfold Iz; omega)) ▸ hL x (by unfold Iz; omega)
          · have h9 : injP (fun x => x < 102) b := injP.ext hJ hLs e0 (Q := fun x => x = 2 ∨ x = 3 ∨ x = 4 ∨ x = 5) (fun x y hx hy z => by rcases hx with rfl | rfl | rfl | rfl <;> rcases hy with rfl | rfl | rfl | rfl <;> first | rfl | (simp only [e2, e3, e4, e5] at z; omega)) (fun x hx => by rcases hx with rfl | rfl | rfl | rfl <;> simp only [e2, e3, e4, e5] <;> omega) (fun x hx => by unfold Iz; omega)
            exact fun i j h1 h2 h3 => h9 i j h1 h2 h3
          · rw [e0 0 (Or.inl rfl), es 0 (by omega) 0 (by omega), e0 1 (Or.inr (Or.inl rfl)), e2, e4, ha0]; exact hO
          · rw [e0 1 (Or.inr (Or.inl rfl))]; exact at_congR hR (fun j hj => by rw [es (1 + j) (by omega) 0 (by omega)]; exact if_pos hj)
          · rw [e2, e3]; exact hBf
          · rw [e4, e5]; exact hSc
          · intro n hn; exact (hN n hn).eqa (fun j hj => es n hn j hj)
        refine W.widen (k := 101) (n := 2774) (by omega) (by omega) ?_
        exact W.vret hx hb hr (fun t ht hW => ⟨⟨(), rfl, trivial, by have h9 := hfin; rw [← ht] at h9; exact h9⟩, hS.F ht⟩) hS.2.2 dX3_init_76
      · skip
        have c_1 : ¬ (5 ≤ i) := fun z => c_1 ((nI_leI (a := 5) (b := i) (by omega) (by omega)).mpr z)
        refine lv_aload_n hx hb dX3_init_30 rfl (lv_at hl 0 rfl) ?_
        refine r_get (C := RX3) (Tb := TX3) (N := 5) hx hb hts in_wsX30 hown hK (hO) rfl 1 (by decide) (hts (.fieldLink RX3 16 "PieceSets" "past" "[LPieceSets$State;") (by decide +kernel)) rfl (v := .ref (A 1)) rfl dX3_init_31 ?_
        refine lv_iload_n hx hb dX3_init_34 rfl (lv_at hl 1 rfl) ?_
        refine r_newo (ci := 2) (C := RX2) (Tb := TX2) (N := 3) (fs := [.null, .null, .null]) hx hb hts in_wsX20 tyX2 tyX2_ok hown (hts (.classLink RX3 7 RX2) (by decide +kernel)) (hts (.instantiable RX2 3) (by decide +kernel)) (hts (.initialized RX2) (by decide +kernel)) hK hS rfl (fun j hj => by rcases (show j = 0 ∨ j = 1 ∨ j = 2 by omega) with rfl | rfl | rfl <;> rfl) (show (17 + 16 * i) + 1 ≤ 101 by omega) (show (422 + 417 * i) + 3 ≤ 2774 by omega) dX3_init_35 (fun q_3 H_6 hq_3 hat hz9 hF9 hS => ?_)
        refine W.widen (k := (18 + 16 * i)) (n := (425 + 417 * i)) (by omega) (by omega) ?_
        have hO := hF9.at hO (fun z => z)
        have hR := hF9.at hR (fun z => z)
        have hN := fun n hn => (hN n hn).fr hF9 (fun x hx z => z)
        have hV := hat
        refine lv_dup hx hb dX3_init_38 rfl ?_
        refine va_callv (va_runIN (As := []) (rest := [.ref q_3, .int (nI i), .ref (A 1)]) ⟨hx, hb, hml, hown, hts⟩ (k_X2_init l D T q_3 H_6.size ) (⟨va_cnB 0 hts ggX3_init_X2_init rfl rfl rfl (hK.2.m (args := ([.ref o] : List Value).toArray) 0 rfl) (hts (.initialized RX2) (by decide +kernel)) (by decide +kernel) ⟨Nat.le_of_ble_eq_true rfl, Nat.le_of_ble_eq_true rfl⟩, rfl, hts (.instanceMethod yX2_init) (by decide +kernel)⟩) (pre_A (Φ := fun X => X.size = H_6.size ∧ va_at D vwCl (q_3, .inr (2, [.null, .null, .null])) X) hKA ⟨rfl, hV⟩) rfl rfl hl.1 rfl (lv_room (Nat.le_of_ble_eq_true rfl)) dX3_init_39 ⟨show (18 + 16 * i) + 15 ≤ 101 by omega, show (425 + 417 * i) + 414 ≤ 2774 by omega⟩) hS (fun q h1 (h2 : q = q_3 ∨ H_6.size ≤ q) => Or.inr (by omega)) (fun (q : Nat) (h2 : q = q_3 ∨ H_6.size ≤ q) => Or.inr (by omega)) (fun u_2 t H_7 locs ht hvm hw hB hz hk hS => ?_)
        rw [ht] at hB
        refine W.widen (k := (33 + 16 * i)) (n := (839 + 417 * i)) (by omega) (by omega) ?_
        try dsimp only at hw
        try dsimp only at hB
        have hF8 : Fr (fun q => q = q_3 ∨ H_6.size ≤ q) H_6 H_7 := hk
        have hO := hF8.at hO (fun z => by rcases z with z | z <;> omega)
        have hR := hF8.at hR (fun z => by rcases z with z | z <;> omega)
        have hN := fun n (hn : n < i + 1) => (hN n hn).fr hF8 (fun x hx z => by have h1 := hL (6 + 16 * n + x) (Or.inr (Or.inr (by omega))); have h2 : slA A n x = A (6 + 16 * n + x) := rfl; rcases z with z | z <;> omega)
        obtain ⟨a, hb0, haJ, hage, halt, haS⟩ := hB
        have hage : ∀ x, x < 16 → q_3 ≤ a x := fun x hx => by by_cases h : x = 0; rw [h, hb0]; exact Nat.le_refl _; have h1 := hage x (by omega) hx; omega
        have hV := haS.1
        rw [hb0] at hV
        refine r_sast hx hb hK hS (Or.inr (hge 1 (Or.inl rfl))) hR hV (i := i) (by omega) (by decide) dX3_init_42 (fun H_8 locs hat oq hS => ?_)
        have hz8 := oq_size hR hat oq
        have hF7 := Fr.oq oq
        obtain ⟨b, hbd⟩ : ∃ b : Nat → Nat, b = fun x => if 22 + 16 * i ≤ x then a (x - (22 + 16 * i)) else A x := ⟨_, rfl⟩
        have e0 : ∀ x, x < 22 + 16 * i → b x = A x := fun x hx => by rw [hbd]; exact if_neg (by omega)
        have e1 : ∀ j, b (22 + 16 * i + j) = a j := fun j => by rw [hbd]; show (if 22 + 16 * i ≤ 22 + 16 * i + j then a (22 + 16 * i + j - (22 + 16 * i)) else _) = _; rw [if_pos (by omega), Nat.add_sub_cancel_left]
        have es : ∀ n, n < i + 1 → ∀ j, j < 16 → slA b n j = slA A n j := fun n hn j hj => e0 _ (by omega)
        have en : ∀ j, j < 16 → slA b (i + 1) j = a j := fun j _ => by show b (6 + 16 * (i + 1) + j) = a j; rw [show 6 + 16 * (i + 1) + j = 22 + 16 * i + j by omega]; exact e1 j
        have hag0 := hage 0 (by omega)
        have hO := hF7.at hO (by omega)
        rw [← es 0 (by omega) 0 (by omega), ← e0 1 (by omega)] at hO
        rw [← e0 1 (by omega)] at hat
        have hR := at_congR hat (g := (fun j => if j < (i + 1) then some (slA b (1 + j) 0) else none)) (fun j hj => by
          show (if j = i then _ else if j < i then _ else _) = if j < i + 1 then _ else _
          by_cases h : j = i
          · subst h; rw [if_pos rfl, if_pos (by omega), show 1 + j = j + 1 by omega, en 0 (by omega), hb0]
          · rw [if_neg h]
            by_cases h2 : j < i
            · rw [if_pos h2, if_pos (by omega), es (1 + j) (by omega) 0 (by omega)]
            · rw [if_neg h2, if_neg (by omega)])
        have hN : ∀ n, n < i + 1 + 1 → Sta D T H_8 (slA b n) (fun _ _ => 0) (fun _ => 0) (fun _ => 0) := fun n hn => by
          by_cases h : n = i + 1
          · subst h; exact (haS.fr hF7 (fun x hx z => by have h1 := hage x hx; omega)).eqa (fun j hj => en j hj)
          · exact ((hN n (by omega)).fr hF7 (fun x hx z => by have h1 := hJ (6 + 16 * n + x) 1 (Or.inr (Or.inr (by omega))) (Or.inr (Or.inl rfl)) z; omega)).eqa (fun j hj => es n (by omega) j hj)
        have hJ : injP (Iz (i + 1)) b := injP.ext hJ hL (fun x hx => e0 x (by rcases hx with h | h | h <;> omega)) (Q := fun x => 22 + 16 * i ≤ x ∧ x < 38 + 16 * i) (fun x y hx hy z => by rw [show x = 22 + 16 * i + (x - (22 + 16 * i)) by omega, show y = 22 + 16 * i + (y - (22 + 16 * i)) by omega, e1, e1] at z; have h1 := haJ _ _ (by omega) (by omega) z; omega) (fun x hx => by rw [show x = 22 + 16 * i + (x - (22 + 16 * i)) by omega, e1]; have h1 := hage (x - (22 + 16 * i)) (by omega); omega) (fun x hx => by unfold Iz at *; omega)
        have hge : ∀ x, x = 1 ∨ (6 ≤ x ∧ x < 22 + 16 * (i + 1)) → sz ≤ b x := fun x hx => by
          by_cases h : x < 22 + 16 * i
          · rw [e0 x h]; exact hge x (by omega)
          · rw [show x = 22 + 16 * i + (x - (22 + 16 * i)) by omega, e1]; have h1 := hage (x - (22 + 16 * i)) (by omega); omega
        have hL : ∀ x, Iz (i + 1) x → b x < H_8.size := fun x hx => by
          by_cases h : x < 22 + 16 * i
          · rw [e0 x h]; have h1 := hL x (by unfold Iz at *; omega); omega
          · rw [show x = 22 + 16 * i + (x - (22 + 16 * i)) by omega, e1]; have h1 := halt (x - (22 + 16 * i)) (by unfold Iz at *; omega); omega
        refine lv_iinc (v := (nI (i + 1))) (lv' := [(1, .int (nI (i + 1))), (0, .ref o)]) hx hb dX3_init_43 hl (k := 1) rfl (iinc_n i 1) (by decide) rfl (fun ls hl => ?_)
        refine lv_goto (tgt := 25) hx hb dX3_init_46 (by decide) ?_
        refine W.widen (k := (17 + 16 * (i + 1))) (n := (422 + 417 * (i + 1))) (by omega) (by omega) ?_
        have hl := lv_sub hl (l' := [(0, .ref o), (1, .int (nI (i + 1)))]) [1, 0] rfl
        exact ih25 (i + 1) b (by omega) ((e0 0 (by omega)).trans ha0) (hJ) (hge) H_8 _ hO hR hN hL hS ls hl (by omega)
  obtain ⟨A0, hA0⟩ : ∃ A0 : Nat → Nat, A0 = fun x => if x = 0 then o else if x = 1 then q_2 else a (x - 6) := ⟨_, rfl⟩
  have e0 : A0 0 = o := by rw [hA0]; exact if_pos rfl
  have e1 : A0 1 = q_2 := by rw [hA0]; rfl
  have e6 : ∀ j, A0 (6 + j) = a j := fun j => by rw [hA0]; show (if 6 + j = 0 then _ else if 6 + j = 1 then _ else a (6 + j - 6)) = _; rw [if_neg (by omega), if_neg (by omega), Nat.add_sub_cancel_left]
  have hsl : ∀ j, j < 16 → slA A0 0 j = a j := fun j _ => by show A0 (6 + 16 * 0 + j) = a j; rw [show 6 + 16 * 0 + j = 6 + j by omega]; exact e6 j
  have hb9 : ∀ x, 6 ≤ x → x < 22 → q_1 ≤ A0 x ∧ A0 x < q_2 := fun x h1 h2 => by rw [show x = 6 + (x - 6) by omega, e6]; exact ⟨hage _ (by omega), halt _ (by omega)⟩
  have hL : ∀ x, Iz 0 x → A0 x < H_5.size := fun x hx => by rcases hx with rfl | rfl | hx; rw [e0]; omega; rw [e1]; omega; have h1 := hb9 x hx.1 (by omega); omega
  have hN : ∀ n, n < 0 + 1 → Sta D T H_5 (slA A0 n) (fun _ _ => 0) (fun _ => 0) (fun _ => 0) := fun n hn => by rw [show n = 0 by omega]; exact haS.eqa (fun j hj => hsl j hj)
  have hR : va_at D vwCl (A0 1, eR T 3 5 (fun j => if j < 0 then some (slA A0 (1 + j) 0) else none)) H_5 := by rw [e1]; exact at_congR hR (fun j _ => (if_neg (Nat.not_lt_zero _)).symm)
  have hO : va_at D vwCl (o, .inr (3, [.ref (slA A0 0 0), .ref (A0 1), .int 0, .null, .null])) H_5 := by rw [hsl 0 (by omega), e1, ha0]; exact hO
  have hJ : injP (Iz 0) A0 := fun x y hx hy z => by
    rcases hx with rfl | rfl | hx <;> rcases hy with rfl | rfl | hy
    · rfl
    · rw [e0, e1] at z; omega
    · rw [e0] at z; have h1 := hb9 y hy.1 (by omega); omega
    · rw [e0, e1] at z; omega
    · rfl
    · rw [e1] at z; have h1 := hb9 y hy.1 (by omega); omega
    · rw [e0] at z; have h1 := hb9 x hx.1 (by omega); omega
    · rw [e1] at z; have h1 := hb9 x hx.1 (by omega); omega
    · rw [show x = 6 + (x - 6) by omega, show y = 6 + (y - 6) by omega, e6, e6] at z; have h1 := haJ _ _ (by omega) (by omega) z; omega
  have hge : ∀ x, x = 1 ∨ (6 ≤ x ∧ x < 22 + 16 * 0) → sz ≤ A0 x := fun x hx => by rcases hx with rfl | hx; rw [e1]; omega; have h1 := hb9 x hx.1 (by omega); omega
  refine W.widen (k := (17 + 16 * 0)) (n := (422 + 417 * 0)) (by omega) (by omega) ?_
  have hl := lv_sub hl (l' := [(0, .ref o), (1, .int (nI 0))]) [1, 0] rfl
  exact loop25 (5 - 0 + 1) 0 A0 (Nat.zero_le _) (e0) (hJ) (hge) H_5 _ hO hR hN hL hS ls hl (Nat.lt_succ_self _)
