/-! THE CLAIM OUT OF ONE WALK OF THE LAW'S BODY. Your part is whole_start (and what it stands on); all else here is the same for every law, but numbers. -/
def R_law : String := "PieceSetsLaw"
def lw_P (b : Addr) (xs : List Int32) (args : Array Value) (s : State) : Prop := args = #[.ref b] ∧ s.IntsAt b xs ∧ xs.length ≤ 2560 ∧ (Jvm.Cond.and given_1 narrow_1).before args s = true
def lw_Q (_ : Array Value) (s : State) (o : Outcome) (t : State) : Prop := o = .returned (some (.int 1)) ∧ Framed s o t [] 600000 7302250
def lw_Z (below : List Frame) (a : Array Value) (s : State) : State → Prop := fun t => ∃ o, t.status = .running ∧ Ended t below o ∧ lw_Q a s o t
/-- the law's own end, with 1 on the stack, nothing written that was there before, its room as the claim has it -/
theorem lw_ret {p : Program} {l : Launch} {e : Env} {s : State} {m : MethodId} {below : List Frame} {meth : Method} {c : Code} {b : Nat} (hx : p.tables.exec = Jvm.exec) (hb : c.code = code) (hr : meth.sig.returnType = ret) (hlocks : meth.locks = false) {pc : Nat} {H : Heap} {ls : Array Slot} (hdg : decode code pc = .ok (.ireturn, 1)) : W p l e room_1 s m #[Value.ref b] below meth c H [] 600000 7302250 (lw_Z below #[Value.ref b] s) (F0 m pc ls [.int 1]) := by
  intro T hT X
  obtain ⟨fs, hret, hrun, hended, hW, hframe⟩ := X.leave (v := some (.int 1)) (hlocks := hlocks) (fun h => by rw [hr] at h; cases h)
  have hmeth' : T.vm.method? m = some meth := X.method'
  refine ⟨T.setFrames fs, ?_, .returned (some (.int 1)), hrun, hended, rfl, ⟨_, rfl⟩, hW, hframe⟩
  jvm_step X.here [X.here.top, hx, hb, hdg, hmeth', hr, ret, narrow_b1]
  (try refine ⟨rfl, ?_⟩); (try refine ⟨rfl, ?_⟩)
  first | (intro acts; rw [hret _ acts rfl rfl rfl]) | rw [hret _ _ rfl rfl rfl]
  exact Steps.refl _
/-- what holds at the law's entry: the machine, the code, the tables' words (any of lw_tbl by 'hts w (by decide +kernel)'), the script of L ints xs at the cell b, what the Statement gives of the start (any of its parts by flat_of_before) -/
def lw_At (p : Program) (s : State) (m : MethodId) (meth : Method) (c : Code) (b L : Nat) (xs : Nat → Int32) : Prop :=
  p.tables.exec = Jvm.exec ∧ c.code = code ∧ meth.sig.returnType = ret ∧ c.maxLocals = 4 ∧ s.vm.findClass R_law = some m.cls ∧ (∀ w ∈ lw_tbl, w.before #[Value.ref b] s = true) ∧ va_X b L xs s s.heap ∧ b < s.heap.size ∧ meth.locks = false ∧ (Jvm.Cond.and given_1 narrow_1).before #[Value.ref b] s = true
set_option maxHeartbeats 4000000 in
set_option maxRecDepth 100000 in
theorem law_loop {p : Program} {l : Launch} {e : Env} {s : State} {m : MethodId} {below : List Frame} {meth : Method} {c : Code} {b L : Nat} {xs : Nat → Int32} {D : va_G} {T : Nat → ClassId} {Q : State → Prop} {Sx Sy : Nat → Prop} (hL : L ≤ 2560) (hx : p.tables.exec = Jvm.exec) (hb : c.code = cL_law) (hml : c.maxLocals = 4) (hown : s.vm.findClass RL = some m.cls) (hts : ∀ w ∈ wsL_law, w.before #[Value.ref b] s = true) (hX : va_X b L xs s s.heap) (hbl : b < s.heap.size) (hK : KS D T s) (hSq : ∀ q, Sx q → s.heap.size ≤ q) (hTq : ∀ q, Sy q → s.heap.size ≤ q) (hdis : ∀ q, Sx q → ¬ Sy q) (hb0 : c.code = code) (hr : meth.sig.returnType = ret) (hlocks : meth.locks = false) {o : Nat} {M : Nat → Nat} (hQ : Q = lw_Z below #[Value.ref b] s) : ∀ (k n : Nat) (fi : FS) (A : Nat → Nat) (H : Heap) (locs : List Loc), n ≤ L + 5 → L + 6 ≤ n + k → A 0 = o → PSE D T H A Sx fi → MSE D T H M Sy fi → va_S (fun q : Nat => s.heap.size ≤ q) s.heap H locs → ∀ (ls : Array Slot), lv_has ls 4 [(0, .ref b), (1, .ref o), (2, .ref (M 0)), (3, .int (nI n))] → W p l e room_1 s m #[Value.ref b] below meth c H locs 113 8645 Q (F0 m 18 ls []) := by
  have hbA : ¬ (fun q : Nat => s.heap.size ≤ q) b := Nat.not_le.mpr hbl
  intro k
  induction k with
  | zero => intro n fi A H locs h1 h2; exact absurd h2 (by omega)
  | succ k ih =>
    intro n fi A H locs hnL hk hA0 hP hM hS ls hl
    subst hA0
    refine lv_iload_n hx hb dL_law_18 rfl (lv_at hl 3 rfl) ?_
    refine lv_aload_n hx hb dL_law_19 rfl (lv_at hl 0 rfl) ?_
    refine va_slen hx hb hX hbl hbA hS dL_law_20 ?_
    refine top_i (x' := nI L) rfl ?_
    refine lv_iconst (v := nI 5) hx hb dL_law_21 (by decide) ?_
    refine lv_isub hx hb dL_law_22 ?_
    refine lv_icmp_gt (tgt := 1002) hx hb dL_law_23 (by decide) (fun c_1 => ?_) (fun c_1 => ?_)
    · subst hQ
      refine lv_iconst (v := 1) hx hb dL_law_1002 (by decide) ?_
      refine va_forget (fun q hq => hS.2.2 q hq) ?_
      refine W.widen (k := 600000) (n := 7302250) (by omega) (by omega) ?_
      exact lw_ret hx hb0 hr hlocks dL_law_1003
    · have hn : n + 5 ≤ L := by
        have h9 : ¬ (L < n + 5) := fun z => c_1 ((law_cmp hL hnL).mpr z)
        omega
      have kk : ∀ (fi' : FS) (A' : Nat → Nat) (H' : Heap) (locs' : List Loc), A' 0 = A 0 → PSE D T H' A' Sx fi' → MSE D T H' M Sy fi' → va_S (fun q : Nat => s.heap.size ≤ q) s.heap H' locs' → W p l e room_1 s m #[Value.ref b] below meth c H' locs' 113 8645 Q (F0 m 996 ls []) := by
        intro fi' A' H' locs' hA' hP' hM' hS'
        refine lv_iinc (v := nI (n + 5)) (lv' := [(3, .int (nI (n + 5))), (0, .ref b), (1, .ref (A 0)), (2, .ref (M 0))]) hx hb dL_law_996 hl (k := 3) rfl (iinc_n n 5) (by decide) rfl (fun ls hl => ?_)
        refine lv_goto (tgt := 18) hx hb dL_law_999 (by decide) ?_
        exact ih (n + 5) fi' A' H' locs' (by omega) (by omega) hA' hP' hM' hS' ls (lv_sub hl [1, 2, 3, 0] rfl)
      refine lv_aload_n hx hb dL_law_26 rfl (lv_at hl 0 rfl) ?_
      refine lv_iload_n hx hb dL_law_27 rfl (lv_at hl 3 rfl) ?_
      refine va_sld hx hb hX hbl hbA hS (vp_in_nI (show n < L by omega) (by omega)) dL_law_28 ?_
      refine top_i (x' := xs n) (congrArg xs (nI_clamp (by omega))) ?_
      refine lv_bipush (v := nI 31) hx hb dL_law_29 (by decide) ?_
      refine lv_iand hx hb dL_law_31 ?_
      generalize xs n &&& nI 31 = x9
      by_cases d_0 : x9 = nI 0
      · refine top_i (x' := nI 0) d_0 ?_
        refine lv_tableIn (tgt := 148) (off := 116) hx hb dL_law_32 (by decide) (by decide) (by decide) (by decide) ?_
        exact law_c0 hL hx hb hml hown hts hX hbl hK hSq hTq hdis hn hP hM hS hl kk
      by_cases d_1 : x9 = nI 1
      · refine top_i (x' := nI 1) d_1 ?_
        refine lv_tableIn (tgt := 191) (off := 159) hx hb dL_law_32 (by decide) (by decide) (by decide) (by decide) ?_
        exact law_c1 hL hx hb hml hown hts hX hbl hK hSq hTq hdis hn hP hM hS hl kk
      by_cases d_2 : x9 = nI 2
      · refine top_i (x' := nI 2) d_2 ?_
        refine lv_tableIn (tgt := 234) (off := 202) hx hb dL_law_32 (by decide) (by decide) (by decide) (by decide) ?_
        exact law_c2 hL hx hb hml hown hts hX hbl hK hSq hTq hdis hn hP hM hS hl kk
      by_cases d_3 : x9 = nI 3
      · refine top_i (x' := nI 3) d_3 ?_
        refine lv_tableIn (tgt := 277) (off := 245) hx hb dL_law_32 (by decide) (by decide) (by decide) (by decide) ?_
        exact law_c3 hL hx hb hml hown hts hX hbl hK hSq hTq hdis hn hP hM hS hl kk
      by_cases d_4 : x9 = nI 4
      · refine top_i (x' := nI 4) d_4 ?_
        refine lv_tableIn (tgt := 320) (off := 288) hx hb dL_law_32 (by decide) (by decide) (by decide) (by decide) ?_
        exact law_c4 hL hx hb hml hown hts hX hbl hK hSq hTq hdis hn hP hM hS hl kk
      by_cases d_5 : x9 = nI 5
      · refine top_i (x' := nI 5) d_5 ?_
        refine lv_tableIn (tgt := 373) (off := 341) hx hb dL_law_32 (by decide) (by decide) (by decide) (by decide) ?_
        exact law_c5 hL hx hb hml hown hts hX hbl hK hSq hTq hdis hn hP hM hS hl kk
      by_cases d_6 : x9 = nI 6
      · refine top_i (x' := nI 6) d_6 ?_
        refine lv_tableIn (tgt := 406) (off := 374) hx hb dL_law_32 (by decide) (by decide) (by decide) (by decide) ?_
        exact law_c6 hL hx hb hml hown hts hX hbl hK hSq hTq hdis hn hP hM hS hl kk
      by_cases d_7 : x9 = nI 7
      · refine top_i (x' := nI 7) d_7 ?_
        refine lv_tableIn (tgt := 429) (off := 397) hx hb dL_law_32 (by decide) (by decide) (by decide) (by decide) ?_
        exact law_c7 hL hx hb hml hown hts hX hbl hK hSq hTq hdis hn hP hM hS hl kk
      by_cases d_8 : x9 = nI 8
      · refine top_i (x' := nI 8) d_8 ?_
        refine lv_tableIn (tgt := 462) (off := 430) hx hb dL_law_32 (by decide) (by decide) (by decide) (by decide) ?_
        exact law_c8 hL hx hb hml hown hts hX hbl hK hSq hTq hdis hn hP hM hS hl kk
      by_cases d_9 : x9 = nI 9
      · refine top_i (x' := nI 9) d_9 ?_
        refine lv_tableIn (tgt := 495) (off := 463) hx hb dL_law_32 (by decide) (by decide) (by decide) (by decide) ?_
        exact law_c9 hL hx hb hml hown hts hX hbl hK hSq hTq hdis hn hP hM hS hl kk
      by_cases d_10 : x9 = nI 10
      · refine top_i (x' := nI 10) d_10 ?_
        refine lv_tableIn (tgt := 528) (off := 496) hx hb dL_law_32 (by decide) (by decide) (by decide) (by decide) ?_
        exact law_c10 hL hx hb hml hown hts hX hbl hK hSq hTq hdis hn hP hM hS hl kk
      by_cases d_11 : x9 = nI 11
      · refine top_i (x' := nI 11) d_11 ?_
        refine lv_tableIn (tgt := 587) (off := 555) hx hb dL_law_32 (by decide) (by decide) (by decide) (by decide) ?_
        exact law_c11 hL hx hb hml hown hts hX hbl hK hSq hTq hdis hn hP hM hS hl kk
      by_cases d_12 : x9 = nI 12
      · refine top_i (x' := nI 12) d_12 ?_
        refine lv_tableIn (tgt := 610) (off := 578) hx hb dL_law_32 (by decide) (by decide) (by decide) (by decide) ?_
        exact law_c12 hL hx hb hml hown hts hX hbl hK hSq hTq hdis hn hP hM hS hl kk
      by_cases d_13 : x9 = nI 13
      · refine top_i (x' := nI 13) d_13 ?_
        refine lv_tableIn (tgt := 643) (off := 611) hx hb dL_law_32 (by decide) (by decide) (by decide) (by decide) ?_
        exact law_c13 hL hx hb hml hown hts hX hbl hK hSq hTq hdis hn hP hM hS hl kk
      by_cases d_14 : x9 = nI 14
      · refine top_i (x' := nI 14) d_14 ?_
        refine lv_tableIn (tgt := 686) (off := 654) hx hb dL_law_32 (by decide) (by decide) (by decide) (by decide) ?_
        exact law_c14 hL hx hb hml hown hts hX hbl hK hSq hTq hdis hn hP hM hS hl kk
      by_cases d_15 : x9 = nI 15
      · refine top_i (x' := nI 15) d_15 ?_
        refine lv_tableIn (tgt := 709) (off := 677) hx hb dL_law_32 (by decide) (by decide) (by decide) (by decide) ?_
        exact law_c15 hL hx hb hml hown hts hX hbl hK hSq hTq hdis hn hP hM hS hl kk
      by_cases d_16 : x9 = nI 16
      · refine top_i (x' := nI 16) d_16 ?_
        refine lv_tableIn (tgt := 742) (off := 710) hx hb dL_law_32 (by decide) (by decide) (by decide) (by decide) ?_
        exact law_c16 hL hx hb hml hown hts hX hbl hK hSq hTq hdis hn hP hM hS hl kk
      by_cases d_17 : x9 = nI 17
      · refine top_i (x' := nI 17) d_17 ?_
        refine lv_tableIn (tgt := 765) (off := 733) hx hb dL_law_32 (by decide) (by decide) (by decide) (by decide) ?_
        exact law_c17 hL hx hb hml hown hts hX hbl hK hSq hTq hdis hn hP hM hS hl kk
      by_cases d_18 : x9 = nI 18
      · refine top_i (x' := nI 18) d_18 ?_
        refine lv_tableIn (tgt := 778) (off := 746) hx hb dL_law_32 (by decide) (by decide) (by decide) (by decide) ?_
        exact law_c18 hL hx hb hml hown hts hX hbl hK hSq hTq hdis hn hP hM hS hl kk
      by_cases d_19 : x9 = nI 19
      · refine top_i (x' := nI 19) d_19 ?_
        refine lv_tableIn (tgt := 801) (off := 769) hx hb dL_law_32 (by decide) (by decide) (by decide) (by decide) ?_
        exact law_c19 hL hx hb hml hown hts hX hbl hK hSq hTq hdis hn hP hM hS hl kk
      by_cases d_20 : x9 = nI 20
      · refine top_i (x' := nI 20) d_20 ?_
        refine lv_tableIn (tgt := 844) (off := 812) hx hb dL_law_32 (by decide) (by decide) (by decide) (by decide) ?_
        exact law_c20 hL hx hb hml hown hts hX hbl hK hSq hTq hdis hn hP hM hS hl kk
      by_cases d_21 : x9 = nI 21
      · refine top_i (x' := nI 21) d_21 ?_
        refine lv_tableIn (tgt := 903) (off := 871) hx hb dL_law_32 (by decide) (by decide) (by decide) (by decide) ?_
        exact law_c21 hL hx hb hml hown hts hX hbl hK hSq hTq hdis hn hP hM hS hl kk
      by_cases d_22 : x9 = nI 22
      · refine top_i (x' := nI 22) d_22 ?_
        refine lv_tableIn (tgt := 936) (off := 904) hx hb dL_law_32 (by decide) (by decide) (by decide) (by decide) ?_
        exact law_c22 hL hx hb hml hown hts hX hbl hK hSq hTq hdis hn hP hM hS hl kk
      by_cases d_23 : x9 = nI 23
      · refine top_i (x' := nI 23) d_23 ?_
        refine lv_tableIn (tgt := 969) (off := 937) hx hb dL_law_32 (by decide) (by decide) (by decide) (by decide) ?_
        exact law_c23 hL hx hb hml hown hts hX hbl hK hSq hTq hdis hn hP hM hS hl kk
      by_cases d_24 : x9 = nI 24
      · refine top_i (x' := nI 24) d_24 ?_
        refine lv_tableIn (tgt := 982) (off := 950) hx hb dL_law_32 (by decide) (by decide) (by decide) (by decide) ?_
        exact law_c24 hL hx hb hml hown hts hX hbl hK hSq hTq hdis hn hP hM hS hl kk
      refine lv_tableOut (tgt := 996) hx hb dL_law_32 (tab_out 24 (by decide) (fun k hk => by
        rcases (show k = 0 ∨ k = 1 ∨ k = 2 ∨ k = 3 ∨ k = 4 ∨ k = 5 ∨ k = 6 ∨ k = 7 ∨ k = 8 ∨ k = 9 ∨ k = 10 ∨ k = 11 ∨ k = 12 ∨ k = 13 ∨ k = 14 ∨ k = 15 ∨ k = 16 ∨ k = 17 ∨ k = 18 ∨ k = 19 ∨ k = 20 ∨ k = 21 ∨ k = 22 ∨ k = 23 ∨ k = 24 by omega) with rfl | rfl | rfl | rfl | rfl | rfl | rfl | rfl | rfl | rfl | rfl | rfl | rfl | rfl | rfl | rfl | rfl | rfl | rfl | rfl | rfl | rfl | rfl | rfl | rfl <;> first | exact d_0 | exact d_1 | exact d_2 | exact d_3 | exact d_4 | exact d_5 | exact d_6 | exact d_7 | exact d_8 | exact d_9 | exact d_10 | exact d_11 | exact d_12 | exact d_13 | exact d_14 | exact d_15 | exact d_16 | exact d_17 | exact d_18 | exact d_19 | exact d_20 | exact d_21 | exact d_22 | exact d_23 | exact d_24)) (by decide) ?_
      exact kk fi A H locs rfl hP hM hS
set_option maxHeartbeats 4000000 in
set_option maxRecDepth 100000 in
theorem law_start {p : Program} {e : Env} {s : State} {m : MethodId} {below : List Frame} {meth : Method} {c : Code} (l : Launch) {b L : Nat} {xs : Nat → Int32} (hL : L ≤ 2560) (C0 : lw_At p s m meth c b L xs) : W p l e room_1 s m #[Value.ref b] below meth c s.heap [] 0 0 (lw_Z below #[Value.ref b] s) (entryFrame m ([Value.ref b] : List Value).toArray 4) := by
  obtain ⟨hx, hb, hr, hml, hown, hts, hX, hbl, hlocks, hgv⟩ := id C0
  obtain ⟨D, T, hKA⟩ := KA_of hts
  have hK := hKA.1
  have hts := fun w h => hts w (wsL_law_in w h)
  have hown : s.vm.findClass RL = some m.cls := hown
  have hS : va_S (fun q : Nat => s.heap.size ≤ q) s.heap s.heap [] := va_S.rf
  have in_wsX30 := inlX3
  have in_wsX40 := inlX4
  have hl := lv_entry ([.ref b]) (n := 4) (Nat.le_of_ble_eq_true rfl)
  rw [lg_entry_eq]
  generalize (lg_sl ([.ref b]) ++ List.replicate (4 - (lg_sl ([.ref b])).length) Slot.unset).toArray = ls at hl ⊢
  have hl : lv_has ls 4 [(0, .ref b)] := hl
  refine W_gen (fun Q hQ => ?_)
  refine r_newo (ci := 3) (C := RX3) (Tb := TX3) (N := 5) (fs := [.null, .null, .int 0, .null, .null]) hx hb hts in_wsX30 tyX3 tyX3_ok hown (hts (.classLink RL 7 RX3) (by decide +kernel)) (hts (.instantiable RX3 5) (by decide +kernel)) (hts (.initialized RX3) (by decide +kernel)) hK hS rfl (fun j hj => by rcases (show j = 0 ∨ j = 1 ∨ j = 2 ∨ j = 3 ∨ j = 4 by omega) with rfl | rfl | rfl | rfl | rfl <;> rfl) (show 0 + 1 ≤ 600000 by omega) (show 0 + 5 ≤ 7302250 by omega) dL_law_0 (fun q_1 H_1 hq_1 hat hz9 hF9 hS => ?_)
  refine W.widen (k := 1) (n := 5) (by omega) (by omega) ?_
  have hO := hat
  refine lv_dup hx hb dL_law_3 rfl ?_
  refine va_callv (va_runI (As := []) (rest := [.ref q_1]) ⟨hx, hb, hml, hown, hts⟩ (k_X3_init l D T q_1 H_1.size ) (cwI 0 hts ggL_law_X3_init rfl rfl rfl (hts (.initialized RX3) (by decide +kernel)) (hts (.methodLink RL 9 yX3_init) (by decide +kernel)) (hts (.instanceMethod yX3_init) (by decide +kernel)) rfl (by decide +kernel) ⟨Nat.le_of_ble_eq_true rfl, Nat.le_of_ble_eq_true rfl⟩) (pre_A (Φ := fun X => X.size = H_1.size ∧ va_at D vwCl (q_1, .inr (3, [.null, .null, .int 0, .null, .null])) X) hKA ⟨rfl, hO⟩) rfl rfl hl.1 rfl (lv_room (Nat.le_of_ble_eq_true rfl)) dL_law_4 ⟨show 1 + 101 ≤ 600000 by omega, show 5 + 2774 ≤ 7302250 by omega⟩) hS (fun q h1 (h2 : q = q_1 ∨ H_1.size ≤ q) => (show s.heap.size ≤ q by omega)) (fun (q : Nat) (h2 : q = q_1 ∨ H_1.size ≤ q) => (show s.heap.size ≤ q by omega)) (fun u_1 t H_2 locs ht hvm hw hB hz hk hS => ?_)
  rw [ht] at hB
  refine W.widen (k := 102) (n := 2779) (by omega) (by omega) ?_
  try dsimp only at hw
  try dsimp only at hB
  obtain ⟨A, hA0, hge, hlt, hPr⟩ := hB
  obtain ⟨N1, hN1⟩ : ∃ N1, N1 = H_2.size := ⟨_, rfl⟩
  have hP : PSE D T H_2 A (fun q => s.heap.size ≤ q ∧ q < N1) fi0 := PSE_0 hPr (fun i hi => ⟨by by_cases h : i = 0; rw [h, hA0]; omega; have h9 := hge i (by omega) hi; omega, by have h9 := hlt i hi; omega⟩)
  refine lv_astore_n (lv' := [(1, .ref q_1), (0, .ref b)]) hx hb dL_law_7 rfl hl (by decide) rfl (fun ls hl => ?_)
  refine r_newo (ci := 4) (C := RX4) (Tb := TX4) (N := 8) (fs := [.null, .null, .null, .int 0, .null, .int 0, .null, .int 0]) hx hb hts in_wsX40 tyX4 tyX4_ok hown (hts (.classLink RL 10 RX4) (by decide +kernel)) (hts (.instantiable RX4 8) (by decide +kernel)) (hts (.initialized RX4) (by decide +kernel)) hK hS rfl (fun j hj => by rcases (show j = 0 ∨ j = 1 ∨ j = 2 ∨ j = 3 ∨ j = 4 ∨ j = 5 ∨ j = 6 ∨ j = 7 by omega) with rfl | rfl | rfl | rfl | rfl | rfl | rfl | rfl <;> rfl) (show 102 + 1 ≤ 600000 by omega) (show 2779 + 8 ≤ 7302250 by omega) dL_law_8 (fun q_2 H_3 hq_2 hat hz9 hF9 hS => ?_)
  refine W.widen (k := 103) (n := 2787) (by omega) (by omega) ?_
  have hP := hP.frm hF9 (fun q _ z => z)
  have hO := hat
  refine lv_dup hx hb dL_law_11 rfl ?_
  refine va_callv (va_runI (As := []) (rest := [.ref q_2]) ⟨hx, hb, hml, hown, hts⟩ (k_X4_init l D T q_2 H_3.size ) (cwI 0 hts ggL_law_X4_init rfl rfl rfl (hts (.initialized RX4) (by decide +kernel)) (hts (.methodLink RL 12 yX4_init) (by decide +kernel)) (hts (.instanceMethod yX4_init) (by decide +kernel)) rfl (by decide +kernel) ⟨Nat.le_of_ble_eq_true rfl, Nat.le_of_ble_eq_true rfl⟩) (pre_S (Φ := fun X => X.size = H_3.size ∧ va_at D vwCl (q_2, .inr (4, [.null, .null, .null, .int 0, .null, .int 0, .null, .int 0])) X) hK ⟨rfl, hO⟩) rfl rfl hl.1 rfl (lv_room (Nat.le_of_ble_eq_true rfl)) dL_law_12 ⟨show 103 + 5 ≤ 600000 by omega, show 2787 + 5858 ≤ 7302250 by omega⟩) hS (fun q h1 (h2 : q = q_2 ∨ H_3.size ≤ q) => (show s.heap.size ≤ q by omega)) (fun (q : Nat) (h2 : q = q_2 ∨ H_3.size ≤ q) => (show s.heap.size ≤ q by omega)) (fun u_2 t H_4 locs ht hvm hw hB hz hk hS => ?_)
  rw [ht] at hB
  refine W.widen (k := 108) (n := 8645) (by omega) (by omega) ?_
  try dsimp only at hw
  try dsimp only at hB
  have hF8 : Fr _ _ _ := hk
  have hP := hP.frm hF8 (fun q h z => by have h1 := h.2; rcases z with z | z <;> omega)
  obtain ⟨M, hM0, hge4, hlt4, hMo⟩ := hB
  have hM : MSE D T H_4 M (fun q => N1 ≤ q) fi0 := MSE_0 hMo (fun i hi => by show N1 ≤ M i; by_cases h : i = 0; rw [h, hM0]; omega; have h9 := hge4 i (by omega) hi; omega)
  refine lv_astore_n (lv' := [(2, .ref q_2), (1, .ref q_1), (0, .ref b)]) hx hb dL_law_15 rfl hl (by decide) rfl (fun ls hl => ?_)
  refine lv_iconst (v := (nI 0)) hx hb dL_law_16 (by decide) ?_
  refine lv_istore_n (lv' := [(3, .int (nI 0)), (2, .ref q_2), (1, .ref q_1), (0, .ref b)]) hx hb dL_law_17 rfl hl (by decide) rfl (fun ls hl => ?_)
  refine W.widen (k := 113) (n := 8645) (by omega) (by omega) ?_
  exact law_loop hL hx hb hml hown hts hX hbl hK (fun q h => h.1) (fun q (h : N1 ≤ q) => by omega) (fun q h z => Nat.not_le.mpr h.2 z) hb hr hlocks (o := q_1) (M := M) hQ (L + 6) 0 fi0 A H_4 locs (Nat.zero_le _) (by omega) hA0 hP hM hS ls (by rw [hM0]; exact lv_sub hl [3, 2, 1, 0] rfl)
