set_option maxHeartbeats 4000000 in
set_option maxRecDepth 100000 in
theorem law_c0 {p : Program} {l : Launch} {e : Env} {s : State} {m : MethodId} {below : List Frame} {meth : Method} {c : Code} {b L : Nat} {xs : Nat → Int32} {D : va_G} {T : Nat → ClassId} {Q : State → Prop} {Sx Sy : Nat → Prop} (hL : L ≤ 2560) (hx : p.tables.exec = Jvm.exec) (hb : c.code = cL_law) (hml : c.maxLocals = 4) (hown : s.vm.findClass RL = some m.cls) (hts : ∀ w ∈ wsL_law, w.before #[Value.ref b] s = true) (hX : va_X b L xs s s.heap) (hbl : b < s.heap.size) (hK : KS D T s) (hSq : ∀ q, Sx q → s.heap.size ≤ q) (hTq : ∀ q, Sy q → s.heap.size ≤ q) (hdis : ∀ q, Sx q → ¬ Sy q) {n : Nat} (hn : n + 5 ≤ L) {fi : FS} {A M : Nat → Nat} {H : Heap} {locs : List Loc} (hP : PSE D T H A Sx fi) (hM : MSE D T H M Sy fi) (hS : va_S (fun q : Nat => s.heap.size ≤ q) s.heap H locs) {ls : Array Slot} (hl : lv_has ls 4 [(0, .ref b), (1, .ref (A 0)), (2, .ref (M 0)), (3, .int (nI n))]) (kk : ∀ (fi' : FS) (A' : Nat → Nat) (H' : Heap) (locs' : List Loc), A' 0 = A 0 → PSE D T H' A' Sx fi' → MSE D T H' M Sy fi' → va_S (fun q : Nat => s.heap.size ≤ q) s.heap H' locs' → W p l e room_1 s m #[Value.ref b] below meth c H' locs' 113 8645 Q (F0 m 996 ls [])) : W p l e room_1 s m #[Value.ref b] below meth c H locs 113 8645 Q (F0 m 148 ls []) := by
  have hbA : ¬ (fun q : Nat => s.heap.size ≤ q) b := Nat.not_le.mpr hbl
  obtain ⟨W0, me, co, sc, hPr, -⟩ := id hP
  obtain ⟨v, as, pa, bi, at0, hMr, -⟩ := id hM
  refine lv_aload_n hx hb dL_law_148 rfl (lv_at hl 1 rfl) ?_
  refine lv_aload_n hx hb dL_law_149 rfl (lv_at hl 0 rfl) ?_
  refine lv_iload_n hx hb dL_law_150 rfl (lv_at hl 3 rfl) ?_
  refine lv_iconst (v := (nI 1)) hx hb dL_law_151 (by decide) ?_
  refine lv_iadd hx hb dL_law_152 ?_
  refine top_i (nI_add n 1) ?_
  refine va_sld hx hb hX hbl hbA hS (vp_in_nI (show n + 1 < L by omega) (by omega)) dL_law_153 ?_
  refine top_i (x' := (xs (n + 1))) (congrArg xs (nI_clamp (by omega))) ?_
  refine lv_aload_n hx hb dL_law_154 rfl (lv_at hl 0 rfl) ?_
  refine lv_iload_n hx hb dL_law_155 rfl (lv_at hl 3 rfl) ?_
  refine lv_iconst (v := (nI 2)) hx hb dL_law_156 (by decide) ?_
  refine lv_iadd hx hb dL_law_157 ?_
  refine top_i (nI_add n 2) ?_
  refine va_sld hx hb hX hbl hbA hS (vp_in_nI (show n + 2 < L by omega) (by omega)) dL_law_158 ?_
  refine top_i (x' := (xs (n + 2))) (congrArg xs (nI_clamp (by omega))) ?_
  refine lv_aload_n hx hb dL_law_159 rfl (lv_at hl 0 rfl) ?_
  refine lv_iload_n hx hb dL_law_160 rfl (lv_at hl 3 rfl) ?_
  refine lv_iconst (v := (nI 3)) hx hb dL_law_161 (by decide) ?_
  refine lv_iadd hx hb dL_law_162 ?_
  refine top_i (nI_add n 3) ?_
  refine va_sld hx hb hX hbl hbA hS (vp_in_nI (show n + 3 < L by omega) (by omega)) dL_law_163 ?_
  refine top_i (x' := (xs (n + 3))) (congrArg xs (nI_clamp (by omega))) ?_
  refine va_calli (va_runV (As := [.int (xs (n + 1)), .int (xs (n + 2)), .int (xs (n + 3))]) (rest := []) ⟨hx, hb, hml, hown, hts⟩ (k_X3_add l D T A Sx fi (xs (n + 1)) (xs (n + 2)) (xs (n + 3)) ) (cwV 3 hts gL_law_X3_add rfl rfl rfl (by decide +kernel) ⟨Nat.le_of_ble_eq_true rfl, Nat.le_of_ble_eq_true rfl⟩) (pre_V (Φ := fun X => PSE D T X A Sx fi) hK (hPr.2.1) rfl hP) rfl rfl hl.1 rfl (lv_room (Nat.le_of_ble_eq_true rfl)) dL_law_164 ⟨Nat.le_of_ble_eq_true rfl, Nat.le_of_ble_eq_true rfl⟩) hS (fun q _ h => hSq q h) (fun q h => hSq q h) (fun r_1 u_1 t H_1 locs ht hvm hw hB hz hk hS => ?_)
  rw [ht] at hB
  try dsimp only at hw
  try dsimp only at hB
  subst hw
  obtain ⟨B9, hB0, hP⟩ := hB
  have hF9 : Fr _ _ _ := hk
  have hM := hM.frm hF9 (fun q h z => hdis q z h)
  obtain ⟨v, as, pa, bi, at0, hMr, -⟩ := id hM
  refine lv_aload_n hx hb dL_law_167 rfl (lv_at hl 2 rfl) ?_
  refine lv_aload_n hx hb dL_law_168 rfl (lv_at hl 0 rfl) ?_
  refine lv_iload_n hx hb dL_law_169 rfl (lv_at hl 3 rfl) ?_
  refine lv_iconst (v := (nI 1)) hx hb dL_law_170 (by decide) ?_
  refine lv_iadd hx hb dL_law_171 ?_
  refine top_i (nI_add n 1) ?_
  refine va_sld hx hb hX hbl hbA hS (vp_in_nI (show n + 1 < L by omega) (by omega)) dL_law_172 ?_
  refine top_i (x' := (xs (n + 1))) (congrArg xs (nI_clamp (by omega))) ?_
  refine lv_aload_n hx hb dL_law_173 rfl (lv_at hl 0 rfl) ?_
  refine lv_iload_n hx hb dL_law_174 rfl (lv_at hl 3 rfl) ?_
  refine lv_iconst (v := (nI 2)) hx hb dL_law_175 (by decide) ?_
  refine lv_iadd hx hb dL_law_176 ?_
  refine top_i (nI_add n 2) ?_
  refine va_sld hx hb hX hbl hbA hS (vp_in_nI (show n + 2 < L by omega) (by omega)) dL_law_177 ?_
  refine top_i (x' := (xs (n + 2))) (congrArg xs (nI_clamp (by omega))) ?_
  refine lv_aload_n hx hb dL_law_178 rfl (lv_at hl 0 rfl) ?_
  refine lv_iload_n hx hb dL_law_179 rfl (lv_at hl 3 rfl) ?_
  refine lv_iconst (v := (nI 3)) hx hb dL_law_180 (by decide) ?_
  refine lv_iadd hx hb dL_law_181 ?_
  refine top_i (nI_add n 3) ?_
  refine va_sld hx hb hX hbl hbA hS (vp_in_nI (show n + 3 < L by omega) (by omega)) dL_law_182 ?_
  refine top_i (x' := (xs (n + 3))) (congrArg xs (nI_clamp (by omega))) ?_
  refine va_calli (va_runV (As := [.int (xs (n + 1)), .int (xs (n + 2)), .int (xs (n + 3))]) (rest := [.int (addR fi (xs (n + 1)) (xs (n + 2)) (xs (n + 3)))]) ⟨hx, hb, hml, hown, hts⟩ (k_X4_add l D T M Sy fi (xs (n + 1)) (xs (n + 2)) (xs (n + 3)) ) (cwV 3 hts gL_law_X4_add rfl rfl rfl (by decide +kernel) ⟨Nat.le_of_ble_eq_true rfl, Nat.le_of_ble_eq_true rfl⟩) (pre_V (Φ := fun X => MSE D T X M Sy fi) hK (hMr.2.1) rfl hM) rfl rfl hl.1 rfl (lv_room (Nat.le_of_ble_eq_true rfl)) dL_law_183 ⟨Nat.le_of_ble_eq_true rfl, Nat.le_of_ble_eq_true rfl⟩) hS (fun q _ h => hTq q h) (fun q h => hTq q h) (fun r_2 u_2 t H_2 locs ht hvm hw hB hz hk hS => ?_)
  rw [ht] at hB
  try dsimp only at hw
  try dsimp only at hB
  subst hw
  have hF9 : Fr _ _ _ := hk
  have hP := hP.frm hF9 (fun q h => hdis q h)
  have hM := hB
  refine lv_icmp_eq (tgt := 996) hx hb dL_law_186 (by decide) (fun c_1 => ?_) (fun c_1 => ?_)
  · skip
    exact kk _ B9 _ _ hB0 hP hM hS
  · skip
    exact absurd rfl c_1
set_option maxHeartbeats 4000000 in
set_option maxRecDepth 100000 in
theorem law_c1 {p : Program} {l : Launch} {e : Env} {s : State} {m : MethodId} {below : List Frame} {meth : Method} {c : Code} {b L : Nat} {xs : Nat → Int32} {D : va_G} {T : Nat → ClassId} {Q : State → Prop} {Sx Sy : Nat → Prop} (hL : L ≤ 2560) (hx : p.tables.exec = Jvm.exec) (hb : c.code = cL_law) (hml : c.maxLocals = 4) (hown : s.vm.findClass RL = some m.cls) (hts : ∀ w ∈ wsL_law, w.before #[Value.ref b] s = true) (hX : va_X b L xs s s.heap) (hbl : b < s.heap.size) (hK : KS D T s) (hSq : ∀ q, Sx q → s.heap.size ≤ q) (hTq : ∀ q, Sy q → s.heap.size ≤ q) (hdis : ∀ q, Sx q → ¬ Sy q) {n : Nat} (hn : n + 5 ≤ L) {fi : FS} {A M : Nat → Nat} {H : Heap} {locs : List Loc} (hP : PSE D T H A Sx fi) (hM : MSE D T H M Sy fi) (hS : va_S (fun q : Nat => s.heap.size ≤ q) s.heap H locs) {ls : Array Slot} (hl : lv_has ls 4 [(0, .ref b), (1, .ref (A 0)), (2, .ref (M 0)), (3, .int (nI n))]) (kk : ∀ (fi' : FS) (A' : Nat → Nat) (H' : Heap) (locs' : List Loc), A' 0 = A 0 → PSE D T H' A' Sx fi' → MSE D T H' M Sy fi' → va_S (fun q : Nat => s.heap.size ≤ q) s.heap H' locs' → W p l e room_1 s m #[Value.ref b] below meth c H' locs' 113 8645 Q (F0 m 996 ls [])) : W p l e room_1 s m #[Value.ref b] below meth c H locs 113 8645 Q (F0 m 191 ls []) := by
  have hbA : ¬ (fun q : Nat => s.heap.size ≤ q) b := Nat.not_le.mpr hbl
  obtain ⟨W0, me, co, sc, hPr, -⟩ := id hP
  obtain ⟨v, as, pa, bi, at0, hMr, -⟩ := id hM
  refine lv_aload_n hx hb dL_law_191 rfl (lv_at hl 1 rfl) ?_
  refine lv_aload_n hx hb dL_law_192 rfl (lv_at hl 0 rfl) ?_
  refine lv_iload_n hx hb dL_law_193 rfl (lv_at hl 3 rfl) ?_
  refine lv_iconst (v := (nI 1)) hx hb dL_law_194 (by decide) ?_
  refine lv_iadd hx hb dL_law_195 ?_
  refine top_i (nI_add n 1) ?_
  refine va_sld hx hb hX hbl hbA hS (vp_in_nI (show n + 1 < L by omega) (by omega)) dL_law_196 ?_
  refine top_i (x' := (xs (n + 1))) (congrArg xs (nI_clamp (by omega))) ?_
  refine lv_aload_n hx hb dL_law_197 rfl (lv_at hl 0 rfl) ?_
  refine lv_iload_n hx hb dL_law_198 rfl (lv_at hl 3 rfl) ?_
  refine lv_iconst (v := (nI 2)) hx hb dL_law_199 (by decide) ?_
  refine lv_iadd hx hb dL_law_200 ?_
  refine top_i (nI_add n 2) ?_
  refine va_sld hx hb hX hbl hbA hS (vp_in_nI (show n + 2 < L by omega) (by omega)) dL_law_201 ?_
  refine top_i (x' := (xs (n + 2))) (congrArg xs (nI_clamp (by omega))) ?_
  refine lv_aload_n hx hb dL_law_202 rfl (lv_at hl 0 rfl) ?_
  refine lv_iload_n hx hb dL_law_203 rfl (lv_at hl 3 rfl) ?_
  refine lv_iconst (v := (nI 3)) hx hb dL_law_204 (by decide) ?_
  refine lv_iadd hx hb dL_law_205 ?_
  refine top_i (nI_add n 3) ?_
  refine va_sld hx hb hX hbl hbA hS (vp_in_nI (show n + 3 < L by omega) (by omega)) dL_law_206 ?_
  refine top_i (x' := (xs (n + 3))) (congrArg xs (nI_clamp (by omega))) ?_
  refine va_calli (va_runV (As := [.int (xs (n + 1)), .int (xs (n + 2)), .int (xs (n + 3))]) (rest := []) ⟨hx, hb, hml, hown, hts⟩ (k_X3_remove l D T A Sx fi (xs (n + 1)) (xs (n + 2)) (xs (n + 3)) ) (cwV 3 hts gL_law_X3_remove rfl rfl rfl (by decide +kernel) ⟨Nat.le_of_ble_eq_true rfl, Nat.le_of_ble_eq_true rfl⟩) (pre_V (Φ := fun X => PSE D T X A Sx fi) hK (hPr.2.1) rfl hP) rfl rfl hl.1 rfl (lv_room (Nat.le_of_ble_eq_true rfl)) dL_law_207 ⟨Nat.le_of_ble_eq_true rfl, Nat.le_of_ble_eq_true rfl⟩) hS (fun q _ h => hSq q h) (fun q h => hSq q h) (fun r_1 u_1 t H_1 locs ht hvm hw hB hz hk hS => ?_)
  rw [ht] at hB
  try dsimp only at hw
  try dsimp only at hB
  subst hw
  obtain ⟨B9, hB0, hP⟩ := hB
  have hF9 : Fr _ _ _ := hk
  have hM := hM.frm hF9 (fun q h z => hdis q z h)
  obtain ⟨v, as, pa, bi, at0, hMr, -⟩ := id hM
  refine lv_aload_n hx hb dL_law_210 rfl (lv_at hl 2 rfl) ?_
  refine lv_aload_n hx hb dL_law_211 rfl (lv_at hl 0 rfl) ?_
  refine lv_iload_n hx hb dL_law_212 rfl (lv_at hl 3 rfl) ?_
  refine lv_iconst (v := (nI 1)) hx hb dL_law_213 (by decide) ?_
  refine lv_iadd hx hb dL_law_214 ?_
  refine top_i (nI_add n 1) ?_
  refine va_sld hx hb hX hbl hbA hS (vp_in_nI (show n + 1 < L by omega) (by omega)) dL_law_215 ?_
  refine top_i (x' := (xs (n + 1))) (congrArg xs (nI_clamp (by omega))) ?_
  refine lv_aload_n hx hb dL_law_216 rfl (lv_at hl 0 rfl) ?_
  refine lv_iload_n hx hb dL_law_217 rfl (lv_at hl 3 rfl) ?_
  refine lv_iconst (v := (nI 2)) hx hb dL_law_218 (by decide) ?_
  refine lv_iadd hx hb dL_law_219 ?_
  refine top_i (nI_add n 2) ?_
  refine va_sld hx hb hX hbl hbA hS (vp_in_nI (show n + 2 < L by omega) (by omega)) dL_law_220 ?_
  refine top_i (x' := (xs (n + 2))) (congrArg xs (nI_clamp (by omega))) ?_
  refine lv_aload_n hx hb dL_law_221 rfl (lv_at hl 0 rfl) ?_
  refine lv_iload_n hx hb dL_law_222 rfl (lv_at hl 3 rfl) ?_
  refine lv_iconst (v := (nI 3)) hx hb dL_law_223 (by decide) ?_
  refine lv_iadd hx hb dL_law_224 ?_
  refine top_i (nI_add n 3) ?_
  refine va_sld hx hb hX hbl hbA hS (vp_in_nI (show n + 3 < L by omega) (by omega)) dL_law_225 ?_
  refine top_i (x' := (xs (n + 3))) (congrArg xs (nI_clamp (by omega))) ?_
  refine va_calli (va_runV (As := [.int (xs (n + 1)), .int (xs (n + 2)), .int (xs (n + 3))]) (rest := [.int (remR fi (xs (n + 1)) (xs (n + 2)) (xs (n + 3)))]) ⟨hx, hb, hml, hown, hts⟩ (k_X4_remove l D T M Sy fi (xs (n + 1)) (xs (n + 2)) (xs (n + 3)) ) (cwV 3 hts gL_law_X4_remove rfl rfl rfl (by decide +kernel) ⟨Nat.le_of_ble_eq_true rfl, Nat.le_of_ble_eq_true rfl⟩) (pre_V (Φ := fun X => MSE D T X M Sy fi) hK (hMr.2.1) rfl hM) rfl rfl hl.1 rfl (lv_room (Nat.le_of_ble_eq_true rfl)) dL_law_226 ⟨Nat.le_of_ble_eq_true rfl, Nat.le_of_ble_eq_true rfl⟩) hS (fun q _ h => hTq q h) (fun q h => hTq q h) (fun r_2 u_2 t H_2 locs ht hvm hw hB hz hk hS => ?_)
  rw [ht] at hB
  try dsimp only at hw
  try dsimp only at hB
  subst hw
  have hF9 : Fr _ _ _ := hk
  have hP := hP.frm hF9 (fun q h => hdis q h)
  have hM := hB
  refine lv_icmp_eq (tgt := 996) hx hb dL_law_229 (by decide) (fun c_1 => ?_) (fun c_1 => ?_)
  · skip
    exact kk _ B9 _ _ hB0 hP hM hS
  · skip
    exact absurd rfl c_1
set_option maxHeartbeats 4000000 in
set_option maxRecDepth 100000 in
theorem law_c2 {p : Program} {l : Launch} {e : Env} {s : State} {m : MethodId} {below : List Frame} {meth : Method} {c : Code} {b L : Nat} {xs : Nat → Int32} {D : va_G} {T : Nat → ClassId} {Q : State → Prop} {Sx Sy : Nat → Prop} (hL : L ≤ 2560) (hx : p.tables.exec = Jvm.exec) (hb : c.code = cL_law) (hml : c.maxLocals = 4) (hown : s.vm.findClass RL = some m.cls) (hts : ∀ w ∈ wsL_law, w.before #[Value.ref b] s = true) (hX : va_X b L xs s s.heap) (hbl : b < s.heap.size) (hK : KS D T s) (hSq : ∀ q, Sx q → s.heap.size ≤ q) (hTq : ∀ q, Sy q → s.heap.size ≤ q) (hdis : ∀ q, Sx q → ¬ Sy q) {n : Nat} (hn : n + 5 ≤ L) {fi : FS} {A M : Nat → Nat} {H : Heap} {locs : List Loc} (hP : PSE D T H A Sx fi) (hM : MSE D T H M Sy fi) (hS : va_S (fun q : Nat => s.heap.size ≤ q) s.heap H locs) {ls : Array Slot} (hl : lv_has ls 4 [(0, .ref b), (1, .ref (A 0)), (2, .ref (M 0)), (3, .int (nI n))]) (kk : ∀ (fi' : FS) (A' : Nat → Nat) (H' : Heap) (locs' : List Loc), A' 0 = A 0 → PSE D T H' A' Sx fi' → MSE D T H' M Sy fi' → va_S (fun q : Nat => s.heap.size ≤ q) s.heap H' locs' → W p l e room_1 s m #[Value.ref b] below meth c H' locs' 113 8645 Q (F0 m 996 ls [])) : W p l e room_1 s m #[Value.ref b] below meth c H locs 113 8645 Q (F0 m 234 ls []) := by
  have hbA : ¬ (fun q : Nat => s.heap.size ≤ q) b := Nat.not_le.mpr hbl
  obtain ⟨W0, me, co, sc, hPr, -⟩ := id hP
  obtain ⟨v, as, pa, bi, at0, hMr, -⟩ := id hM
  refine lv_aload_n hx hb dL_law_234 rfl (lv_at hl 1 rfl) ?_
  refine lv_aload_n hx hb dL_law_235 rfl (lv_at hl 0 rfl) ?_
  refine lv_iload_n hx hb dL_law_236 rfl (lv_at hl 3 rfl) ?_
  refine lv_iconst (v := (nI 1)) hx hb dL_law_237 (by decide) ?_
  refine lv_iadd hx hb dL_law_238 ?_
  refine top_i (nI_add n 1) ?_
  refine va_sld hx hb hX hbl hbA hS (vp_in_nI (show n + 1 < L by omega) (by omega)) dL_law_239 ?_
  refine top_i (x' := (xs (n + 1))) (congrArg xs (nI_clamp (by omega))) ?_
  refine lv_aload_n hx hb dL_law_240 rfl (lv_at hl 0 rfl) ?_
  refine lv_iload_n hx hb dL_law_241 rfl (lv_at hl 3 rfl) ?_
  refine lv_iconst (v := (nI 2)) hx hb dL_law_242 (by decide) ?_
  refine lv_iadd hx hb dL_law_243 ?_
  refine top_i (nI_add n 2) ?_
  refine va_sld hx hb hX hbl hbA hS (vp_in_nI (show n + 2 < L by omega) (by omega)) dL_law_244 ?_
  refine top_i (x' := (xs (n + 2))) (congrArg xs (nI_clamp (by omega))) ?_
  refine lv_aload_n hx hb dL_law_245 rfl (lv_at hl 0 rfl) ?_
  refine lv_iload_n hx hb dL_law_246 rfl (lv_at hl 3 rfl) ?_
  refine lv_iconst (v := (nI 3)) hx hb dL_law_247 (by decide) ?_
  refine lv_iadd hx hb dL_law_248 ?_
  refine top_i (nI_add n 3) ?_
  refine va_sld hx hb hX hbl hbA hS (vp_in_nI (show n + 3 < L by omega) (by omega)) dL_law_249 ?_
  refine top_i (x' := (xs (n + 3))) (congrArg xs (nI_clamp (by omega))) ?_
  refine va_calli (va_runV (As := [.int (xs (n + 1)), .int (xs (n + 2)), .int (xs (n + 3))]) (rest := []) ⟨hx, hb, hml, hown, hts⟩ (k_X3_flip l D T A Sx fi (xs (n + 1)) (xs (n + 2)) (xs (n + 3)) ) (cwV 3 hts gL_law_X3_flip rfl rfl rfl (by decide +kernel) ⟨Nat.le_of_ble_eq_true rfl, Nat.le_of_ble_eq_true rfl⟩) (pre_V (Φ := fun X => PSE D T X A Sx fi) hK (hPr.2.1) rfl hP) rfl rfl hl.1 rfl (lv_room (Nat.le_of_ble_eq_true rfl)) dL_law_250 ⟨Nat.le_of_ble_eq_true rfl, Nat.le_of_ble_eq_true rfl⟩) hS (fun q _ h => hSq q h) (fun q h => hSq q h) (fun r_1 u_1 t H_1 locs ht hvm hw hB hz hk hS => ?_)
  rw [ht] at hB
  try dsimp only at hw
  try dsimp only at hB
  subst hw
  obtain ⟨B9, hB0, hP⟩ := hB
  have hF9 : Fr _ _ _ := hk
  have hM := hM.frm hF9 (fun q h z => hdis q z h)
  obtain ⟨v, as, pa, bi, at0, hMr, -⟩ := id hM
  refine lv_aload_n hx hb dL_law_253 rfl (lv_at hl 2 rfl) ?_
  refine lv_aload_n hx hb dL_law_254 rfl (lv_at hl 0 rfl) ?_
  refine lv_iload_n hx hb dL_law_255 rfl (lv_at hl 3 rfl) ?_
  refine lv_iconst (v := (nI 1)) hx hb dL_law_256 (by decide) ?_
  refine lv_iadd hx hb dL_law_257 ?_
  refine top_i (nI_add n 1) ?_
  refine va_sld hx hb hX hbl hbA hS (vp_in_nI (show n + 1 < L by omega) (by omega)) dL_law_258 ?_
  refine top_i (x' := (xs (n + 1))) (congrArg xs (nI_clamp (by omega))) ?_
  refine lv_aload_n hx hb dL_law_259 rfl (lv_at hl 0 rfl) ?_
  refine lv_iload_n hx hb dL_law_260 rfl (lv_at hl 3 rfl) ?_
  refine lv_iconst (v := (nI 2)) hx hb dL_law_261 (by decide) ?_
  refine lv_iadd hx hb dL_law_262 ?_
  refine top_i (nI_add n 2) ?_
  refine va_sld hx hb hX hbl hbA hS (vp_in_nI (show n + 2 < L by omega) (by omega)) dL_law_263 ?_
  refine top_i (x' := (xs (n + 2))) (congrArg xs (nI_clamp (by omega))) ?_
  refine lv_aload_n hx hb dL_law_264 rfl (lv_at hl 0 rfl) ?_
  refine lv_iload_n hx hb dL_law_265 rfl (lv_at hl 3 rfl) ?_
  refine lv_iconst (v := (nI 3)) hx hb dL_law_266 (by decide) ?_
  refine lv_iadd hx hb dL_law_267 ?_
  refine top_i (nI_add n 3) ?_
  refine va_sld hx hb hX hbl hbA hS (vp_in_nI (show n + 3 < L by omega) (by omega)) dL_law_268 ?_
  refine top_i (x' := (xs (n + 3))) (congrArg xs (nI_clamp (by omega))) ?_
  refine va_calli (va_runV (As := [.int (xs (n + 1)), .int (xs (n + 2)), .int (xs (n + 3))]) (rest := [.int (addR fi (xs (n + 1)) (xs (n + 2)) (xs (n + 3)))]) ⟨hx, hb, hml, hown, hts⟩ (k_X4_flip l D T M Sy fi (xs (n + 1)) (xs (n + 2)) (xs (n + 3)) ) (cwV 3 hts gL_law_X4_flip rfl rfl rfl (by decide +kernel) ⟨Nat.le_of_ble_eq_true rfl, Nat.le_of_ble_eq_true rfl⟩) (pre_V (Φ := fun X => MSE D T X M Sy fi) hK (hMr.2.1) rfl hM) rfl rfl hl.1 rfl (lv_room (Nat.le_of_ble_eq_true rfl)) dL_law_269 ⟨Nat.le_of_ble_eq_true rfl, Nat.le_of_ble_eq_true rfl⟩) hS (fun q _ h => hTq q h) (fun q h => hTq q h) (fun r_2 u_2 t H_2 locs ht hvm hw hB hz hk hS => ?_)
  rw [ht] at hB
  try dsimp only at hw
  try dsimp only at hB
  subst hw
  have hF9 : Fr _ _ _ := hk
  have hP := hP.frm hF9 (fun q h => hdis q h)
  have hM := hB
  refine lv_icmp_eq (tgt := 996) hx hb dL_law_272 (by decide) (fun c_1 => ?_) (fun c_1 => ?_)
  · skip
    exact kk _ B9 _ _ hB0 hP hM hS
  · skip
    exact absurd rfl c_1
set_option maxHeartbeats 4000000 in
set_option maxRecDepth 100000 in
theorem law_c3 {p : Program} {l : Launch} {e : Env} {s : State} {m : MethodId} {below : List Frame} {meth : Method} {c : Code} {b L : Nat} {xs : Nat → Int32} {D : va_G} {T : Nat → ClassId} {Q : State → Prop} {Sx Sy : Nat → Prop} (hL : L ≤ 2560) (hx : p.tables.exec = Jvm.exec) (hb : c.code = cL_law) (hml : c.maxLocals = 4) (hown : s.vm.findClass RL = some m.cls) (hts : ∀ w ∈ wsL_law, w.before #[Value.ref b] s = true) (hX : va_X b L xs s s.heap) (hbl : b < s.heap.size) (hK : KS D T s) (hSq : ∀ q, Sx q → s.heap.size ≤ q) (hTq : ∀ q, Sy q → s.heap.size ≤ q) (hdis : ∀ q, Sx q → ¬ Sy q) {n : Nat} (hn : n + 5 ≤ L) {fi : FS} {A M : Nat → Nat} {H : Heap} {locs : List Loc} (hP : PSE D T H A Sx fi) (hM : MSE D T H M Sy fi) (hS : va_S (fun q : Nat => s.heap.size ≤ q) s.heap H locs) {ls : Array Slot} (hl : lv_has ls 4 [(0, .ref b), (1, .ref (A 0)), (2, .ref (M 0)), (3, .int (nI n))]) (kk : ∀ (fi' : FS) (A' : Nat → Nat) (H' : Heap) (locs' : List Loc), A' 0 = A 0 → PSE D T H' A' Sx fi' → MSE D T H' M Sy fi' → va_S (fun q : Nat => s.heap.size ≤ q) s.heap H' locs' → W p l e room_1 s m #[Value.ref b] below meth c H' locs' 113 8645 Q (F0 m 996 ls [])) : W p l e room_1 s m #[Value.ref b] below meth c H locs 113 8645 Q (F0 m 277 ls []) := by
  have hbA : ¬ (fun q : Nat => s.heap.size ≤ q) b := Nat.not_le.mpr hbl
  obtain ⟨W0, me, co, sc, hPr, -⟩ := id hP
  obtain ⟨v, as, pa, bi, at0, hMr, -⟩ := id hM
  refine lv_aload_n hx hb dL_law_277 rfl (lv_at hl 1 rfl) ?_
  refine lv_aload_n hx hb dL_law_278 rfl (lv_at hl 0 rfl) ?_
  refine lv_iload_n hx hb dL_law_279 rfl (lv_at hl 3 rfl) ?_
  refine lv_iconst (v := (nI 1)) hx hb dL_law_280 (by decide) ?_
  refine lv_iadd hx hb dL_law_281 ?_
  refine top_i (nI_add n 1) ?_
  refine va_sld hx hb hX hbl hbA hS (vp_in_nI (show n + 1 < L by omega) (by omega)) dL_law_282 ?_
  refine top_i (x' := (xs (n + 1))) (congrArg xs (nI_clamp (by omega))) ?_
  refine lv_aload_n hx hb dL_law_283 rfl (lv_at hl 0 rfl) ?_
  refine lv_iload_n hx hb dL_law_284 rfl (lv_at hl 3 rfl) ?_
  refine lv_iconst (v := (nI 2)) hx hb dL_law_285 (by decide) ?_
  refine lv_iadd hx hb dL_law_286 ?_
  refine top_i (nI_add n 2) ?_
  refine va_sld hx hb hX hbl hbA hS (vp_in_nI (show n + 2 < L by omega) (by omega)) dL_law_287 ?_
  refine top_i (x' := (xs (n + 2))) (congrArg xs (nI_clamp (by omega))) ?_
  refine lv_aload_n hx hb dL_law_288 rfl (lv_at hl 0 rfl) ?_
  refine lv_iload_n hx hb dL_law_289 rfl (lv_at hl 3 rfl) ?_
  refine lv_iconst (v := (nI 3)) hx hb dL_law_290 (by decide) ?_
  refine lv_iadd hx hb dL_law_291 ?_
  refine top_i (nI_add n 3) ?_
  refine va_sld hx hb hX hbl hbA hS (vp_in_nI (show n + 3 < L by omega) (by omega)) dL_law_292 ?_
  refine top_i (x' := (xs (n + 3))) (congrArg xs (nI_clamp (by omega))) ?_
  refine va_calli (va_runV (As := [.int (xs (n + 1)), .int (xs (n + 2)), .int (xs (n + 3))]) (rest := []) ⟨hx, hb, hml, hown, hts⟩ (k_X3_scatter l D T A Sx fi (xs (n + 1)) (xs (n + 2)) (xs (n + 3)) ) (cwV 3 hts gL_law_X3_scatter rfl rfl rfl (by decide +kernel) ⟨Nat.le_of_ble_eq_true rfl, Nat.le_of_ble_eq_true rfl⟩) (pre_V (Φ := fun X => PSE D T X A Sx fi) hK (hPr.2.1) rfl hP) rfl rfl hl.1 rfl (lv_room (Nat.le_of_ble_eq_true rfl)) dL_law_293 ⟨Nat.le_of_ble_eq_true rfl, Nat.le_of_ble_eq_true rfl⟩) hS (fun q _ h => hSq q h) (fun q h => hSq q h) (fun r_1 u_1 t H_1 locs ht hvm hw hB hz hk hS => ?_)
  rw [ht] at hB
  try dsimp only at hw
  try dsimp only at hB
  subst hw
  obtain ⟨B9, hB0, hP⟩ := hB
  have hF9 : Fr _ _ _ := hk
  have hM := hM.frm hF9 (fun q h z => hdis q z h)
  obtain ⟨v, as, pa, bi, at0, hMr, -⟩ := id hM
  refine lv_aload_n hx hb dL_law_296 rfl (lv_at hl 2 rfl) ?_
  refine lv_aload_n hx hb dL_law_297 rfl (lv_at hl 0 rfl) ?_
  refine lv_iload_n hx hb dL_law_298 rfl (lv_at hl 3 rfl) ?_
  refine lv_iconst (v := (nI 1)) hx hb dL_law_299 (by decide) ?_
  refine lv_iadd hx hb dL_law_300 ?_
  refine top_i (nI_add n 1) ?_
  refine va_sld hx hb hX hbl hbA hS (vp_in_nI (show n + 1 < L by omega) (by omega)) dL_law_301 ?_
  refine top_i (x' := (xs (n + 1))) (congrArg xs (nI_clamp (by omega))) ?_
  refine lv_aload_n hx hb dL_law_302 rfl (lv_at hl 0 rfl) ?_
  refine lv_iload_n hx hb dL_law_303 rfl (lv_at hl 3 rfl) ?_
  refine lv_iconst (v := (nI 2)) hx hb dL_law_304 (by decide) ?_
  refine lv_iadd hx hb dL_law_305 ?_
  refine top_i (nI_add n 2) ?_
  refine va_sld hx hb hX hbl hbA hS (vp_in_nI (show n + 2 < L by omega) (by omega)) dL_law_306 ?_
  refine top_i (x' := (xs (n + 2))) (congrArg xs (nI_clamp (by omega))) ?_
  refine lv_aload_n hx hb dL_law_307 rfl (lv_at hl 0 rfl) ?_
  refine lv_iload_n hx hb dL_law_308 rfl (lv_at hl 3 rfl) ?_
  refine lv_iconst (v := (nI 3)) hx hb dL_law_309 (by decide) ?_
  refine lv_iadd hx hb dL_law_310 ?_
  refine top_i (nI_add n 3) ?_
  refine va_sld hx hb hX hbl hbA hS (vp_in_nI (show n + 3 < L by omega) (by omega)) dL_law_311 ?_
  refine top_i (x' := (xs (n + 3))) (congrArg xs (nI_clamp (by omega))) ?_
  refine va_calli (va_runV (As := [.int (xs (n + 1)), .int (xs (n + 2)), .int (xs (n + 3))]) (rest := [.int (scaR fi (xs (n + 1)) (xs (n + 2)) (xs (n + 3)))]) ⟨hx, hb, hml, hown, hts⟩ (k_X4_scatter l D T M Sy fi (xs (n + 1)) (xs (n + 2)) (xs (n + 3)) ) (cwV 3 hts gL_law_X4_scatter rfl rfl rfl (by decide +kernel) ⟨Nat.le_of_ble_eq_true rfl, Nat.le_of_ble_eq_true rfl⟩) (pre_V (Φ := fun X => MSE D T X M Sy fi) hK (hMr.2.1) rfl hM) rfl rfl hl.1 rfl (lv_room (Nat.le_of_ble_eq_true rfl)) dL_law_312 ⟨Nat.le_of_ble_eq_true rfl, Nat.le_of_ble_eq_true rfl⟩) hS (fun q _ h => hTq q h) (fun q h => hTq q h) (fun r_2 u_2 t H_2 locs ht hvm hw hB hz hk hS => ?_)
  rw [ht] at hB
  try dsimp only at hw
  try dsimp only at hB
  subst hw
  have hF9 : Fr _ _ _ := hk
  have hP := hP.frm hF9 (fun q h => hdis q h)
  have hM := hB
  refine lv_icmp_eq (tgt := 996) hx hb dL_law_315 (by decide) (fun c_1 => ?_) (fun c_1 => ?_)
  · skip
    exact kk _ B9 _ _ hB0 hP hM hS
  · skip
    exact absurd rfl c_1
set_option maxHeartbeats 4000000 in
set_option maxRecDepth 100000 in
theorem law_c4 {p : Program} {l : Launch} {e : Env} {s : State} {m : MethodId} {below : List Frame} {meth : Method} {c : Code} {b L : Nat} {xs : Nat → Int32} {D : va_G} {T : Nat → ClassId} {Q : State → Prop} {Sx Sy : Nat → Prop} (hL : L ≤ 2560) (hx : p.tables.exec = Jvm.exec) (hb : c.code = cL_law) (hml : c.maxLocals = 4) (hown : s.vm.findClass RL = some m.cls) (hts : ∀ w ∈ wsL_law, w.before #[Value.ref b] s = true) (hX : va_X b L xs s s.heap) (hbl : b < s.heap.size) (hK : KS D T s) (hSq : ∀ q, Sx q → s.heap.size ≤ q) (hTq : ∀ q, Sy q → s.heap.size ≤ q) (hdis : ∀ q, Sx q → ¬ Sy q) {n : Nat} (hn : n + 5 ≤ L) {fi : FS} {A M : Nat → Nat} {H : Heap} {locs : List Loc} (hP : PSE D T H A Sx fi) (hM : MSE D T H M Sy fi) (hS : va_S (fun q : Nat => s.heap.size ≤ q) s.heap H locs) {ls : Array Slot} (hl : lv_has ls 4 [(0, .ref b), (1, .ref (A 0)), (2, .ref (M 0)), (3, .int (nI n))]) (kk : ∀ (fi' : FS) (A' : Nat → Nat) (H' : Heap) (locs' : List Loc), A' 0 = A 0 → PSE D T H' A' Sx fi' → MSE D T H' M Sy fi' → va_S (fun q : Nat => s.heap.size ≤ q) s.heap H' locs' → W p l e room_1 s m #[Value.ref b] below meth c H' locs' 113 8645 Q (F0 m 996 ls [])) : W p l e room_1 s m #[Value.ref b] below meth c H locs 113 8645 Q (F0 m 320 ls []) := by
  have hbA : ¬ (fun q : Nat => s.heap.size ≤ q) b := Nat.not_le.mpr hbl
  obtain ⟨W0, me, co, sc, hPr, -⟩ := id hP
  obtain ⟨v, as, pa, bi, at0, hMr, -⟩ := id hM
  refine lv_aload_n hx hb dL_law_320 rfl (lv_at hl 1 rfl) ?_
  refine lv_aload_n hx hb dL_law_321 rfl (lv_at hl 0 rfl) ?_
  refine lv_iload_n hx hb dL_law_322 rfl (lv_at hl 3 rfl) ?_
  refine lv_iconst (v := (nI 1)) hx hb dL_law_323 (by decide) ?_
  refine lv_iadd hx hb dL_law_324 ?_
  refine top_i (nI_add n 1) ?_
  refine va_sld hx hb hX hbl hbA hS (vp_in_nI (show n + 1 < L by omega) (by omega)) dL_law_325 ?_
  refine top_i (x' := (xs (n + 1))) (congrArg xs (nI_clamp (by omega))) ?_
  refine lv_aload_n hx hb dL_law_326 rfl (lv_at hl 0 rfl) ?_
  refine lv_iload_n hx hb dL_law_327 rfl (lv_at hl 3 rfl) ?_
  refine lv_iconst (v := (nI 2)) hx hb dL_law_328 (by decide) ?_
  refine lv_iadd hx hb dL_law_329 ?_
  refine top_i (nI_add n 2) ?_
  refine va_sld hx hb hX hbl hbA hS (vp_in_nI (show n + 2 < L by omega) (by omega)) dL_law_330 ?_
  refine top_i (x' := (xs (n + 2))) (congrArg xs (nI_clamp (by omega))) ?_
  refine lv_aload_n hx hb dL_law_331 rfl (lv_at hl 0 rfl) ?_
  refine lv_iload_n hx hb dL_law_332 rfl (lv_at hl 3 rfl) ?_
  refine lv_iconst (v := (nI 3)) hx hb dL_law_333 (by decide) ?_
  refine lv_iadd hx hb dL_law_334 ?_
  refine top_i (nI_add n 3) ?_
  refine va_sld hx hb hX hbl hbA hS (vp_in_nI (show n + 3 < L by omega) (by omega)) dL_law_335 ?_
  refine top_i (x' := (xs (n + 3))) (congrArg xs (nI_clamp (by omega))) ?_
  refine lv_aload_n hx hb dL_law_336 rfl (lv_at hl 0 rfl) ?_
  refine lv_iload_n hx hb dL_law_337 rfl (lv_at hl 3 rfl) ?_
  refine lv_iconst (v := (nI 4)) hx hb dL_law_338 (by decide) ?_
  refine lv_iadd hx hb dL_law_339 ?_
  refine top_i (nI_add n 4) ?_
  refine va_sld hx hb hX hbl hbA hS (vp_in_nI (show n + 4 < L by omega) (by omega)) dL_law_340 ?_
  refine top_i (x' := (xs (n + 4))) (congrArg xs (nI_clamp (by omega))) ?_
  refine va_calli (va_runV (As := [.int (xs (n + 1)), .int (xs (n + 2)), .int (xs (n + 3)), .int (xs (n + 4))]) (rest := []) ⟨hx, hb, hml, hown, hts⟩ (k_X3_combine l D T A Sx fi (xs (n + 1)) (xs (n + 2)) (xs (n + 3)) (xs (n + 4)) ) (cwV 4 hts gL_law_X3_combine rfl rfl rfl (by decide +kernel) ⟨Nat.le_of_ble_eq_true rfl, Nat.le_of_ble_eq_true rfl⟩) (pre_V (Φ := fun X => PSE D T X A Sx fi) hK (hPr.2.1) rfl hP) rfl rfl hl.1 rfl (lv_room (Nat.le_of_ble_eq_true rfl)) dL_law_341 ⟨Nat.le_of_ble_eq_true rfl, Nat.le_of_ble_eq_true rfl⟩) hS (fun q _ h => hSq q h) (fun q h => hSq q h) (fun r_1 u_1 t H_1 locs ht hvm hw hB hz hk hS => ?_)
  rw [ht] at hB
  try dsimp only at hw
  try dsimp only at hB
  subst hw
  obtain ⟨B9, hB0, hP⟩ := hB
  have hF9 : Fr _ _ _ := hk
  have hM := hM.frm hF9 (fun q h z => hdis q z h)
  obtain ⟨v, as, pa, bi, at0, hMr, -⟩ := id hM
  refine lv_aload_n hx hb dL_law_344 rfl (lv_at hl 2 rfl) ?_
  refine lv_aload_n hx hb dL_law_345 rfl (lv_at hl 0 rfl) ?_
  refine lv_iload_n hx hb dL_law_346 rfl (lv_at hl 3 rfl) ?_
  refine lv_iconst (v := (nI 1)) hx hb dL_law_347 (by decide) ?_
  refine lv_iadd hx hb dL_law_348 ?_
  refine top_i (nI_add n 1) ?_
  refine va_sld hx hb hX hbl hbA hS (vp_in_nI (show n + 1 < L by omega) (by omega)) dL_law_349 ?_
  refine top_i (x' := (xs (n + 1))) (congrArg xs (nI_clamp (by omega))) ?_
  refine lv_aload_n hx hb dL_law_350 rfl (lv_at hl 0 rfl) ?_
  refine lv_iload_n hx hb dL_law_351 rfl (lv_at hl 3 rfl) ?_
  refine lv_iconst (v := (nI 2)) hx hb dL_law_352 (by decide) ?_
  refine lv_iadd hx hb dL_law_353 ?_
  refine top_i (nI_add n 2) ?_
  refine va_sld hx hb hX hbl hbA hS (vp_in_nI (show n + 2 < L by omega) (by omega)) dL_law_354 ?_
  refine top_i (x' := (xs (n + 2))) (congrArg xs (nI_clamp (by omega))) ?_
  refine lv_aload_n hx hb dL_law_355 rfl (lv_at hl 0 rfl) ?_
  refine lv_iload_n hx hb dL_law_356 rfl (lv_at hl 3 rfl) ?_
  refine lv_iconst (v := (nI 3)) hx hb dL_law_357 (by decide) ?_
  refine lv_iadd hx hb dL_law_358 ?_
  refine top_i (nI_add n 3) ?_
  refine va_sld hx hb hX hbl hbA hS (vp_in_nI (show n + 3 < L by omega) (by omega)) dL_law_359 ?_
  refine top_i (x' := (xs (n + 3))) (congrArg xs (nI_clamp (by omega))) ?_
  refine lv_aload_n hx hb dL_law_360 rfl (lv_at hl 0 rfl) ?_
  refine lv_iload_n hx hb dL_law_361 rfl (lv_at hl 3 rfl) ?_
  refine lv_iconst (v := (nI 4)) hx hb dL_law_362 (by decide) ?_
  refine lv_iadd hx hb dL_law_363 ?_
  refine top_i (nI_add n 4) ?_
  refine va_sld hx hb hX hbl hbA hS (vp_in_nI (show n + 4 < L by omega) (by omega)) dL_law_364 ?_
  refine top_i (x' := (xs (n + 4))) (congrArg xs (nI_clamp (by omega))) ?_
  refine va_calli (va_runV (As := [.int (xs (n + 1)), .int (xs (n + 2)), .int (xs (n + 3)), .int (xs (n + 4))]) (rest := [.int (comR fi (xs (n + 1)) (xs (n + 2)) (xs (n + 3)) (xs (n + 4)))]) ⟨hx, hb, hml, hown, hts⟩ (k_X4_combine l D T M Sy fi (xs (n + 1)) (xs (n + 2)) (xs (n + 3)) (xs (n + 4)) ) (cwV 4 hts gL_law_X4_combine rfl rfl rfl (by decide +kernel) ⟨Nat.le_of_ble_eq_true rfl, Nat.le_of_ble_eq_true rfl⟩) (pre_V (Φ := fun X => MSE D T X M Sy fi) hK (hMr.2.1) rfl hM) rfl rfl hl.1 rfl (lv_room (Nat.le_of_ble_eq_true rfl)) dL_law_365 ⟨Nat.le_of_ble_eq_true rfl, Nat.le_of_ble_eq_true rfl⟩) hS (fun q _ h => hTq q h) (fun q h => hTq q h) (fun r_2 u_2 t H_2 locs ht hvm hw hB hz hk hS => ?_)
  rw [ht] at hB
  try dsimp only at hw
  try dsimp only at hB
  subst hw
  have hF9 : Fr _ _ _ := hk
  have hP := hP.frm hF9 (fun q h => hdis q h)
  have hM := hB
  refine lv_icmp_eq (tgt := 996) hx hb dL_law_368 (by decide) (fun c_1 => ?_) (fun c_1 => ?_)
  · skip
    exact kk _ B9 _ _ hB0 hP hM hS
  · skip
    exact absurd rfl c_1
set_option maxHeartbeats 4000000 in
set_option maxRecDepth 100000 in
theorem law_c5 {p : Program} {l : Launch} {e : Env} {s : State} {m : MethodId} {below : List Frame} {meth : Method} {c : Code} {b L : Nat} {xs : Nat → Int32} {D : va_G} {T : Nat → ClassId} {Q : State → Prop} {Sx Sy : Nat → Prop} (hL : L ≤ 2560) (hx : p.tables.exec = Jvm.exec) (hb : c.code = cL_law) (hml : c.maxLocals = 4) (hown : s.vm.findClass RL = some m.cls) (hts : ∀ w ∈ wsL_law, w.before #[Value.ref b] s = true) (hX : va_X b L xs s s.heap) (hbl : b < s.heap.size) (hK : KS D T s) (hSq : ∀ q, Sx q → s.heap.size ≤ q) (hTq : ∀ q, Sy q → s.heap.size ≤ q) (hdis : ∀ q, Sx q → ¬ Sy q) {n : Nat} (hn : n + 5 ≤ L) {fi : FS} {A M : Nat → Nat} {H : Heap} {locs : List Loc} (hP : PSE D T H A Sx fi) (hM : MSE D T H M Sy fi) (hS : va_S (fun q : Nat => s.heap.size ≤ q) s.heap H locs) {ls : Array Slot} (hl : lv_has ls 4 [(0, .ref b), (1, .ref (A 0)), (2, .ref (M 0)), (3, .int (nI n))]) (kk : ∀ (fi' : FS) (A' : Nat → Nat) (H' : Heap) (locs' : List Loc), A' 0 = A 0 → PSE D T H' A' Sx fi' → MSE D T H' M Sy fi' → va_S (fun q : Nat => s.heap.size ≤ q) s.heap H' locs' → W p l e room_1 s m #[Value.ref b] below meth c H' locs' 113 8645 Q (F0 m 996 ls [])) : W p l e room_1 s m #[Value.ref b] below meth c H locs 113 8645 Q (F0 m 373 ls []) := by
  have hbA : ¬ (fun q : Nat => s.heap.size ≤ q) b := Nat.not_le.mpr hbl
  obtain ⟨W0, me, co, sc, hPr, -⟩ := id hP
  obtain ⟨v, as, pa, bi, at0, hMr, -⟩ := id hM
  refine lv_aload_n hx hb dL_law_373 rfl (lv_at hl 1 rfl) ?_
  refine lv_aload_n hx hb dL_law_374 rfl (lv_at hl 0 rfl) ?_
  refine lv_iload_n hx hb dL_law_375 rfl (lv_at hl 3 rfl) ?_
  refine lv_iconst (v := (nI 1)) hx hb dL_law_376 (by decide) ?_
  refine lv_iadd hx hb dL_law_377 ?_
  refine top_i (nI_add n 1) ?_
  refine va_sld hx hb hX hbl hbA hS (vp_in_nI (show n + 1 < L by omega) (by omega)) dL_law_378 ?_
  refine top_i (x' := (xs (n + 1))) (congrArg xs (nI_clamp (by omega))) ?_
  refine lv_aload_n hx hb dL_law_379 rfl (lv_at hl 0 rfl) ?_
  refine lv_iload_n hx hb dL_law_380 rfl (lv_at hl 3 rfl) ?_
  refine lv_iconst (v := (nI 2)) hx hb dL_law_381 (by decide) ?_
  refine lv_iadd hx hb dL_law_382 ?_
  refine top_i (nI_add n 2) ?_
  refine va_sld hx hb hX hbl hbA hS (vp_in_nI (show n + 2 < L by omega) (by omega)) dL_law_383 ?_
  refine top_i (x' := (xs (n + 2))) (congrArg xs (nI_clamp (by omega))) ?_
  refine va_calli (va_runV (As := [.int (xs (n + 1)), .int (xs (n + 2))]) (rest := []) ⟨hx, hb, hml, hown, hts⟩ (k_X3_shift l D T A Sx fi (xs (n + 1)) (xs (n + 2)) ) (cwV 2 hts gL_law_X3_shift rfl rfl rfl (by decide +kernel) ⟨Nat.le_of_ble_eq_true rfl, Nat.le_of_ble_eq_true rfl⟩) (pre_V (Φ := fun X => PSE D T X A Sx fi) hK (hPr.2.1) rfl hP) rfl rfl hl.1 rfl (lv_room (Nat.le_of_ble_eq_true rfl)) dL_law_384 ⟨Nat.le_of_ble_eq_true rfl, Nat.le_of_ble_eq_true rfl⟩) hS (fun q _ h => hSq q h) (fun q h => hSq q h) (fun r_1 u_1 t H_1 locs ht hvm hw hB hz hk hS => ?_)
  rw [ht] at hB
  try dsimp only at hw
  try dsimp only at hB
  subst hw
  obtain ⟨B9, hB0, hP⟩ := hB
  have hF9 : Fr _ _ _ := hk
  have hM := hM.frm hF9 (fun q h z => hdis q z h)
  obtain ⟨v, as, pa, bi, at0, hMr, -⟩ := id hM
  refine lv_aload_n hx hb dL_law_387 rfl (lv_at hl 2 rfl) ?_
  refine lv_aload_n hx hb dL_law_388 rfl (lv_at hl 0 rfl) ?_
  refine lv_iload_n hx hb dL_law_389 rfl (lv_at hl 3 rfl) ?_
  refine lv_iconst (v := (nI 1)) hx hb dL_law_390 (by decide) ?_
  refine lv_iadd hx hb dL_law_391 ?_
  refine top_i (nI_add n 1) ?_
  refine va_sld hx hb hX hbl hbA hS (vp_in_nI (show n + 1 < L by omega) (by omega)) dL_law_392 ?_
  refine top_i (x' := (xs (n + 1))) (congrArg xs (nI_clamp (by omega))) ?_
  refine lv_aload_n hx hb dL_law_393 rfl (lv_at hl 0 rfl) ?_
  refine lv_iload_n hx hb dL_law_394 rfl (lv_at hl 3 rfl) ?_
  refine lv_iconst (v := (nI 2)) hx hb dL_law_395 (by decide) ?_
  refine lv_iadd hx hb dL_law_396 ?_
  refine top_i (nI_add n 2) ?_
  refine va_sld hx hb hX hbl hbA hS (vp_in_nI (show n + 2 < L by omega) (by omega)) dL_law_397 ?_
  refine top_i (x' := (xs (n + 2))) (congrArg xs (nI_clamp (by omega))) ?_
  refine va_calli (va_runV (As := [.int (xs (n + 1)), .int (xs (n + 2))]) (rest := [.int (shiR fi (xs (n + 1)) (xs (n + 2)))]) ⟨hx, hb, hml, hown, hts⟩ (k_X4_shift l D T M Sy fi (xs (n + 1)) (xs (n + 2)) ) (cwV 2 hts gL_law_X4_shift rfl rfl rfl (by decide +kernel) ⟨Nat.le_of_ble_eq_true rfl, Nat.le_of_ble_eq_true rfl⟩) (pre_V (Φ := fun X => MSE D T X M Sy fi) hK (hMr.2.1) rfl hM) rfl rfl hl.1 rfl (lv_room (Nat.le_of_ble_eq_true rfl)) dL_law_398 ⟨Nat.le_of_ble_eq_true rfl, Nat.le_of_ble_eq_true rfl⟩) hS (fun q _ h => hTq q h) (fun q h => hTq q h) (fun r_2 u_2 t H_2 locs ht hvm hw hB hz hk hS => ?_)
  rw [ht] at hB
  try dsimp only at hw
  try dsimp only at hB
  subst hw
  have hF9 : Fr _ _ _ := hk
  have hP := hP.frm hF9 (fun q h => hdis q h)
  have hM := hB
  refine lv_icmp_eq (tgt := 996) hx hb dL_law_401 (by decide) (fun c_1 => ?_) (fun c_1 => ?_)
  · skip
    exact kk _ B9 _ _ hB0 hP hM hS
  · skip
    exact absurd rfl c_1
set_option maxHeartbeats 4000000 in
set_option maxRecDepth 100000 in
theorem law_c6 {p : Program} {l : Launch} {e : Env} {s : State} {m : MethodId} {below : List Frame} {meth : Method} {c : Code} {b L : Nat} {xs : Nat → Int32} {D : va_G} {T : Nat → ClassId} {Q : State → Prop} {Sx Sy : Nat → Prop} (hL : L ≤ 2560) (hx : p.tables.exec = Jvm.exec) (hb : c.code = cL_law) (hml : c.maxLocals = 4) (hown : s.vm.findClass RL = some m.cls) (hts : ∀ w ∈ wsL_law, w.before #[Value.ref b] s = true) (hX : va_X b L xs s s.heap) (hbl : b < s.heap.size) (hK : KS D T s) (hSq : ∀ q, Sx q → s.heap.size ≤ q) (hTq : ∀ q, Sy q → s.heap.size ≤ q) (hdis : ∀ q, Sx q → ¬ Sy q) {n : Nat} (hn : n + 5 ≤ L) {fi : FS} {A M : Nat → Nat} {H : Heap} {locs : List Loc} (hP : PSE D T H A Sx fi) (hM : MSE D T H M Sy fi) (hS : va_S (fun q : Nat => s.heap.size ≤ q) s.heap H locs) {ls : Array Slot} (hl : lv_has ls 4 [(0, .ref b), (1, .ref (A 0)), (2, .ref (M 0)), (3, .int (nI n))]) (kk : ∀ (fi' : FS) (A' : Nat → Nat) (H' : Heap) (locs' : List Loc), A' 0 = A 0 → PSE D T H' A' Sx fi' → MSE D T H' M Sy fi' → va_S (fun q : Nat => s.heap.size ≤ q) s.heap H' locs' → W p l e room_1 s m #[Value.ref b] below meth c H' locs' 113 8645 Q (F0 m 996 ls [])) : W p l e room_1 s m #[Value.ref b] below meth c H locs 113 8645 Q (F0 m 406 ls []) := by
  have hbA : ¬ (fun q : Nat => s.heap.size ≤ q) b := Nat.not_le.mpr hbl
  obtain ⟨W0, me, co, sc, hPr, -⟩ := id hP
  obtain ⟨v, as, pa, bi, at0, hMr, -⟩ := id hM
  refine lv_aload_n hx hb dL_law_406 rfl (lv_at hl 1 rfl) ?_
  refine lv_aload_n hx hb dL_law_407 rfl (lv_at hl 0 rfl) ?_
  refine lv_iload_n hx hb dL_law_408 rfl (lv_at hl 3 rfl) ?_
  refine lv_iconst (v := (nI 1)) hx hb dL_law_409 (by decide) ?_
  refine lv_iadd hx hb dL_law_410 ?_
  refine top_i (nI_add n 1) ?_
  refine va_sld hx hb hX hbl hbA hS (vp_in_nI (show n + 1 < L by omega) (by omega)) dL_law_411 ?_
  refine top_i (x' := (xs (n + 1))) (congrArg xs (nI_clamp (by omega))) ?_
  refine vp_callSi (va_Run.run (va_runV (As := [.int (xs (n + 1))]) (rest := []) ⟨hx, hb, hml, hown, hts⟩ (k_X3_size l D T A Sx fi (xs (n + 1)) ) (cwV 1 hts gL_law_X3_size rfl rfl rfl (by decide +kernel) ⟨Nat.le_of_ble_eq_true rfl, Nat.le_of_ble_eq_true rfl⟩) (pre_V (Φ := fun X => PSE D T X A Sx fi) hK (hPr.2.1) rfl hP) rfl rfl hl.1 rfl (lv_room (Nat.le_of_ble_eq_true rfl)) dL_law_412 ⟨Nat.le_of_ble_eq_true rfl, Nat.le_of_ble_eq_true rfl⟩)) (fun r_1 hr_1 => ?_)
  subst hr_1
  refine lv_aload_n hx hb dL_law_415 rfl (lv_at hl 2 rfl) ?_
  refine lv_aload_n hx hb dL_law_416 rfl (lv_at hl 0 rfl) ?_
  refine lv_iload_n hx hb dL_law_417 rfl (lv_at hl 3 rfl) ?_
  refine lv_iconst (v := (nI 1)) hx hb dL_law_418 (by decide) ?_
  refine lv_iadd hx hb dL_law_419 ?_
  refine top_i (nI_add n 1) ?_
  refine va_sld hx hb hX hbl hbA hS (vp_in_nI (show n + 1 < L by omega) (by omega)) dL_law_420 ?_
  refine top_i (x' := (xs (n + 1))) (congrArg xs (nI_clamp (by omega))) ?_
  refine vp_callSi (va_Run.run (va_runV (As := [.int (xs (n + 1))]) (rest := [.int (sizR fi (xs (n + 1)))]) ⟨hx, hb, hml, hown, hts⟩ (k_X4_size l D T M Sy fi (xs (n + 1)) ) (cwV 1 hts gL_law_X4_size rfl rfl rfl (by decide +kernel) ⟨Nat.le_of_ble_eq_true rfl, Nat.le_of_ble_eq_true rfl⟩) (pre_V (Φ := fun X => MSE D T X M Sy fi) hK (hMr.2.1) rfl hM) rfl rfl hl.1 rfl (lv_room (Nat.le_of_ble_eq_true rfl)) dL_law_421 ⟨Nat.le_of_ble_eq_true rfl, Nat.le_of_ble_eq_true rfl⟩)) (fun r_2 hr_2 => ?_)
  subst hr_2
  refine lv_icmp_eq (tgt := 996) hx hb dL_law_424 (by decide) (fun c_1 => ?_) (fun c_1 => ?_)
  · skip
    exact kk fi A H locs rfl hP hM hS
  · skip
    exact absurd rfl c_1
set_option maxHeartbeats 4000000 in
set_option maxRecDepth 100000 in
theorem law_c7 {p : Program} {l : Launch} {e : Env} {s : State} {m : MethodId} {below : List Frame} {meth : Method} {c : Code} {b L : Nat} {xs : Nat → Int32} {D : va_G} {T : Nat → ClassId} {Q : State → Prop} {Sx Sy : Nat → Prop} (hL : L ≤ 2560) (hx : p.tables.exec = Jvm.exec) (hb : c.code = cL_law) (hml : c.maxLocals = 4) (hown : s.vm.findClass RL = some m.cls) (hts : ∀ w ∈ wsL_law, w.before #[Value.ref b] s = true) (hX : va_X b L xs s s.heap) (hbl : b < s.heap.size) (hK : KS D T s) (hSq : ∀ q, Sx q → s.heap.size ≤ q) (hTq : ∀ q, Sy q → s.heap.size ≤ q) (hdis : ∀ q, Sx q → ¬ Sy q) {n : Nat} (hn : n + 5 ≤ L) {fi : FS} {A M : Nat → Nat} {H : Heap} {locs : List Loc} (hP : PSE D T H A Sx fi) (hM : MSE D T H M Sy fi) (hS : va_S (fun q : Nat => s.heap.size ≤ q) s.heap H locs) {ls : Array Slot} (hl : lv_has ls 4 [(0, .ref b), (1, .ref (A 0)), (2, .ref (M 0)), (3, .int (nI n))]) (kk : ∀ (fi' : FS) (A' : Nat → Nat) (H' : Heap) (locs' : List Loc), A' 0 = A 0 → PSE D T H' A' Sx fi' → MSE D T H' M Sy fi' → va_S (fun q : Nat => s.heap.size ≤ q) s.heap H' locs' → W p l e room_1 s m #[Value.ref b] below meth c H' locs' 113 8645 Q (F0 m 996 ls [])) : W p l e room_1 s m #[Value.ref b] below meth c H locs 113 8645 Q (F0 m 429 ls []) := by
  have hbA : ¬ (fun q : Nat => s.heap.size ≤ q) b := Nat.not_le.mpr hbl
  obtain ⟨W0, me, co, sc, hPr, -⟩ := id hP
  obtain ⟨v, as, pa, bi, at0, hMr, -⟩ := id hM
  refine lv_aload_n hx hb dL_law_429 rfl (lv_at hl 1 rfl) ?_
  refine lv_aload_n hx hb dL_law_430 rfl (lv_at hl 0 rfl) ?_
  refine lv_iload_n hx hb dL_law_431 rfl (lv_at hl 3 rfl) ?_
  refine lv_iconst (v := (nI 1)) hx hb dL_law_432 (by decide) ?_
  refine lv_iadd hx hb dL_law_433 ?_
  refine top_i (nI_add n 1) ?_
  refine va_sld hx hb hX hbl hbA hS (vp_in_nI (show n + 1 < L by omega) (by omega)) dL_law_434 ?_
  refine top_i (x' := (xs (n + 1))) (congrArg xs (nI_clamp (by omega))) ?_
  refine lv_aload_n hx hb dL_law_435 rfl (lv_at hl 0 rfl) ?_
  refine lv_iload_n hx hb dL_law_436 rfl (lv_at hl 3 rfl) ?_
  refine lv_iconst (v := (nI 2)) hx hb dL_law_437 (by decide) ?_
  refine lv_iadd hx hb dL_law_438 ?_
  refine top_i (nI_add n 2) ?_
  refine va_sld hx hb hX hbl hbA hS (vp_in_nI (show n + 2 < L by omega) (by omega)) dL_law_439 ?_
  refine top_i (x' := (xs (n + 2))) (congrArg xs (nI_clamp (by omega))) ?_
  refine vp_callSi (va_Run.run (va_runV (As := [.int (xs (n + 1)), .int (xs (n + 2))]) (rest := []) ⟨hx, hb, hml, hown, hts⟩ (k_X3_contains l D T A Sx fi (xs (n + 1)) (xs (n + 2)) ) (cwV 2 hts gL_law_X3_contains rfl rfl rfl (by decide +kernel) ⟨Nat.le_of_ble_eq_true rfl, Nat.le_of_ble_eq_true rfl⟩) (pre_V (Φ := fun X => PSE D T X A Sx fi) hK (hPr.2.1) rfl hP) rfl rfl hl.1 rfl (lv_room (Nat.le_of_ble_eq_true rfl)) dL_law_440 ⟨Nat.le_of_ble_eq_true rfl, Nat.le_of_ble_eq_true rfl⟩)) (fun r_1 hr_1 => ?_)
  subst hr_1
  refine lv_aload_n hx hb dL_law_443 rfl (lv_at hl 2 rfl) ?_
  refine lv_aload_n hx hb dL_law_444 rfl (lv_at hl 0 rfl) ?_
  refine lv_iload_n hx hb dL_law_445 rfl (lv_at hl 3 rfl) ?_
  refine lv_iconst (v := (nI 1)) hx hb dL_law_446 (by decide) ?_
  refine lv_iadd hx hb dL_law_447 ?_
  refine top_i (nI_add n 1) ?_
  refine va_sld hx hb hX hbl hbA hS (vp_in_nI (show n + 1 < L by omega) (by omega)) dL_law_448 ?_
  refine top_i (x' := (xs (n + 1))) (congrArg xs (nI_clamp (by omega))) ?_
  refine lv_aload_n hx hb dL_law_449 rfl (lv_at hl 0 rfl) ?_
  refine lv_iload_n hx hb dL_law_450 rfl (lv_at hl 3 rfl) ?_
  refine lv_iconst (v := (nI 2)) hx hb dL_law_451 (by decide) ?_
  refine lv_iadd hx hb dL_law_452 ?_
  refine top_i (nI_add n 2) ?_
  refine va_sld hx hb hX hbl hbA hS (vp_in_nI (show n + 2 < L by omega) (by omega)) dL_law_453 ?_
  refine top_i (x' := (xs (n + 2))) (congrArg xs (nI_clamp (by omega))) ?_
  refine vp_callSi (va_Run.run (va_runV (As := [.int (xs (n + 1)), .int (xs (n + 2))]) (rest := [.int (conR fi (xs (n + 1)) (xs (n + 2)))]) ⟨hx, hb, hml, hown, hts⟩ (k_X4_contains l D T M Sy fi (xs (n + 1)) (xs (n + 2)) ) (cwV 2 hts gL_law_X4_contains rfl rfl rfl (by decide +kernel) ⟨Nat.le_of_ble_eq_true rfl, Nat.le_of_ble_eq_true rfl⟩) (pre_V (Φ := fun X => MSE D T X M Sy fi) hK (hMr.2.1) rfl hM) rfl rfl hl.1 rfl (lv_room (Nat.le_of_ble_eq_true rfl)) dL_law_454 ⟨Nat.le_of_ble_eq_true rfl, Nat.le_of_ble_eq_true rfl⟩)) (fun r_2 hr_2 => ?_)
  subst hr_2
  refine lv_icmp_eq (tgt := 996) hx hb dL_law_457 (by decide) (fun c_1 => ?_) (fun c_1 => ?_)
  · skip
    exact kk fi A H locs rfl hP hM hS
  · skip
    exact absurd rfl c_1
set_option maxHeartbeats 4000000 in
set_option maxRecDepth 100000 in
theorem law_c8 {p : Program} {l : Launch} {e : Env} {s : State} {m : MethodId} {below : List Frame} {meth : Method} {c : Code} {b L : Nat} {xs : Nat → Int32} {D : va_G} {T : Nat → ClassId} {Q : State → Prop} {Sx Sy : Nat → Prop} (hL : L ≤ 2560) (hx : p.tables.exec = Jvm.exec) (hb : c.code = cL_law) (hml : c.maxLocals = 4) (hown : s.vm.findClass RL = some m.cls) (hts : ∀ w ∈ wsL_law, w.before #[Value.ref b] s = true) (hX : va_X b L xs s s.heap) (hbl : b < s.heap.size) (hK : KS D T s) (hSq : ∀ q, Sx q → s.heap.size ≤ q) (hTq : ∀ q, Sy q → s.heap.size ≤ q) (hdis : ∀ q, Sx q → ¬ Sy q) {n : Nat} (hn : n + 5 ≤ L) {fi : FS} {A M : Nat → Nat} {H : Heap} {locs : List Loc} (hP : PSE D T H A Sx fi) (hM : MSE D T H M Sy fi) (hS : va_S (fun q : Nat => s.heap.size ≤ q) s.heap H locs) {ls : Array Slot} (hl : lv_has ls 4 [(0, .ref b), (1, .ref (A 0)), (2, .ref (M 0)), (3, .int (nI n))]) (kk : ∀ (fi' : FS) (A' : Nat → Nat) (H' : Heap) (locs' : List Loc), A' 0 = A 0 → PSE D T H' A' Sx fi' → MSE D T H' M Sy fi' → va_S (fun q : Nat => s.heap.size ≤ q) s.heap H' locs' → W p l e room_1 s m #[Value.ref b] below meth c H' locs' 113 8645 Q (F0 m 996 ls [])) : W p l e room_1 s m #[Value.ref b] below meth c H locs 113 8645 Q (F0 m 462 ls []) := by
  have hbA : ¬ (fun q : Nat => s.heap.size ≤ q) b := Nat.not_le.mpr hbl
  obtain ⟨W0, me, co, sc, hPr, -⟩ := id hP
  obtain ⟨v, as, pa, bi, at0, hMr, -⟩ := id hM
  refine lv_aload_n hx hb dL_law_462 rfl (lv_at hl 1 rfl) ?_
  refine lv_aload_n hx hb dL_law_463 rfl (lv_at hl 0 rfl) ?_
  refine lv_iload_n hx hb dL_law_464 rfl (lv_at hl 3 rfl) ?_
  refine lv_iconst (v := (nI 1)) hx hb dL_law_465 (by decide) ?_
  refine lv_iadd hx hb dL_law_466 ?_
  refine top_i (nI_add n 1) ?_
  refine va_sld hx hb hX hbl hbA hS (vp_in_nI (show n + 1 < L by omega) (by omega)) dL_law_467 ?_
  refine top_i (x' := (xs (n + 1))) (congrArg xs (nI_clamp (by omega))) ?_
  refine lv_aload_n hx hb dL_law_468 rfl (lv_at hl 0 rfl) ?_
  refine lv_iload_n hx hb dL_law_469 rfl (lv_at hl 3 rfl) ?_
  refine lv_iconst (v := (nI 2)) hx hb dL_law_470 (by decide) ?_
  refine lv_iadd hx hb dL_law_471 ?_
  refine top_i (nI_add n 2) ?_
  refine va_sld hx hb hX hbl hbA hS (vp_in_nI (show n + 2 < L by omega) (by omega)) dL_law_472 ?_
  refine top_i (x' := (xs (n + 2))) (congrArg xs (nI_clamp (by omega))) ?_
  refine vp_callSi (va_Run.run (va_runV (As := [.int (xs (n + 1)), .int (xs (n + 2))]) (rest := []) ⟨hx, hb, hml, hown, hts⟩ (k_X3_rank l D T A Sx fi (xs (n + 1)) (xs (n + 2)) ) (cwV 2 hts gL_law_X3_rank rfl rfl rfl (by decide +kernel) ⟨Nat.le_of_ble_eq_true rfl, Nat.le_of_ble_eq_true rfl⟩) (pre_V (Φ := fun X => PSE D T X A Sx fi) hK (hPr.2.1) rfl hP) rfl rfl hl.1 rfl (lv_room (Nat.le_of_ble_eq_true rfl)) dL_law_473 ⟨Nat.le_of_ble_eq_true rfl, Nat.le_of_ble_eq_true rfl⟩)) (fun r_1 hr_1 => ?_)
  subst hr_1
  refine lv_aload_n hx hb dL_law_476 rfl (lv_at hl 2 rfl) ?_
  refine lv_aload_n hx hb dL_law_477 rfl (lv_at hl 0 rfl) ?_
  refine lv_iload_n hx hb dL_law_478 rfl (lv_at hl 3 rfl) ?_
  refine lv_iconst (v := (nI 1)) hx hb dL_law_479 (by decide) ?_
  refine lv_iadd hx hb dL_law_480 ?_
  refine top_i (nI_add n 1) ?_
  refine va_sld hx hb hX hbl hbA hS (vp_in_nI (show n + 1 < L by omega) (by omega)) dL_law_481 ?_
  refine top_i (x' := (xs (n + 1))) (congrArg xs (nI_clamp (by omega))) ?_
  refine lv_aload_n hx hb dL_law_482 rfl (lv_at hl 0 rfl) ?_
  refine lv_iload_n hx hb dL_law_483 rfl (lv_at hl 3 rfl) ?_
  refine lv_iconst (v := (nI 2)) hx hb dL_law_484 (by decide) ?_
  refine lv_iadd hx hb dL_law_485 ?_
  refine top_i (nI_add n 2) ?_
  refine va_sld hx hb hX hbl hbA hS (vp_in_nI (show n + 2 < L by omega) (by omega)) dL_law_486 ?_
  refine top_i (x' := (xs (n + 2))) (congrArg xs (nI_clamp (by omega))) ?_
  refine vp_callSi (va_Run.run (va_runV (As := [.int (xs (n + 1)), .int (xs (n + 2))]) (rest := [.int (ranR fi (xs (n + 1)) (xs (n + 2)))]) ⟨hx, hb, hml, hown, hts⟩ (k_X4_rank l D T M Sy fi (xs (n + 1)) (xs (n + 2)) ) (cwV 2 hts gL_law_X4_rank rfl rfl rfl (by decide +kernel) ⟨Nat.le_of_ble_eq_true rfl, Nat.le_of_ble_eq_true rfl⟩) (pre_V (Φ := fun X => MSE D T X M Sy fi) hK (hMr.2.1) rfl hM) rfl rfl hl.1 rfl (lv_room (Nat.le_of_ble_eq_true rfl)) dL_law_487 ⟨Nat.le_of_ble_eq_true rfl, Nat.le_of_ble_eq_true rfl⟩)) (fun r_2 hr_2 => ?_)
  subst hr_2
  refine lv_icmp_eq (tgt := 996) hx hb dL_law_490 (by decide) (fun c_1 => ?_) (fun c_1 => ?_)
  · skip
    exact kk fi A H locs rfl hP hM hS
  · skip
    exact absurd rfl c_1
set_option maxHeartbeats 4000000 in
set_option maxRecDepth 100000 in
theorem law_c9 {p : Program} {l : Launch} {e : Env} {s : State} {m : MethodId} {below : List Frame} {meth : Method} {c : Code} {b L : Nat} {xs : Nat → Int32} {D : va_G} {T : Nat → ClassId} {Q : State → Prop} {Sx Sy : Nat → Prop} (hL : L ≤ 2560) (hx : p.tables.exec = Jvm.exec) (hb : c.code = cL_law) (hml : c.maxLocals = 4) (hown : s.vm.findClass RL = some m.cls) (hts : ∀ w ∈ wsL_law, w.before #[Value.ref b] s = true) (hX : va_X b L xs s s.heap) (hbl : b < s.heap.size) (hK : KS D T s) (hSq : ∀ q, Sx q → s.heap.size ≤ q) (hTq : ∀ q, Sy q → s.heap.size ≤ q) (hdis : ∀ q, Sx q → ¬ Sy q) {n : Nat} (hn : n + 5 ≤ L) {fi : FS} {A M : Nat → Nat} {H : Heap} {locs : List Loc} (hP : PSE D T H A Sx fi) (hM : MSE D T H M Sy fi) (hS : va_S (fun q : Nat => s.heap.size ≤ q) s.heap H locs) {ls : Array Slot} (hl : lv_has ls 4 [(0, .ref b), (1, .ref (A 0)), (2, .ref (M 0)), (3, .int (nI n))]) (kk : ∀ (fi' : FS) (A' : Nat → Nat) (H' : Heap) (locs' : List Loc), A' 0 = A 0 → PSE D T H' A' Sx fi' → MSE D T H' M Sy fi' → va_S (fun q : Nat => s.heap.size ≤ q) s.heap H' locs' → W p l e room_1 s m #[Value.ref b] below meth c H' locs' 113 8645 Q (F0 m 996 ls [])) : W p l e room_1 s m #[Value.ref b] below meth c H locs 113 8645 Q (F0 m 495 ls []) := by
  have hbA : ¬ (fun q : Nat => s.heap.size ≤ q) b := Nat.not_le.mpr hbl
  obtain ⟨W0, me, co, sc, hPr, -⟩ := id hP
  obtain ⟨v, as, pa, bi, at0, hMr, -⟩ := id hM
  refine lv_aload_n hx hb dL_law_495 rfl (lv_at hl 1 rfl) ?_
  refine lv_aload_n hx hb dL_law_496 rfl (lv_at hl 0 rfl) ?_
  refine lv_iload_n hx hb dL_law_497 rfl (lv_at hl 3 rfl) ?_
  refine lv_iconst (v := (nI 1)) hx hb dL_law_498 (by decide) ?_
  refine lv_iadd hx hb dL_law_499 ?_
  refine top_i (nI_add n 1) ?_
  refine va_sld hx hb hX hbl hbA hS (vp_in_nI (show n + 1 < L by omega) (by omega)) dL_law_500 ?_
  refine top_i (x' := (xs (n + 1))) (congrArg xs (nI_clamp (by omega))) ?_
  refine lv_aload_n hx hb dL_law_501 rfl (lv_at hl 0 rfl) ?_
  refine lv_iload_n hx hb dL_law_502 rfl (lv_at hl 3 rfl) ?_
  refine lv_iconst (v := (nI 2)) hx hb dL_law_503 (by decide) ?_
  refine lv_iadd hx hb dL_law_504 ?_
  refine top_i (nI_add n 2) ?_
  refine va_sld hx hb hX hbl hbA hS (vp_in_nI (show n + 2 < L by omega) (by omega)) dL_law_505 ?_
  refine top_i (x' := (xs (n + 2))) (congrArg xs (nI_clamp (by omega))) ?_
  refine vp_callSi (va_Run.run (va_runV (As := [.int (xs (n + 1)), .int (xs (n + 2))]) (rest := []) ⟨hx, hb, hml, hown, hts⟩ (k_X3_select l D T A Sx fi (xs (n + 1)) (xs (n + 2)) ) (cwV 2 hts gL_law_X3_select rfl rfl rfl (by decide +kernel) ⟨Nat.le_of_ble_eq_true rfl, Nat.le_of_ble_eq_true rfl⟩) (pre_V (Φ := fun X => PSE D T X A Sx fi) hK (hPr.2.1) rfl hP) rfl rfl hl.1 rfl (lv_room (Nat.le_of_ble_eq_true rfl)) dL_law_506 ⟨Nat.le_of_ble_eq_true rfl, Nat.le_of_ble_eq_true rfl⟩)) (fun r_1 hr_1 => ?_)
  subst hr_1
  refine lv_aload_n hx hb dL_law_509 rfl (lv_at hl 2 rfl) ?_
  refine lv_aload_n hx hb dL_law_510 rfl (lv_at hl 0 rfl) ?_
  refine lv_iload_n hx hb dL_law_511 rfl (lv_at hl 3 rfl) ?_
  refine lv_iconst (v := (nI 1)) hx hb dL_law_512 (by decide) ?_
  refine lv_iadd hx hb dL_law_513 ?_
  refine top_i (nI_add n 1) ?_
  refine va_sld hx hb hX hbl hbA hS (vp_in_nI (show n + 1 < L by omega) (by omega)) dL_law_514 ?_
  refine top_i (x' := (xs (n + 1))) (congrArg xs (nI_clamp (by omega))) ?_
  refine lv_aload_n hx hb dL_law_515 rfl (lv_at hl 0 rfl) ?_
  refine lv_iload_n hx hb dL_law_516 rfl (lv_at hl 3 rfl) ?_
  refine lv_iconst (v := (nI 2)) hx hb dL_law_517 (by decide) ?_
  refine lv_iadd hx hb dL_law_518 ?_
  refine top_i (nI_add n 2) ?_
  refine va_sld hx hb hX hbl hbA hS (vp_in_nI (show n + 2 < L by omega) (by omega)) dL_law_519 ?_
  refine top_i (x' := (xs (n + 2))) (congrArg xs (nI_clamp (by omega))) ?_
  refine vp_callSi (va_Run.run (va_runV (As := [.int (xs (n + 1)), .int (xs (n + 2))]) (rest := [.int (selR fi (xs (n + 1)) (xs (n + 2)))]) ⟨hx, hb, hml, hown, hts⟩ (k_X4_select l D T M Sy fi (xs (n + 1)) (xs (n + 2)) ) (cwV 2 hts gL_law_X4_select rfl rfl rfl (by decide +kernel) ⟨Nat.le_of_ble_eq_true rfl, Nat.le_of_ble_eq_true rfl⟩) (pre_V (Φ := fun X => MSE D T X M Sy fi) hK (hMr.2.1) rfl hM) rfl rfl hl.1 rfl (lv_room (Nat.le_of_ble_eq_true rfl)) dL_law_520 ⟨Nat.le_of_ble_eq_true rfl, Nat.le_of_ble_eq_true rfl⟩)) (fun r_2 hr_2 => ?_)
  subst hr_2
  refine lv_icmp_eq (tgt := 996) hx hb dL_law_523 (by decide) (fun c_1 => ?_) (fun c_1 => ?_)
  · skip
    exact kk fi A H locs rfl hP hM hS
  · skip
    exact absurd rfl c_1
set_option maxHeartbeats 4000000 in
set_option maxRecDepth 100000 in
theorem law_c10 {p : Program} {l : Launch} {e : Env} {s : State} {m : MethodId} {below : List Frame} {meth : Method} {c : Code} {b L : Nat} {xs : Nat → Int32} {D : va_G} {T : Nat → ClassId} {Q : State → Prop} {Sx Sy : Nat → Prop} (hL : L ≤ 2560) (hx : p.tables.exec = Jvm.exec) (hb : c.code = cL_law) (hml : c.maxLocals = 4) (hown : s.vm.findClass RL = some m.cls) (hts : ∀ w ∈ wsL_law, w.before #[Value.ref b] s = true) (hX : va_X b L xs s s.heap) (hbl : b < s.heap.size) (hK : KS D T s) (hSq : ∀ q, Sx q → s.heap.size ≤ q) (hTq : ∀ q, Sy q → s.heap.size ≤ q) (hdis : ∀ q, Sx q → ¬ Sy q) {n : Nat} (hn : n + 5 ≤ L) {fi : FS} {A M : Nat → Nat} {H : Heap} {locs : List Loc} (hP : PSE D T H A Sx fi) (hM : MSE D T H M Sy fi) (hS : va_S (fun q : Nat => s.heap.size ≤ q) s.heap H locs) {ls : Array Slot} (hl : lv_has ls 4 [(0, .ref b), (1, .ref (A 0)), (2, .ref (M 0)), (3, .int (nI n))]) (kk : ∀ (fi' : FS) (A' : Nat → Nat) (H' : Heap) (locs' : List Loc), A' 0 = A 0 → PSE D T H' A' Sx fi' → MSE D T H' M Sy fi' → va_S (fun q : Nat => s.heap.size ≤ q) s.heap H' locs' → W p l e room_1 s m #[Value.ref b] below meth c H' locs' 113 8645 Q (F0 m 996 ls [])) : W p l e room_1 s m #[Value.ref b] below meth c H locs 113 8645 Q (F0 m 528 ls []) := by
  have hbA : ¬ (fun q : Nat => s.heap.size ≤ q) b := Nat.not_le.mpr hbl
  obtain ⟨W0, me, co, sc, hPr, -⟩ := id hP
  obtain ⟨v, as, pa, bi, at0, hMr, -⟩ := id hM
  refine lv_aload_n hx hb dL_law_528 rfl (lv_at hl 1 rfl) ?_
  refine lv_aload_n hx hb dL_law_529 rfl (lv_at hl 0 rfl) ?_
  refine lv_iload_n hx hb dL_law_530 rfl (lv_at hl 3 rfl) ?_
  refine lv_iconst (v := (nI 1)) hx hb dL_law_531 (by decide) ?_
  refine lv_iadd hx hb dL_law_532 ?_
  refine top_i (nI_add n 1) ?_
  refine va_sld hx hb hX hbl hbA hS (vp_in_nI (show n + 1 < L by omega) (by omega)) dL_law_533 ?_
  refine top_i (x' := (xs (n + 1))) (congrArg xs (nI_clamp (by omega))) ?_
  refine lv_aload_n hx hb dL_law_534 rfl (lv_at hl 0 rfl) ?_
  refine lv_iload_n hx hb dL_law_535 rfl (lv_at hl 3 rfl) ?_
  refine lv_iconst (v := (nI 2)) hx hb dL_law_536 (by decide) ?_
  refine lv_iadd hx hb dL_law_537 ?_
  refine top_i (nI_add n 2) ?_
  refine va_sld hx hb hX hbl hbA hS (vp_in_nI (show n + 2 < L by omega) (by omega)) dL_law_538 ?_
  refine top_i (x' := (xs (n + 2))) (congrArg xs (nI_clamp (by omega))) ?_
  refine lv_aload_n hx hb dL_law_539 rfl (lv_at hl 0 rfl) ?_
  refine lv_iload_n hx hb dL_law_540 rfl (lv_at hl 3 rfl) ?_
  refine lv_iconst (v := (nI 3)) hx hb dL_law_541 (by decide) ?_
  refine lv_iadd hx hb dL_law_542 ?_
  refine top_i (nI_add n 3) ?_
  refine va_sld hx hb hX hbl hbA hS (vp_in_nI (show n + 3 < L by omega) (by omega)) dL_law_543 ?_
  refine top_i (x' := (xs (n + 3))) (congrArg xs (nI_clamp (by omega))) ?_
  refine lv_if_eq (tgt := 551) hx hb dL_law_544 (by decide) (fun c_1 => ?_) (fun c_1 => ?_)
  · skip
    refine lv_iconst (v := (nI 0)) hx hb dL_law_551 (by decide) ?_
    refine vp_callSi (va_Run.run (va_runV (As := [.int (xs (n + 1)), .int (xs (n + 2)), .int (nI 0)]) (rest := []) ⟨hx, hb, hml, hown, hts⟩ (k_X3_near l D T A Sx fi (xs (n + 1)) (xs (n + 2)) (nI 0) ) (cwV 3 hts gL_law_X3_near rfl rfl rfl (by decide +kernel) ⟨Nat.le_of_ble_eq_true rfl, Nat.le_of_ble_eq_true rfl⟩) (pre_V (Φ := fun X => PSE D T X A Sx fi) hK (hPr.2.1) rfl hP) rfl rfl hl.1 rfl (lv_room (Nat.le_of_ble_eq_true rfl)) dL_law_552 ⟨Nat.le_of_ble_eq_true rfl, Nat.le_of_ble_eq_true rfl⟩)) (fun r_1 hr_1 => ?_)
    subst hr_1
    refine lv_aload_n hx hb dL_law_555 rfl (lv_at hl 2 rfl) ?_
    refine lv_aload_n hx hb dL_law_556 rfl (lv_at hl 0 rfl) ?_
    refine lv_iload_n hx hb dL_law_557 rfl (lv_at hl 3 rfl) ?_
    refine lv_iconst (v := (nI 1)) hx hb dL_law_558 (by decide) ?_
    refine lv_iadd hx hb dL_law_559 ?_
    refine top_i (nI_add n 1) ?_
    refine va_sld hx hb hX hbl hbA hS (vp_in_nI (show n + 1 < L by omega) (by omega)) dL_law_560 ?_
    refine top_i (x' := (xs (n + 1))) (congrArg xs (nI_clamp (by omega))) ?_
    refine lv_aload_n hx hb dL_law_561 rfl (lv_at hl 0 rfl) ?_
    refine lv_iload_n hx hb dL_law_562 rfl (lv_at hl 3 rfl) ?_
    refine lv_iconst (v := (nI 2)) hx hb dL_law_563 (by decide) ?_
    refine lv_iadd hx hb dL_law_564 ?_
    refine top_i (nI_add n 2) ?_
    refine va_sld hx hb hX hbl hbA hS (vp_in_nI (show n + 2 < L by omega) (by omega)) dL_law_565 ?_
    refine top_i (x' := (xs (n + 2))) (congrArg xs (nI_clamp (by omega))) ?_
    refine lv_aload_n hx hb dL_law_566 rfl (lv_at hl 0 rfl) ?_
    refine lv_iload_n hx hb dL_law_567 rfl (lv_at hl 3 rfl) ?_
    refine lv_iconst (v := (nI 3)) hx hb dL_law_568 (by decide) ?_
    refine lv_iadd hx hb dL_law_569 ?_
    refine top_i (nI_add n 3) ?_
    refine va_sld hx hb hX hbl hbA hS (vp_in_nI (show n + 3 < L by omega) (by omega)) dL_law_570 ?_
    refine top_i (x' := (xs (n + 3))) (congrArg xs (nI_clamp (by omega))) ?_
    refine lv_if_eq (tgt := 578) hx hb dL_law_571 (by decide) (fun c_2 => ?_) (fun c_2 => ?_)
    · skip
      refine lv_iconst (v := (nI 0)) hx hb dL_law_578 (by decide) ?_
      refine vp_callSi (va_Run.run (va_runV (As := [.int (xs (n + 1)), .int (xs (n + 2)), .int (nI 0)]) (rest := [.int (neaR fi (xs (n + 1)) (xs (n + 2)) (nI 0))]) ⟨hx, hb, hml, hown, hts⟩ (k_X4_near l D T M Sy fi (xs (n + 1)) (xs (n + 2)) (nI 0) ) (cwV 3 hts gL_law_X4_near rfl rfl rfl (by decide +kernel) ⟨Nat.le_of_ble_eq_true rfl, Nat.le_of_ble_eq_true rfl⟩) (pre_V (Φ := fun X => MSE D T X M Sy fi) hK (hMr.2.1) rfl hM) rfl rfl hl.1 rfl (lv_room (Nat.le_of_ble_eq_true rfl)) dL_law_579 ⟨Nat.le_of_ble_eq_true rfl, Nat.le_of_ble_eq_true rfl⟩)) (fun r_2 hr_2 => ?_)
      subst hr_2
      refine lv_icmp_eq (tgt := 996) hx hb dL_law_582 (by decide) (fun c_3 => ?_) (fun c_3 => ?_)
      · skip
        exact kk fi A H locs rfl hP hM hS
      · skip
        exact absurd rfl c_3
    · skip
      exact absurd c_1 c_2
  · skip
    refine lv_iconst (v := (nI 1)) hx hb dL_law_547 (by decide) ?_
    refine lv_goto (tgt := 552) hx hb dL_law_548 (by decide) ?_
    refine vp_callSi (va_Run.run (va_runV (As := [.int (xs (n + 1)), .int (xs (n + 2)), .int (nI 1)]) (rest := []) ⟨hx, hb, hml, hown, hts⟩ (k_X3_near l D T A Sx fi (xs (n + 1)) (xs (n + 2)) (nI 1) ) (cwV 3 hts gL_law_X3_near rfl rfl rfl (by decide +kernel) ⟨Nat.le_of_ble_eq_true rfl, Nat.le_of_ble_eq_true rfl⟩) (pre_V (Φ := fun X => PSE D T X A Sx fi) hK (hPr.2.1) rfl hP) rfl rfl hl.1 rfl (lv_room (Nat.le_of_ble_eq_true rfl)) dL_law_552 ⟨Nat.le_of_ble_eq_true rfl, Nat.le_of_ble_eq_true rfl⟩)) (fun r_1 hr_1 => ?_)
    subst hr_1
    refine lv_aload_n hx hb dL_law_555 rfl (lv_at hl 2 rfl) ?_
    refine lv_aload_n hx hb dL_law_556 rfl (lv_at hl 0 rfl) ?_
    refine lv_iload_n hx hb dL_law_557 rfl (lv_at hl 3 rfl) ?_
    refine lv_iconst (v := (nI 1)) hx hb dL_law_558 (by decide) ?_
    refine lv_iadd hx hb dL_law_559 ?_
    refine top_i (nI_add n 1) ?_
    refine va_sld hx hb hX hbl hbA hS (vp_in_nI (show n + 1 < L by omega) (by omega)) dL_law_560 ?_
    refine top_i (x' := (xs (n + 1))) (congrArg xs (nI_clamp (by omega))) ?_
    refine lv_aload_n hx hb dL_law_561 rfl (lv_at hl 0 rfl) ?_
    refine lv_iload_n hx hb dL_law_562 rfl (lv_at hl 3 rfl) ?_
    refine lv_iconst (v := (nI 2)) hx hb dL_law_563 (by decide) ?_
    refine lv_iadd hx hb dL_law_564 ?_
    refine top_i (nI_add n 2) ?_
    refine va_sld hx hb hX hbl hbA hS (vp_in_nI (show n + 2 < L by omega) (by omega)) dL_law_565 ?_
    refine top_i (x' := (xs (n + 2))) (congrArg xs (nI_clamp (by omega))) ?_
    refine lv_aload_n hx hb dL_law_566 rfl (lv_at hl 0 rfl) ?_
    refine lv_iload_n hx hb dL_law_567 rfl (lv_at hl 3 rfl) ?_
    refine lv_iconst (v := (nI 3)) hx hb dL_law_568 (by decide) ?_
    refine lv_iadd hx hb dL_law_569 ?_
    refine top_i (nI_add n 3) ?_
    refine va_sld hx hb hX hbl hbA hS (vp_in_nI (show n + 3 < L by omega) (by omega)) dL_law_570 ?_
    refine top_i (x' := (xs (n + 3))) (congrArg xs (nI_clamp (by omega))) ?_
    refine lv_if_eq (tgt := 578) hx hb dL_law_571 (by decide) (fun c_2 => ?_) (fun c_2 => ?_)
    · skip
      exact absurd c_2 c_1
    · skip
      refine lv_iconst (v := (nI 1)) hx hb dL_law_574 (by decide) ?_
      refine lv_goto (tgt := 579) hx hb dL_law_575 (by decide) ?_
      refine vp_callSi (va_Run.run (va_runV (As := [.int (xs (n + 1)), .int (xs (n + 2)), .int (nI 1)]) (rest := [.int (neaR fi (xs (n + 1)) (xs (n + 2)) (nI 1))]) ⟨hx, hb, hml, hown, hts⟩ (k_X4_near l D T M Sy fi (xs (n + 1)) (xs (n + 2)) (nI 1) ) (cwV 3 hts gL_law_X4_near rfl rfl rfl (by decide +kernel) ⟨Nat.le_of_ble_eq_true rfl, Nat.le_of_ble_eq_true rfl⟩) (pre_V (Φ := fun X => MSE D T X M Sy fi) hK (hMr.2.1) rfl hM) rfl rfl hl.1 rfl (lv_room (Nat.le_of_ble_eq_true rfl)) dL_law_579 ⟨Nat.le_of_ble_eq_true rfl, Nat.le_of_ble_eq_true rfl⟩)) (fun r_2 hr_2 => ?_)
      subst hr_2
      refine lv_icmp_eq (tgt := 996) hx hb dL_law_582 (by decide) (fun c_3 => ?_) (fun c_3 => ?_)
      · skip
        exact kk fi A H locs rfl hP hM hS
      · skip
        exact absurd rfl c_3
set_option maxHeartbeats 4000000 in
set_option maxRecDepth 100000 in
theorem law_c11 {p : Program} {l : Launch} {e : Env} {s : State} {m : MethodId} {below : List Frame} {meth : Method} {c : Code} {b L : Nat} {xs : Nat → Int32} {D : va_G} {T : Nat → ClassId} {Q : State → Prop} {Sx Sy : Nat → Prop} (hL : L ≤ 2560) (hx : p.tables.exec = Jvm.exec) (hb : c.code = cL_law) (hml : c.maxLocals = 4) (hown : s.vm.findClass RL = some m.cls) (hts : ∀ w ∈ wsL_law, w.before #[Value.ref b] s = true) (hX : va_X b L xs s s.heap) (hbl : b < s.heap.size) (hK : KS D T s) (hSq : ∀ q, Sx q → s.heap.size ≤ q) (hTq : ∀ q, Sy q → s.heap.size ≤ q) (hdis : ∀ q, Sx q → ¬ Sy q) {n : Nat} (hn : n + 5 ≤ L) {fi : FS} {A M : Nat → Nat} {H : Heap} {locs : List Loc} (hP : PSE D T H A Sx fi) (hM : MSE D T H M Sy fi) (hS : va_S (fun q : Nat => s.heap.size ≤ q) s.heap H locs) {ls : Array Slot} (hl : lv_has ls 4 [(0, .ref b), (1, .ref (A 0)), (2, .ref (M 0)), (3, .int (nI n))]) (kk : ∀ (fi' : FS) (A' : Nat → Nat) (H' : Heap) (locs' : List Loc), A' 0 = A 0 → PSE D T H' A' Sx fi' → MSE D T H' M Sy fi' → va_S (fun q : Nat => s.heap.size ≤ q) s.heap H' locs' → W p l e room_1 s m #[Value.ref b] below meth c H' locs' 113 8645 Q (F0 m 996 ls [])) : W p l e room_1 s m #[Value.ref b] below meth c H locs 113 8645 Q (F0 m 587 ls []) := by
  have hbA : ¬ (fun q : Nat => s.heap.size ≤ q) b := Nat.not_le.mpr hbl
  obtain ⟨W0, me, co, sc, hPr, -⟩ := id hP
  obtain ⟨v, as, pa, bi, at0, hMr, -⟩ := id hM
  refine lv_aload_n hx hb dL_law_587 rfl (lv_at hl 1 rfl) ?_
  refine lv_aload_n hx hb dL_law_588 rfl (lv_at hl 0 rfl) ?_
  refine lv_iload_n hx hb dL_law_589 rfl (lv_at hl 3 rfl) ?_
  refine lv_iconst (v := (nI 1)) hx hb dL_law_590 (by decide) ?_
  refine lv_iadd hx hb dL_law_591 ?_
  refine top_i (nI_add n 1) ?_
  refine va_sld hx hb hX hbl hbA hS (vp_in_nI (show n + 1 < L by omega) (by omega)) dL_law_592 ?_
  refine top_i (x' := (xs (n + 1))) (congrArg xs (nI_clamp (by omega))) ?_
  refine vp_callSi (va_Run.run (va_runV (As := [.int (xs (n + 1))]) (rest := []) ⟨hx, hb, hml, hown, hts⟩ (k_X3_runs l D T A Sx fi (xs (n + 1)) ) (cwV 1 hts gL_law_X3_runs rfl rfl rfl (by decide +kernel) ⟨Nat.le_of_ble_eq_true rfl, Nat.le_of_ble_eq_true rfl⟩) (pre_V (Φ := fun X => PSE D T X A Sx fi) hK (hPr.2.1) rfl hP) rfl rfl hl.1 rfl (lv_room (Nat.le_of_ble_eq_true rfl)) dL_law_593 ⟨Nat.le_of_ble_eq_true rfl, Nat.le_of_ble_eq_true rfl⟩)) (fun r_1 hr_1 => ?_)
  subst hr_1
  refine lv_aload_n hx hb dL_law_596 rfl (lv_at hl 2 rfl) ?_
  refine lv_aload_n hx hb dL_law_597 rfl (lv_at hl 0 rfl) ?_
  refine lv_iload_n hx hb dL_law_598 rfl (lv_at hl 3 rfl) ?_
  refine lv_iconst (v := (nI 1)) hx hb dL_law_599 (by decide) ?_
  refine lv_iadd hx hb dL_law_600 ?_
  refine top_i (nI_add n 1) ?_
  refine va_sld hx hb hX hbl hbA hS (vp_in_nI (show n + 1 < L by omega) (by omega)) dL_law_601 ?_
  refine top_i (x' := (xs (n + 1))) (congrArg xs (nI_clamp (by omega))) ?_
  refine vp_callSi (va_Run.run (va_runV (As := [.int (xs (n + 1))]) (rest := [.int (rusR fi (xs (n + 1)))]) ⟨hx, hb, hml, hown, hts⟩ (k_X4_runs l D T M Sy fi (xs (n + 1)) ) (cwV 1 hts gL_law_X4_runs rfl rfl rfl (by decide +kernel) ⟨Nat.le_of_ble_eq_true rfl, Nat.le_of_ble_eq_true rfl⟩) (pre_V (Φ := fun X => MSE D T X M Sy fi) hK (hMr.2.1) rfl hM) rfl rfl hl.1 rfl (lv_room (Nat.le_of_ble_eq_true rfl)) dL_law_602 ⟨Nat.le_of_ble_eq_true rfl, Nat.le_of_ble_eq_true rfl⟩)) (fun r_2 hr_2 => ?_)
  subst hr_2
  refine lv_icmp_eq (tgt := 996) hx hb dL_law_605 (by decide) (fun c_1 => ?_) (fun c_1 => ?_)
  · skip
    exact kk fi A H locs rfl hP hM hS
  · skip
    exact absurd rfl c_1
set_option maxHeartbeats 4000000 in
set_option maxRecDepth 100000 in
theorem law_c12 {p : Program} {l : Launch} {e : Env} {s : State} {m : MethodId} {below : List Frame} {meth : Method} {c : Code} {b L : Nat} {xs : Nat → Int32} {D : va_G} {T : Nat → ClassId} {Q : State → Prop} {Sx Sy : Nat → Prop} (hL : L ≤ 2560) (hx : p.tables.exec = Jvm.exec) (hb : c.code = cL_law) (hml : c.maxLocals = 4) (hown : s.vm.findClass RL = some m.cls) (hts : ∀ w ∈ wsL_law, w.before #[Value.ref b] s = true) (hX : va_X b L xs s s.heap) (hbl : b < s.heap.size) (hK : KS D T s) (hSq : ∀ q, Sx q → s.heap.size ≤ q) (hTq : ∀ q, Sy q → s.heap.size ≤ q) (hdis : ∀ q, Sx q → ¬ Sy q) {n : Nat} (hn : n + 5 ≤ L) {fi : FS} {A M : Nat → Nat} {H : Heap} {locs : List Loc} (hP : PSE D T H A Sx fi) (hM : MSE D T H M Sy fi) (hS : va_S (fun q : Nat => s.heap.size ≤ q) s.heap H locs) {ls : Array Slot} (hl : lv_has ls 4 [(0, .ref b), (1, .ref (A 0)), (2, .ref (M 0)), (3, .int (nI n))]) (kk : ∀ (fi' : FS) (A' : Nat → Nat) (H' : Heap) (locs' : List Loc), A' 0 = A 0 → PSE D T H' A' Sx fi' → MSE D T H' M Sy fi' → va_S (fun q : Nat => s.heap.size ≤ q) s.heap H' locs' → W p l e room_1 s m #[Value.ref b] below meth c H' locs' 113 8645 Q (F0 m 996 ls [])) : W p l e room_1 s m #[Value.ref b] below meth c H locs 113 8645 Q (F0 m 610 ls []) := by
  have hbA : ¬ (fun q : Nat => s.heap.size ≤ q) b := Nat.not_le.mpr hbl
  obtain ⟨W0, me, co, sc, hPr, -⟩ := id hP
  obtain ⟨v, as, pa, bi, at0, hMr, -⟩ := id hM
  refine lv_aload_n hx hb dL_law_610 rfl (lv_at hl 1 rfl) ?_
  refine lv_aload_n hx hb dL_law_611 rfl (lv_at hl 0 rfl) ?_
  refine lv_iload_n hx hb dL_law_612 rfl (lv_at hl 3 rfl) ?_
  refine lv_iconst (v := (nI 1)) hx hb dL_law_613 (by decide) ?_
  refine lv_iadd hx hb dL_law_614 ?_
  refine top_i (nI_add n 1) ?_
  refine va_sld hx hb hX hbl hbA hS (vp_in_nI (show n + 1 < L by omega) (by omega)) dL_law_615 ?_
  refine top_i (x' := (xs (n + 1))) (congrArg xs (nI_clamp (by omega))) ?_
  refine lv_aload_n hx hb dL_law_616 rfl (lv_at hl 0 rfl) ?_
  refine lv_iload_n hx hb dL_law_617 rfl (lv_at hl 3 rfl) ?_
  refine lv_iconst (v := (nI 2)) hx hb dL_law_618 (by decide) ?_
  refine lv_iadd hx hb dL_law_619 ?_
  refine top_i (nI_add n 2) ?_
  refine va_sld hx hb hX hbl hbA hS (vp_in_nI (show n + 2 < L by omega) (by omega)) dL_law_620 ?_
  refine top_i (x' := (xs (n + 2))) (congrArg xs (nI_clamp (by omega))) ?_
  refine va_calli (va_runV (As := [.int (xs (n + 1)), .int (xs (n + 2))]) (rest := []) ⟨hx, hb, hml, hown, hts⟩ (k_X3_run l D T A Sx fi (xs (n + 1)) (xs (n + 2)) ) (cwV 2 hts gL_law_X3_run rfl rfl rfl (by decide +kernel) ⟨Nat.le_of_ble_eq_true rfl, Nat.le_of_ble_eq_true rfl⟩) (pre_V (Φ := fun X => PSE D T X A Sx fi) hK (hPr.2.1) rfl hP) rfl rfl hl.1 rfl (lv_room (Nat.le_of_ble_eq_true rfl)) dL_law_621 ⟨Nat.le_of_ble_eq_true rfl, Nat.le_of_ble_eq_true rfl⟩) hS (fun q _ h => hSq q h) (fun q h => hSq q h) (fun r_1 u_1 t H_1 locs ht hvm hw hB hz hk hS => ?_)
  rw [ht] at hB
  try dsimp only at hw
  try dsimp only at hB
  subst hw
  obtain ⟨B9, hB0, hP⟩ : ∃ B : Nat → Nat, B 0 = A 0 ∧ PSE D T H_1 B Sx fi := ⟨A, rfl, hB⟩
  have hF9 : Fr _ _ _ := hk
  have hM := hM.frm hF9 (fun q h z => hdis q z h)
  obtain ⟨v, as, pa, bi, at0, hMr, -⟩ := id hM
  refine lv_aload_n hx hb dL_law_624 rfl (lv_at hl 2 rfl) ?_
  refine lv_aload_n hx hb dL_law_625 rfl (lv_at hl 0 rfl) ?_
  refine lv_iload_n hx hb dL_law_626 rfl (lv_at hl 3 rfl) ?_
  refine lv_iconst (v := (nI 1)) hx hb dL_law_627 (by decide) ?_
  refine lv_iadd hx hb dL_law_628 ?_
  refine top_i (nI_add n 1) ?_
  refine va_sld hx hb hX hbl hbA hS (vp_in_nI (show n + 1 < L by omega) (by omega)) dL_law_629 ?_
  refine top_i (x' := (xs (n + 1))) (congrArg xs (nI_clamp (by omega))) ?_
  refine lv_aload_n hx hb dL_law_630 rfl (lv_at hl 0 rfl) ?_
  refine lv_iload_n hx hb dL_law_631 rfl (lv_at hl 3 rfl) ?_
  refine lv_iconst (v := (nI 2)) hx hb dL_law_632 (by decide) ?_
  refine lv_iadd hx hb dL_law_633 ?_
  refine top_i (nI_add n 2) ?_
  refine va_sld hx hb hX hbl hbA hS (vp_in_nI (show n + 2 < L by omega) (by omega)) dL_law_634 ?_
  refine top_i (x' := (xs (n + 2))) (congrArg xs (nI_clamp (by omega))) ?_
  refine vp_callSi (va_Run.run (va_runV (As := [.int (xs (n + 1)), .int (xs (n + 2))]) (rest := [.int (runR fi (xs (n + 1)) (xs (n + 2)))]) ⟨hx, hb, hml, hown, hts⟩ (k_X4_run l D T M Sy fi (xs (n + 1)) (xs (n + 2)) ) (cwV 2 hts gL_law_X4_run rfl rfl rfl (by decide +kernel) ⟨Nat.le_of_ble_eq_true rfl, Nat.le_of_ble_eq_true rfl⟩) (pre_V (Φ := fun X => MSE D T X M Sy fi) hK (hMr.2.1) rfl hM) rfl rfl hl.1 rfl (lv_room (Nat.le_of_ble_eq_true rfl)) dL_law_635 ⟨Nat.le_of_ble_eq_true rfl, Nat.le_of_ble_eq_true rfl⟩)) (fun r_2 hr_2 => ?_)
  subst hr_2
  refine lv_icmp_eq (tgt := 996) hx hb dL_law_638 (by decide) (fun c_1 => ?_) (fun c_1 => ?_)
  · skip
    exact kk _ B9 _ _ hB0 hP hM hS
  · skip
    exact absurd rfl c_1
