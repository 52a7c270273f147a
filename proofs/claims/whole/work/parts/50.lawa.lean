/-! what the law stands on: the machine at its entry, both sides' frames, both sides' starts -/
theorem tyP {ty : FieldType} {args : Array Value} {s : State} (h : (Cond.arrayClass ty).before args s = true) : ∃ cA, ArrOfT s cA ty ∧ s.vm.findClass ("[" ++ ty.toString) = some cA := by
  obtain ⟨cA, kA, comp, h1, h2, h3⟩ := Cond.arrayClass_spec h
  exact ⟨cA, fun n z => ⟨fun k h => (by cases h), kA, h2, comp, h3⟩, h1⟩
theorem tyR {C : String} {args : Array Value} {s : State} (h : (Cond.arrayOver (.object C)).before args s = true) : ∃ cA, ArrOfT s cA (.object C) ∧ va_RA s cA (.object C) := by
  obtain ⟨comp, cA, kA, h1, h2, h3, h4, h5⟩ := Cond.arrayOver_spec h
  exact ⟨cA, fun n z => ⟨fun k h => (by cases h), kA, h3, comp, h4⟩, kA, comp, h3, h4, h1, h5⟩
set_option maxRecDepth 20000 in
theorem nwL_in : ∀ w ∈ nwL, w ∈ lw_tbl := by decide +kernel
set_option maxRecDepth 20000 in
theorem aR_in : Cond.arrayOver (.object "PieceSets$Numbers") ∈ lw_tbl ∧ Cond.arrayOver (.object "PieceSets$State") ∈ lw_tbl ∧ Cond.arrayClass .int ∈ lw_tbl ∧ Cond.arrayClass .long ∈ lw_tbl := by decide +kernel
set_option maxRecDepth 20000 in
theorem iR_in : Cond.instantiable RX0 2 ∈ lw_tbl ∧ Cond.instantiable RX1 1 ∈ lw_tbl ∧ Cond.instantiable RX2 3 ∈ lw_tbl ∧ Cond.instantiable RX3 5 ∈ lw_tbl ∧ Cond.instantiable RX4 8 ∈ lw_tbl := by decide +kernel
theorem KA_of {args : Array Value} {s : State} (hts : ∀ w ∈ lw_tbl, w.before args s = true) : ∃ (D : va_G) (T : Nat → ClassId), KA D T s := by
  obtain ⟨c0, i0, k0⟩ := u_known (C := RX0) (T := TX0) (N := 2) (n := 2) hts inX0 (hts _ iR_in.1)
  obtain ⟨c1, i1, k1⟩ := u_known (C := RX1) (T := TX1) (N := 1) (n := 1) hts inX1 (hts _ iR_in.2.1)
  obtain ⟨c2, i2, k2⟩ := u_known (C := RX2) (T := TX2) (N := 3) (n := 3) hts inX2 (hts _ iR_in.2.2.1)
  obtain ⟨c3, i3, k3⟩ := u_known (C := RX3) (T := TX3) (N := 5) (n := 5) hts inX3 (hts _ iR_in.2.2.2.1)
  obtain ⟨c4, i4, k4⟩ := u_known (C := RX4) (T := TX4) (N := 8) (n := 8) hts inX4 (hts _ iR_in.2.2.2.2)
  obtain ⟨t0, a0, b0⟩ := tyP (hts _ aR_in.2.2.1)
  obtain ⟨t1, a1, b1⟩ := tyP (hts _ aR_in.2.2.2)
  obtain ⟨t2, a2, b2⟩ := tyR (hts _ aR_in.1)
  obtain ⟨t3, a3, b3⟩ := tyR (hts _ aR_in.2.1)
  refine ⟨(fun k => if k = 0 then c0 else if k = 1 then c1 else if k = 2 then c2 else if k = 3 then c3 else c4, fun k => if k = 0 then i0 else if k = 1 then i1 else if k = 2 then i2 else if k = 3 then i3 else i4), fun k => if k = 0 then t0 else if k = 1 then t1 else if k = 2 then t2 else t3, ⟨⟨?_, ?_⟩, ?_⟩, va_AO.of (hts _ aR_in.1), va_AO.of (hts _ aR_in.2.1)⟩
  · intro k q hq
    match k, hq with
    | 0, hq => cases hq; exact k0
    | 1, hq => cases hq; exact k1
    | 2, hq => cases hq; exact k2
    | 3, hq => cases hq; exact k3
    | 4, hq => cases hq; exact k4
    | k + 5, hq => simp [vwCl] at hq
  · intro k q hq
    match k, hq with
    | 0, hq => cases hq; exact ⟨a0, b0⟩
    | 1, hq => cases hq; exact ⟨a1, b1⟩
    | 2, hq => cases hq; exact ⟨a2, b2⟩
    | 3, hq => cases hq; exact ⟨a3, b3⟩
    | k + 4, hq => simp [tyz] at hq
  · intro w hw
    rcases nwL_shape w hw with ⟨_, _, _, _, _, _, rfl⟩ | ⟨_, _, _, _, rfl⟩
    · exact va_Nw.of rfl (hts _ (nwL_in _ hw))
    · exact va_Nw.of rfl (hts _ (nwL_in _ hw))
section LFR
variable {B : Nat → Prop} {D : va_G} {T : Nat → ClassId} {H H1 : Heap} {A M : Nat → Nat} {Sx Sy : Nat → Prop} {p : FS}
theorem PSE.frm (h : PSE D T H A Sx p) (hF : Fr B H H1) (hd : ∀ q, Sx q → ¬ B q) : PSE D T H1 A Sx p := by
  obtain ⟨W, me, co, sc, hP, hSx, h2⟩ := h
  exact ⟨W, me, co, sc, ⟨hP.1, hF.at hP.2.1 (hd _ (hSx 0 (by decide))), hF.at hP.2.2.1 (hd _ (hSx 1 (by decide))), hP.2.2.2.fr hF (fun i _ hi => hd _ (hSx i hi))⟩, hSx, h2⟩
theorem MSE.frm (h : MSE D T H M Sy p) (hF : Fr B H H1) (hd : ∀ q, Sy q → ¬ B q) : MSE D T H1 M Sy p := by
  obtain ⟨v, as, pa, bi, at0, hM, hSy, h2⟩ := h
  exact ⟨v, as, pa, bi, at0, hM.fr hF (fun i hi => hd _ (hSy i hi)), hSy, h2⟩
end LFR
abbrev a0S : AS := (fun _ _ => false, fun _ => 0, fun _ => 0)
abbrev fi0 : FS := (a0S, fun _ => a0S, 0, fun _ => 0, 0)
theorem PSE_0 {D : va_G} {T : Nat → ClassId} {H : Heap} {A : Nat → Nat} {Sx : Nat → Prop} (h : PSr D T H A 0 (fun _ => 0) 0 (fun _ => 0) (fun _ _ _ => 0) (fun _ _ => 0) (fun _ _ => 0)) (hSx : ∀ i, i < 102 → Sx (A i)) : PSE D T H A Sx fi0 :=
  ⟨_, _, _, _, h, hSx, fun _ => (show 0 < 256 by decide), by decide, by decide, ⟨fun s _ x _ => (bitL_dm _ x).trans (lb_0 _), fun _ _ => rfl, fun _ _ => rfl⟩, fun i hi => absurd hi (Nat.not_lt_zero _)⟩
theorem MSE_0 {D : va_G} {T : Nat → ClassId} {H : Heap} {M : Nat → Nat} {Sy : Nat → Prop} (h : MO D T H M (fun _ => 0) (fun _ => 0) (fun _ => 0) 0 (fun _ => 0) 0 (fun _ => 0) 0) (hSy : ∀ i, i < 6 → Sy (M i)) : MSE D T H M Sy fi0 :=
  ⟨_, _, _, _, _, h.equ (g := buF fi0) (fun _ _ => rfl), hSy, fun _ => (show 0 < 256 by decide), by decide, by decide, ⟨fun s _ x _ => b_0 _, fun _ _ => rfl, fun _ _ => rfl⟩, fun i hi => absurd hi (Nat.not_lt_zero _)⟩
theorem law_cmp {L n : Nat} (hL : L ≤ 2560) (hn : n ≤ L + 5) : nI L - nI 5 < nI n ↔ L < n + 5 := by
  rw [Int32.lt_iff_toInt_lt, Int32.toInt_sub, nI_toInt (by omega), nI_toInt (by omega), nI_toInt (by omega), Int.bmod_eq_of_le (by omega) (by omega)]
  omega
theorem lcmp_self (x : Int64) : lg_cmp x x = 0 := by
  unfold lg_cmp
  rw [if_neg (fun z : x > x => by rw [gt_iff_lt, Int64.lt_iff_toInt_lt] at z; omega), if_pos rfl]
