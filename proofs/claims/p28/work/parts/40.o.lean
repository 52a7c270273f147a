/-! the object at one address: what the public methods do to it, and answer -/
def PO (D : va_G) (T : Nat → ClassId) (H : Heap) (o : Nat) (Sx : Nat → Prop) (p : FS) : Prop := ∃ A : Nat → Nat, A 0 = o ∧ PSE D T H A Sx p
theorem PO.recv {D : va_G} {T : Nat → ClassId} {H : Heap} {o : Nat} {Sx : Nat → Prop} {p : FS} (h : PO D T H o Sx p) : ∃ fs : List Value, va_at D vwCl (o, .inr (3, fs)) H := by
  obtain ⟨A, rfl, W0, me, co, sc, hPr, -⟩ := h
  exact ⟨_, hPr.2.1⟩
theorem Met.any {α : Type} {l : Launch} {y : MethodName} {ws : List Cond} {rm : Room} {mc ms : Nat} {free : Addr → Prop} {P : α → Array Value → State → Prop} {P' : Array Value → State → Prop} {Q : Array Value → State → Outcome → State → Prop} {Q' : α → Array Value → State → Outcome → State → Prop} (h : ∀ a, Met l y ws rm (P a) (Q' a) mc ms free) (hP : ∀ args s, P' args s → ∃ a, P a args s) (hQ : ∀ a args s o t, Q' a args s o t → Q args s o t) : Met l y ws rm P' Q mc ms free := by
  intro p e hadm h1 h2 s m args below hf ha hp hk
  obtain ⟨a, ha'⟩ := hP args s hp
  obtain ⟨n, o, q1, q2, q3, q4, q5⟩ := h a p e hadm h1 h2 s m args below hf ha ha' hk
  exact ⟨n, o, q1, q2, q3, hQ a _ _ _ _ q4, q5⟩
theorem k_X3_add_o (l : Launch) (D : va_G) (T : Nat → ClassId) (o : Nat) (Sx : Nat → Prop) (fi : FS) (ss : Int32) (x : Int32) (y : Int32) : Met l yX3_add wsX3_add ({ frames := 4, cells := 0, slots := 0, locals := 125 }) (va_Pc [.ref o, .int ss, .int x, .int y] (fun U => KS D T U ∧ PO D T U.heap o Sx fi)) (va_Qi (fun (r : Int32) (u : Unit) => r = (addR fi ss x y)) (fun u t => PO D T t.heap o Sx (addN fi ss x y)) Sx) 0 0 Sx :=
  Met.any (α := { A : Nat → Nat // A 0 = o }) (P := fun a => va_Pc [.ref (a.1 0), .int ss, .int x, .int y] (fun U => KS D T U ∧ PSE D T U.heap a.1 Sx fi)) (Q' := fun a => (va_Qi (fun (r : Int32) (u : Unit) => r = (addR fi ss x y)) (fun u t => ∃ B, B 0 = a.1 0 ∧ PSE D T t.heap B Sx (addN fi ss x y)) Sx)) (fun a => k_X3_add l D T a.1 Sx fi ss x y) (fun args s h => by
    obtain ⟨h1, hK, A, hA, hp⟩ := h
    subst hA
    exact ⟨⟨A, rfl⟩, h1, hK, hp⟩) (fun a args s o9 t h => by
    obtain ⟨⟨r, u, hv, hp, B, hB, hw⟩, hF⟩ := h
    exact ⟨⟨r, u, hv, hp, B, hB.trans a.2, hw⟩, hF⟩)
theorem k_X3_alike_o (l : Launch) (D : va_G) (T : Nat → ClassId) (o : Nat) (Sx : Nat → Prop) (fi : FS) (ss : Int32) (tt : Int32) (x : Int32) : Met l yX3_alike wsX3_alike ({ frames := 4, cells := 0, slots := 0, locals := 89 }) (va_Pc [.ref o, .int ss, .int tt, .int x] (fun U => KS D T U ∧ PO D T U.heap o Sx fi)) (va_Qi (fun (r : Int32) (u : Unit) => r = (alkR fi ss tt x)) (fun u t => PO D T t.heap o Sx (fi)) Sx) 0 0 Sx :=
  Met.any (α := { A : Nat → Nat // A 0 = o }) (P := fun a => va_Pc [.ref (a.1 0), .int ss, .int tt, .int x] (fun U => KS D T U ∧ PSE D T U.heap a.1 Sx fi)) (Q' := fun a => (va_Qi (fun (r : Int32) (u : Unit) => r = (alkR fi ss tt x)) (fun u t => PSE D T t.heap a.1 Sx fi) Sx)) (fun a => k_X3_alike l D T a.1 Sx fi ss tt x) (fun args s h => by
    obtain ⟨h1, hK, A, hA, hp⟩ := h
    subst hA
    exact ⟨⟨A, rfl⟩, h1, hK, hp⟩) (fun a args s o9 t h => by
    obtain ⟨⟨r, u, hv, hp, hw⟩, hF⟩ := h
    exact ⟨⟨r, u, hv, hp, a.1, a.2, hw⟩, hF⟩)
theorem k_X3_byteAt_o (l : Launch) (D : va_G) (T : Nat → ClassId) (o : Nat) (Sx : Nat → Prop) (fi : FS) (ss : Int32) (x : Int32) : Met l yX3_byteAt wsX3_byteAt ({ frames := 5, cells := 0, slots := 0, locals := 133 }) (va_Pc [.ref o, .int ss, .int x] (fun U => KS D T U ∧ PO D T U.heap o Sx fi)) (vp_Si (fun r => r = (byaR fi ss x))) 0 0 (fun _ => False) :=
  Met.any (α := { A : Nat → Nat // A 0 = o }) (P := fun a => va_Pc [.ref (a.1 0), .int ss, .int x] (fun U => KS D T U ∧ PSE D T U.heap a.1 Sx fi)) (Q' := fun a => (vp_Si (fun r => r = (byaR fi ss x)))) (fun a => k_X3_byteAt l D T a.1 Sx fi ss x) (fun args s h => by
    obtain ⟨h1, hK, A, hA, hp⟩ := h
    subst hA
    exact ⟨⟨A, rfl⟩, h1, hK, hp⟩) (fun a args s o t h => h)
theorem k_X3_bytes_o (l : Launch) (D : va_G) (T : Nat → ClassId) (o : Nat) (Sx : Nat → Prop) (fi : FS) (ss : Int32) : Met l yX3_bytes wsX3_bytes ({ frames := 4, cells := 0, slots := 0, locals := 94 }) (va_Pc [.ref o, .int ss] (fun U => KS D T U ∧ PO D T U.heap o Sx fi)) (vp_Si (fun r => r = (bytR fi ss))) 0 0 (fun _ => False) :=
  Met.any (α := { A : Nat → Nat // A 0 = o }) (P := fun a => va_Pc [.ref (a.1 0), .int ss] (fun U => KS D T U ∧ PSE D T U.heap a.1 Sx fi)) (Q' := fun a => (vp_Si (fun r => r = (bytR fi ss)))) (fun a => k_X3_bytes l D T a.1 Sx fi ss) (fun args s h => by
    obtain ⟨h1, hK, A, hA, hp⟩ := h
    subst hA
    exact ⟨⟨A, rfl⟩, h1, hK, hp⟩) (fun a args s o t h => h)
theorem k_X3_clear_o (l : Launch) (D : va_G) (T : Nat → ClassId) (o : Nat) (Sx : Nat → Prop) (fi : FS) : Met l yX3_clear wsX3_clear ({ frames := 0, cells := 0, slots := 0, locals := 0 }) (va_Pc [.ref o] (fun U => KS D T U ∧ PO D T U.heap o Sx fi)) (va_Qi (fun (r : Int32) (u : Unit) => r = (cleR fi)) (fun u t => PO D T t.heap o Sx (cleN fi)) Sx) 0 0 Sx :=
  Met.any (α := { A : Nat → Nat // A 0 = o }) (P := fun a => va_Pc [.ref (a.1 0)] (fun U => KS D T U ∧ PSE D T U.heap a.1 Sx fi)) (Q' := fun a => (va_Qi (fun (r : Int32) (u : Unit) => r = (cleR fi)) (fun u t => ∃ B, B 0 = a.1 0 ∧ PSE D T t.heap B Sx (cleN fi)) Sx)) (fun a => k_X3_clear l D T a.1 Sx fi) (fun args s h => by
    obtain ⟨h1, hK, A, hA, hp⟩ := h
    subst hA
    exact ⟨⟨A, rfl⟩, h1, hK, hp⟩) (fun a args s o9 t h => by
    obtain ⟨⟨r, u, hv, hp, B, hB, hw⟩, hF⟩ := h
    exact ⟨⟨r, u, hv, hp, B, hB.trans a.2, hw⟩, hF⟩)
theorem k_X3_combine_o (l : Launch) (D : va_G) (T : Nat → ClassId) (o : Nat) (Sx : Nat → Prop) (fi : FS) (oo : Int32) (ss : Int32) (tt : Int32) (uu : Int32) : Met l yX3_combine wsX3_combine ({ frames := 4, cells := 0, slots := 0, locals := 125 }) (va_Pc [.ref o, .int oo, .int ss, .int tt, .int uu] (fun U => KS D T U ∧ PO D T U.heap o Sx fi)) (va_Qi (fun (r : Int32) (u : Unit) => r = (comR fi oo ss tt uu)) (fun u t => PO D T t.heap o Sx (comN fi oo ss tt uu)) Sx) 0 0 Sx :=
  Met.any (α := { A : Nat → Nat // A 0 = o }) (P := fun a => va_Pc [.ref (a.1 0), .int oo, .int ss, .int tt, .int uu] (fun U => KS D T U ∧ PSE D T U.heap a.1 Sx fi)) (Q' := fun a => (va_Qi (fun (r : Int32) (u : Unit) => r = (comR fi oo ss tt uu)) (fun u t => ∃ B, B 0 = a.1 0 ∧ PSE D T t.heap B Sx (comN fi oo ss tt uu)) Sx)) (fun a => k_X3_combine l D T a.1 Sx fi oo ss tt uu) (fun args s h => by
    obtain ⟨h1, hK, A, hA, hp⟩ := h
    subst hA
    exact ⟨⟨A, rfl⟩, h1, hK, hp⟩) (fun a args s o9 t h => by
    obtain ⟨⟨r, u, hv, hp, B, hB, hw⟩, hF⟩ := h
    exact ⟨⟨r, u, hv, hp, B, hB.trans a.2, hw⟩, hF⟩)
theorem k_X3_compare_o (l : Launch) (D : va_G) (T : Nat → ClassId) (o : Nat) (Sx : Nat → Prop) (fi : FS) (ss : Int32) (tt : Int32) (x : Int32) : Met l yX3_compare wsX3_compare ({ frames := 4, cells := 0, slots := 0, locals := 89 }) (va_Pc [.ref o, .int ss, .int tt, .int x] (fun U => KS D T U ∧ PO D T U.heap o Sx fi)) (va_Qi (fun (r : Int32) (u : Unit) => r = (cmpR fi ss tt x)) (fun u t => PO D T t.heap o Sx (fi)) Sx) 0 0 Sx :=
  Met.any (α := { A : Nat → Nat // A 0 = o }) (P := fun a => va_Pc [.ref (a.1 0), .int ss, .int tt, .int x] (fun U => KS D T U ∧ PSE D T U.heap a.1 Sx fi)) (Q' := fun a => (va_Qi (fun (r : Int32) (u : Unit) => r = (cmpR fi ss tt x)) (fun u t => PSE D T t.heap a.1 Sx fi) Sx)) (fun a => k_X3_compare l D T a.1 Sx fi ss tt x) (fun args s h => by
    obtain ⟨h1, hK, A, hA, hp⟩ := h
    subst hA
    exact ⟨⟨A, rfl⟩, h1, hK, hp⟩) (fun a args s o9 t h => by
    obtain ⟨⟨r, u, hv, hp, hw⟩, hF⟩ := h
    exact ⟨⟨r, u, hv, hp, a.1, a.2, hw⟩, hF⟩)
theorem k_X3_contains_o (l : Launch) (D : va_G) (T : Nat → ClassId) (o : Nat) (Sx : Nat → Prop) (fi : FS) (ss : Int32) (x : Int32) : Met l yX3_contains wsX3_contains ({ frames := 2, cells := 0, slots := 0, locals := 41 }) (va_Pc [.ref o, .int ss, .int x] (fun U => KS D T U ∧ PO D T U.heap o Sx fi)) (vp_Si (fun r => r = (conR fi ss x))) 0 0 (fun _ => False) :=
  Met.any (α := { A : Nat → Nat // A 0 = o }) (P := fun a => va_Pc [.ref (a.1 0), .int ss, .int x] (fun U => KS D T U ∧ PSE D T U.heap a.1 Sx fi)) (Q' := fun a => (vp_Si (fun r => r = (conR fi ss x)))) (fun a => k_X3_contains l D T a.1 Sx fi ss x) (fun args s h => by
    obtain ⟨h1, hK, A, hA, hp⟩ := h
    subst hA
    exact ⟨⟨A, rfl⟩, h1, hK, hp⟩) (fun a args s o t h => h)
theorem k_X3_converted_o (l : Launch) (D : va_G) (T : Nat → ClassId) (o : Nat) (Sx : Nat → Prop) (fi : FS) (x : Int32) (y : Int32) : Met l yX3_converted wsX3_converted ({ frames := 1, cells := 0, slots := 0, locals := 20 }) (va_Pc [.ref o, .int x, .int y] (fun U => KS D T U ∧ PO D T U.heap o Sx fi)) (vp_Si (fun r => r = (cvtR fi x y))) 0 0 (fun _ => False) :=
  Met.any (α := { A : Nat → Nat // A 0 = o }) (P := fun a => va_Pc [.ref (a.1 0), .int x, .int y] (fun U => KS D T U ∧ PSE D T U.heap a.1 Sx fi)) (Q' := fun a => (vp_Si (fun r => r = (cvtR fi x y)))) (fun a => k_X3_converted l D T a.1 Sx fi x y) (fun args s h => by
    obtain ⟨h1, hK, A, hA, hp⟩ := h
    subst hA
    exact ⟨⟨A, rfl⟩, h1, hK, hp⟩) (fun a args s o t h => h)
theorem k_X3_fingerprint_o (l : Launch) (D : va_G) (T : Nat → ClassId) (o : Nat) (Sx : Nat → Prop) (fi : FS) : Met l yX3_fingerprint wsX3_fingerprint ({ frames := 6, cells := 0, slots := 0, locals := 142 }) (va_Pc [.ref o] (fun U => KS D T U ∧ PO D T U.heap o Sx fi)) (vp_Sl (fun r => r = (finR fi))) 0 0 (fun _ => False) :=
  Met.any (α := { A : Nat → Nat // A 0 = o }) (P := fun a => va_Pc [.ref (a.1 0)] (fun U => KS D T U ∧ PSE D T U.heap a.1 Sx fi)) (Q' := fun a => (vp_Sl (fun r => r = (finR fi)))) (fun a => k_X3_fingerprint l D T a.1 Sx fi) (fun args s h => by
    obtain ⟨h1, hK, A, hA, hp⟩ := h
    subst hA
    exact ⟨⟨A, rfl⟩, h1, hK, hp⟩) (fun a args s o t h => h)
theorem k_X3_flip_o (l : Launch) (D : va_G) (T : Nat → ClassId) (o : Nat) (Sx : Nat → Prop) (fi : FS) (ss : Int32) (x : Int32) (y : Int32) : Met l yX3_flip wsX3_flip ({ frames := 4, cells := 0, slots := 0, locals := 125 }) (va_Pc [.ref o, .int ss, .int x, .int y] (fun U => KS D T U ∧ PO D T U.heap o Sx fi)) (va_Qi (fun (r : Int32) (u : Unit) => r = (addR fi ss x y)) (fun u t => PO D T t.heap o Sx (flpN fi ss x y)) Sx) 0 0 Sx :=
  Met.any (α := { A : Nat → Nat // A 0 = o }) (P := fun a => va_Pc [.ref (a.1 0), .int ss, .int x, .int y] (fun U => KS D T U ∧ PSE D T U.heap a.1 Sx fi)) (Q' := fun a => (va_Qi (fun (r : Int32) (u : Unit) => r = (addR fi ss x y)) (fun u t => ∃ B, B 0 = a.1 0 ∧ PSE D T t.heap B Sx (flpN fi ss x y)) Sx)) (fun a => k_X3_flip l D T a.1 Sx fi ss x y) (fun args s h => by
    obtain ⟨h1, hK, A, hA, hp⟩ := h
    subst hA
    exact ⟨⟨A, rfl⟩, h1, hK, hp⟩) (fun a args s o9 t h => by
    obtain ⟨⟨r, u, hv, hp, B, hB, hw⟩, hF⟩ := h
    exact ⟨⟨r, u, hv, hp, B, hB.trans a.2, hw⟩, hF⟩)
theorem k_X3_met_o (l : Launch) (D : va_G) (T : Nat → ClassId) (o : Nat) (Sx : Nat → Prop) (fi : FS) (x : Int32) (y : Int32) : Met l yX3_met wsX3_met ({ frames := 1, cells := 0, slots := 0, locals := 20 }) (va_Pc [.ref o, .int x, .int y] (fun U => KS D T U ∧ PO D T U.heap o Sx fi)) (vp_Si (fun r => r = (metR fi x y))) 0 0 (fun _ => False) :=
  Met.any (α := { A : Nat → Nat // A 0 = o }) (P := fun a => va_Pc [.ref (a.1 0), .int x, .int y] (fun U => KS D T U ∧ PSE D T U.heap a.1 Sx fi)) (Q' := fun a => (vp_Si (fun r => r = (metR fi x y)))) (fun a => k_X3_met l D T a.1 Sx fi x y) (fun args s h => by
    obtain ⟨h1, hK, A, hA, hp⟩ := h
    subst hA
    exact ⟨⟨A, rfl⟩, h1, hK, hp⟩) (fun a args s o t h => h)
theorem k_X3_near_o (l : Launch) (D : va_G) (T : Nat → ClassId) (o : Nat) (Sx : Nat → Prop) (fi : FS) (ss : Int32) (x : Int32) (y : Int32) : Met l yX3_near wsX3_near ({ frames := 3, cells := 0, slots := 0, locals := 88 }) (va_Pc [.ref o, .int ss, .int x, .int y] (fun U => KS D T U ∧ PO D T U.heap o Sx fi)) (vp_Si (fun r => r = (neaR fi ss x y))) 0 0 (fun _ => False) :=
  Met.any (α := { A : Nat → Nat // A 0 = o }) (P := fun a => va_Pc [.ref (a.1 0), .int ss, .int x, .int y] (fun U => KS D T U ∧ PSE D T U.heap a.1 Sx fi)) (Q' := fun a => (vp_Si (fun r => r = (neaR fi ss x y)))) (fun a => k_X3_near l D T a.1 Sx fi ss x y) (fun args s h => by
    obtain ⟨h1, hK, A, hA, hp⟩ := h
    subst hA
    exact ⟨⟨A, rfl⟩, h1, hK, hp⟩) (fun a args s o t h => h)
theorem k_X3_piece_o (l : Launch) (D : va_G) (T : Nat → ClassId) (o : Nat) (Sx : Nat → Prop) (fi : FS) (ss : Int32) (x : Int32) (y : Int32) : Met l yX3_piece wsX3_piece ({ frames := 5, cells := 0, slots := 0, locals := 116 }) (va_Pc [.ref o, .int ss, .int x, .int y] (fun U => KS D T U ∧ PO D T U.heap o Sx fi)) (vp_Si (fun r => r = (pieR fi ss x y))) 0 0 (fun _ => False) :=
  Met.any (α := { A : Nat → Nat // A 0 = o }) (P := fun a => va_Pc [.ref (a.1 0), .int ss, .int x, .int y] (fun U => KS D T U ∧ PSE D T U.heap a.1 Sx fi)) (Q' := fun a => (vp_Si (fun r => r = (pieR fi ss x y)))) (fun a => k_X3_piece l D T a.1 Sx fi ss x y) (fun args s h => by
    obtain ⟨h1, hK, A, hA, hp⟩ := h
    subst hA
    exact ⟨⟨A, rfl⟩, h1, hK, hp⟩) (fun a args s o t h => h)
theorem k_X3_put_o (l : Launch) (D : va_G) (T : Nat → ClassId) (o : Nat) (Sx : Nat → Prop) (fi : FS) (x : Int32) : Met l yX3_put wsX3_put ({ frames := 1, cells := 0, slots := 0, locals := 21 }) (va_Pc [.ref o, .int x] (fun U => KS D T U ∧ PO D T U.heap o Sx fi)) (va_Qi (fun (r : Int32) (u : Unit) => r = (putR fi x)) (fun u t => PO D T t.heap o Sx (putN fi x)) Sx) 0 0 Sx :=
  Met.any (α := { A : Nat → Nat // A 0 = o }) (P := fun a => va_Pc [.ref (a.1 0), .int x] (fun U => KS D T U ∧ PSE D T U.heap a.1 Sx fi)) (Q' := fun a => (va_Qi (fun (r : Int32) (u : Unit) => r = (putR fi x)) (fun u t => ∃ B, B 0 = a.1 0 ∧ PSE D T t.heap B Sx (putN fi x)) Sx)) (fun a => k_X3_put l D T a.1 Sx fi x) (fun args s h => by
    obtain ⟨h1, hK, A, hA, hp⟩ := h
    subst hA
    exact ⟨⟨A, rfl⟩, h1, hK, hp⟩) (fun a args s o9 t h => by
    obtain ⟨⟨r, u, hv, hp, B, hB, hw⟩, hF⟩ := h
    exact ⟨⟨r, u, hv, hp, B, hB.trans a.2, hw⟩, hF⟩)
theorem k_X3_rank_o (l : Launch) (D : va_G) (T : Nat → ClassId) (o : Nat) (Sx : Nat → Prop) (fi : FS) (ss : Int32) (x : Int32) : Met l yX3_rank wsX3_rank ({ frames := 3, cells := 0, slots := 0, locals := 88 }) (va_Pc [.ref o, .int ss, .int x] (fun U => KS D T U ∧ PO D T U.heap o Sx fi)) (vp_Si (fun r => r = (ranR fi ss x))) 0 0 (fun _ => False) :=
  Met.any (α := { A : Nat → Nat // A 0 = o }) (P := fun a => va_Pc [.ref (a.1 0), .int ss, .int x] (fun U => KS D T U ∧ PSE D T U.heap a.1 Sx fi)) (Q' := fun a => (vp_Si (fun r => r = (ranR fi ss x)))) (fun a => k_X3_rank l D T a.1 Sx fi ss x) (fun args s h => by
    obtain ⟨h1, hK, A, hA, hp⟩ := h
    subst hA
    exact ⟨⟨A, rfl⟩, h1, hK, hp⟩) (fun a args s o t h => h)
theorem k_X3_read_o (l : Launch) (D : va_G) (T : Nat → ClassId) (o : Nat) (Sx : Nat → Prop) (fi : FS) (ss : Int32) : Met l yX3_read wsX3_read ({ frames := 6, cells := 0, slots := 0, locals := 165 }) (va_Pc [.ref o, .int ss] (fun U => KS D T U ∧ PO D T U.heap o Sx fi)) (va_Qi (fun (r : Int32) (u : Unit) => r = (reaR fi ss)) (fun u t => PO D T t.heap o Sx (reaN fi ss)) Sx) 0 0 Sx :=
  Met.any (α := { A : Nat → Nat // A 0 = o }) (P := fun a => va_Pc [.ref (a.1 0), .int ss] (fun U => KS D T U ∧ PSE D T U.heap a.1 Sx fi)) (Q' := fun a => (va_Qi (fun (r : Int32) (u : Unit) => r = (reaR fi ss)) (fun u t => ∃ B, B 0 = a.1 0 ∧ PSE D T t.heap B Sx (reaN fi ss)) Sx)) (fun a => k_X3_read l D T a.1 Sx fi ss) (fun args s h => by
    obtain ⟨h1, hK, A, hA, hp⟩ := h
    subst hA
    exact ⟨⟨A, rfl⟩, h1, hK, hp⟩) (fun a args s o9 t h => by
    obtain ⟨⟨r, u, hv, hp, B, hB, hw⟩, hF⟩ := h
    exact ⟨⟨r, u, hv, hp, B, hB.trans a.2, hw⟩, hF⟩)
theorem k_X3_remove_o (l : Launch) (D : va_G) (T : Nat → ClassId) (o : Nat) (Sx : Nat → Prop) (fi : FS) (ss : Int32) (x : Int32) (y : Int32) : Met l yX3_remove wsX3_remove ({ frames := 4, cells := 0, slots := 0, locals := 125 }) (va_Pc [.ref o, .int ss, .int x, .int y] (fun U => KS D T U ∧ PO D T U.heap o Sx fi)) (va_Qi (fun (r : Int32) (u : Unit) => r = (remR fi ss x y)) (fun u t => PO D T t.heap o Sx (remN fi ss x y)) Sx) 0 0 Sx :=
  Met.any (α := { A : Nat → Nat // A 0 = o }) (P := fun a => va_Pc [.ref (a.1 0), .int ss, .int x, .int y] (fun U => KS D T U ∧ PSE D T U.heap a.1 Sx fi)) (Q' := fun a => (va_Qi (fun (r : Int32) (u : Unit) => r = (remR fi ss x y)) (fun u t => ∃ B, B 0 = a.1 0 ∧ PSE D T t.heap B Sx (remN fi ss x y)) Sx)) (fun a => k_X3_remove l D T a.1 Sx fi ss x y) (fun args s h => by
    obtain ⟨h1, hK, A, hA, hp⟩ := h
    subst hA
    exact ⟨⟨A, rfl⟩, h1, hK, hp⟩) (fun a args s o9 t h => by
    obtain ⟨⟨r, u, hv, hp, B, hB, hw⟩, hF⟩ := h
    exact ⟨⟨r, u, hv, hp, B, hB.trans a.2, hw⟩, hF⟩)
theorem k_X3_run_o (l : Launch) (D : va_G) (T : Nat → ClassId) (o : Nat) (Sx : Nat → Prop) (fi : FS) (ss : Int32) (x : Int32) : Met l yX3_run wsX3_run ({ frames := 3, cells := 0, slots := 0, locals := 73 }) (va_Pc [.ref o, .int ss, .int x] (fun U => KS D T U ∧ PO D T U.heap o Sx fi)) (va_Qi (fun (r : Int32) (u : Unit) => r = (runR fi ss x)) (fun u t => PO D T t.heap o Sx (fi)) Sx) 0 0 Sx :=
  Met.any (α := { A : Nat → Nat // A 0 = o }) (P := fun a => va_Pc [.ref (a.1 0), .int ss, .int x] (fun U => KS D T U ∧ PSE D T U.heap a.1 Sx fi)) (Q' := fun a => (va_Qi (fun (r : Int32) (u : Unit) => r = (runR fi ss x)) (fun u t => PSE D T t.heap a.1 Sx fi) Sx)) (fun a => k_X3_run l D T a.1 Sx fi ss x) (fun args s h => by
    obtain ⟨h1, hK, A, hA, hp⟩ := h
    subst hA
    exact ⟨⟨A, rfl⟩, h1, hK, hp⟩) (fun a args s o9 t h => by
    obtain ⟨⟨r, u, hv, hp, hw⟩, hF⟩ := h
    exact ⟨⟨r, u, hv, hp, a.1, a.2, hw⟩, hF⟩)
theorem k_X3_runs_o (l : Launch) (D : va_G) (T : Nat → ClassId) (o : Nat) (Sx : Nat → Prop) (fi : FS) (ss : Int32) : Met l yX3_runs wsX3_runs ({ frames := 2, cells := 0, slots := 0, locals := 49 }) (va_Pc [.ref o, .int ss] (fun U => KS D T U ∧ PO D T U.heap o Sx fi)) (vp_Si (fun r => r = (rusR fi ss))) 0 0 (fun _ => False) :=
  Met.any (α := { A : Nat → Nat // A 0 = o }) (P := fun a => va_Pc [.ref (a.1 0), .int ss] (fun U => KS D T U ∧ PSE D T U.heap a.1 Sx fi)) (Q' := fun a => (vp_Si (fun r => r = (rusR fi ss)))) (fun a => k_X3_runs l D T a.1 Sx fi ss) (fun args s h => by
    obtain ⟨h1, hK, A, hA, hp⟩ := h
    subst hA
    exact ⟨⟨A, rfl⟩, h1, hK, hp⟩) (fun a args s o t h => h)
theorem k_X3_scatter_o (l : Launch) (D : va_G) (T : Nat → ClassId) (o : Nat) (Sx : Nat → Prop) (fi : FS) (ss : Int32) (x : Int32) (y : Int32) : Met l yX3_scatter wsX3_scatter ({ frames := 4, cells := 0, slots := 0, locals := 125 }) (va_Pc [.ref o, .int ss, .int x, .int y] (fun U => KS D T U ∧ PO D T U.heap o Sx fi)) (va_Qi (fun (r : Int32) (u : Unit) => r = (scaR fi ss x y)) (fun u t => PO D T t.heap o Sx (scaN fi ss x y)) Sx) 0 0 Sx :=
  Met.any (α := { A : Nat → Nat // A 0 = o }) (P := fun a => va_Pc [.ref (a.1 0), .int ss, .int x, .int y] (fun U => KS D T U ∧ PSE D T U.heap a.1 Sx fi)) (Q' := fun a => (va_Qi (fun (r : Int32) (u : Unit) => r = (scaR fi ss x y)) (fun u t => ∃ B, B 0 = a.1 0 ∧ PSE D T t.heap B Sx (scaN fi ss x y)) Sx)) (fun a => k_X3_scatter l D T a.1 Sx fi ss x y) (fun args s h => by
    obtain ⟨h1, hK, A, hA, hp⟩ := h
    subst hA
    exact ⟨⟨A, rfl⟩, h1, hK, hp⟩) (fun a args s o9 t h => by
    obtain ⟨⟨r, u, hv, hp, B, hB, hw⟩, hF⟩ := h
    exact ⟨⟨r, u, hv, hp, B, hB.trans a.2, hw⟩, hF⟩)
theorem k_X3_select_o (l : Launch) (D : va_G) (T : Nat → ClassId) (o : Nat) (Sx : Nat → Prop) (fi : FS) (ss : Int32) (x : Int32) : Met l yX3_select wsX3_select ({ frames := 2, cells := 0, slots := 0, locals := 48 }) (va_Pc [.ref o, .int ss, .int x] (fun U => KS D T U ∧ PO D T U.heap o Sx fi)) (vp_Si (fun r => r = (selR fi ss x))) 0 0 (fun _ => False) :=
  Met.any (α := { A : Nat → Nat // A 0 = o }) (P := fun a => va_Pc [.ref (a.1 0), .int ss, .int x] (fun U => KS D T U ∧ PSE D T U.heap a.1 Sx fi)) (Q' := fun a => (vp_Si (fun r => r = (selR fi ss x)))) (fun a => k_X3_select l D T a.1 Sx fi ss x) (fun args s h => by
    obtain ⟨h1, hK, A, hA, hp⟩ := h
    subst hA
    exact ⟨⟨A, rfl⟩, h1, hK, hp⟩) (fun a args s o t h => h)
theorem k_X3_shift_o (l : Launch) (D : va_G) (T : Nat → ClassId) (o : Nat) (Sx : Nat → Prop) (fi : FS) (ss : Int32) (y : Int32) : Met l yX3_shift wsX3_shift ({ frames := 4, cells := 0, slots := 0, locals := 125 }) (va_Pc [.ref o, .int ss, .int y] (fun U => KS D T U ∧ PO D T U.heap o Sx fi)) (va_Qi (fun (r : Int32) (u : Unit) => r = (shiR fi ss y)) (fun u t => PO D T t.heap o Sx (shiN fi ss y)) Sx) 0 0 Sx :=
  Met.any (α := { A : Nat → Nat // A 0 = o }) (P := fun a => va_Pc [.ref (a.1 0), .int ss, .int y] (fun U => KS D T U ∧ PSE D T U.heap a.1 Sx fi)) (Q' := fun a => (va_Qi (fun (r : Int32) (u : Unit) => r = (shiR fi ss y)) (fun u t => ∃ B, B 0 = a.1 0 ∧ PSE D T t.heap B Sx (shiN fi ss y)) Sx)) (fun a => k_X3_shift l D T a.1 Sx fi ss y) (fun args s h => by
    obtain ⟨h1, hK, A, hA, hp⟩ := h
    subst hA
    exact ⟨⟨A, rfl⟩, h1, hK, hp⟩) (fun a args s o9 t h => by
    obtain ⟨⟨r, u, hv, hp, B, hB, hw⟩, hF⟩ := h
    exact ⟨⟨r, u, hv, hp, B, hB.trans a.2, hw⟩, hF⟩)
theorem k_X3_size_o (l : Launch) (D : va_G) (T : Nat → ClassId) (o : Nat) (Sx : Nat → Prop) (fi : FS) (ss : Int32) : Met l yX3_size wsX3_size ({ frames := 3, cells := 0, slots := 0, locals := 66 }) (va_Pc [.ref o, .int ss] (fun U => KS D T U ∧ PO D T U.heap o Sx fi)) (vp_Si (fun r => r = (sizR fi ss))) 0 0 (fun _ => False) :=
  Met.any (α := { A : Nat → Nat // A 0 = o }) (P := fun a => va_Pc [.ref (a.1 0), .int ss] (fun U => KS D T U ∧ PSE D T U.heap a.1 Sx fi)) (Q' := fun a => (vp_Si (fun r => r = (sizR fi ss)))) (fun a => k_X3_size l D T a.1 Sx fi ss) (fun args s h => by
    obtain ⟨h1, hK, A, hA, hp⟩ := h
    subst hA
    exact ⟨⟨A, rfl⟩, h1, hK, hp⟩) (fun a args s o t h => h)
theorem k_X3_undo_o (l : Launch) (D : va_G) (T : Nat → ClassId) (o : Nat) (Sx : Nat → Prop) (fi : FS) : Met l yX3_undo wsX3_undo ({ frames := 0, cells := 0, slots := 0, locals := 0 }) (va_Pc [.ref o] (fun U => KS D T U ∧ PO D T U.heap o Sx fi)) (va_Qi (fun (r : Int32) (u : Unit) => r = (undR fi)) (fun u t => PO D T t.heap o Sx (undN fi)) Sx) 0 0 Sx :=
  Met.any (α := { A : Nat → Nat // A 0 = o }) (P := fun a => va_Pc [.ref (a.1 0)] (fun U => KS D T U ∧ PSE D T U.heap a.1 Sx fi)) (Q' := fun a => (va_Qi (fun (r : Int32) (u : Unit) => r = (undR fi)) (fun u t => ∃ B, B 0 = a.1 0 ∧ PSE D T t.heap B Sx (undN fi)) Sx)) (fun a => k_X3_undo l D T a.1 Sx fi) (fun args s h => by
    obtain ⟨h1, hK, A, hA, hp⟩ := h
    subst hA
    exact ⟨⟨A, rfl⟩, h1, hK, hp⟩) (fun a args s o9 t h => by
    obtain ⟨⟨r, u, hv, hp, B, hB, hw⟩, hF⟩ := h
    exact ⟨⟨r, u, hv, hp, B, hB.trans a.2, hw⟩, hF⟩)
