/-! the words of private members of nest mates, as one list; what the machine is for this claim; rows that speak of one cell -/
def nwL : List Cond := [.methodLinkNest "PieceSets" 9 ⟨"PieceSets$State", "<init>", "()V"⟩ "PieceSets", .methodLinkNest "PieceSets$State" 17 ⟨"PieceSets$Numbers", "<init>", "()V"⟩ "PieceSets", .fieldLinkNest "PieceSets" 169 "PieceSets$Numbers" "words" "[J" "PieceSets", .fieldLinkNest "PieceSets" 50 "PieceSets$State" "sets" "[LPieceSets$Numbers;" "PieceSets", .fieldLinkNest "PieceSets" 142 "PieceSets$State" "meetings" "[I" "PieceSets", .fieldLinkNest "PieceSets" 146 "PieceSets$State" "conversions" "[I" "PieceSets", .methodLinkNest "PieceSets" 26 ⟨"PieceSets$Buffer", "<init>", "()V"⟩ "PieceSets", .fieldLinkNest "PieceSets" 118 "PieceSets$Buffer" "length" "I" "PieceSets", .methodLinkNest "PieceSets" 33 ⟨"PieceSets$Numbers", "<init>", "()V"⟩ "PieceSets", .methodLinkNest "PieceSets" 163 ⟨"PieceSets$State", "become", "(LPieceSets$State;)V"⟩ "PieceSets", .methodLinkNest "PieceSets$State" 25 ⟨"PieceSets$Numbers", "become", "(LPieceSets$Numbers;)V"⟩ "PieceSets", .methodLinkNest "PieceSets" 54 ⟨"PieceSets$Numbers", "includeAll", "(II)V"⟩ "PieceSets", .methodLinkNest "PieceSets" 58 ⟨"PieceSets$State", "countConversions", "(LPieceSets$Numbers;LPieceSets$Numbers;)V"⟩ "PieceSets", .methodLinkNest "PieceSets$State" 35 ⟨"PieceSets$Numbers", "kindOf", "(I)I"⟩ "PieceSets", .methodLinkNest "PieceSets$State" 39 ⟨"PieceSets", "isKind", "(I)Z"⟩ "PieceSets", .methodLinkNest "PieceSets" 62 ⟨"PieceSets$Numbers", "count", "()I"⟩ "PieceSets", .methodLinkNest "PieceSets" 66 ⟨"PieceSets$Numbers", "excludeAll", "(II)V"⟩ "PieceSets", .methodLinkNest "PieceSets" 69 ⟨"PieceSets$Numbers", "turnAll", "(II)V"⟩ "PieceSets", .methodLinkNest "PieceSets" 72 ⟨"PieceSets$Numbers", "countIn", "(II)I"⟩ "PieceSets", .methodLinkNest "PieceSets" 77 ⟨"PieceSets$Numbers", "include", "(I)V"⟩ "PieceSets", .methodLinkNest "PieceSets$Numbers" 37 ⟨"PieceSets", "isNumber", "(I)Z"⟩ "PieceSets", .methodLinkNest "PieceSets" 88 ⟨"PieceSets$Numbers", "becomeMoved", "(LPieceSets$Numbers;I)V"⟩ "PieceSets", .methodLinkNest "PieceSets" 99 ⟨"PieceSets$Numbers", "countRuns", "(II)I"⟩ "PieceSets", .methodLinkNest "PieceSets" 109 ⟨"PieceSets$Numbers", "costOf", "(I)I"⟩ "PieceSets", .methodLinkNest "PieceSets" 121 ⟨"PieceSets$Buffer", "parse", "(LPieceSets$Numbers;)I"⟩ "PieceSets", .methodLinkNest "PieceSets$Buffer" 19 ⟨"PieceSets$Numbers", "becomeEmpty", "()V"⟩ "PieceSets", .methodLinkNest "PieceSets$Buffer" 24 ⟨"PieceSets", "isKind", "(I)Z"⟩ "PieceSets", .methodLinkNest "PieceSets$Buffer" 46 ⟨"PieceSets$Numbers", "include", "(I)V"⟩ "PieceSets", .methodLinkNest "PieceSets$Buffer" 50 ⟨"PieceSets$Numbers", "includeAll", "(II)V"⟩ "PieceSets", .methodLinkNest "PieceSets$Buffer" 32 ⟨"PieceSets$Numbers", "kindOf", "(I)I"⟩ "PieceSets", .methodLinkNest "PieceSets" 125 ⟨"PieceSets$Numbers", "become", "(LPieceSets$Numbers;)V"⟩ "PieceSets", .methodLinkNest "PieceSets" 81 ⟨"PieceSets$Numbers", "becomeJoin", "(ILPieceSets$Numbers;LPieceSets$Numbers;)V"⟩ "PieceSets", .methodLinkNest "PieceSets" 166 ⟨"PieceSets$Numbers", "countInPiece", "(I)I"⟩ "PieceSets", .methodLinkNest "PieceSets" 106 ⟨"PieceSets$Numbers", "detail", "(II)I"⟩ "PieceSets", .methodLinkNest "PieceSets" 85 ⟨"PieceSets$State", "countMeetings", "(LPieceSets$Numbers;LPieceSets$Numbers;)V"⟩ "PieceSets", .methodLinkNest "PieceSets" 92 ⟨"PieceSets$Numbers", "holds", "(I)Z"⟩ "PieceSets", .methodLinkNest "PieceSets" 95 ⟨"PieceSets$Numbers", "nth", "(I)I"⟩ "PieceSets", .methodLinkNest "PieceSets" 112 ⟨"PieceSets$Numbers", "writtenByte", "(II)I"⟩ "PieceSets", .methodLinkNest "PieceSets" 115 ⟨"PieceSets$Buffer", "append", "(I)Z"⟩ "PieceSets"]
set_option maxRecDepth 20000 in
theorem nwL_shape : ∀ w ∈ nwL, (∃ a i b n d h, w = .fieldLinkNest a i b n d h) ∨ (∃ a i x h, w = .methodLinkNest a i x h) := List.forall_mem_cons.mpr ⟨Or.inr ⟨_, _, _, _, rfl⟩, List.forall_mem_cons.mpr ⟨Or.inr ⟨_, _, _, _, rfl⟩, List.forall_mem_cons.mpr ⟨Or.inl ⟨_, _, _, _, _, _, rfl⟩, List.forall_mem_cons.mpr ⟨Or.inl ⟨_, _, _, _, _, _, rfl⟩, List.forall_mem_cons.mpr ⟨Or.inl ⟨_, _, _, _, _, _, rfl⟩, List.forall_mem_cons.mpr ⟨Or.inl ⟨_, _, _, _, _, _, rfl⟩, List.forall_mem_cons.mpr ⟨Or.inr ⟨_, _, _, _, rfl⟩, List.forall_mem_cons.mpr ⟨Or.inl ⟨_, _, _, _, _, _, rfl⟩, List.forall_mem_cons.mpr ⟨Or.inr ⟨_, _, _, _, rfl⟩, List.forall_mem_cons.mpr ⟨Or.inr ⟨_, _, _, _, rfl⟩, List.forall_mem_cons.mpr ⟨Or.inr ⟨_, _, _, _, rfl⟩, List.forall_mem_cons.mpr ⟨Or.inr ⟨_, _, _, _, rfl⟩, List.forall_mem_cons.mpr ⟨Or.inr ⟨_, _, _, _, rfl⟩, List.forall_mem_cons.mpr ⟨Or.inr ⟨_, _, _, _, rfl⟩, List.forall_mem_cons.mpr ⟨Or.inr ⟨_, _, _, _, rfl⟩, List.forall_mem_cons.mpr ⟨Or.inr ⟨_, _, _, _, rfl⟩, List.forall_mem_cons.mpr ⟨Or.inr ⟨_, _, _, _, rfl⟩, List.forall_mem_cons.mpr ⟨Or.inr ⟨_, _, _, _, rfl⟩, List.forall_mem_cons.mpr ⟨Or.inr ⟨_, _, _, _, rfl⟩, List.forall_mem_cons.mpr ⟨Or.inr ⟨_, _, _, _, rfl⟩, List.forall_mem_cons.mpr ⟨Or.inr ⟨_, _, _, _, rfl⟩, List.forall_mem_cons.mpr ⟨Or.inr ⟨_, _, _, _, rfl⟩, List.forall_mem_cons.mpr ⟨Or.inr ⟨_, _, _, _, rfl⟩, List.forall_mem_cons.mpr ⟨Or.inr ⟨_, _, _, _, rfl⟩, List.forall_mem_cons.mpr ⟨Or.inr ⟨_, _, _, _, rfl⟩, List.forall_mem_cons.mpr ⟨Or.inr ⟨_, _, _, _, rfl⟩, List.forall_mem_cons.mpr ⟨Or.inr ⟨_, _, _, _, rfl⟩, List.forall_mem_cons.mpr ⟨Or.inr ⟨_, _, _, _, rfl⟩, List.forall_mem_cons.mpr ⟨Or.inr ⟨_, _, _, _, rfl⟩, List.forall_mem_cons.mpr ⟨Or.inr ⟨_, _, _, _, rfl⟩, List.forall_mem_cons.mpr ⟨Or.inr ⟨_, _, _, _, rfl⟩, List.forall_mem_cons.mpr ⟨Or.inr ⟨_, _, _, _, rfl⟩, List.forall_mem_cons.mpr ⟨Or.inr ⟨_, _, _, _, rfl⟩, List.forall_mem_cons.mpr ⟨Or.inr ⟨_, _, _, _, rfl⟩, List.forall_mem_cons.mpr ⟨Or.inr ⟨_, _, _, _, rfl⟩, List.forall_mem_cons.mpr ⟨Or.inr ⟨_, _, _, _, rfl⟩, List.forall_mem_cons.mpr ⟨Or.inr ⟨_, _, _, _, rfl⟩, List.forall_mem_cons.mpr ⟨Or.inr ⟨_, _, _, _, rfl⟩, List.forall_mem_cons.mpr ⟨Or.inr ⟨_, _, _, _, rfl⟩, fun _ h => absurd h List.not_mem_nil⟩⟩⟩⟩⟩⟩⟩⟩⟩⟩⟩⟩⟩⟩⟩⟩⟩⟩⟩⟩⟩⟩⟩⟩⟩⟩⟩⟩⟩⟩⟩⟩⟩⟩⟩⟩⟩⟩⟩
def NW (U : State) : Prop := ∀ w ∈ nwL, va_Nw w U
theorem NW.warm {s U : State} (hW : s.WarmedH U.vm) (h : NW s) : NW U := fun w hw => by
  rcases nwL_shape w hw with ⟨a, i, b, n, d, k, rfl⟩ | ⟨a, i, x, k, rfl⟩
  · exact va_Nw.warmF hW (h _ hw)
  · exact va_Nw.warmM hW (h _ hw)
theorem NW.same {u U : State} (e : u.vm = U.vm) (h : NW u) : NW U := fun w hw => by
  rcases nwL_shape w hw with ⟨a, i, b, n, d, k, rfl⟩ | ⟨a, i, x, k, rfl⟩
  · exact va_Nw.same rfl e (h _ hw)
  · exact va_Nw.same rfl e (h _ hw)
theorem NW.m {s : State} {args : Array Value} (h : NW s) (k : Nat) {a : String} {i : Nat} {x : MethodName} {t : String} (hk : nwL[k]? = some (.methodLinkNest a i x t)) : va_Nw (.methodLinkNest a i x t) s := h _ (List.mem_of_getElem? hk)
theorem NW.f {s : State} {args : Array Value} (h : NW s) (k : Nat) {a : String} {i : Nat} {b n d t : String} (hk : nwL[k]? = some (.fieldLinkNest a i b n d t)) : (Cond.fieldLinkNest a i b n d t).before args s = true := va_Nw.use rfl (h _ (List.mem_of_getElem? hk))
/-- the classes of the arrays: of ints, of longs, of Numbers, of States -/
abbrev tyz (T : Nat → ClassId) : List (ClassId × FieldType) := [(T 0, .int), (T 1, .long), (T 2, .object "PieceSets$Numbers"), (T 3, .object "PieceSets$State")]
/-- the machine as every method of this claim finds it -/
def KS (D : va_G) (T : Nat → ClassId) (U : State) : Prop := va_K D vwCl (tyz T) U ∧ NW U
theorem KS.warm {D : va_G} {T : Nat → ClassId} {s U : State} (hW : s.WarmedH U.vm) (h : KS D T s) : KS D T U := ⟨va_K.moved hW.alike h.1, h.2.warm hW⟩
theorem KS.call {D : va_G} {T : Nat → ClassId} {U : State} (g : JFrame) (mk : MethodId) (a : Array Value) (h : KS D T U) : KS D T (U.calling g mk a) := ⟨va_K.moved (u := U) (U := U.calling g mk a) (Vm.Alike.refl U.vm) h.1, NW.same (u := U) (U := U.calling g mk a) rfl h.2⟩
theorem pre_S {s : State} {H : Heap} {D : va_G} {T : Nat → ClassId} {Φ : Heap → Prop} {As : List Value} (hK : KS D T s) (hΦ : Φ H) : PreS s H (va_Pc As (fun U => KS D T U ∧ Φ U.heap)) As :=
  ⟨fun a _ g mk q => ⟨q.1, q.2.1.call g mk a, q.2.2⟩, fun U hU hW => ⟨rfl, hK.warm hW, by rw [hU]; exact hΦ⟩⟩
theorem pre_V {s : State} {H : Heap} {D : va_G} {T : Nat → ClassId} {Φ : Heap → Prop} {b ci : Nat} {fs As : List Value} {q : vw_C} (hK : KS D T s) (hr : va_at D vwCl (b, .inr (ci, fs)) H) (hc : vwCl[ci]? = some q) (hΦ : Φ H) : PreV s H q.1 b (va_Pc (.ref b :: As) (fun U => KS D T U ∧ Φ U.heap)) As :=
  ⟨fun a _ g mk w => ⟨w.1, w.2.1.call g mk a, w.2.2⟩, va_recv hK.1 (fun k x hx => by
    cases k with
    | zero => cases hx; exact hr
    | succ k => simp at hx) hc (show [(b, (.inr (ci, fs) : va_E))][0]? = _ from rfl), fun U hU hW => ⟨rfl, hK.warm hW, by rw [hU]; exact hΦ⟩⟩
theorem P1 {D : va_G} {q : Nat × va_E} {H : Heap} (h : va_at D vwCl q H) : va_P D vwCl [q] H := fun k x hx => by
  cases k with
  | zero => cases hx; exact h
  | succ k => simp at hx
theorem P2 {D : va_G} {q r : Nat × va_E} {H : Heap} (h : va_at D vwCl q H) (h2 : va_at D vwCl r H) : va_P D vwCl [q, r] H := fun k x hx => by
  cases k with
  | zero => cases hx; exact h
  | succ k =>
    cases k with
    | zero => cases hx; exact h2
    | succ k => simp at hx
theorem D1 {A : Nat → Prop} {q : Nat × va_E} (h : A q.1) : va_D A [q] := ⟨fun i j x y hi hj _ => by
  have h1 := (List.getElem?_eq_some_iff.mp hi).1
  have h2 := (List.getElem?_eq_some_iff.mp hj).1
  simp only [List.length_cons, List.length_nil] at h1 h2
  omega, fun k x hx => by
  have h1 := (List.getElem?_eq_some_iff.mp hx).1
  simp only [List.length_cons, List.length_nil] at h1
  have h0 : k = 0 := by omega
  subst h0
  cases hx
  exact h⟩
/-- the cells of rows: what a cell holds -/
abbrev eI (T : Nat → ClassId) (n : Nat) (f : Nat → Int32) : va_E := .inl (T 0, n, .inl f)
abbrev eJ (T : Nat → ClassId) (n : Nat) (f : Nat → Int64) : va_E := .inl (T 1, n, .inr (.inl f))
abbrev eR (T : Nat → ClassId) (k n : Nat) (f : Nat → Option Nat) : va_E := .inl (T k, n, .inr (.inr (.inr (.inr f))))
theorem arrV_cong {c : ClassId} {n : Nat} {f g : Nat → Value} (h : ∀ j, j < n → f j = g j) : arrV c n f = arrV c n g := by
  unfold arrV
  congr 1
  apply Array.ext
  · simp
  · intro i h1 h2
    simp at h1
    simp [h i h1]
theorem at_congI {D : va_G} {T : Nat → ClassId} {a n : Nat} {f g : Nat → Int32} {H : Heap} (h : va_at D vwCl (a, eI T n f) H) (e : ∀ j, j < n → f j = g j) : va_at D vwCl (a, eI T n g) H := by
  have h1 : H[a]? = some (arrV (T 0) n (fun j => .int (f j))) := h
  rw [arrV_cong (g := fun j => .int (g j)) (fun j hj => by rw [e j hj])] at h1
  exact h1
theorem at_congJ {D : va_G} {T : Nat → ClassId} {a n : Nat} {f g : Nat → Int64} {H : Heap} (h : va_at D vwCl (a, eJ T n f) H) (e : ∀ j, j < n → f j = g j) : va_at D vwCl (a, eJ T n g) H := by
  have h1 : H[a]? = some (arrV (T 1) n (fun j => .long (f j))) := h
  rw [arrV_cong (g := fun j => .long (g j)) (fun j hj => by rw [e j hj])] at h1
  exact h1
theorem at_congR {D : va_G} {T : Nat → ClassId} {a k n : Nat} {f g : Nat → Option Nat} {H : Heap} (h : va_at D vwCl (a, eR T k n f) H) (e : ∀ j, j < n → f j = g j) : va_at D vwCl (a, eR T k n g) H := by
  have h1 : H[a]? = some (arrV (T k) n (fun j => va_rf (f j))) := h
  rw [arrV_cong (g := fun j => va_rf (g j)) (fun j hj => by rw [e j hj])] at h1
  exact h1
/-- an object whose first field is a reference is no row of ints, none of longs; rows of ints are none of longs or references -/
theorem ne_oI {D : va_G} {T : Nat → ClassId} {o w ci n x : Nat} {fs : List Value} {f : Nat → Int32} {H : Heap} {q : vw_C} (hc : vwCl[ci]? = some q) (hq : 0 < q.2.2) (h : va_at D vwCl (o, .inr (ci, .ref x :: fs)) H) (h2 : va_at D vwCl (w, eI T n f) H) : o ≠ w := by
  intro e
  subst e
  obtain ⟨r, h1, cell, q1, q2, q3, q4⟩ := h
  cases hc.symm.trans h1
  have h3 : H[o]? = some (arrV (T 0) n (fun j => .int (f j))) := h2
  cases q1.symm.trans h3
  have h4 := q4 0 hq
  have hl := (Array.getElem?_eq_some_iff.mp h4).1
  rw [arrV_size] at hl
  rw [arrV_read _ _ hl] at h4
  simp [vp_V] at h4
theorem ne_oJ {D : va_G} {T : Nat → ClassId} {o w ci n x : Nat} {fs : List Value} {f : Nat → Int64} {H : Heap} {q : vw_C} (hc : vwCl[ci]? = some q) (hq : 0 < q.2.2) (h : va_at D vwCl (o, .inr (ci, .ref x :: fs)) H) (h2 : va_at D vwCl (w, eJ T n f) H) : o ≠ w := by
  intro e
  subst e
  obtain ⟨r, h1, cell, q1, q2, q3, q4⟩ := h
  cases hc.symm.trans h1
  have h3 : H[o]? = some (arrV (T 1) n (fun j => .long (f j))) := h2
  cases q1.symm.trans h3
  have h4 := q4 0 hq
  have hl := (Array.getElem?_eq_some_iff.mp h4).1
  rw [arrV_size] at hl
  rw [arrV_read _ _ hl] at h4
  simp [vp_V] at h4
theorem ne_IJ {D : va_G} {T : Nat → ClassId} {v w n m : Nat} {f : Nat → Int32} {g : Nat → Int64} {H : Heap} (hn : 0 < n) (h : va_at D vwCl (v, eI T n f) H) (h2 : va_at D vwCl (w, eJ T m g) H) : v ≠ w := by
  intro e
  subst e
  have h1 : H[v]? = some (arrV (T 0) n (fun j => .int (f j))) := h
  have h3 : H[v]? = some (arrV (T 1) m (fun j => .long (g j))) := h2
  have h4 := Option.some.inj (h1.symm.trans h3)
  have a1 := arrV_read (T 0) (fun j => Value.int (f j)) hn
  have hl : 0 < m := by
    have := (Array.getElem?_eq_some_iff.mp a1).1
    rw [h4, arrV_size] at this
    exact this
  rw [h4, arrV_read _ _ hl] at a1
  simp at a1
/-- Java's own operations, by names -/
def shlI (x y : Int32) : Int32 := x <<< (y &&& 31)
def shrI (x y : Int32) : Int32 := x >>> (y &&& 31)
def ushrI (x y : Int32) : Int32 := (x.toUInt32 >>> (y.toUInt32 &&& Int32.toUInt32 31)).toInt32
def shlL (x : Int64) (y : Int32) : Int64 := x <<< (y.toInt64 &&& 63)
def ushrL (x : Int64) (y : Int32) : Int64 := (x.toUInt64 >>> (y.toInt64.toUInt64 &&& Int64.toUInt64 63)).toInt64
def remI (x y : Int32) : Int32 := x - x / y * y
def b2i (b : Bool) : Int32 := if b = true then 1 else 0
theorem b2i_0 {b : Bool} : b2i b = 0 ↔ b = false := by cases b <;> decide
theorem b2i_n0 {b : Bool} : ¬ b2i b = 0 ↔ b = true := by cases b <;> decide
theorem b2i_1 {b : Bool} : b2i b = 1 ↔ b = true := by cases b <;> decide
theorem b2i_n1 {b : Bool} : ¬ b2i b = 1 ↔ b = false := by cases b <;> decide
theorem nb0 : narrow .boolean (.int (nI 0)) = .int (nI 0) := rfl
theorem nb1 : narrow .boolean (.int (nI 1)) = .int (nI 1) := rfl
theorem nbb (b : Bool) : narrow .boolean (.int (b2i b)) = .int (b2i b) := by cases b <;> rfl
theorem b2i_t : b2i true = 1 := rfl
theorem b2i_f : b2i false = 0 := rfl
theorem iinc_n (a n : Nat) : nI a + Int32.ofInt (n : Int) = nI (a + n) := nI_add a n
theorem iinc_m {a : Nat} (h : 1 ≤ a) : nI a + Int32.ofInt (-1) = nI (a - 1) := by
  obtain ⟨k, rfl⟩ : ∃ k, a = k + 1 := ⟨a - 1, by omega⟩
  rw [show k + 1 - 1 = k by omega]
  exact pk_m1 k
theorem nI_e0 {a : Nat} (h : a < 2 ^ 31) : nI a = 0 ↔ a = 0 := by rw [← nI_0]; exact nI_eq h (by decide)
theorem nI_le0 {a : Nat} (h : a < 2 ^ 31) : nI a ≤ 0 ↔ a = 0 := by rw [← nI_0, nI_leI h (by decide)]; omega
theorem nI_gt0 {a : Nat} (h : a < 2 ^ 31) : 0 < nI a ↔ 0 < a := by rw [← nI_0]; exact nI_ltI (by decide) h
section RB
variable {p : Program} {l : Launch} {e : Env} {R : Room} {s : State} {m : MethodId} {args : Array Value} {below : List Frame} {meth : Method} {c : Code} {H : Heap} {locs : List Loc} {cells slots : Nat} {Q : State → Prop}
variable {cc : ByteArray} {pc : Nat} {ls : Array Slot} {rest : List Value} {D : va_G} {T : Nat → ClassId} {A : Nat → Prop} {a : Nat} {H0 : Heap}
theorem top_i {x x' : Int32} (h : x = x') (k : W p l e R s m args below meth c H locs cells slots Q (F0 m pc ls (.int x' :: rest))) : W p l e R s m args below meth c H locs cells slots Q (F0 m pc ls (.int x :: rest)) := by
  subst h; exact k
theorem top_l {x x' : Int64} (h : x = x') (k : W p l e R s m args below meth c H locs cells slots Q (F0 m pc ls (.long x' :: rest))) : W p l e R s m args below meth c H locs cells slots Q (F0 m pc ls (.long x :: rest)) := by
  subst h; exact k
theorem W_gen {Q0 : State → Prop} {g : JFrame} (h : ∀ Q : State → Prop, Q = Q0 → W p l e R s m args below meth c H locs cells slots Q g) : W p l e R s m args below meth c H locs cells slots Q0 g := h Q0 rfl
theorem r_get (hexec : p.tables.exec = Jvm.exec) (hb : c.code = cc) {own C : String} {Tb : u_T} {N ci index : Nat} {Ts : List Cond} (hts : ∀ w ∈ Ts, w.before args s = true) (hin : ∀ w ∈ u_ws C Tb N, w ∈ Ts) (hown : s.vm.findClass own = some m.cls) (hK : KS D T s) {fs : List Value} (h : va_at D vwCl (a, .inr (ci, fs)) H) (hc : vwCl[ci]? = some (C, Tb, N)) (k : Nat) (hk : k < N) (hlink : (Cond.fieldLink own index C (Tb k).2.1 (Tb k).2.2.1).before args s = true) (hd : (Tb k).1 = C) {v : Value} (hv : fs[k]? = some v) (hdg : decode cc pc = .ok (.getfield index, 3))
    (kk : W p l e R s m args below meth c H locs cells slots Q (F0 m (pc + 3) ls (v :: rest))) : W p l e R s m args below meth c H locs cells slots Q (F0 m pc ls (.ref a :: rest)) :=
  va_get hexec hb hts hin hown hK.1 (P1 h) 0 rfl hc k hk hlink (fun x hx => by rw [hd] at hx; exact hx) hv hdg kk
theorem r_getN (hexec : p.tables.exec = Jvm.exec) (hb : c.code = cc) {own C host : String} {Tb : u_T} {N ci index : Nat} {Ts : List Cond} (hts : ∀ w ∈ Ts, w.before args s = true) (hin : ∀ w ∈ u_ws C Tb N, w ∈ Ts) (hown : s.vm.findClass own = some m.cls) (hK : KS D T s) {fs : List Value} (h : va_at D vwCl (a, .inr (ci, fs)) H) (hc : vwCl[ci]? = some (C, Tb, N)) (k : Nat) (hk : k < N) (hlink : (Cond.fieldLinkNest own index C (Tb k).2.1 (Tb k).2.2.1 host).before args s = true) (hd : (Tb k).1 = C) {v : Value} (hv : fs[k]? = some v) (hdg : decode cc pc = .ok (.getfield index, 3))
    (kk : W p l e R s m args below meth c H locs cells slots Q (F0 m (pc + 3) ls (v :: rest))) : W p l e R s m args below meth c H locs cells slots Q (F0 m pc ls (.ref a :: rest)) :=
  va_getN hexec hb hts hin hown hK.1 (P1 h) 0 rfl hc k hk hlink (fun x hx => by rw [hd] at hx; exact hx) hv hdg kk
theorem r_iald (hexec : p.tables.exec = Jvm.exec) (hb : c.code = cc) (hK : KS D T s) {n i : Nat} {f : Nat → Int32} (h : va_at D vwCl (a, eI T n f) H) (hi : i < n) (hn : n < 2 ^ 31) (hdg : decode cc pc = .ok (.iaload, 1))
    (kk : W p l e R s m args below meth c H locs cells slots Q (F0 m (pc + 1) ls (.int (f i) :: rest))) : W p l e R s m args below meth c H locs cells slots Q (F0 m pc ls (.int (nI i) :: .ref a :: rest)) := by
  refine va_iald hexec hb hK.1 (P1 h) 0 0 rfl rfl (vp_in_nI hi hn) hdg ?_
  rw [nI_clamp (Nat.lt_trans hi hn)]
  exact kk
theorem r_lald (hexec : p.tables.exec = Jvm.exec) (hb : c.code = cc) (hK : KS D T s) {n i : Nat} {f : Nat → Int64} (h : va_at D vwCl (a, eJ T n f) H) (hi : i < n) (hn : n < 2 ^ 31) (hdg : decode cc pc = .ok (.laload, 1))
    (kk : W p l e R s m args below meth c H locs cells slots Q (F0 m (pc + 1) ls (.long (f i) :: rest))) : W p l e R s m args below meth c H locs cells slots Q (F0 m pc ls (.int (nI i) :: .ref a :: rest)) := by
  refine va_lald hexec hb hK.1 (P1 h) 0 1 rfl rfl (vp_in_nI hi hn) hdg ?_
  rw [nI_clamp (Nat.lt_trans hi hn)]
  exact kk
theorem r_nald (hexec : p.tables.exec = Jvm.exec) (hb : c.code = cc) (hK : KS D T s) {n i : Nat} {f : Nat → Option Nat} (h : va_at D vwCl (a, eR T 2 n f) H) (hi : i < n) (hn : n < 2 ^ 31) {q : Nat} (hq : f i = some q) (hdg : decode cc pc = .ok (.aaload, 1))
    (kk : W p l e R s m args below meth c H locs cells slots Q (F0 m (pc + 1) ls (.ref q :: rest))) : W p l e R s m args below meth c H locs cells slots Q (F0 m pc ls (.int (nI i) :: .ref a :: rest)) := by
  refine va_aldq hexec hb hK.1 (P1 h) 0 2 rfl rfl (vp_in_nI hi hn) hdg ?_
  rw [nI_clamp (Nat.lt_trans hi hn), hq]
  exact kk
theorem r_sald (hexec : p.tables.exec = Jvm.exec) (hb : c.code = cc) (hK : KS D T s) {n i : Nat} {f : Nat → Option Nat} (h : va_at D vwCl (a, eR T 3 n f) H) (hi : i < n) (hn : n < 2 ^ 31) {q : Nat} (hq : f i = some q) (hdg : decode cc pc = .ok (.aaload, 1))
    (kk : W p l e R s m args below meth c H locs cells slots Q (F0 m (pc + 1) ls (.ref q :: rest))) : W p l e R s m args below meth c H locs cells slots Q (F0 m pc ls (.int (nI i) :: .ref a :: rest)) := by
  refine va_aldq hexec hb hK.1 (P1 h) 0 3 rfl rfl (vp_in_nI hi hn) hdg ?_
  rw [nI_clamp (Nat.lt_trans hi hn), hq]
  exact kk
theorem r_iast (hexec : p.tables.exec = Jvm.exec) (hb : c.code = cc) (hK : KS D T s) (hS : va_S A H0 H locs) (hA : A a) {n i : Nat} {f : Nat → Int32} {x : Int32} (h : va_at D vwCl (a, eI T n f) H) (hi : i < n) (hn : n < 2 ^ 31) (hdg : decode cc pc = .ok (.iastore, 1))
    (kk : ∀ (H1 : Heap) (locs1 : List Loc), va_at D vwCl (a, eI T n (upd f i x)) H1 → (∀ q, q ≠ a → H1[q]? = H[q]?) → va_S A H0 H1 locs1 → W p l e R s m args below meth c H1 locs1 cells slots Q (F0 m (pc + 1) ls rest)) : W p l e R s m args below meth c H locs cells slots Q (F0 m pc ls (.int x :: .int (nI i) :: .ref a :: rest)) := by
  have h1 : H[a]? = some (arrV (T 0) n (fun j => .int (f j))) := h
  refine W.iast hexec hb h1 ((hK.1.2 0 _ rfl).1 n (fun j => .int (f j))) (fun q => by cases q) (by rw [arrV_size]; exact vp_in_nI hi hn) rfl rfl hdg fun H1 e z oq => ?_
  refine kk H1 _ ?_ oq (hS.put z oq hA)
  rw [nI_clamp (Nat.lt_trans hi hn), arrV_store] at e
  show H1[a]? = some (arrV (T 0) n (fun j => .int (upd f i x j)))
  rw [e]
  congr 2
  funext q
  by_cases hq : q = i
  · subst hq; simp [updV, upd]
  · simp [updV, upd, hq]
theorem r_last (hexec : p.tables.exec = Jvm.exec) (hb : c.code = cc) (hK : KS D T s) (hS : va_S A H0 H locs) (hA : A a) {n i : Nat} {f : Nat → Int64} {x : Int64} (h : va_at D vwCl (a, eJ T n f) H) (hi : i < n) (hn : n < 2 ^ 31) (hdg : decode cc pc = .ok (.lastore, 1))
    (kk : ∀ (H1 : Heap) (locs1 : List Loc), va_at D vwCl (a, eJ T n (vp_updL f i x)) H1 → (∀ q, q ≠ a → H1[q]? = H[q]?) → va_S A H0 H1 locs1 → W p l e R s m args below meth c H1 locs1 cells slots Q (F0 m (pc + 1) ls rest)) : W p l e R s m args below meth c H locs cells slots Q (F0 m pc ls (.long x :: .int (nI i) :: .ref a :: rest)) := by
  have h1 : H[a]? = some (arrV (T 1) n (fun j => .long (f j))) := h
  refine W.last hexec hb h1 ((hK.1.2 1 _ rfl).1 n (fun j => .long (f j))) (fun q => by cases q) (by rw [arrV_size]; exact vp_in_nI hi hn) rfl rfl hdg fun H1 e z oq => ?_
  refine kk H1 _ ?_ oq (hS.put z oq hA)
  rw [nI_clamp (Nat.lt_trans hi hn), arrV_store] at e
  show H1[a]? = some (arrV (T 1) n (fun j => .long (vp_updL f i x j)))
  rw [e]
  congr 2
  funext q
  by_cases hq : q = i
  · subst hq; simp [updV, vp_updL]
  · simp [updV, vp_updL, hq]
end RB
/-- an object of Numbers o with its row w of 64 words f -/
def Num (D : va_G) (T : Nat → ClassId) (H : Heap) (o w : Nat) (f : Nat → Int64) : Prop := va_at D vwCl (o, .inr (1, [.ref w])) H ∧ va_at D vwCl (w, eJ T 64 f) H
theorem Num.ne {D : va_G} {T : Nat → ClassId} {H : Heap} {o w : Nat} {f : Nat → Int64} (h : Num D T H o w f) : o ≠ w := ne_oJ (q := (RX1, TX1, 1)) rfl (by decide) h.1 h.2
theorem Num.kept {D : va_G} {T : Nat → ClassId} {H H1 : Heap} {o w : Nat} {f : Nat → Int64} (h : Num D T H o w f) (h1 : H1[o]? = H[o]?) (h2 : H1[w]? = H[w]?) : Num D T H1 o w f := ⟨h.1.kept h1, h.2.kept h2⟩
theorem Num.set {D : va_G} {T : Nat → ClassId} {H H1 : Heap} {o w : Nat} {f g : Nat → Int64} (h : Num D T H o w f) (e : va_at D vwCl (w, eJ T 64 g) H1) (oq : ∀ q, q ≠ w → H1[q]? = H[q]?) : Num D T H1 o w g := ⟨h.1.kept (oq _ h.ne), e⟩
theorem Num.cong {D : va_G} {T : Nat → ClassId} {H : Heap} {o w : Nat} {f g : Nat → Int64} (h : Num D T H o w f) (e : ∀ j, j < 64 → f j = g j) : Num D T H o w g := ⟨h.1, at_congJ h.2 e⟩
theorem Num.lt {D : va_G} {T : Nat → ClassId} {H : Heap} {o w : Nat} {f : Nat → Int64} (h : Num D T H o w f) : o < H.size ∧ w < H.size := ⟨va_at.lt h.1, va_at.lt h.2⟩

