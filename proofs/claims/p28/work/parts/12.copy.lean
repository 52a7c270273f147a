/-! a whole row copied onto another of its length; the length of a row -/
section RC
variable {p : Program} {l : Launch} {e : Env} {R : Room} {s : State} {m : MethodId} {args : Array Value} {below : List Frame} {meth : Method} {c : Code} {H : Heap} {locs : List Loc} {cells slots : Nat} {Q : State → Prop}
variable {cc : ByteArray} {pc : Nat} {ls : Array Slot} {rest : List Value} {D : va_G} {T : Nat → ClassId} {A : Nat → Prop} {a : Nat} {H0 : Heap}
theorem r_alenJ (hexec : p.tables.exec = Jvm.exec) (hb : c.code = cc) (hK : KS D T s) {n : Nat} {f : Nat → Int64} (h : va_at D vwCl (a, eJ T n f) H) (hdg : decode cc pc = .ok (.arraylength, 1))
    (kk : W p l e R s m args below meth c H locs cells slots Q (F0 m (pc + 1) ls (.int (nI n) :: rest))) : W p l e R s m args below meth c H locs cells slots Q (F0 m pc ls (.ref a :: rest)) :=
  va_alen hexec hb hK.1 (P1 h) 0 1 rfl rfl (v := nI n) rfl hdg kk
theorem r_copyV (hexec : p.tables.exec = Jvm.exec) (hb : c.code = cc) (hml : c.maxLocals = ls.size) {own : String} {index : Nat} (hown : s.vm.findClass own = some m.cls) (hlink : (Cond.methodLink own index arraycopyName).before args s = true) (hnat : (Cond.native arraycopyName).before args s = true) (hstat : (Cond.static arraycopyName).before args s = true) (hini : (Cond.initialized "java/lang/System").before args s = true)
    (hS : va_S A H0 H locs) (hA : A a) {a0 n : Nat} {cA : ClassId} {ty : FieldType} {f g : Nat → Value} (hty : ArrOfT s cA ty) (hprim : refKind ty = false) (hfit : ∀ j, j < n → fits ty (f j) = true) (h0 : H[a0]? = some (arrV cA n f)) (h1 : H[a]? = some (arrV cA n g)) (hn : n < 2 ^ 31)
    (hframes : 1 ≤ R.frames) (hlocals : (rest.map fun v => v.category).sum + (nativeFrameWords "java/lang/System" "arraycopy" 5 + 11) ≤ R.locals) (hdg : decode cc pc = .ok (.invokestatic index, 3))
    (kk : ∀ (H1 : Heap) (locs1 : List Loc), H1[a]? = some (arrV cA n f) → (∀ q, q ≠ a → H1[q]? = H[q]?) → va_S A H0 H1 locs1 → W p l e R s m args below meth c H1 locs1 cells slots Q (F0 m (pc + 3) ls rest)) : W p l e R s m args below meth c H locs cells slots Q (F0 m pc ls (.int (nI n) :: .int (nI 0) :: .ref a :: .int (nI 0) :: .ref a0 :: rest)) := by
  intro T hT X
  obtain ⟨-, k0, hk0, cm0, hkk0⟩ := hty n f
  have c0 : (nI 0).toNatClampNeg = 0 := nI_clamp (by decide)
  have cn : (nI n).toNatClampNeg = n := nI_clamp hn
  have i0 : (nI 0).toInt = 0 := nI_toInt (by decide)
  have i_n : (nI n).toInt = (n : Int) := nI_toInt hn
  have hz : ∀ i, i < n → (arrV cA n f).slots.getD ((nI 0).toNatClampNeg + i) .null = f i := fun i hi => by
    rw [c0, Nat.zero_add, Array.getD_eq_getD_getElem?, arrV_read _ _ hi]
    rfl
  obtain ⟨vm', X', step⟩ := X.arraycopy hexec hown hlink hnat hstat hini (src := a0) (dst := a) (cs := arrV cA n f) (cd := arrV cA n g) (srcPos := nI 0) (destPos := nI 0) (n := nI n) (by rw [hT]; exact h0) (by rw [hT]; exact h1)
    (fun _ h => by cases h) (fun _ h => by cases h) (fun h => by cases h) (fun h => by cases h) hk0 hk0 hkk0 hkk0 (by simp [hprim]) (nI_pos (by decide)) (nI_pos (by decide)) (nI_pos hn)
    (by rw [i0, i_n, arrV_size]; omega) (by rw [i0, i_n, arrV_size]; omega)
    (fun vm₁ _ i hi => by
      rw [cn] at hi
      rw [hz i hi]
      exact ⟨hfit i hi, State.takes_of_prim _ _ hprim (hfit i hi)⟩)
    (g := F0 m pc ls (.int (nI n) :: .int (nI 0) :: .ref a :: .int (nI 0) :: .ref a0 :: rest)) rfl (by rw [hml]) (rest := rest) rfl (by rw [hb]; exact hdg) hframes (by show 2 * 0 + _ + _ ≤ _; omega)
  have e1 : copied (arrV cA n f) (arrV cA n g) (nI 0) (nI 0) (nI n) = arrV cA n f := by
    show (arrV cA n g).storeRun (nI 0).toNatClampNeg ((arrV cA n f).stretch (nI 0).toNatClampNeg (nI n).toNatClampNeg) = _
    rw [c0, cn, va_copied (fun z : Value => z) cA cA f g (by omega)]
    refine arrV_cong (fun j hj => ?_)
    show va_cpy f g 0 0 n j = f j
    unfold va_cpy
    rw [if_pos ⟨Nat.zero_le _, by omega⟩, Nat.zero_add, Nat.sub_zero]
  rw [e1] at X' step
  have hl : a < H.size := (Array.getElem?_eq_some_iff.mp h1).1
  have oq : ∀ q : Nat, q ≠ a → (H.setIfInBounds a (arrV cA n f))[q]? = H[q]? := fun q hq => by simp [Array.getElem?_setIfInBounds, Ne.symm hq]
  have hheap : ((T.setVm vm').setCell a (arrV cA n f)).heap = H.setIfInBounds a (arrV cA n f) := by rw [← hT]; rfl
  obtain ⟨t, a1, b1⟩ := kk _ _ (by simp [Array.getElem?_setIfInBounds, hl]) oq ⟨by simp; exact hS.1, fun q g1 g2 => by
      rw [oq q (fun e => g2 (by rw [e]; exact hA))]
      exact hS.2.1 q g1 g2, fun q hq => by
      rcases List.mem_append.mp hq with h | h
      · exact hS.2.2 q h
      · obtain ⟨z, -, hz⟩ := List.mem_map.mp h
        rw [← hz]
        exact hA⟩ _ hheap X'
  exact ⟨t, step t a1, b1⟩
theorem r_copyJ (hexec : p.tables.exec = Jvm.exec) (hb : c.code = cc) (hml : c.maxLocals = ls.size) {own : String} {index : Nat} (hown : s.vm.findClass own = some m.cls) (hlink : (Cond.methodLink own index arraycopyName).before args s = true) (hnat : (Cond.native arraycopyName).before args s = true) (hstat : (Cond.static arraycopyName).before args s = true) (hini : (Cond.initialized "java/lang/System").before args s = true)
    (hK : KS D T s) (hS : va_S A H0 H locs) (hA : A a) {a0 n : Nat} {f g : Nat → Int64} (h0 : va_at D vwCl (a0, eJ T n f) H) (h1 : va_at D vwCl (a, eJ T n g) H) (hn : n < 2 ^ 31)
    (hframes : 1 ≤ R.frames) (hlocals : (rest.map fun v => v.category).sum + (nativeFrameWords "java/lang/System" "arraycopy" 5 + 11) ≤ R.locals) (hdg : decode cc pc = .ok (.invokestatic index, 3))
    (kk : ∀ (H1 : Heap) (locs1 : List Loc), va_at D vwCl (a, eJ T n f) H1 → (∀ q, q ≠ a → H1[q]? = H[q]?) → va_S A H0 H1 locs1 → W p l e R s m args below meth c H1 locs1 cells slots Q (F0 m (pc + 3) ls rest)) : W p l e R s m args below meth c H locs cells slots Q (F0 m pc ls (.int (nI n) :: .int (nI 0) :: .ref a :: .int (nI 0) :: .ref a0 :: rest)) :=
  r_copyV hexec hb hml hown hlink hnat hstat hini hS hA (cA := T 1) (ty := .long) (f := fun j => .long (f j)) (g := fun j => .long (g j)) ((hK.1.2 1 _ rfl).1) rfl (fun _ _ => rfl) h0 h1 hn hframes hlocals hdg kk
theorem r_copyI (hexec : p.tables.exec = Jvm.exec) (hb : c.code = cc) (hml : c.maxLocals = ls.size) {own : String} {index : Nat} (hown : s.vm.findClass own = some m.cls) (hlink : (Cond.methodLink own index arraycopyName).before args s = true) (hnat : (Cond.native arraycopyName).before args s = true) (hstat : (Cond.static arraycopyName).before args s = true) (hini : (Cond.initialized "java/lang/System").before args s = true)
    (hK : KS D T s) (hS : va_S A H0 H locs) (hA : A a) {a0 n : Nat} {f g : Nat → Int32} (h0 : va_at D vwCl (a0, eI T n f) H) (h1 : va_at D vwCl (a, eI T n g) H) (hn : n < 2 ^ 31)
    (hframes : 1 ≤ R.frames) (hlocals : (rest.map fun v => v.category).sum + (nativeFrameWords "java/lang/System" "arraycopy" 5 + 11) ≤ R.locals) (hdg : decode cc pc = .ok (.invokestatic index, 3))
    (kk : ∀ (H1 : Heap) (locs1 : List Loc), va_at D vwCl (a, eI T n f) H1 → (∀ q, q ≠ a → H1[q]? = H[q]?) → va_S A H0 H1 locs1 → W p l e R s m args below meth c H1 locs1 cells slots Q (F0 m (pc + 3) ls rest)) : W p l e R s m args below meth c H locs cells slots Q (F0 m pc ls (.int (nI n) :: .int (nI 0) :: .ref a :: .int (nI 0) :: .ref a0 :: rest)) :=
  r_copyV hexec hb hml hown hlink hnat hstat hini hS hA (cA := T 0) (ty := .int) (f := fun j => .int (f j)) (g := fun j => .int (g j)) ((hK.1.2 0 _ rfl).1) rfl (fun _ _ => rfl) h0 h1 hn hframes hlocals hdg kk
end RC
/-- a set moved by y -/
def mvb (b : Nat → Bool) (y : Int) (x : Nat) : Bool := bz b ((x : Int) - y)
theorem bit_join (o : Nat) (f g h : Nat → Int64) (e : ∀ j, j < 64 → f j = jn o (g j) (h j)) (x : Nat) (hx : x < 4096) : bitL f x = jb o (bitL g x) (bitL h x) := by
  rw [bitL_dm, bitL_dm, bitL_dm, e _ (by omega), lb_jn o _ _ (by omega)]
theorem moved_bit (f : Nat → Int64) {k : Nat} (hk : k < 64) {y : Int32} (hy : -4095 ≤ y.toInt ∧ y.toInt ≤ 4095) {a : Nat} (ha : (nI (64 * k) - y) &&& nI 63 = nI a) (ha64 : a < 64) {hi : Int64} (hh : hi = if a = 0 then 0 else shlL (wAt f (shrI (nI (64 * k) - y) (nI 6) + nI 1)) (nI (64 - a))) {j : Nat} (hj : j < 64) : lb (ushrL (wAt f (shrI (nI (64 * k) - y) (nI 6))) (nI a) ||| hi) j = mvb (bitL f) y.toInt (64 * k + j) := by
  have e : (nI (64 * k) - y).toInt = ((64 * k : Nat) : Int) - y.toInt := by
    rw [Int32.toInt_sub, nI_toInt (by omega)]
    exact Int.bmod_eq_of_le (by omega) (by omega)
  rw [moved_word f (nI (64 * k) - y) (by rw [e]; omega) ha ha64 hh hj, e]
  unfold mvb
  congr 1
  omega
/-- the word k of a set moved -/
def mvw (f : Nat → Int64) (y : Int32) (k : Nat) : Int64 := ushrL (wAt f (shrI (nI (64 * k) - y) (nI 6))) ((nI (64 * k) - y) &&& nI 63) ||| (if (nI (64 * k) - y) &&& nI 63 = 0 then 0 else shlL (wAt f (shrI (nI (64 * k) - y) (nI 6) + nI 1)) (nI 64 - ((nI (64 * k) - y) &&& nI 63)))
theorem mvw_bit (f : Nat → Int64) {y : Int32} (hy : -4095 ≤ y.toInt ∧ y.toInt ≤ 4095) (x : Nat) (hx : x < 4096) : bitL (mvw f y) x = mvb (bitL f) y.toInt x := by
  rw [bitL_dm]
  obtain ⟨a, ha, ea⟩ : ∃ a, a < 64 ∧ (nI (64 * (x / 64)) - y) &&& nI 63 = nI a := ⟨_, by
    have := Int.emod_lt_of_pos (nI (64 * (x / 64)) - y).toInt (show (0 : Int) < 64 by decide)
    omega, and63 _⟩
  have h := moved_bit f (k := x / 64) (by omega) hy ea ha (hi := if a = 0 then 0 else shlL (wAt f (shrI (nI (64 * (x / 64)) - y) (nI 6) + nI 1)) (nI (64 - a))) rfl (j := x % 64) (by omega)
  rw [show 64 * (x / 64) + x % 64 = x by omega] at h
  rw [← h]
  unfold mvw
  rw [ea]
  by_cases h0 : a = 0
  · subst h0
    rw [if_pos rfl, if_pos (by decide)]
  · rw [if_neg h0, if_neg (fun z => h0 ((nI_e0 (by omega)).mp z)), pk_sub (by omega)]
