/-! new cells, one at a time -/
section RA
variable {p : Program} {l : Launch} {e : Env} {R : Room} {s : State} {m : MethodId} {args : Array Value} {below : List Frame} {meth : Method} {c : Code} {H : Heap} {locs : List Loc} {cells slots : Nat} {Q : State → Prop}
variable {cc : ByteArray} {pc : Nat} {ls : Array Slot} {rest : List Value} {D : va_G} {T : Nat → ClassId} {A : Nat → Prop} {a : Nat} {H0 : Heap}
theorem S_new {H1 : Heap} (hS : va_S A H0 H locs) (z1 : H1.size = H.size + 1) (o1 : ∀ q, q < H.size → H1[q]? = H[q]?) : va_S A H0 H1 locs :=
  ⟨Nat.le_trans hS.1 (by omega), fun x h1 h2 => (o1 x (Nat.lt_of_lt_of_le h1 hS.1)).trans (hS.2.1 x h1 h2), hS.2.2⟩
theorem r_newo (hexec : p.tables.exec = Jvm.exec) (hb : c.code = cc) {own C : String} {Tb : u_T} {N ci index : Nat} {Ts : List Cond} (hts : ∀ w ∈ Ts, w.before args s = true) (hin : ∀ w ∈ u_ws C Tb N, w ∈ Ts) (ty : Nat → FieldType) (hty : ∀ k, k < N → parseFieldDescriptor (Tb k).2.2.1 = some (ty k)) (hown : s.vm.findClass own = some m.cls) (hcl : (Cond.classLink own index C).before args s = true) (hinst : (Cond.instantiable C N).before args s = true) (hini : (Cond.initialized C).before args s = true)
    (hK : KS D T s) (hS : va_S A H0 H locs) (hc : vwCl[ci]? = some (C, Tb, N)) {fs : List Value} (hfs : ∀ j, j < N → defaultValue (ty j) = vp_V fs j) (hcells : cells + 1 ≤ R.cells) (hslots : slots + N ≤ R.slots) (hdg : decode cc pc = .ok (.new index, 3))
    (kk : ∀ (q : Nat) (H1 : Heap), q = H.size → va_at D vwCl (q, .inr (ci, fs)) H1 → H1.size = H.size + 1 → Fr (fun _ => False) H H1 → va_S A H0 H1 locs → W p l e R s m args below meth c H1 locs (cells + 1) (slots + N) Q (F0 m (pc + 3) ls (.ref q :: rest))) : W p l e R s m args below meth c H locs cells slots Q (F0 m pc ls rest) := by
  have hKn := hK.1.1 ci _ hc
  refine W.newcK hexec hb hown hcl hinst hini rfl hdg hcells hslots hKn.2.1 rfl fun H1 kC hkC e1 z1 o1 => ?_
  exact kk H.size H1 rfl ⟨_, hc, (u_born ty hts hin hKn hkC e1 hty).to hfs⟩ z1 (fun q h _ => o1 q h) (S_new hS z1 o1)
theorem r_newI (hexec : p.tables.exec = Jvm.exec) (hb : c.code = cc) (harr : (Cond.arrayClass .int).before args s = true) (hK : KS D T s) (hS : va_S A H0 H locs) {n : Nat} (hn : n * 4 ≤ 536870912) (hcells : cells + 1 ≤ R.cells) (hslots : slots + n ≤ R.slots) (hdg : decode cc pc = .ok (.newarray .int, 2))
    (kk : ∀ (q : Nat) (H1 : Heap), q = H.size → va_at D vwCl (q, eI T n (fun _ => 0)) H1 → H1.size = H.size + 1 → Fr (fun _ => False) H H1 → va_S A H0 H1 locs → W p l e R s m args below meth c H1 locs (cells + 1) (slots + n) Q (F0 m (pc + 2) ls (.ref q :: rest))) : W p l e R s m args below meth c H locs cells slots Q (F0 m pc ls (.int (nI n) :: rest)) := by
  refine va_newaK (atype := .int) (N := n) hexec hb harr rfl hdg rfl (nI_pos (by omega)) (nI_clamp (by omega)) hn hcells hslots rfl fun H1 cA e1 z1 o1 hAr hNm => ?_
  have hT : cA = T 0 := Option.some.inj (hNm.symm.trans (hK.1.2 0 _ rfl).2)
  subst hT
  exact kk H.size H1 rfl e1 z1 (fun q h _ => o1 q h) (S_new hS z1 o1)
theorem r_newJ (hexec : p.tables.exec = Jvm.exec) (hb : c.code = cc) (harr : (Cond.arrayClass .long).before args s = true) (hK : KS D T s) (hS : va_S A H0 H locs) {n : Nat} (hn : n * 8 ≤ 536870912) (hcells : cells + 1 ≤ R.cells) (hslots : slots + n ≤ R.slots) (hdg : decode cc pc = .ok (.newarray .long, 2))
    (kk : ∀ (q : Nat) (H1 : Heap), q = H.size → va_at D vwCl (q, eJ T n (fun _ => 0)) H1 → H1.size = H.size + 1 → Fr (fun _ => False) H H1 → va_S A H0 H1 locs → W p l e R s m args below meth c H1 locs (cells + 1) (slots + n) Q (F0 m (pc + 2) ls (.ref q :: rest))) : W p l e R s m args below meth c H locs cells slots Q (F0 m pc ls (.int (nI n) :: rest)) := by
  refine va_newaK (atype := .long) (N := n) hexec hb harr rfl hdg rfl (nI_pos (by omega)) (nI_clamp (by omega)) hn hcells hslots rfl fun H1 cA e1 z1 o1 hAr hNm => ?_
  have hT : cA = T 1 := Option.some.inj (hNm.symm.trans (hK.1.2 1 _ rfl).2)
  subst hT
  exact kk H.size H1 rfl e1 z1 (fun q h _ => o1 q h) (S_new hS z1 o1)
theorem r_newR (hexec : p.tables.exec = Jvm.exec) (hb : c.code = cc) {own C : String} {index k : Nat} (hown : s.vm.findClass own = some m.cls) (hclink : (Cond.classLink own index C).before args s = true) (hover : va_AO C s) (hK : KS D T s) (hk : (tyz T)[k]? = some (T k, .object C)) (hS : va_S A H0 H locs) {n : Nat} (hn : n * 4 ≤ 536870912) (hcells : cells + 1 ≤ R.cells) (hslots : slots + n ≤ R.slots) (hdg : decode cc pc = .ok (.anewarray index, 3))
    (kk : ∀ (q : Nat) (H1 : Heap), q = H.size → va_at D vwCl (q, eR T k n (fun _ => none)) H1 → H1.size = H.size + 1 → Fr (fun _ => False) H H1 → va_S A H0 H1 locs → W p l e R s m args below meth c H1 locs (cells + 1) (slots + n) Q (F0 m (pc + 3) ls (.ref q :: rest))) : W p l e R s m args below meth c H locs cells slots Q (F0 m pc ls (.int (nI n) :: rest)) := by
  have hcl : (nI n).toNatClampNeg = n := nI_clamp (by omega)
  refine W.anew hexec hb hown hclink (va_AO.use hover) rfl hdg rfl (nI_pos (by omega)) (by rw [hcl]; exact hn) hcells (by rw [hcl]; exact hslots) fun cA kA comp f1 f2 f3 f4 => ?_
  rw [hcl]
  obtain ⟨kB, comp2, g1, g2, g3, g4⟩ := (hK.1.2 k _ hk).2
  have hT : cA = T k := Option.some.inj (f1.symm.trans g4)
  subst hT
  generalize hH1 : H.push ({ cls := T k, slots := Array.replicate n .null, vm := .none } : Cell) = H1
  have z1 : H1.size = H.size + 1 := by rw [← hH1, Array.size_push]
  have e1 : H1[H.size]? = some (arrV (T k) n (fun _ => .null)) := by rw [← hH1, Array.getElem?_push_size, ← arrV_new]
  have o1 : ∀ q : Nat, q < H.size → H1[q]? = H[q]? := fun q hq => by rw [← hH1, Array.getElem?_push, if_neg (Nat.ne_of_lt hq)]
  exact kk H.size H1 rfl (by show H1[H.size]? = some (vp_cell _ _); rw [vp_cell_q]; exact e1) z1 (fun q h _ => o1 q h) (S_new hS z1 o1)
/-- a final field, in its constructor -/
theorem r_putF (hexec : p.tables.exec = Jvm.exec) (hb : c.code = cc) {own C : String} {Tb : u_T} {N ci index : Nat} {Ts : List Cond} (hts : ∀ w ∈ Ts, w.before args s = true) (hin : ∀ w ∈ u_ws C Tb N, w ∈ Ts) (ty0 : Nat → FieldType) (hty : ∀ k, k < N → parseFieldDescriptor (Tb k).2.2.1 = some (ty0 k)) (hnm : ∀ a, a < N → ∀ b, b < N → a ≠ b → (Tb a).2.1 ≠ (Tb b).2.1) (hown : s.vm.findClass own = some m.cls) (hK : KS D T s) (hS : va_S A H0 H locs) (hA : A a) {fs : List Value} (h : va_at D vwCl (a, .inr (ci, fs)) H) (hc : vwCl[ci]? = some (C, Tb, N)) (k : Nat) (hk : k < N) (hlink : (Cond.fieldLink own index C (Tb k).2.1 (Tb k).2.2.1).before args s = true) (hd : (Tb k).1 = C) (hfin : (Tb k).2.2.2 = true) (hin2 : meth.name = "<init>") (hdecl : (Tb k).1 = own) {ty : FieldType} {v : Value} (hpd : parseFieldDescriptor (Tb k).2.2.1 = some ty) (hn : narrow ty v = v) (hfit : fits ty v = true) (hl : k < fs.length)
    (hdg : decode cc pc = .ok (.putfield index, 3)) (kk : ∀ (H1 : Heap) (locs1 : List Loc), va_at D vwCl (a, .inr (ci, fs.set k v)) H1 → (∀ q, q ≠ a → H1[q]? = H[q]?) → H1.size = H.size → va_S A H0 H1 locs1 → W p l e R s m args below meth c H1 locs1 cells slots Q (F0 m (pc + 3) ls rest)) : W p l e R s m args below meth c H locs cells slots Q (F0 m pc ls (v :: .ref a :: rest)) := by
  have hap := va_apart (own := own) hts hin ty0 hty hnm hK.1 hc
  obtain ⟨r, h1, cell, q1, q2, q3, q4⟩ := h
  cases h1.symm.trans hc
  obtain ⟨hSl, hfc, kC, hkC, hkind⟩ := hK.1.1 ci _ hc
  obtain ⟨cf, kf, fi, f, hi, hsl⟩ := hSl k hk
  have hlay := hts _ (hin _ (u_in_lay hk))
  unfold u_lay at hlay
  rw [if_pos hfin] at hlay
  have hst := (u_facts hfc hkC (u_lays hts hin hk) hi).1
  have hcf : m.cls = cf := by
    obtain ⟨_, _, c', _, _, _, -, -, hf', -, -, -, hown2, -⟩ := Cond.laysFinal_spec hlay
    have e1 : c' = cf := by have := hi.symm.trans hf'; simp at this; exact this.1.symm
    rw [hdecl] at hown2
    rw [← e1]; exact Option.some.inj (hown.symm.trans hown2)
  have h6 := u_fits hfc hkC hkind (Or.inr hlay) hi hpd hn hfit
  refine W.putFinK hexec hb hown hlink (show s.fieldFound? C (Tb k).2.1 (Tb k).2.2.1 = some (cf, kf, fi, f) by rw [← hd]; exact hi) hst hcf hin2 (by rw [q2]; exact h6) q1 q3 (by rw [hsl]; exact k2_hasslot (q4 k hk)) rfl rfl hdg fun H' e1 e2 e3 => ?_
  rw [hsl] at e1 ⊢
  exact kk H' _ ⟨_, hc, t_OB.to (V := updV (vp_V fs) k v) ⟨_, e1, q2, q3, t_set q4 hap hk v⟩ (fun j _ => vp_updV_set hl v j)⟩ e3 e2 (hS.put e2 e3 hA)
/-- a store into a row of Numbers -/
theorem r_nast (hexec : p.tables.exec = Jvm.exec) (hb : c.code = cc) (hK : KS D T s) (hS : va_S A H0 H locs) (hA : A a) {n i v : Nat} {vs : List Value} {f : Nat → Option Nat} (h : va_at D vwCl (a, eR T 2 n f) H) (hv : va_at D vwCl (v, .inr (1, vs)) H) (hi : i < n) (hn : n < 2 ^ 31) (hdg : decode cc pc = .ok (.aastore, 1))
    (kk : ∀ (H1 : Heap) (locs1 : List Loc), va_at D vwCl (a, eR T 2 n (va_up f i (some v))) H1 → (∀ q, q ≠ a → H1[q]? = H[q]?) → H1.size = H.size → va_S A H0 H1 locs1 → W p l e R s m args below meth c H1 locs1 cells slots Q (F0 m (pc + 1) ls rest)) : W p l e R s m args below meth c H locs cells slots Q (F0 m pc ls (.ref v :: .int (nI i) :: .ref a :: rest)) := by
  have h1 : H[a]? = some (arrV (T 2) n (fun j => va_rf (f j))) := h
  obtain ⟨r, hr, cellV, g1, g2, g3, -⟩ := hv
  cases hr
  have hcls := (hK.1.1 1 _ rfl).2
  obtain ⟨kA, comp, k1, k2, k3, -⟩ := (hK.1.2 2 _ rfl).2
  have hcomp : comp = D.1 1 := Option.some.inj (k3.symm.trans hcls.1)
  subst hcomp
  obtain ⟨kC, hkC, -⟩ := hcls.2
  refine W.aast hexec hb h1 (fun q h => by cases h) (fun h => by cases h) k1 k2 rfl hkC ⟨nI_pos (Nat.lt_trans hi hn), by rw [arrV_size, nI_clamp (Nat.lt_trans hi hn)]; exact hi⟩ g1 (fun q h => by rw [g3] at h; cases h) (by rw [g2]; exact hkC) (by rw [g2]; exact va_assign hcls) rfl rfl hdg fun H1 e z oq => ?_
  refine kk H1 _ ?_ oq z (hS.put z oq hA)
  rw [nI_clamp (Nat.lt_trans hi hn), arrV_store] at e
  show H1[a]? = some (arrV (T 2) n (fun j => va_rf (va_up f i (some v) j)))
  rw [e]
  congr 2
  funext q
  by_cases hq : q = i
  · subst hq; simp [updV, va_up, va_rf]
  · simp [updV, va_up, hq]
end RA
/-- the machine as the constructors find it: also the classes of rows of references are there -/
def KA (D : va_G) (T : Nat → ClassId) (U : State) : Prop := KS D T U ∧ va_AO "PieceSets$Numbers" U ∧ va_AO "PieceSets$State" U
theorem va_AO.same {C : String} {u U : State} (e : u.vm = U.vm) (h : va_AO C u) : va_AO C U := va_AO.moved (by rw [e]; exact Vm.Alike.refl _) h
theorem pre_A {s : State} {H : Heap} {D : va_G} {T : Nat → ClassId} {Φ : Heap → Prop} {As : List Value} (hK : KA D T s) (hΦ : Φ H) : PreS s H (va_Pc As (fun U => KA D T U ∧ Φ U.heap)) As :=
  ⟨fun a U g mk q => ⟨q.1, ⟨q.2.1.1.call g mk a, va_AO.moved (u := U) (U := U.calling g mk a) (Vm.Alike.refl U.vm) q.2.1.2.1, va_AO.moved (u := U) (U := U.calling g mk a) (Vm.Alike.refl U.vm) q.2.1.2.2⟩, q.2.2⟩, fun U hU hW => ⟨rfl, ⟨hK.1.warm hW, va_AO.moved hW.alike hK.2.1, va_AO.moved hW.alike hK.2.2⟩, by rw [hU]; exact hΦ⟩⟩
/-- apart, among those places that P names -/
def injP (P : Nat → Prop) (A : Nat → Nat) : Prop := ∀ x y, P x → P y → A x = A y → x = y
theorem injP.ext {P P' Q : Nat → Prop} {A A' : Nat → Nat} {N : Nat} (h : injP P A) (hl : ∀ x, P x → A x < N) (e : ∀ x, P x → A' x = A x) (hq : injP Q A') (hg : ∀ x, Q x → N ≤ A' x) (hP : ∀ x, P' x → P x ∨ Q x) : injP P' A' := fun x y hx hy z => by
  rcases hP x hx with h1 | h1 <;> rcases hP y hy with h2 | h2
  · exact h x y h1 h2 (by rw [← e x h1, ← e y h2]; exact z)
  · have := hl x h1; have := e x h1; have := hg y h2; omega
  · have := hl y h2; have := e y h2; have := hg x h1; omega
  · exact hq x y h1 h2 z
