/-! stores into fields and rows of references, one cell at a time; an object of State -/
section RP
variable {p : Program} {l : Launch} {e : Env} {R : Room} {s : State} {m : MethodId} {args : Array Value} {below : List Frame} {meth : Method} {c : Code} {H : Heap} {locs : List Loc} {cells slots : Nat} {Q : State → Prop}
variable {cc : ByteArray} {pc : Nat} {ls : Array Slot} {rest : List Value} {D : va_G} {T : Nat → ClassId} {A : Nat → Prop} {a : Nat} {H0 : Heap}
theorem r_put (hexec : p.tables.exec = Jvm.exec) (hb : c.code = cc) {own C : String} {Tb : u_T} {N ci index : Nat} {Ts : List Cond} (hts : ∀ w ∈ Ts, w.before args s = true) (hin : ∀ w ∈ u_ws C Tb N, w ∈ Ts) (ty0 : Nat → FieldType) (hty : ∀ k, k < N → parseFieldDescriptor (Tb k).2.2.1 = some (ty0 k)) (hnm : ∀ a, a < N → ∀ b, b < N → a ≠ b → (Tb a).2.1 ≠ (Tb b).2.1) (hown : s.vm.findClass own = some m.cls) (hK : KS D T s) (hS : va_S A H0 H locs) (hA : A a) {fs : List Value} (h : va_at D vwCl (a, .inr (ci, fs)) H) (hc : vwCl[ci]? = some (C, Tb, N)) (k : Nat) (hk : k < N) (hlink : (Cond.fieldLink own index C (Tb k).2.1 (Tb k).2.2.1).before args s = true) (hd : (Tb k).1 = C) (hfin : (Tb k).2.2.2 = false) {ty : FieldType} {v : Value} (hpd : parseFieldDescriptor (Tb k).2.2.1 = some ty) (hn : narrow ty v = v) (hfit : fits ty v = true) (hl : k < fs.length)
    (hdg : decode cc pc = .ok (.putfield index, 3)) (kk : ∀ (H1 : Heap) (locs1 : List Loc), va_at D vwCl (a, .inr (ci, fs.set k v)) H1 → (∀ q, q ≠ a → H1[q]? = H[q]?) → va_S A H0 H1 locs1 → W p l e R s m args below meth c H1 locs1 cells slots Q (F0 m (pc + 3) ls rest)) : W p l e R s m args below meth c H locs cells slots Q (F0 m pc ls (v :: .ref a :: rest)) := by
  have hap := va_apart (own := own) hts hin ty0 hty hnm hK.1 hc
  obtain ⟨r, h1, cell, q1, q2, q3, q4⟩ := h
  cases h1.symm.trans hc
  obtain ⟨hSl, hfc, kC, hkC, hkind⟩ := hK.1.1 ci _ hc
  obtain ⟨cf, kf, fi, f, hi, hsl⟩ := hSl k hk
  have hlay := hts _ (hin _ (u_in_lay hk))
  unfold u_lay at hlay
  rw [if_neg (by rw [hfin]; decide)] at hlay
  refine W.putK hexec hb (f := f) ⟨hown, hlink, ⟨cf, kf, fi, by rw [← hd]; exact hi⟩, (u_facts hfc hkC (u_lays hts hin hk) hi).1⟩ (by rw [q2]; exact u_store hfc hkC hkind hlay hi hpd hn hfit) q1 q3 (by rw [hsl]; exact k2_hasslot (q4 k hk)) rfl rfl hdg fun H' e1 e2 e3 => ?_
  rw [hsl] at e1 ⊢
  exact kk H' _ ⟨_, hc, t_OB.to (V := updV (vp_V fs) k v) ⟨_, e1, q2, q3, t_set q4 hap hk v⟩ (fun j _ => vp_updV_set hl v j)⟩ e3 (hS.put e2 e3 hA)
theorem r_putN (hexec : p.tables.exec = Jvm.exec) (hb : c.code = cc) {own C host : String} {Tb : u_T} {N ci index : Nat} {Ts : List Cond} (hts : ∀ w ∈ Ts, w.before args s = true) (hin : ∀ w ∈ u_ws C Tb N, w ∈ Ts) (ty0 : Nat → FieldType) (hty : ∀ k, k < N → parseFieldDescriptor (Tb k).2.2.1 = some (ty0 k)) (hnm : ∀ a, a < N → ∀ b, b < N → a ≠ b → (Tb a).2.1 ≠ (Tb b).2.1) (hown : s.vm.findClass own = some m.cls) (hK : KS D T s) (hS : va_S A H0 H locs) (hA : A a) {fs : List Value} (h : va_at D vwCl (a, .inr (ci, fs)) H) (hc : vwCl[ci]? = some (C, Tb, N)) (k : Nat) (hk : k < N) (hlink : (Cond.fieldLinkNest own index C (Tb k).2.1 (Tb k).2.2.1 host).before args s = true) (hd : (Tb k).1 = C) (hfin : (Tb k).2.2.2 = false) {ty : FieldType} {v : Value} (hpd : parseFieldDescriptor (Tb k).2.2.1 = some ty) (hn : narrow ty v = v) (hfit : fits ty v = true) (hl : k < fs.length)
    (hdg : decode cc pc = .ok (.putfield index, 3)) (kk : ∀ (H1 : Heap) (locs1 : List Loc), va_at D vwCl (a, .inr (ci, fs.set k v)) H1 → (∀ q, q ≠ a → H1[q]? = H[q]?) → va_S A H0 H1 locs1 → W p l e R s m args below meth c H1 locs1 cells slots Q (F0 m (pc + 3) ls rest)) : W p l e R s m args below meth c H locs cells slots Q (F0 m pc ls (v :: .ref a :: rest)) := by
  have hap := va_apart (own := own) hts hin ty0 hty hnm hK.1 hc
  obtain ⟨r, h1, cell, q1, q2, q3, q4⟩ := h
  cases h1.symm.trans hc
  obtain ⟨hSl, hfc, kC, hkC, hkind⟩ := hK.1.1 ci _ hc
  obtain ⟨cf, kf, fi, f, hi, hsl⟩ := hSl k hk
  have hlay := hts _ (hin _ (u_in_lay hk))
  unfold u_lay at hlay
  rw [if_neg (by rw [hfin]; decide)] at hlay
  refine va_WputK hexec hb (f := f) hown hlink (show s.fieldFound? C (Tb k).2.1 (Tb k).2.2.1 = some (cf, kf, fi, f) by rw [← hd]; exact hi) (u_facts hfc hkC (u_lays hts hin hk) hi).1 (by rw [q2]; exact u_store hfc hkC hkind hlay hi hpd hn hfit) q1 q3 (by rw [hsl]; exact k2_hasslot (q4 k hk)) rfl rfl hdg fun H' e1 e2 e3 => ?_
  rw [hsl] at e1 ⊢
  exact kk H' _ ⟨_, hc, t_OB.to (V := updV (vp_V fs) k v) ⟨_, e1, q2, q3, t_set q4 hap hk v⟩ (fun j _ => vp_updV_set hl v j)⟩ e3 (hS.put e2 e3 hA)
/-- a store into a row of States -/
theorem r_sast (hexec : p.tables.exec = Jvm.exec) (hb : c.code = cc) (hK : KS D T s) (hS : va_S A H0 H locs) (hA : A a) {n i v : Nat} {vs : List Value} {f : Nat → Option Nat} (h : va_at D vwCl (a, eR T 3 n f) H) (hv : va_at D vwCl (v, .inr (2, vs)) H) (hi : i < n) (hn : n < 2 ^ 31) (hdg : decode cc pc = .ok (.aastore, 1))
    (kk : ∀ (H1 : Heap) (locs1 : List Loc), va_at D vwCl (a, eR T 3 n (va_up f i (some v))) H1 → (∀ q, q ≠ a → H1[q]? = H[q]?) → va_S A H0 H1 locs1 → W p l e R s m args below meth c H1 locs1 cells slots Q (F0 m (pc + 1) ls rest)) : W p l e R s m args below meth c H locs cells slots Q (F0 m pc ls (.ref v :: .int (nI i) :: .ref a :: rest)) := by
  have h1 : H[a]? = some (arrV (T 3) n (fun j => va_rf (f j))) := h
  obtain ⟨r, hr, cellV, g1, g2, g3, -⟩ := hv
  have hr2 : (2 : Nat) < 5 := by decide
  cases hr
  have hcls := (hK.1.1 2 _ rfl).2
  obtain ⟨kA, comp, k1, k2, k3, -⟩ := (hK.1.2 3 _ rfl).2
  have hcomp : comp = D.1 2 := Option.some.inj (k3.symm.trans hcls.1)
  subst hcomp
  obtain ⟨kC, hkC, -⟩ := hcls.2
  refine W.aast hexec hb h1 (fun q h => by cases h) (fun h => by cases h) k1 k2 rfl hkC ⟨nI_pos (Nat.lt_trans hi hn), by rw [arrV_size, nI_clamp (Nat.lt_trans hi hn)]; exact hi⟩ g1 (fun q h => by rw [g3] at h; cases h) (by rw [g2]; exact hkC) (by rw [g2]; exact va_assign hcls) rfl rfl hdg fun H1 e z oq => ?_
  refine kk H1 _ ?_ oq (hS.put z oq hA)
  rw [nI_clamp (Nat.lt_trans hi hn), arrV_store] at e
  show H1[a]? = some (arrV (T 3) n (fun j => va_rf (va_up f i (some v) j)))
  rw [e]
  congr 2
  funext q
  by_cases hq : q = i
  · subst hq; simp [updV, va_up, va_rf]
  · simp [updV, va_up, hq]
end RP
/-- what isn't in A stays -/
def Fr (A : Nat → Prop) (H H1 : Heap) : Prop := ∀ q : Nat, q < H.size → ¬ A q → H1[q]? = H[q]?
theorem Fr.oq {a : Nat} {H H1 : Heap} (h : ∀ q : Nat, q ≠ a → H1[q]? = H[q]?) : Fr (fun q => q = a) H H1 := fun q _ h2 => h q h2
theorem Fr.at {A : Nat → Prop} {D : va_G} {H H1 : Heap} {a : Nat} {e : va_E} (hF : Fr A H H1) (h : va_at D vwCl (a, e) H) (hn : ¬ A a) : va_at D vwCl (a, e) H1 := h.kept (hF a (va_at.lt h) hn)
theorem Fr.num {A : Nat → Prop} {D : va_G} {T : Nat → ClassId} {H H1 : Heap} {o w : Nat} {f : Nat → Int64} (hF : Fr A H H1) (h : Num D T H o w f) (h1 : ¬ A o) (h2 : ¬ A w) : Num D T H1 o w f := ⟨hF.at h.1 h1, hF.at h.2 h2⟩
/-- an object of State: its cells are a 0 to a 15; its sets' words W, its counts -/
def Sta (D : va_G) (T : Nat → ClassId) (H : Heap) (a : Nat → Nat) (W : Nat → Nat → Int64) (me co : Nat → Int32) : Prop :=
  va_at D vwCl (a 0, .inr (2, [.ref (a 1), .ref (a 2), .ref (a 3)])) H ∧ va_at D vwCl (a 1, eR T 2 6 (fun s => some (a (4 + 2 * s)))) H ∧ va_at D vwCl (a 2, eI T 9 me) H ∧ va_at D vwCl (a 3, eI T 9 co) H ∧ ∀ s, s < 6 → Num D T H (a (4 + 2 * s)) (a (5 + 2 * s)) (W s)
def inj (a : Nat → Nat) (n : Nat) : Prop := ∀ i j, i < n → j < n → a i = a j → i = j
theorem inj.ne {a : Nat → Nat} {n : Nat} (h : inj a n) (i j : Nat) (hi : i < n) (hj : j < n) (hij : i ≠ j) : a i ≠ a j := fun e => hij (h i j hi hj e)
theorem Sta.fr {A : Nat → Prop} {D : va_G} {T : Nat → ClassId} {H H1 : Heap} {a : Nat → Nat} {W : Nat → Nat → Int64} {me co : Nat → Int32} (h : Sta D T H a W me co) (hF : Fr A H H1) (hn : ∀ i, i < 16 → ¬ A (a i)) : Sta D T H1 a W me co :=
  ⟨hF.at h.1 (hn 0 (by decide)), hF.at h.2.1 (hn 1 (by decide)), hF.at h.2.2.1 (hn 2 (by decide)), hF.at h.2.2.2.1 (hn 3 (by decide)), fun s hs => hF.num (h.2.2.2.2 s hs) (hn _ (by omega)) (hn _ (by omega))⟩
theorem Sta.setW {D : va_G} {T : Nat → ClassId} {H H1 : Heap} {a : Nat → Nat} {W V : Nat → Nat → Int64} {me co : Nat → Int32} {k : Nat} {f : Nat → Int64} (h : Sta D T H a W me co) (hi : inj a 16) (hk : k < 6) (hN : Num D T H1 (a (4 + 2 * k)) (a (5 + 2 * k)) f) (hF : Fr (fun q => q = a (5 + 2 * k)) H H1) (e1 : V k = f) (e2 : ∀ s, s < 6 → s ≠ k → V s = W s) : Sta D T H1 a V me co :=
  ⟨hF.at h.1 (hi.ne _ _ (by decide) (by omega) (by omega)), hF.at h.2.1 (hi.ne _ _ (by decide) (by omega) (by omega)), hF.at h.2.2.1 (hi.ne _ _ (by decide) (by omega) (by omega)), hF.at h.2.2.2.1 (hi.ne _ _ (by decide) (by omega) (by omega)), fun s hs => by
    by_cases hsk : s = k
    · subst hsk
      rw [e1]
      exact hN
    · rw [e2 s hs hsk]
      exact hF.num (h.2.2.2.2 s hs) (hi.ne _ _ (by omega) (by omega) (by omega)) (hi.ne _ _ (by omega) (by omega) (by omega))⟩
theorem Sta.setM {D : va_G} {T : Nat → ClassId} {H H1 : Heap} {a : Nat → Nat} {W : Nat → Nat → Int64} {me co f : Nat → Int32} (h : Sta D T H a W me co) (hi : inj a 16) (hN : va_at D vwCl (a 2, eI T 9 f) H1) (hF : Fr (fun q => q = a 2) H H1) : Sta D T H1 a W f co :=
  ⟨hF.at h.1 (hi.ne _ _ (by decide) (by omega) (by omega)), hF.at h.2.1 (hi.ne _ _ (by decide) (by omega) (by omega)), hN, hF.at h.2.2.2.1 (hi.ne _ _ (by decide) (by omega) (by omega)), fun s hs => hF.num (h.2.2.2.2 s hs) (hi.ne _ _ (by omega) (by omega) (by omega)) (hi.ne _ _ (by omega) (by omega) (by omega))⟩
theorem Sta.setC {D : va_G} {T : Nat → ClassId} {H H1 : Heap} {a : Nat → Nat} {W : Nat → Nat → Int64} {me co f : Nat → Int32} (h : Sta D T H a W me co) (hi : inj a 16) (hN : va_at D vwCl (a 3, eI T 9 f) H1) (hF : Fr (fun q => q = a 3) H H1) : Sta D T H1 a W me f :=
  ⟨hF.at h.1 (hi.ne _ _ (by decide) (by omega) (by omega)), hF.at h.2.1 (hi.ne _ _ (by decide) (by omega) (by omega)), hF.at h.2.2.1 (hi.ne _ _ (by decide) (by omega) (by omega)), hN, fun s hs => hF.num (h.2.2.2.2 s hs) (hi.ne _ _ (by omega) (by omega) (by omega)) (hi.ne _ _ (by omega) (by omega) (by omega))⟩
theorem Sta.cong {D : va_G} {T : Nat → ClassId} {H : Heap} {a : Nat → Nat} {W V : Nat → Nat → Int64} {me co : Nat → Int32} (h : Sta D T H a W me co) (e : ∀ s, s < 6 → V s = W s) : Sta D T H a V me co := ⟨h.1, h.2.1, h.2.2.1, h.2.2.2.1, fun s hs => by rw [e s hs]; exact h.2.2.2.2 s hs⟩
def stW (V W : Nat → Nat → Int64) (k : Nat) : Nat → Nat → Int64 := fun s => if s < k then V s else W s
/-- how meetings and conversions are counted, piece by piece -/
def kk (b : Nat → Bool) (p : Nat) : Nat := kdN (pn b p) (pr b p)
theorem kk_lt (b : Nat → Bool) (p : Nat) : kk b p < 3 := kdN_lt _ _
def mtF (a b : Nat → Bool) : Nat → (Nat → Int32) → (Nat → Int32)
  | 0, m => m
  | k + 1, m => if pn a k ≠ 0 ∧ pn b k ≠ 0 then upd (mtF a b k m) (3 * kk a k + kk b k) (mtF a b k m (3 * kk a k + kk b k) + nI 1) else mtF a b k m
def cvF (a b : Nat → Bool) : Nat → (Nat → Int32) → (Nat → Int32)
  | 0, m => m
  | k + 1, m => if pn a k ≠ 0 ∧ pn b k ≠ 0 ∧ kk a k ≠ kk b k then upd (cvF a b k m) (3 * kk a k + kk b k) (cvF a b k m (3 * kk a k + kk b k) + nI 1) else cvF a b k m
theorem isk (b : Nat → Bool) (p : Nat) : (¬ pkd b p < 0 ∧ pkd b p < nI 3) ↔ pn b p ≠ 0 := by
  unfold pkd
  have h3 := kdN_lt (pn b p) (pr b p)
  by_cases h : pn b p = 0
  · rw [kd_0 h]
    exact ⟨fun z => absurd (show (-9 : Int32) < 0 by decide) z.1, fun z => absurd h z⟩
  · have e : kd (pn b p) (pr b p) = nI (kdN (pn b p) (pr b p)) := if_neg h
    rw [e]
    exact ⟨fun _ => h, fun _ => ⟨nI_pos (by omega), (nI_ltI (by omega) (by omega)).mpr h3⟩⟩
theorem pkd_n {b : Nat → Bool} {p : Nat} (h : pn b p ≠ 0) : pkd b p = nI (kk b p) := if_neg h
