/-! WHAT BOTH SIDES COMPUTE: the sets, the counts, the history, the buffer; answers and next states of every call -/
abbrev AS : Type := (Nat → Nat → Bool) × (Nat → Int32) × (Nat → Int32)
abbrev FS : Type := AS × (Nat → AS) × Nat × (Nat → Nat) × Nat
abbrev ok6 (s : Int32) : Prop := ¬ s < 0 ∧ s < nI 6
abbrev okR (x y : Int32) : Prop := ¬ x < 0 ∧ x < nI 4096 ∧ ¬ y < 0 ∧ y < nI 4096 ∧ x ≤ y
abbrev ok3 (s : Int32) : Prop := ¬ s < 0 ∧ s < nI 3
def cl (s : Int32) : Nat := s.toNatClampNeg
theorem cl_n {n : Nat} (h : n < 2 ^ 31) : cl (nI n) = n := nI_clamp h
theorem okN {n N : Nat} (h : n < N) (hN : N < 2 ^ 31) : ¬ nI n < 0 ∧ nI n < nI N := ⟨nI_pos (by omega), (nI_ltI (by omega) hN).mpr h⟩
theorem okX {x : Int32} {N : Nat} (hN : N < 2 ^ 31) (h : ¬ x < 0 ∧ x < nI N) : ∃ n, n < N ∧ x = nI n := by
  obtain ⟨j, hj, rfl⟩ := nI_of h.1
  exact ⟨j, (nI_ltI hj hN).mp h.2, rfl⟩
def rg (f t z : Nat) : Bool := decide (f ≤ z ∧ z ≤ t)
def pushH (h : Nat → AS) (k : Nat) (a : AS) : Nat → AS := fun i => if k < 5 then (if i = k then a else h i) else (if i = 4 then a else h (i + 1))
/-- an act after which the set s holds b -/
def actF (p : FS) (s : Nat) (b : Nat → Bool) : FS := ((va_up p.1.1 s b, p.1.2.1, cvF (p.1.1 s) b 16 p.1.2.2), pushH p.2.1 p.2.2.1 p.1, kpt p.2.2.1, p.2.2.2.1, p.2.2.2.2)
def addB (b : Nat → Bool) (f t : Nat) : Nat → Bool := fun z => b z || rg f t z
def remB (b : Nat → Bool) (f t : Nat) : Nat → Bool := fun z => b z && !rg f t z
def flpB (b : Nat → Bool) (f t : Nat) : Nat → Bool := fun z => b z ^^ rg f t z
def addN (p : FS) (s x y : Int32) : FS := if ok6 s ∧ okR x y then actF p (cl s) (addB (p.1.1 (cl s)) (cl x) (cl y)) else p
def addR (p : FS) (s x y : Int32) : Int32 := if ok6 s ∧ okR x y then nI (cl y - cl x + 1 - ct (p.1.1 (cl s)) (cl x) (cl y - cl x + 1)) else -1
def remN (p : FS) (s x y : Int32) : FS := if ok6 s ∧ okR x y then actF p (cl s) (remB (p.1.1 (cl s)) (cl x) (cl y)) else p
def remR (p : FS) (s x y : Int32) : Int32 := if ok6 s ∧ okR x y then nI (ct (p.1.1 (cl s)) (cl x) (cl y - cl x + 1)) else -1
def flpN (p : FS) (s x y : Int32) : FS := if ok6 s ∧ okR x y then actF p (cl s) (flpB (p.1.1 (cl s)) (cl x) (cl y)) else p
def nxI (x : Int32) : Int32 := 1103515245 * x + nI 12345
def ixN (x : Int32) : Nat := x.toBitVec.toNat / 65536 % 4096
def scF : Nat → Int32 → (Nat → Bool) → (Nat → Bool)
  | 0, _, b => b
  | n + 1, x, b => scF n (nxI x) (fun z => b z || decide (z = ixN (nxI x)))
abbrev okM (m : Int32) : Prop := ¬ m < nI 1 ∧ ¬ nI 300 < m
def scaN (p : FS) (s x m : Int32) : FS := if ok6 s ∧ okM m then actF p (cl s) (scF (cl m) x (p.1.1 (cl s))) else p
def scaR (p : FS) (s x m : Int32) : Int32 := if ok6 s ∧ okM m then nI (ct (scF (cl m) x (p.1.1 (cl s))) 0 4096) else -1
abbrev okC (o s t u : Int32) : Prop := ¬ o < 0 ∧ ¬ nI 3 < o ∧ ok6 s ∧ ok6 t ∧ ok6 u
def comB (p : FS) (o s t : Int32) : Nat → Bool := fun z => jb (cl o) (p.1.1 (cl s) z) (p.1.1 (cl t) z)
def comN (p : FS) (o s t u : Int32) : FS := if okC o s t u then ((va_up p.1.1 (cl u) (comB p o s t), mtF (p.1.1 (cl s)) (p.1.1 (cl t)) 16 p.1.2.1, cvF (p.1.1 (cl u)) (comB p o s t) 16 p.1.2.2), pushH p.2.1 p.2.2.1 p.1, kpt p.2.2.1, p.2.2.2.1, p.2.2.2.2) else p
def comR (p : FS) (o s t u : Int32) : Int32 := if okC o s t u then nI (ct (comB p o s t) 0 4096) else -1
abbrev okS (y : Int32) : Prop := ¬ y ≤ (-4096) ∧ ¬ nI 4096 ≤ y
def shiN (p : FS) (s y : Int32) : FS := if ok6 s ∧ okS y then actF p (cl s) (mvb (p.1.1 (cl s)) y.toInt) else p
def shiR (p : FS) (s y : Int32) : Int32 := if ok6 s ∧ okS y then nI (ct (p.1.1 (cl s)) 0 4096 - ct (mvb (p.1.1 (cl s)) y.toInt) 0 4096) else -1
def sizR (p : FS) (s : Int32) : Int32 := if ok6 s then nI (ct (p.1.1 (cl s)) 0 4096) else -1
def conR (p : FS) (s x : Int32) : Int32 := if ok6 s then b2i (hlt (p.1.1 (cl s)) x) else -1
def ranR (p : FS) (s x : Int32) : Int32 := if ok6 s then nI (ctr (p.1.1 (cl s)) (nI 0) x) else -1
def selR (p : FS) (s i : Int32) : Int32 := if ok6 s ∧ ¬ i < 0 then nthA (p.1.1 (cl s)) i else -1
/-- the first from z on, within k, that is at least x; the last below n that is at most x -/
def upF (b : Nat → Bool) (x : Int32) : Nat → Nat → Int32
  | 0, _ => -9
  | k + 1, z => if b z = true ∧ x ≤ nI z then nI z else upF b x k (z + 1)
def dnF (b : Nat → Bool) (x : Int32) : Nat → Int32
  | 0 => -9
  | n + 1 => if b n = true ∧ nI n ≤ x then nI n else dnF b x n
def neaR (p : FS) (s x : Int32) (u : Int32) : Int32 := if ok6 s then (if u = 0 then dnF (p.1.1 (cl s)) x 4096 else upF (p.1.1 (cl s)) x 4096 0) else -1
def rusR (p : FS) (s : Int32) : Int32 := if ok6 s then nI (ct (rsG (p.1.1 (cl s)) 0) 0 4096) else -1
def reG (b : Nat → Bool) (x : Nat) : Bool := b x && (decide (x = 4095) || !b (x + 1))
def runR (p : FS) (s i : Int32) : Int32 := if ok6 s ∧ ¬ i < 0 then (if nthA (rsG (p.1.1 (cl s)) 0) i = -9 ∨ nthA (reG (p.1.1 (cl s))) i = -9 then -9 else nI 4096 * nthA (rsG (p.1.1 (cl s)) 0) i + nthA (reG (p.1.1 (cl s))) i) else -1
def pieR (p : FS) (s k y : Int32) : Int32 := if ok6 s ∧ ¬ k < 0 ∧ k < nI 16 then det (p.1.1 (cl s)) (cl k) y else -1
def pcst (b : Nat → Bool) (k : Nat) : Nat := cst (pn b k) (pr b k)
def bytR (p : FS) (s : Int32) : Int32 := if ok6 s then nI (fb_sm (pcst (p.1.1 (cl s))) 16) else -1
def bfF (b : Nat → Bool) : Nat → Nat → Nat → Int32
  | 0, _, _ => -9
  | n + 1, k, l => if l < pcst b k then wb b k l else bfF b n (k + 1) (l - pcst b k)
def byaR (p : FS) (s i : Int32) : Int32 := if ok6 s ∧ ¬ i < 0 then bfF (p.1.1 (cl s)) 16 0 (cl i) else -1
abbrev okV (v : Int32) : Prop := ¬ v < 0 ∧ ¬ nI 255 < v
def putN (p : FS) (v : Int32) : FS := if okV v then (p.1, p.2.1, p.2.2.1, apR p.2.2.2.1 p.2.2.2.2 (cl v), apL p.2.2.2.2) else p
def putR (p : FS) (v : Int32) : Int32 := if okV v then (if p.2.2.2.2 < 200 then nI (p.2.2.2.2 + 1) else -3) else -1
def cleN (p : FS) : FS := (p.1, p.2.1, p.2.2.1, p.2.2.2.1, 0)
def cleR (p : FS) : Int32 := nI p.2.2.2.2
def reaP (p : FS) : PR := pAll p.2.2.2.1 p.2.2.2.2 17 0 0 (fun _ => false)
def reaN (p : FS) (s : Int32) : FS := if ok6 s ∧ (reaP p).1 = true then ((va_up p.1.1 (cl s) (reaP p).2.2, p.1.2.1, cvF (p.1.1 (cl s)) (reaP p).2.2 16 p.1.2.2), pushH p.2.1 p.2.2.1 p.1, kpt p.2.2.1, p.2.2.2.1, 0) else p
def reaR (p : FS) (s : Int32) : Int32 := if ok6 s then (if (reaP p).1 = true then nI (ct (reaP p).2.2 0 4096) else (-100) - nI (reaP p).2.1) else -1
def jct (o : Nat) (a b : Nat → Bool) : Nat := ct (fun z => jb o (a z) (b z)) 0 4096
def smP (a b : Nat → Bool) : Nat := fb_ct (fun k => decide (ct (fun z => jb 2 (a z) (b z)) (256 * k) 256 = 0)) 16
def cmpV (a b : Nat → Bool) (q : Int32) : Int32 := if q = nI 0 then nI (jct 0 a b) else if q = nI 1 then nI (jct 2 a b) else if q = nI 2 then (if jct 3 a b = 0 then 1 else 0) else if q = nI 3 then nI (smP a b) else if q = nI 4 then nthA (fun z => jb 2 (a z) (b z)) (nI 0) else -1
def cmpR (p : FS) (s t q : Int32) : Int32 := if ok6 s ∧ ok6 t then cmpV (p.1.1 (cl s)) (p.1.1 (cl t)) q else -1
def alkV (x y : Nat) (u : Int32) : Int32 := if Nat.gcd y x = 0 then 1 else nI ((if u = 0 then x else y) / Nat.gcd y x)
def alkR (p : FS) (s t u : Int32) : Int32 := if ok6 s ∧ ok6 t then alkV (jct 0 (p.1.1 (cl s)) (p.1.1 (cl t))) (jct 1 (p.1.1 (cl s)) (p.1.1 (cl t))) u else -1
def metR (p : FS) (a b : Int32) : Int32 := if ok3 a ∧ ok3 b then p.1.2.1 (3 * cl a + cl b) else -1
def cvtR (p : FS) (a b : Int32) : Int32 := if ok3 a ∧ ok3 b ∧ a ≠ b then p.1.2.2 (3 * cl a + cl b) else -1
def undN (p : FS) : FS := if p.2.2.1 = 0 then p else (p.2.1 (p.2.2.1 - 1), p.2.1, p.2.2.1 - 1, p.2.2.2.1, p.2.2.2.2)
def undR (p : FS) : Int32 := if p.2.2.1 = 0 then -9 else nI (p.2.2.1 - 1)
/-- the fingerprint, number by number -/
def mx (h : Int64) (x : Int64) : Int64 := 31 * h + x
def fp4 (b : Nat → Bool) (k : Nat) (h : Int64) : Nat → Int64
  | 0 => h
  | n + 1 => mx (fp4 b k h n) (det b k (nI n)).toInt64
def fpP (b : Nat → Bool) (h : Int64) : Nat → Int64
  | 0 => mx h (nI (ct b 0 4096)).toInt64
  | k + 1 => if 0 < pn b k then fp4 b k (mx (fpP b h k) (nI k).toInt64) 4 else fpP b h k
def fpS (f : Nat → Nat → Bool) : Nat → Int64
  | 0 => 163
  | s + 1 => fpP (f s) (fpS f s) 16
def fpM (m : Nat → Int32) (h : Int64) : Nat → Int64
  | 0 => h
  | k + 1 => mx (fpM m h k) (m k).toInt64
def fpC (m : Nat → Int32) (h : Int64) : Nat → Int64
  | 0 => h
  | k + 1 => if k / 3 = k % 3 then fpC m h k else mx (fpC m h k) (m k).toInt64
def fpX (b : Nat → Bool) (h : Int64) : Nat → Int64
  | 0 => h
  | x + 1 => if b x = true then mx (fpX b h x) (nI x).toInt64 else fpX b h x
def fpN (f : Nat → Nat → Bool) (h : Int64) : Nat → Int64
  | 0 => h
  | s + 1 => fpX (f s) (fpN f h s) 4096
def finR (p : FS) : Int64 := fpN p.1.1 (fpC p.1.2.2 (fpM p.1.2.1 (fpS p.1.1 6) 9) 9) 6
/-- how an object of PieceSets holds a state -/
def RepS (W : Nat → Nat → Int64) (me co : Nat → Int32) (a : AS) : Prop := (∀ s, s < 6 → ∀ x, x < 4096 → bitL (W s) x = a.1 s x) ∧ (∀ j, j < 9 → me j = a.2.1 j) ∧ ∀ j, j < 9 → co j = a.2.2 j
def PSE (D : va_G) (T : Nat → ClassId) (H : Heap) (A : Nat → Nat) (Sx : Nat → Prop) (p : FS) : Prop :=
  ∃ (W : Nat → Nat → Nat → Int64) (me co : Nat → Nat → Int32) (sc : Nat → Int64), PSr D T H A p.2.2.1 p.2.2.2.1 p.2.2.2.2 sc W me co ∧ (∀ i, i < 102 → Sx (A i)) ∧ (∀ i, p.2.2.2.1 i < 256) ∧ p.2.2.2.2 ≤ 200 ∧ p.2.2.1 ≤ 5 ∧ RepS (W 0) (me 0) (co 0) p.1 ∧ ∀ i, i < p.2.2.1 → RepS (W (1 + i)) (me (1 + i)) (co (1 + i)) (p.2.1 i)
theorem kpt_lt {k : Nat} : kpt k < 6 ∧ 1 ≤ kpt k ∧ kpt k ≤ 5 := by unfold kpt; split <;> omega
theorem rotW_0 {α : Type} (W : Nat → α) (k : Nat) : rotW W k 0 = W 0 := by
  unfold rotW
  rw [if_neg (by have := kpt_lt (k := k); omega), show rotI k 0 = 0 by unfold rotI; split <;> rfl]
theorem rotW_k {α : Type} (W : Nat → α) (k : Nat) : rotW W k (kpt k) = W 0 := if_pos rfl
theorem push_rep {W : Nat → Nat → Nat → Int64} {me co : Nat → Nat → Int32} {h : Nat → AS} {a : AS} {k : Nat} (hk : k ≤ 5) (h0 : RepS (W 0) (me 0) (co 0) a) (hh : ∀ i, i < k → RepS (W (1 + i)) (me (1 + i)) (co (1 + i)) (h i)) (i : Nat) (hi : i < kpt k) : RepS (rotW W k (1 + i)) (rotW me k (1 + i)) (rotW co k (1 + i)) (pushH h k a i) := by
  unfold rotW pushH
  by_cases h5 : k < 5
  · have e : kpt k = k + 1 := if_pos h5
    rw [e] at hi ⊢
    rw [if_pos h5]
    by_cases hik : i = k
    · subst hik
      rw [if_pos (by omega), if_pos (by omega), if_pos (by omega), if_pos rfl]
      exact h0
    · rw [if_neg (by omega), if_neg (by omega), if_neg (by omega), if_neg hik, show rotI k (1 + i) = 1 + i from if_pos h5]
      exact hh i (by omega)
  · have e : kpt k = 5 := if_neg h5
    rw [e] at hi ⊢
    rw [if_neg h5]
    by_cases hik : i = 4
    · subst hik
      rw [if_pos (by omega), if_pos (by omega), if_pos (by omega), if_pos rfl]
      exact h0
    · have e2 : rotI k (1 + i) = 1 + (i + 1) := by
        unfold rotI
        rw [if_neg h5, if_neg (by omega), if_pos (by omega)]
        omega
      rw [if_neg (by omega), if_neg (by omega), if_neg (by omega), if_neg hik, e2]
      exact hh (i + 1) (by omega)
theorem PSr.setW {D : va_G} {T : Nat → ClassId} {H H1 : Heap} {A : Nat → Nat} {k : Nat} {rb : Nat → Nat} {bl : Nat} {sc f : Nat → Int64} {W : Nat → Nat → Nat → Int64} {me co : Nat → Nat → Int32} {n s : Nat} (h : PSr D T H A k rb bl sc W me co) (hn : n < 6) (hs : s < 6) (hN : Num D T H1 (slA A n (4 + 2 * s)) (slA A n (5 + 2 * s)) f) (hF : Fr (fun q => q = slA A n (5 + 2 * s)) H H1) : PSr D T H1 A k rb bl sc (va_up W n (va_up (W n) s f)) me co :=
  h.of hF (fun q e => ⟨6 + 16 * n + (5 + 2 * s), by omega, by omega, e⟩) (h.2.2.2.setS h.1 hn hF (fun q e => ⟨5 + 2 * s, by omega, e⟩) (by
    rw [show va_up W n (va_up (W n) s f) n = va_up (W n) s f from if_pos rfl]
    exact (h.2.2.2.2.2 n hn).setW (slA_in h.1 hn) hs hN hF (if_pos rfl) (fun s _ z => if_neg z)) (fun m _ z => if_neg z) (fun _ _ _ => rfl) (fun _ _ _ => rfl))
theorem PSr.setM {D : va_G} {T : Nat → ClassId} {H H1 : Heap} {A : Nat → Nat} {k : Nat} {rb : Nat → Nat} {bl : Nat} {sc : Nat → Int64} {W : Nat → Nat → Nat → Int64} {me co : Nat → Nat → Int32} {f : Nat → Int32} {n : Nat} (h : PSr D T H A k rb bl sc W me co) (hn : n < 6) (hN : va_at D vwCl (slA A n 2, eI T 9 f) H1) (hF : Fr (fun q => q = slA A n 2) H H1) : PSr D T H1 A k rb bl sc W (va_up me n f) co :=
  h.of hF (fun q e => ⟨6 + 16 * n + 2, by omega, by omega, e⟩) (h.2.2.2.setS h.1 hn hF (fun q e => ⟨2, by omega, e⟩) (by
    rw [show va_up me n f n = f from if_pos rfl]
    exact (h.2.2.2.2.2 n hn).setM (slA_in h.1 hn) hN hF) (fun _ _ _ => rfl) (fun m _ z => if_neg z) (fun _ _ _ => rfl))
theorem PSr.setC {D : va_G} {T : Nat → ClassId} {H H1 : Heap} {A : Nat → Nat} {k : Nat} {rb : Nat → Nat} {bl : Nat} {sc : Nat → Int64} {W : Nat → Nat → Nat → Int64} {me co : Nat → Nat → Int32} {f : Nat → Int32} {n : Nat} (h : PSr D T H A k rb bl sc W me co) (hn : n < 6) (hN : va_at D vwCl (slA A n 3, eI T 9 f) H1) (hF : Fr (fun q => q = slA A n 3) H H1) : PSr D T H1 A k rb bl sc W me (va_up co n f) :=
  h.of hF (fun q e => ⟨6 + 16 * n + 3, by omega, by omega, e⟩) (h.2.2.2.setS h.1 hn hF (fun q e => ⟨3, by omega, e⟩) (by
    rw [show va_up co n f n = f from if_pos rfl]
    exact (h.2.2.2.2.2 n hn).setC (slA_in h.1 hn) hN hF) (fun _ _ _ => rfl) (fun _ _ _ => rfl) (fun m _ z => if_neg z))
theorem PSr.setN {D : va_G} {T : Nat → ClassId} {H H1 : Heap} {A : Nat → Nat} {k : Nat} {rb : Nat → Nat} {bl : Nat} {sc f : Nat → Int64} {W : Nat → Nat → Nat → Int64} {me co : Nat → Nat → Int32} (h : PSr D T H A k rb bl sc W me co) (hN : Num D T H1 (A 4) (A 5) f) (hF : Fr (fun q => q = A 5) H H1) : PSr D T H1 A k rb bl f W me co :=
  h.of hF (fun q e => ⟨5, by omega, by omega, e⟩) (h.2.2.2.setN h.1 hN hF)
theorem PSr.setB {B : Nat → Prop} {D : va_G} {T : Nat → ClassId} {H H1 : Heap} {A : Nat → Nat} {k : Nat} {rb rb' : Nat → Nat} {bl bl' : Nat} {sc : Nat → Int64} {W : Nat → Nat → Nat → Int64} {me co : Nat → Nat → Int32} (h : PSr D T H A k rb bl sc W me co) (hN : Buf D T H1 (A 2) (A 3) rb' bl') (hF : Fr B H H1) (hB : ∀ q, B q → q = A 2 ∨ q = A 3) : PSr D T H1 A k rb' bl' sc W me co :=
  h.of hF (fun q e => (hB q e).elim (fun z => ⟨2, by omega, by omega, z⟩) (fun z => ⟨3, by omega, by omega, z⟩)) (h.2.2.2.setB h.1 hN hF hB)
theorem cvF_cong {a a' b b' : Nat → Bool} (ha : ∀ x, x < 4096 → a x = a' x) (hb : ∀ x, x < 4096 → b x = b' x) {m m' : Nat → Int32} (hm : ∀ j, j < 9 → m j = m' j) : ∀ n, n ≤ 16 → ∀ j, j < 9 → cvF a b n m j = cvF a' b' n m' j
  | 0, _, j, hj => hm j hj
  | n + 1, hn, j, hj => by
    have ih := cvF_cong ha hb hm n (by omega)
    have e1 : pn a n = pn a' n := pn_cong (fun x h1 h2 => ha x (by omega))
    have e2 : pn b n = pn b' n := pn_cong (fun x h1 h2 => hb x (by omega))
    have e3 : kk a n = kk a' n := by unfold kk; rw [e1, pr_cong (fun x h1 h2 => ha x (by omega))]
    have e4 : kk b n = kk b' n := by unfold kk; rw [e2, pr_cong (fun x h1 h2 => hb x (by omega))]
    have l1 := kk_lt a' n
    have l2 := kk_lt b' n
    simp only [cvF]
    rw [e1, e2, e3, e4]
    split
    · unfold upd
      split
      · rw [ih _ (by omega)]
      · exact ih j hj
    · exact ih j hj
theorem mtF_cong {a a' b b' : Nat → Bool} (ha : ∀ x, x < 4096 → a x = a' x) (hb : ∀ x, x < 4096 → b x = b' x) {m m' : Nat → Int32} (hm : ∀ j, j < 9 → m j = m' j) : ∀ n, n ≤ 16 → ∀ j, j < 9 → mtF a b n m j = mtF a' b' n m' j
  | 0, _, j, hj => hm j hj
  | n + 1, hn, j, hj => by
    have ih := mtF_cong ha hb hm n (by omega)
    have e1 : pn a n = pn a' n := pn_cong (fun x h1 h2 => ha x (by omega))
    have e2 : pn b n = pn b' n := pn_cong (fun x h1 h2 => hb x (by omega))
    have e3 : kk a n = kk a' n := by unfold kk; rw [e1, pr_cong (fun x h1 h2 => ha x (by omega))]
    have e4 : kk b n = kk b' n := by unfold kk; rw [e2, pr_cong (fun x h1 h2 => hb x (by omega))]
    have l1 := kk_lt a' n
    have l2 := kk_lt b' n
    simp only [mtF]
    rw [e1, e2, e3, e4]
    split
    · unfold upd
      split
      · rw [ih _ (by omega)]
      · exact ih j hj
    · exact ih j hj
