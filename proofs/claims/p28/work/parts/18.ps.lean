/-! an object of PieceSets: its cells are A 0 to A 101: itself, its past, its buffer and row, its scratch and words; then six States of sixteen cells, the present one first -/
def slA (A : Nat → Nat) (n : Nat) : Nat → Nat := fun i => A (6 + 16 * n + i)
/-- all but the object itself and the row of its past -/
def PSx (D : va_G) (T : Nat → ClassId) (H : Heap) (A : Nat → Nat) (rb : Nat → Nat) (bl : Nat) (sc : Nat → Int64) (W : Nat → Nat → Nat → Int64) (me co : Nat → Nat → Int32) : Prop :=
  Buf D T H (A 2) (A 3) rb bl ∧ Num D T H (A 4) (A 5) sc ∧ ∀ n, n < 6 → Sta D T H (slA A n) (W n) (me n) (co n)
def PSr (D : va_G) (T : Nat → ClassId) (H : Heap) (A : Nat → Nat) (k : Nat) (rb : Nat → Nat) (bl : Nat) (sc : Nat → Int64) (W : Nat → Nat → Nat → Int64) (me co : Nat → Nat → Int32) : Prop :=
  inj A 102 ∧ va_at D vwCl (A 0, .inr (3, [.ref (slA A 0 0), .ref (A 1), .int (nI k), .ref (A 2), .ref (A 4)])) H ∧ va_at D vwCl (A 1, eR T 3 5 (fun i => some (slA A (1 + i) 0))) H ∧ PSx D T H A rb bl sc W me co
theorem slA_inj {A : Nat → Nat} (h : inj A 102) {n m i j : Nat} (hn : n < 6) (hm : m < 6) (hi : i < 16) (hj : j < 16) (e : slA A n i = slA A m j) : n = m ∧ i = j := by
  have := h (6 + 16 * n + i) (6 + 16 * m + j) (by omega) (by omega) e
  omega
theorem slA_in {A : Nat → Nat} (h : inj A 102) {n : Nat} (hn : n < 6) : inj (slA A n) 16 := fun i j hi hj e => (slA_inj h hn hn hi hj e).2
theorem slA_lo {A : Nat → Nat} (h : inj A 102) {n i j : Nat} (hn : n < 6) (hi : i < 16) (hj : j < 6) : A j ≠ slA A n i := fun e => by
  have := h j (6 + 16 * n + i) (by omega) (by omega) e
  omega
theorem PSx.fr {B : Nat → Prop} {D : va_G} {T : Nat → ClassId} {H H1 : Heap} {A : Nat → Nat} {rb : Nat → Nat} {bl : Nat} {sc : Nat → Int64} {W : Nat → Nat → Nat → Int64} {me co : Nat → Nat → Int32} (h : PSx D T H A rb bl sc W me co) (hF : Fr B H H1) (hn : ∀ i, 2 ≤ i → i < 102 → ¬ B (A i)) : PSx D T H1 A rb bl sc W me co :=
  ⟨h.1.fr hF (hn 2 (by decide) (by decide)) (hn 3 (by decide) (by decide)), hF.num h.2.1 (hn 4 (by decide) (by decide)) (hn 5 (by decide) (by decide)), fun n hl => (h.2.2 n hl).fr hF (fun i hi => hn _ (by omega) (by omega))⟩
/-- a State is changed -/
theorem PSx.setS {B : Nat → Prop} {D : va_G} {T : Nat → ClassId} {H H1 : Heap} {A : Nat → Nat} {rb : Nat → Nat} {bl : Nat} {sc : Nat → Int64} {W W' : Nat → Nat → Nat → Int64} {me co me' co' : Nat → Nat → Int32} (h : PSx D T H A rb bl sc W me co) (hi : inj A 102) {n : Nat} (hn : n < 6) (hF : Fr B H H1) (hB : ∀ q, B q → ∃ i, i < 16 ∧ q = slA A n i) (hS : Sta D T H1 (slA A n) (W' n) (me' n) (co' n)) (e1 : ∀ m, m < 6 → m ≠ n → W' m = W m) (e2 : ∀ m, m < 6 → m ≠ n → me' m = me m) (e3 : ∀ m, m < 6 → m ≠ n → co' m = co m) : PSx D T H1 A rb bl sc W' me' co' := by
  have lo : ∀ j, j < 6 → ¬ B (A j) := fun j hj z => by
    obtain ⟨i, h1, h2⟩ := hB _ z
    exact slA_lo hi hn h1 hj h2
  refine ⟨h.1.fr hF (lo 2 (by decide)) (lo 3 (by decide)), hF.num h.2.1 (lo 4 (by decide)) (lo 5 (by decide)), fun m hm => ?_⟩
  by_cases hmn : m = n
  · subst hmn; exact hS
  · rw [e1 m hm hmn, e2 m hm hmn, e3 m hm hmn]
    exact (h.2.2 m hm).fr hF (fun i h16 z => by
      obtain ⟨j, h1, h2⟩ := hB _ z
      exact hmn (slA_inj hi hm hn h16 h1 h2).1)
theorem PSx.setN {D : va_G} {T : Nat → ClassId} {H H1 : Heap} {A : Nat → Nat} {rb : Nat → Nat} {bl : Nat} {sc f : Nat → Int64} {W : Nat → Nat → Nat → Int64} {me co : Nat → Nat → Int32} (h : PSx D T H A rb bl sc W me co) (hi : inj A 102) (hN : Num D T H1 (A 4) (A 5) f) (hF : Fr (fun q => q = A 5) H H1) : PSx D T H1 A rb bl f W me co :=
  ⟨h.1.fr hF (hi.ne _ _ (by decide) (by decide) (by decide)) (hi.ne _ _ (by decide) (by decide) (by decide)), hN, fun m hm => (h.2.2 m hm).fr hF (fun i h16 => (slA_lo hi hm h16 (by decide)).symm)⟩
theorem PSx.setB {B : Nat → Prop} {D : va_G} {T : Nat → ClassId} {H H1 : Heap} {A : Nat → Nat} {rb rb' : Nat → Nat} {bl bl' : Nat} {sc : Nat → Int64} {W : Nat → Nat → Nat → Int64} {me co : Nat → Nat → Int32} (h : PSx D T H A rb bl sc W me co) (hi : inj A 102) (hN : Buf D T H1 (A 2) (A 3) rb' bl') (hF : Fr B H H1) (hB : ∀ q, B q → q = A 2 ∨ q = A 3) : PSx D T H1 A rb' bl' sc W me co :=
  ⟨hN, hF.num h.2.1 (fun z => (hB _ z).elim (hi.ne _ _ (by decide) (by decide) (by decide)) (hi.ne _ _ (by decide) (by decide) (by decide))) (fun z => (hB _ z).elim (hi.ne _ _ (by decide) (by decide) (by decide)) (hi.ne _ _ (by decide) (by decide) (by decide))), fun m hm => (h.2.2 m hm).fr hF (fun i h16 z => (hB _ z).elim (slA_lo hi hm h16 (by decide)).symm (slA_lo hi hm h16 (by decide)).symm)⟩
/-- PSr where only cells behind the first two change -/
theorem PSr.of {B : Nat → Prop} {D : va_G} {T : Nat → ClassId} {H H1 : Heap} {A : Nat → Nat} {k : Nat} {rb rb' : Nat → Nat} {bl bl' : Nat} {sc sc' : Nat → Int64} {W W' : Nat → Nat → Nat → Int64} {me co me' co' : Nat → Nat → Int32} (h : PSr D T H A k rb bl sc W me co) (hF : Fr B H H1) (hB : ∀ q, B q → ∃ i, 2 ≤ i ∧ i < 102 ∧ q = A i) (hX : PSx D T H1 A rb' bl' sc' W' me' co') : PSr D T H1 A k rb' bl' sc' W' me' co' :=
  ⟨h.1, hF.at h.2.1 (fun z => by obtain ⟨i, h1, h2, h3⟩ := hB _ z; exact h.1.ne 0 i (by decide) h2 (by omega) h3), hF.at h.2.2.1 (fun z => by obtain ⟨i, h1, h2, h3⟩ := hB _ z; exact h.1.ne 1 i (by decide) h2 (by omega) h3), hX⟩
def kpt (k : Nat) : Nat := if k < 5 then k + 1 else 5
def rotI (k n : Nat) : Nat := if k < 5 then n else if n = 0 then 0 else if n < 5 then n + 1 else 1
def rotA (A : Nat → Nat) (k : Nat) : Nat → Nat := fun j => if j < 22 then A j else A (6 + 16 * rotI k ((j - 6) / 16) + (j - 6) % 16)
def rotW {α : Type} (W : Nat → α) (k : Nat) : Nat → α := fun n => if n = kpt k then W 0 else W (rotI k n)
theorem rotI_lt {k n : Nat} (hn : n < 6) : rotI k n < 6 := by
  unfold rotI
  split
  · exact hn
  · split
    · omega
    · split <;> omega
theorem rotI_inj {k n m : Nat} (hn : n < 6) (hm : m < 6) (e : rotI k n = rotI k m) : n = m := by
  unfold rotI at e
  by_cases hk : k < 5
  · rw [if_pos hk, if_pos hk] at e; exact e
  · rw [if_neg hk, if_neg hk] at e
    by_cases h1 : n = 0
    · by_cases h2 : m = 0
      · omega
      · rw [if_pos h1, if_neg h2] at e
        split at e <;> omega
    · by_cases h2 : m = 0
      · rw [if_neg h1, if_pos h2] at e
        split at e <;> omega
      · rw [if_neg h1, if_neg h2] at e
        split at e <;> split at e <;> omega
theorem slA_rot (A : Nat → Nat) (k : Nat) {n i : Nat} (hi : i < 16) : slA (rotA A k) n i = slA A (rotI k n) i := by
  unfold slA rotA
  by_cases h0 : n = 0
  · subst h0
    have e : rotI k 0 = 0 := by unfold rotI; split <;> rfl
    rw [if_pos (by omega), e]
  · rw [if_neg (by omega), show (6 + 16 * n + i - 6) / 16 = n by omega, show (6 + 16 * n + i - 6) % 16 = i by omega]
theorem rotA_lo (A : Nat → Nat) (k : Nat) {j : Nat} (hj : j < 22) : rotA A k j = A j := if_pos hj
theorem rotA_in {A : Nat → Nat} (k : Nat) {j : Nat} (hj : j < 102) : ∃ i, i < 102 ∧ rotA A k j = A i := by
  by_cases h : j < 22
  · exact ⟨j, hj, if_pos h⟩
  · exact ⟨6 + 16 * rotI k ((j - 6) / 16) + (j - 6) % 16, by have := rotI_lt (k := k) (n := (j - 6) / 16) (by omega); omega, if_neg h⟩
theorem rotA_inj {A : Nat → Nat} (h : inj A 102) (k : Nat) : inj (rotA A k) 102 := by
  intro i j hi hj e
  unfold rotA at e
  have r1 := rotI_lt (k := k) (n := (i - 6) / 16) (by omega)
  have r2 := rotI_lt (k := k) (n := (j - 6) / 16) (by omega)
  by_cases h1 : i < 22
  · by_cases h2 : j < 22
    · rw [if_pos h1, if_pos h2] at e; exact h i j hi hj e
    · rw [if_pos h1, if_neg h2] at e
      have e2 := h _ _ hi (by omega) e
      have r3 : 1 ≤ rotI k ((j - 6) / 16) := by
        unfold rotI
        split
        · omega
        · rw [if_neg (by omega)]; split <;> omega
      omega
  · by_cases h2 : j < 22
    · rw [if_neg h1, if_pos h2] at e
      have e2 := h _ _ (by omega) hj e
      have r3 : 1 ≤ rotI k ((i - 6) / 16) := by
        unfold rotI
        split
        · omega
        · rw [if_neg (by omega)]; split <;> omega
      omega
    · rw [if_neg h1, if_neg h2] at e
      have e2 := h _ _ (by omega) (by omega) e
      have e3 : rotI k ((i - 6) / 16) = rotI k ((j - 6) / 16) := by omega
      have e4 := rotI_inj (by omega) (by omega) e3
      omega
theorem Sta.eqa {D : va_G} {T : Nat → ClassId} {H : Heap} {a b : Nat → Nat} {W : Nat → Nat → Int64} {me co : Nat → Int32} (h : Sta D T H a W me co) (e : ∀ i, i < 16 → b i = a i) : Sta D T H b W me co := by
  obtain ⟨h1, h2, h3, h4, h5⟩ := h
  refine ⟨?_, ?_, ?_, ?_, fun s hs => ?_⟩
  · rw [e 0 (by decide), e 1 (by decide), e 2 (by decide), e 3 (by decide)]; exact h1
  · rw [e 1 (by decide)]
    exact at_congR h2 (fun j hj => by rw [e _ (by omega)])
  · rw [e 2 (by decide)]; exact h3
  · rw [e 3 (by decide)]; exact h4
  · rw [e _ (by omega), e _ (by omega)]; exact h5 s hs
/-- what keepState leaves: the States turned round, the last kept one a copy of the present one -/
theorem PSr.kept {D : va_G} {T : Nat → ClassId} {H : Heap} {A : Nat → Nat} {k : Nat} {rb : Nat → Nat} {bl : Nat} {sc : Nat → Int64} {W V : Nat → Nat → Nat → Int64} {me co mf cf : Nat → Nat → Int32} (hk : k ≤ 5) (hi : inj A 102) (hO : va_at D vwCl (A 0, .inr (3, [.ref (slA A 0 0), .ref (A 1), .int (nI (kpt k)), .ref (A 2), .ref (A 4)])) H) (hP : va_at D vwCl (A 1, eR T 3 5 (fun i => some (slA A (rotI k (1 + i)) 0))) H) (hX : PSx D T H A rb bl sc V mf cf) (e1 : ∀ n, n < 6 → n ≠ rotI k (kpt k) → V n = W n ∧ mf n = me n ∧ cf n = co n) (e2 : V (rotI k (kpt k)) = W 0 ∧ mf (rotI k (kpt k)) = me 0 ∧ cf (rotI k (kpt k)) = co 0) : PSr D T H (rotA A k) (kpt k) rb bl sc (rotW W k) (rotW me k) (rotW co k) := by
  have hk6 : kpt k < 6 := by unfold kpt; split <;> omega
  refine ⟨rotA_inj hi k, ?_, ?_, ?_, ?_, fun n hn => ?_⟩
  · rw [rotA_lo A k (by decide), rotA_lo A k (by decide), rotA_lo A k (by decide), rotA_lo A k (by decide), slA_rot A k (by decide), show rotI k 0 = 0 by unfold rotI; split <;> rfl]
    exact hO
  · rw [rotA_lo A k (by decide)]
    exact at_congR hP (fun j hj => by rw [slA_rot A k (by decide)])
  · rw [rotA_lo A k (by decide), rotA_lo A k (by decide)]; exact hX.1
  · rw [rotA_lo A k (by decide), rotA_lo A k (by decide)]; exact hX.2.1
  · have hS := hX.2.2 (rotI k n) (rotI_lt hn)
    unfold rotW
    by_cases hnk : n = kpt k
    · subst hnk
      rw [if_pos rfl, if_pos rfl, if_pos rfl]
      rw [e2.1, e2.2.1, e2.2.2] at hS
      exact hS.eqa (fun i h16 => slA_rot A k h16)
    · rw [if_neg hnk, if_neg hnk, if_neg hnk]
      obtain ⟨g1, g2, g3⟩ := e1 (rotI k n) (rotI_lt hn) (fun z => hnk (rotI_inj hn hk6 z))
      rw [g1, g2, g3] at hS
      exact hS.eqa (fun i h16 => slA_rot A k h16)
theorem ks_step {A : Nat → Nat} {i j : Nat} (h : 1 ≤ i) (h5 : i < 5) : va_up (fun j => if j + 1 < i then some (slA A (2 + j) 0) else some (slA A (1 + j) 0)) (i - 1) (some (slA A (1 + i) 0)) j = (fun j => if j + 1 < i + 1 then some (slA A (2 + j) 0) else some (slA A (1 + j) 0)) j := by
  unfold va_up
  by_cases h1 : j = i - 1
  · rw [if_pos h1]
    show _ = if j + 1 < i + 1 then _ else _
    rw [if_pos (by omega), show 2 + j = 1 + i by omega]
  · rw [if_neg h1]
    show (if j + 1 < i then _ else _) = if j + 1 < i + 1 then _ else _
    by_cases h2 : j + 1 < i
    · rw [if_pos h2, if_pos (by omega)]
    · rw [if_neg h2, if_neg (by omega)]
theorem ks_end {A : Nat → Nat} {i k j : Nat} (h : i = 5) (hk : 5 ≤ k) (hj : j < 5) : va_up (fun j => if j + 1 < i then some (slA A (2 + j) 0) else some (slA A (1 + j) 0)) 4 (some (slA A (1 + 0) 0)) j = (fun i => some (slA A (rotI k (1 + i)) 0)) j := by
  subst h
  unfold va_up
  show _ = some (slA A (rotI k (1 + j)) 0)
  have e : rotI k (1 + j) = if 1 + j < 5 then 1 + j + 1 else 1 := by
    unfold rotI
    rw [if_neg (by omega), if_neg (by omega)]
  rw [e]
  by_cases h1 : j = 4
  · subst h1; rfl
  · rw [if_neg h1]
    show (if j + 1 < 5 then _ else _) = _
    rw [if_pos (by omega), if_pos (by omega), show 2 + j = 1 + j + 1 by omega]
/-- Euclid's steps end in time: after i of them the pair is small -/
def gdb (i u v : Nat) : Prop := i = 0 ∨ (v < u ∧ u * 2 ^ ((i - 1) / 2) ≤ 5000 ∧ v * 2 ^ (i / 2) ≤ 5000)
theorem gdb_0 (x y : Nat) : gdb 0 x y := Or.inl rfl
theorem gdb_s {i u v : Nat} (h : gdb i u v) (h0 : 0 < v) (hv : v < 5000) : gdb (i + 1) v (u % v) := by
  have hm := Nat.mod_lt u h0
  refine Or.inr ⟨hm, ?_, ?_⟩
  · rcases h with h | ⟨-, -, h⟩
    · subst h; simp; omega
    · rw [Nat.add_sub_cancel]; exact h
  · rcases h with h | ⟨h1, h2, -⟩
    · subst h
      show u % v * 2 ^ ((0 + 1) / 2) ≤ 5000
      rw [show (0 + 1) / 2 = 0 from rfl, Nat.pow_zero, Nat.mul_one]
      omega
    · by_cases hi : i = 0
      · subst hi
        show u % v * 2 ^ ((0 + 1) / 2) ≤ 5000
        rw [show (0 + 1) / 2 = 0 from rfl, Nat.pow_zero, Nat.mul_one]
        omega
      · have h3 : 2 * (u % v) ≤ u := by
          rcases Nat.lt_or_ge u (2 * v) with z | z
          · have : u % v = u - v := by
              rw [Nat.mod_eq_sub_mod (by omega), Nat.mod_eq_of_lt (by omega)]
            omega
          · omega
        rw [show (i + 1) / 2 = (i - 1) / 2 + 1 by omega, Nat.pow_succ]
        calc u % v * (2 ^ ((i - 1) / 2) * 2) = 2 * (u % v) * 2 ^ ((i - 1) / 2) := by rw [Nat.mul_comm (2 ^ _) 2, ← Nat.mul_assoc, Nat.mul_comm (u % v) 2]
          _ ≤ u * 2 ^ ((i - 1) / 2) := Nat.mul_le_mul_right _ h3
          _ ≤ 5000 := h2
theorem gdb_end {i u v : Nat} (h : gdb i u v) (hi : i = 64) : v = 0 := by
  subst hi
  rcases h with h | ⟨-, -, h⟩
  · omega
  · have : (2 : Nat) ^ (64 / 2) = 4294967296 := rfl
    rw [this] at h
    omega
theorem slA_mem {A : Nat → Nat} {n q : Nat} (hn : n < 6) (h : ∃ i, i < 16 ∧ q = slA A n i) : ∃ i, i < 102 ∧ q = A i := by
  obtain ⟨i, h1, h2⟩ := h
  exact ⟨6 + 16 * n + i, by omega, h2⟩
