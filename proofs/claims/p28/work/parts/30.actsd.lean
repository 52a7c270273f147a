theorem pAll_at (rb : Nat → Nat) (bl : Nat) : ∀ (n at_ bf : Nat) (b : Nat → Bool), at_ ≤ bl → (pAll rb bl n at_ bf b).2.1 ≤ bl
  | 0, at_, bf, b, h => h
  | n + 1, at_, bf, b, h => by
    rw [pAll_s]
    by_cases h0 : at_ < bl
    · have hp := pPc_at rb bl (rb at_ / 4) (rb at_ % 4) (at_ + 1) b h0
      rw [if_pos h0]
      by_cases h1 : 16 ≤ rb at_ / 4 ∨ rb at_ % 4 = 3 ∨ rb at_ / 4 < bf
      · rw [if_pos h1]; exact h
      · rw [if_neg h1]
        by_cases h2 : (pPc rb bl (rb at_ / 4) (rb at_ % 4) (at_ + 1) b).1 = false
        · rw [if_pos h2]; exact hp
        · rw [if_neg h2]
          by_cases h3 : pkd (pPc rb bl (rb at_ / 4) (rb at_ % 4) (at_ + 1) b).2.2 (rb at_ / 4) = nI (rb at_ % 4)
          · rw [if_pos h3]; exact pAll_at rb bl n _ _ _ hp
          · rw [if_neg h3]; exact h
    · rw [if_neg h0]; exact h
theorem rea_f {p : FS} {r : Int32} {u : Nat → Int64} (h : PAllR (reaP p) r u) (hr : ¬ r < 0) : (reaP p).1 = false := by
  cases e : (reaP p).1 with
  | false => rfl
  | true => exact absurd (by rw [(h.1 e).1]; decide) hr
theorem rea_t {p : FS} {r : Int32} {u : Nat → Int64} (h : PAllR (reaP p) r u) (hb : p.2.2.2.2 ≤ 200) (hr : r < 0) : (reaP p).1 = true := by
  cases e : (reaP p).1 with
  | true => rfl
  | false =>
    have h1 := h.2 e
    have h2 : (reaP p).2.1 ≤ p.2.2.2.2 := pAll_at _ _ 17 0 0 _ (Nat.zero_le _)
    rw [h1] at hr
    exact absurd hr (nI_pos (by omega))
theorem sca_next {n i : Nat} (hi : i < n) {x : Int32} {b0 u v : Nat → Bool} (h : Eq4 (scF (n - i) x u) b0) (hv : Eq4 v (fun y => u y || decide (y = ixN (nxI x)))) : Eq4 (scF (n - (i + 1)) (nxI x) v) b0 := by
  rw [show n - i = (n - (i + 1)) + 1 by omega, scF_s] at h
  exact fun z hz => (scF_cong (n - (i + 1)) (nxI x) hv z hz).trans (h z hz)
theorem va_up_row {W : Nat → Nat → Nat → Int64} {s : Nat} {f : Nat → Int64} : va_up W 0 (va_up (W 0) s f) 0 s = f := by
  show (if 0 = 0 then va_up (W 0) s f else W 0) s = f
  rw [if_pos rfl]
  exact if_pos rfl
theorem va_up_oth {W : Nat → Nat → Nat → Int64} {s z : Nat} {f : Nat → Int64} (h : z ≠ s) : va_up W 0 (va_up (W 0) s f) 0 z = W 0 z := by
  show (if 0 = 0 then va_up (W 0) s f else W 0) z = _
  rw [if_pos rfl]
  exact if_neg h
