/-! the reference's reading: signs by place -/
def a0 (tx : Nat → Nat) (sz p : Nat) : Nat := if p < sz then tx p else 10
theorem a0_in {tx : Nat → Nat} {sz p : Nat} (h : p < sz) : a0 tx sz p = tx p := if_pos h
theorem a0_out {tx : Nat → Nat} {sz p : Nat} (h : ¬ p < sz) : a0 tx sz p = 10 := if_neg h
theorem a0_le {tx : Nat → Nat} {sz : Nat} (h : ∀ j, tx j ≤ 255) (p : Nat) : a0 tx sz p ≤ 255 := by
  have := h p
  unfold a0
  split <;> omega
theorem a0_ne {tx : Nat → Nat} {sz p : Nat} (h : a0 tx sz p ≠ 10) : p < sz ∧ a0 tx sz p = tx p := by
  by_cases q : p < sz
  · exact ⟨q, a0_in q⟩
  · exact absurd (a0_out q) h
def psS (tx : Nat → Nat) (sz p : Nat) : Nat := skq (isSp tx) sz p
theorem psS_rng (tx : Nat → Nat) (sz p : Nat) : p ≤ psS tx sz p ∧ (psS tx sz p ≤ sz ∨ psS tx sz p = p) := skq_rng _ _ _
theorem skq_stop {p : Nat → Bool} {le i : Nat} (h : ¬ (i < le ∧ p i = true)) : skq p le i = i := by
  by_cases q : i < le
  · exact skq_f (fun e => h ⟨q, e⟩)
  · exact skq_e (by omega)
def isDg (tx : Nat → Nat) : Nat → Bool := fun i => decide (48 ≤ tx i ∧ tx i ≤ 57)
def dgE (tx : Nat → Nat) (sz pl : Nat) : Nat := skq (isDg tx) (min sz (pl + 7)) pl
/-- a word of five signs: how far it fits -/
def wM (tx : Nat → Nat) (sz i pl : Nat) : Nat → Bool × Nat
  | 0 => (true, pl)
  | k + 1 => if (wM tx sz i pl k).1 = true ∧ a0 tx sz (wM tx sz i pl k).2 = sch i k then (true, (wM tx sz i pl k).2 + 1) else (false, (wM tx sz i pl k).2)
theorem wM_t {tx : Nat → Nat} {sz i pl k p : Nat} {g : Bool} (h : wM tx sz i pl k = (g, p)) (hg : g = true) (ha : a0 tx sz p = sch i k) : wM tx sz i pl (k + 1) = (true, p + 1) := by
  rw [wM, h, if_pos ⟨hg, ha⟩]
theorem wM_f {tx : Nat → Nat} {sz i pl k p : Nat} {g : Bool} (h : wM tx sz i pl k = (g, p)) (hg : ¬ (g = true ∧ a0 tx sz p = sch i k)) : wM tx sz i pl (k + 1) = (false, p) := by
  rw [wM, h, if_neg hg]
