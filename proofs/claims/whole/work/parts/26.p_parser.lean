/-- from i on, as long as p holds, up to le -/
def skp (p : Nat → Bool) (le : Nat) : Nat → Nat → Nat
  | 0, i => i
  | f + 1, i => if p i = true then skp p le f (i + 1) else i
def skq (p : Nat → Bool) (le i : Nat) : Nat := skp p le (le - i) i
theorem skq_t {p : Nat → Bool} {le i : Nat} (h : i < le) (hp : p i = true) : skq p le i = skq p le (i + 1) := by
  unfold skq
  rw [show le - i = (le - (i + 1)) + 1 by omega, skp, if_pos hp]
theorem skq_e {p : Nat → Bool} {le i : Nat} (h : le ≤ i) : skq p le i = i := by
  unfold skq
  rw [show le - i = 0 by omega, skp]
theorem skq_f {p : Nat → Bool} {le i : Nat} (hp : ¬ p i = true) : skq p le i = i := by
  unfold skq
  cases le - i with
  | zero => rfl
  | succ f => rw [skp, if_neg hp]
theorem skp_rng {p : Nat → Bool} {le : Nat} (f : Nat) : ∀ i, i ≤ skp p le f i ∧ skp p le f i ≤ i + f := by
  induction f with
  | zero => intro i; exact ⟨Nat.le_refl _, Nat.le_refl _⟩
  | succ f ih =>
    intro i
    have := ih (i + 1)
    rw [skp]
    split <;> omega
theorem skq_rng (p : Nat → Bool) (le i : Nat) : i ≤ skq p le i ∧ (skq p le i ≤ le ∨ skq p le i = i) := by
  have h := skp_rng (p := p) (le := le) (le - i) i
  unfold skq
  omega
def isSp (sg : Nat → Nat) : Nat → Bool := fun i => decide (sg i = 32)
def noSp (sg : Nat → Nat) : Nat → Bool := fun i => decide (sg i ≠ 32)
/-- the next word behind we: its start, its end -/
def wS (sg : Nat → Nat) (le we : Nat) : Nat := skq (isSp sg) le we
def wE (sg : Nat → Nat) (le we : Nat) : Nat := skq (noSp sg) le (wS sg le we)
theorem wS_rng (sg : Nat → Nat) (le we : Nat) : we ≤ wS sg le we ∧ (wS sg le we ≤ le ∨ wS sg le we = we) := skq_rng _ _ _
theorem wE_rng (sg : Nat → Nat) (le we : Nat) : wS sg le we ≤ wE sg le we ∧ (wE sg le we ≤ le ∨ wE sg le we = wS sg le we) := skq_rng _ _ _
/-- digits: the value of the first j signs from a on, -1 if one is no digit -/
def dgs (sg : Nat → Nat) (a : Nat) : Nat → Int
  | 0 => 0
  | j + 1 => if dgs sg a j < 0 then -1 else if 48 ≤ sg (a + j) ∧ sg (a + j) ≤ 57 then dgs sg a j * 10 + ((sg (a + j) : Int) - 48) else -1
theorem dgs_neg {sg : Nat → Nat} {a j : Nat} (h : dgs sg a j = -1) (d : Nat) : dgs sg a (j + d) = -1 := by
  induction d with
  | zero => exact h
  | succ d ih => rw [← Nat.add_assoc, dgs, if_pos (by rw [ih]; decide)]
theorem dgs_bad {sg : Nat → Nat} {a j m : Nat} (hm : j < m) (h : ¬ (48 ≤ sg (a + j) ∧ sg (a + j) ≤ 57)) : dgs sg a m = -1 := by
  have e : dgs sg a (j + 1) = -1 := by
    rw [dgs]
    split
    · rfl
    · first | rfl | rw [if_neg h]
  have := dgs_neg e (m - (j + 1))
  rw [show j + 1 + (m - (j + 1)) = m by omega] at this
  exact this
theorem dgs_ok {sg : Nat → Nat} {a j v : Nat} (h : dgs sg a j = (v : Int)) (h2 : 48 ≤ sg (a + j) ∧ sg (a + j) ≤ 57) : dgs sg a (j + 1) = ((v * 10 + (sg (a + j) - 48) : Nat) : Int) := by
  rw [dgs, if_neg (by omega), if_pos h2, h]
  omega
/-- the next number behind we: -1 if there is none -/
def nmV (sg : Nat → Nat) (le we : Nat) : Int := if wS sg le we < wE sg le we ∧ wE sg le we - wS sg le we ≤ 6 then dgs sg (wS sg le we) (wE sg le we - wS sg le we) else -1
theorem dgs_rng {sg : Nat → Nat} {a : Nat} (j : Nat) : -1 ≤ dgs sg a j ∧ dgs sg a j < ((10 ^ j : Nat) : Int) := by
  induction j with
  | zero => rw [dgs]; exact ⟨by decide, by decide⟩
  | succ j ih =>
    have hp : (1 : Nat) ≤ 10 ^ (j + 1) := Nat.pow_pos (by decide)
    have hq : 10 ^ (j + 1) = 10 ^ j * 10 := Nat.pow_succ ..
    rw [dgs]
    split
    · exact ⟨by decide, by omega⟩
    · split
      · rw [hq]; omega
      · exact ⟨by decide, by omega⟩
theorem nmV_rng (sg : Nat → Nat) (le we : Nat) : -1 ≤ nmV sg le we ∧ nmV sg le we < 1000000 := by
  unfold nmV
  split
  · rename_i h
    have h1 := dgs_rng (sg := sg) (a := wS sg le we) (wE sg le we - wS sg le we)
    have h2 : 10 ^ (wE sg le we - wS sg le we) ≤ 10 ^ 6 := Nat.pow_le_pow_right (by decide) h.2
    have h3 : (10 : Nat) ^ 6 = 1000000 := by decide
    omega
  · exact ⟨by decide, by decide⟩
theorem wE_b {sg : Nat → Nat} {le we : Nat} (hl : le ≤ 2000) (h : we ≤ 2000) : wE sg le we ≤ 2000 := by
  have h1 := wS_rng sg le we
  have h2 := wE_rng sg le we
  omega
def wrdX (t : TxS) (i : Nat) : Nat → TxS
  | 0 => t
  | j + 1 => addX (wrdX t i j) (sch i j)
theorem wrdX_ok {t : TxS} {i : Nat} (h : TxtOK t.1 t.2.1) (j : Nat) : TxtOK (wrdX t i j).1 (wrdX t i j).2.1 := by
  induction j with
  | zero => exact h
  | succ j ih => exact addX_ok ih (sch_le i j)
def wEq (sg : Nat → Nat) (ws i : Nat) : Nat → Bool
  | 0 => true
  | j + 1 => wEq sg ws i j && decide (sg (ws + j) = sch i j)
def wIs (sg : Nat → Nat) (ws we i : Nat) : Bool := decide (we - ws = sln i) && wEq sg ws i (sln i)
theorem wEq_t {sg : Nat → Nat} {ws i j : Nat} (h : wEq sg ws i j = true) (h2 : sg (ws + j) = sch i j) : wEq sg ws i (j + 1) = true := by rw [wEq, h, decide_eq_true h2]; rfl
theorem wEq_bad {sg : Nat → Nat} {ws i j : Nat} (h : sg (ws + j) ≠ sch i j) (d : Nat) : wEq sg ws i (j + 1 + d) = false := by
  induction d with
  | zero => rw [Nat.add_zero, wEq, decide_eq_false h, Bool.and_false]
  | succ d ih => rw [← Nat.add_assoc, wEq, ih, Bool.false_and]
theorem wIs_len {sg : Nat → Nat} {ws we i : Nat} (h : we - ws ≠ sln i) : ¬ wIs sg ws we i = true := by
  unfold wIs
  rw [decide_eq_false h, Bool.false_and]
  decide
theorem wIs_bad {sg : Nat → Nat} {ws we i j : Nat} (hj : j < sln i) (h : sg (ws + j) ≠ sch i j) : ¬ wIs sg ws we i = true := by
  have e := wEq_bad h (sln i - (j + 1))
  rw [show j + 1 + (sln i - (j + 1)) = sln i by omega] at e
  unfold wIs
  rw [e, Bool.and_false]
  decide
theorem wIs_ok {sg : Nat → Nat} {ws we i : Nat} (h : we - ws = sln i) (h2 : wEq sg ws i (sln i) = true) : wIs sg ws we i = true := by
  unfold wIs
  rw [decide_eq_true h, h2]
  rfl
abbrev TbS : Type := (Nat → Nat) × (Nat → Nat) × (Nat → Nat) × (Nat → Nat) × (Nat → Nat) × (Nat → Nat) × Nat
def apS (t : TbS) (s9 p9 r9 g9 : Nat) : TbS := (updN t.1 (t.2.2.2.2.2.2 + 1) s9, updN t.2.1 (t.2.2.2.2.2.2 + 1) p9, updN t.2.2.1 (t.2.2.2.2.2.2 + 1) r9, updN t.2.2.2.1 (t.2.2.2.2.2.2 + 1) g9, updN t.2.2.2.2.1 (t.2.2.2.2.2.2 + 1) 0, clrT t.2.2.2.2.2.1 (t.2.2.2.2.2.2 + 1) 20, t.2.2.2.2.2.2 + 1)
/-- a frame's four numbers behind we, and room for it -/
def okF (sg : Nat → Nat) (le we n : Nat) : Prop := 1 ≤ nmV sg le we ∧ nmV sg le we ≤ 20 ∧ 1 ≤ nmV sg le (wE sg le we) ∧ nmV sg le (wE sg le we) ≤ 60 ∧ 0 ≤ nmV sg le (wE sg le (wE sg le we)) ∧ nmV sg le (wE sg le (wE sg le we)) ≤ 99 ∧ 0 ≤ nmV sg le (wE sg le (wE sg le (wE sg le we))) ∧ nmV sg le (wE sg le (wE sg le (wE sg le we))) ≤ nmV sg le (wE sg le we) ∧ n < 40
/-- readers of the frame n, whose sender is s0, from we on -/
def rdK (K T : Int) (s0 : Nat) : Prop := 1 ≤ K ∧ K ≤ 20 ∧ K ≠ (s0 : Int) ∧ 1 ≤ T ∧ T ≤ 10000
noncomputable def rdR (sg : Nat → Nat) (le s0 n : Nat) : Nat → Nat → Nat → (Nat → Nat) → Bool × Nat × Nat × (Nat → Nat)
  | 0, w1, w2, tt => (false, w1, w2, tt)
  | f + 1, _, w2, tt => if wS sg le w2 < wE sg le w2 then (@ite _ (wIs sg (wS sg le w2) (wE sg le w2) 1 = true ∧ rdK (nmV sg le (wE sg le w2)) (nmV sg le (wE sg le (wE sg le w2))) s0) (Classical.propDecidable _) (rdR sg le s0 n f (wS sg le (wE sg le (wE sg le w2))) (wE sg le (wE sg le (wE sg le w2))) (updN tt (n * 21 + (nmV sg le (wE sg le w2)).toNat) (nmV sg le (wE sg le (wE sg le w2))).toNat)) (false, wS sg le (wE sg le (wE sg le w2)), wE sg le (wE sg le (wE sg le w2)), tt)) else (true, wS sg le w2, wE sg le w2, tt)
theorem rdR_e {sg : Nat → Nat} {le s0 n f w1 w2 : Nat} {tt : Nat → Nat} (h : ¬ wS sg le w2 < wE sg le w2) : rdR sg le s0 n (f + 1) w1 w2 tt = (true, wS sg le w2, wE sg le w2, tt) := by rw [rdR, if_neg h]
theorem rdR_f {sg : Nat → Nat} {le s0 n f w1 w2 : Nat} {tt : Nat → Nat} (h : wS sg le w2 < wE sg le w2) (h2 : ¬ (wIs sg (wS sg le w2) (wE sg le w2) 1 = true ∧ rdK (nmV sg le (wE sg le w2)) (nmV sg le (wE sg le (wE sg le w2))) s0)) : rdR sg le s0 n (f + 1) w1 w2 tt = (false, wS sg le (wE sg le (wE sg le w2)), wE sg le (wE sg le (wE sg le w2)), tt) := by rw [rdR, if_pos h, if_neg h2]
theorem rdR_t {sg : Nat → Nat} {le s0 n f w1 w2 k9 t9 : Nat} {tt : Nat → Nat} (h : wS sg le w2 < wE sg le w2) (h1 : wIs sg (wS sg le w2) (wE sg le w2) 1 = true) (h2 : rdK (nmV sg le (wE sg le w2)) (nmV sg le (wE sg le (wE sg le w2))) s0) (hk : nmV sg le (wE sg le w2) = (k9 : Int)) (ht : nmV sg le (wE sg le (wE sg le w2)) = (t9 : Int)) : rdR sg le s0 n (f + 1) w1 w2 tt = rdR sg le s0 n f (wS sg le (wE sg le (wE sg le w2))) (wE sg le (wE sg le (wE sg le w2))) (updN tt (n * 21 + k9) t9) := by
  rw [rdR, if_pos h, if_pos ⟨h1, h2⟩, hk, ht]
  rfl
