/-! a line of the text, as the class cuts it into words and as the reference reads it -/
theorem skp_at {p : Nat → Bool} {le : Nat} (f : Nat) : ∀ i, skp p le f i < i + f → ¬ p (skp p le f i) = true := by
  induction f with
  | zero => intro i h; rw [skp] at h; omega
  | succ f ih =>
    intro i h
    by_cases c : p i = true
    · rw [skp, if_pos c] at h ⊢
      exact ih (i + 1) (by omega)
    · rw [skp, if_neg c]
      exact c
theorem skq_at {p : Nat → Bool} {le i : Nat} (h : skq p le i < le) : ¬ p (skq p le i) = true := by
  have r := skq_rng p le i
  exact skp_at (p := p) (le := le) (le - i) i (by show skq p le i < i + (le - i); omega)
theorem skq_lim {p : Nat → Bool} {le en : Nat} (hen : en ≤ le) (hst : en < le → ¬ p en = true) : ∀ d i, i + d = en → skq p le i = skq p en i := by
  intro d
  induction d with
  | zero =>
    intro i h
    rw [show skq p en i = i from skq_e (by omega)]
    by_cases c : en < le
    · exact skq_f (by rw [show i = en by omega]; exact hst c)
    · exact skq_e (by omega)
  | succ d ih =>
    intro i h
    by_cases c : p i = true
    · rw [skq_t (by omega) c, skq_t (le := en) (by omega) c]
      exact ih (i + 1) (by omega)
    · rw [skq_f c, skq_f c]
def noNl (tx : Nat → Nat) : Nat → Bool := fun i => decide (tx i ≠ 10)
def lE (tx : Nat → Nat) (sz p : Nat) : Nat := skq (noNl tx) sz p
/-- a line's end -/
def LEnd (tx : Nat → Nat) (sz p en : Nat) : Prop := p ≤ en ∧ en ≤ sz ∧ (∀ j, p ≤ j → j < en → tx j ≠ 10) ∧ a0 tx sz en = 10
theorem lE_is {tx : Nat → Nat} {sz p : Nat} (h : p ≤ sz) : LEnd tx sz p (lE tx sz p) := by
  have r := skq_rng (noNl tx) sz p
  have hle : lE tx sz p ≤ sz := by
    rcases r.2 with q | q
    · exact q
    · show skq (noNl tx) sz p ≤ sz
      omega
  refine ⟨r.1, hle, fun j h1 h2 => of_decide_eq_true (skq_all (p := noNl tx) (le := sz) h1 h2), ?_⟩
  by_cases c : lE tx sz p < sz
  · rw [a0_in c]
    have := skq_at (p := noNl tx) c
    exact Classical.byContradiction fun q => this (decide_eq_true q)
  · exact a0_out c
theorem LE_sub {tx : Nat → Nat} {sz p en q : Nat} (h : LEnd tx sz p en) (h1 : p ≤ q) (h2 : q ≤ en) : LEnd tx sz q en := ⟨h2, h.2.1, fun j a b => h.2.2.1 j (by omega) b, h.2.2.2⟩
theorem LE_u {tx : Nat → Nat} {sz p en en' : Nat} (h : LEnd tx sz p en) (h' : LEnd tx sz p en') : en = en' := by
  obtain ⟨a1, a2, a3, a4⟩ := h
  obtain ⟨b1, b2, b3, b4⟩ := h'
  by_cases c : en < en'
  · rw [a0_in (by omega)] at a4
    exact absurd a4 (b3 en a1 c)
  · by_cases d : en' < en
    · rw [a0_in (by omega)] at b4
      exact absurd b4 (a3 en' b1 d)
    · omega
theorem LE_10 {tx : Nat → Nat} {sz p en : Nat} (h : LEnd tx sz p en) (hs : en < sz) : tx en = 10 := by
  have := h.2.2.2
  rw [a0_in hs] at this
  exact this
/-- spaces are passed alike -/
theorem psS_wS {tx : Nat → Nat} {sz w en : Nat} (h : LEnd tx sz w en) : psS tx sz w = wS tx en w :=
  skq_lim (p := isSp tx) h.2.1 (fun c => by unfold isSp; rw [LE_10 h c]; decide) (en - w) w (by have := h.1; omega)
/-- the word behind w -/
theorem wd_at {tx : Nat → Nat} {sz w en : Nat} (h : LEnd tx sz w en) : w ≤ wS tx en w ∧ wS tx en w ≤ wE tx en w ∧ wE tx en w ≤ en ∧ (∀ j, wS tx en w ≤ j → j < wE tx en w → tx j ≠ 32 ∧ tx j ≠ 10) ∧ (wS tx en w < wE tx en w ↔ wS tx en w < en) ∧ (a0 tx sz (wE tx en w) = 32 ∨ a0 tx sz (wE tx en w) = 10) := by
  have r1 := wS_rng tx en w
  have r2 := wE_rng tx en w
  have h1 := h.1
  have hws : wS tx en w ≤ en := by omega
  have hwe : wE tx en w ≤ en := by omega
  refine ⟨r1.1, r2.1, hwe, ?_, ?_, ?_⟩
  · intro j a b
    have := of_decide_eq_true (skq_all (p := noSp tx) (le := en) (i := wS tx en w) a b)
    exact ⟨this, h.2.2.1 j (by omega) (by omega)⟩
  · constructor
    · intro q; omega
    · intro q
      have h2 := skq_at (p := isSp tx) (le := en) (i := w) q
      have h3 : noSp tx (wS tx en w) = true := decide_eq_true (fun e => h2 (decide_eq_true e))
      have h4 : wE tx en w = skq (noSp tx) en (wS tx en w + 1) := skq_t q h3
      have h5 := (skq_rng (noSp tx) en (wS tx en w + 1)).1
      omega
  · by_cases c : wE tx en w < en
    · have h2 := skq_at (p := noSp tx) (le := en) (i := wS tx en w) c
      rw [a0_in (by have := h.2.1; omega)]
      exact Or.inl (Classical.byContradiction fun e => h2 (decide_eq_true e))
    · rw [show wE tx en w = en by omega]
      exact Or.inr h.2.2.2
/-- a sign that ends a word stands at its end alone -/
theorem btw_end {tx : Nat → Nat} {sz w en j : Nat} (h : LEnd tx sz w en) (h1 : wS tx en w ≤ j) (h2 : j ≤ wE tx en w) (hb : BtwA tx sz j) : j = wE tx en w := by
  obtain ⟨a1, a2, a3, a4, a5, a6⟩ := wd_at h
  by_cases c : j < wE tx en w
  · have q := a4 j h1 c
    have e : a0 tx sz j = tx j := a0_in (by have := h.2.1; omega)
    rcases hb with hb | hb
    · rw [e] at hb; exact absurd hb q.1
    · rw [e] at hb; exact absurd hb q.2
  · omega
theorem sln_5 {i : Nat} (hi : i < 2) : sln i = 5 := by
  have h : ∀ i, i < 2 → sln i = 5 := by decide
  exact h i hi
theorem sch_32 {i k : Nat} (hi : i < 2) (hk : k < 5) : sch i k ≠ 32 := by
  have h : ∀ i, i < 2 → ∀ k, k < 5 → sch i k ≠ 32 := by decide
  exact h i hi k hk
theorem wM_all {tx : Nat → Nat} {sz i pl : Nat} (k : Nat) (h : (wM tx sz i pl k).1 = true) : (wM tx sz i pl k).2 = pl + k ∧ ∀ j, j < k → a0 tx sz (pl + j) = sch i j := by
  induction k with
  | zero => exact ⟨rfl, fun j hj => absurd hj (Nat.not_lt_zero j)⟩
  | succ k ih =>
    by_cases c : (wM tx sz i pl k).1 = true ∧ a0 tx sz (wM tx sz i pl k).2 = sch i k
    · obtain ⟨i1, i2⟩ := ih c.1
      rw [wM, if_pos c]
      refine ⟨by show (wM tx sz i pl k).2 + 1 = _; omega, fun j hj => ?_⟩
      by_cases e : j = k
      · subst e; rw [← i1]; exact c.2
      · exact i2 j (by omega)
    · rw [wM, if_neg c] at h
      exact absurd h Bool.false_ne_true
theorem wM_mk {tx : Nat → Nat} {sz i pl : Nat} (k : Nat) (h : ∀ j, j < k → a0 tx sz (pl + j) = sch i j) : wM tx sz i pl k = (true, pl + k) := by
  induction k with
  | zero => rfl
  | succ k ih => exact wM_t (ih (fun j hj => h j (by omega))) rfl (h k (by omega))
theorem wEq_all {sg : Nat → Nat} {ws i : Nat} (k : Nat) : wEq sg ws i k = true ↔ ∀ j, j < k → sg (ws + j) = sch i j := by
  induction k with
  | zero => exact ⟨fun _ j hj => absurd hj (Nat.not_lt_zero j), fun _ => rfl⟩
  | succ k ih =>
    rw [wEq, Bool.and_eq_true, ih, decide_eq_true_eq]
    constructor
    · rintro ⟨h1, h2⟩ j hj
      by_cases e : j = k
      · subst e; exact h2
      · exact h1 j (by omega)
    · intro h
      exact ⟨fun j hj => h j (by omega), h k (by omega)⟩
theorem wIs_iff {sg : Nat → Nat} {ws we i : Nat} (hi : i < 2) : wIs sg ws we i = true ↔ we - ws = 5 ∧ ∀ j, j < 5 → sg (ws + j) = sch i j := by
  unfold wIs
  rw [Bool.and_eq_true, decide_eq_true_eq, wEq_all, sln_5 hi]
/-- a word of the text is the reference's word -/
theorem wrd_iff {tx : Nat → Nat} {sz w en i q : Nat} (hi : i < 2) (h : LEnd tx sz w en) : WrdAt tx sz i (wS tx en w) q ↔ wIs tx (wS tx en w) (wE tx en w) i = true ∧ q = wS tx en (wE tx en w) := by
  obtain ⟨a1, a2, a3, a4, a5, a6⟩ := wd_at h
  have hen := h.2.1
  have hps : psS tx sz (wE tx en w) = wS tx en (wE tx en w) := psS_wS (LE_sub h (by omega) a3)
  constructor
  · rintro ⟨h1, h2, h3⟩
    obtain ⟨b1, b2⟩ := wM_all 5 h1
    rw [b1] at h2 h3
    have hle : wS tx en w + 5 ≤ wE tx en w := by
      by_cases c : wS tx en w + 5 ≤ wE tx en w
      · exact c
      · have q1 := b2 (wE tx en w - wS tx en w) (by omega)
        rw [show wS tx en w + (wE tx en w - wS tx en w) = wE tx en w by omega] at q1
        have q2 := sch_32 hi (show wE tx en w - wS tx en w < 5 by omega)
        have q3 := sch_10 hi (show wE tx en w - wS tx en w < 5 by omega)
        rcases a6 with a6 | a6
        · exact absurd (q1.symm.trans a6) q2
        · exact absurd (q1.symm.trans a6) q3
    have e := btw_end h (by omega) hle h2
    refine ⟨(wIs_iff hi).mpr ⟨by omega, fun j hj => ?_⟩, by rw [h3, e, hps]⟩
    rw [← b2 j hj, a0_in (by omega)]
  · rintro ⟨h1, h2⟩
    obtain ⟨c1, c2⟩ := (wIs_iff hi).mp h1
    have e : wM tx sz i (wS tx en w) 5 = (true, wE tx en w) := by
      rw [wM_mk 5 (fun j hj => by rw [a0_in (by omega)]; exact c2 j hj), show wS tx en w + 5 = wE tx en w by omega]
    exact ⟨by rw [e], by rw [e]; exact a6, by rw [e, h2]; exact hps.symm⟩
theorem skq_run {p : Nat → Bool} {le : Nat} : ∀ d i, (∀ j, i ≤ j → j < i + d → p j = true) → i + d ≤ le → skq p le i = skq p le (i + d) := by
  intro d
  induction d with
  | zero => intro i _ _; rfl
  | succ d ih =>
    intro i h1 h2
    rw [skq_t (by omega) (h1 i (by omega) (by omega)), ih (i + 1) (fun j a b => h1 j (by omega) (by omega)) (by omega), show i + 1 + d = i + (d + 1) by omega]
theorem dgs_dg {sg : Nat → Nat} {a m : Nat} (h : 0 ≤ dgs sg a m) : ∀ j, j < m → 48 ≤ sg (a + j) ∧ sg (a + j) ≤ 57 := by
  intro j hj
  by_cases c : 48 ≤ sg (a + j) ∧ sg (a + j) ≤ 57
  · exact c
  · rw [dgs_bad hj c] at h
    exact absurd h (by decide)
/-- a number of the text is the reference's number -/
theorem num_iff {tx : Nat → Nat} {sz w en lw hh v q : Nat} (h : LEnd tx sz w en) : NumAt tx sz (wS tx en w) lw hh v q ↔ nmV tx en w = (v : Int) ∧ lw ≤ v ∧ v ≤ hh ∧ q = wS tx en (wE tx en w) := by
  obtain ⟨a1, a2, a3, a4, a5, a6⟩ := wd_at h
  have hen := h.2.1
  have hps : psS tx sz (wE tx en w) = wS tx en (wE tx en w) := psS_wS (LE_sub h (by omega) a3)
  constructor
  · rintro ⟨h1, h2, h3, h4, h5, h6, h7⟩
    have r : dgE tx sz (wS tx en w) ≤ min sz (wS tx en w + 7) ∨ dgE tx sz (wS tx en w) = wS tx en w := (skq_rng (isDg tx) (min sz (wS tx en w + 7)) (wS tx en w)).2
    have hle : dgE tx sz (wS tx en w) ≤ wE tx en w := by
      by_cases c : dgE tx sz (wS tx en w) ≤ wE tx en w
      · exact c
      · have q1 := of_decide_eq_true (skq_all (p := isDg tx) (le := min sz (wS tx en w + 7)) (i := wS tx en w) a2 (show wE tx en w < dgE tx sz (wS tx en w) by omega))
        rw [a0_in (by omega)] at a6
        omega
    have e := btw_end h (by omega) hle h4
    rw [e] at h1 h2 h3 h7
    refine ⟨?_, h5, h6, by rw [h7, hps]⟩
    unfold nmV
    rw [if_pos ⟨h2, by omega⟩]
    exact h1
  · rintro ⟨h1, h5, h6, h7⟩
    have c : wS tx en w < wE tx en w ∧ wE tx en w - wS tx en w ≤ 6 := by
      by_cases c : wS tx en w < wE tx en w ∧ wE tx en w - wS tx en w ≤ 6
      · exact c
      · unfold nmV at h1
        rw [if_neg c] at h1
        omega
    have h2 : dgs tx (wS tx en w) (wE tx en w - wS tx en w) = (v : Int) := by
      unfold nmV at h1
      rw [if_pos c] at h1
      exact h1
    have hd := dgs_dg (sg := tx) (a := wS tx en w) (m := wE tx en w - wS tx en w) (by omega)
    have e : dgE tx sz (wS tx en w) = wE tx en w := by
      unfold dgE
      rw [skq_run (p := isDg tx) (le := min sz (wS tx en w + 7)) (wE tx en w - wS tx en w) (wS tx en w) (fun j b1 b2 => by
        have := hd (j - wS tx en w) (by omega)
        rw [show wS tx en w + (j - wS tx en w) = j by omega] at this
        exact decide_eq_true this) (by omega), show wS tx en w + (wE tx en w - wS tx en w) = wE tx en w by omega]
      apply skq_stop
      rintro ⟨b1, b2⟩
      have b3 := of_decide_eq_true b2
      rw [a0_in (by omega)] at a6
      omega
    unfold NumAt
    rw [e]
    exact ⟨h2, c.1, by omega, a6, h5, h6, by rw [h7, hps]⟩
