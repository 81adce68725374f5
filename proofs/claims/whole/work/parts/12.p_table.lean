/-! words for the state of a table: numbers out of cells -/
def TabW (a : Nat → Nat) (cI : ClassId) (sd pd rk gp of to : Nat → Nat) (n : Nat) : va_W := [(a 0, .inr (1, [.ref (a 1), .ref (a 2), .ref (a 3), .ref (a 4), .ref (a 5), .ref (a 6), .int (nI n)])), (a 1, .inl (cI, 41, .inl (fun j => nI (sd j)))), (a 2, .inl (cI, 41, .inl (fun j => nI (pd j)))), (a 3, .inl (cI, 41, .inl (fun j => nI (rk j)))), (a 4, .inl (cI, 41, .inl (fun j => nI (gp j)))), (a 5, .inl (cI, 41, .inl (fun j => nI (of j)))), (a 6, .inl (cI, 861, .inl (fun j => nI (to j))))]
def SpnW (a : Nat → Nat) (cI : ClassId) (fi la : Nat → Nat) : va_W := [(a 0, .inr (2, [.ref (a 1), .ref (a 2)])), (a 1, .inl (cI, 4, .inl (fun j => nI (fi j)))), (a 2, .inl (cI, 4, .inl (fun j => nI (la j))))]
noncomputable def TxtW (a : Nat → Nat) (cC : ClassId) (sg : Nat → Nat) (ln : Nat) (lo : Bool) : va_W := [(a 0, .inr (3, [.ref (a 1), .int (nI ln), .int (bI (lo = true))])), (a 1, .inl (cC, 2000, .inl (fun j => nI (sg j))))]
def ParW (a : Nat → Nat) (tx ws we le : Nat) : va_W := [(a 0, .inr (4, [.ref tx, .int (nI ws), .int (nI we), .int (nI le)]))]
def SeaW (a : Nat → Nat) (cI : ClassId) (fr sr nx pb br bg : Nat → Nat) (ps : Nat) (pl : Int) (bp : Nat) : va_W := [(a 0, .inr (5, [.ref (a 1), .ref (a 2), .ref (a 3), .ref (a 4), .ref (a 5), .ref (a 6), .int (nI ps), .int (iI pl), .int (nI bp)])), (a 1, .inl (cI, 40, .inl (fun j => nI (fr j)))), (a 2, .inl (cI, 40, .inl (fun j => nI (sr j)))), (a 3, .inl (cI, 40, .inl (fun j => nI (nx j)))), (a 4, .inl (cI, 40, .inl (fun j => nI (pb j)))), (a 5, .inl (cI, 40, .inl (fun j => nI (br j)))), (a 6, .inl (cI, 420, .inl (fun j => nI (bg j))))]
def TabOK (sd pd rk gp of to : Nat → Nat) (n : Nat) : Prop := n ≤ 40 ∧ (∀ j, sd j ≤ 20) ∧ (∀ j, pd j ≤ 60) ∧ (∀ j, rk j ≤ 99) ∧ (∀ j, gp j ≤ 60) ∧ (∀ j, of j ≤ 60) ∧ ∀ j, to j ≤ 10000
/-- how many of 1 .. m -/
def cntB (p : Nat → Bool) : Nat → Nat
  | 0 => 0
  | m + 1 => cntB p m + (if p (m + 1) = true then 1 else 0)
/-- one of 1 .. m -/
def anyB (p : Nat → Bool) : Nat → Bool
  | 0 => false
  | m + 1 => anyB p m || p (m + 1)
theorem cntB_s1 {p : Nat → Bool} {m : Nat} (h : p (m + 1) = true) : cntB p (m + 1) = cntB p m + 1 := by rw [cntB, if_pos h]
theorem cntB_s0 {p : Nat → Bool} {m : Nat} (h : ¬ p (m + 1) = true) : cntB p (m + 1) = cntB p m := by rw [cntB, if_neg h]; try rfl
theorem anyB_s {p : Nat → Bool} {m : Nat} (h : anyB p m = false) (h2 : ¬ p (m + 1) = true) : anyB p (m + 1) = false := by
  rw [anyB, h, Bool.false_or]
  exact Bool.eq_false_iff.mpr h2
theorem cntB_le (p : Nat → Bool) (m : Nat) : cntB p m ≤ m := by
  induction m with
  | zero => exact Nat.le_refl _
  | succ m ih => rw [cntB]; split <;> omega
theorem anyB_hit {p : Nat → Bool} {k m : Nat} (h1 : 1 ≤ k) (h2 : k ≤ m) (h : p k = true) : anyB p m = true := by
  induction m with
  | zero => omega
  | succ m ih =>
    rw [anyB]
    by_cases e : k = m + 1
    · rw [← e, h, Bool.or_true]
    · rw [ih (by omega), Bool.true_or]
theorem anyB_mono {p : Nat → Bool} {k m : Nat} (h : k ≤ m) (hk : anyB p k = true) : anyB p m = true := by
  induction m with
  | zero => rw [show k = 0 by omega] at hk; exact hk
  | succ m ih =>
    by_cases e : k = m + 1
    · rw [← e]; exact hk
    · rw [anyB, ih (by omega), Bool.true_or]
/-- a row of readers, its first j cleared -/
def clrT (to : Nat → Nat) (f j : Nat) : Nat → Nat := fun i => if f * 21 + 1 ≤ i ∧ i ≤ f * 21 + j then 0 else to i
theorem clrT_0 (to : Nat → Nat) (f : Nat) : clrT to f 0 = to := by
  funext i
  unfold clrT
  rw [if_neg (by omega)]
theorem clrT_s (to : Nat → Nat) (f j : Nat) : updN (clrT to f j) (f * 21 + (j + 1)) 0 = clrT to f (j + 1) := by
  funext i
  unfold updN clrT
  by_cases h : i = f * 21 + (j + 1)
  · rw [if_pos h, if_pos (by omega)]
  · rw [if_neg h]
    by_cases h2 : f * 21 + 1 ≤ i ∧ i ≤ f * 21 + j
    · rw [if_pos h2, if_pos (by omega)]
    · rw [if_neg h2, if_neg (by omega)]
theorem clrT_le {to : Nat → Nat} {f j : Nat} (h : ∀ i, to i ≤ 10000) : ∀ i, clrT to f j i ≤ 10000 := by
  intro i
  unfold clrT
  split
  · omega
  · exact h i
theorem updN_le {f : Nat → Nat} {k x m : Nat} (h : ∀ j, f j ≤ m) (hx : x ≤ m) : ∀ j, updN f k x j ≤ m := by
  intro j
  unfold updN
  split
  · exact hx
  · exact h j
theorem TabOK_app {sd pd rk gp of to tt : Nat → Nat} {n s9 p9 r9 g9 : Nat} (hT : TabOK sd pd rk gp of to n) (h40 : n < 40) (hs : s9 ≤ 20) (hp : p9 ≤ 60) (hq : r9 ≤ 99) (hg : g9 ≤ 60) (ht : ∀ j, tt j ≤ 10000) : TabOK (updN sd (n + 1) s9) (updN pd (n + 1) p9) (updN rk (n + 1) r9) (updN gp (n + 1) g9) (updN of (n + 1) 0) tt (n + 1) := by
  obtain ⟨hn, hsd, hpd, hrk, hgp, hof, hto⟩ := hT
  exact ⟨by omega, updN_le hsd hs, updN_le hpd hp, updN_le hrk hq, updN_le hgp hg, updN_le hof (by omega), ht⟩
