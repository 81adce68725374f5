theorem sgAt_rng {sg : Nat → Nat} {ln : Nat} (h : TxtOK sg ln) (X : Int) : -1 ≤ sgAt sg ln X ∧ sgAt sg ln X ≤ 255 := by
  have := h.2 X.toNat
  unfold sgAt
  split <;> omega
/-- an octet of a typed int: 0 is none -/
def octX (t : TxS) (o : Nat) : TxS := if o ≠ 0 then addX t o else t
theorem octX_0 {t : TxS} {o : Nat} (h : o = 0) : octX t o = t := if_neg (fun q => q h)
theorem octX_1 {t : TxS} {o : Nat} (h : o ≠ 0) : octX t o = addX t o := if_pos h
theorem octX_ok {t : TxS} {o : Nat} (h : TxtOK t.1 t.2.1) (ho : o ≤ 255) : TxtOK (octX t o).1 (octX t o).2.1 := by
  unfold octX
  split
  · exact addX_ok h ho
  · exact h
def sgnX (t : TxS) (x : Nat) : TxS := octX (octX (octX (octX t (x / 2 ^ 24 % 256)) (x / 2 ^ 16 % 256)) (x / 2 ^ 8 % 256)) (x / 2 ^ 0 % 256)
/-- a number's digits, from the place k down -/
def numD (x : Nat) : Nat → TxS → TxS
  | 0, t => addX t (48 + x / 1 % 10)
  | k + 1, t => numD x k (addX t (48 + x / 10 ^ (k + 1) % 10))
def ndg (x : Nat) : Nat := if x < 10 then 0 else if x < 100 then 1 else if x < 1000 then 2 else if x < 10000 then 3 else 4
def numX (t : TxS) (x : Nat) : TxS := numD x (ndg x) (addX t 32)
theorem ndg_of {x k u : Nat} (hx : x ≤ 10000) (hk : k ≤ 4) (hu : u = 10 ^ k) (h1 : k = 0 ∨ u ≤ x) (h2 : x / 10 < u) : k = ndg x := by
  unfold ndg
  have h : k = 0 ∨ k = 1 ∨ k = 2 ∨ k = 3 ∨ k = 4 := by omega
  rcases h with h | h | h | h | h <;> subst h <;> simp only [Nat.reducePow] at hu <;> repeat (first | omega | split)
theorem pow_le4 {k u : Nat} (hk : k ≤ 4) (hu : u = 10 ^ k) : 1 ≤ u ∧ u ≤ 10000 := by
  have h : k = 0 ∨ k = 1 ∨ k = 2 ∨ k = 3 ∨ k = 4 := by omega
  rcases h with h | h | h | h | h <;> subst h <;> simp only [Nat.reducePow] at hu <;> omega
theorem numD_ok {x : Nat} (k : Nat) : ∀ t : TxS, TxtOK t.1 t.2.1 → TxtOK (numD x k t).1 (numD x k t).2.1 := by
  induction k with
  | zero => intro t h; exact addX_ok h (by omega)
  | succ k ih => intro t h; exact ih _ (addX_ok h (by omega))
theorem numX_ok {t : TxS} {x : Nat} (h : TxtOK t.1 t.2.1) : TxtOK (numX t x).1 (numX t x).2.1 := numD_ok _ _ (addX_ok h (by omega))
/-- the second loop of addNumber: what is left to write -/
def numI (x rs : Nat) (T F : TxS) : Prop := (rs = 0 ∧ T = F) ∨ ∃ k, k ≤ 4 ∧ rs = 10 ^ k ∧ numD x k T = F
theorem numI_n {x rs : Nat} {T F : TxS} (h : numI x rs T F) (h0 : 0 < rs) : numI x (rs / 10) (addX T (48 + x / rs % 10)) F := by
  rcases h with h | ⟨k, hk, hr, hF⟩
  · omega
  · cases k with
    | zero =>
      have e : rs = 1 := hr
      subst e
      exact Or.inl ⟨rfl, hF⟩
    | succ k =>
      refine Or.inr ⟨k, by omega, ?_, ?_⟩
      · rw [hr, Nat.pow_succ]
        exact Nat.mul_div_cancel _ (by decide)
      · rw [hr]
        exact hF
theorem numI_b {x rs : Nat} {T F : TxS} (h : numI x rs T F) : rs ≤ 10000 := by
  rcases h with h | ⟨k, hk, hr, -⟩
  · omega
  · exact (pow_le4 hk hr).2
theorem numI_e {x rs : Nat} {T F : TxS} (h : numI x rs T F) (h0 : rs = 0) : T = F := by
  rcases h with h | ⟨k, hk, hr, -⟩
  · exact h.2
  · have := (pow_le4 hk hr).1
    omega
theorem NUMK {y k u : Nat} (hk : k ≤ 4) (hu : u = 10 ^ k) (h : u ≤ y / 10) (hy : y ≤ 10000) : k ≤ 3 := by
  have q : k = 4 ∨ k ≤ 3 := by omega
  rcases q with q | q
  · subst q
    simp only [Nat.reducePow] at hu
    omega
  · exact q
