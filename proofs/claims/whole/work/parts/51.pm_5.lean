theorem itO_I {sr : Nat → Nat} {ps : Nat} {T : SeS} (hps : ps ≤ 40) (hI : SeaI sr ps T) (m : Nat) : SeaI sr ps (itO sr ps T m) := by
  induction m with
  | zero => exact hI
  | succ m ih =>
    show SeaI sr ps (stO sr ps (itO sr ps T m))
    unfold stO
    split
    · rename_i h
      apply stepS_I hps
      rw [Int.toNat_of_nonneg h]
      exact ih
    · exact ih
theorem layS_fs {pd fr sr : Nat → Nat} (m : Nat) : ∀ j, j < (layS pd fr sr m).2.2 → (layS pd fr sr m).2.1 j = pd ((layS pd fr sr m).1 j) ∧ 1 ≤ (layS pd fr sr m).1 j ∧ (layS pd fr sr m).1 j ≤ m := by
  induction m with
  | zero => intro j hj; exact absurd hj (Nat.not_lt_zero _)
  | succ m ih =>
    by_cases h : 0 < pd (m + 1) ∧ 420 % pd (m + 1) = 0
    · rw [layS_t h]
      intro j hj
      show updN (layS pd fr sr m).2.1 (layS pd fr sr m).2.2 (pd (m + 1)) j = pd (updN (layS pd fr sr m).1 (layS pd fr sr m).2.2 (m + 1) j) ∧ 1 ≤ updN (layS pd fr sr m).1 (layS pd fr sr m).2.2 (m + 1) j ∧ updN (layS pd fr sr m).1 (layS pd fr sr m).2.2 (m + 1) j ≤ m + 1
      by_cases e : j = (layS pd fr sr m).2.2
      · subst e
        rw [updN_s, updN_s]
        exact ⟨rfl, by omega, by omega⟩
      · rw [updN_n e, updN_n e]
        have hj' : j < (layS pd fr sr m).2.2 + 1 := hj
        have := ih j (by omega)
        exact ⟨this.1, this.2.1, by omega⟩
    · rw [layS_f h]
      intro j hj
      have := ih j hj
      exact ⟨this.1, this.2.1, by omega⟩
theorem layS_c {pd pd' fr sr fr' sr' : Nat → Nat} (m : Nat) (h : ∀ j, 1 ≤ j → j ≤ m → pd j = pd' j) : (layS pd fr sr m).2.2 = (layS pd' fr' sr' m).2.2 ∧ ∀ j, j < (layS pd fr sr m).2.2 → (layS pd fr sr m).1 j = (layS pd' fr' sr' m).1 j := by
  induction m with
  | zero => exact ⟨rfl, fun j hj => absurd hj (Nat.not_lt_zero _)⟩
  | succ m ih =>
    obtain ⟨i1, i2⟩ := ih (fun j h1 h2 => h j h1 (by omega))
    have e := h (m + 1) (by omega) (by omega)
    by_cases c : 0 < pd (m + 1) ∧ 420 % pd (m + 1) = 0
    · rw [layS_t c, layS_t (show 0 < pd' (m + 1) ∧ 420 % pd' (m + 1) = 0 by rw [← e]; exact c)]
      refine ⟨by show _ + 1 = _ + 1; rw [i1], fun j hj => ?_⟩
      have hj' : j < (layS pd fr sr m).2.2 + 1 := hj
      show updN _ _ _ j = updN _ _ _ j
      by_cases e2 : j = (layS pd fr sr m).2.2
      · rw [← i1, e2, updN_s, updN_s]
      · rw [updN_n e2, updN_n (by rw [← i1]; exact e2)]
        exact i2 j (by omega)
    · rw [layS_f c, layS_f (show ¬ (0 < pd' (m + 1) ∧ 420 % pd' (m + 1) = 0) by rw [← e]; exact c)]
      exact ⟨i1, i2⟩
theorem offM_le {FIN : SeS} {wh of : Nat → Nat} {n : Nat} (h1 : ∀ j, of j ≤ 60) (h2 : ∀ j, FIN.2.2.1 j ≤ 60) : ∀ j, offM FIN wh of n j ≤ 60 := by
  unfold offM
  split
  · exact givR_le h1 h2 n
  · exact h1
