def SeaI (sr : Nat → Nat) (ps : Nat) (T : SeS) : Prop := SeaN sr T.1 T.2.1 T.2.2.2.2 ∧ (∀ j, T.2.2.1 j ≤ 60) ∧ -1 ≤ T.2.2.2.1 ∧ T.2.2.2.1 < (ps : Int) ∧ (∀ j : Nat, (j : Int) < T.2.2.2.1 → 1 ≤ T.1 j) ∧ (0 ≤ T.2.2.2.1 → T.1 T.2.2.2.1.toNat < sr T.2.2.2.1.toNat)
theorem lvP_open {sr nx pb : Nat → Nat} {bp : Nat} (p : Nat) (h : 0 ≤ lvP sr nx pb bp p) : nx (lvP sr nx pb bp p).toNat < sr (lvP sr nx pb bp p).toNat := by
  induction p with
  | zero => rw [lvP] at h; exact absurd h (by decide)
  | succ p ih =>
    by_cases q : sr p ≤ nx p ∨ bp ≤ pb p
    · rw [lvP_t q] at h ⊢
      exact ih h
    · rw [lvP_f q]
      show nx p < sr p
      omega
theorem sPk_le {sr nx pb : Nat → Nat} {bp k : Nat} (h : SeaN sr nx pb bp) (hk : k ≤ 40) : sPk sr nx pb k ≤ 41 := by
  have h1 := h.2.2.1 k
  have h2 := mxH_le (st := max 1 (sr k)) (off := nx k) (fun u => Nat.le_trans (BG_le sr (nx1 nx) k u) hk) 420
  unfold sPk
  omega
theorem keepR_le {nx br : Nat → Nat} {j : Nat} (h1 : ∀ i, nx i ≤ 60) (h2 : ∀ i, br i ≤ 60) : ∀ i, keepR nx br j i ≤ 60 := by
  intro i
  have := h1 i
  have := h2 i
  unfold keepR
  split <;> omega
theorem stepS_I {sr nx pb br : Nat → Nat} {ps k bp : Nat} (hps : ps ≤ 40) (hI : SeaI sr ps (nx, pb, br, (k : Int), bp)) : SeaI sr ps (stepS sr ps k nx pb br bp) := by
  obtain ⟨hN, hbr, h1, h2, h3, h4⟩ := hI
  have hN' : SeaN sr nx pb bp := hN
  have hbr' : ∀ j, br j ≤ 60 := hbr
  have h2' : (k : Int) < (ps : Int) := h2
  have h3' : ∀ j : Nat, (j : Int) < (k : Int) → 1 ≤ nx j := h3
  have h4' : nx k < sr k := h4 (Int.natCast_nonneg k)
  have hsk := hN'.1 k
  have hk : nx k < 60 := by omega
  have hx := sPk_le (k := k) hN' (by omega)
  have hp1 := sN1_pos (nx := nx) (k := k) (fun j hj => h3' j (by omega))
  have hp2 := sN2_pos (nx := nx) (k := k) (fun j hj => h3' j (by omega))
  by_cases c : sPk sr nx pb k < bp
  · by_cases d : k + 1 < ps
    · rw [stepS_d rfl c d]
      have r := lvP_rng sr (sN2 nx k) (updN pb (k + 1) (sPk sr nx pb k)) bp (k + 1 + 1)
      exact ⟨SeaN_2 hN' hk hx, hbr', r.1, by dsimp only; omega, fun j hj => hp2 j (by have hj' : (j : Int) < lvP sr (sN2 nx k) (updN pb (k + 1) (sPk sr nx pb k)) bp (k + 1 + 1) := hj; omega), lvP_open _⟩
    · rw [stepS_l rfl c d]
      have r := lvP_rng sr (sN1 nx k) pb (sPk sr nx pb k) (k + 1)
      exact ⟨SeaN_1 hN' hk hx, keepR_le (sN1_le hN'.2.1 hk) hbr', r.1, by dsimp only; omega, fun j hj => hp1 j (by have hj' : (j : Int) < lvP sr (sN1 nx k) pb (sPk sr nx pb k) (k + 1) := hj; omega), lvP_open _⟩
  · rw [stepS_n rfl (by omega)]
    have r := lvP_rng sr (sN1 nx k) pb bp (k + 1)
    exact ⟨SeaN_1 hN' hk hN'.2.2.2, hbr', r.1, by dsimp only; omega, fun j hj => hp1 j (by have hj' : (j : Int) < lvP sr (sN1 nx k) pb bp (k + 1) := hj; omega), lvP_open _⟩
def stO (sr : Nat → Nat) (ps : Nat) (T : SeS) : SeS := if 0 ≤ T.2.2.2.1 then stepS sr ps T.2.2.2.1.toNat T.1 T.2.1 T.2.2.1 T.2.2.2.2 else T
def itO (sr : Nat → Nat) (ps : Nat) (T : SeS) : Nat → SeS
  | 0 => T
  | m + 1 => stO sr ps (itO sr ps T m)
theorem itO_s {sr : Nat → Nat} {ps m k : Nat} {T0 T : SeS} (h : T = itO sr ps T0 m) (hk : T.2.2.2.1 = (k : Int)) : stepS sr ps k T.1 T.2.1 T.2.2.1 T.2.2.2.2 = itO sr ps T0 (m + 1) := by
  show _ = stO sr ps (itO sr ps T0 m)
  rw [← h, stO, if_pos (by omega), hk]
  rfl
theorem itO_end {sr : Nat → Nat} {ps m : Nat} {T0 : SeS} (h : (itO sr ps T0 m).2.2.2.1 < 0) (d : Nat) : itO sr ps T0 (m + d) = itO sr ps T0 m := by
  induction d with
  | zero => rfl
  | succ d ih =>
    show stO sr ps (itO sr ps T0 (m + d)) = _
    rw [ih, stO, if_neg (by omega)]
theorem layS_pos {pd fr sr : Nat → Nat} (m : Nat) : ∀ j, j < (layS pd fr sr m).2.2 → 1 ≤ (layS pd fr sr m).2.1 j := by
  induction m with
  | zero => intro j hj; exact absurd hj (Nat.not_lt_zero _)
  | succ m ih =>
    by_cases h : 0 < pd (m + 1) ∧ 420 % pd (m + 1) = 0
    · rw [layS_t h]
      intro j hj
      show 1 ≤ updN (layS pd fr sr m).2.1 (layS pd fr sr m).2.2 (pd (m + 1)) j
      by_cases e : j = (layS pd fr sr m).2.2
      · rw [e, updN_s]; omega
      · rw [updN_n e]
        have hj' : j < (layS pd fr sr m).2.2 + 1 := hj
        exact ih j (by omega)
    · rw [layS_f h]; exact ih
def SeaOK (fr sr nx pb br bg : Nat → Nat) : Prop := (∀ j, fr j ≤ 40) ∧ (∀ j, sr j ≤ 60) ∧ (∀ j, nx j ≤ 60) ∧ (∀ j, pb j ≤ 41) ∧ (∀ j, br j ≤ 60) ∧ ∀ u, 420 ≤ u → bg u = 0
theorem BG_z (sr o : Nat → Nat) (p : Nat) : ∀ u, 420 ≤ u → BG sr o p u = 0 := by
  induction p with
  | zero => intro u _; rfl
  | succ p ih =>
    intro u hu
    show addH (max 1 (sr p)) (o p) (BG sr o p) 420 u = 0
    unfold addH
    rw [if_neg (by omega)]
    exact ih u hu
theorem begN_le {ps B : Nat} {f : Nat → Nat} (h : ∀ j, f j ≤ B) : ∀ j, begN ps f j ≤ B := by
  unfold begN
  split
  · exact updN_le h (Nat.zero_le _)
  · exact h
def beg0 (pd fr sr nx pb br : Nat → Nat) (n : Nat) : SeS := (begN (layS pd fr sr n).2.2 nx, begN (layS pd fr sr n).2.2 pb, br, begL (layS pd fr sr n).2.2, 41)
theorem beg_I {pd fr sr nx pb br bg : Nat → Nat} {n : Nat} (h : SeaOK fr sr nx pb br bg) (hp : ∀ j, pd j ≤ 60) : SeaI (layS pd fr sr n).2.1 (layS pd fr sr n).2.2 (beg0 pd fr sr nx pb br n) := by
  obtain ⟨h1, h2, h3, h4, h5, h6⟩ := h
  refine ⟨⟨layS_sr hp h2 n, begN_le h3, begN_le h4, Nat.le_refl 41⟩, h5, ?_, ?_, ?_, ?_⟩
  · show -1 ≤ begL _
    unfold begL
    split <;> omega
  · show begL _ < _
    unfold begL
    split <;> omega
  · intro j hj
    have hj' : (j : Int) < begL (layS pd fr sr n).2.2 := hj
    unfold begL at hj'
    split at hj' <;> omega
  · intro hj
    have hj' : 0 ≤ begL (layS pd fr sr n).2.2 := hj
    show begN (layS pd fr sr n).2.2 nx (begL (layS pd fr sr n).2.2).toNat < (layS pd fr sr n).2.1 (begL (layS pd fr sr n).2.2).toNat
    by_cases q : 0 < (layS pd fr sr n).2.2
    · have q2 := layS_pos (pd := pd) (fr := fr) (sr := sr) n 0 q
      unfold begN begL
      rw [if_pos q, if_pos q]
      show updN nx 0 0 0 < (layS pd fr sr n).2.1 0
      rw [updN_s]
      omega
    · unfold begL at hj'
      rw [if_neg q] at hj'
      exact absurd hj' (by decide)
theorem begL_z (ps : Nat) : (begL ps).toNat = 0 := by
  unfold begL
  split <;> rfl
/-- the search after so many steps -/
def offT (pd fr sr nx pb br : Nat → Nat) (n N9 : Nat) : SeS := itO (layS pd fr sr n).2.1 (layS pd fr sr n).2.2 (beg0 pd fr sr nx pb br n) N9
def offO (pd fr sr nx pb br of : Nat → Nat) (n N9 : Nat) : Nat → Nat := if (offT pd fr sr nx pb br n N9).2.2.2.2 ≤ 40 then givR (layS pd fr sr n).1 (offT pd fr sr nx pb br n N9).2.2.1 of (layS pd fr sr n).2.2 else of
def lay2 (pd fr sr : Nat → Nat) (n : Nat) : (Nat → Nat) × (Nat → Nat) × Nat := layS pd (layS pd fr sr n).1 (layS pd fr sr n).2.1 n
