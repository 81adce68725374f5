/-! the most begins: as the class counts them and as the reference does -/
theorem mxA_ge {b : Nat → Nat} {m u : Nat} (h : u < m) : b u ≤ mxA b m := by
  induction m with
  | zero => omega
  | succ m ih =>
    by_cases e : u = m
    · subst e
      rw [mxA]
      split <;> omega
    · have := ih (by omega)
      rw [mxA]
      split <;> omega
theorem mxA_lub {b : Nat → Nat} {m B : Nat} (h : ∀ u, u < m → b u ≤ B) : mxA b m ≤ B := by
  induction m with
  | zero => exact Nat.zero_le _
  | succ m ih =>
    have h1 := ih (fun u hu => h u (by omega))
    have h2 := h m (by omega)
    rw [mxA]
    split <;> omega
theorem mxH_ge {bg : Nat → Nat} {st off m u : Nat} (h : u < m) (h4 : u < 420) (h1 : off ≤ u) (h2 : (u - off) % st = 0) : bg u + 1 ≤ mxH bg st off m := by
  induction m with
  | zero => omega
  | succ m ih =>
    by_cases e : u = m
    · subst e
      rw [mxH, if_pos ⟨h4, h1, h2⟩]
      omega
    · have := ih (by omega)
      rw [mxH]
      split <;> omega
theorem mxH_lub {bg : Nat → Nat} {st off m B : Nat} (h : ∀ u, u < m → u < 420 → off ≤ u → (u - off) % st = 0 → bg u + 1 ≤ B) : mxH bg st off m ≤ B := by
  induction m with
  | zero => exact Nat.zero_le _
  | succ m ih =>
    have h1 := ih (fun u hu => h u (by omega))
    rw [mxH]
    split
    · rename_i q
      have h2 := h m (by omega) q.1 q.2.1 q.2.2
      omega
    · exact h1
theorem mxA_add {bg : Nat → Nat} {st off : Nat} : mxA (addH st off bg 420) 420 = max (mxA bg 420) (mxH bg st off 420) := by
  apply Nat.le_antisymm
  · apply mxA_lub
    intro u hu
    unfold addH
    split
    · rename_i q
      have := mxH_ge (bg := bg) (m := 420) hu q.1 q.2.2.1 q.2.2.2
      omega
    · have := mxA_ge (b := bg) hu
      omega
  · apply Nat.max_le.mpr
    constructor
    · apply mxA_lub
      intro u hu
      have h1 := mxA_ge (b := addH st off bg 420) hu
      have h2 : bg u ≤ addH st off bg 420 u := by
        unfold addH
        split <;> omega
      omega
    · apply mxH_lub
      intro u hu h4 h1 h2
      have h3 := mxA_ge (b := addH st off bg 420) hu
      have h5 : addH st off bg 420 u = bg u + 1 := by
        unfold addH
        rw [if_pos ⟨h4, hu, h1, h2⟩]
      omega
theorem pkS_mxA (sr o : Nat → Nat) (i : Nat) : pkS sr o i = mxA (BG sr o i) 420 := by
  induction i with
  | zero =>
    have : mxA (BG sr o 0) 420 ≤ 0 := mxA_lub (fun u _ => Nat.le_refl 0)
    show 0 = _
    omega
  | succ i ih =>
    show max (pkS sr o i) (mxH (BG sr o i) (max 1 (sr i)) (o i) 420) = mxA (addH (max 1 (sr i)) (o i) (BG sr o i) 420) 420
    rw [mxA_add, ih]
theorem sPk_mxA {sr nx pb : Nat → Nat} {k : Nat} (h : pb k = mxA (BG sr (nx1 nx) k) 420) : mxA (addH (max 1 (sr k)) (nx k) (BG sr (nx1 nx) k) 420) 420 = sPk sr nx pb k := by
  rw [mxA_add, ← h]
  rfl
/-- a step first, or last -/
theorem itO_head (sr : Nat → Nat) (ps : Nat) (T : SeS) (m : Nat) : itO sr ps T (m + 1) = itO sr ps (stO sr ps T) m := by
  induction m with
  | zero => rfl
  | succ m ih =>
    show stO sr ps (itO sr ps T (m + 1)) = stO sr ps (itO sr ps (stO sr ps T) m)
    rw [ih]
theorem itO_fix {sr : Nat → Nat} {ps : Nat} {T : SeS} (h : T.2.2.2.1 < 0) (m : Nat) : itO sr ps T m = T := by
  have := itO_end (sr := sr) (ps := ps) (m := 0) (T0 := T) h m
  rw [Nat.zero_add] at this
  exact this
def hdK (nx : Nat → Nat) (k : Int) : Nat := if k < 0 then 0 else if nx k.toNat = 0 then k.toNat else k.toNat + 1
/-- the reference's search at the head of its loop: what it stands for in the class's words -/
def SRI (sr : Nat → Nat) (n : Nat) (FIN : SeS) (L : Nat) (k : Int) (bp : Nat) (sm : Bool) (b : Nat → Nat) (r : Nat → Int) (e9 : Nat → Nat) : Prop :=
  ∃ nx pb br : Nat → Nat, (-1 ≤ k ∧ k < (n : Int)) ∧ SeaN sr nx pb bp ∧ b = BG sr (nx1 nx) (hdK nx k) ∧ (∀ i : Nat, (i : Int) ≤ k → r i = (nx i : Int) - 1) ∧ (∀ i : Nat, (i : Int) < k → 1 ≤ nx i) ∧ (∀ i : Nat, (i : Int) ≤ k → nx i ≤ sr i) ∧ (∀ i : Nat, (i : Int) ≤ k → pb i = mxA (BG sr (nx1 nx) i) 420) ∧ ((∀ i, e9 i ≤ 60) ∧ (bp ≤ 40 → ∀ i, i < n → e9 i = br i)) ∧ itO sr n (nx, pb, br, lvP sr nx pb bp (k + 1).toNat, bp) L = FIN ∧ sm = decide (bp ≤ 40) ∧ (bp ≤ 40 ∨ (0 ≤ k ∧ nx k.toNat = 0))
theorem mxA_BG {sr o : Nat → Nat} {i : Nat} : mxA (BG sr o i) 420 ≤ i := mxA_le (BG_le sr o i) 420
/-- what is known at a place -/
def SRK (sr : Nat → Nat) (n : Nat) (FIN : SeS) (L : Nat) (k : Nat) (bp : Nat) (r : Nat → Int) (e9 : Nat → Nat) (nx pb br : Nat → Nat) : Prop :=
  k < n ∧ SeaN sr nx pb bp ∧ (∀ i : Nat, i ≤ k → r i = (nx i : Int) - 1) ∧ (∀ i : Nat, i < k → 1 ≤ nx i) ∧ (∀ i : Nat, i ≤ k → nx i ≤ sr i) ∧ (∀ i : Nat, i ≤ k → pb i = mxA (BG sr (nx1 nx) i) 420) ∧ ((∀ i, e9 i ≤ 60) ∧ (bp ≤ 40 → ∀ i, i < n → e9 i = br i)) ∧ itO sr n (nx, pb, br, lvP sr nx pb bp (k + 1), bp) L = FIN ∧ (bp ≤ 40 ∨ nx k = 0)
theorem SRI_k {sr : Nat → Nat} {n : Nat} {FIN : SeS} {L : Nat} {k bp : Nat} {sm : Bool} {b : Nat → Nat} {r : Nat → Int} {e9 : Nat → Nat} (h : SRI sr n FIN L (k : Int) bp sm b r e9) : ∃ nx pb br : Nat → Nat, SRK sr n FIN L k bp r e9 nx pb br ∧ b = BG sr (nx1 nx) (if nx k = 0 then k else k + 1) ∧ sm = decide (bp ≤ 40) := by
  obtain ⟨nx, pb, br, h1, h2, h3, h4, h5, h6, h7, h8, h9, h10, h11⟩ := h
  refine ⟨nx, pb, br, ⟨by omega, h2, fun i hi => h4 i (by omega), fun i hi => h5 i (by omega), fun i hi => h6 i (by omega), fun i hi => h7 i (by omega), h8, ?_, ?_⟩, ?_, h10⟩
  · rw [show ((k : Int) + 1).toNat = k + 1 by omega] at h9
    exact h9
  · rcases h11 with h | h
    · exact Or.inl h
    · exact Or.inr h.2
  · rw [h3]
    unfold hdK
    rw [if_neg (by omega)]
    rfl
theorem SRI_of {sr : Nat → Nat} {n : Nat} {FIN : SeS} {L : Nat} {k bp : Nat} {sm : Bool} {b : Nat → Nat} {r : Nat → Int} {e9 nx pb br : Nat → Nat} (h : SRK sr n FIN L k bp r e9 nx pb br) (hb : b = BG sr (nx1 nx) (if nx k = 0 then k else k + 1)) (hs : sm = decide (bp ≤ 40)) : SRI sr n FIN L (k : Int) bp sm b r e9 := by
  obtain ⟨h1, h2, h4, h5, h6, h7, h8, h9, h11⟩ := h
  refine ⟨nx, pb, br, by omega, h2, ?_, fun i hi => h4 i (by omega), fun i hi => h5 i (by omega), fun i hi => h6 i (by omega), fun i hi => h7 i (by omega), h8, ?_, hs, ?_⟩
  · rw [hb]
    unfold hdK
    rw [if_neg (show ¬ (k : Int) < 0 by omega)]
    rfl
  · rw [show ((k : Int) + 1).toNat = k + 1 by omega]
    exact h9
  · rcases h11 with h | h
    · exact Or.inl h
    · exact Or.inr ⟨by omega, h⟩
/-- a closed place is left -/
theorem SRI_close {sr : Nat → Nat} {n : Nat} {FIN : SeS} {L : Nat} {k bp : Nat} {sm : Bool} {r : Nat → Int} {e9 nx pb br : Nat → Nat} (h : SRK sr n FIN L k bp r e9 nx pb br) (hsr : 1 ≤ sr k) (hk40 : k ≤ 40) (hs : sm = decide (bp ≤ 40)) (hc : nx k = sr k ∨ bp ≤ mxA (BG sr (nx1 nx) k) 420) : SRI sr n FIN L ((k : Int) + -1) bp sm (BG sr (nx1 nx) k) r e9 := by
  obtain ⟨h1, h2, h4, h5, h6, h7, h8, h9, h11⟩ := h
  have hpk := h7 k (Nat.le_refl k)
  have hcl : sr k ≤ nx k ∨ bp ≤ pb k := by omega
  have hbp : bp ≤ 40 := by
    rcases h11 with h | h
    · exact h
    · rcases hc with q | q
      · omega
      · have := mxA_BG (sr := sr) (o := nx1 nx) (i := k)
        omega
  refine ⟨nx, pb, br, by omega, h2, ?_, fun i hi => h4 i (by omega), fun i hi => h5 i (by omega), fun i hi => h6 i (by omega), fun i hi => h7 i (by omega), h8, ?_, hs, Or.inl hbp⟩
  · unfold hdK
    by_cases q : k = 0
    · subst q
      rfl
    · rw [if_neg (by omega), if_neg ?_, show ((k : Int) + -1).toNat + 1 = k by omega]
      have := h5 ((k : Int) + -1).toNat (by omega)
      omega
  · rw [show ((k : Int) + -1 + 1).toNat = k by omega]
    rw [lvP_t hcl] at h9
    exact h9
theorem SRK_open {sr : Nat → Nat} {n : Nat} {FIN : SeS} {L k bp : Nat} {r : Nat → Int} {e9 nx pb br : Nat → Nat} (h : SRK sr n FIN L k bp r e9 nx pb br) (ho : ¬ (nx k = sr k ∨ bp ≤ mxA (BG sr (nx1 nx) k) 420)) : lvP sr nx pb bp (k + 1) = (k : Int) := by
  obtain ⟨h1, h2, h4, h5, h6, h7, h8, h9, h11⟩ := h
  have hpk := h7 k (Nat.le_refl k)
  have := h6 k (Nat.le_refl k)
  exact lvP_f (by omega)
theorem SRK_step {sr : Nat → Nat} {n : Nat} {FIN : SeS} {L k bp : Nat} {r : Nat → Int} {e9 nx pb br : Nat → Nat} (h : SRK sr n FIN (L + 1) k bp r e9 nx pb br) (ho : ¬ (nx k = sr k ∨ bp ≤ mxA (BG sr (nx1 nx) k) 420)) : itO sr n (stepS sr n k nx pb br bp) L = FIN := by
  have e := SRK_open h ho
  have h9 := h.2.2.2.2.2.2.2.1
  rw [e, itO_head] at h9
  rw [← h9]
  unfold stO
  rw [if_pos (by show 0 ≤ (k : Int); omega)]
  rfl
theorem BG_n1 {sr nx : Nat → Nat} {k i : Nat} (hi : i ≤ k) : BG sr (nx1 (sN1 nx k)) i = BG sr (nx1 nx) i := BG_c (fun _ _ => rfl) (fun q hq => by unfold nx1; rw [sN1_n (by omega)])
theorem BG_n2 {sr nx : Nat → Nat} {k i : Nat} (hi : i ≤ k) : BG sr (nx1 (sN2 nx k)) i = BG sr (nx1 nx) i := BG_c (fun _ _ => rfl) (fun q hq => by unfold nx1; rw [sN2_n (by omega), sN1_n (by omega)])
theorem BG_k1 {sr nx : Nat → Nat} {k : Nat} : BG sr (nx1 (sN1 nx k)) (k + 1) = addH (max 1 (sr k)) (nx k) (BG sr (nx1 nx) k) 420 := by
  show addH (max 1 (sr k)) (nx1 (sN1 nx k) k) (BG sr (nx1 (sN1 nx k)) k) 420 = _
  rw [BG_n1 (Nat.le_refl k), show nx1 (sN1 nx k) k = nx k by unfold nx1; rw [sN1_s]; omega]
/-- a step that is not gone on with -/
theorem SRI_none {sr : Nat → Nat} {n : Nat} {FIN : SeS} {L k bp x : Nat} {sm : Bool} {r : Nat → Int} {e9 nx pb br : Nat → Nat} (h : SRK sr n FIN (L + 1) k bp r e9 nx pb br) (hn : n ≤ 40) (hs : sm = decide (bp ≤ 40)) (ho : ¬ (nx k = sr k ∨ bp ≤ mxA (BG sr (nx1 nx) k) 420)) (hx : x = sPk sr nx pb k) (hxb : bp ≤ x) : SRI sr n FIN L (k : Int) bp sm (addH (max 1 (sr k)) (nx k) (BG sr (nx1 nx) k) 420) (updZ r k (r k + 1)) e9 := by
  have hst := SRK_step h ho
  obtain ⟨h1, h2, h4, h5, h6, h7, h8, h9, h11⟩ := h
  rw [stepS_n hx hxb] at hst
  have h6k := h6 k (Nat.le_refl k)
  have hs60 := h2.1 k
  have hx41 := sPk_le (k := k) h2 (by omega)
  have hxk : x ≤ 40 ∨ bp ≤ 40 := by
    have q1 := h7 k (Nat.le_refl k)
    have q2 := mxA_BG (sr := sr) (o := nx1 nx) (i := k)
    have q3 := mxH_le (st := max 1 (sr k)) (off := nx k) (BG_le sr (nx1 nx) k) 420
    have q4 : x = max (pb k) (mxH (BG sr (nx1 nx) k) (max 1 (sr k)) (nx k) 420) := hx
    omega
  refine SRI_of (nx := sN1 nx k) (pb := pb) (br := br) ⟨h1, SeaN_1 h2 (by omega) h2.2.2.2, ?_, fun i hi => sN1_pos h5 i (by omega), ?_, ?_, h8, hst, Or.inl (by omega)⟩ ?_ hs
  · intro i hi
    by_cases e : i = k
    · subst e
      rw [updZ_s, sN1_s, h4 i (Nat.le_refl i)]
      omega
    · rw [updZ_n e, sN1_n e, h4 i hi]
  · intro i hi
    by_cases e : i = k
    · subst e
      rw [sN1_s]
      omega
    · rw [sN1_n e]
      exact h6 i hi
  · intro i hi
    rw [BG_n1 hi]
    exact h7 i hi
  · rw [if_neg (by rw [sN1_s]; omega), BG_k1]
/-- a whole row that is better -/
theorem SRI_last {sr : Nat → Nat} {n : Nat} {FIN : SeS} {L k bp x : Nat} {r : Nat → Int} {e9 e8 nx pb br : Nat → Nat} (h : SRK sr n FIN (L + 1) k bp r e9 nx pb br) (hn : n ≤ 40) (ho : ¬ (nx k = sr k ∨ bp ≤ mxA (BG sr (nx1 nx) k) 420)) (hx : x = sPk sr nx pb k) (hxb : x < bp) (hk : ¬ k + 1 < n) (he : (∀ i, e8 i ≤ 60) ∧ ∀ i, i < n → (e8 i : Int) = updZ r k (r k + 1) i) : SRI sr n FIN L (k : Int) x true (addH (max 1 (sr k)) (nx k) (BG sr (nx1 nx) k) 420) (updZ r k (r k + 1)) e8 := by
  have hst := SRK_step h ho
  obtain ⟨h1, h2, h4, h5, h6, h7, h8, h9, h11⟩ := h
  rw [stepS_l hx hxb hk] at hst
  have h6k := h6 k (Nat.le_refl k)
  have hs60 := h2.1 k
  have hx40 : x ≤ 40 := by have := h2.2.2.2; omega
  have hr : ∀ i : Nat, i ≤ k → updZ r k (r k + 1) i = (sN1 nx k i : Int) - 1 := by
    intro i hi
    by_cases e : i = k
    · subst e
      rw [updZ_s, sN1_s, h4 i (Nat.le_refl i)]
      omega
    · rw [updZ_n e, sN1_n e, h4 i hi]
  refine SRI_of (nx := sN1 nx k) (pb := pb) (br := keepR (sN1 nx k) br n) ⟨h1, SeaN_1 h2 (by omega) (by omega), hr, fun i hi => sN1_pos h5 i (by omega), ?_, ?_, ⟨he.1, ?_⟩, hst, Or.inl hx40⟩ ?_ (decide_eq_true hx40).symm
  · intro i hi
    by_cases e : i = k
    · subst e
      rw [sN1_s]
      omega
    · rw [sN1_n e]
      exact h6 i hi
  · intro i hi
    rw [BG_n1 hi]
    exact h7 i hi
  · intro _ i hi
    have q1 := he.2 i hi
    have q2 := hr i (by omega)
    have q3 := sN1_pos h5 i (by omega)
    unfold keepR
    rw [if_pos hi]
    omega
  · rw [if_neg (by rw [sN1_s]; omega), BG_k1]
/-- one place more -/
theorem SRI_deep {sr : Nat → Nat} {n : Nat} {FIN : SeS} {L k bp x : Nat} {sm : Bool} {r : Nat → Int} {e9 nx pb br : Nat → Nat} (h : SRK sr n FIN (L + 1) k bp r e9 nx pb br) (hn : n ≤ 40) (hs : sm = decide (bp ≤ 40)) (ho : ¬ (nx k = sr k ∨ bp ≤ mxA (BG sr (nx1 nx) k) 420)) (hx : x = sPk sr nx pb k) (hxb : x < bp) (hk : k + 1 < n) : SRI sr n FIN L ((k + 1 : Nat) : Int) bp sm (addH (max 1 (sr k)) (nx k) (BG sr (nx1 nx) k) 420) (updZ (updZ r k (r k + 1)) (k + 1) (-1)) e9 := by
  have hst := SRK_step h ho
  obtain ⟨h1, h2, h4, h5, h6, h7, h8, h9, h11⟩ := h
  rw [stepS_d hx hxb hk] at hst
  have h6k := h6 k (Nat.le_refl k)
  have hs60 := h2.1 k
  have hx40 : x ≤ 41 := by have := h2.2.2.2; omega
  have e0 : sN2 nx k (k + 1) = 0 := updN_s _ _ _
  have hbk : BG sr (nx1 (sN2 nx k)) (k + 1) = addH (max 1 (sr k)) (nx k) (BG sr (nx1 nx) k) 420 := BG_2.symm
  refine SRI_of (nx := sN2 nx k) (pb := updN pb (k + 1) x) (br := br) ⟨hk, SeaN_2 h2 (by omega) hx40, ?_, fun i hi => sN2_pos h5 i hi, ?_, ?_, h8, hst, Or.inr e0⟩ ?_ hs
  · intro i hi
    by_cases e : i = k + 1
    · subst e
      rw [updZ_s, e0]
      rfl
    · rw [updZ_n e, sN2_n e]
      by_cases e2 : i = k
      · subst e2
        rw [updZ_s, sN1_s, h4 i (Nat.le_refl i)]
        omega
      · rw [updZ_n e2, sN1_n e2, h4 i (by omega)]
  · intro i hi
    by_cases e : i = k + 1
    · subst e
      rw [e0]
      omega
    · rw [sN2_n e]
      by_cases e2 : i = k
      · subst e2
        rw [sN1_s]
        omega
      · rw [sN1_n e2]
        exact h6 i (by omega)
  · intro i hi
    by_cases e : i = k + 1
    · subst e
      rw [updN_s, hbk, sPk_mxA (h7 k (Nat.le_refl k)), hx]
    · rw [updN_n e, BG_n2 (by omega)]
      exact h7 i (by omega)
  · rw [if_pos e0, hbk]
/-- the row of offsets that the search gives -/
def offM (FIN : SeS) (wh of : Nat → Nat) (n : Nat) : Nat → Nat := if FIN.2.2.2.2 ≤ 40 then givR wh FIN.2.2.1 of n else of
theorem givR_c {fr br br' of : Nat → Nat} {m : Nat} (h : ∀ i, i < m → br i = br' i) : givR fr br of m = givR fr br' of m := by
  induction m with
  | zero => rfl
  | succ m ih =>
    show updN (givR fr br of m) (fr m) (br m) = updN (givR fr br' of m) (fr m) (br' m)
    rw [ih (fun i hi => h i (by omega)), h m (by omega)]
theorem SRI_end {sr : Nat → Nat} {n : Nat} {FIN : SeS} {L : Nat} {k : Int} {bp : Nat} {sm : Bool} {b : Nat → Nat} {r : Nat → Int} {e9 : Nat → Nat} {wh of : Nat → Nat} (h : SRI sr n FIN L k bp sm b r e9) (hk : k < 0) : FIN.2.2.2.1 < 0 ∧ givR wh e9 of n = offM FIN wh of n ∧ (∀ t, 420 ≤ t → b t = 0) ∧ ∀ j, e9 j ≤ 60 := by
  obtain ⟨nx, pb, br, h1, h2, h3, h4, h5, h6, h7, h8, h9, h10, h11⟩ := h
  rw [show (k + 1).toNat = 0 by omega] at h9
  have e : FIN = (nx, pb, br, -1, bp) := by rw [← h9]; exact itO_fix (by show (-1 : Int) < 0; decide) L
  have hbp : bp ≤ 40 := by omega
  refine ⟨by rw [e]; show (-1 : Int) < 0; decide, ?_, by rw [h3]; exact BG_z _ _ _, h8.1⟩
  rw [e]
  unfold offM
  rw [if_pos hbp]
  exact givR_c (h8.2 hbp)
theorem SRI_stop {sr : Nat → Nat} {n : Nat} {FIN : SeS} {k bp : Nat} {r : Nat → Int} {e9 nx pb br wh of : Nat → Nat} (h : SRK sr n FIN 0 k bp r e9 nx pb br) (ho : ¬ (nx k = sr k ∨ bp ≤ mxA (BG sr (nx1 nx) k) 420)) : ¬ FIN.2.2.2.1 < 0 ∧ (bp ≤ 40 → givR wh e9 of n = offM FIN wh of n) ∧ (¬ bp ≤ 40 → of = offM FIN wh of n) ∧ ∀ j, e9 j ≤ 60 := by
  have e := SRK_open h ho
  obtain ⟨h1, h2, h4, h5, h6, h7, h8, h9, h11⟩ := h
  rw [e] at h9
  have e2 : FIN = (nx, pb, br, (k : Int), bp) := h9.symm
  refine ⟨by rw [e2]; show ¬ (k : Int) < 0; omega, ?_, ?_, h8.1⟩
  · intro hb
    rw [e2]
    unfold offM
    rw [if_pos hb]
    exact givR_c (h8.2 hb)
  · intro hb
    rw [e2]
    unfold offM
    rw [if_neg hb]
def cpB (r : Nat → Int) (e : Nat → Nat) (j : Nat) : Nat → Nat := fun i => if i < j then (r i).toNat else e i
theorem cpB_0 (r : Nat → Int) (e : Nat → Nat) : cpB r e 0 = e := by
  funext i
  unfold cpB
  rw [if_neg (by omega)]
theorem cpB_s (r : Nat → Int) (e : Nat → Nat) (j : Nat) : updN (cpB r e j) j (r j).toNat = cpB r e (j + 1) := by
  funext i
  unfold updN cpB
  by_cases h : i = j
  · subst h
    rw [if_pos rfl, if_pos (by omega)]
  · rw [if_neg h]
    by_cases q : i < j
    · rw [if_pos q, if_pos (by omega)]
    · rw [if_neg q, if_neg (by omega)]
theorem SRI_0 {sr nx0 pb0 br0 e9 : Nat → Nat} {n N9 : Nat} {r : Nat → Int} (h1 : 1 ≤ n ∧ n ≤ 40) (h60 : ∀ j, sr j ≤ 60) (hs : 1 ≤ sr 0) (hnx : ∀ j, nx0 j ≤ 60) (hpb : ∀ j, pb0 j ≤ 41) (hn0 : nx0 0 = 0) (hp0 : pb0 0 = 0) (he : ∀ j, e9 j ≤ 60) : SRI sr n (itO sr n (nx0, pb0, br0, 0, 41) N9) N9 0 41 false (fun _ => 0) (updZ r 0 (-1)) e9 := by
  have e : lvP sr nx0 pb0 41 (0 + 1) = ((0 : Nat) : Int) := lvP_f (by rw [hn0, hp0]; omega)
  refine SRI_of (k := 0) (nx := nx0) (pb := pb0) (br := br0) ⟨by omega, ⟨h60, hnx, hpb, Nat.le_refl 41⟩, ?_, fun i hi => by omega, ?_, ?_, ⟨he, fun h => by omega⟩, by rw [e]; rfl, Or.inr hn0⟩ (by rw [if_pos hn0]; rfl) rfl
  · intro i hi
    rw [show i = 0 by omega, updZ_s, hn0]
    rfl
  · intro i hi
    rw [show i = 0 by omega, hn0]
    omega
  · intro i hi
    rw [show i = 0 by omega, hp0]
    have : mxA (BG sr (nx1 nx0) 0) 420 ≤ 0 := mxA_BG
    omega
theorem SRB {sr : Nat → Nat} {n : Nat} {FIN : SeS} {L k bp : Nat} {r : Nat → Int} {e9 nx pb br : Nat → Nat} (h : SRK sr n FIN L k bp r e9 nx pb br) (h60 : ∀ j, sr j ≤ 60) (hk : nx k ≠ sr k) (i : Nat) (hi : i ≤ k) : 0 ≤ updZ r k (r k + 1) i ∧ updZ r k (r k + 1) i ≤ 59 := by
  obtain ⟨h1, h2, h4, h5, h6, h7, h8, h9, h11⟩ := h
  have h0 := h6 i hi
  have h3 := h60 i
  by_cases e : i = k
  · subst e
    rw [updZ_s, h4 i hi]
    omega
  · rw [updZ_n e, h4 i hi]
    have := h5 i (by omega)
    omega
