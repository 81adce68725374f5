/-! rows 42 .. 81 are taken as rows 1 .. 40 -/
def cpR (f : Nat → Nat) (j : Nat) : Nat → Nat := fun i => if 1 ≤ i ∧ i ≤ j then f (41 + i) else f i
theorem cpR_0 (f : Nat → Nat) : cpR f 0 = f := by
  funext i
  unfold cpR
  rw [if_neg (by omega)]
theorem cpR_s (f : Nat → Nat) {j : Nat} (hj : j < 40) : updN (cpR f j) (j + 1) (cpR f j (41 + (j + 1))) = cpR f (j + 1) := by
  funext i
  unfold updN
  by_cases h : i = j + 1
  · subst h
    rw [if_pos rfl]
    unfold cpR
    rw [if_neg (by omega), if_pos (by omega)]
  · rw [if_neg h]
    unfold cpR
    by_cases q : 1 ≤ i ∧ i ≤ j
    · rw [if_pos q, if_pos (by omega)]
    · rw [if_neg q, if_neg (by omega)]
def zrR (f : Nat → Nat) (j : Nat) : Nat → Nat := fun i => if 1 ≤ i ∧ i ≤ j then 0 else f i
theorem zrR_0 (f : Nat → Nat) : zrR f 0 = f := by
  funext i
  unfold zrR
  rw [if_neg (by omega)]
theorem zrR_s (f : Nat → Nat) (j : Nat) : updN (zrR f j) (j + 1) 0 = zrR f (j + 1) := by
  funext i
  unfold updN zrR
  by_cases h : i = j + 1
  · rw [if_pos h, if_pos (by omega)]
  · rw [if_neg h]
    by_cases q : 1 ≤ i ∧ i ≤ j
    · rw [if_pos q, if_pos (by omega)]
    · rw [if_neg q, if_neg (by omega)]
def cpT (t : Nat → Nat) (j k : Nat) : Nat → Nat := fun x => if (1 ≤ x / 21 ∧ x / 21 ≤ j ∧ 1 ≤ x % 21) ∨ (x / 21 = j + 1 ∧ 1 ≤ x % 21 ∧ x % 21 ≤ k) then t (861 + x) else t x
theorem cpT_0 (t : Nat → Nat) : cpT t 0 0 = t := by
  funext x
  unfold cpT
  rw [if_neg (by omega)]
theorem cpT_n (t : Nat → Nat) (j : Nat) : cpT t j 20 = cpT t (j + 1) 0 := by
  funext x
  unfold cpT
  by_cases h : (1 ≤ x / 21 ∧ x / 21 ≤ j ∧ 1 ≤ x % 21) ∨ (x / 21 = j + 1 ∧ 1 ≤ x % 21 ∧ x % 21 ≤ 20)
  · rw [if_pos h, if_pos (by omega)]
  · rw [if_neg h, if_neg (by omega)]
theorem cpT_s (t : Nat → Nat) {j k : Nat} (hj : j < 40) (hk : k < 20) : updN (cpT t j k) (21 * (j + 1) + (k + 1)) (cpT t j k (21 * (41 + (j + 1)) + (k + 1))) = cpT t j (k + 1) := by
  funext x
  unfold updN
  by_cases h : x = 21 * (j + 1) + (k + 1)
  · subst h
    rw [if_pos rfl]
    unfold cpT
    rw [if_neg (by omega), if_pos (by omega), show 861 + (21 * (j + 1) + (k + 1)) = 21 * (41 + (j + 1)) + (k + 1) by omega]
  · rw [if_neg h]
    unfold cpT
    by_cases q : (1 ≤ x / 21 ∧ x / 21 ≤ j ∧ 1 ≤ x % 21) ∨ (x / 21 = j + 1 ∧ 1 ≤ x % 21 ∧ x % 21 ≤ k)
    · rw [if_pos q, if_pos (by omega)]
    · rw [if_neg q, if_neg (by omega)]
/-! a line, as the reference reads it -/
def BtwA (tx : Nat → Nat) (sz e : Nat) : Prop := a0 tx sz e = 32 ∨ a0 tx sz e = 10
def WrdAt (tx : Nat → Nat) (sz i pl q : Nat) : Prop := (wM tx sz i pl 5).1 = true ∧ BtwA tx sz (wM tx sz i pl 5).2 ∧ q = psS tx sz (wM tx sz i pl 5).2
def NumAt (tx : Nat → Nat) (sz pl lw hh v q : Nat) : Prop := dgs tx pl (dgE tx sz pl - pl) = (v : Int) ∧ pl < dgE tx sz pl ∧ dgE tx sz pl < pl + 7 ∧ BtwA tx sz (dgE tx sz pl) ∧ lw ≤ v ∧ v ≤ hh ∧ q = psS tx sz (dgE tx sz pl)
def RdsF (tx : Nat → Nat) (sz s : Nat) : Nat → Nat → (Nat → Nat) → (Nat → Nat) → Nat → Prop
  | 0, _, _, _, _ => False
  | F + 1, pl, r0, r1, q => (a0 tx sz pl = 10 ∧ r1 = r0 ∧ q = pl) ∨ (a0 tx sz pl ≠ 10 ∧ ∃ p1 k p2 t p3, WrdAt tx sz 1 pl p1 ∧ NumAt tx sz p1 1 20 k p2 ∧ k ≠ s ∧ NumAt tx sz p2 1 10000 t p3 ∧ RdsF tx sz s F p3 (updN r0 k t) r1 q)
def LinA (tx : Nat → Nat) (sz pl s p r g p5 : Nat) : Prop := ∃ p1 p2 p3 p4, WrdAt tx sz 0 pl p1 ∧ NumAt tx sz p1 1 20 s p2 ∧ NumAt tx sz p2 1 60 p p3 ∧ NumAt tx sz p3 0 99 r p4 ∧ NumAt tx sz p4 0 p g p5
def LnIs (tx : Nat → Nat) (sz pl s p r g : Nat) (r1 : Nat → Nat) (q : Nat) : Prop := ∃ p5 F, LinA tx sz pl s p r g p5 ∧ RdsF tx sz s F p5 (fun _ => 0) r1 q
def LnOK (tx : Nat → Nat) (sz pl : Nat) : Prop := ∃ s p r g r1 q, LnIs tx sz pl s p r g r1 q
theorem WrdAt_u {tx : Nat → Nat} {sz i pl q q' : Nat} (h : WrdAt tx sz i pl q) (h' : WrdAt tx sz i pl q') : q = q' := h.2.2.trans h'.2.2.symm
theorem NumAt_u {tx : Nat → Nat} {sz pl lw hh lw' hh' v v' q q' : Nat} (h : NumAt tx sz pl lw hh v q) (h' : NumAt tx sz pl lw' hh' v' q') : v = v' ∧ q = q' := by
  refine ⟨?_, h.2.2.2.2.2.2.trans h'.2.2.2.2.2.2.symm⟩
  have := h.1.symm.trans h'.1
  omega
theorem skp_all {p : Nat → Bool} {le : Nat} (f : Nat) : ∀ i j, i ≤ j → j < skp p le f i → p j = true := by
  induction f with
  | zero => intro i j h1 h2; rw [skp] at h2; omega
  | succ f ih =>
    intro i j h1 h2
    by_cases c : p i = true
    · rw [skp, if_pos c] at h2
      by_cases e : j = i
      · rw [e]; exact c
      · exact ih (i + 1) j (by omega) h2
    · rw [skp, if_neg c] at h2
      omega
theorem skq_all {p : Nat → Bool} {le i j : Nat} (h1 : i ≤ j) (h2 : j < skq p le i) : p j = true := skp_all _ i j h1 h2
/-- the digits' value -/
theorem dgs_ex {tx : Nat → Nat} {sz pl e : Nat} (he : e = dgE tx sz pl) : ∃ v : Nat, dgs tx pl (e - pl) = (v : Int) ∧ v < 10000000 := by
  have hr := skq_rng (isDg tx) (min sz (pl + 7)) pl
  have hall : ∀ d, pl + d ≤ e → ∃ v : Nat, dgs tx pl d = (v : Int) ∧ v < 10 ^ d := by
    intro d
    induction d with
    | zero => intro _; exact ⟨0, rfl, by decide⟩
    | succ d ih =>
      intro hd
      obtain ⟨v, h1, h2⟩ := ih (by omega)
      have hdg : isDg tx (pl + d) = true := skq_all (p := isDg tx) (le := min sz (pl + 7)) (i := pl) (by omega) (by show pl + d < dgE tx sz pl; omega)
      have h3 := of_decide_eq_true hdg
      refine ⟨_, dgs_ok h1 h3, ?_⟩
      rw [Nat.pow_succ]
      omega
  obtain ⟨v, h1, h2⟩ := hall (e - pl) (by
    have : pl ≤ dgE tx sz pl := hr.1
    omega)
  refine ⟨v, h1, ?_⟩
  have h7 : e - pl ≤ 7 := by
    have h0 : dgE tx sz pl ≤ min sz (pl + 7) ∨ dgE tx sz pl = pl := hr.2
    omega
  have h8 : 10 ^ (e - pl) ≤ 10 ^ 7 := Nat.pow_le_pow_right (by decide) h7
  have h9 : (10 : Nat) ^ 7 = 10000000 := by decide
  omega
theorem sch_10 {i k : Nat} (hi : i < 2) (hk : k < 5) : sch i k ≠ 10 := by
  have h : ∀ i, i < 2 → ∀ k, k < 5 → sch i k ≠ 10 := by decide
  exact h i hi k hk
theorem wM_b {tx : Nat → Nat} {sz i pl : Nat} (hi : i < 2) (k : Nat) (hk : k ≤ 5) (h : (wM tx sz i pl k).1 = true) (h0 : pl ≤ sz) : (wM tx sz i pl k).2 = pl + k ∧ pl + k ≤ sz := by
  induction k with
  | zero => exact ⟨rfl, h0⟩
  | succ k ih =>
    by_cases c : (wM tx sz i pl k).1 = true ∧ a0 tx sz (wM tx sz i pl k).2 = sch i k
    · obtain ⟨i1, i2⟩ := ih (by omega) c.1
      have hlt := (a0_ne (tx := tx) (sz := sz) (p := (wM tx sz i pl k).2) (by rw [c.2]; exact sch_10 hi (by omega))).1
      rw [wM, if_pos c]
      exact ⟨by show (wM tx sz i pl k).2 + 1 = _; omega, by omega⟩
    · rw [wM, if_neg c] at h
      exact absurd h Bool.false_ne_true
theorem WrdAt_b {tx : Nat → Nat} {sz i pl q : Nat} (hi : i < 2) (h0 : pl ≤ sz) (h : WrdAt tx sz i pl q) : pl + 5 ≤ q ∧ q ≤ sz := by
  obtain ⟨h1, h2, h3⟩ := h
  obtain ⟨b1, b2⟩ := wM_b hi 5 (Nat.le_refl 5) h1 h0
  have r := psS_rng tx sz (wM tx sz i pl 5).2
  rw [h3]
  omega
theorem NumAt_b {tx : Nat → Nat} {sz pl lw hh v q : Nat} (h : NumAt tx sz pl lw hh v q) : pl < q ∧ q ≤ sz := by
  obtain ⟨h1, h2, h3, h4, h5, h6, h7⟩ := h
  have r1 : dgE tx sz pl ≤ min sz (pl + 7) ∨ dgE tx sz pl = pl := (skq_rng (isDg tx) (min sz (pl + 7)) pl).2
  have r2 := psS_rng tx sz (dgE tx sz pl)
  rw [h7]
  omega
theorem WrdAt_is {tx : Nat → Nat} {sz i pl q : Nat} {V : Bool × Nat} (hV : V = wM tx sz i pl 5) (h : V.1 = true ∧ (a0 tx sz V.2 = 32 ∨ a0 tx sz V.2 = 10)) (hq : q = psS tx sz V.2) : WrdAt tx sz i pl q := by subst hV; exact ⟨h.1, h.2, hq⟩
theorem WrdAt_no {tx : Nat → Nat} {sz i pl q : Nat} {V : Bool × Nat} (hV : V = wM tx sz i pl 5) (h : ¬ (V.1 = true ∧ (a0 tx sz V.2 = 32 ∨ a0 tx sz V.2 = 10))) : ¬ WrdAt tx sz i pl q := by subst hV; exact fun w => h ⟨w.1, w.2.1⟩
theorem NumAt_is {tx : Nat → Nat} {sz pl lw hh e v q : Nat} (he : e = dgE tx sz pl) (hv : dgs tx pl (e - pl) = (v : Int)) (h : pl < e ∧ e < pl + 7 ∧ (a0 tx sz e = 32 ∨ a0 tx sz e = 10) ∧ lw ≤ v ∧ v ≤ hh) (hq : q = psS tx sz e) : NumAt tx sz pl lw hh v q := by subst he; exact ⟨hv, h.1, h.2.1, h.2.2.1, h.2.2.2.1, h.2.2.2.2, hq⟩
theorem NumAt_no {tx : Nat → Nat} {sz pl lw hh e v v' q : Nat} (he : e = dgE tx sz pl) (hv : dgs tx pl (e - pl) = (v : Int)) (h : ¬ (pl < e ∧ e < pl + 7 ∧ (a0 tx sz e = 32 ∨ a0 tx sz e = 10) ∧ lw ≤ v ∧ v ≤ hh)) : ¬ NumAt tx sz pl lw hh v' q := by
  subst he
  rintro ⟨h1, h2, h3, h4, h5, h6, h7⟩
  have e := hv.symm.trans h1
  exact h ⟨h2, h3, h4, by omega, by omega⟩
/-- what is left of a line behind its word and numbers -/
theorem Ln1 {tx : Nat → Nat} {sz pl s p r g q p1 : Nat} {r1 : Nat → Nat} (hw : WrdAt tx sz 0 pl p1) (h : LnIs tx sz pl s p r g r1 q) : ∃ p2 p3 p4 p5 F, NumAt tx sz p1 1 20 s p2 ∧ NumAt tx sz p2 1 60 p p3 ∧ NumAt tx sz p3 0 99 r p4 ∧ NumAt tx sz p4 0 p g p5 ∧ RdsF tx sz s F p5 (fun _ => 0) r1 q := by
  obtain ⟨p5, F, ⟨p1', p2, p3, p4, w, n2, n3, n4, n5⟩, hR⟩ := h
  have e := WrdAt_u hw w
  subst e
  exact ⟨p2, p3, p4, p5, F, n2, n3, n4, n5, hR⟩
theorem Ln2 {tx : Nat → Nat} {sz pl s p r g q p1 v2 p2 : Nat} {r1 : Nat → Nat} (hw : WrdAt tx sz 0 pl p1) (hn : NumAt tx sz p1 1 20 v2 p2) (h : LnIs tx sz pl s p r g r1 q) : s = v2 ∧ ∃ p3 p4 p5 F, NumAt tx sz p2 1 60 p p3 ∧ NumAt tx sz p3 0 99 r p4 ∧ NumAt tx sz p4 0 p g p5 ∧ RdsF tx sz s F p5 (fun _ => 0) r1 q := by
  obtain ⟨p2', p3, p4, p5, F, n2, n3, n4, n5, hR⟩ := Ln1 hw h
  obtain ⟨e1, e2⟩ := NumAt_u n2 hn
  subst e2
  exact ⟨e1, p3, p4, p5, F, n3, n4, n5, hR⟩
theorem Ln3 {tx : Nat → Nat} {sz pl s p r g q p1 v2 p2 v3 p3 : Nat} {r1 : Nat → Nat} (hw : WrdAt tx sz 0 pl p1) (hn : NumAt tx sz p1 1 20 v2 p2) (hm : NumAt tx sz p2 1 60 v3 p3) (h : LnIs tx sz pl s p r g r1 q) : s = v2 ∧ p = v3 ∧ ∃ p4 p5 F, NumAt tx sz p3 0 99 r p4 ∧ NumAt tx sz p4 0 p g p5 ∧ RdsF tx sz s F p5 (fun _ => 0) r1 q := by
  obtain ⟨e0, p3', p4, p5, F, n3, n4, n5, hR⟩ := Ln2 hw hn h
  obtain ⟨e1, e2⟩ := NumAt_u n3 hm
  subst e2
  exact ⟨e0, e1, p4, p5, F, n4, n5, hR⟩
theorem Ln4 {tx : Nat → Nat} {sz pl s p r g q p1 v2 p2 v3 p3 v4 p4 : Nat} {r1 : Nat → Nat} (hw : WrdAt tx sz 0 pl p1) (hn : NumAt tx sz p1 1 20 v2 p2) (hm : NumAt tx sz p2 1 60 v3 p3) (hl : NumAt tx sz p3 0 99 v4 p4) (h : LnIs tx sz pl s p r g r1 q) : s = v2 ∧ p = v3 ∧ r = v4 ∧ ∃ p5 F, NumAt tx sz p4 0 p g p5 ∧ RdsF tx sz s F p5 (fun _ => 0) r1 q := by
  obtain ⟨e0, e9, p4', p5, F, n4, n5, hR⟩ := Ln3 hw hn hm h
  obtain ⟨e1, e2⟩ := NumAt_u n4 hl
  subst e2
  exact ⟨e0, e9, e1, p5, F, n5, hR⟩
theorem Ln5 {tx : Nat → Nat} {sz pl s p r g q p1 v2 p2 v3 p3 v4 p4 v5 p5 : Nat} {r1 : Nat → Nat} (hw : WrdAt tx sz 0 pl p1) (hn : NumAt tx sz p1 1 20 v2 p2) (hm : NumAt tx sz p2 1 60 v3 p3) (hl : NumAt tx sz p3 0 99 v4 p4) (hk : NumAt tx sz p4 0 v3 v5 p5) (h : LnIs tx sz pl s p r g r1 q) : s = v2 ∧ p = v3 ∧ r = v4 ∧ g = v5 ∧ ∃ F, RdsF tx sz v2 F p5 (fun _ => 0) r1 q := by
  obtain ⟨e0, e9, e8, p5', F, n5, hR⟩ := Ln4 hw hn hm hl h
  subst e9
  obtain ⟨e1, e2⟩ := NumAt_u n5 hk
  subst e2
  subst e0
  exact ⟨rfl, rfl, e8, e1, F, hR⟩
theorem Ln5' {tx : Nat → Nat} {sz pl p1 v2 p2 v3 p3 v4 p4 v5 p5 F q : Nat} {r1 : Nat → Nat} (hw : WrdAt tx sz 0 pl p1) (hn : NumAt tx sz p1 1 20 v2 p2) (hm : NumAt tx sz p2 1 60 v3 p3) (hl : NumAt tx sz p3 0 99 v4 p4) (hk : NumAt tx sz p4 0 v3 v5 p5) (hR : RdsF tx sz v2 F p5 (fun _ => 0) r1 q) : LnIs tx sz pl v2 v3 v4 v5 r1 q := ⟨p5, F, ⟨p1, p2, p3, p4, hw, hn, hm, hl, hk⟩, hR⟩
theorem RdsF_ne {tx : Nat → Nat} {sz s F p q : Nat} {r0 r1 : Nat → Nat} (h : a0 tx sz p ≠ 10) (hR : RdsF tx sz s F p r0 r1 q) : ∃ p1 k p2 t p3 F', WrdAt tx sz 1 p p1 ∧ NumAt tx sz p1 1 20 k p2 ∧ k ≠ s ∧ NumAt tx sz p2 1 10000 t p3 ∧ RdsF tx sz s F' p3 (updN r0 k t) r1 q := by
  cases F with
  | zero => exact hR.elim
  | succ F =>
    rcases hR with h1 | ⟨-, p1, k, p2, t, p3, h2, h3, h4, h5, h6⟩
    · exact absurd h1.1 h
    · exact ⟨p1, k, p2, t, p3, F, h2, h3, h4, h5, h6⟩
theorem RdsF_e {tx : Nat → Nat} {sz s F p q : Nat} {r0 r1 : Nat → Nat} (h : a0 tx sz p = 10) (hR : RdsF tx sz s F p r0 r1 q) : r1 = r0 ∧ q = p := by
  cases F with
  | zero => exact hR.elim
  | succ F =>
    rcases hR with h1 | h1
    · exact h1.2
    · exact absurd h h1.1
theorem RD_step {tx : Nat → Nat} {sz s p p6 k p7 t p8 : Nat} {ρ : Nat → Nat} (hne : a0 tx sz p ≠ 10) (hw : WrdAt tx sz 1 p p6) (hn : NumAt tx sz p6 1 20 k p7) (hk : k ≠ s) (hm : NumAt tx sz p7 1 10000 t p8) (r1 : Nat → Nat) (q : Nat) : (∃ F, RdsF tx sz s F p ρ r1 q) ↔ ∃ F, RdsF tx sz s F p8 (updN ρ k t) r1 q := by
  constructor
  · rintro ⟨F, hR⟩
    obtain ⟨a1, a2, a3, a4, a5, F', w1, n1, k1, n2, hR'⟩ := RdsF_ne hne hR
    have e1 := WrdAt_u hw w1
    subst e1
    obtain ⟨e2, e3⟩ := NumAt_u hn n1
    subst e2
    subst e3
    obtain ⟨e4, e5⟩ := NumAt_u hm n2
    subst e4
    subst e5
    exact ⟨F', hR'⟩
  · rintro ⟨F, hR⟩
    exact ⟨F + 1, Or.inr ⟨hne, p6, k, p7, t, p8, hw, hn, hk, hm, hR⟩⟩
abbrev ILS : Type := (Nat → Nat) × (Nat → Nat) × (Nat → Nat) × (Nat → Nat) × (Nat → Nat) × Nat × Nat
/-- what isLine leaves: other rows as they were; of a line its row -/
def ILP (se pe ra ga ti tx : Nat → Nat) (sz pl f : Nat) (u : ILS) : Prop :=
  ((∀ j, u.1 j ≤ 20) ∧ (∀ j, u.2.1 j ≤ 60) ∧ (∀ j, u.2.2.1 j ≤ 99) ∧ (∀ j, u.2.2.2.1 j ≤ 60) ∧ ∀ j, u.2.2.2.2.1 j ≤ 10000) ∧ (∀ j, j ≠ 41 + f → u.1 j = se j ∧ u.2.1 j = pe j ∧ u.2.2.1 j = ra j ∧ u.2.2.2.1 j = ga j) ∧ (∀ x, ¬ (21 * (41 + f) + 1 ≤ x ∧ x ≤ 21 * (41 + f) + 20) → u.2.2.2.2.1 x = ti x) ∧
  (f ≤ 40 → ∀ s p r g r1 q, LnIs tx sz pl s p r g r1 q → u.1 (41 + f) = s ∧ u.2.1 (41 + f) = p ∧ u.2.2.1 (41 + f) = r ∧ u.2.2.2.1 (41 + f) = g ∧ (∀ k, 1 ≤ k → k ≤ 20 → u.2.2.2.2.1 (21 * (41 + f) + k) = r1 k) ∧ u.2.2.2.2.2.1 = q)
theorem ILP_no {se pe ra ga ti tx : Nat → Nat} {sz pl f : Nat} {u : ILS} (h1 : (∀ j, u.1 j ≤ 20) ∧ (∀ j, u.2.1 j ≤ 60) ∧ (∀ j, u.2.2.1 j ≤ 99) ∧ (∀ j, u.2.2.2.1 j ≤ 60) ∧ ∀ j, u.2.2.2.2.1 j ≤ 10000) (h2 : ∀ j, j ≠ 41 + f → u.1 j = se j ∧ u.2.1 j = pe j ∧ u.2.2.1 j = ra j ∧ u.2.2.2.1 j = ga j) (h3 : ∀ x, ¬ (21 * (41 + f) + 1 ≤ x ∧ x ≤ 21 * (41 + f) + 20) → u.2.2.2.2.1 x = ti x) (h4 : f ≤ 40 → ¬ LnOK tx sz pl) : ILP se pe ra ga ti tx sz pl f u := ⟨h1, h2, h3, fun hf s p r g r1 q h => absurd ⟨s, p, r, g, r1, q, h⟩ (h4 hf)⟩
