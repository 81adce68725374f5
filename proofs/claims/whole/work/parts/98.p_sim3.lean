/-! reading looks at the signs below the length alone -/
theorem skp_c {p p' : Nat → Bool} {le : Nat} (f : Nat) : ∀ i, (∀ j, i ≤ j → j < i + f → p j = p' j) → skp p le f i = skp p' le f i := by
  induction f with
  | zero => intro i _; rfl
  | succ f ih =>
    intro i h
    rw [skp, skp, h i (by omega) (by omega), ih (i + 1) (fun j a b => h j (by omega) (by omega))]
theorem skq_c {p p' : Nat → Bool} {le i : Nat} (h : ∀ j, j < le → p j = p' j) : skq p le i = skq p' le i := skp_c _ _ (fun j a b => h j (by omega))
section CG
variable {sg sg' : Nat → Nat} {le : Nat}
theorem wS_c (h : ∀ j, j < le → sg j = sg' j) (w : Nat) : wS sg le w = wS sg' le w := skq_c (fun j hj => by unfold isSp; rw [h j hj])
theorem wE_c (h : ∀ j, j < le → sg j = sg' j) (w : Nat) : wE sg le w = wE sg' le w := by
  unfold wE
  rw [wS_c h]
  exact skq_c (fun j hj => by unfold noSp; rw [h j hj])
theorem dgs_c {a m : Nat} (h : ∀ j, j < m → sg (a + j) = sg' (a + j)) : dgs sg a m = dgs sg' a m := by
  induction m with
  | zero => rfl
  | succ m ih => rw [dgs, dgs, ih (fun j hj => h j (by omega)), h m (by omega)]
theorem nmV_c (h : ∀ j, j < le → sg j = sg' j) (w : Nat) : nmV sg le w = nmV sg' le w := by
  unfold nmV
  rw [wS_c h, wE_c h]
  by_cases c : wS sg' le w < wE sg' le w ∧ wE sg' le w - wS sg' le w ≤ 6
  · rw [if_pos c, if_pos c]
    have r := wE_rng sg' le w
    exact dgs_c (fun j hj => h _ (by omega))
  · rw [if_neg c, if_neg c]
theorem wEq_c {ws i m : Nat} (h : ∀ j, j < m → sg (ws + j) = sg' (ws + j)) : wEq sg ws i m = wEq sg' ws i m := by
  induction m with
  | zero => rfl
  | succ m ih => rw [wEq, wEq, ih (fun j hj => h j (by omega)), h m (by omega)]
theorem wIs_c (h : ∀ j, j < le → sg j = sg' j) {ws we i : Nat} (hi : i < 2) (hw : we ≤ le ∨ we = ws) : wIs sg ws we i = wIs sg' ws we i := by
  unfold wIs
  rw [sln_5 hi]
  by_cases c : we - ws = 5
  · rw [wEq_c (fun j hj => h _ (by omega))]
  · rw [decide_eq_false c, Bool.false_and, Bool.false_and]
theorem rdR_c (h : ∀ j, j < le → sg j = sg' j) {s0 n : Nat} (f : Nat) : ∀ (w1 w2 : Nat) (tt : Nat → Nat), rdR sg le s0 n f w1 w2 tt = rdR sg' le s0 n f w1 w2 tt := by
  induction f with
  | zero => intro w1 w2 tt; rfl
  | succ f ih =>
    intro w1 w2 tt
    have r := wE_rng sg' le w2
    rw [rdR, rdR, wS_c h, wE_c h, wS_c h, wE_c h, wE_c h, nmV_c h, nmV_c h, wIs_c h (by omega) r.2, ih]
theorem okF_c (h : ∀ j, j < le → sg j = sg' j) (w n : Nat) : okF sg le w n = okF sg' le w n := by
  unfold okF
  rw [nmV_c h, wE_c h, nmV_c h, wE_c h, nmV_c h, wE_c h, nmV_c h]
theorem fN_c (h : ∀ j, j < le → sg j = sg' j) (w : Nat) (k : Nat) : fN sg le w k = fN sg' le w k := by
  induction k with
  | zero => rfl
  | succ k ih => rw [fN, fN, ih, wE_c h]
theorem rdT_c (h : ∀ j, j < le → sg j = sg' j) (F w1 w2 : Nat) (t : TbS) : rdT F sg le w1 w2 t = rdT F sg' le w1 w2 t := by
  rw [rdT_R (R := rdR sg le (t.1 t.2.2.2.2.2.2) t.2.2.2.2.2.2 F w1 w2 t.2.2.2.2.2.1) rfl, rdT_R (R := rdR sg' le (t.1 t.2.2.2.2.2.2) t.2.2.2.2.2.2 F w1 w2 t.2.2.2.2.2.1) rfl, rdR_c h]
theorem tkL_c (h : ∀ j, j < le → sg j = sg' j) (st : Nat) (t : TbS) : tkL sg st le t = tkL sg' st le t := by
  have r := wE_rng sg' le st
  unfold tkL
  rw [wS_c h st, wE_c h st, wIs_c h (by omega) r.2, okF_c h, fN_c h _ 3, fN_c h _ 4, wS_c h, nmV_c h, fN_c h _ 1, fN_c h _ 2, nmV_c h, nmV_c h, nmV_c h, rdT_c h]
end CG
theorem flR_c {sg sg' : Nat → Nat} {ln : Nat} (h : ∀ j, j < ln → sg j = sg' j) (F : Nat) (hF : F ≤ ln + 1) : ∀ (L st w1 w2 w3 : Nat) (t : TbS), flR sg ln F L st w1 w2 w3 t = flR sg' ln F L st w1 w2 w3 t := by
  induction F with
  | zero => intro L st w1 w2 w3 t; rfl
  | succ F ih =>
    intro L st w1 w2 w3 t
    have ht : tkL sg st (ln - F) t = tkL sg' st (ln - F) t := tkL_c (fun j hj => h j (by omega)) st t
    have hc : (ln - F = ln ∨ sg (ln - F) = 10) ↔ (ln - F = ln ∨ sg' (ln - F) = 10) := by
      by_cases e : ln - F = ln
      · exact ⟨fun _ => Or.inl e, fun _ => Or.inl e⟩
      · rw [h (ln - F) (by omega)]
    rw [flR, flR, ht, ih (by omega), ih (by omega)]
    by_cases c : ln - F = ln ∨ sg (ln - F) = 10
    · rw [if_pos c, if_pos (hc.mp c)]
    · rw [if_neg c, if_neg (fun q => c (hc.mpr q))]
/-- the class's reading beside the reference's -/
theorem flO_c {sg tx : Nat → Nat} {ln : Nat} (h : ∀ j, j < ln → sg j = tx j) (ws we le : Nat) (t : TbS) : flO tx ln (ln + 1) 1 0 t = ((flR sg ln (ln + 1) 1 0 ws we le t).1, (flR sg ln (ln + 1) 1 0 ws we le t).2.2.2.2) := by
  rw [flR_c h (ln + 1) (Nat.le_refl _)]
  exact flR_w _ _ _ _ _ _ _
/-- the rows behind a read -/
theorem sim_read {T : TbS} {u : ILS} {of : Nat → Nat} (h : RDK T u) : RelT T.2.2.2.2.2.2 T.1 T.2.1 T.2.2.1 T.2.2.2.1 T.2.2.2.2.1 T.2.2.2.2.2.1 (cpR u.1 T.2.2.2.2.2.2) (cpR u.2.1 T.2.2.2.2.2.2) (cpR u.2.2.1 T.2.2.2.2.2.2) (cpR u.2.2.2.1 T.2.2.2.2.2.2) (zrR of T.2.2.2.2.2.2) (cpT u.2.2.2.2.1 T.2.2.2.2.2.2 0) := by
  obtain ⟨h1, h2, h3⟩ := h
  intro f a b
  obtain ⟨g1, g2, g3, g4, g5, g6, g7⟩ := h3 f a b
  have hc : ∀ x : Nat → Nat, cpR x T.2.2.2.2.2.2 f = x (41 + f) := fun x => by unfold cpR; rw [if_pos ⟨a, b⟩]
  refine ⟨by rw [hc]; exact g1, by rw [hc]; exact g2, by rw [hc]; exact g4, by rw [hc]; exact g5, ?_, fun k c d => ?_⟩
  · unfold zrR; rw [if_pos ⟨a, b⟩]; exact g6
  · rw [g7 k c d]
    unfold cpT
    rw [if_pos (Or.inl ⟨by omega, by omega, by omega⟩), show 861 + (21 * f + k) = 21 * (41 + f) + k by omega]
