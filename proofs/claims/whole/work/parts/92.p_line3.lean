/-! line by line -/
theorem flR_skip {tx : Nat → Nat} {sz st en L w1 w2 w3 : Nat} {t : TbS} (hE : LEnd tx sz st en) : ∀ d i, i + d = en → st ≤ i → flR tx sz (sz + 1 - i) L st w1 w2 w3 t = flR tx sz (sz + 1 - en) L st w1 w2 w3 t := by
  intro d
  induction d with
  | zero => intro i h _; rw [show i = en by omega]
  | succ d ih =>
    intro i h h2
    have h10 := hE.2.2.1 i h2 (by omega)
    have hs := hE.2.1
    rw [flR_n (by omega) (by rintro (q | q); omega; exact h10 q)]
    exact ih (i + 1) (by omega) (by omega)
theorem LE_nl {tx : Nat → Nat} {sz st en : Nat} (hE : LEnd tx sz st en) : en = sz ∨ tx en = 10 := by
  by_cases c : en < sz
  · exact Or.inr (LE_10 hE c)
  · have := hE.2.1
    omega
/-- what reading answers, and the draft behind it -/
noncomputable def flO (tx : Nat → Nat) (sz F L st : Nat) (t : TbS) : Nat × TbS := ((flR tx sz F L st 0 0 0 t).1, (flR tx sz F L st 0 0 0 t).2.2.2.2)
theorem flR_w {tx : Nat → Nat} {sz : Nat} (F : Nat) : ∀ (L st w1 w2 w3 : Nat) (t : TbS), flO tx sz F L st t = ((flR tx sz F L st w1 w2 w3 t).1, (flR tx sz F L st w1 w2 w3 t).2.2.2.2) := by
  induction F with
  | zero => intro L st w1 w2 w3 t; rfl
  | succ F ih =>
    intro L st w1 w2 w3 t
    unfold flO
    by_cases c1 : sz - F = sz ∨ tx (sz - F) = 10
    · by_cases c2 : (tkL tx st (sz - F) t).1 = true
      · rw [flR, if_pos c1, if_pos c2, flR, if_pos c1, if_pos c2]
      · rw [flR, if_pos c1, if_neg c2, flR, if_pos c1, if_neg c2]
    · rw [flR, if_neg c1, flR, if_neg c1]
      have h1 := ih L st 0 0 0 t
      have h2 := ih L st w1 w2 w3 t
      rw [← h1, ← h2]
theorem flO_t {tx : Nat → Nat} {sz p en L : Nat} {t : TbS} (hE : LEnd tx sz p en) (h : (tkL tx p en t).1 = true) : flO tx sz (sz + 1 - p) L p t = flO tx sz (sz + 1 - (en + 1)) (L + 1) (en + 1) (tkL tx p en t).2.2.2 := by
  have h1 : flO tx sz (sz + 1 - p) L p t = ((flR tx sz (sz + 1 - p) L p 0 0 0 t).1, (flR tx sz (sz + 1 - p) L p 0 0 0 t).2.2.2.2) := rfl
  rw [h1, flR_skip hE (en - p) p (by have := hE.1; omega) (Nat.le_refl p), flR_t hE.2.1 (LE_nl hE) h]
  exact (flR_w _ _ _ _ _ _ _).symm
theorem flO_f {tx : Nat → Nat} {sz p en L : Nat} {t : TbS} (hE : LEnd tx sz p en) (h : ¬ (tkL tx p en t).1 = true) : (flO tx sz (sz + 1 - p) L p t).1 = L := by
  have h1 : flO tx sz (sz + 1 - p) L p t = ((flR tx sz (sz + 1 - p) L p 0 0 0 t).1, (flR tx sz (sz + 1 - p) L p 0 0 0 t).2.2.2.2) := rfl
  rw [h1, flR_skip hE (en - p) p (by have := hE.1; omega) (Nat.le_refl p), flR_f hE.2.1 (LE_nl hE) h]
theorem flO_e {tx : Nat → Nat} {sz p L : Nat} {t : TbS} (h : ¬ p < sz) : flO tx sz (sz + 1 - p) L p t = (0, t) := by
  by_cases c : p = sz
  · subst c
    have hE : LEnd tx p p p := ⟨Nat.le_refl p, Nat.le_refl p, fun j a b => by omega, a0_out (by omega)⟩
    have hw := wd_at hE
    have ht := tkL_e (t := t) (show ¬ wS tx p p < wE tx p p by omega)
    rw [flO_t hE (by rw [ht])]
    unfold flO
    rw [flR_0 (by omega), ht]
  · unfold flO
    rw [flR_0 (by omega)]
/-- what holds of the reference's rows as it reads: the class's draft T -/
def RDI (se0 pe0 ra0 ga0 ti0 tx : Nat → Nat) (sz : Nat) (Y : Nat × TbS) (U : ILS) (L n : Nat) (T : TbS) : Prop :=
  ((∀ j, U.1 j ≤ 20) ∧ (∀ j, U.2.1 j ≤ 60) ∧ (∀ j, U.2.2.1 j ≤ 99) ∧ (∀ j, U.2.2.2.1 j ≤ 60) ∧ ∀ j, U.2.2.2.2.1 j ≤ 10000) ∧ (∀ j, j ≤ 41 → U.1 j = se0 j ∧ U.2.1 j = pe0 j ∧ U.2.2.1 j = ra0 j ∧ U.2.2.2.1 j = ga0 j) ∧ (∀ x, x ≤ 881 → U.2.2.2.2.1 x = ti0 x) ∧ (T.2.2.2.2.2.2 = n ∧ n ≤ 40) ∧
  (∀ j, 1 ≤ j → j ≤ n → T.1 j = U.1 (41 + j) ∧ T.2.1 j = U.2.1 (41 + j) ∧ 1 ≤ T.2.1 j ∧ T.2.2.1 j = U.2.2.1 (41 + j) ∧ T.2.2.2.1 j = U.2.2.2.1 (41 + j) ∧ T.2.2.2.2.1 j = 0 ∧ ∀ k, 1 ≤ k → k ≤ 20 → T.2.2.2.2.2.1 (j * 21 + k) = U.2.2.2.2.1 (21 * (41 + j) + k)) ∧
  flO tx sz (sz + 1 - U.2.2.2.2.2.1) (L + 1) U.2.2.2.2.2.1 T = Y
theorem RDI_end {se0 pe0 ra0 ga0 ti0 tx : Nat → Nat} {sz L n : Nat} {Y : Nat × TbS} {U : ILS} {T : TbS} (h : RDI se0 pe0 ra0 ga0 ti0 tx sz Y U L n T) (hp : ¬ U.2.2.2.2.2.1 < sz) : Y = (0, T) := by
  rw [← h.2.2.2.2.2, flO_e hp]
/-- a line without words -/
theorem RDI_e {se0 pe0 ra0 ga0 ti0 tx : Nat → Nat} {sz L n nu' : Nat} {Y : Nat × TbS} {U : ILS} {T : TbS} (h : RDI se0 pe0 ra0 ga0 ti0 tx sz Y U L n T) (hp : U.2.2.2.2.2.1 < sz) (he : a0 tx sz (psS tx sz U.2.2.2.2.2.1) = 10) : RDI se0 pe0 ra0 ga0 ti0 tx sz Y (U.1, U.2.1, U.2.2.1, U.2.2.2.1, U.2.2.2.2.1, psS tx sz U.2.2.2.2.2.1 + 1, nu') (L + 1) n T := by
  obtain ⟨h1, h2, h3, h4, h5, h6⟩ := h
  have hE := lE_is (tx := tx) (sz := sz) (p := U.2.2.2.2.2.1) (by omega)
  generalize lE tx sz U.2.2.2.2.2.1 = en at hE
  have hps := psS_wS hE
  have hw := wd_at hE
  have hen : wS tx en U.2.2.2.2.2.1 = en := by
    by_cases c : wS tx en U.2.2.2.2.2.1 < en
    · have q := (hw.2.2.2.1 _ (Nat.le_refl _) (hw.2.2.2.2.1.mpr c)).2
      rw [hps, a0_in (by have := hE.2.1; omega)] at he
      exact absurd he q
    · omega
  have ht := tkL_e (t := T) (show ¬ wS tx en U.2.2.2.2.2.1 < wE tx en U.2.2.2.2.2.1 by omega)
  refine ⟨h1, h2, h3, h4, h5, ?_⟩
  rw [flO_t hE (by rw [ht]), ht] at h6
  show flO tx sz (sz + 1 - (psS tx sz U.2.2.2.2.2.1 + 1)) (L + 1 + 1) (psS tx sz U.2.2.2.2.2.1 + 1) T = Y
  rw [hps, hen]
  exact h6
theorem RDI_w {se0 pe0 ra0 ga0 ti0 tx : Nat → Nat} {sz L n : Nat} {Y : Nat × TbS} {U : ILS} {T : TbS} (h : RDI se0 pe0 ra0 ga0 ti0 tx sz Y U L n T) (hp : U.2.2.2.2.2.1 < sz) (hs : sz ≤ 2000) (he : a0 tx sz (psS tx sz U.2.2.2.2.2.1) ≠ 10) : ∃ en, LEnd tx sz U.2.2.2.2.2.1 en ∧ wS tx en U.2.2.2.2.2.1 < wE tx en U.2.2.2.2.2.1 := by
  have hE := lE_is (tx := tx) (sz := sz) (p := U.2.2.2.2.2.1) (by omega)
  refine ⟨_, hE, ?_⟩
  generalize lE tx sz U.2.2.2.2.2.1 = en at hE
  have hps := psS_wS hE
  have hw := wd_at hE
  rw [hw.2.2.2.2.1]
  by_cases c : wS tx en U.2.2.2.2.2.1 < en
  · exact c
  · rw [hps, show wS tx en U.2.2.2.2.2.1 = en by omega] at he
    exact absurd hE.2.2.2 he
/-- a line that is none -/
theorem RDI_f {se0 pe0 ra0 ga0 ti0 tx : Nat → Nat} {sz L n : Nat} {Y : Nat × TbS} {U : ILS} {T : TbS} (h : RDI se0 pe0 ra0 ga0 ti0 tx sz Y U L n T) (hp : U.2.2.2.2.2.1 < sz) (hs : sz ≤ 2000) (he : a0 tx sz (psS tx sz U.2.2.2.2.2.1) ≠ 10) (hno : ¬ (n + 1 ≤ 40 ∧ LnOK tx sz (psS tx sz U.2.2.2.2.2.1))) : Y.1 = L + 1 := by
  obtain ⟨en, hE, hw⟩ := RDI_w h hp hs he
  have hl := (line_iff (t := T) hE hw hs).1
  have hn := h.2.2.2.1.1
  rw [← h.2.2.2.2.2]
  exact flO_f hE (fun q => hno (by have := hl.mp q; exact ⟨by omega, this.2⟩))
