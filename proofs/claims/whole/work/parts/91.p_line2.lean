/-- the readers of a line -/
theorem rd_iff {tx : Nat → Nat} {sz en s0 n : Nat} (f : Nat) : ∀ (w1 w2 : Nat) (tt ρ : Nat → Nat), LEnd tx sz w2 en → en - w2 < f → (∀ k, 1 ≤ k → k ≤ 20 → tt (n * 21 + k) = ρ k) →
    ((rdR tx en s0 n f w1 w2 tt).1 = true ↔ ∃ F r1 q, RdsF tx sz s0 F (wS tx en w2) ρ r1 q) ∧
    (∀ F r1 q, RdsF tx sz s0 F (wS tx en w2) ρ r1 q → q = en ∧ ∀ k, 1 ≤ k → k ≤ 20 → (rdR tx en s0 n f w1 w2 tt).2.2.2 (n * 21 + k) = r1 k) ∧
    (∀ x, ¬ (n * 21 + 1 ≤ x ∧ x ≤ n * 21 + 20) → (rdR tx en s0 n f w1 w2 tt).2.2.2 x = tt x) := by
  induction f with
  | zero => intro w1 w2 tt ρ _ h _; omega
  | succ f ih =>
    intro w1 w2 tt ρ hE hf hr
    obtain ⟨a1, a2, a3, a4, a5, a6⟩ := wd_at hE
    have hen := hE.2.1
    by_cases c1 : wS tx en w2 < wE tx en w2
    · have hne : a0 tx sz (wS tx en w2) ≠ 10 := by
        rw [a0_in (by omega)]
        exact (a4 _ (Nat.le_refl _) c1).2
      have hE1 := LE_sub hE (by omega) a3
      obtain ⟨b1, b2, b3, b4, b5, b6⟩ := wd_at hE1
      have hE2 := LE_sub hE1 (by omega) b3
      obtain ⟨d1, d2, d3, d4, d5, d6⟩ := wd_at hE2
      have hE3 := LE_sub hE2 (by omega) d3
      by_cases c2 : wIs tx (wS tx en w2) (wE tx en w2) 1 = true ∧ rdK (nmV tx en (wE tx en w2)) (nmV tx en (wE tx en (wE tx en w2))) s0
      · obtain ⟨g0, g1, g2, g3, g4, g5⟩ := id c2
        obtain ⟨k9, hk⟩ := Int.eq_ofNat_of_zero_le (show 0 ≤ nmV tx en (wE tx en w2) by omega)
        obtain ⟨t9, ht⟩ := Int.eq_ofNat_of_zero_le (show 0 ≤ nmV tx en (wE tx en (wE tx en w2)) by omega)
        rw [rdR_t c1 c2.1 c2.2 hk ht]
        have hW := (wrd_iff (q := wS tx en (wE tx en w2)) (i := 1) (by omega) hE).mpr ⟨g0, rfl⟩
        have hN := (num_iff (lw := 1) (hh := 20) (v := k9) (q := wS tx en (wE tx en (wE tx en w2))) hE1).mpr ⟨hk, by omega, by omega, rfl⟩
        have hM := (num_iff (lw := 1) (hh := 10000) (v := t9) (q := wS tx en (wE tx en (wE tx en (wE tx en w2)))) hE2).mpr ⟨ht, by omega, by omega, rfl⟩
        have hks : k9 ≠ s0 := by omega
        have hi := ih (wS tx en (wE tx en (wE tx en w2))) (wE tx en (wE tx en (wE tx en w2))) (updN tt (n * 21 + k9) t9) (updN ρ k9 t9) hE3 (by omega) (fun k h1 h2 => by
          by_cases e : k = k9
          · subst e; rw [updN_s, updN_s]
          · rw [updN_n (by omega), updN_n e]; exact hr k h1 h2)
        have hst := fun r1 q => RD_step (ρ := ρ) hne hW hN hks hM r1 q
        refine ⟨?_, ?_, ?_⟩
        · rw [hi.1]
          constructor
          · rintro ⟨F, r1, q, h⟩
            obtain ⟨F', h'⟩ := (hst r1 q).mpr ⟨F, h⟩
            exact ⟨F', r1, q, h'⟩
          · rintro ⟨F, r1, q, h⟩
            obtain ⟨F', h'⟩ := (hst r1 q).mp ⟨F, h⟩
            exact ⟨F', r1, q, h'⟩
        · intro F r1 q h
          obtain ⟨F', h'⟩ := (hst r1 q).mp ⟨F, h⟩
          exact hi.2.1 F' r1 q h'
        · intro x hx
          rw [hi.2.2 x hx, updN_n (by omega)]
      · rw [rdR_f c1 c2]
        have hno : ∀ F r1 q, ¬ RdsF tx sz s0 F (wS tx en w2) ρ r1 q := by
          intro F r1 q hR
          obtain ⟨p1, k, p2, t, p3, F', w, n1, k1, n2, hR'⟩ := RdsF_ne hne hR
          obtain ⟨e1, e2⟩ := (wrd_iff (by omega) hE).mp w
          subst e2
          obtain ⟨e3, e4, e5, e6⟩ := (num_iff hE1).mp n1
          subst e6
          obtain ⟨e7, e8, e9, e10⟩ := (num_iff hE2).mp n2
          exact c2 ⟨e1, by omega, by omega, by omega, by omega, by omega⟩
        refine ⟨⟨fun h => absurd h Bool.false_ne_true, fun ⟨F, r1, q, h⟩ => absurd h (hno F r1 q)⟩, fun F r1 q h => absurd h (hno F r1 q), fun x _ => rfl⟩
    · rw [rdR_e c1]
      have hz : wS tx en w2 = en := by omega
      have h10 : a0 tx sz (wS tx en w2) = 10 := by rw [hz]; exact hE.2.2.2
      refine ⟨⟨fun _ => ⟨1, ρ, wS tx en w2, Or.inl ⟨h10, rfl, rfl⟩⟩, fun _ => rfl⟩, ?_, fun x _ => rfl⟩
      intro F r1 q h
      obtain ⟨e1, e2⟩ := RdsF_e h10 h
      subst e1
      exact ⟨by omega, hr⟩
/-- a line that has words: the class's and the reference's -/
theorem line_iff {tx : Nat → Nat} {sz p en : Nat} {t : TbS} (hE : LEnd tx sz p en) (hw : wS tx en p < wE tx en p) (hs : sz ≤ 2000) :
    ((tkL tx p en t).1 = true ↔ t.2.2.2.2.2.2 < 40 ∧ LnOK tx sz (psS tx sz p)) ∧
    (t.2.2.2.2.2.2 < 40 → ∀ s p9 r g r1 q, LnIs tx sz (psS tx sz p) s p9 r g r1 q → q = en ∧ ∃ to', (tkL tx p en t).2.2.2 = ((apS t s p9 r g).1, (apS t s p9 r g).2.1, (apS t s p9 r g).2.2.1, (apS t s p9 r g).2.2.2.1, (apS t s p9 r g).2.2.2.2.1, to', t.2.2.2.2.2.2 + 1) ∧ (∀ k, 1 ≤ k → k ≤ 20 → to' ((t.2.2.2.2.2.2 + 1) * 21 + k) = r1 k) ∧ ∀ x, ¬ ((t.2.2.2.2.2.2 + 1) * 21 + 1 ≤ x ∧ x ≤ (t.2.2.2.2.2.2 + 1) * 21 + 20) → to' x = t.2.2.2.2.2.1 x) := by
  obtain ⟨v0, hv0⟩ : ∃ v, v = wE tx en p := ⟨_, rfl⟩
  obtain ⟨s0, hs0⟩ : ∃ v, v = wS tx en p := ⟨_, rfl⟩
  obtain ⟨v1, hv1⟩ : ∃ v, v = wE tx en v0 := ⟨_, rfl⟩
  obtain ⟨v2, hv2⟩ : ∃ v, v = wE tx en v1 := ⟨_, rfl⟩
  obtain ⟨v3, hv3⟩ : ∃ v, v = wE tx en v2 := ⟨_, rfl⟩
  obtain ⟨v4, hv4⟩ : ∃ v, v = wE tx en v3 := ⟨_, rfl⟩
  obtain ⟨w3, hw3⟩ : ∃ v, v = wS tx en v3 := ⟨_, rfl⟩
  have q0 := wd_at hE
  rw [← hv0, ← hs0] at q0
  have hE0 : LEnd tx sz v0 en := LE_sub hE (by omega) q0.2.2.1
  have q1 := wd_at hE0
  rw [← hv1] at q1
  have hE1 : LEnd tx sz v1 en := LE_sub hE0 (by omega) q1.2.2.1
  have q2 := wd_at hE1
  rw [← hv2] at q2
  have hE2 : LEnd tx sz v2 en := LE_sub hE1 (by omega) q2.2.2.1
  have q3 := wd_at hE2
  rw [← hv3] at q3
  have hE3 : LEnd tx sz v3 en := LE_sub hE2 (by omega) q3.2.2.1
  have q4 := wd_at hE3
  rw [← hv4] at q4
  have hE4 : LEnd tx sz v4 en := LE_sub hE3 (by omega) q4.2.2.1
  have hp : psS tx sz p = wS tx en p := psS_wS hE
  rw [← hv0, ← hs0] at hw
  -- what a line of the reference is, in the class's words
  have hL : ∀ s p9 r g p5, LinA tx sz (psS tx sz p) s p9 r g p5 ↔ wIs tx s0 v0 0 = true ∧ nmV tx en v0 = (s : Int) ∧ nmV tx en v1 = (p9 : Int) ∧ nmV tx en v2 = (r : Int) ∧ nmV tx en v3 = (g : Int) ∧ 1 ≤ s ∧ s ≤ 20 ∧ 1 ≤ p9 ∧ p9 ≤ 60 ∧ r ≤ 99 ∧ g ≤ p9 ∧ p5 = wS tx en v4 := by
    intro s p9 r g p5
    rw [hp]
    constructor
    · rintro ⟨p1, p2, p3, p4, w, n2, n3, n4, n5⟩
      obtain ⟨e1, e2⟩ := (wrd_iff (by omega) hE).mp w
      rw [← hv0] at e1 e2
      subst e2
      obtain ⟨e3, e4, e5, e6⟩ := (num_iff hE0).mp n2
      rw [← hv1] at e6
      subst e6
      obtain ⟨f3, f4, f5, f6⟩ := (num_iff hE1).mp n3
      rw [← hv2] at f6
      subst f6
      obtain ⟨g3, g4, g5, g6⟩ := (num_iff hE2).mp n4
      rw [← hv3] at g6
      subst g6
      obtain ⟨h3, h4, h5, h6⟩ := (num_iff hE3).mp n5
      rw [← hv4] at h6
      rw [← hs0] at e1
      exact ⟨e1, e3, f3, g3, h3, e4, e5, f4, f5, g5, h5, h6⟩
    · rintro ⟨e1, e3, f3, g3, h3, e4, e5, f4, f5, g5, h5, h6⟩
      refine ⟨wS tx en v0, wS tx en v1, wS tx en v2, wS tx en v3, ?_, ?_, ?_, ?_, ?_⟩
      · exact (wrd_iff (by omega) hE).mpr ⟨by rw [← hv0, ← hs0]; exact e1, by rw [← hv0]⟩
      · exact (num_iff hE0).mpr ⟨e3, e4, e5, by rw [← hv1]⟩
      · exact (num_iff hE1).mpr ⟨f3, f4, f5, by rw [← hv2]⟩
      · exact (num_iff hE2).mpr ⟨g3, by omega, g5, by rw [← hv3]⟩
      · exact (num_iff hE3).mpr ⟨h3, by omega, h5, by rw [← hv4]; exact h6⟩
  have hz : ∀ k, 1 ≤ k → k ≤ 20 → clrT t.2.2.2.2.2.1 (t.2.2.2.2.2.2 + 1) 20 ((t.2.2.2.2.2.2 + 1) * 21 + k) = (fun _ => 0 : Nat → Nat) k := by
    intro k h1 h2
    unfold clrT
    rw [if_pos (by omega)]
  by_cases c1 : wIs tx s0 v0 0 = true
  · by_cases c2 : 1 ≤ nmV tx en v0 ∧ nmV tx en v0 ≤ 20 ∧ 1 ≤ nmV tx en v1 ∧ nmV tx en v1 ≤ 60 ∧ 0 ≤ nmV tx en v2 ∧ nmV tx en v2 ≤ 99 ∧ 0 ≤ nmV tx en v3 ∧ nmV tx en v3 ≤ nmV tx en v1 ∧ t.2.2.2.2.2.2 < 40
    · obtain ⟨g1, g2, g3, g4, g5, g6, g7, g8, g9'⟩ := id c2
      obtain ⟨s9, e1⟩ := Int.eq_ofNat_of_zero_le (show 0 ≤ nmV tx en v0 by omega)
      obtain ⟨p8, e2⟩ := Int.eq_ofNat_of_zero_le (show 0 ≤ nmV tx en v1 by omega)
      obtain ⟨r9, e3⟩ := Int.eq_ofNat_of_zero_le g5
      obtain ⟨g9, e4⟩ := Int.eq_ofNat_of_zero_le g7
      obtain ⟨Q9, hQ9⟩ : ∃ Q9 : TbS, Q9 = apS t s9 p8 r9 g9 := ⟨_, rfl⟩
      obtain ⟨R9, hR9⟩ : ∃ R9, R9 = rdR tx en (Q9.1 Q9.2.2.2.2.2.2) Q9.2.2.2.2.2.2 2001 w3 v4 Q9.2.2.2.2.2.1 := ⟨_, rfl⟩
      have hT := tkL_o2 hv0 hs0 hv1 hv2 hv3 hv4 hw3 hw c1 c2 e1 e2 e3 e4 hQ9 hR9
      have hn9 : Q9.2.2.2.2.2.2 = t.2.2.2.2.2.2 + 1 := by rw [hQ9]; rfl
      have hs9 : Q9.1 Q9.2.2.2.2.2.2 = s9 := by rw [hn9, hQ9]; exact updN_s _ _ _
      have hto : Q9.2.2.2.2.2.1 = clrT t.2.2.2.2.2.1 (t.2.2.2.2.2.2 + 1) 20 := by rw [hQ9]; rfl
      rw [hs9, hn9, hto] at hR9
      have hrd := rd_iff (tx := tx) (sz := sz) (en := en) (s0 := s9) (n := t.2.2.2.2.2.2 + 1) 2001 w3 v4 _ (fun _ => 0) hE4 (by have := hE4.2.1; omega) hz
      rw [← hR9] at hrd
      have hall : ∀ s p9 r g r1 q, LnIs tx sz (psS tx sz p) s p9 r g r1 q → s = s9 ∧ p9 = p8 ∧ r = r9 ∧ g = g9 ∧ ∃ F, RdsF tx sz s9 F (wS tx en v4) (fun _ => 0) r1 q := by
        rintro s p9 r g r1 q ⟨p5, F, hA, hR⟩
        obtain ⟨-, i1, i2, i3, i4, -, -, -, -, -, -, i5⟩ := (hL s p9 r g p5).mp hA
        have j1 : s = s9 := by omega
        subst j1
        subst i5
        exact ⟨rfl, by omega, by omega, by omega, F, hR⟩
      rw [hT]
      refine ⟨?_, ?_⟩
      · rw [hrd.1]
        constructor
        · rintro ⟨F, r1, q, h⟩
          exact ⟨g9', s9, p8, r9, g9, r1, q, wS tx en v4, F, (hL s9 p8 r9 g9 _).mpr ⟨c1, e1, e2, e3, e4, by omega, by omega, by omega, by omega, by omega, by omega, rfl⟩, h⟩
        · rintro ⟨-, s, p9, r, g, r1, q, h⟩
          obtain ⟨-, -, -, -, F, hR⟩ := hall s p9 r g r1 q h
          exact ⟨F, r1, q, hR⟩
      · intro _ s p9 r g r1 q h
        obtain ⟨rfl, rfl, rfl, rfl, F, hR⟩ := hall s p9 r g r1 q h
        obtain ⟨k1, k2⟩ := hrd.2.1 F r1 q hR
        refine ⟨k1, R9.2.2.2, by rw [hQ9]; rfl, k2, fun x hx => ?_⟩
        rw [hrd.2.2 x hx]
        unfold clrT
        rw [if_neg (by omega)]
    · have hT := tkL_b2 (t := t) hv0 hs0 hv1 hv2 hv3 hv4 hw3 hw c1 c2
      have hno : t.2.2.2.2.2.2 < 40 → ¬ LnOK tx sz (psS tx sz p) := by
        rintro h40 ⟨s, p9, r, g, r1, q, p5, F, hA, hR⟩
        obtain ⟨-, i1, i2, i3, i4, j1, j2, j3, j4, j5, j6, -⟩ := (hL s p9 r g p5).mp hA
        exact c2 ⟨by omega, by omega, by omega, by omega, by omega, by omega, by omega, by omega, h40⟩
      rw [hT]
      exact ⟨⟨fun h => absurd h Bool.false_ne_true, fun h => absurd h.2 (hno h.1)⟩, fun h40 s p9 r g r1 q h => absurd ⟨s, p9, r, g, r1, q, h⟩ (hno h40)⟩
  · have hT := tkL_n2 (t := t) hv0 hs0 hw c1
    have hno : ¬ LnOK tx sz (psS tx sz p) := by
      rintro ⟨s, p9, r, g, r1, q, p5, F, hA, hR⟩
      exact c1 ((hL s p9 r g p5).mp hA).1
    rw [hT]
    exact ⟨⟨fun h => absurd h Bool.false_ne_true, fun h => absurd h.2 hno⟩, fun h40 s p9 r g r1 q h => absurd ⟨s, p9, r, g, r1, q, h⟩ hno⟩
