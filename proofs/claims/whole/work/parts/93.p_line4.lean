theorem LnIs_p {tx : Nat → Nat} {sz pl s p r g q : Nat} {r1 : Nat → Nat} (h : LnIs tx sz pl s p r g r1 q) : 1 ≤ p := by
  obtain ⟨p5, F, ⟨p1, p2, p3, p4, w, n2, n3, n4, n5⟩, hR⟩ := h
  exact n3.2.2.2.2.1
/-- a line more -/
theorem RDI_t {se0 pe0 ra0 ga0 ti0 tx : Nat → Nat} {sz L n : Nat} {Y : Nat × TbS} {U V : ILS} {T : TbS} (h : RDI se0 pe0 ra0 ga0 ti0 tx sz Y U L n T) (hp : U.2.2.2.2.2.1 < sz) (hs : sz ≤ 2000) (he : a0 tx sz (psS tx sz U.2.2.2.2.2.1) ≠ 10) (hok : n + 1 ≤ 40 ∧ LnOK tx sz (psS tx sz U.2.2.2.2.2.1)) (hV : ILP U.1 U.2.1 U.2.2.1 U.2.2.2.1 U.2.2.2.2.1 tx sz (psS tx sz U.2.2.2.2.2.1) (n + 1) V) : (U.2.2.2.2.2.1 ≤ V.2.2.2.2.2.1 ∧ V.2.2.2.2.2.1 ≤ sz) ∧ ∃ T', RDI se0 pe0 ra0 ga0 ti0 tx sz Y (V.1, V.2.1, V.2.2.1, V.2.2.2.1, V.2.2.2.2.1, V.2.2.2.2.2.1 + 1, V.2.2.2.2.2.2) (L + 1) (n + 1) T' := by
  obtain ⟨en, hE, hw⟩ := RDI_w h hp hs he
  obtain ⟨h1, h2, h3, h4, h5, h6⟩ := h
  obtain ⟨b1, b2, b3, b4⟩ := hV
  have hl := line_iff (t := T) hE hw hs
  have hn := h4.1
  have htk : (tkL tx U.2.2.2.2.2.1 en T).1 = true := hl.1.mpr ⟨by omega, hok.2⟩
  obtain ⟨s, p9, r, g, r1, q, hLn⟩ := hok.2
  have hp9 := LnIs_p hLn
  obtain ⟨hq, to', hT', ht1, ht2⟩ := hl.2 (by omega) s p9 r g r1 q hLn
  obtain ⟨c1, c2, c3, c4, c5, c6⟩ := b4 hok.1 s p9 r g r1 q hLn
  rw [flO_t hE htk, hT'] at h6
  rw [hn] at ht1 ht2
  refine ⟨by rw [c6, hq]; exact ⟨hE.1, hE.2.1⟩, ((apS T s p9 r g).1, (apS T s p9 r g).2.1, (apS T s p9 r g).2.2.1, (apS T s p9 r g).2.2.2.1, (apS T s p9 r g).2.2.2.2.1, to', T.2.2.2.2.2.2 + 1), b1, ?_, ?_, ⟨by show T.2.2.2.2.2.2 + 1 = n + 1; omega, hok.1⟩, ?_, ?_⟩
  rotate_left 3
  · show flO tx sz (sz + 1 - (V.2.2.2.2.2.1 + 1)) (L + 1 + 1) (V.2.2.2.2.2.1 + 1) _ = Y
    rw [c6, hq]
    exact h6
  · intro j hj
    obtain ⟨d1, d2, d3, d4⟩ := b2 j (by omega)
    obtain ⟨e1, e2, e3, e4⟩ := h2 j hj
    exact ⟨d1.trans e1, d2.trans e2, d3.trans e3, d4.trans e4⟩
  · intro x hx
    exact (b3 x (by omega)).trans (h3 x hx)
  · intro j hj1 hj2
    by_cases e : j = n + 1
    · subst e
      have hu : ∀ (f : Nat → Nat) (v : Nat), updN f (T.2.2.2.2.2.2 + 1) v (n + 1) = v := fun f v => by rw [hn]; exact updN_s _ _ _
      refine ⟨(hu _ _).trans c1.symm, (hu _ _).trans c2.symm, ?_, (hu _ _).trans c3.symm, (hu _ _).trans c4.symm, hu _ _, fun k k1 k2 => (ht1 k k1 k2).trans (c5 k k1 k2).symm⟩
      show 1 ≤ updN T.2.1 (T.2.2.2.2.2.2 + 1) p9 (n + 1)
      rw [hu]
      exact hp9
    · have hu : ∀ (f : Nat → Nat) (v : Nat), updN f (T.2.2.2.2.2.2 + 1) v j = f j := fun f v => updN_n (by omega)
      obtain ⟨d1, d2, d3, d4⟩ := b2 (41 + j) (by omega)
      obtain ⟨g1, g2, g3, g4, g5, g6, g7⟩ := h5 j hj1 (by omega)
      refine ⟨(hu _ _).trans (g1.trans d1.symm), (hu _ _).trans (g2.trans d2.symm), ?_, (hu _ _).trans (g4.trans d3.symm), (hu _ _).trans (g5.trans d4.symm), (hu _ _).trans g6, fun k k1 k2 => ?_⟩
      · show 1 ≤ updN T.2.1 (T.2.2.2.2.2.2 + 1) p9 j
        rw [hu]
        exact g3
      · show to' (j * 21 + k) = V.2.2.2.2.1 (21 * (41 + j) + k)
        rw [ht2 (j * 21 + k) (by omega), g7 k k1 k2, b3 (21 * (41 + j) + k) (by omega)]
theorem RDI_0 {se pe ra ga ti tx : Nat → Nat} {sz nu : Nat} {T : TbS} (h1 : (∀ j, se j ≤ 20) ∧ (∀ j, pe j ≤ 60) ∧ (∀ j, ra j ≤ 99) ∧ (∀ j, ga j ≤ 60) ∧ ∀ j, ti j ≤ 10000) (hT : T.2.2.2.2.2.2 = 0) : RDI se pe ra ga ti tx sz (flO tx sz (sz + 1) 1 0 T) (se, pe, ra, ga, ti, 0, nu) 0 0 T := ⟨h1, fun _ _ => ⟨rfl, rfl, rfl, rfl⟩, fun _ _ => rfl, ⟨hT, by omega⟩, fun j a b => by omega, rfl⟩
