theorem MOK_U {nf sz L n : Nat} {se pe ra ga of ti fm tm tx : Nat → Nat} {Y : Nat × TbS} {U : ILS} {T : TbS} (h : MOK nf se pe ra ga of ti fm tm sz tx) (hI : RDI se pe ra ga ti tx sz Y U L n T) : MOK nf U.1 U.2.1 U.2.2.1 U.2.2.2.1 of U.2.2.2.2.1 fm tm sz tx := by
  obtain ⟨h0, h1, h3, h4, h5, h6, h7, h8, h9, h10, h11, h12⟩ := h
  obtain ⟨⟨b1, b2, b3, b4, b5⟩, i2, -⟩ := hI
  exact ⟨h0, b1, b2, fun j j1 j2 => by rw [(i2 j (by omega)).2.1]; exact h4 j j1 j2, b3, b4, h7, b5, h9, h10, h11, h12⟩
/-- what a read that ends leaves -/
def RDB (se pe ra ga ti : Nat → Nat) (u : ILS) : Prop := ((∀ j, u.1 j ≤ 20) ∧ (∀ j, u.2.1 j ≤ 60) ∧ (∀ j, u.2.2.1 j ≤ 99) ∧ (∀ j, u.2.2.2.1 j ≤ 60) ∧ ∀ j, u.2.2.2.2.1 j ≤ 10000) ∧ (∀ j, j ≤ 41 → u.1 j = se j ∧ u.2.1 j = pe j ∧ u.2.2.1 j = ra j ∧ u.2.2.2.1 j = ga j) ∧ ∀ x, x ≤ 881 → u.2.2.2.2.1 x = ti x
theorem RDB_of {se pe ra ga ti tx : Nat → Nat} {sz L n p : Nat} {Y : Nat × TbS} {U V : ILS} {T : TbS} (h : RDI se pe ra ga ti tx sz Y U L n T) (hV : ILP U.1 U.2.1 U.2.2.1 U.2.2.2.1 U.2.2.2.2.1 tx sz p (n + 1) V) : RDB se pe ra ga ti V := by
  obtain ⟨h1, h2, h3, h4, h5, h6⟩ := h
  obtain ⟨b1, b2, b3, b4⟩ := hV
  refine ⟨b1, ?_, fun x hx => (b3 x (by omega)).trans (h3 x hx)⟩
  intro j hj
  obtain ⟨d1, d2, d3, d4⟩ := b2 j (by omega)
  obtain ⟨e1, e2, e3, e4⟩ := h2 j hj
  exact ⟨d1.trans e1, d2.trans e2, d3.trans e3, d4.trans e4⟩
/-- what a read of a text leaves: the class's draft in the rows 42 on -/
def RDK (T : TbS) (u : ILS) : Prop := ((∀ j, u.1 j ≤ 20) ∧ (∀ j, u.2.1 j ≤ 60) ∧ (∀ j, u.2.2.1 j ≤ 99) ∧ (∀ j, u.2.2.2.1 j ≤ 60) ∧ ∀ j, u.2.2.2.2.1 j ≤ 10000) ∧ T.2.2.2.2.2.2 ≤ 40 ∧
  (∀ j, 1 ≤ j → j ≤ T.2.2.2.2.2.2 → T.1 j = u.1 (41 + j) ∧ T.2.1 j = u.2.1 (41 + j) ∧ 1 ≤ T.2.1 j ∧ T.2.2.1 j = u.2.2.1 (41 + j) ∧ T.2.2.2.1 j = u.2.2.2.1 (41 + j) ∧ T.2.2.2.2.1 j = 0 ∧ ∀ k, 1 ≤ k → k ≤ 20 → T.2.2.2.2.2.1 (j * 21 + k) = u.2.2.2.2.1 (21 * (41 + j) + k))
theorem RDK_of {se pe ra ga ti tx : Nat → Nat} {sz L n : Nat} {Y : Nat × TbS} {U : ILS} {T : TbS} (h : RDI se pe ra ga ti tx sz Y U L n T) (hp : ¬ U.2.2.2.2.2.1 < sz) : RDK Y.2 U ∧ Y.2.2.2.2.2.2.2 = n := by
  have e := RDI_end h hp
  obtain ⟨h1, h2, h3, h4, h5, h6⟩ := h
  rw [e]
  exact ⟨⟨h1, by show T.2.2.2.2.2.2 ≤ 40; omega, fun j a b => h5 j a (by have b' : j ≤ T.2.2.2.2.2.2 := b; omega)⟩, h4.1⟩
