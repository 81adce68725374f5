/-- the two literals -/
def tmS (i : Nat) : Term := if i = 0 then Term.string "FrameTables$Parser" 48 else Term.string "FrameTables$Parser" 81
theorem two {P : Nat → Prop} (h0 : P 0) (h1 : P 1) : ∀ i, i < nSt → P i := by
  intro i hi
  match i, hi with
  | 0, _ => exact h0
  | 1, _ => exact h1
  | i + 2, hi => exact absurd hi (by show ¬ i + 2 < 2; omega)
theorem five {P : Nat → Prop} (h0 : P 0) (h1 : P 1) (h2 : P 2) (h3 : P 3) (h4 : P 4) : ∀ i, i < 5 → P i := by
  intro i hi
  match i, hi with
  | 0, _ => exact h0
  | 1, _ => exact h1
  | 2, _ => exact h2
  | 3, _ => exact h3
  | 4, _ => exact h4
  | i + 5, hi => exact absurd hi (by omega)
theorem nest_in : ∀ q ∈ wN, Cond.methodLinkNest q.1 q.2.1 q.2.2.1 q.2.2.2 ∈ lw_tbl := by decide +kernel
theorem sref_in : ∀ q ∈ sRf, Cond.stringRef q.1 q.2.1 q.2.2.1 ∈ lw_tbl := by decide +kernel
set_option maxHeartbeats 4000000 in
theorem law_SF {s : State} {args : Array Value} (hts : ∀ w ∈ lw_tbl, w.before args s = true) (hgv : (Jvm.Cond.and given_1 narrow_1).before args s = true) : ∃ E : Nat → Nat, SF E (fun q => s.heap.size ≤ q) s := by
  have hs := flat_of_before _ hgv
  have hA : ∀ a : Nat, a < s.heap.size → ¬ (fun q : Nat => s.heap.size ≤ q) a := fun a h => Nat.not_le.mpr h
  have hn := hs (.not (.eq (Term.string "FrameTables$Parser" 48) (Term.string "FrameTables$Parser" 81))) (by decide +kernel)
  have hne : ∀ i, i < nSt → ∀ j, j < nSt → i ≠ j → (Cond.not (Cond.eq (tmS i) (tmS j))).before args s = true ∨ (Cond.not (Cond.eq (tmS j) (tmS i))).before args s = true := two (two (fun h => absurd rfl h) (fun _ => Or.inl hn)) (two (fun _ => Or.inr hn) (fun h => absurd rfl h))
  obtain ⟨adK, adV, hS, hev⟩ := vk_Sof (args := args) (s := s) (N := nSt) (tm := tmS) (len := sLen) (byt := sByt) (A := fun q => s.heap.size ≤ q) (two (by decide) (by decide))
    (two (hs (.exactly (Term.string "FrameTables$Parser" 48) "java/lang/String") (by decide +kernel)) (hs (.exactly (Term.string "FrameTables$Parser" 81) "java/lang/String") (by decide +kernel)))
    (two (hs (.eq (.field (Term.string "FrameTables$Parser" 48) "java/lang/String" "coder" "B") (.int 0)) (by decide +kernel)) (hs (.eq (.field (Term.string "FrameTables$Parser" 81) "java/lang/String" "coder" "B") (.int 0)) (by decide +kernel)))
    (two (hs (.arrayOf (.field (Term.string "FrameTables$Parser" 48) "java/lang/String" "value" "[B") .byte) (by decide +kernel)) (hs (.arrayOf (.field (Term.string "FrameTables$Parser" 81) "java/lang/String" "value" "[B") .byte) (by decide +kernel)))
    (two (hs (.eq (.length (.field (Term.string "FrameTables$Parser" 48) "java/lang/String" "value" "[B")) (.int 5)) (by decide +kernel)) (hs (.eq (.length (.field (Term.string "FrameTables$Parser" 81) "java/lang/String" "value" "[B")) (.int 5)) (by decide +kernel)))
    (two (five (hs (.eq (.elem (.field (Term.string "FrameTables$Parser" 48) "java/lang/String" "value" "[B") (.int 0)) (.int 102)) (by decide +kernel)) (hs (.eq (.elem (.field (Term.string "FrameTables$Parser" 48) "java/lang/String" "value" "[B") (.int 1)) (.int 114)) (by decide +kernel)) (hs (.eq (.elem (.field (Term.string "FrameTables$Parser" 48) "java/lang/String" "value" "[B") (.int 2)) (.int 97)) (by decide +kernel)) (hs (.eq (.elem (.field (Term.string "FrameTables$Parser" 48) "java/lang/String" "value" "[B") (.int 3)) (.int 109)) (by decide +kernel)) (hs (.eq (.elem (.field (Term.string "FrameTables$Parser" 48) "java/lang/String" "value" "[B") (.int 4)) (.int 101)) (by decide +kernel))) (five (hs (.eq (.elem (.field (Term.string "FrameTables$Parser" 81) "java/lang/String" "value" "[B") (.int 0)) (.int 114)) (by decide +kernel)) (hs (.eq (.elem (.field (Term.string "FrameTables$Parser" 81) "java/lang/String" "value" "[B") (.int 1)) (.int 101)) (by decide +kernel)) (hs (.eq (.elem (.field (Term.string "FrameTables$Parser" 81) "java/lang/String" "value" "[B") (.int 2)) (.int 97)) (by decide +kernel)) (hs (.eq (.elem (.field (Term.string "FrameTables$Parser" 81) "java/lang/String" "value" "[B") (.int 3)) (.int 100)) (by decide +kernel)) (hs (.eq (.elem (.field (Term.string "FrameTables$Parser" 81) "java/lang/String" "value" "[B") (.int 4)) (.int 115)) (by decide +kernel))))
    (fun i j hi hj hij => hne i hi j hj hij) hA
  refine ⟨fun i => if i < 2 then adK i else adV (i - 2), fun q hq => va_Nw.of rfl (hts _ (nest_in q hq)), ?_, ?_, ?_, ?_⟩
  · have e0 := hev 0 (by decide)
    have e1 := hev 1 (by decide)
    have f0 := va_eqR (hs (.eq (Term.string "FrameTables$Parser" 48) (Term.string "FrameTables" 177)) (by decide +kernel)) e0
    have f1 := va_eqR (hs (.eq (Term.string "FrameTables$Parser" 81) (Term.string "FrameTables" 195)) (by decide +kernel)) e1
    have hm := fun q hq => hts _ (sref_in q hq)
    intro q hq
    have h9 := hm q hq
    simp only [sRf, List.mem_cons, List.not_mem_nil, or_false] at hq
    rcases hq with rfl | rfl | rfl | rfl
    · exact vk_R.of h9 e0
    · exact vk_R.of h9 e1
    · exact vk_R.of h9 f0
    · exact vk_R.of h9 f1
  · refine ⟨two (hS.1 0 (by decide)) (hS.1 1 (by decide)), ?_⟩
    intro i j hi hj h
    have hi2 : i < 2 := hi
    have hj2 : j < 2 := hj
    dsimp only at h
    rw [if_pos hi2, if_pos hj2] at h
    exact hS.2 i j hi hj h
  · exact va_Zof (hts (.laysStatic "java/lang/String" "COMPACT_STRINGS" "Z") (by decide +kernel)) (hts (.initialized "java/lang/String") (by decide +kernel)) (va_eqi (hs (.eq (.static "java/lang/String" "COMPACT_STRINGS" "Z") (.int 1)) (by decide +kernel))) hA
  · rcases va_Zqof (hts (.laysStatic "jdk/internal/util/Preconditions" "SIOOBE_FORMATTER" "Ljava/util/function/BiFunction;") (by decide +kernel)) (hts (.initialized "jdk/internal/util/Preconditions") (by decide +kernel)) (hs (.isRef (.static "jdk/internal/util/Preconditions" "SIOOBE_FORMATTER" "Ljava/util/function/BiFunction;")) (by decide +kernel)) hA with h | ⟨t, h⟩
    · exact ⟨.null, Or.inl rfl, h⟩
    · exact ⟨.ref t, Or.inr ⟨t, rfl⟩, h⟩
/-- what the walk of the law needs of its entry -/
theorem law_Cx {p : Program} {s : State} {m : MethodId} {meth : Method} {c : Code} {b L : Nat} {xs : Nat → Int32} (C0 : lw_At p s m meth c b L xs) : ∃ (D : va_G) (cI cC : ClassId) (E : Nat → Nat), Cx p s m #[Value.ref b] meth c code 4 "FrameTablesLaw" D (TY cI cC E) (fun q => s.heap.size ≤ q) := by
  obtain ⟨hx, hb, hr, hml, hown, hts, hX, hbl, hlocks, hgv⟩ := C0
  obtain ⟨D, cI, cC, hK⟩ := law_K hts
  obtain ⟨E, hF⟩ := law_SF hts hgv
  exact ⟨D, cI, cC, E, hx, hb, hml, hown, fun w h => hts w (List.mem_filter.mp h).1, hK, fun _ h => h, hlocks, hF⟩
