/-- the classes and array classes, as the tables have them -/
theorem law_K {s : State} {args : Array Value} (hts : ∀ w ∈ lw_tbl, w.before args s = true) : ∃ (D : va_G) (cI cC : ClassId), va_K D vwCl [(cI, .int), (cC, .char)] s := by
  have hw : ∀ w ∈ wT, w.before args s = true := fun w h => hts w (List.mem_filter.mp h).1
  obtain ⟨c0, i0, k0⟩ := u_known hw clOk_0.2.1 (hw _ nw_W_7.2.1)
  obtain ⟨c1, i1, k1⟩ := u_known hw clOk_1.2.1 (hw _ nw_F_7.2.1)
  obtain ⟨c2, i2, k2⟩ := u_known hw clOk_2.2.1 (hw _ nw_F_19.2.1)
  obtain ⟨c3, i3, k3⟩ := u_known hw clOk_3.2.1 (hw _ nw_F_26.2.1)
  obtain ⟨c4, i4, k4⟩ := u_known hw clOk_4.2.1 (hw _ nw_F_33.2.1)
  obtain ⟨c5, i5, k5⟩ := u_known hw clOk_5.2.1 (hw _ nw_F_42.2.1)
  obtain ⟨c6, i6, k6⟩ := u_known hw clOk_6.2.1 (hw _ nw_W_10.2.1)
  obtain ⟨cI, kI, pI, a1, a2, a3⟩ := Cond.arrayClass_spec (hw _ ac_int)
  obtain ⟨cC, kC, pC, b1, b2, b3⟩ := Cond.arrayClass_spec (hw _ ac_char)
  refine ⟨(fun k => match k with | 0 => c0 | 1 => c1 | 2 => c2 | 3 => c3 | 4 => c4 | 5 => c5 | _ => c6, fun k => match k with | 0 => i0 | 1 => i1 | 2 => i2 | 3 => i3 | 4 => i4 | 5 => i5 | _ => i6), cI, cC, ?_, ?_⟩
  · intro c q hq
    match c, hq with
    | 0, hq => cases hq; exact k0
    | 1, hq => cases hq; exact k1
    | 2, hq => cases hq; exact k2
    | 3, hq => cases hq; exact k3
    | 4, hq => cases hq; exact k4
    | 5, hq => cases hq; exact k5
    | 6, hq => cases hq; exact k6
    | c + 7, hq => simp [vwCl] at hq
  · intro k q hq
    match k, hq with
    | 0, hq => cases hq; exact ⟨fun n z => ⟨fun k h => (by cases h), kI, a2, pI, a3⟩, a1⟩
    | 1, hq => cases hq; exact ⟨fun n z => ⟨fun k h => (by cases h), kC, b2, pC, b3⟩, b1⟩
    | k + 2, hq => simp at hq
