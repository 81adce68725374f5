set_option maxHeartbeats 4000000 in
set_option maxRecDepth 100000 in
theorem c_M_clearLoad (l : Launch) (D : va_G) (cI cC : ClassId) (E : Nat → Nat) (w : Nat → Nat) (nf : Nat) (se pe ra ga of ti fm tm : Nat → Nat) (ex : Bool) (sz : Nat) (tx ld : Nat → Nat) (ro : Nat → Int) (wh be : Nat → Nat) (pl nu : Nat) (hz : ∀ u, 420 ≤ u → ld u = 0) : CV l D (TY cI cC E) m_M_clearLoad (rmD 0) [.ref (w 0)] (ModW w cI nf se pe ra ga of ti fm tm ex sz tx ld ro wh be pl nu) (ModW w cI nf se pe ra ga of ti fm tm ex sz tx (fun _ => 0) ro wh be pl nu) := by
  refine CN.of (by decide +kernel) (of_decide_eq_true rfl) ?_
  intro p e s m args below meth c C hr hin
  refine V.iconst C (v := nI 0) (n := 1) d_M_clearLoad_0 (by decide) rfl ?_
  refine V.istore_n C (n := 2) (lv' := [(0, .ref (w 0)), (1, .int (nI 0))]) [1, 0] d_M_clearLoad_1 rfl (by decide) rfl rfl ?_
  refine V.ind2 C (fun (j : Nat) (b : Nat → Nat) => (ModW w cI nf se pe ra ga of ti fm tm ex sz tx b ro wh be pl nu)) (fun (j : Nat) (b : Nat → Nat) => [(0, .ref (w 0)), (1, .int (nI j))]) (fun (j : Nat) (b : Nat → Nat) => (j ≤ 420) ∧ (b = zer ld j)) (fun (j : Nat) (b : Nat → Nat) => 420 - j) (0) (ld) ⟨by omega, (zer_0 ld).symm⟩ rfl rfl ?_
  rintro j b ⟨hj, hb⟩ ih2
  try dsimp only
  refine V.iload_n C (n := 3) (j := 1) d_M_clearLoad_2 rfl rfl rfl ?_
  refine V.sipush C (v := nI 420) (n := 6) d_M_clearLoad_3 (by decide) rfl ?_
  refine V.icmpn_ge C (tgt := 22) (n := 9) (by omega) (by omega) d_M_clearLoad_6 (by decide) rfl (fun c6_1 => ?_) (fun c6_1 => ?_)
  · exact V.vret C hr d_M_clearLoad_22 () (trivial) (by rw [hb, show j = 420 by omega, zer_all hz])
  · refine V.aload_n C (n := 10) (j := 0) d_M_clearLoad_9 rfl rfl rfl ?_
    refine V.get C (n := 13) (q0 := 0) (k0 := 13) clOk_6 rfl (by decide) rfl fl_M_37 rfl d_M_clearLoad_10 rfl ?_
    refine V.iload_n C (n := 14) (j := 1) d_M_clearLoad_13 rfl rfl rfl ?_
    refine V.iconst C (v := nI 0) (n := 15) d_M_clearLoad_14 (by decide) rfl ?_
    refine V.iastore_n C (n := 16) (q0 := 10) (t0 := 0) (i := j) (ws' := (ModW w cI nf se pe ra ga of ti fm tm ex sz tx (updN b j 0) ro wh be pl nu)) rfl rfl (by omega) (by decide) rfl d_M_clearLoad_15 rfl ?_
    refine V.iinc C (n := 19) (j := 1) (v := nI (j + 1)) (lv' := [(0, .ref (w 0)), (1, .int (nI (j + 1)))]) [1, 0] d_M_clearLoad_16 rfl (nI_inc (j) 1) (by decide) rfl rfl ?_
    refine V.goto C (n := 2) d_M_clearLoad_19 (by decide) ?_
    exact ih2 (j + 1) (updN b j 0) ⟨by omega, by rw [hb]; exact zer_s ld j⟩ (by omega)
set_option maxHeartbeats 4000000 in
set_option maxRecDepth 100000 in
theorem c_M_begin_up (l : Launch) (D : va_G) (cI cC : ClassId) (E : Nat → Nat) (w : Nat → Nat) (nf : Nat) (se pe ra ga of ti fm tm : Nat → Nat) (ex : Bool) (sz : Nat) (tx ld : Nat → Nat) (ro : Nat → Int) (wh be : Nat → Nat) (pl nu : Nat) (f off : Nat) (hM : MOK nf se pe ra ga of ti fm tm sz tx) (hf : f ≤ 81 ∧ 1 ≤ pe f) (ho : off ≤ 60) (hld : ∀ j, ld j ≤ 100000) : CV l D (TY cI cC E) m_M_begin (rmD 0) [.ref (w 0), .int (nI f), .int (nI off), .int (nI 1)] (ModW w cI nf se pe ra ga of ti fm tm ex sz tx ld ro wh be pl nu) (ModW w cI nf se pe ra ga of ti fm tm ex sz tx (addH (pe f) off ld 420) ro wh be pl nu) := by
  obtain ⟨hnf, hse, hpe, hp1, hra, hga, hof, hti, hfm, htm, hsz, htx⟩ := id hM
  have hpf := hpe f
  refine CN.of (by decide +kernel) (of_decide_eq_true rfl) ?_
  intro p e s m args below meth c C hr hin
  refine V.iload_n C (n := 1) (j := 2) d_M_begin_0 rfl rfl rfl ?_
  refine V.istore C (n := 3) (lv' := [(0, .ref (w 0)), (1, .int (nI f)), (2, .int (nI off)), (3, .int (nI 1)), (4, .int (nI off))]) [1, 2, 3, 4, 0] d_M_begin_1 (by decide) rfl rfl ?_
  refine V.ind2 C (fun (t : Nat) (b : Nat → Nat) => (ModW w cI nf se pe ra ga of ti fm tm ex sz tx b ro wh be pl nu)) (fun (t : Nat) (b : Nat → Nat) => [(0, .ref (w 0)), (1, .int (nI f)), (2, .int (nI off)), (3, .int (nI 1)), (4, .int (nI t))]) (fun (t : Nat) (b : Nat → Nat) => (t ≤ 480) ∧ (∃ k, t = off + k * (pe f)) ∧ (b = addH (pe f) off ld t)) (fun (t : Nat) (b : Nat → Nat) => 480 - t) (off) (ld) ⟨by omega, ⟨0, by omega⟩, (addH_0 _ _ _).symm⟩ rfl rfl ?_
  rintro t b ⟨ht, hk, hp⟩ ih3
  try dsimp only
  refine V.iload C (n := 5) (j := 4) d_M_begin_3 rfl rfl ?_
  refine V.sipush C (v := nI 420) (n := 8) d_M_begin_5 (by decide) rfl ?_
  refine V.icmpn_ge C (tgt := 36) (n := 11) (by omega) (by omega) d_M_begin_8 (by decide) rfl (fun c8_1 => ?_) (fun c8_1 => ?_)
  · exact V.vret C hr d_M_begin_36 () (trivial) (by rw [hp, addH_big (by omega)])
  · refine V.aload_n C (n := 12) (j := 0) d_M_begin_11 rfl rfl rfl ?_
    refine V.get C (n := 15) (q0 := 0) (k0 := 13) clOk_6 rfl (by decide) rfl fl_M_37 rfl d_M_begin_12 rfl ?_
    refine V.iload C (n := 17) (j := 4) d_M_begin_15 rfl rfl ?_
    refine V.dup2 C (n := 18) d_M_begin_17 rfl rfl rfl ?_
    refine V.iaload_n C (n := 19) (q0 := 10) (t0 := 0) (i := t) rfl rfl (by omega) (by decide) d_M_begin_18 rfl ?_
    have b_1 := True.intro
    refine V.iload_n C (n := 20) (j := 3) d_M_begin_19 rfl rfl rfl ?_
    refine V.iadd_n C (n := 21) d_M_begin_20 rfl ?_
    refine V.iastore_n C (n := 22) (q0 := 10) (t0 := 0) (i := t) (ws' := (ModW w cI nf se pe ra ga of ti fm tm ex sz tx (updN b t ((b t) + 1)) ro wh be pl nu)) rfl rfl (by omega) (by decide) rfl d_M_begin_21 rfl ?_
    refine V.iload C (n := 24) (j := 4) d_M_begin_22 rfl rfl ?_
    refine V.aload_n C (n := 25) (j := 0) d_M_begin_24 rfl rfl rfl ?_
    refine V.get C (n := 28) (q0 := 0) (k0 := 3) clOk_6 rfl (by decide) rfl fl_M_13 rfl d_M_begin_25 rfl ?_
    refine V.iload_n C (n := 29) (j := 1) d_M_begin_28 rfl rfl rfl ?_
    refine V.iaload_n C (n := 30) (q0 := 2) (t0 := 0) (i := f) rfl rfl (by omega) (by decide) d_M_begin_29 rfl ?_
    have b_2 := hpe (f)
    refine V.iadd_n C (n := 31) d_M_begin_30 rfl ?_
    refine V.istore C (n := 33) (lv' := [(0, .ref (w 0)), (1, .int (nI f)), (2, .int (nI off)), (3, .int (nI 1)), (4, .int (nI (t + (pe f))))]) [1, 2, 3, 4, 0] d_M_begin_31 (by decide) rfl rfl ?_
    refine V.goto C (n := 3) d_M_begin_33 (by decide) ?_
    exact ih3 (t + (pe f)) (updN b t ((b t) + 1)) ⟨by omega, by obtain ⟨k, hk⟩ := hk; exact ⟨k + 1, by rw [hk, Nat.succ_mul]; omega⟩, by rw [hp]; exact addH_s (by omega) hk (by omega)⟩ (by omega)
set_option maxHeartbeats 4000000 in
set_option maxRecDepth 100000 in
theorem c_M_begin_dn (l : Launch) (D : va_G) (cI cC : ClassId) (E : Nat → Nat) (w : Nat → Nat) (nf : Nat) (se pe ra ga of ti fm tm : Nat → Nat) (ex : Bool) (sz : Nat) (tx ld : Nat → Nat) (ro : Nat → Int) (wh be : Nat → Nat) (pl nu : Nat) (f off : Nat) (hM : MOK nf se pe ra ga of ti fm tm sz tx) (hf : f ≤ 81 ∧ 1 ≤ pe f) (ho : off ≤ 60) (hld : ∀ j, ld j ≤ 100000) (hpos : ∀ t, (∃ k, t = off + k * (pe f)) → t < 420 → 1 ≤ ld t) : CV l D (TY cI cC E) m_M_begin (rmD 0) [.ref (w 0), .int (nI f), .int (nI off), .int (iI (-1))] (ModW w cI nf se pe ra ga of ti fm tm ex sz tx ld ro wh be pl nu) (ModW w cI nf se pe ra ga of ti fm tm ex sz tx (subH (pe f) off ld 420) ro wh be pl nu) := by
  obtain ⟨hnf, hse, hpe, hp1, hra, hga, hof, hti, hfm, htm, hsz, htx⟩ := id hM
  have hpf := hpe f
  refine CN.of (by decide +kernel) (of_decide_eq_true rfl) ?_
  intro p e s m args below meth c C hr hin
  refine V.iload_n C (n := 1) (j := 2) d_M_begin_0 rfl rfl rfl ?_
  refine V.istore C (n := 3) (lv' := [(0, .ref (w 0)), (1, .int (nI f)), (2, .int (nI off)), (3, .int (iI (-1))), (4, .int (nI off))]) [1, 2, 3, 4, 0] d_M_begin_1 (by decide) rfl rfl ?_
  refine V.ind2 C (fun (t : Nat) (b : Nat → Nat) => (ModW w cI nf se pe ra ga of ti fm tm ex sz tx b ro wh be pl nu)) (fun (t : Nat) (b : Nat → Nat) => [(0, .ref (w 0)), (1, .int (nI f)), (2, .int (nI off)), (3, .int (iI (-1))), (4, .int (nI t))]) (fun (t : Nat) (b : Nat → Nat) => (t ≤ 480) ∧ (∃ k, t = off + k * (pe f)) ∧ (b = subH (pe f) off ld t)) (fun (t : Nat) (b : Nat → Nat) => 480 - t) (off) (ld) ⟨by omega, ⟨0, by omega⟩, (subH_0 _ _ _).symm⟩ rfl rfl ?_
  rintro t b ⟨ht, hk, hp⟩ ih3
  try dsimp only
  refine V.iload C (n := 5) (j := 4) d_M_begin_3 rfl rfl ?_
  refine V.sipush C (v := nI 420) (n := 8) d_M_begin_5 (by decide) rfl ?_
  refine V.icmpn_ge C (tgt := 36) (n := 11) (by omega) (by omega) d_M_begin_8 (by decide) rfl (fun c8_1 => ?_) (fun c8_1 => ?_)
  · exact V.vret C hr d_M_begin_36 () (trivial) (by rw [hp, subH_big (by omega)])
  · refine V.aload_n C (n := 12) (j := 0) d_M_begin_11 rfl rfl rfl ?_
    refine V.get C (n := 15) (q0 := 0) (k0 := 13) clOk_6 rfl (by decide) rfl fl_M_37 rfl d_M_begin_12 rfl ?_
    refine V.iload C (n := 17) (j := 4) d_M_begin_15 rfl rfl ?_
    refine V.dup2 C (n := 18) d_M_begin_17 rfl rfl rfl ?_
    refine V.iaload_n C (n := 19) (q0 := 10) (t0 := 0) (i := t) rfl rfl (by omega) (by decide) d_M_begin_18 rfl ?_
    have b_1 := True.intro
    refine V.iload_n C (n := 20) (j := 3) d_M_begin_19 rfl rfl rfl ?_
    refine V.iadd_z C (n := 21) d_M_begin_20 (nI_iI (b t)) rfl rfl ?_
    refine V.cv C (y := nI (b t - 1)) (iI_ton (by have h9 : 1 ≤ b t := (by rw [hp, subH_at]; exact hpos t hk (by omega)); omega)) ?_
    refine V.iastore_n C (n := 22) (q0 := 10) (t0 := 0) (i := t) (ws' := (ModW w cI nf se pe ra ga of ti fm tm ex sz tx (updN b t (b t - 1)) ro wh be pl nu)) rfl rfl (by omega) (by decide) rfl d_M_begin_21 rfl ?_
    refine V.iload C (n := 24) (j := 4) d_M_begin_22 rfl rfl ?_
    refine V.aload_n C (n := 25) (j := 0) d_M_begin_24 rfl rfl rfl ?_
    refine V.get C (n := 28) (q0 := 0) (k0 := 3) clOk_6 rfl (by decide) rfl fl_M_13 rfl d_M_begin_25 rfl ?_
    refine V.iload_n C (n := 29) (j := 1) d_M_begin_28 rfl rfl rfl ?_
    refine V.iaload_n C (n := 30) (q0 := 2) (t0 := 0) (i := f) rfl rfl (by omega) (by decide) d_M_begin_29 rfl ?_
    have b_2 := hpe (f)
    refine V.iadd_n C (n := 31) d_M_begin_30 rfl ?_
    refine V.istore C (n := 33) (lv' := [(0, .ref (w 0)), (1, .int (nI f)), (2, .int (nI off)), (3, .int (iI (-1))), (4, .int (nI (t + (pe f))))]) [1, 2, 3, 4, 0] d_M_begin_31 (by decide) rfl rfl ?_
    refine V.goto C (n := 3) d_M_begin_33 (by decide) ?_
    exact ih3 (t + (pe f)) (updN b t (b t - 1)) ⟨by omega, by obtain ⟨k, hk⟩ := hk; exact ⟨k + 1, by rw [hk, Nat.succ_mul]; omega⟩, by rw [hp]; exact subH_s (by omega) hk (by omega)⟩ (by omega)
set_option maxHeartbeats 4000000 in
set_option maxRecDepth 100000 in
theorem c_M_peak (l : Launch) (D : va_G) (cI cC : ClassId) (E : Nat → Nat) (w : Nat → Nat) (nf : Nat) (se pe ra ga of ti fm tm : Nat → Nat) (ex : Bool) (sz : Nat) (tx ld : Nat → Nat) (ro : Nat → Int) (wh be : Nat → Nat) (pl nu : Nat) (hld : ∀ j, ld j ≤ 100000) : CI l D (TY cI cC E) m_M_peak (rmD 0) [.ref (w 0)] ((ModW w cI nf se pe ra ga of ti fm tm ex sz tx ld ro wh be pl nu)) (nI (mxA ld 420)) ((ModW w cI nf se pe ra ga of ti fm tm ex sz tx ld ro wh be pl nu)) := by
  refine CI.of (by decide +kernel) (of_decide_eq_true rfl) ?_
  intro p e s m args below meth c C hr
  refine V.iconst C (v := nI 0) (n := 1) d_M_peak_0 (by decide) rfl ?_
  refine V.istore_n C (n := 2) (lv' := [(0, .ref (w 0)), (1, .int (nI 0))]) [1, 0] d_M_peak_1 rfl (by decide) rfl rfl ?_
  refine V.iconst C (v := nI 0) (n := 3) d_M_peak_2 (by decide) rfl ?_
  refine V.istore_n C (n := 4) (lv' := [(0, .ref (w 0)), (1, .int (nI 0)), (2, .int (nI 0))]) [1, 2, 0] d_M_peak_3 rfl (by decide) rfl rfl ?_
  refine V.ind2 C (fun (j : Nat) (mo : Nat) => (ModW w cI nf se pe ra ga of ti fm tm ex sz tx ld ro wh be pl nu)) (fun (j : Nat) (mo : Nat) => [(0, .ref (w 0)), (1, .int (nI mo)), (2, .int (nI j))]) (fun (j : Nat) (mo : Nat) => (j ≤ 420) ∧ (mo = mxA ld j) ∧ (mo ≤ 100000)) (fun (j : Nat) (mo : Nat) => 420 - j) (0) (0) ⟨by omega, rfl, by omega⟩ rfl rfl ?_
  rintro j mo ⟨hj, ha, hb⟩ ih4
  try dsimp only
  refine V.iload_n C (n := 5) (j := 2) d_M_peak_4 rfl rfl rfl ?_
  refine V.sipush C (v := nI 420) (n := 8) d_M_peak_5 (by decide) rfl ?_
  refine V.icmpn_ge C (tgt := 38) (n := 11) (by omega) (by omega) d_M_peak_8 (by decide) rfl (fun c8_1 => ?_) (fun c8_1 => ?_)
  · refine V.iload_n C (n := 39) (j := 1) d_M_peak_38 rfl rfl rfl ?_
    exact V.iret C hr d_M_peak_39 (by rw [ha, show j = 420 by omega]) (rfl)
  · refine V.aload_n C (n := 12) (j := 0) d_M_peak_11 rfl rfl rfl ?_
    refine V.get C (n := 15) (q0 := 0) (k0 := 13) clOk_6 rfl (by decide) rfl fl_M_37 rfl d_M_peak_12 rfl ?_
    refine V.iload_n C (n := 16) (j := 2) d_M_peak_15 rfl rfl rfl ?_
    refine V.iaload_n C (n := 17) (q0 := 10) (t0 := 0) (i := j) rfl rfl (by omega) (by decide) d_M_peak_16 rfl ?_
    have b_1 := hld (j)
    refine V.iload_n C (n := 18) (j := 1) d_M_peak_17 rfl rfl rfl ?_
    refine V.icmpn_le C (tgt := 30) (n := 21) (by omega) (by omega) d_M_peak_18 (by decide) rfl (fun c18_2 => ?_) (fun c18_2 => ?_)
    · refine V.iload_n C (n := 31) (j := 1) d_M_peak_30 rfl rfl rfl ?_
      refine V.istore_n C (n := 32) (lv' := [(0, .ref (w 0)), (1, .int (nI mo)), (2, .int (nI j))]) [1, 0, 2] d_M_peak_31 rfl (by decide) rfl rfl ?_
      refine V.iinc C (n := 35) (j := 2) (v := nI (j + 1)) (lv' := [(0, .ref (w 0)), (1, .int (nI mo)), (2, .int (nI (j + 1)))]) [1, 2, 0] d_M_peak_32 rfl (nI_inc (j) 1) (by decide) rfl rfl ?_
      refine V.goto C (n := 4) d_M_peak_35 (by decide) ?_
      exact ih4 (j + 1) (mo) ⟨by omega, by first | (rw [mxA_t (by omega)]) | (rw [mxA_f (by omega)]; exact ha), by omega⟩ (by omega)
    · refine V.aload_n C (n := 22) (j := 0) d_M_peak_21 rfl rfl rfl ?_
      refine V.get C (n := 25) (q0 := 0) (k0 := 13) clOk_6 rfl (by decide) rfl fl_M_37 rfl d_M_peak_22 rfl ?_
      refine V.iload_n C (n := 26) (j := 2) d_M_peak_25 rfl rfl rfl ?_
      refine V.iaload_n C (n := 27) (q0 := 10) (t0 := 0) (i := j) rfl rfl (by omega) (by decide) d_M_peak_26 rfl ?_
      have b_2 := hld (j)
      refine V.goto C (n := 31) d_M_peak_27 (by decide) ?_
      refine V.istore_n C (n := 32) (lv' := [(0, .ref (w 0)), (1, .int (nI (ld j))), (2, .int (nI j))]) [1, 0, 2] d_M_peak_31 rfl (by decide) rfl rfl ?_
      refine V.iinc C (n := 35) (j := 2) (v := nI (j + 1)) (lv' := [(0, .ref (w 0)), (1, .int (nI (ld j))), (2, .int (nI (j + 1)))]) [1, 2, 0] d_M_peak_32 rfl (nI_inc (j) 1) (by decide) rfl rfl ?_
      refine V.goto C (n := 4) d_M_peak_35 (by decide) ?_
      exact ih4 (j + 1) (ld j) ⟨by omega, by first | (rw [mxA_t (by omega)]) | (rw [mxA_f (by omega)]; exact ha), by omega⟩ (by omega)
set_option maxHeartbeats 4000000 in
set_option maxRecDepth 100000 in
theorem c_M_findCounted (l : Launch) (D : va_G) (cI cC : ClassId) (E : Nat → Nat) (w : Nat → Nat) (nf : Nat) (se pe ra ga of ti fm tm : Nat → Nat) (ex : Bool) (sz : Nat) (tx ld : Nat → Nat) (ro : Nat → Int) (wh be : Nat → Nat) (pl nu : Nat) (hM : MOK nf se pe ra ga of ti fm tm sz tx) : CI l D (TY cI cC E) m_M_findCounted (rmD 0) [.ref (w 0)] ((ModW w cI nf se pe ra ga of ti fm tm ex sz tx ld ro wh be pl nu)) (nI ((layS pe wh zF nf).2.2)) ((ModW w cI nf se pe ra ga of ti fm tm ex sz tx ld ro ((layS pe wh zF nf).1) be pl nu)) := by
  obtain ⟨hnf, hse, hpe, hp1, hra, hga, hof, hti, hfm, htm, hsz, htx⟩ := id hM
  refine CI.of (by decide +kernel) (of_decide_eq_true rfl) ?_
  intro p e s m args below meth c C hr
  refine V.iconst C (v := nI 0) (n := 1) d_M_findCounted_0 (by decide) rfl ?_
  refine V.istore_n C (n := 2) (lv' := [(0, .ref (w 0)), (1, .int (nI 0))]) [1, 0] d_M_findCounted_1 rfl (by decide) rfl rfl ?_
  refine V.iconst C (v := nI 1) (n := 3) d_M_findCounted_2 (by decide) rfl ?_
  refine V.istore_n C (n := 4) (lv' := [(0, .ref (w 0)), (1, .int (nI 0)), (2, .int (nI 1))]) [1, 2, 0] d_M_findCounted_3 rfl (by decide) rfl rfl ?_
  refine V.ind3 C (fun (j : Nat) (f9 : Nat → Nat) (c9 : Nat) => (ModW w cI nf se pe ra ga of ti fm tm ex sz tx ld ro f9 be pl nu)) (fun (j : Nat) (f9 : Nat → Nat) (c9 : Nat) => [(0, .ref (w 0)), (1, .int (nI c9)), (2, .int (nI (j + 1)))]) (fun (j : Nat) (f9 : Nat → Nat) (c9 : Nat) => (j ≤ nf) ∧ (f9 = (layS pe wh zF j).1) ∧ (c9 = (layS pe wh zF j).2.2) ∧ (c9 ≤ j)) (fun (j : Nat) (f9 : Nat → Nat) (c9 : Nat) => nf - j) (0) (wh) (0) ⟨by omega, rfl, rfl, by omega⟩ rfl rfl ?_
  rintro j f9 c9 ⟨hj, hf, hc, hcj⟩ ih4
  try dsimp only
  refine V.iload_n C (n := 5) (j := 2) d_M_findCounted_4 rfl rfl rfl ?_
  refine V.aload_n C (n := 6) (j := 0) d_M_findCounted_5 rfl rfl rfl ?_
  refine V.get C (n := 9) (q0 := 0) (k0 := 1) clOk_6 rfl (by decide) rfl fl_M_53 rfl d_M_findCounted_6 rfl ?_
  refine V.icmpn_gt C (tgt := 41) (n := 12) (by omega) (by omega) d_M_findCounted_9 (by decide) rfl (fun c9_1 => ?_) (fun c9_1 => ?_)
  · refine V.iload_n C (n := 42) (j := 1) d_M_findCounted_41 rfl rfl rfl ?_
    exact V.iret C hr d_M_findCounted_42 (by rw [hc, show j = nf by omega]) (by rw [hf, show j = nf by omega])
  · refine V.sipush C (v := nI 420) (n := 15) d_M_findCounted_12 (by decide) rfl ?_
    have hpj := hp1 (j + 1) (by omega) (by omega)
    refine V.aload_n C (n := 16) (j := 0) d_M_findCounted_15 rfl rfl rfl ?_
    refine V.get C (n := 19) (q0 := 0) (k0 := 3) clOk_6 rfl (by decide) rfl fl_M_13 rfl d_M_findCounted_16 rfl ?_
    refine V.iload_n C (n := 20) (j := 2) d_M_findCounted_19 rfl rfl rfl ?_
    refine V.iaload_n C (n := 21) (q0 := 2) (t0 := 0) (i := j + 1) rfl rfl (by omega) (by decide) d_M_findCounted_20 rfl ?_
    have b_1 := hpe (j + 1)
    refine V.irem_n C (n := 22) d_M_findCounted_21 (by omega) (by omega) (by omega) rfl ?_
    have hml := Nat.mod_lt 420 (show pe (j + 1) > 0 by omega)
    refine V.ifn_ne C (tgt := 35) (n := 25) (by omega) d_M_findCounted_22 (by decide) rfl (fun c22_2 => ?_) (fun c22_2 => ?_)
    · refine V.iinc C (n := 38) (j := 2) (v := nI (j + 1 + 1)) (lv' := [(0, .ref (w 0)), (1, .int (nI c9)), (2, .int (nI (j + 1 + 1)))]) [1, 2, 0] d_M_findCounted_35 rfl (nI_inc (j + 1) 1) (by decide) rfl rfl ?_
      refine V.goto C (n := 4) d_M_findCounted_38 (by decide) ?_
      exact ih4 (j + 1) (f9) (c9) ⟨by omega, by rw [hf, layS_f (by omega)], by rw [hc, layS_f (by omega)], by omega⟩ (by omega)
    · refine V.aload_n C (n := 26) (j := 0) d_M_findCounted_25 rfl rfl rfl ?_
      refine V.get C (n := 29) (q0 := 0) (k0 := 15) clOk_6 rfl (by decide) rfl fl_M_43 rfl d_M_findCounted_26 rfl ?_
      refine V.iload_n C (n := 30) (j := 1) d_M_findCounted_29 rfl rfl rfl ?_
      refine V.iload_n C (n := 31) (j := 2) d_M_findCounted_30 rfl rfl rfl ?_
      refine V.iastore_n C (n := 32) (q0 := 12) (t0 := 0) (i := c9) (ws' := (ModW w cI nf se pe ra ga of ti fm tm ex sz tx ld ro (updN f9 c9 (j + 1)) be pl nu)) rfl rfl (by omega) (by decide) rfl d_M_findCounted_31 rfl ?_
      refine V.iinc C (n := 35) (j := 1) (v := nI (c9 + 1)) (lv' := [(0, .ref (w 0)), (1, .int (nI (c9 + 1))), (2, .int (nI (j + 1)))]) [1, 0, 2] d_M_findCounted_32 rfl (nI_inc (c9) 1) (by decide) rfl rfl ?_
      refine V.iinc C (n := 38) (j := 2) (v := nI (j + 1 + 1)) (lv' := [(0, .ref (w 0)), (1, .int (nI (c9 + 1))), (2, .int (nI (j + 1 + 1)))]) [1, 2, 0] d_M_findCounted_35 rfl (nI_inc (j + 1) 1) (by decide) rfl rfl ?_
      refine V.goto C (n := 4) d_M_findCounted_38 (by decide) ?_
      exact ih4 (j + 1) (updN f9 c9 (j + 1)) (c9 + 1) ⟨by omega, by rw [hf, hc, layS_t ⟨by omega, by omega⟩], by rw [hc, layS_t ⟨by omega, by omega⟩], by omega⟩ (by omega)
set_option maxHeartbeats 4000000 in
set_option maxRecDepth 100000 in
theorem c_M_takeBest (l : Launch) (D : va_G) (cI cC : ClassId) (E : Nat → Nat) (w : Nat → Nat) (nf : Nat) (se pe ra ga of ti fm tm : Nat → Nat) (ex : Bool) (sz : Nat) (tx ld : Nat → Nat) (ro : Nat → Int) (wh be : Nat → Nat) (pl nu : Nat) (n : Nat) (hn : n ≤ 40) (hwh : ∀ j, wh j ≤ 40) : CV l D (TY cI cC E) m_M_takeBest (rmD 0) [.ref (w 0), .int (nI n)] (ModW w cI nf se pe ra ga of ti fm tm ex sz tx ld ro wh be pl nu) (ModW w cI nf se pe ra ga (givR wh be of n) ti fm tm ex sz tx ld ro wh be pl nu) := by
  refine CN.of (by decide +kernel) (of_decide_eq_true rfl) ?_
  intro p e s m args below meth c C hr hin
  refine V.iconst C (v := nI 0) (n := 1) d_M_takeBest_0 (by decide) rfl ?_
  refine V.istore_n C (n := 2) (lv' := [(0, .ref (w 0)), (1, .int (nI n)), (2, .int (nI 0))]) [1, 2, 0] d_M_takeBest_1 rfl (by decide) rfl rfl ?_
  refine V.ind2 C (fun (j : Nat) (o9 : Nat → Nat) => (ModW w cI nf se pe ra ga o9 ti fm tm ex sz tx ld ro wh be pl nu)) (fun (j : Nat) (o9 : Nat → Nat) => [(0, .ref (w 0)), (1, .int (nI n)), (2, .int (nI j))]) (fun (j : Nat) (o9 : Nat → Nat) => (j ≤ n) ∧ (o9 = givR wh be of j)) (fun (j : Nat) (o9 : Nat → Nat) => n - j) (0) (of) ⟨by omega, rfl⟩ rfl rfl ?_
  rintro j o9 ⟨hj, ha⟩ ih2
  try dsimp only
  refine V.iload_n C (n := 3) (j := 2) d_M_takeBest_2 rfl rfl rfl ?_
  refine V.iload_n C (n := 4) (j := 1) d_M_takeBest_3 rfl rfl rfl ?_
  refine V.icmpn_ge C (tgt := 30) (n := 7) (by omega) (by omega) d_M_takeBest_4 (by decide) rfl (fun c4_1 => ?_) (fun c4_1 => ?_)
  · exact V.vret C hr d_M_takeBest_30 () (trivial) (by rw [ha, show j = n by omega])
  · refine V.aload_n C (n := 8) (j := 0) d_M_takeBest_7 rfl rfl rfl ?_
    refine V.get C (n := 11) (q0 := 0) (k0 := 6) clOk_6 rfl (by decide) rfl fl_M_22 rfl d_M_takeBest_8 rfl ?_
    refine V.aload_n C (n := 12) (j := 0) d_M_takeBest_11 rfl rfl rfl ?_
    refine V.get C (n := 15) (q0 := 0) (k0 := 15) clOk_6 rfl (by decide) rfl fl_M_43 rfl d_M_takeBest_12 rfl ?_
    refine V.iload_n C (n := 16) (j := 2) d_M_takeBest_15 rfl rfl rfl ?_
    refine V.iaload_n C (n := 17) (q0 := 12) (t0 := 0) (i := j) rfl rfl (by omega) (by decide) d_M_takeBest_16 rfl ?_
    have b_1 := hwh (j)
    refine V.aload_n C (n := 18) (j := 0) d_M_takeBest_17 rfl rfl rfl ?_
    refine V.get C (n := 21) (q0 := 0) (k0 := 16) clOk_6 rfl (by decide) rfl fl_M_46 rfl d_M_takeBest_18 rfl ?_
    refine V.iload_n C (n := 22) (j := 2) d_M_takeBest_21 rfl rfl rfl ?_
    refine V.iaload_n C (n := 23) (q0 := 13) (t0 := 0) (i := j) rfl rfl (by omega) (by decide) d_M_takeBest_22 rfl ?_
    refine V.iastore_n C (n := 24) (q0 := 5) (t0 := 0) (i := wh j) (ws' := (ModW w cI nf se pe ra ga (updN o9 (wh j) (be j)) ti fm tm ex sz tx ld ro wh be pl nu)) rfl rfl (by omega) (by decide) rfl d_M_takeBest_23 rfl ?_
    refine V.iinc C (n := 27) (j := 2) (v := nI (j + 1)) (lv' := [(0, .ref (w 0)), (1, .int (nI n)), (2, .int (nI (j + 1)))]) [1, 2, 0] d_M_takeBest_24 rfl (nI_inc (j) 1) (by decide) rfl rfl ?_
    refine V.goto C (n := 2) d_M_takeBest_27 (by decide) ?_
    exact ih2 (j + 1) (updN o9 (wh j) (be j)) ⟨by omega, by rw [ha]; try rfl⟩ (by omega)
set_option maxHeartbeats 4000000 in
set_option maxRecDepth 100000 in
theorem c_M_search_none (l : Launch) (D : va_G) (cI cC : ClassId) (E : Nat → Nat) (w : Nat → Nat) (nf : Nat) (se pe ra ga of ti fm tm : Nat → Nat) (ex : Bool) (sz : Nat) (tx ld : Nat → Nat) (ro : Nat → Int) (wh be : Nat → Nat) (pl nu : Nat) (N9 : Nat) (hM : MOK nf se pe ra ga of ti fm tm sz tx) (h9 : N9 ≤ 3000) : CI l D (TY cI cC E) m_M_search (rmD 2) [.ref (w 0), .int (nI 0), .long (jI (((N9 : Nat) : Int)))] ((ModW w cI nf se pe ra ga of ti fm tm ex sz tx ld ro wh be pl nu)) (bI (True)) ((ModW w cI nf se pe ra ga of ti fm tm ex sz tx ld ro wh be pl nu)) := by
  obtain ⟨hnf, hse, hpe, hp1, hra, hga, hof, hti, hfm, htm, hsz, htx⟩ := id hM
  refine CI.of (by decide +kernel) (of_decide_eq_true rfl) ?_
  intro p e s m args below meth c C hr
  refine V.lload_n C (n := 1) (j := 2) d_M_search_0 rfl rfl rfl ?_
  refine V.lstore C (n := 3) (lv' := [(0, .ref (w 0)), (1, .int (nI 0)), (2, .long (jI (((N9 : Nat) : Int)))), (4, .long (jI (((N9 : Nat) : Int))))]) [1, 2, 3, 0] d_M_search_1 (by decide) rfl rfl ?_
  refine V.bipush C (v := nI 41) (n := 5) d_M_search_3 (by decide) rfl ?_
  refine V.istore C (n := 7) (lv' := [(0, .ref (w 0)), (1, .int (nI 0)), (2, .long (jI (((N9 : Nat) : Int)))), (4, .long (jI (((N9 : Nat) : Int)))), (6, .int (nI 41))]) [1, 2, 3, 4, 0] d_M_search_5 (by decide) rfl rfl ?_
  refine V.iconst C (v := nI 0) (n := 8) d_M_search_7 (by decide) rfl ?_
  refine V.istore C (n := 10) (lv' := [(0, .ref (w 0)), (1, .int (nI 0)), (2, .long (jI (((N9 : Nat) : Int)))), (4, .long (jI (((N9 : Nat) : Int)))), (6, .int (nI 41)), (7, .int (nI 0))]) [1, 2, 3, 4, 5, 0] d_M_search_8 (by decide) rfl rfl ?_
  refine V.iconst C (v := nI 0) (n := 11) d_M_search_10 (by decide) rfl ?_
  refine V.istore C (n := 13) (lv' := [(0, .ref (w 0)), (1, .int (nI 0)), (2, .long (jI (((N9 : Nat) : Int)))), (4, .long (jI (((N9 : Nat) : Int)))), (6, .int (nI 41)), (7, .int (nI 0)), (8, .int (nI 0))]) [1, 2, 3, 4, 5, 6, 0] d_M_search_11 (by decide) rfl rfl ?_
  refine V.iload_n C (n := 14) (j := 1) d_M_search_13 rfl rfl rfl ?_
  refine V.ifn_ne C (tgt := 19) (n := 17) (by omega) d_M_search_14 (by decide) rfl (fun c14_1 => ?_) (fun c14_1 => ?_)
  · exact absurd c14_1 (by decide)
  · refine V.iconst C (v := nI 1) (n := 18) d_M_search_17 (by decide) rfl ?_
    exact V.zret C hr (bI_nar _) d_M_search_18 (bI_1 trivial) (rfl)
set_option maxHeartbeats 4000000 in
set_option maxRecDepth 100000 in
theorem c_M_search (l : Launch) (D : va_G) (cI cC : ClassId) (E : Nat → Nat) (w : Nat → Nat) (nf : Nat) (se pe ra ga of ti fm tm : Nat → Nat) (ex : Bool) (sz : Nat) (tx ld : Nat → Nat) (ro : Nat → Int) (wh be : Nat → Nat) (pl nu : Nat) (n : Nat) (sr nx0 pb0 br0 : Nat → Nat) (N9 : Nat) (hM : MOK nf se pe ra ga of ti fm tm sz tx) (h9 : N9 ≤ 3000) (hn : 1 ≤ n ∧ n ≤ 40) (hwh : ∀ j, wh j ≤ 40) (hsr : ∀ i, i < n → sr i = pe (wh i) ∧ 1 ≤ pe (wh i)) (h60 : ∀ j, sr j ≤ 60) (hbe : ∀ j, be j ≤ 60) (hnx : ∀ j, nx0 j ≤ 60) (hpb : ∀ j, pb0 j ≤ 41) (hn0 : nx0 0 = 0) (hp0 : pb0 0 = 0) : CE l D (TY cI cC E) m_M_search (rmD 2) [.ref (w 0), .int (nI n), .long (jI (((N9 : Nat) : Int)))] ((ModW w cI nf se pe ra ga of ti fm tm ex sz tx (fun _ => 0) ro wh be pl nu)) (bI ((itO sr n (nx0, pb0, br0, 0, 41) N9).2.2.2.1 < 0)) (fun u : (Nat → Nat) × (Nat → Int) × (Nat → Nat) => (∀ t, 420 ≤ t → u.1 t = 0) ∧ ∀ j, u.2.2 j ≤ 60) (fun u => (ModW w cI nf se pe ra ga (offM (itO sr n (nx0, pb0, br0, 0, 41) N9) wh of n) ti fm tm ex sz tx u.1 u.2.1 wh u.2.2 pl nu)) := by
  obtain ⟨hnf, hse, hpe, hp1, hra, hga, hof, hti, hfm, htm, hsz, htx⟩ := id hM
  refine CE.of (by decide +kernel) (of_decide_eq_true rfl) ?_
  intro p e s m args below meth c C hr
  refine V.lload_n C (n := 1) (j := 2) d_M_search_0 rfl rfl rfl ?_
  refine V.lstore C (n := 3) (lv' := [(0, .ref (w 0)), (1, .int (nI n)), (2, .long (jI (((N9 : Nat) : Int)))), (4, .long (jI (((N9 : Nat) : Int))))]) [1, 2, 3, 0] d_M_search_1 (by decide) rfl rfl ?_
  refine V.bipush C (v := nI 41) (n := 5) d_M_search_3 (by decide) rfl ?_
  refine V.istore C (n := 7) (lv' := [(0, .ref (w 0)), (1, .int (nI n)), (2, .long (jI (((N9 : Nat) : Int)))), (4, .long (jI (((N9 : Nat) : Int)))), (6, .int (nI 41))]) [1, 2, 3, 4, 0] d_M_search_5 (by decide) rfl rfl ?_
  refine V.iconst C (v := nI 0) (n := 8) d_M_search_7 (by decide) rfl ?_
  refine V.cv C (y := bI (false = true)) (bI_0 (by decide)) ?_
  refine V.istore C (n := 10) (lv' := [(0, .ref (w 0)), (1, .int (nI n)), (2, .long (jI (((N9 : Nat) : Int)))), (4, .long (jI (((N9 : Nat) : Int)))), (6, .int (nI 41)), (7, .int (bI (false = true)))]) [1, 2, 3, 4, 5, 0] d_M_search_8 (by decide) rfl rfl ?_
  refine V.iconst C (v := nI 0) (n := 11) d_M_search_10 (by decide) rfl ?_
  refine V.istore C (n := 13) (lv' := [(0, .ref (w 0)), (1, .int (nI n)), (2, .long (jI (((N9 : Nat) : Int)))), (4, .long (jI (((N9 : Nat) : Int)))), (6, .int (nI 41)), (7, .int (bI (false = true))), (8, .int (nI 0))]) [1, 2, 3, 4, 5, 6, 0] d_M_search_11 (by decide) rfl rfl ?_
  refine V.iload_n C (n := 14) (j := 1) d_M_search_13 rfl rfl rfl ?_
  refine V.ifn_ne C (tgt := 19) (n := 17) (by omega) d_M_search_14 (by decide) rfl (fun c14_1 => ?_) (fun c14_1 => ?_)
  · refine V.aload_n C (n := 20) (j := 0) d_M_search_19 rfl rfl rfl ?_
    refine V.get C (n := 23) (q0 := 0) (k0 := 14) clOk_6 rfl (by decide) rfl fl_M_40 rfl d_M_search_20 rfl ?_
    refine V.iconst C (v := nI 0) (n := 24) d_M_search_23 (by decide) rfl ?_
    refine V.iconst C (v := iI (-1)) (n := 25) d_M_search_24 (by decide) rfl ?_
    refine V.iastore_z C (n := 26) (q0 := 11) (t0 := 0) (i := 0) (ws' := (ModW w cI nf se pe ra ga of ti fm tm ex sz tx (fun _ => 0) (updZ ro 0 (-1)) wh be pl nu)) rfl rfl (by omega) (by decide) rfl d_M_search_25 rfl ?_
    refine V.lsub C [0, 1, 2, 3, 4, 5, 6] (lv' := [(0, .ref (w 0)), (1, .int (nI n)), (2, .long (jI (((N9 : Nat) : Int)))), (4, .long (jI (((N9 : Nat) : Int)))), (6, .int (nI 41)), (7, .int (bI (false = true))), (8, .int (nI 0))]) rfl ?_
    refine V.ind7 C (fun (L : Nat) (k : Int) (bp : Nat) (sm : Bool) (b : Nat → Nat) (r : Nat → Int) (e9 : Nat → Nat) => (ModW w cI nf se pe ra ga of ti fm tm ex sz tx b r wh e9 pl nu)) (fun (L : Nat) (k : Int) (bp : Nat) (sm : Bool) (b : Nat → Nat) (r : Nat → Int) (e9 : Nat → Nat) => [(0, .ref (w 0)), (1, .int (nI n)), (2, .long (jI (((N9 : Nat) : Int)))), (4, .long (jI (((L : Nat) : Int)))), (6, .int (nI bp)), (7, .int (bI (sm = true))), (8, .int (iI (k)))]) (fun (L : Nat) (k : Int) (bp : Nat) (sm : Bool) (b : Nat → Nat) (r : Nat → Int) (e9 : Nat → Nat) => (L ≤ N9) ∧ (-1 ≤ k ∧ k < ((n : Nat) : Int)) ∧ (bp ≤ 41) ∧ (SRI sr n (itO sr n (nx0, pb0, br0, 0, 41) N9) L k bp sm b r e9)) (fun (L : Nat) (k : Int) (bp : Nat) (sm : Bool) (b : Nat → Nat) (r : Nat → Int) (e9 : Nat → Nat) => L * 100 + (k + 1).toNat) (N9) (0) (41) (false) (fun _ => 0) (updZ ro 0 (-1)) (be) ⟨Nat.le_refl _, by omega, by omega, SRI_0 hn h60 (by have := hsr 0 (by omega); omega) hnx hpb hn0 hp0 hbe⟩ rfl rfl ?_
    rintro L k bp sm b r e9 ⟨hLN, hkr, hbb, hI⟩ ih26
    try dsimp only
    refine V.iload C (n := 28) (j := 6) d_M_search_26 rfl rfl ?_
    refine V.if_lt C (tgt := 229) (n := 31) (iI_toInt (by omega) (by omega)) d_M_search_28 (by decide) rfl (fun c28_2 => ?_) (fun c28_2 => ?_)
    · refine V.aload_n C (n := 230) (j := 0) d_M_search_229 rfl rfl rfl ?_
      refine V.iload_n C (n := 231) (j := 1) d_M_search_230 rfl rfl rfl ?_
      refine V.callV_v C (n := 234) (ws2 := fun _ => (ModW w cI nf se pe ra ga (givR wh e9 of n) ti fm tm ex sz tx b r wh e9 pl nu)) (c_M_takeBest l D cI cC E (w) (nf) (se) (pe) (ra) (ga) (of) (ti) (fm) (tm) (ex) (sz) (tx) (b) (r) (wh) (e9) (pl) (nu) (n) hn.2 hwh) cw_M_95 [0, 1, 2, 3, 4, 5, 6, 7, 8, 9, 10, 11, 12, 13] [] [0, 1, 2, 3, 4, 5, 6, 7, 8, 9, 10, 11, 12, 13] (qr := 0) rfl rfl rfl (of_decide_eq_true rfl) rfl (of_decide_eq_true rfl) rfl (of_decide_eq_true rfl) (fun _ => rfl) (fun _ => of_decide_eq_true rfl) rfl ⟨rfl, rfl⟩ ⟨by decide, by decide⟩ ⟨by decide, by decide⟩ rfl rfl (of_decide_eq_true rfl) d_M_search_231 rfl (fun _ _ => ?_)
      refine V.iconst C (v := nI 1) (n := 235) d_M_search_234 (by decide) rfl ?_
      exact V.zretE C hr (bI_nar _) d_M_search_235 (b, r, e9) ((SRI_end (wh := wh) (of := of) hI (by omega)).2.2) (bI_1 (SRI_end (wh := wh) (of := of) hI (by omega)).1) (by rw [(SRI_end (wh := wh) (of := of) hI (by omega)).2.1])
    · obtain ⟨kn, rfl⟩ := Int.eq_ofNat_of_zero_le c28_2
      obtain ⟨nx, pb, br, hK, hb, hsm⟩ := SRI_k hI
      obtain ⟨k1, k2, k4, k5, k6, k7, k8, k9, k11⟩ := id hK
      have hrk := k4 kn (Nat.le_refl kn)
      have hnk := k6 kn (Nat.le_refl kn)
      have hskn := hsr kn k1
      have hwk := hwh kn
      have h6k := h60 kn
      have hmx : max 1 (sr kn) = pe (wh kn) := by omega
      have hbp41 := k2.2.2.2
      have hpk9 := mxA_BG (sr := sr) (o := nx1 nx) (i := kn)
      have hBle : ∀ j, BG sr (nx1 nx) kn j ≤ 40 := fun j => Nat.le_trans (BG_le _ _ _ j) (by omega)
      refine V.aload_n C (n := 32) (j := 0) d_M_search_31 rfl rfl rfl ?_
      refine V.get C (n := 35) (q0 := 0) (k0 := 15) clOk_6 rfl (by decide) rfl fl_M_43 rfl d_M_search_32 rfl ?_
      refine V.iload C (n := 37) (j := 6) d_M_search_35 rfl rfl ?_
      refine V.cv C (iI_nat (kn)) ?_
      refine V.iaload_n C (n := 38) (q0 := 12) (t0 := 0) (i := kn) rfl rfl (by omega) (by decide) d_M_search_37 rfl ?_
      have b_1 := hwh (kn)
      refine V.istore C (n := 40) (lv' := [(0, .ref (w 0)), (1, .int (nI n)), (2, .long (jI (((N9 : Nat) : Int)))), (4, .long (jI (((L : Nat) : Int)))), (6, .int (nI bp)), (7, .int (bI (sm = true))), (8, .int (iI (((kn : Nat) : Int)))), (9, .int (nI (wh kn)))]) [1, 2, 3, 4, 5, 6, 7, 0] d_M_search_38 (by decide) rfl rfl ?_
      refine V.join C (ws9 := (ModW w cI nf se pe ra ga of ti fm tm ex sz tx (BG sr (nx1 nx) kn) r wh e9 pl nu)) (lv9 := [(0, .ref (w 0)), (1, .int (nI n)), (2, .long (jI (((N9 : Nat) : Int)))), (4, .long (jI (((L : Nat) : Int)))), (6, .int (nI bp)), (7, .int (bI (sm = true))), (8, .int (iI (((kn : Nat) : Int)))), (9, .int (nI (wh kn)))]) (n9 := 64) (st9 := []) ?_ (fun hk_2 => ?_)
      · refine V.aload_n C (n := 65) (j := 0) d_M_search_64 rfl rfl rfl ?_
        refine V.get C (n := 68) (q0 := 0) (k0 := 14) clOk_6 rfl (by decide) rfl fl_M_40 rfl d_M_search_65 rfl ?_
        refine V.iload C (n := 70) (j := 6) d_M_search_68 rfl rfl ?_
        refine V.cv C (iI_nat (kn)) ?_
        refine V.iaload_z C (n := 71) (q0 := 11) (t0 := 0) (i := kn) rfl rfl (by omega) (by decide) d_M_search_70 rfl ?_
        refine V.iconst C (v := nI 1) (n := 72) d_M_search_71 (by decide) rfl ?_
        refine V.iadd_z C (n := 73) d_M_search_72 rfl (show nI 1 = iI 1 from by decide) rfl ?_
        refine V.aload_n C (n := 74) (j := 0) d_M_search_73 rfl rfl rfl ?_
        refine V.get C (n := 77) (q0 := 0) (k0 := 3) clOk_6 rfl (by decide) rfl fl_M_13 rfl d_M_search_74 rfl ?_
        refine V.iload C (n := 79) (j := 7) d_M_search_77 rfl rfl ?_
        refine V.iaload_n C (n := 80) (q0 := 2) (t0 := 0) (i := wh kn) rfl rfl (by omega) (by decide) d_M_search_79 rfl ?_
        have b_3 := hpe (wh kn)
        refine V.icmp_eq C (tgt := 92) (n := 83) (iI_toInt (by omega) (by omega)) (nT (by omega)) d_M_search_80 (by decide) rfl (fun c80_3 => ?_) (fun c80_3 => ?_)
        · refine V.iinc C (n := 95) (j := 6) (v := iI (((kn : Nat) : Int) + -1)) (lv' := [(0, .ref (w 0)), (1, .int (nI n)), (2, .long (jI (((N9 : Nat) : Int)))), (4, .long (jI (((L : Nat) : Int)))), (6, .int (nI bp)), (7, .int (bI (sm = true))), (8, .int (iI (((kn : Nat) : Int) + -1))), (9, .int (nI (wh kn)))]) [1, 2, 3, 4, 5, 6, 0, 7] d_M_search_92 rfl (iI_inc rfl) (by decide) rfl rfl ?_
          refine V.goto C (n := 26) d_M_search_95 (by decide) ?_
          refine V.lsub C [0, 1, 2, 3, 4, 5, 6] (lv' := [(0, .ref (w 0)), (1, .int (nI n)), (2, .long (jI (((N9 : Nat) : Int)))), (4, .long (jI (((L : Nat) : Int)))), (6, .int (nI bp)), (7, .int (bI (sm = true))), (8, .int (iI (((kn : Nat) : Int) + -1)))]) rfl ?_
          refine V.lsub C [0, 1, 2, 3, 4, 5, 6] (lv' := [(0, .ref (w 0)), (1, .int (nI n)), (2, .long (jI (((N9 : Nat) : Int)))), (4, .long (jI (((L : Nat) : Int)))), (6, .int (nI bp)), (7, .int (bI (sm = true))), (8, .int (iI (((kn : Nat) : Int) + -1)))]) rfl ?_
          exact ih26 (L) (((kn : Nat) : Int) + -1) (bp) (sm) (BG sr (nx1 nx) kn) (r) (e9) ⟨by omega, by omega, by omega, (SRI_close hK (by omega) (by omega) hsm (by first | exact Or.inl (by omega) | exact Or.inr (by omega)))⟩ (by omega)
        · have hne := c80_3
          refine V.aload_n C (n := 84) (j := 0) d_M_search_83 rfl rfl rfl ?_
          refine V.callV_i C (n := 87) (ws' := (ModW w cI nf se pe ra ga of ti fm tm ex sz tx (BG sr (nx1 nx) kn) r wh e9 pl nu)) (c_M_peak l D cI cC E (w) (nf) (se) (pe) (ra) (ga) (of) (ti) (fm) (tm) (ex) (sz) (tx) (BG sr (nx1 nx) kn) (r) (wh) (e9) (pl) (nu) (fun j => Nat.le_trans (hBle j) (by omega))) cw_M_91 [0, 1, 2, 3, 4, 5, 6, 7, 8, 9, 10, 11, 12, 13] [] [0, 1, 2, 3, 4, 5, 6, 7, 8, 9, 10, 11, 12, 13] (qr := 0) rfl rfl rfl (of_decide_eq_true rfl) rfl (of_decide_eq_true rfl) rfl (of_decide_eq_true rfl) rfl (of_decide_eq_true rfl) rfl ⟨rfl, rfl⟩ ⟨by decide, by decide⟩ ⟨by decide, by decide⟩ rfl rfl (of_decide_eq_true rfl) d_M_search_84 rfl ?_
          refine V.iload C (n := 89) (j := 4) d_M_search_87 rfl rfl ?_
          refine V.icmpn_lt C (tgt := 98) (n := 92) (by omega) (by omega) d_M_search_89 (by decide) rfl (fun c89_4 => ?_) (fun c89_4 => ?_)
          · have hop := c89_4
            have hnb : nx kn ≠ sr kn := by omega
            refine V.lload C (n := 100) (j := 3) d_M_search_98 rfl rfl ?_
            refine V.lconst C (v := jI 0) (n := 101) d_M_search_100 (by decide) rfl ?_
            refine V.lcmp C (n := 102) d_M_search_101 rfl ?_
            refine V.ifl_ne C (tgt := 117) (n := 105) (jI_toInt (by omega) (by omega)) (jI_toInt (by omega) (by omega)) d_M_search_102 (by decide) rfl (fun c102_5 => ?_) (fun c102_5 => ?_)
            · refine V.lload C (n := 119) (j := 3) d_M_search_117 rfl rfl ?_
              refine V.lconst C (v := jI 1) (n := 120) d_M_search_119 (by decide) rfl ?_
              refine V.lsub_r C (v := jI (((L - 1 : Nat) : Int))) (n := 121) d_M_search_120 (by rw [jI_sub]; exact congrArg jI (by omega)) rfl ?_
              refine V.lstore C (n := 123) (lv' := [(0, .ref (w 0)), (1, .int (nI n)), (2, .long (jI (((N9 : Nat) : Int)))), (4, .long (jI (((L - 1 : Nat) : Int)))), (6, .int (nI bp)), (7, .int (bI (sm = true))), (8, .int (iI (((kn : Nat) : Int)))), (9, .int (nI (wh kn)))]) [1, 2, 3, 0, 4, 5, 6, 7] d_M_search_121 (by decide) rfl rfl ?_
              refine V.aload_n C (n := 124) (j := 0) d_M_search_123 rfl rfl rfl ?_
              refine V.get C (n := 127) (q0 := 0) (k0 := 14) clOk_6 rfl (by decide) rfl fl_M_40 rfl d_M_search_124 rfl ?_
              refine V.iload C (n := 129) (j := 6) d_M_search_127 rfl rfl ?_
              refine V.cv C (iI_nat (kn)) ?_
              refine V.dup2 C (n := 130) d_M_search_129 rfl rfl rfl ?_
              refine V.iaload_z C (n := 131) (q0 := 11) (t0 := 0) (i := kn) rfl rfl (by omega) (by decide) d_M_search_130 rfl ?_
              refine V.iconst C (v := nI 1) (n := 132) d_M_search_131 (by decide) rfl ?_
              refine V.iadd_z C (n := 133) d_M_search_132 rfl (show nI 1 = iI 1 from by decide) rfl ?_
              refine V.iastore_z C (n := 134) (q0 := 11) (t0 := 0) (i := kn) (ws' := (ModW w cI nf se pe ra ga of ti fm tm ex sz tx (BG sr (nx1 nx) kn) (updZ r kn (r kn + 1)) wh e9 pl nu)) rfl rfl (by omega) (by decide) rfl d_M_search_133 rfl ?_
              refine V.aload_n C (n := 135) (j := 0) d_M_search_134 rfl rfl rfl ?_
              refine V.iload C (n := 137) (j := 7) d_M_search_135 rfl rfl ?_
              refine V.aload_n C (n := 138) (j := 0) d_M_search_137 rfl rfl rfl ?_
              refine V.get C (n := 141) (q0 := 0) (k0 := 14) clOk_6 rfl (by decide) rfl fl_M_40 rfl d_M_search_138 rfl ?_
              refine V.iload C (n := 143) (j := 6) d_M_search_141 rfl rfl ?_
              refine V.cv C (iI_nat (kn)) ?_
              refine V.iaload_z C (n := 144) (q0 := 11) (t0 := 0) (i := kn) rfl rfl (by omega) (by decide) d_M_search_143 rfl ?_
              refine V.cv C (y := nI (nx kn)) (iI_ton (by rw [updZ_s]; omega)) ?_
              refine V.iconst C (v := nI 1) (n := 145) d_M_search_144 (by decide) rfl ?_
              refine V.callV_v C (n := 148) (ws2 := fun _ => (ModW w cI nf se pe ra ga of ti fm tm ex sz tx (addH (pe (wh kn)) (nx kn) (BG sr (nx1 nx) kn) 420) (updZ r kn (r kn + 1)) wh e9 pl nu)) (c_M_begin_up l D cI cC E (w) (nf) (se) (pe) (ra) (ga) (of) (ti) (fm) (tm) (ex) (sz) (tx) (BG sr (nx1 nx) kn) (updZ r kn (r kn + 1)) (wh) (e9) (pl) (nu) (wh kn) (nx kn) hM (by omega) (by omega) (fun j => Nat.le_trans (hBle j) (by omega))) cw_M_87 [0, 1, 2, 3, 4, 5, 6, 7, 8, 9, 10, 11, 12, 13] [] [0, 1, 2, 3, 4, 5, 6, 7, 8, 9, 10, 11, 12, 13] (qr := 0) rfl rfl rfl (of_decide_eq_true rfl) rfl (of_decide_eq_true rfl) rfl (of_decide_eq_true rfl) (fun _ => rfl) (fun _ => of_decide_eq_true rfl) rfl ⟨rfl, rfl⟩ ⟨by decide, by decide⟩ ⟨by decide, by decide⟩ rfl rfl (of_decide_eq_true rfl) d_M_search_145 rfl (fun _ _ => ?_)
              refine V.aload_n C (n := 149) (j := 0) d_M_search_148 rfl rfl rfl ?_
              refine V.callV_i C (n := 152) (ws' := (ModW w cI nf se pe ra ga of ti fm tm ex sz tx (addH (pe (wh kn)) (nx kn) (BG sr (nx1 nx) kn) 420) (updZ r kn (r kn + 1)) wh e9 pl nu)) (c_M_peak l D cI cC E (w) (nf) (se) (pe) (ra) (ga) (of) (ti) (fm) (tm) (ex) (sz) (tx) (addH (pe (wh kn)) (nx kn) (BG sr (nx1 nx) kn) 420) (updZ r kn (r kn + 1)) (wh) (e9) (pl) (nu) (fun j => Nat.le_trans (addH_le hBle j) (by omega))) cw_M_91 [0, 1, 2, 3, 4, 5, 6, 7, 8, 9, 10, 11, 12, 13] [] [0, 1, 2, 3, 4, 5, 6, 7, 8, 9, 10, 11, 12, 13] (qr := 0) rfl rfl rfl (of_decide_eq_true rfl) rfl (of_decide_eq_true rfl) rfl (of_decide_eq_true rfl) rfl (of_decide_eq_true rfl) rfl ⟨rfl, rfl⟩ ⟨by decide, by decide⟩ ⟨by decide, by decide⟩ rfl rfl (of_decide_eq_true rfl) d_M_search_149 rfl ?_
              obtain ⟨x9, hx9⟩ : ∃ x9, x9 = sPk sr nx pb kn := ⟨_, rfl⟩
              refine V.cv C (y := nI x9) (by rw [hx9, ← sPk_mxA (k7 kn (Nat.le_refl kn)), hmx]) ?_
              have hx41 : x9 ≤ 41 := by rw [hx9]; exact sPk_le k2 (by omega)
              refine V.istore C (n := 154) (lv' := [(0, .ref (w 0)), (1, .int (nI n)), (2, .long (jI (((N9 : Nat) : Int)))), (4, .long (jI (((L - 1 : Nat) : Int)))), (6, .int (nI bp)), (7, .int (bI (sm = true))), (8, .int (iI (((kn : Nat) : Int)))), (9, .int (nI (wh kn))), (10, .int (nI x9))]) [1, 2, 3, 4, 5, 6, 7, 8, 0] d_M_search_152 (by decide) rfl rfl ?_
              refine V.iload C (n := 156) (j := 8) d_M_search_154 rfl rfl ?_
              refine V.iload C (n := 158) (j := 4) d_M_search_156 rfl rfl ?_
              refine V.icmpn_ge C (tgt := 183) (n := 161) (by omega) (by omega) d_M_search_158 (by decide) rfl (fun c158_6 => ?_) (fun c158_6 => ?_)
              · refine V.iload C (n := 185) (j := 8) d_M_search_183 rfl rfl ?_
                refine V.iload C (n := 187) (j := 4) d_M_search_185 rfl rfl ?_
                refine V.icmpn_ge C (tgt := 226) (n := 190) (by omega) (by omega) d_M_search_187 (by decide) rfl (fun c187_7 => ?_) (fun c187_7 => ?_)
                · refine V.goto C (n := 26) d_M_search_226 (by decide) ?_
                  refine V.lsub C [0, 1, 2, 3, 4, 5, 6] (lv' := [(0, .ref (w 0)), (1, .int (nI n)), (2, .long (jI (((N9 : Nat) : Int)))), (4, .long (jI (((L - 1 : Nat) : Int)))), (6, .int (nI bp)), (7, .int (bI (sm = true))), (8, .int (iI (((kn : Nat) : Int))))]) rfl ?_
                  refine V.lsub C [0, 1, 2, 3, 4, 5, 6] (lv' := [(0, .ref (w 0)), (1, .int (nI n)), (2, .long (jI (((N9 : Nat) : Int)))), (4, .long (jI (((L - 1 : Nat) : Int)))), (6, .int (nI bp)), (7, .int (bI (sm = true))), (8, .int (iI (((kn : Nat) : Int))))]) rfl ?_
                  exact ih26 (L - 1) (((kn : Nat) : Int)) (bp) (sm) (addH (pe (wh kn)) (nx kn) (BG sr (nx1 nx) kn) 420) (updZ r kn (r kn + 1)) (e9) ⟨by omega, by omega, by omega, (by rw [show L = (L - 1) + 1 by omega] at hK; rw [← hmx]; exact SRI_none hK hn.2 hsm (by omega) hx9 (by omega))⟩ (by omega)
                · exfalso; omega
              · refine V.iload C (n := 163) (j := 6) d_M_search_161 rfl rfl ?_
                refine V.cv C (iI_nat (kn)) ?_
                refine V.iconst C (v := nI 1) (n := 164) d_M_search_163 (by decide) rfl ?_
                refine V.iadd_n C (n := 165) d_M_search_164 rfl ?_
                refine V.iload_n C (n := 166) (j := 1) d_M_search_165 rfl rfl rfl ?_
                refine V.icmpn_ge C (tgt := 183) (n := 169) (by omega) (by omega) d_M_search_166 (by decide) rfl (fun c166_8 => ?_) (fun c166_8 => ?_)
                · refine V.iload C (n := 185) (j := 8) d_M_search_183 rfl rfl ?_
                  refine V.iload C (n := 187) (j := 4) d_M_search_185 rfl rfl ?_
                  refine V.icmpn_ge C (tgt := 226) (n := 190) (by omega) (by omega) d_M_search_187 (by decide) rfl (fun c187_9 => ?_) (fun c187_9 => ?_)
                  · exfalso; omega
                  · refine V.iload C (n := 192) (j := 8) d_M_search_190 rfl rfl ?_
                    refine V.istore C (n := 194) (lv' := [(0, .ref (w 0)), (1, .int (nI n)), (2, .long (jI (((N9 : Nat) : Int)))), (4, .long (jI (((L - 1 : Nat) : Int)))), (6, .int (nI x9)), (7, .int (bI (sm = true))), (8, .int (iI (((kn : Nat) : Int)))), (9, .int (nI (wh kn))), (10, .int (nI x9))]) [1, 2, 3, 4, 0, 5, 6, 7, 8] d_M_search_192 (by decide) rfl rfl ?_
                    refine V.iconst C (v := nI 1) (n := 195) d_M_search_194 (by decide) rfl ?_
                    refine V.cv C (y := bI (true = true)) (bI_1 rfl) ?_
                    refine V.istore C (n := 197) (lv' := [(0, .ref (w 0)), (1, .int (nI n)), (2, .long (jI (((N9 : Nat) : Int)))), (4, .long (jI (((L - 1 : Nat) : Int)))), (6, .int (nI x9)), (7, .int (bI (true = true))), (8, .int (iI (((kn : Nat) : Int)))), (9, .int (nI (wh kn))), (10, .int (nI x9))]) [1, 2, 3, 4, 5, 0, 6, 7, 8] d_M_search_195 (by decide) rfl rfl ?_
                    refine V.iconst C (v := nI 0) (n := 198) d_M_search_197 (by decide) rfl ?_
                    refine V.istore C (n := 200) (lv' := [(0, .ref (w 0)), (1, .int (nI n)), (2, .long (jI (((N9 : Nat) : Int)))), (4, .long (jI (((L - 1 : Nat) : Int)))), (6, .int (nI x9)), (7, .int (bI (true = true))), (8, .int (iI (((kn : Nat) : Int)))), (9, .int (nI (wh kn))), (10, .int (nI x9)), (11, .int (nI 0))]) [1, 2, 3, 4, 5, 6, 7, 8, 9, 0] d_M_search_198 (by decide) rfl rfl ?_
                    refine V.ind2 C (fun (i9 : Nat) (e8 : Nat → Nat) => (ModW w cI nf se pe ra ga of ti fm tm ex sz tx (addH (pe (wh kn)) (nx kn) (BG sr (nx1 nx) kn) 420) (updZ r kn (r kn + 1)) wh e8 pl nu)) (fun (i9 : Nat) (e8 : Nat → Nat) => [(0, .ref (w 0)), (1, .int (nI n)), (2, .long (jI (((N9 : Nat) : Int)))), (4, .long (jI (((L - 1 : Nat) : Int)))), (6, .int (nI x9)), (7, .int (bI (true = true))), (8, .int (iI (((kn : Nat) : Int)))), (9, .int (nI (wh kn))), (10, .int (nI x9)), (11, .int (nI i9))]) (fun (i9 : Nat) (e8 : Nat → Nat) => (i9 ≤ n) ∧ (e8 = cpB (updZ r kn (r kn + 1)) e9 i9)) (fun (i9 : Nat) (e8 : Nat → Nat) => n - i9) (0) (e9) ⟨by omega, (cpB_0 _ _).symm⟩ rfl rfl ?_
                    rintro i9 e8 ⟨hi9, he8⟩ ih200
                    try dsimp only
                    refine V.iload C (n := 202) (j := 9) d_M_search_200 rfl rfl ?_
                    refine V.iload_n C (n := 203) (j := 1) d_M_search_202 rfl rfl rfl ?_
                    refine V.icmpn_ge C (tgt := 226) (n := 206) (by omega) (by omega) d_M_search_203 (by decide) rfl (fun c203_10 => ?_) (fun c203_10 => ?_)
                    · have hcp : (∀ i, e8 i ≤ 60) ∧ ∀ i, i < n → ((e8 i : Nat) : Int) = updZ r kn (r kn + 1) i := by
                        have hbd : ∀ i, i < n → 0 ≤ updZ r kn (r kn + 1) i ∧ updZ r kn (r kn + 1) i ≤ 59 := fun i hi => SRB hK h60 hnb i (by omega)
                        rw [he8, show i9 = n by omega]
                        exact ⟨fun i => by unfold cpB; split <;> first | (have := hbd i (by assumption); omega) | exact k8.1 i, fun i hi => by unfold cpB; rw [if_pos hi]; have := hbd i hi; omega⟩
                      refine V.goto C (n := 26) d_M_search_226 (by decide) ?_
                      refine V.lsub C [0, 1, 2, 3, 4, 5, 6] (lv' := [(0, .ref (w 0)), (1, .int (nI n)), (2, .long (jI (((N9 : Nat) : Int)))), (4, .long (jI (((L - 1 : Nat) : Int)))), (6, .int (nI x9)), (7, .int (bI (true = true))), (8, .int (iI (((kn : Nat) : Int))))]) rfl ?_
                      refine V.lsub C [0, 1, 2, 3, 4, 5, 6] (lv' := [(0, .ref (w 0)), (1, .int (nI n)), (2, .long (jI (((N9 : Nat) : Int)))), (4, .long (jI (((L - 1 : Nat) : Int)))), (6, .int (nI x9)), (7, .int (bI (true = true))), (8, .int (iI (((kn : Nat) : Int))))]) rfl ?_
                      exact ih26 (L - 1) (((kn : Nat) : Int)) (x9) (true) (addH (pe (wh kn)) (nx kn) (BG sr (nx1 nx) kn) 420) (updZ r kn (r kn + 1)) (e8) ⟨by omega, by omega, by omega, (by rw [show L = (L - 1) + 1 by omega] at hK; rw [← hmx]; exact SRI_last hK hn.2 (by omega) hx9 (by omega) (by omega) hcp)⟩ (by omega)
                    · refine V.aload_n C (n := 207) (j := 0) d_M_search_206 rfl rfl rfl ?_
                      refine V.get C (n := 210) (q0 := 0) (k0 := 16) clOk_6 rfl (by decide) rfl fl_M_46 rfl d_M_search_207 rfl ?_
                      refine V.iload C (n := 212) (j := 9) d_M_search_210 rfl rfl ?_
                      refine V.aload_n C (n := 213) (j := 0) d_M_search_212 rfl rfl rfl ?_
                      refine V.get C (n := 216) (q0 := 0) (k0 := 14) clOk_6 rfl (by decide) rfl fl_M_40 rfl d_M_search_213 rfl ?_
                      refine V.iload C (n := 218) (j := 9) d_M_search_216 rfl rfl ?_
                      refine V.iaload_z C (n := 219) (q0 := 11) (t0 := 0) (i := i9) rfl rfl (by omega) (by decide) d_M_search_218 rfl ?_
                      refine V.cv C (y := nI ((updZ r kn (r kn + 1) i9).toNat)) (iI_ton (by have := SRB hK h60 hnb i9 (by omega); omega)) ?_
                      refine V.iastore_n C (n := 220) (q0 := 13) (t0 := 0) (i := i9) (ws' := (ModW w cI nf se pe ra ga of ti fm tm ex sz tx (addH (pe (wh kn)) (nx kn) (BG sr (nx1 nx) kn) 420) (updZ r kn (r kn + 1)) wh (updN e8 i9 ((updZ r kn (r kn + 1) i9).toNat)) pl nu)) rfl rfl (by omega) (by decide) rfl d_M_search_219 rfl ?_
                      refine V.iinc C (n := 223) (j := 9) (v := nI (i9 + 1)) (lv' := [(0, .ref (w 0)), (1, .int (nI n)), (2, .long (jI (((N9 : Nat) : Int)))), (4, .long (jI (((L - 1 : Nat) : Int)))), (6, .int (nI x9)), (7, .int (bI (true = true))), (8, .int (iI (((kn : Nat) : Int)))), (9, .int (nI (wh kn))), (10, .int (nI x9)), (11, .int (nI (i9 + 1)))]) [1, 2, 3, 4, 5, 6, 7, 8, 9, 0] d_M_search_220 rfl (nI_inc (i9) 1) (by decide) rfl rfl ?_
                      refine V.goto C (n := 200) d_M_search_223 (by decide) ?_
                      exact ih200 (i9 + 1) (updN e8 i9 ((updZ r kn (r kn + 1) i9).toNat)) ⟨by omega, by rw [he8]; exact cpB_s _ _ i9⟩ (by omega)
                · refine V.iinc C (n := 172) (j := 6) (v := iI (((kn + 1 : Nat) : Int))) (lv' := [(0, .ref (w 0)), (1, .int (nI n)), (2, .long (jI (((N9 : Nat) : Int)))), (4, .long (jI (((L - 1 : Nat) : Int)))), (6, .int (nI bp)), (7, .int (bI (sm = true))), (8, .int (iI (((kn + 1 : Nat) : Int)))), (9, .int (nI (wh kn))), (10, .int (nI x9))]) [1, 2, 3, 4, 5, 6, 0, 7, 8] d_M_search_169 rfl ((iI_inc rfl).trans (congrArg iI (by omega))) (by decide) rfl rfl ?_
                  refine V.aload_n C (n := 173) (j := 0) d_M_search_172 rfl rfl rfl ?_
                  refine V.get C (n := 176) (q0 := 0) (k0 := 14) clOk_6 rfl (by decide) rfl fl_M_40 rfl d_M_search_173 rfl ?_
                  refine V.iload C (n := 178) (j := 6) d_M_search_176 rfl rfl ?_
                  refine V.cv C (iI_nat (kn + 1)) ?_
                  refine V.iconst C (v := iI (-1)) (n := 179) d_M_search_178 (by decide) rfl ?_
                  refine V.iastore_z C (n := 180) (q0 := 11) (t0 := 0) (i := kn + 1) (ws' := (ModW w cI nf se pe ra ga of ti fm tm ex sz tx (addH (pe (wh kn)) (nx kn) (BG sr (nx1 nx) kn) 420) (updZ (updZ r kn (r kn + 1)) (kn + 1) (-1)) wh e9 pl nu)) rfl rfl (by omega) (by decide) rfl d_M_search_179 rfl ?_
                  refine V.goto C (n := 226) d_M_search_180 (by decide) ?_
                  refine V.goto C (n := 26) d_M_search_226 (by decide) ?_
                  refine V.lsub C [0, 1, 2, 3, 4, 5, 6] (lv' := [(0, .ref (w 0)), (1, .int (nI n)), (2, .long (jI (((N9 : Nat) : Int)))), (4, .long (jI (((L - 1 : Nat) : Int)))), (6, .int (nI bp)), (7, .int (bI (sm = true))), (8, .int (iI (((kn + 1 : Nat) : Int))))]) rfl ?_
                  refine V.lsub C [0, 1, 2, 3, 4, 5, 6] (lv' := [(0, .ref (w 0)), (1, .int (nI n)), (2, .long (jI (((N9 : Nat) : Int)))), (4, .long (jI (((L - 1 : Nat) : Int)))), (6, .int (nI bp)), (7, .int (bI (sm = true))), (8, .int (iI (((kn + 1 : Nat) : Int))))]) rfl ?_
                  exact ih26 (L - 1) (((kn + 1 : Nat) : Int)) (bp) (sm) (addH (pe (wh kn)) (nx kn) (BG sr (nx1 nx) kn) 420) (updZ (updZ r kn (r kn + 1)) (kn + 1) (-1)) (e9) ⟨by omega, by omega, by omega, (by rw [show L = (L - 1) + 1 by omega] at hK; rw [← hmx]; exact SRI_deep hK hn.2 hsm (by omega) hx9 (by omega) (by omega))⟩ (by omega)
            · have hL0 : L = 0 := by omega
              subst hL0
              have hst := SRI_stop (wh := wh) (of := of) hK (by omega)
              refine V.iload C (n := 107) (j := 5) d_M_search_105 rfl rfl ?_
              refine V.ifb_eq C (tgt := 115) (n := 110) d_M_search_107 (by decide) rfl (fun c107_11 => ?_) (fun c107_11 => ?_)
              · have hsm9 := c107_11
                refine V.iconst C (v := nI 0) (n := 116) d_M_search_115 (by decide) rfl ?_
                exact V.zretE C hr (bI_nar _) d_M_search_116 (BG sr (nx1 nx) kn, r, e9) (⟨BG_z _ _ _, hst.2.2.2⟩) (bI_0 hst.1) (by rw [← hst.2.2.1 (by rw [hsm] at hsm9; exact fun q => hsm9 (decide_eq_true q))])
              · have hsm9 := c107_11
                refine V.aload_n C (n := 111) (j := 0) d_M_search_110 rfl rfl rfl ?_
                refine V.iload_n C (n := 112) (j := 1) d_M_search_111 rfl rfl rfl ?_
                refine V.callV_v C (n := 115) (ws2 := fun _ => (ModW w cI nf se pe ra ga (givR wh e9 of n) ti fm tm ex sz tx (BG sr (nx1 nx) kn) r wh e9 pl nu)) (c_M_takeBest l D cI cC E (w) (nf) (se) (pe) (ra) (ga) (of) (ti) (fm) (tm) (ex) (sz) (tx) (BG sr (nx1 nx) kn) (r) (wh) (e9) (pl) (nu) (n) hn.2 hwh) cw_M_95 [0, 1, 2, 3, 4, 5, 6, 7, 8, 9, 10, 11, 12, 13] [] [0, 1, 2, 3, 4, 5, 6, 7, 8, 9, 10, 11, 12, 13] (qr := 0) rfl rfl rfl (of_decide_eq_true rfl) rfl (of_decide_eq_true rfl) rfl (of_decide_eq_true rfl) (fun _ => rfl) (fun _ => of_decide_eq_true rfl) rfl ⟨rfl, rfl⟩ ⟨by decide, by decide⟩ ⟨by decide, by decide⟩ rfl rfl (of_decide_eq_true rfl) d_M_search_112 rfl (fun _ _ => ?_)
                refine V.iconst C (v := nI 0) (n := 116) d_M_search_115 (by decide) rfl ?_
                exact V.zretE C hr (bI_nar _) d_M_search_116 (BG sr (nx1 nx) kn, r, e9) (⟨BG_z _ _ _, hst.2.2.2⟩) (bI_0 hst.1) (by rw [hst.2.1 (by rw [hsm] at hsm9; exact of_decide_eq_true hsm9)])
          · refine V.iinc C (n := 95) (j := 6) (v := iI (((kn : Nat) : Int) + -1)) (lv' := [(0, .ref (w 0)), (1, .int (nI n)), (2, .long (jI (((N9 : Nat) : Int)))), (4, .long (jI (((L : Nat) : Int)))), (6, .int (nI bp)), (7, .int (bI (sm = true))), (8, .int (iI (((kn : Nat) : Int) + -1))), (9, .int (nI (wh kn)))]) [1, 2, 3, 4, 5, 6, 0, 7] d_M_search_92 rfl (iI_inc rfl) (by decide) rfl rfl ?_
            refine V.goto C (n := 26) d_M_search_95 (by decide) ?_
            refine V.lsub C [0, 1, 2, 3, 4, 5, 6] (lv' := [(0, .ref (w 0)), (1, .int (nI n)), (2, .long (jI (((N9 : Nat) : Int)))), (4, .long (jI (((L : Nat) : Int)))), (6, .int (nI bp)), (7, .int (bI (sm = true))), (8, .int (iI (((kn : Nat) : Int) + -1)))]) rfl ?_
            refine V.lsub C [0, 1, 2, 3, 4, 5, 6] (lv' := [(0, .ref (w 0)), (1, .int (nI n)), (2, .long (jI (((N9 : Nat) : Int)))), (4, .long (jI (((L : Nat) : Int)))), (6, .int (nI bp)), (7, .int (bI (sm = true))), (8, .int (iI (((kn : Nat) : Int) + -1)))]) rfl ?_
            exact ih26 (L) (((kn : Nat) : Int) + -1) (bp) (sm) (BG sr (nx1 nx) kn) (r) (e9) ⟨by omega, by omega, by omega, (SRI_close hK (by omega) (by omega) hsm (by first | exact Or.inl (by omega) | exact Or.inr (by omega)))⟩ (by omega)
      · refine V.aload_n C (n := 41) (j := 0) d_M_search_40 rfl rfl rfl ?_
        refine V.get C (n := 44) (q0 := 0) (k0 := 14) clOk_6 rfl (by decide) rfl fl_M_40 rfl d_M_search_41 rfl ?_
        refine V.iload C (n := 46) (j := 6) d_M_search_44 rfl rfl ?_
        refine V.cv C (iI_nat (kn)) ?_
        refine V.iaload_z C (n := 47) (q0 := 11) (t0 := 0) (i := kn) rfl rfl (by omega) (by decide) d_M_search_46 rfl ?_
        refine V.if_lt C (tgt := 64) (n := 50) (iI_toInt (by omega) (by omega)) d_M_search_47 (by decide) rfl (fun c47_12 => ?_) (fun c47_12 => ?_)
        · refine V.wo C (ws' := (ModW w cI nf se pe ra ga of ti fm tm ex sz tx (BG sr (nx1 nx) kn) r wh e9 pl nu)) (by rw [hb, if_pos (by omega)]) ?_
          exact hk_2
        · refine V.aload_n C (n := 51) (j := 0) d_M_search_50 rfl rfl rfl ?_
          refine V.iload C (n := 53) (j := 7) d_M_search_51 rfl rfl ?_
          refine V.aload_n C (n := 54) (j := 0) d_M_search_53 rfl rfl rfl ?_
          refine V.get C (n := 57) (q0 := 0) (k0 := 14) clOk_6 rfl (by decide) rfl fl_M_40 rfl d_M_search_54 rfl ?_
          refine V.iload C (n := 59) (j := 6) d_M_search_57 rfl rfl ?_
          refine V.cv C (iI_nat (kn)) ?_
          refine V.iaload_z C (n := 60) (q0 := 11) (t0 := 0) (i := kn) rfl rfl (by omega) (by decide) d_M_search_59 rfl ?_
          refine V.cv C (y := nI (nx kn - 1)) (iI_ton (by omega)) ?_
          refine V.iconst C (v := iI (-1)) (n := 61) d_M_search_60 (by decide) rfl ?_
          refine V.callV_v C (n := 64) (ws2 := fun _ => (ModW w cI nf se pe ra ga of ti fm tm ex sz tx (subH (pe (wh kn)) (nx kn - 1) b 420) r wh e9 pl nu)) (c_M_begin_dn l D cI cC E (w) (nf) (se) (pe) (ra) (ga) (of) (ti) (fm) (tm) (ex) (sz) (tx) (b) (r) (wh) (e9) (pl) (nu) (wh kn) (nx kn - 1) hM (by omega) (by omega) (fun j => Nat.le_trans (by rw [hb]; exact BG_le _ _ _ j) (by split <;> omega)) (by rw [hb, if_neg (by omega), ← hmx]; exact fun t h1 h2 => addH_at h1 h2)) cw_M_87 [0, 1, 2, 3, 4, 5, 6, 7, 8, 9, 10, 11, 12, 13] [] [0, 1, 2, 3, 4, 5, 6, 7, 8, 9, 10, 11, 12, 13] (qr := 0) rfl rfl rfl (of_decide_eq_true rfl) rfl (of_decide_eq_true rfl) rfl (of_decide_eq_true rfl) (fun _ => rfl) (fun _ => of_decide_eq_true rfl) rfl ⟨rfl, rfl⟩ ⟨by decide, by decide⟩ ⟨by decide, by decide⟩ rfl rfl (of_decide_eq_true rfl) d_M_search_61 rfl (fun _ _ => ?_)
          refine V.wo C (ws' := (ModW w cI nf se pe ra ga of ti fm tm ex sz tx (BG sr (nx1 nx) kn) r wh e9 pl nu)) (by rw [hb, if_neg (by omega), ← hmx]; exact congrArg (fun q => ModW w cI nf se pe ra ga of ti fm tm ex sz tx q r wh e9 pl nu) (subadd (max 1 (sr kn)) (nx1 nx kn) (BG sr (nx1 nx) kn))) ?_
          exact hk_2
  · exfalso; omega
