set_option maxHeartbeats 4000000 in
set_option maxRecDepth 100000 in
theorem c_M_at0 (l : Launch) (D : va_G) (cI cC : ClassId) (E : Nat → Nat) (w : Nat → Nat) (nf : Nat) (se pe ra ga of ti fm tm : Nat → Nat) (ex : Bool) (sz : Nat) (tx ld : Nat → Nat) (ro : Nat → Int) (wh be : Nat → Nat) (pl nu : Nat) (ht : typOK (tx, sz)) (hpl : pl ≤ 3000) : CI l D (TY cI cC E) m_M_at0 (rmD 0) [.ref (w 0)] ((ModW w cI nf se pe ra ga of ti fm tm ex sz tx ld ro wh be pl nu)) (nI (a0 tx sz pl)) ((ModW w cI nf se pe ra ga of ti fm tm ex sz tx ld ro wh be pl nu)) := by
  have hsz : sz ≤ 2001 := ht.1
  have htx : ∀ j, tx j ≤ 255 := ht.2
  refine CI.of (by decide +kernel) (of_decide_eq_true rfl) ?_
  intro p e s m args below meth c C hr
  refine V.aload_n C (n := 1) (j := 0) d_M_at0_0 rfl rfl rfl ?_
  refine V.get C (n := 4) (q0 := 0) (k0 := 17) clOk_6 rfl (by decide) rfl fl_M_128 rfl d_M_at0_1 rfl ?_
  refine V.aload_n C (n := 5) (j := 0) d_M_at0_4 rfl rfl rfl ?_
  refine V.get C (n := 8) (q0 := 0) (k0 := 11) clOk_6 rfl (by decide) rfl fl_M_115 rfl d_M_at0_5 rfl ?_
  refine V.icmpn_ge C (tgt := 23) (n := 11) (by omega) (by omega) d_M_at0_8 (by decide) rfl (fun c8_1 => ?_) (fun c8_1 => ?_)
  · refine V.bipush C (v := nI 10) (n := 25) d_M_at0_23 (by decide) rfl ?_
    exact V.iret C hr d_M_at0_25 (by rw [a0_out (by omega)]) (rfl)
  · refine V.aload_n C (n := 12) (j := 0) d_M_at0_11 rfl rfl rfl ?_
    refine V.get C (n := 15) (q0 := 0) (k0 := 12) clOk_6 rfl (by decide) rfl fl_M_34 rfl d_M_at0_12 rfl ?_
    refine V.aload_n C (n := 16) (j := 0) d_M_at0_15 rfl rfl rfl ?_
    refine V.get C (n := 19) (q0 := 0) (k0 := 17) clOk_6 rfl (by decide) rfl fl_M_128 rfl d_M_at0_16 rfl ?_
    refine V.iaload_n C (n := 20) (q0 := 9) (t0 := 0) (i := pl) rfl rfl (by omega) (by decide) d_M_at0_19 rfl ?_
    have b_1 := htx (pl)
    refine V.goto C (n := 25) d_M_at0_20 (by decide) ?_
    exact V.iret C hr d_M_at0_25 (by rw [a0_in (by omega)]) (rfl)
set_option maxHeartbeats 4000000 in
set_option maxRecDepth 100000 in
theorem c_M_passSpaces (l : Launch) (D : va_G) (cI cC : ClassId) (E : Nat → Nat) (w : Nat → Nat) (nf : Nat) (se pe ra ga of ti fm tm : Nat → Nat) (ex : Bool) (sz : Nat) (tx ld : Nat → Nat) (ro : Nat → Int) (wh be : Nat → Nat) (pl nu : Nat) (ht : typOK (tx, sz)) (hpl : pl ≤ 3000) : CV l D (TY cI cC E) m_M_passSpaces (rmD 1) [.ref (w 0)] (ModW w cI nf se pe ra ga of ti fm tm ex sz tx ld ro wh be pl nu) (ModW w cI nf se pe ra ga of ti fm tm ex sz tx ld ro wh be (psS tx sz pl) nu) := by
  have hsz : sz ≤ 2001 := ht.1
  have htx : ∀ j, tx j ≤ 255 := ht.2
  refine CN.of (by decide +kernel) (of_decide_eq_true rfl) ?_
  intro p e s m args below meth c C hr hin
  refine V.ind1 C (fun (p : Nat) => (ModW w cI nf se pe ra ga of ti fm tm ex sz tx ld ro wh be p nu)) (fun (p : Nat) => [(0, .ref (w 0))]) (fun (p : Nat) => (p ≤ 3000) ∧ (psS tx sz p = psS tx sz pl)) (fun (p : Nat) => 4000 - p) (pl) ⟨hpl, rfl⟩ rfl rfl ?_
  rintro p ⟨hp, hq⟩ ih0
  try dsimp only
  refine V.aload_n C (n := 1) (j := 0) d_M_passSpaces_0 rfl rfl rfl ?_
  refine V.callV_i C (n := 4) (ws' := (ModW w cI nf se pe ra ga of ti fm tm ex sz tx ld ro wh be p nu)) (c_M_at0 l D cI cC E (w) (nf) (se) (pe) (ra) (ga) (of) (ti) (fm) (tm) (ex) (sz) (tx) (ld) (ro) (wh) (be) (p) (nu) ht hp) cw_M_131 [0, 1, 2, 3, 4, 5, 6, 7, 8, 9, 10, 11, 12, 13] [] [0, 1, 2, 3, 4, 5, 6, 7, 8, 9, 10, 11, 12, 13] (qr := 0) rfl rfl rfl (of_decide_eq_true rfl) rfl (of_decide_eq_true rfl) rfl (of_decide_eq_true rfl) rfl (of_decide_eq_true rfl) rfl ⟨rfl, rfl⟩ ⟨by decide, by decide⟩ ⟨by decide, by decide⟩ rfl rfl (of_decide_eq_true rfl) d_M_passSpaces_1 rfl ?_
  have b_1 := a0_le (tx := tx) (sz := sz) htx (p)
  refine V.bipush C (v := nI 32) (n := 6) d_M_passSpaces_4 (by decide) rfl ?_
  refine V.icmpn_ne C (tgt := 22) (n := 9) (by omega) (by omega) d_M_passSpaces_6 (by decide) rfl (fun c6_1 => ?_) (fun c6_1 => ?_)
  · exact V.vret C hr d_M_passSpaces_22 () (trivial) (by rw [← hq]; rw [show psS tx sz p = p from skq_stop (by rintro ⟨q1, q2⟩; have q3 := of_decide_eq_true q2; rw [a0_in q1] at *; omega)])
  · refine V.aload_n C (n := 10) (j := 0) d_M_passSpaces_9 rfl rfl rfl ?_
    refine V.dup C (n := 11) d_M_passSpaces_10 rfl rfl ?_
    refine V.get C (n := 14) (q0 := 0) (k0 := 17) clOk_6 rfl (by decide) rfl fl_M_128 rfl d_M_passSpaces_11 rfl ?_
    refine V.iconst C (v := nI 1) (n := 15) d_M_passSpaces_14 (by decide) rfl ?_
    refine V.iadd_n C (n := 16) d_M_passSpaces_15 rfl ?_
    refine V.put C (n := 19) (q0 := 0) (k0 := 17) (ws' := (ModW w cI nf se pe ra ga of ti fm tm ex sz tx ld ro wh be (p + 1) nu)) clOk_6 rfl (by decide) rfl rfl fl_M_128 rfl rfl (of_decide_eq_true rfl) rfl d_M_passSpaces_16 rfl ?_
    refine V.goto C (n := 0) d_M_passSpaces_19 (by decide) ?_
    exact ih0 (p + 1) (by have h9 := a0_ne (show a0 tx sz p ≠ 10 by omega); exact ⟨by omega, by rw [← hq]; exact (skq_t (p := isSp tx) h9.1 (show isSp tx p = true from decide_eq_true (by omega))).symm⟩) (by omega)
set_option maxHeartbeats 4000000 in
set_option maxRecDepth 100000 in
theorem c_M_isEnd (l : Launch) (D : va_G) (cI cC : ClassId) (E : Nat → Nat) (w : Nat → Nat) (nf : Nat) (se pe ra ga of ti fm tm : Nat → Nat) (ex : Bool) (sz : Nat) (tx ld : Nat → Nat) (ro : Nat → Int) (wh be : Nat → Nat) (pl nu : Nat) (ht : typOK (tx, sz)) (hpl : pl ≤ 3000) : CI l D (TY cI cC E) m_M_isEnd (rmD 1) [.ref (w 0)] ((ModW w cI nf se pe ra ga of ti fm tm ex sz tx ld ro wh be pl nu)) (bI (a0 tx sz pl = 10)) ((ModW w cI nf se pe ra ga of ti fm tm ex sz tx ld ro wh be pl nu)) := by
  have hsz : sz ≤ 2001 := ht.1
  have htx : ∀ j, tx j ≤ 255 := ht.2
  refine CI.of (by decide +kernel) (of_decide_eq_true rfl) ?_
  intro p e s m args below meth c C hr
  refine V.aload_n C (n := 1) (j := 0) d_M_isEnd_0 rfl rfl rfl ?_
  refine V.callV_i C (n := 4) (ws' := (ModW w cI nf se pe ra ga of ti fm tm ex sz tx ld ro wh be pl nu)) (c_M_at0 l D cI cC E (w) (nf) (se) (pe) (ra) (ga) (of) (ti) (fm) (tm) (ex) (sz) (tx) (ld) (ro) (wh) (be) (pl) (nu) ht hpl) cw_M_131 [0, 1, 2, 3, 4, 5, 6, 7, 8, 9, 10, 11, 12, 13] [] [0, 1, 2, 3, 4, 5, 6, 7, 8, 9, 10, 11, 12, 13] (qr := 0) rfl rfl rfl (of_decide_eq_true rfl) rfl (of_decide_eq_true rfl) rfl (of_decide_eq_true rfl) rfl (of_decide_eq_true rfl) rfl ⟨rfl, rfl⟩ ⟨by decide, by decide⟩ ⟨by decide, by decide⟩ rfl rfl (of_decide_eq_true rfl) d_M_isEnd_1 rfl ?_
  have b_1 := a0_le (tx := tx) (sz := sz) htx (pl)
  refine V.bipush C (v := nI 10) (n := 6) d_M_isEnd_4 (by decide) rfl ?_
  refine V.icmpn_ne C (tgt := 13) (n := 9) (by omega) (by omega) d_M_isEnd_6 (by decide) rfl (fun c6_1 => ?_) (fun c6_1 => ?_)
  · refine V.iconst C (v := nI 0) (n := 14) d_M_isEnd_13 (by decide) rfl ?_
    exact V.zret C hr (bI_nar _) d_M_isEnd_14 (by first | exact bI_1 (by omega) | exact bI_0 (by omega)) (rfl)
  · refine V.iconst C (v := nI 1) (n := 10) d_M_isEnd_9 (by decide) rfl ?_
    refine V.goto C (n := 14) d_M_isEnd_10 (by decide) ?_
    exact V.zret C hr (bI_nar _) d_M_isEnd_14 (by first | exact bI_1 (by omega) | exact bI_0 (by omega)) (rfl)
set_option maxHeartbeats 4000000 in
set_option maxRecDepth 100000 in
theorem c_M_isBetween (l : Launch) (D : va_G) (cI cC : ClassId) (E : Nat → Nat) (w : Nat → Nat) (nf : Nat) (se pe ra ga of ti fm tm : Nat → Nat) (ex : Bool) (sz : Nat) (tx ld : Nat → Nat) (ro : Nat → Int) (wh be : Nat → Nat) (pl nu : Nat) (ht : typOK (tx, sz)) (hpl : pl ≤ 3000) : CI l D (TY cI cC E) m_M_isBetween (rmD 2) [.ref (w 0)] ((ModW w cI nf se pe ra ga of ti fm tm ex sz tx ld ro wh be pl nu)) (bI (a0 tx sz pl = 32 ∨ a0 tx sz pl = 10)) ((ModW w cI nf se pe ra ga of ti fm tm ex sz tx ld ro wh be pl nu)) := by
  have hsz : sz ≤ 2001 := ht.1
  have htx : ∀ j, tx j ≤ 255 := ht.2
  refine CI.of (by decide +kernel) (of_decide_eq_true rfl) ?_
  intro p e s m args below meth c C hr
  refine V.aload_n C (n := 1) (j := 0) d_M_isBetween_0 rfl rfl rfl ?_
  refine V.callV_i C (n := 4) (ws' := (ModW w cI nf se pe ra ga of ti fm tm ex sz tx ld ro wh be pl nu)) (c_M_at0 l D cI cC E (w) (nf) (se) (pe) (ra) (ga) (of) (ti) (fm) (tm) (ex) (sz) (tx) (ld) (ro) (wh) (be) (pl) (nu) ht hpl) cw_M_131 [0, 1, 2, 3, 4, 5, 6, 7, 8, 9, 10, 11, 12, 13] [] [0, 1, 2, 3, 4, 5, 6, 7, 8, 9, 10, 11, 12, 13] (qr := 0) rfl rfl rfl (of_decide_eq_true rfl) rfl (of_decide_eq_true rfl) rfl (of_decide_eq_true rfl) rfl (of_decide_eq_true rfl) rfl ⟨rfl, rfl⟩ ⟨by decide, by decide⟩ ⟨by decide, by decide⟩ rfl rfl (of_decide_eq_true rfl) d_M_isBetween_1 rfl ?_
  have b_1 := a0_le (tx := tx) (sz := sz) htx (pl)
  refine V.bipush C (v := nI 32) (n := 6) d_M_isBetween_4 (by decide) rfl ?_
  refine V.icmpn_eq C (tgt := 16) (n := 9) (by omega) (by omega) d_M_isBetween_6 (by decide) rfl (fun c6_1 => ?_) (fun c6_1 => ?_)
  · refine V.iconst C (v := nI 1) (n := 17) d_M_isBetween_16 (by decide) rfl ?_
    refine V.goto C (n := 21) d_M_isBetween_17 (by decide) ?_
    exact V.zret C hr (bI_nar _) d_M_isBetween_21 (by first | exact bI_1 (by omega) | exact bI_0 (by omega)) (rfl)
  · refine V.aload_n C (n := 10) (j := 0) d_M_isBetween_9 rfl rfl rfl ?_
    refine V.callV_i C (n := 13) (ws' := (ModW w cI nf se pe ra ga of ti fm tm ex sz tx ld ro wh be pl nu)) (c_M_isEnd l D cI cC E (w) (nf) (se) (pe) (ra) (ga) (of) (ti) (fm) (tm) (ex) (sz) (tx) (ld) (ro) (wh) (be) (pl) (nu) ht hpl) cw_M_134 [0, 1, 2, 3, 4, 5, 6, 7, 8, 9, 10, 11, 12, 13] [] [0, 1, 2, 3, 4, 5, 6, 7, 8, 9, 10, 11, 12, 13] (qr := 0) rfl rfl rfl (of_decide_eq_true rfl) rfl (of_decide_eq_true rfl) rfl (of_decide_eq_true rfl) rfl (of_decide_eq_true rfl) rfl ⟨rfl, rfl⟩ ⟨by decide, by decide⟩ ⟨by decide, by decide⟩ rfl rfl (of_decide_eq_true rfl) d_M_isBetween_10 rfl ?_
    refine V.ifb_eq C (tgt := 20) (n := 16) d_M_isBetween_13 (by decide) rfl (fun c13_2 => ?_) (fun c13_2 => ?_)
    · refine V.iconst C (v := nI 0) (n := 21) d_M_isBetween_20 (by decide) rfl ?_
      exact V.zret C hr (bI_nar _) d_M_isBetween_21 (by first | exact bI_1 (by omega) | exact bI_0 (by omega)) (rfl)
    · refine V.iconst C (v := nI 1) (n := 17) d_M_isBetween_16 (by decide) rfl ?_
      refine V.goto C (n := 21) d_M_isBetween_17 (by decide) ?_
      exact V.zret C hr (bI_nar _) d_M_isBetween_21 (by first | exact bI_1 (by omega) | exact bI_0 (by omega)) (rfl)
set_option maxHeartbeats 4000000 in
set_option maxRecDepth 100000 in
theorem c_M_isWord_f (l : Launch) (D : va_G) (cI cC : ClassId) (E : Nat → Nat) (w : Nat → Nat) (nf : Nat) (se pe ra ga of ti fm tm : Nat → Nat) (ex : Bool) (sz : Nat) (tx ld : Nat → Nat) (ro : Nat → Int) (wh be : Nat → Nat) (pl nu : Nat) (V9 : Bool × Nat) (ht : typOK (tx, sz)) (hpl : pl ≤ 2990) (hV9 : V9 = wM tx sz 0 pl 5) : CI l D (TY cI cC E) m_M_isWord (rmD 3) [.ref (w 0), .int (nI 0)] ((ModW w cI nf se pe ra ga of ti fm tm ex sz tx ld ro wh be pl nu)) (bI (V9.1 = true ∧ (a0 tx sz V9.2 = 32 ∨ a0 tx sz V9.2 = 10))) ((ModW w cI nf se pe ra ga of ti fm tm ex sz tx ld ro wh be (psS tx sz V9.2) nu)) := by
  have hsz : sz ≤ 2001 := ht.1
  have htx : ∀ j, tx j ≤ 255 := ht.2
  refine CI.of (by decide +kernel) (of_decide_eq_true rfl) ?_
  intro p e s m args below meth c C hr
  refine V.iconst C (v := nI 1) (n := 1) d_M_isWord_0 (by decide) rfl ?_
  refine V.cv C (y := bI (true = true)) (bI_1 rfl) ?_
  refine V.istore_n C (n := 2) (lv' := [(0, .ref (w 0)), (1, .int (nI 0)), (2, .int (bI (true = true)))]) [1, 2, 0] d_M_isWord_1 rfl (by decide) rfl rfl ?_
  refine V.iconst C (v := nI 0) (n := 3) d_M_isWord_2 (by decide) rfl ?_
  refine V.istore_n C (n := 4) (lv' := [(0, .ref (w 0)), (1, .int (nI 0)), (2, .int (bI (true = true))), (3, .int (nI 0))]) [1, 2, 3, 0] d_M_isWord_3 rfl (by decide) rfl rfl ?_
  refine V.lsub C [0, 1, 2, 3] (lv' := [(0, .ref (w 0)), (1, .int (nI 0)), (2, .int (bI (true = true))), (3, .int (nI 0))]) rfl ?_
  refine V.ind3 C (fun (k : Nat) (g : Bool) (p : Nat) => (ModW w cI nf se pe ra ga of ti fm tm ex sz tx ld ro wh be p nu)) (fun (k : Nat) (g : Bool) (p : Nat) => [(0, .ref (w 0)), (1, .int (nI 0)), (2, .int (bI (g = true))), (3, .int (nI k))]) (fun (k : Nat) (g : Bool) (p : Nat) => (k ≤ 5) ∧ (wM tx sz 0 pl k = (g, p)) ∧ (p ≤ pl + k)) (fun (k : Nat) (g : Bool) (p : Nat) => 5 - k) (0) (true) (pl) ⟨by omega, rfl, by omega⟩ rfl rfl ?_
  rintro k g p ⟨hk, hw, hp⟩ ih4
  try dsimp only
  refine V.iload_n C (n := 5) (j := 3) d_M_isWord_4 rfl rfl rfl ?_
  refine V.iconst C (v := nI 5) (n := 6) d_M_isWord_5 (by decide) rfl ?_
  refine V.icmpn_ge C (tgt := 131) (n := 9) (by omega) (by omega) d_M_isWord_6 (by decide) rfl (fun c6_1 => ?_) (fun c6_1 => ?_)
  · have hV5 : V9 = (g, p) := by rw [hV9, ← show k = 5 by omega]; exact hw
    have hV1 : V9.1 = g := by rw [hV5]
    have hV2 : V9.2 = p := by rw [hV5]
    refine V.iload_n C (n := 132) (j := 2) d_M_isWord_131 rfl rfl rfl ?_
    refine V.ifb_eq C (tgt := 146) (n := 135) d_M_isWord_132 (by decide) rfl (fun c132_2 => ?_) (fun c132_2 => ?_)
    · refine V.iconst C (v := nI 0) (n := 147) d_M_isWord_146 (by decide) rfl ?_
      refine V.cv C (y := bI (false = true)) (bI_0 (by decide)) ?_
      refine V.istore_n C (n := 148) (lv' := [(0, .ref (w 0)), (1, .int (nI 0)), (2, .int (bI (false = true))), (3, .int (nI k))]) [1, 2, 0, 3] d_M_isWord_147 rfl (by decide) rfl rfl ?_
      refine V.aload_n C (n := 149) (j := 0) d_M_isWord_148 rfl rfl rfl ?_
      refine V.callV_v C (n := 152) (ws2 := fun _ => (ModW w cI nf se pe ra ga of ti fm tm ex sz tx ld ro wh be (psS tx sz p) nu)) (c_M_passSpaces l D cI cC E (w) (nf) (se) (pe) (ra) (ga) (of) (ti) (fm) (tm) (ex) (sz) (tx) (ld) (ro) (wh) (be) (p) (nu) ht (by omega)) cw_M_141 [0, 1, 2, 3, 4, 5, 6, 7, 8, 9, 10, 11, 12, 13] [] [0, 1, 2, 3, 4, 5, 6, 7, 8, 9, 10, 11, 12, 13] (qr := 0) rfl rfl rfl (of_decide_eq_true rfl) rfl (of_decide_eq_true rfl) rfl (of_decide_eq_true rfl) (fun _ => rfl) (fun _ => of_decide_eq_true rfl) rfl ⟨rfl, rfl⟩ ⟨by decide, by decide⟩ ⟨by decide, by decide⟩ rfl rfl (of_decide_eq_true rfl) d_M_isWord_149 rfl (fun _ _ => ?_)
      refine V.iload_n C (n := 153) (j := 2) d_M_isWord_152 rfl rfl rfl ?_
      exact V.zret C hr (bI_nar _) d_M_isWord_153 (by rw [hV1, hV2]; exact bI_c ⟨fun q => absurd q (by decide), fun q => by first | exact absurd q.1 (by assumption) | exact absurd q.2 (by assumption)⟩) (by rw [hV2])
    · refine V.aload_n C (n := 136) (j := 0) d_M_isWord_135 rfl rfl rfl ?_
      refine V.callV_i C (n := 139) (ws' := (ModW w cI nf se pe ra ga of ti fm tm ex sz tx ld ro wh be p nu)) (c_M_isBetween l D cI cC E (w) (nf) (se) (pe) (ra) (ga) (of) (ti) (fm) (tm) (ex) (sz) (tx) (ld) (ro) (wh) (be) (p) (nu) ht (by omega)) cw_M_138 [0, 1, 2, 3, 4, 5, 6, 7, 8, 9, 10, 11, 12, 13] [] [0, 1, 2, 3, 4, 5, 6, 7, 8, 9, 10, 11, 12, 13] (qr := 0) rfl rfl rfl (of_decide_eq_true rfl) rfl (of_decide_eq_true rfl) rfl (of_decide_eq_true rfl) rfl (of_decide_eq_true rfl) rfl ⟨rfl, rfl⟩ ⟨by decide, by decide⟩ ⟨by decide, by decide⟩ rfl rfl (of_decide_eq_true rfl) d_M_isWord_136 rfl ?_
      refine V.ifb_eq C (tgt := 146) (n := 142) d_M_isWord_139 (by decide) rfl (fun c139_3 => ?_) (fun c139_3 => ?_)
      · refine V.iconst C (v := nI 0) (n := 147) d_M_isWord_146 (by decide) rfl ?_
        refine V.cv C (y := bI (false = true)) (bI_0 (by decide)) ?_
        refine V.istore_n C (n := 148) (lv' := [(0, .ref (w 0)), (1, .int (nI 0)), (2, .int (bI (false = true))), (3, .int (nI k))]) [1, 2, 0, 3] d_M_isWord_147 rfl (by decide) rfl rfl ?_
        refine V.aload_n C (n := 149) (j := 0) d_M_isWord_148 rfl rfl rfl ?_
        refine V.callV_v C (n := 152) (ws2 := fun _ => (ModW w cI nf se pe ra ga of ti fm tm ex sz tx ld ro wh be (psS tx sz p) nu)) (c_M_passSpaces l D cI cC E (w) (nf) (se) (pe) (ra) (ga) (of) (ti) (fm) (tm) (ex) (sz) (tx) (ld) (ro) (wh) (be) (p) (nu) ht (by omega)) cw_M_141 [0, 1, 2, 3, 4, 5, 6, 7, 8, 9, 10, 11, 12, 13] [] [0, 1, 2, 3, 4, 5, 6, 7, 8, 9, 10, 11, 12, 13] (qr := 0) rfl rfl rfl (of_decide_eq_true rfl) rfl (of_decide_eq_true rfl) rfl (of_decide_eq_true rfl) (fun _ => rfl) (fun _ => of_decide_eq_true rfl) rfl ⟨rfl, rfl⟩ ⟨by decide, by decide⟩ ⟨by decide, by decide⟩ rfl rfl (of_decide_eq_true rfl) d_M_isWord_149 rfl (fun _ _ => ?_)
        refine V.iload_n C (n := 153) (j := 2) d_M_isWord_152 rfl rfl rfl ?_
        exact V.zret C hr (bI_nar _) d_M_isWord_153 (by rw [hV1, hV2]; exact bI_c ⟨fun q => absurd q (by decide), fun q => by first | exact absurd q.1 (by assumption) | exact absurd q.2 (by assumption)⟩) (by rw [hV2])
      · refine V.iconst C (v := nI 1) (n := 143) d_M_isWord_142 (by decide) rfl ?_
        refine V.goto C (n := 147) d_M_isWord_143 (by decide) ?_
        refine V.cv C (y := bI (true = true)) (bI_1 rfl) ?_
        refine V.istore_n C (n := 148) (lv' := [(0, .ref (w 0)), (1, .int (nI 0)), (2, .int (bI (true = true))), (3, .int (nI k))]) [1, 2, 0, 3] d_M_isWord_147 rfl (by decide) rfl rfl ?_
        refine V.aload_n C (n := 149) (j := 0) d_M_isWord_148 rfl rfl rfl ?_
        refine V.callV_v C (n := 152) (ws2 := fun _ => (ModW w cI nf se pe ra ga of ti fm tm ex sz tx ld ro wh be (psS tx sz p) nu)) (c_M_passSpaces l D cI cC E (w) (nf) (se) (pe) (ra) (ga) (of) (ti) (fm) (tm) (ex) (sz) (tx) (ld) (ro) (wh) (be) (p) (nu) ht (by omega)) cw_M_141 [0, 1, 2, 3, 4, 5, 6, 7, 8, 9, 10, 11, 12, 13] [] [0, 1, 2, 3, 4, 5, 6, 7, 8, 9, 10, 11, 12, 13] (qr := 0) rfl rfl rfl (of_decide_eq_true rfl) rfl (of_decide_eq_true rfl) rfl (of_decide_eq_true rfl) (fun _ => rfl) (fun _ => of_decide_eq_true rfl) rfl ⟨rfl, rfl⟩ ⟨by decide, by decide⟩ ⟨by decide, by decide⟩ rfl rfl (of_decide_eq_true rfl) d_M_isWord_149 rfl (fun _ _ => ?_)
        refine V.iload_n C (n := 153) (j := 2) d_M_isWord_152 rfl rfl rfl ?_
        exact V.zret C hr (bI_nar _) d_M_isWord_153 (by rw [hV1, hV2]; exact bI_c ⟨fun _ => ⟨by assumption, by assumption⟩, fun _ => rfl⟩) (by rw [hV2])
  · refine V.iload_n C (n := 10) (j := 3) d_M_isWord_9 rfl rfl rfl ?_
    refine V.ifn_ne C (tgt := 27) (n := 13) (by omega) d_M_isWord_10 (by decide) rfl (fun c10_4 => ?_) (fun c10_4 => ?_)
    · refine V.iload_n C (n := 28) (j := 3) d_M_isWord_27 rfl rfl rfl ?_
      refine V.iconst C (v := nI 1) (n := 29) d_M_isWord_28 (by decide) rfl ?_
      refine V.icmpn_ne C (tgt := 46) (n := 32) (by omega) (by omega) d_M_isWord_29 (by decide) rfl (fun c29_5 => ?_) (fun c29_5 => ?_)
      · refine V.iload_n C (n := 47) (j := 3) d_M_isWord_46 rfl rfl rfl ?_
        refine V.iconst C (v := nI 2) (n := 48) d_M_isWord_47 (by decide) rfl ?_
        refine V.icmpn_ne C (tgt := 56) (n := 51) (by omega) (by omega) d_M_isWord_48 (by decide) rfl (fun c48_6 => ?_) (fun c48_6 => ?_)
        · refine V.iload_n C (n := 57) (j := 3) d_M_isWord_56 rfl rfl rfl ?_
          refine V.iconst C (v := nI 3) (n := 58) d_M_isWord_57 (by decide) rfl ?_
          refine V.icmpn_ne C (tgt := 75) (n := 61) (by omega) (by omega) d_M_isWord_58 (by decide) rfl (fun c58_7 => ?_) (fun c58_7 => ?_)
          · refine V.iload_n C (n := 76) (j := 1) d_M_isWord_75 rfl rfl rfl ?_
            refine V.ifn_eq C (tgt := 84) (n := 79) (by omega) d_M_isWord_76 (by decide) rfl (fun c76_8 => ?_) (fun c76_8 => ?_)
            · refine V.bipush C (v := nI 101) (n := 86) d_M_isWord_84 (by decide) rfl ?_
              refine V.istore C (n := 88) (lv' := [(0, .ref (w 0)), (1, .int (nI 0)), (2, .int (bI (g = true))), (3, .int (nI k)), (4, .int (nI 101))]) [1, 2, 3, 4, 0] d_M_isWord_86 (by decide) rfl rfl ?_
              refine V.iload_n C (n := 89) (j := 2) d_M_isWord_88 rfl rfl rfl ?_
              refine V.ifb_eq C (tgt := 105) (n := 92) d_M_isWord_89 (by decide) rfl (fun c89_9 => ?_) (fun c89_9 => ?_)
              · refine V.iconst C (v := nI 0) (n := 106) d_M_isWord_105 (by decide) rfl ?_
                refine V.cv C (y := bI (false = true)) (bI_0 (by decide)) ?_
                refine V.istore_n C (n := 107) (lv' := [(0, .ref (w 0)), (1, .int (nI 0)), (2, .int (bI (false = true))), (3, .int (nI k)), (4, .int (nI 101))]) [1, 2, 0, 3, 4] d_M_isWord_106 rfl (by decide) rfl rfl ?_
                refine V.aload_n C (n := 108) (j := 0) d_M_isWord_107 rfl rfl rfl ?_
                refine V.dup C (n := 109) d_M_isWord_108 rfl rfl ?_
                refine V.get C (n := 112) (q0 := 0) (k0 := 17) clOk_6 rfl (by decide) rfl fl_M_128 rfl d_M_isWord_109 rfl ?_
                refine V.iload_n C (n := 113) (j := 2) d_M_isWord_112 rfl rfl rfl ?_
                refine V.ifb_eq C (tgt := 120) (n := 116) d_M_isWord_113 (by decide) rfl (fun c113_10 => ?_) (fun c113_10 => ?_)
                · refine V.iconst C (v := nI 0) (n := 121) d_M_isWord_120 (by decide) rfl ?_
                  refine V.iadd_n C (n := 122) d_M_isWord_121 rfl ?_
                  refine V.put C (n := 125) (q0 := 0) (k0 := 17) (ws' := (ModW w cI nf se pe ra ga of ti fm tm ex sz tx ld ro wh be (p + 0) nu)) clOk_6 rfl (by decide) rfl rfl fl_M_128 rfl rfl (of_decide_eq_true rfl) rfl d_M_isWord_122 rfl ?_
                  refine V.iinc C (n := 128) (j := 3) (v := nI (k + 1)) (lv' := [(0, .ref (w 0)), (1, .int (nI 0)), (2, .int (bI (false = true))), (3, .int (nI (k + 1))), (4, .int (nI 101))]) [1, 2, 3, 0, 4] d_M_isWord_125 rfl (nI_inc (k) 1) (by decide) rfl rfl ?_
                  refine V.goto C (n := 4) d_M_isWord_128 (by decide) ?_
                  refine V.lsub C [0, 1, 2, 3] (lv' := [(0, .ref (w 0)), (1, .int (nI 0)), (2, .int (bI (false = true))), (3, .int (nI (k + 1)))]) rfl ?_
                  refine V.lsub C [0, 1, 2, 3] (lv' := [(0, .ref (w 0)), (1, .int (nI 0)), (2, .int (bI (false = true))), (3, .int (nI (k + 1)))]) rfl ?_
                  exact ih4 (k + 1) (false) (p) ⟨by omega, wM_f hw (by rintro ⟨q1, q2⟩; first | exact absurd q1 (by assumption) | (rw [show k = 4 by omega] at q2; exact absurd q2 (by show ¬ _ = 101; omega))), by omega⟩ (by omega)
                · exact absurd c113_10 (by decide)
              · refine V.aload_n C (n := 93) (j := 0) d_M_isWord_92 rfl rfl rfl ?_
                refine V.callV_i C (n := 96) (ws' := (ModW w cI nf se pe ra ga of ti fm tm ex sz tx ld ro wh be p nu)) (c_M_at0 l D cI cC E (w) (nf) (se) (pe) (ra) (ga) (of) (ti) (fm) (tm) (ex) (sz) (tx) (ld) (ro) (wh) (be) (p) (nu) ht (by omega)) cw_M_131 [0, 1, 2, 3, 4, 5, 6, 7, 8, 9, 10, 11, 12, 13] [] [0, 1, 2, 3, 4, 5, 6, 7, 8, 9, 10, 11, 12, 13] (qr := 0) rfl rfl rfl (of_decide_eq_true rfl) rfl (of_decide_eq_true rfl) rfl (of_decide_eq_true rfl) rfl (of_decide_eq_true rfl) rfl ⟨rfl, rfl⟩ ⟨by decide, by decide⟩ ⟨by decide, by decide⟩ rfl rfl (of_decide_eq_true rfl) d_M_isWord_93 rfl ?_
                have b_1 := a0_le (tx := tx) (sz := sz) htx (p)
                refine V.iload C (n := 98) (j := 4) d_M_isWord_96 rfl rfl ?_
                refine V.icmpn_ne C (tgt := 105) (n := 101) (by omega) (by omega) d_M_isWord_98 (by decide) rfl (fun c98_11 => ?_) (fun c98_11 => ?_)
                · refine V.iconst C (v := nI 0) (n := 106) d_M_isWord_105 (by decide) rfl ?_
                  refine V.cv C (y := bI (false = true)) (bI_0 (by decide)) ?_
                  refine V.istore_n C (n := 107) (lv' := [(0, .ref (w 0)), (1, .int (nI 0)), (2, .int (bI (false = true))), (3, .int (nI k)), (4, .int (nI 101))]) [1, 2, 0, 3, 4] d_M_isWord_106 rfl (by decide) rfl rfl ?_
                  refine V.aload_n C (n := 108) (j := 0) d_M_isWord_107 rfl rfl rfl ?_
                  refine V.dup C (n := 109) d_M_isWord_108 rfl rfl ?_
                  refine V.get C (n := 112) (q0 := 0) (k0 := 17) clOk_6 rfl (by decide) rfl fl_M_128 rfl d_M_isWord_109 rfl ?_
                  refine V.iload_n C (n := 113) (j := 2) d_M_isWord_112 rfl rfl rfl ?_
                  refine V.ifb_eq C (tgt := 120) (n := 116) d_M_isWord_113 (by decide) rfl (fun c113_12 => ?_) (fun c113_12 => ?_)
                  · refine V.iconst C (v := nI 0) (n := 121) d_M_isWord_120 (by decide) rfl ?_
                    refine V.iadd_n C (n := 122) d_M_isWord_121 rfl ?_
                    refine V.put C (n := 125) (q0 := 0) (k0 := 17) (ws' := (ModW w cI nf se pe ra ga of ti fm tm ex sz tx ld ro wh be (p + 0) nu)) clOk_6 rfl (by decide) rfl rfl fl_M_128 rfl rfl (of_decide_eq_true rfl) rfl d_M_isWord_122 rfl ?_
                    refine V.iinc C (n := 128) (j := 3) (v := nI (k + 1)) (lv' := [(0, .ref (w 0)), (1, .int (nI 0)), (2, .int (bI (false = true))), (3, .int (nI (k + 1))), (4, .int (nI 101))]) [1, 2, 3, 0, 4] d_M_isWord_125 rfl (nI_inc (k) 1) (by decide) rfl rfl ?_
                    refine V.goto C (n := 4) d_M_isWord_128 (by decide) ?_
                    refine V.lsub C [0, 1, 2, 3] (lv' := [(0, .ref (w 0)), (1, .int (nI 0)), (2, .int (bI (false = true))), (3, .int (nI (k + 1)))]) rfl ?_
                    refine V.lsub C [0, 1, 2, 3] (lv' := [(0, .ref (w 0)), (1, .int (nI 0)), (2, .int (bI (false = true))), (3, .int (nI (k + 1)))]) rfl ?_
                    exact ih4 (k + 1) (false) (p) ⟨by omega, wM_f hw (by rintro ⟨q1, q2⟩; first | exact absurd q1 (by assumption) | (rw [show k = 4 by omega] at q2; exact absurd q2 (by show ¬ _ = 101; omega))), by omega⟩ (by omega)
                  · exact absurd c113_12 (by decide)
                · refine V.iconst C (v := nI 1) (n := 102) d_M_isWord_101 (by decide) rfl ?_
                  refine V.goto C (n := 106) d_M_isWord_102 (by decide) ?_
                  refine V.cv C (y := bI (true = true)) (bI_1 rfl) ?_
                  refine V.istore_n C (n := 107) (lv' := [(0, .ref (w 0)), (1, .int (nI 0)), (2, .int (bI (true = true))), (3, .int (nI k)), (4, .int (nI 101))]) [1, 2, 0, 3, 4] d_M_isWord_106 rfl (by decide) rfl rfl ?_
                  refine V.aload_n C (n := 108) (j := 0) d_M_isWord_107 rfl rfl rfl ?_
                  refine V.dup C (n := 109) d_M_isWord_108 rfl rfl ?_
                  refine V.get C (n := 112) (q0 := 0) (k0 := 17) clOk_6 rfl (by decide) rfl fl_M_128 rfl d_M_isWord_109 rfl ?_
                  refine V.iload_n C (n := 113) (j := 2) d_M_isWord_112 rfl rfl rfl ?_
                  refine V.ifb_eq C (tgt := 120) (n := 116) d_M_isWord_113 (by decide) rfl (fun c113_13 => ?_) (fun c113_13 => ?_)
                  · exact absurd c113_13 (by decide)
                  · refine V.iconst C (v := nI 1) (n := 117) d_M_isWord_116 (by decide) rfl ?_
                    refine V.goto C (n := 121) d_M_isWord_117 (by decide) ?_
                    refine V.iadd_n C (n := 122) d_M_isWord_121 rfl ?_
                    refine V.put C (n := 125) (q0 := 0) (k0 := 17) (ws' := (ModW w cI nf se pe ra ga of ti fm tm ex sz tx ld ro wh be (p + 1) nu)) clOk_6 rfl (by decide) rfl rfl fl_M_128 rfl rfl (of_decide_eq_true rfl) rfl d_M_isWord_122 rfl ?_
                    refine V.iinc C (n := 128) (j := 3) (v := nI (k + 1)) (lv' := [(0, .ref (w 0)), (1, .int (nI 0)), (2, .int (bI (true = true))), (3, .int (nI (k + 1))), (4, .int (nI 101))]) [1, 2, 3, 0, 4] d_M_isWord_125 rfl (nI_inc (k) 1) (by decide) rfl rfl ?_
                    refine V.goto C (n := 4) d_M_isWord_128 (by decide) ?_
                    refine V.lsub C [0, 1, 2, 3] (lv' := [(0, .ref (w 0)), (1, .int (nI 0)), (2, .int (bI (true = true))), (3, .int (nI (k + 1)))]) rfl ?_
                    refine V.lsub C [0, 1, 2, 3] (lv' := [(0, .ref (w 0)), (1, .int (nI 0)), (2, .int (bI (true = true))), (3, .int (nI (k + 1)))]) rfl ?_
                    exact ih4 (k + 1) (true) (p + 1) ⟨by omega, wM_t hw (by assumption) (by rw [show k = 4 by omega]; show _ = 101; omega), by omega⟩ (by omega)
            · exact absurd c76_8 (by decide)
          · refine V.iload_n C (n := 62) (j := 1) d_M_isWord_61 rfl rfl rfl ?_
            refine V.ifn_eq C (tgt := 70) (n := 65) (by omega) d_M_isWord_62 (by decide) rfl (fun c62_14 => ?_) (fun c62_14 => ?_)
            · refine V.bipush C (v := nI 109) (n := 72) d_M_isWord_70 (by decide) rfl ?_
              refine V.goto C (n := 86) d_M_isWord_72 (by decide) ?_
              refine V.istore C (n := 88) (lv' := [(0, .ref (w 0)), (1, .int (nI 0)), (2, .int (bI (g = true))), (3, .int (nI k)), (4, .int (nI 109))]) [1, 2, 3, 4, 0] d_M_isWord_86 (by decide) rfl rfl ?_
              refine V.iload_n C (n := 89) (j := 2) d_M_isWord_88 rfl rfl rfl ?_
              refine V.ifb_eq C (tgt := 105) (n := 92) d_M_isWord_89 (by decide) rfl (fun c89_15 => ?_) (fun c89_15 => ?_)
              · refine V.iconst C (v := nI 0) (n := 106) d_M_isWord_105 (by decide) rfl ?_
                refine V.cv C (y := bI (false = true)) (bI_0 (by decide)) ?_
                refine V.istore_n C (n := 107) (lv' := [(0, .ref (w 0)), (1, .int (nI 0)), (2, .int (bI (false = true))), (3, .int (nI k)), (4, .int (nI 109))]) [1, 2, 0, 3, 4] d_M_isWord_106 rfl (by decide) rfl rfl ?_
                refine V.aload_n C (n := 108) (j := 0) d_M_isWord_107 rfl rfl rfl ?_
                refine V.dup C (n := 109) d_M_isWord_108 rfl rfl ?_
                refine V.get C (n := 112) (q0 := 0) (k0 := 17) clOk_6 rfl (by decide) rfl fl_M_128 rfl d_M_isWord_109 rfl ?_
                refine V.iload_n C (n := 113) (j := 2) d_M_isWord_112 rfl rfl rfl ?_
                refine V.ifb_eq C (tgt := 120) (n := 116) d_M_isWord_113 (by decide) rfl (fun c113_16 => ?_) (fun c113_16 => ?_)
                · refine V.iconst C (v := nI 0) (n := 121) d_M_isWord_120 (by decide) rfl ?_
                  refine V.iadd_n C (n := 122) d_M_isWord_121 rfl ?_
                  refine V.put C (n := 125) (q0 := 0) (k0 := 17) (ws' := (ModW w cI nf se pe ra ga of ti fm tm ex sz tx ld ro wh be (p + 0) nu)) clOk_6 rfl (by decide) rfl rfl fl_M_128 rfl rfl (of_decide_eq_true rfl) rfl d_M_isWord_122 rfl ?_
                  refine V.iinc C (n := 128) (j := 3) (v := nI (k + 1)) (lv' := [(0, .ref (w 0)), (1, .int (nI 0)), (2, .int (bI (false = true))), (3, .int (nI (k + 1))), (4, .int (nI 109))]) [1, 2, 3, 0, 4] d_M_isWord_125 rfl (nI_inc (k) 1) (by decide) rfl rfl ?_
                  refine V.goto C (n := 4) d_M_isWord_128 (by decide) ?_
                  refine V.lsub C [0, 1, 2, 3] (lv' := [(0, .ref (w 0)), (1, .int (nI 0)), (2, .int (bI (false = true))), (3, .int (nI (k + 1)))]) rfl ?_
                  refine V.lsub C [0, 1, 2, 3] (lv' := [(0, .ref (w 0)), (1, .int (nI 0)), (2, .int (bI (false = true))), (3, .int (nI (k + 1)))]) rfl ?_
                  exact ih4 (k + 1) (false) (p) ⟨by omega, wM_f hw (by rintro ⟨q1, q2⟩; first | exact absurd q1 (by assumption) | (rw [show k = 3 by omega] at q2; exact absurd q2 (by show ¬ _ = 109; omega))), by omega⟩ (by omega)
                · exact absurd c113_16 (by decide)
              · refine V.aload_n C (n := 93) (j := 0) d_M_isWord_92 rfl rfl rfl ?_
                refine V.callV_i C (n := 96) (ws' := (ModW w cI nf se pe ra ga of ti fm tm ex sz tx ld ro wh be p nu)) (c_M_at0 l D cI cC E (w) (nf) (se) (pe) (ra) (ga) (of) (ti) (fm) (tm) (ex) (sz) (tx) (ld) (ro) (wh) (be) (p) (nu) ht (by omega)) cw_M_131 [0, 1, 2, 3, 4, 5, 6, 7, 8, 9, 10, 11, 12, 13] [] [0, 1, 2, 3, 4, 5, 6, 7, 8, 9, 10, 11, 12, 13] (qr := 0) rfl rfl rfl (of_decide_eq_true rfl) rfl (of_decide_eq_true rfl) rfl (of_decide_eq_true rfl) rfl (of_decide_eq_true rfl) rfl ⟨rfl, rfl⟩ ⟨by decide, by decide⟩ ⟨by decide, by decide⟩ rfl rfl (of_decide_eq_true rfl) d_M_isWord_93 rfl ?_
                have b_2 := a0_le (tx := tx) (sz := sz) htx (p)
                refine V.iload C (n := 98) (j := 4) d_M_isWord_96 rfl rfl ?_
                refine V.icmpn_ne C (tgt := 105) (n := 101) (by omega) (by omega) d_M_isWord_98 (by decide) rfl (fun c98_17 => ?_) (fun c98_17 => ?_)
                · refine V.iconst C (v := nI 0) (n := 106) d_M_isWord_105 (by decide) rfl ?_
                  refine V.cv C (y := bI (false = true)) (bI_0 (by decide)) ?_
                  refine V.istore_n C (n := 107) (lv' := [(0, .ref (w 0)), (1, .int (nI 0)), (2, .int (bI (false = true))), (3, .int (nI k)), (4, .int (nI 109))]) [1, 2, 0, 3, 4] d_M_isWord_106 rfl (by decide) rfl rfl ?_
                  refine V.aload_n C (n := 108) (j := 0) d_M_isWord_107 rfl rfl rfl ?_
                  refine V.dup C (n := 109) d_M_isWord_108 rfl rfl ?_
                  refine V.get C (n := 112) (q0 := 0) (k0 := 17) clOk_6 rfl (by decide) rfl fl_M_128 rfl d_M_isWord_109 rfl ?_
                  refine V.iload_n C (n := 113) (j := 2) d_M_isWord_112 rfl rfl rfl ?_
                  refine V.ifb_eq C (tgt := 120) (n := 116) d_M_isWord_113 (by decide) rfl (fun c113_18 => ?_) (fun c113_18 => ?_)
                  · refine V.iconst C (v := nI 0) (n := 121) d_M_isWord_120 (by decide) rfl ?_
                    refine V.iadd_n C (n := 122) d_M_isWord_121 rfl ?_
                    refine V.put C (n := 125) (q0 := 0) (k0 := 17) (ws' := (ModW w cI nf se pe ra ga of ti fm tm ex sz tx ld ro wh be (p + 0) nu)) clOk_6 rfl (by decide) rfl rfl fl_M_128 rfl rfl (of_decide_eq_true rfl) rfl d_M_isWord_122 rfl ?_
                    refine V.iinc C (n := 128) (j := 3) (v := nI (k + 1)) (lv' := [(0, .ref (w 0)), (1, .int (nI 0)), (2, .int (bI (false = true))), (3, .int (nI (k + 1))), (4, .int (nI 109))]) [1, 2, 3, 0, 4] d_M_isWord_125 rfl (nI_inc (k) 1) (by decide) rfl rfl ?_
                    refine V.goto C (n := 4) d_M_isWord_128 (by decide) ?_
                    refine V.lsub C [0, 1, 2, 3] (lv' := [(0, .ref (w 0)), (1, .int (nI 0)), (2, .int (bI (false = true))), (3, .int (nI (k + 1)))]) rfl ?_
                    refine V.lsub C [0, 1, 2, 3] (lv' := [(0, .ref (w 0)), (1, .int (nI 0)), (2, .int (bI (false = true))), (3, .int (nI (k + 1)))]) rfl ?_
                    exact ih4 (k + 1) (false) (p) ⟨by omega, wM_f hw (by rintro ⟨q1, q2⟩; first | exact absurd q1 (by assumption) | (rw [show k = 3 by omega] at q2; exact absurd q2 (by show ¬ _ = 109; omega))), by omega⟩ (by omega)
                  · exact absurd c113_18 (by decide)
                · refine V.iconst C (v := nI 1) (n := 102) d_M_isWord_101 (by decide) rfl ?_
                  refine V.goto C (n := 106) d_M_isWord_102 (by decide) ?_
                  refine V.cv C (y := bI (true = true)) (bI_1 rfl) ?_
                  refine V.istore_n C (n := 107) (lv' := [(0, .ref (w 0)), (1, .int (nI 0)), (2, .int (bI (true = true))), (3, .int (nI k)), (4, .int (nI 109))]) [1, 2, 0, 3, 4] d_M_isWord_106 rfl (by decide) rfl rfl ?_
                  refine V.aload_n C (n := 108) (j := 0) d_M_isWord_107 rfl rfl rfl ?_
                  refine V.dup C (n := 109) d_M_isWord_108 rfl rfl ?_
                  refine V.get C (n := 112) (q0 := 0) (k0 := 17) clOk_6 rfl (by decide) rfl fl_M_128 rfl d_M_isWord_109 rfl ?_
                  refine V.iload_n C (n := 113) (j := 2) d_M_isWord_112 rfl rfl rfl ?_
                  refine V.ifb_eq C (tgt := 120) (n := 116) d_M_isWord_113 (by decide) rfl (fun c113_19 => ?_) (fun c113_19 => ?_)
                  · exact absurd c113_19 (by decide)
                  · refine V.iconst C (v := nI 1) (n := 117) d_M_isWord_116 (by decide) rfl ?_
                    refine V.goto C (n := 121) d_M_isWord_117 (by decide) ?_
                    refine V.iadd_n C (n := 122) d_M_isWord_121 rfl ?_
                    refine V.put C (n := 125) (q0 := 0) (k0 := 17) (ws' := (ModW w cI nf se pe ra ga of ti fm tm ex sz tx ld ro wh be (p + 1) nu)) clOk_6 rfl (by decide) rfl rfl fl_M_128 rfl rfl (of_decide_eq_true rfl) rfl d_M_isWord_122 rfl ?_
                    refine V.iinc C (n := 128) (j := 3) (v := nI (k + 1)) (lv' := [(0, .ref (w 0)), (1, .int (nI 0)), (2, .int (bI (true = true))), (3, .int (nI (k + 1))), (4, .int (nI 109))]) [1, 2, 3, 0, 4] d_M_isWord_125 rfl (nI_inc (k) 1) (by decide) rfl rfl ?_
                    refine V.goto C (n := 4) d_M_isWord_128 (by decide) ?_
                    refine V.lsub C [0, 1, 2, 3] (lv' := [(0, .ref (w 0)), (1, .int (nI 0)), (2, .int (bI (true = true))), (3, .int (nI (k + 1)))]) rfl ?_
                    refine V.lsub C [0, 1, 2, 3] (lv' := [(0, .ref (w 0)), (1, .int (nI 0)), (2, .int (bI (true = true))), (3, .int (nI (k + 1)))]) rfl ?_
                    exact ih4 (k + 1) (true) (p + 1) ⟨by omega, wM_t hw (by assumption) (by rw [show k = 3 by omega]; show _ = 109; omega), by omega⟩ (by omega)
            · exact absurd c62_14 (by decide)
        · refine V.bipush C (v := nI 97) (n := 53) d_M_isWord_51 (by decide) rfl ?_
          refine V.goto C (n := 86) d_M_isWord_53 (by decide) ?_
          refine V.istore C (n := 88) (lv' := [(0, .ref (w 0)), (1, .int (nI 0)), (2, .int (bI (g = true))), (3, .int (nI k)), (4, .int (nI 97))]) [1, 2, 3, 4, 0] d_M_isWord_86 (by decide) rfl rfl ?_
          refine V.iload_n C (n := 89) (j := 2) d_M_isWord_88 rfl rfl rfl ?_
          refine V.ifb_eq C (tgt := 105) (n := 92) d_M_isWord_89 (by decide) rfl (fun c89_20 => ?_) (fun c89_20 => ?_)
          · refine V.iconst C (v := nI 0) (n := 106) d_M_isWord_105 (by decide) rfl ?_
            refine V.cv C (y := bI (false = true)) (bI_0 (by decide)) ?_
            refine V.istore_n C (n := 107) (lv' := [(0, .ref (w 0)), (1, .int (nI 0)), (2, .int (bI (false = true))), (3, .int (nI k)), (4, .int (nI 97))]) [1, 2, 0, 3, 4] d_M_isWord_106 rfl (by decide) rfl rfl ?_
            refine V.aload_n C (n := 108) (j := 0) d_M_isWord_107 rfl rfl rfl ?_
            refine V.dup C (n := 109) d_M_isWord_108 rfl rfl ?_
            refine V.get C (n := 112) (q0 := 0) (k0 := 17) clOk_6 rfl (by decide) rfl fl_M_128 rfl d_M_isWord_109 rfl ?_
            refine V.iload_n C (n := 113) (j := 2) d_M_isWord_112 rfl rfl rfl ?_
            refine V.ifb_eq C (tgt := 120) (n := 116) d_M_isWord_113 (by decide) rfl (fun c113_21 => ?_) (fun c113_21 => ?_)
            · refine V.iconst C (v := nI 0) (n := 121) d_M_isWord_120 (by decide) rfl ?_
              refine V.iadd_n C (n := 122) d_M_isWord_121 rfl ?_
              refine V.put C (n := 125) (q0 := 0) (k0 := 17) (ws' := (ModW w cI nf se pe ra ga of ti fm tm ex sz tx ld ro wh be (p + 0) nu)) clOk_6 rfl (by decide) rfl rfl fl_M_128 rfl rfl (of_decide_eq_true rfl) rfl d_M_isWord_122 rfl ?_
              refine V.iinc C (n := 128) (j := 3) (v := nI (k + 1)) (lv' := [(0, .ref (w 0)), (1, .int (nI 0)), (2, .int (bI (false = true))), (3, .int (nI (k + 1))), (4, .int (nI 97))]) [1, 2, 3, 0, 4] d_M_isWord_125 rfl (nI_inc (k) 1) (by decide) rfl rfl ?_
              refine V.goto C (n := 4) d_M_isWord_128 (by decide) ?_
              refine V.lsub C [0, 1, 2, 3] (lv' := [(0, .ref (w 0)), (1, .int (nI 0)), (2, .int (bI (false = true))), (3, .int (nI (k + 1)))]) rfl ?_
              refine V.lsub C [0, 1, 2, 3] (lv' := [(0, .ref (w 0)), (1, .int (nI 0)), (2, .int (bI (false = true))), (3, .int (nI (k + 1)))]) rfl ?_
              exact ih4 (k + 1) (false) (p) ⟨by omega, wM_f hw (by rintro ⟨q1, q2⟩; first | exact absurd q1 (by assumption) | (rw [show k = 2 by omega] at q2; exact absurd q2 (by show ¬ _ = 97; omega))), by omega⟩ (by omega)
            · exact absurd c113_21 (by decide)
          · refine V.aload_n C (n := 93) (j := 0) d_M_isWord_92 rfl rfl rfl ?_
            refine V.callV_i C (n := 96) (ws' := (ModW w cI nf se pe ra ga of ti fm tm ex sz tx ld ro wh be p nu)) (c_M_at0 l D cI cC E (w) (nf) (se) (pe) (ra) (ga) (of) (ti) (fm) (tm) (ex) (sz) (tx) (ld) (ro) (wh) (be) (p) (nu) ht (by omega)) cw_M_131 [0, 1, 2, 3, 4, 5, 6, 7, 8, 9, 10, 11, 12, 13] [] [0, 1, 2, 3, 4, 5, 6, 7, 8, 9, 10, 11, 12, 13] (qr := 0) rfl rfl rfl (of_decide_eq_true rfl) rfl (of_decide_eq_true rfl) rfl (of_decide_eq_true rfl) rfl (of_decide_eq_true rfl) rfl ⟨rfl, rfl⟩ ⟨by decide, by decide⟩ ⟨by decide, by decide⟩ rfl rfl (of_decide_eq_true rfl) d_M_isWord_93 rfl ?_
            have b_3 := a0_le (tx := tx) (sz := sz) htx (p)
            refine V.iload C (n := 98) (j := 4) d_M_isWord_96 rfl rfl ?_
            refine V.icmpn_ne C (tgt := 105) (n := 101) (by omega) (by omega) d_M_isWord_98 (by decide) rfl (fun c98_22 => ?_) (fun c98_22 => ?_)
            · refine V.iconst C (v := nI 0) (n := 106) d_M_isWord_105 (by decide) rfl ?_
              refine V.cv C (y := bI (false = true)) (bI_0 (by decide)) ?_
              refine V.istore_n C (n := 107) (lv' := [(0, .ref (w 0)), (1, .int (nI 0)), (2, .int (bI (false = true))), (3, .int (nI k)), (4, .int (nI 97))]) [1, 2, 0, 3, 4] d_M_isWord_106 rfl (by decide) rfl rfl ?_
              refine V.aload_n C (n := 108) (j := 0) d_M_isWord_107 rfl rfl rfl ?_
              refine V.dup C (n := 109) d_M_isWord_108 rfl rfl ?_
              refine V.get C (n := 112) (q0 := 0) (k0 := 17) clOk_6 rfl (by decide) rfl fl_M_128 rfl d_M_isWord_109 rfl ?_
              refine V.iload_n C (n := 113) (j := 2) d_M_isWord_112 rfl rfl rfl ?_
              refine V.ifb_eq C (tgt := 120) (n := 116) d_M_isWord_113 (by decide) rfl (fun c113_23 => ?_) (fun c113_23 => ?_)
              · refine V.iconst C (v := nI 0) (n := 121) d_M_isWord_120 (by decide) rfl ?_
                refine V.iadd_n C (n := 122) d_M_isWord_121 rfl ?_
                refine V.put C (n := 125) (q0 := 0) (k0 := 17) (ws' := (ModW w cI nf se pe ra ga of ti fm tm ex sz tx ld ro wh be (p + 0) nu)) clOk_6 rfl (by decide) rfl rfl fl_M_128 rfl rfl (of_decide_eq_true rfl) rfl d_M_isWord_122 rfl ?_
                refine V.iinc C (n := 128) (j := 3) (v := nI (k + 1)) (lv' := [(0, .ref (w 0)), (1, .int (nI 0)), (2, .int (bI (false = true))), (3, .int (nI (k + 1))), (4, .int (nI 97))]) [1, 2, 3, 0, 4] d_M_isWord_125 rfl (nI_inc (k) 1) (by decide) rfl rfl ?_
                refine V.goto C (n := 4) d_M_isWord_128 (by decide) ?_
                refine V.lsub C [0, 1, 2, 3] (lv' := [(0, .ref (w 0)), (1, .int (nI 0)), (2, .int (bI (false = true))), (3, .int (nI (k + 1)))]) rfl ?_
                refine V.lsub C [0, 1, 2, 3] (lv' := [(0, .ref (w 0)), (1, .int (nI 0)), (2, .int (bI (false = true))), (3, .int (nI (k + 1)))]) rfl ?_
                exact ih4 (k + 1) (false) (p) ⟨by omega, wM_f hw (by rintro ⟨q1, q2⟩; first | exact absurd q1 (by assumption) | (rw [show k = 2 by omega] at q2; exact absurd q2 (by show ¬ _ = 97; omega))), by omega⟩ (by omega)
              · exact absurd c113_23 (by decide)
            · refine V.iconst C (v := nI 1) (n := 102) d_M_isWord_101 (by decide) rfl ?_
              refine V.goto C (n := 106) d_M_isWord_102 (by decide) ?_
              refine V.cv C (y := bI (true = true)) (bI_1 rfl) ?_
              refine V.istore_n C (n := 107) (lv' := [(0, .ref (w 0)), (1, .int (nI 0)), (2, .int (bI (true = true))), (3, .int (nI k)), (4, .int (nI 97))]) [1, 2, 0, 3, 4] d_M_isWord_106 rfl (by decide) rfl rfl ?_
              refine V.aload_n C (n := 108) (j := 0) d_M_isWord_107 rfl rfl rfl ?_
              refine V.dup C (n := 109) d_M_isWord_108 rfl rfl ?_
              refine V.get C (n := 112) (q0 := 0) (k0 := 17) clOk_6 rfl (by decide) rfl fl_M_128 rfl d_M_isWord_109 rfl ?_
              refine V.iload_n C (n := 113) (j := 2) d_M_isWord_112 rfl rfl rfl ?_
              refine V.ifb_eq C (tgt := 120) (n := 116) d_M_isWord_113 (by decide) rfl (fun c113_24 => ?_) (fun c113_24 => ?_)
              · exact absurd c113_24 (by decide)
              · refine V.iconst C (v := nI 1) (n := 117) d_M_isWord_116 (by decide) rfl ?_
                refine V.goto C (n := 121) d_M_isWord_117 (by decide) ?_
                refine V.iadd_n C (n := 122) d_M_isWord_121 rfl ?_
                refine V.put C (n := 125) (q0 := 0) (k0 := 17) (ws' := (ModW w cI nf se pe ra ga of ti fm tm ex sz tx ld ro wh be (p + 1) nu)) clOk_6 rfl (by decide) rfl rfl fl_M_128 rfl rfl (of_decide_eq_true rfl) rfl d_M_isWord_122 rfl ?_
                refine V.iinc C (n := 128) (j := 3) (v := nI (k + 1)) (lv' := [(0, .ref (w 0)), (1, .int (nI 0)), (2, .int (bI (true = true))), (3, .int (nI (k + 1))), (4, .int (nI 97))]) [1, 2, 3, 0, 4] d_M_isWord_125 rfl (nI_inc (k) 1) (by decide) rfl rfl ?_
                refine V.goto C (n := 4) d_M_isWord_128 (by decide) ?_
                refine V.lsub C [0, 1, 2, 3] (lv' := [(0, .ref (w 0)), (1, .int (nI 0)), (2, .int (bI (true = true))), (3, .int (nI (k + 1)))]) rfl ?_
                refine V.lsub C [0, 1, 2, 3] (lv' := [(0, .ref (w 0)), (1, .int (nI 0)), (2, .int (bI (true = true))), (3, .int (nI (k + 1)))]) rfl ?_
                exact ih4 (k + 1) (true) (p + 1) ⟨by omega, wM_t hw (by assumption) (by rw [show k = 2 by omega]; show _ = 97; omega), by omega⟩ (by omega)
      · refine V.iload_n C (n := 33) (j := 1) d_M_isWord_32 rfl rfl rfl ?_
        refine V.ifn_eq C (tgt := 41) (n := 36) (by omega) d_M_isWord_33 (by decide) rfl (fun c33_25 => ?_) (fun c33_25 => ?_)
        · refine V.bipush C (v := nI 114) (n := 43) d_M_isWord_41 (by decide) rfl ?_
          refine V.goto C (n := 86) d_M_isWord_43 (by decide) ?_
          refine V.istore C (n := 88) (lv' := [(0, .ref (w 0)), (1, .int (nI 0)), (2, .int (bI (g = true))), (3, .int (nI k)), (4, .int (nI 114))]) [1, 2, 3, 4, 0] d_M_isWord_86 (by decide) rfl rfl ?_
          refine V.iload_n C (n := 89) (j := 2) d_M_isWord_88 rfl rfl rfl ?_
          refine V.ifb_eq C (tgt := 105) (n := 92) d_M_isWord_89 (by decide) rfl (fun c89_26 => ?_) (fun c89_26 => ?_)
          · refine V.iconst C (v := nI 0) (n := 106) d_M_isWord_105 (by decide) rfl ?_
            refine V.cv C (y := bI (false = true)) (bI_0 (by decide)) ?_
            refine V.istore_n C (n := 107) (lv' := [(0, .ref (w 0)), (1, .int (nI 0)), (2, .int (bI (false = true))), (3, .int (nI k)), (4, .int (nI 114))]) [1, 2, 0, 3, 4] d_M_isWord_106 rfl (by decide) rfl rfl ?_
            refine V.aload_n C (n := 108) (j := 0) d_M_isWord_107 rfl rfl rfl ?_
            refine V.dup C (n := 109) d_M_isWord_108 rfl rfl ?_
            refine V.get C (n := 112) (q0 := 0) (k0 := 17) clOk_6 rfl (by decide) rfl fl_M_128 rfl d_M_isWord_109 rfl ?_
            refine V.iload_n C (n := 113) (j := 2) d_M_isWord_112 rfl rfl rfl ?_
            refine V.ifb_eq C (tgt := 120) (n := 116) d_M_isWord_113 (by decide) rfl (fun c113_27 => ?_) (fun c113_27 => ?_)
            · refine V.iconst C (v := nI 0) (n := 121) d_M_isWord_120 (by decide) rfl ?_
              refine V.iadd_n C (n := 122) d_M_isWord_121 rfl ?_
              refine V.put C (n := 125) (q0 := 0) (k0 := 17) (ws' := (ModW w cI nf se pe ra ga of ti fm tm ex sz tx ld ro wh be (p + 0) nu)) clOk_6 rfl (by decide) rfl rfl fl_M_128 rfl rfl (of_decide_eq_true rfl) rfl d_M_isWord_122 rfl ?_
              refine V.iinc C (n := 128) (j := 3) (v := nI (k + 1)) (lv' := [(0, .ref (w 0)), (1, .int (nI 0)), (2, .int (bI (false = true))), (3, .int (nI (k + 1))), (4, .int (nI 114))]) [1, 2, 3, 0, 4] d_M_isWord_125 rfl (nI_inc (k) 1) (by decide) rfl rfl ?_
              refine V.goto C (n := 4) d_M_isWord_128 (by decide) ?_
              refine V.lsub C [0, 1, 2, 3] (lv' := [(0, .ref (w 0)), (1, .int (nI 0)), (2, .int (bI (false = true))), (3, .int (nI (k + 1)))]) rfl ?_
              refine V.lsub C [0, 1, 2, 3] (lv' := [(0, .ref (w 0)), (1, .int (nI 0)), (2, .int (bI (false = true))), (3, .int (nI (k + 1)))]) rfl ?_
              exact ih4 (k + 1) (false) (p) ⟨by omega, wM_f hw (by rintro ⟨q1, q2⟩; first | exact absurd q1 (by assumption) | (rw [show k = 1 by omega] at q2; exact absurd q2 (by show ¬ _ = 114; omega))), by omega⟩ (by omega)
            · exact absurd c113_27 (by decide)
          · refine V.aload_n C (n := 93) (j := 0) d_M_isWord_92 rfl rfl rfl ?_
            refine V.callV_i C (n := 96) (ws' := (ModW w cI nf se pe ra ga of ti fm tm ex sz tx ld ro wh be p nu)) (c_M_at0 l D cI cC E (w) (nf) (se) (pe) (ra) (ga) (of) (ti) (fm) (tm) (ex) (sz) (tx) (ld) (ro) (wh) (be) (p) (nu) ht (by omega)) cw_M_131 [0, 1, 2, 3, 4, 5, 6, 7, 8, 9, 10, 11, 12, 13] [] [0, 1, 2, 3, 4, 5, 6, 7, 8, 9, 10, 11, 12, 13] (qr := 0) rfl rfl rfl (of_decide_eq_true rfl) rfl (of_decide_eq_true rfl) rfl (of_decide_eq_true rfl) rfl (of_decide_eq_true rfl) rfl ⟨rfl, rfl⟩ ⟨by decide, by decide⟩ ⟨by decide, by decide⟩ rfl rfl (of_decide_eq_true rfl) d_M_isWord_93 rfl ?_
            have b_4 := a0_le (tx := tx) (sz := sz) htx (p)
            refine V.iload C (n := 98) (j := 4) d_M_isWord_96 rfl rfl ?_
            refine V.icmpn_ne C (tgt := 105) (n := 101) (by omega) (by omega) d_M_isWord_98 (by decide) rfl (fun c98_28 => ?_) (fun c98_28 => ?_)
            · refine V.iconst C (v := nI 0) (n := 106) d_M_isWord_105 (by decide) rfl ?_
              refine V.cv C (y := bI (false = true)) (bI_0 (by decide)) ?_
              refine V.istore_n C (n := 107) (lv' := [(0, .ref (w 0)), (1, .int (nI 0)), (2, .int (bI (false = true))), (3, .int (nI k)), (4, .int (nI 114))]) [1, 2, 0, 3, 4] d_M_isWord_106 rfl (by decide) rfl rfl ?_
              refine V.aload_n C (n := 108) (j := 0) d_M_isWord_107 rfl rfl rfl ?_
              refine V.dup C (n := 109) d_M_isWord_108 rfl rfl ?_
              refine V.get C (n := 112) (q0 := 0) (k0 := 17) clOk_6 rfl (by decide) rfl fl_M_128 rfl d_M_isWord_109 rfl ?_
              refine V.iload_n C (n := 113) (j := 2) d_M_isWord_112 rfl rfl rfl ?_
              refine V.ifb_eq C (tgt := 120) (n := 116) d_M_isWord_113 (by decide) rfl (fun c113_29 => ?_) (fun c113_29 => ?_)
              · refine V.iconst C (v := nI 0) (n := 121) d_M_isWord_120 (by decide) rfl ?_
                refine V.iadd_n C (n := 122) d_M_isWord_121 rfl ?_
                refine V.put C (n := 125) (q0 := 0) (k0 := 17) (ws' := (ModW w cI nf se pe ra ga of ti fm tm ex sz tx ld ro wh be (p + 0) nu)) clOk_6 rfl (by decide) rfl rfl fl_M_128 rfl rfl (of_decide_eq_true rfl) rfl d_M_isWord_122 rfl ?_
                refine V.iinc C (n := 128) (j := 3) (v := nI (k + 1)) (lv' := [(0, .ref (w 0)), (1, .int (nI 0)), (2, .int (bI (false = true))), (3, .int (nI (k + 1))), (4, .int (nI 114))]) [1, 2, 3, 0, 4] d_M_isWord_125 rfl (nI_inc (k) 1) (by decide) rfl rfl ?_
                refine V.goto C (n := 4) d_M_isWord_128 (by decide) ?_
                refine V.lsub C [0, 1, 2, 3] (lv' := [(0, .ref (w 0)), (1, .int (nI 0)), (2, .int (bI (false = true))), (3, .int (nI (k + 1)))]) rfl ?_
                refine V.lsub C [0, 1, 2, 3] (lv' := [(0, .ref (w 0)), (1, .int (nI 0)), (2, .int (bI (false = true))), (3, .int (nI (k + 1)))]) rfl ?_
                exact ih4 (k + 1) (false) (p) ⟨by omega, wM_f hw (by rintro ⟨q1, q2⟩; first | exact absurd q1 (by assumption) | (rw [show k = 1 by omega] at q2; exact absurd q2 (by show ¬ _ = 114; omega))), by omega⟩ (by omega)
              · exact absurd c113_29 (by decide)
            · refine V.iconst C (v := nI 1) (n := 102) d_M_isWord_101 (by decide) rfl ?_
              refine V.goto C (n := 106) d_M_isWord_102 (by decide) ?_
              refine V.cv C (y := bI (true = true)) (bI_1 rfl) ?_
              refine V.istore_n C (n := 107) (lv' := [(0, .ref (w 0)), (1, .int (nI 0)), (2, .int (bI (true = true))), (3, .int (nI k)), (4, .int (nI 114))]) [1, 2, 0, 3, 4] d_M_isWord_106 rfl (by decide) rfl rfl ?_
              refine V.aload_n C (n := 108) (j := 0) d_M_isWord_107 rfl rfl rfl ?_
              refine V.dup C (n := 109) d_M_isWord_108 rfl rfl ?_
              refine V.get C (n := 112) (q0 := 0) (k0 := 17) clOk_6 rfl (by decide) rfl fl_M_128 rfl d_M_isWord_109 rfl ?_
              refine V.iload_n C (n := 113) (j := 2) d_M_isWord_112 rfl rfl rfl ?_
              refine V.ifb_eq C (tgt := 120) (n := 116) d_M_isWord_113 (by decide) rfl (fun c113_30 => ?_) (fun c113_30 => ?_)
              · exact absurd c113_30 (by decide)
              · refine V.iconst C (v := nI 1) (n := 117) d_M_isWord_116 (by decide) rfl ?_
                refine V.goto C (n := 121) d_M_isWord_117 (by decide) ?_
                refine V.iadd_n C (n := 122) d_M_isWord_121 rfl ?_
                refine V.put C (n := 125) (q0 := 0) (k0 := 17) (ws' := (ModW w cI nf se pe ra ga of ti fm tm ex sz tx ld ro wh be (p + 1) nu)) clOk_6 rfl (by decide) rfl rfl fl_M_128 rfl rfl (of_decide_eq_true rfl) rfl d_M_isWord_122 rfl ?_
                refine V.iinc C (n := 128) (j := 3) (v := nI (k + 1)) (lv' := [(0, .ref (w 0)), (1, .int (nI 0)), (2, .int (bI (true = true))), (3, .int (nI (k + 1))), (4, .int (nI 114))]) [1, 2, 3, 0, 4] d_M_isWord_125 rfl (nI_inc (k) 1) (by decide) rfl rfl ?_
                refine V.goto C (n := 4) d_M_isWord_128 (by decide) ?_
                refine V.lsub C [0, 1, 2, 3] (lv' := [(0, .ref (w 0)), (1, .int (nI 0)), (2, .int (bI (true = true))), (3, .int (nI (k + 1)))]) rfl ?_
                refine V.lsub C [0, 1, 2, 3] (lv' := [(0, .ref (w 0)), (1, .int (nI 0)), (2, .int (bI (true = true))), (3, .int (nI (k + 1)))]) rfl ?_
                exact ih4 (k + 1) (true) (p + 1) ⟨by omega, wM_t hw (by assumption) (by rw [show k = 1 by omega]; show _ = 114; omega), by omega⟩ (by omega)
        · exact absurd c33_25 (by decide)
    · refine V.iload_n C (n := 14) (j := 1) d_M_isWord_13 rfl rfl rfl ?_
      refine V.ifn_eq C (tgt := 22) (n := 17) (by omega) d_M_isWord_14 (by decide) rfl (fun c14_31 => ?_) (fun c14_31 => ?_)
      · refine V.bipush C (v := nI 102) (n := 24) d_M_isWord_22 (by decide) rfl ?_
        refine V.goto C (n := 86) d_M_isWord_24 (by decide) ?_
        refine V.istore C (n := 88) (lv' := [(0, .ref (w 0)), (1, .int (nI 0)), (2, .int (bI (g = true))), (3, .int (nI k)), (4, .int (nI 102))]) [1, 2, 3, 4, 0] d_M_isWord_86 (by decide) rfl rfl ?_
        refine V.iload_n C (n := 89) (j := 2) d_M_isWord_88 rfl rfl rfl ?_
        refine V.ifb_eq C (tgt := 105) (n := 92) d_M_isWord_89 (by decide) rfl (fun c89_32 => ?_) (fun c89_32 => ?_)
        · refine V.iconst C (v := nI 0) (n := 106) d_M_isWord_105 (by decide) rfl ?_
          refine V.cv C (y := bI (false = true)) (bI_0 (by decide)) ?_
          refine V.istore_n C (n := 107) (lv' := [(0, .ref (w 0)), (1, .int (nI 0)), (2, .int (bI (false = true))), (3, .int (nI k)), (4, .int (nI 102))]) [1, 2, 0, 3, 4] d_M_isWord_106 rfl (by decide) rfl rfl ?_
          refine V.aload_n C (n := 108) (j := 0) d_M_isWord_107 rfl rfl rfl ?_
          refine V.dup C (n := 109) d_M_isWord_108 rfl rfl ?_
          refine V.get C (n := 112) (q0 := 0) (k0 := 17) clOk_6 rfl (by decide) rfl fl_M_128 rfl d_M_isWord_109 rfl ?_
          refine V.iload_n C (n := 113) (j := 2) d_M_isWord_112 rfl rfl rfl ?_
          refine V.ifb_eq C (tgt := 120) (n := 116) d_M_isWord_113 (by decide) rfl (fun c113_33 => ?_) (fun c113_33 => ?_)
          · refine V.iconst C (v := nI 0) (n := 121) d_M_isWord_120 (by decide) rfl ?_
            refine V.iadd_n C (n := 122) d_M_isWord_121 rfl ?_
            refine V.put C (n := 125) (q0 := 0) (k0 := 17) (ws' := (ModW w cI nf se pe ra ga of ti fm tm ex sz tx ld ro wh be (p + 0) nu)) clOk_6 rfl (by decide) rfl rfl fl_M_128 rfl rfl (of_decide_eq_true rfl) rfl d_M_isWord_122 rfl ?_
            refine V.iinc C (n := 128) (j := 3) (v := nI (k + 1)) (lv' := [(0, .ref (w 0)), (1, .int (nI 0)), (2, .int (bI (false = true))), (3, .int (nI (k + 1))), (4, .int (nI 102))]) [1, 2, 3, 0, 4] d_M_isWord_125 rfl (nI_inc (k) 1) (by decide) rfl rfl ?_
            refine V.goto C (n := 4) d_M_isWord_128 (by decide) ?_
            refine V.lsub C [0, 1, 2, 3] (lv' := [(0, .ref (w 0)), (1, .int (nI 0)), (2, .int (bI (false = true))), (3, .int (nI (k + 1)))]) rfl ?_
            refine V.lsub C [0, 1, 2, 3] (lv' := [(0, .ref (w 0)), (1, .int (nI 0)), (2, .int (bI (false = true))), (3, .int (nI (k + 1)))]) rfl ?_
            exact ih4 (k + 1) (false) (p) ⟨by omega, wM_f hw (by rintro ⟨q1, q2⟩; first | exact absurd q1 (by assumption) | (rw [show k = 0 by omega] at q2; exact absurd q2 (by show ¬ _ = 102; omega))), by omega⟩ (by omega)
          · exact absurd c113_33 (by decide)
        · refine V.aload_n C (n := 93) (j := 0) d_M_isWord_92 rfl rfl rfl ?_
          refine V.callV_i C (n := 96) (ws' := (ModW w cI nf se pe ra ga of ti fm tm ex sz tx ld ro wh be p nu)) (c_M_at0 l D cI cC E (w) (nf) (se) (pe) (ra) (ga) (of) (ti) (fm) (tm) (ex) (sz) (tx) (ld) (ro) (wh) (be) (p) (nu) ht (by omega)) cw_M_131 [0, 1, 2, 3, 4, 5, 6, 7, 8, 9, 10, 11, 12, 13] [] [0, 1, 2, 3, 4, 5, 6, 7, 8, 9, 10, 11, 12, 13] (qr := 0) rfl rfl rfl (of_decide_eq_true rfl) rfl (of_decide_eq_true rfl) rfl (of_decide_eq_true rfl) rfl (of_decide_eq_true rfl) rfl ⟨rfl, rfl⟩ ⟨by decide, by decide⟩ ⟨by decide, by decide⟩ rfl rfl (of_decide_eq_true rfl) d_M_isWord_93 rfl ?_
          have b_5 := a0_le (tx := tx) (sz := sz) htx (p)
          refine V.iload C (n := 98) (j := 4) d_M_isWord_96 rfl rfl ?_
          refine V.icmpn_ne C (tgt := 105) (n := 101) (by omega) (by omega) d_M_isWord_98 (by decide) rfl (fun c98_34 => ?_) (fun c98_34 => ?_)
          · refine V.iconst C (v := nI 0) (n := 106) d_M_isWord_105 (by decide) rfl ?_
            refine V.cv C (y := bI (false = true)) (bI_0 (by decide)) ?_
            refine V.istore_n C (n := 107) (lv' := [(0, .ref (w 0)), (1, .int (nI 0)), (2, .int (bI (false = true))), (3, .int (nI k)), (4, .int (nI 102))]) [1, 2, 0, 3, 4] d_M_isWord_106 rfl (by decide) rfl rfl ?_
            refine V.aload_n C (n := 108) (j := 0) d_M_isWord_107 rfl rfl rfl ?_
            refine V.dup C (n := 109) d_M_isWord_108 rfl rfl ?_
            refine V.get C (n := 112) (q0 := 0) (k0 := 17) clOk_6 rfl (by decide) rfl fl_M_128 rfl d_M_isWord_109 rfl ?_
            refine V.iload_n C (n := 113) (j := 2) d_M_isWord_112 rfl rfl rfl ?_
            refine V.ifb_eq C (tgt := 120) (n := 116) d_M_isWord_113 (by decide) rfl (fun c113_35 => ?_) (fun c113_35 => ?_)
            · refine V.iconst C (v := nI 0) (n := 121) d_M_isWord_120 (by decide) rfl ?_
              refine V.iadd_n C (n := 122) d_M_isWord_121 rfl ?_
              refine V.put C (n := 125) (q0 := 0) (k0 := 17) (ws' := (ModW w cI nf se pe ra ga of ti fm tm ex sz tx ld ro wh be (p + 0) nu)) clOk_6 rfl (by decide) rfl rfl fl_M_128 rfl rfl (of_decide_eq_true rfl) rfl d_M_isWord_122 rfl ?_
              refine V.iinc C (n := 128) (j := 3) (v := nI (k + 1)) (lv' := [(0, .ref (w 0)), (1, .int (nI 0)), (2, .int (bI (false = true))), (3, .int (nI (k + 1))), (4, .int (nI 102))]) [1, 2, 3, 0, 4] d_M_isWord_125 rfl (nI_inc (k) 1) (by decide) rfl rfl ?_
              refine V.goto C (n := 4) d_M_isWord_128 (by decide) ?_
              refine V.lsub C [0, 1, 2, 3] (lv' := [(0, .ref (w 0)), (1, .int (nI 0)), (2, .int (bI (false = true))), (3, .int (nI (k + 1)))]) rfl ?_
              refine V.lsub C [0, 1, 2, 3] (lv' := [(0, .ref (w 0)), (1, .int (nI 0)), (2, .int (bI (false = true))), (3, .int (nI (k + 1)))]) rfl ?_
              exact ih4 (k + 1) (false) (p) ⟨by omega, wM_f hw (by rintro ⟨q1, q2⟩; first | exact absurd q1 (by assumption) | (rw [show k = 0 by omega] at q2; exact absurd q2 (by show ¬ _ = 102; omega))), by omega⟩ (by omega)
            · exact absurd c113_35 (by decide)
          · refine V.iconst C (v := nI 1) (n := 102) d_M_isWord_101 (by decide) rfl ?_
            refine V.goto C (n := 106) d_M_isWord_102 (by decide) ?_
            refine V.cv C (y := bI (true = true)) (bI_1 rfl) ?_
            refine V.istore_n C (n := 107) (lv' := [(0, .ref (w 0)), (1, .int (nI 0)), (2, .int (bI (true = true))), (3, .int (nI k)), (4, .int (nI 102))]) [1, 2, 0, 3, 4] d_M_isWord_106 rfl (by decide) rfl rfl ?_
            refine V.aload_n C (n := 108) (j := 0) d_M_isWord_107 rfl rfl rfl ?_
            refine V.dup C (n := 109) d_M_isWord_108 rfl rfl ?_
            refine V.get C (n := 112) (q0 := 0) (k0 := 17) clOk_6 rfl (by decide) rfl fl_M_128 rfl d_M_isWord_109 rfl ?_
            refine V.iload_n C (n := 113) (j := 2) d_M_isWord_112 rfl rfl rfl ?_
            refine V.ifb_eq C (tgt := 120) (n := 116) d_M_isWord_113 (by decide) rfl (fun c113_36 => ?_) (fun c113_36 => ?_)
            · exact absurd c113_36 (by decide)
            · refine V.iconst C (v := nI 1) (n := 117) d_M_isWord_116 (by decide) rfl ?_
              refine V.goto C (n := 121) d_M_isWord_117 (by decide) ?_
              refine V.iadd_n C (n := 122) d_M_isWord_121 rfl ?_
              refine V.put C (n := 125) (q0 := 0) (k0 := 17) (ws' := (ModW w cI nf se pe ra ga of ti fm tm ex sz tx ld ro wh be (p + 1) nu)) clOk_6 rfl (by decide) rfl rfl fl_M_128 rfl rfl (of_decide_eq_true rfl) rfl d_M_isWord_122 rfl ?_
              refine V.iinc C (n := 128) (j := 3) (v := nI (k + 1)) (lv' := [(0, .ref (w 0)), (1, .int (nI 0)), (2, .int (bI (true = true))), (3, .int (nI (k + 1))), (4, .int (nI 102))]) [1, 2, 3, 0, 4] d_M_isWord_125 rfl (nI_inc (k) 1) (by decide) rfl rfl ?_
              refine V.goto C (n := 4) d_M_isWord_128 (by decide) ?_
              refine V.lsub C [0, 1, 2, 3] (lv' := [(0, .ref (w 0)), (1, .int (nI 0)), (2, .int (bI (true = true))), (3, .int (nI (k + 1)))]) rfl ?_
              refine V.lsub C [0, 1, 2, 3] (lv' := [(0, .ref (w 0)), (1, .int (nI 0)), (2, .int (bI (true = true))), (3, .int (nI (k + 1)))]) rfl ?_
              exact ih4 (k + 1) (true) (p + 1) ⟨by omega, wM_t hw (by assumption) (by rw [show k = 0 by omega]; show _ = 102; omega), by omega⟩ (by omega)
      · exact absurd c14_31 (by decide)
set_option maxHeartbeats 4000000 in
set_option maxRecDepth 100000 in
theorem c_M_isWord_r (l : Launch) (D : va_G) (cI cC : ClassId) (E : Nat → Nat) (w : Nat → Nat) (nf : Nat) (se pe ra ga of ti fm tm : Nat → Nat) (ex : Bool) (sz : Nat) (tx ld : Nat → Nat) (ro : Nat → Int) (wh be : Nat → Nat) (pl nu : Nat) (V9 : Bool × Nat) (ht : typOK (tx, sz)) (hpl : pl ≤ 2990) (hV9 : V9 = wM tx sz 1 pl 5) : CI l D (TY cI cC E) m_M_isWord (rmD 3) [.ref (w 0), .int (nI 1)] ((ModW w cI nf se pe ra ga of ti fm tm ex sz tx ld ro wh be pl nu)) (bI (V9.1 = true ∧ (a0 tx sz V9.2 = 32 ∨ a0 tx sz V9.2 = 10))) ((ModW w cI nf se pe ra ga of ti fm tm ex sz tx ld ro wh be (psS tx sz V9.2) nu)) := by
  have hsz : sz ≤ 2001 := ht.1
  have htx : ∀ j, tx j ≤ 255 := ht.2
  refine CI.of (by decide +kernel) (of_decide_eq_true rfl) ?_
  intro p e s m args below meth c C hr
  refine V.iconst C (v := nI 1) (n := 1) d_M_isWord_0 (by decide) rfl ?_
  refine V.cv C (y := bI (true = true)) (bI_1 rfl) ?_
  refine V.istore_n C (n := 2) (lv' := [(0, .ref (w 0)), (1, .int (nI 1)), (2, .int (bI (true = true)))]) [1, 2, 0] d_M_isWord_1 rfl (by decide) rfl rfl ?_
  refine V.iconst C (v := nI 0) (n := 3) d_M_isWord_2 (by decide) rfl ?_
  refine V.istore_n C (n := 4) (lv' := [(0, .ref (w 0)), (1, .int (nI 1)), (2, .int (bI (true = true))), (3, .int (nI 0))]) [1, 2, 3, 0] d_M_isWord_3 rfl (by decide) rfl rfl ?_
  refine V.lsub C [0, 1, 2, 3] (lv' := [(0, .ref (w 0)), (1, .int (nI 1)), (2, .int (bI (true = true))), (3, .int (nI 0))]) rfl ?_
  refine V.ind3 C (fun (k : Nat) (g : Bool) (p : Nat) => (ModW w cI nf se pe ra ga of ti fm tm ex sz tx ld ro wh be p nu)) (fun (k : Nat) (g : Bool) (p : Nat) => [(0, .ref (w 0)), (1, .int (nI 1)), (2, .int (bI (g = true))), (3, .int (nI k))]) (fun (k : Nat) (g : Bool) (p : Nat) => (k ≤ 5) ∧ (wM tx sz 1 pl k = (g, p)) ∧ (p ≤ pl + k)) (fun (k : Nat) (g : Bool) (p : Nat) => 5 - k) (0) (true) (pl) ⟨by omega, rfl, by omega⟩ rfl rfl ?_
  rintro k g p ⟨hk, hw, hp⟩ ih4
  try dsimp only
  refine V.iload_n C (n := 5) (j := 3) d_M_isWord_4 rfl rfl rfl ?_
  refine V.iconst C (v := nI 5) (n := 6) d_M_isWord_5 (by decide) rfl ?_
  refine V.icmpn_ge C (tgt := 131) (n := 9) (by omega) (by omega) d_M_isWord_6 (by decide) rfl (fun c6_1 => ?_) (fun c6_1 => ?_)
  · have hV5 : V9 = (g, p) := by rw [hV9, ← show k = 5 by omega]; exact hw
    have hV1 : V9.1 = g := by rw [hV5]
    have hV2 : V9.2 = p := by rw [hV5]
    refine V.iload_n C (n := 132) (j := 2) d_M_isWord_131 rfl rfl rfl ?_
    refine V.ifb_eq C (tgt := 146) (n := 135) d_M_isWord_132 (by decide) rfl (fun c132_2 => ?_) (fun c132_2 => ?_)
    · refine V.iconst C (v := nI 0) (n := 147) d_M_isWord_146 (by decide) rfl ?_
      refine V.cv C (y := bI (false = true)) (bI_0 (by decide)) ?_
      refine V.istore_n C (n := 148) (lv' := [(0, .ref (w 0)), (1, .int (nI 1)), (2, .int (bI (false = true))), (3, .int (nI k))]) [1, 2, 0, 3] d_M_isWord_147 rfl (by decide) rfl rfl ?_
      refine V.aload_n C (n := 149) (j := 0) d_M_isWord_148 rfl rfl rfl ?_
      refine V.callV_v C (n := 152) (ws2 := fun _ => (ModW w cI nf se pe ra ga of ti fm tm ex sz tx ld ro wh be (psS tx sz p) nu)) (c_M_passSpaces l D cI cC E (w) (nf) (se) (pe) (ra) (ga) (of) (ti) (fm) (tm) (ex) (sz) (tx) (ld) (ro) (wh) (be) (p) (nu) ht (by omega)) cw_M_141 [0, 1, 2, 3, 4, 5, 6, 7, 8, 9, 10, 11, 12, 13] [] [0, 1, 2, 3, 4, 5, 6, 7, 8, 9, 10, 11, 12, 13] (qr := 0) rfl rfl rfl (of_decide_eq_true rfl) rfl (of_decide_eq_true rfl) rfl (of_decide_eq_true rfl) (fun _ => rfl) (fun _ => of_decide_eq_true rfl) rfl ⟨rfl, rfl⟩ ⟨by decide, by decide⟩ ⟨by decide, by decide⟩ rfl rfl (of_decide_eq_true rfl) d_M_isWord_149 rfl (fun _ _ => ?_)
      refine V.iload_n C (n := 153) (j := 2) d_M_isWord_152 rfl rfl rfl ?_
      exact V.zret C hr (bI_nar _) d_M_isWord_153 (by rw [hV1, hV2]; exact bI_c ⟨fun q => absurd q (by decide), fun q => by first | exact absurd q.1 (by assumption) | exact absurd q.2 (by assumption)⟩) (by rw [hV2])
    · refine V.aload_n C (n := 136) (j := 0) d_M_isWord_135 rfl rfl rfl ?_
      refine V.callV_i C (n := 139) (ws' := (ModW w cI nf se pe ra ga of ti fm tm ex sz tx ld ro wh be p nu)) (c_M_isBetween l D cI cC E (w) (nf) (se) (pe) (ra) (ga) (of) (ti) (fm) (tm) (ex) (sz) (tx) (ld) (ro) (wh) (be) (p) (nu) ht (by omega)) cw_M_138 [0, 1, 2, 3, 4, 5, 6, 7, 8, 9, 10, 11, 12, 13] [] [0, 1, 2, 3, 4, 5, 6, 7, 8, 9, 10, 11, 12, 13] (qr := 0) rfl rfl rfl (of_decide_eq_true rfl) rfl (of_decide_eq_true rfl) rfl (of_decide_eq_true rfl) rfl (of_decide_eq_true rfl) rfl ⟨rfl, rfl⟩ ⟨by decide, by decide⟩ ⟨by decide, by decide⟩ rfl rfl (of_decide_eq_true rfl) d_M_isWord_136 rfl ?_
      refine V.ifb_eq C (tgt := 146) (n := 142) d_M_isWord_139 (by decide) rfl (fun c139_3 => ?_) (fun c139_3 => ?_)
      · refine V.iconst C (v := nI 0) (n := 147) d_M_isWord_146 (by decide) rfl ?_
        refine V.cv C (y := bI (false = true)) (bI_0 (by decide)) ?_
        refine V.istore_n C (n := 148) (lv' := [(0, .ref (w 0)), (1, .int (nI 1)), (2, .int (bI (false = true))), (3, .int (nI k))]) [1, 2, 0, 3] d_M_isWord_147 rfl (by decide) rfl rfl ?_
        refine V.aload_n C (n := 149) (j := 0) d_M_isWord_148 rfl rfl rfl ?_
        refine V.callV_v C (n := 152) (ws2 := fun _ => (ModW w cI nf se pe ra ga of ti fm tm ex sz tx ld ro wh be (psS tx sz p) nu)) (c_M_passSpaces l D cI cC E (w) (nf) (se) (pe) (ra) (ga) (of) (ti) (fm) (tm) (ex) (sz) (tx) (ld) (ro) (wh) (be) (p) (nu) ht (by omega)) cw_M_141 [0, 1, 2, 3, 4, 5, 6, 7, 8, 9, 10, 11, 12, 13] [] [0, 1, 2, 3, 4, 5, 6, 7, 8, 9, 10, 11, 12, 13] (qr := 0) rfl rfl rfl (of_decide_eq_true rfl) rfl (of_decide_eq_true rfl) rfl (of_decide_eq_true rfl) (fun _ => rfl) (fun _ => of_decide_eq_true rfl) rfl ⟨rfl, rfl⟩ ⟨by decide, by decide⟩ ⟨by decide, by decide⟩ rfl rfl (of_decide_eq_true rfl) d_M_isWord_149 rfl (fun _ _ => ?_)
        refine V.iload_n C (n := 153) (j := 2) d_M_isWord_152 rfl rfl rfl ?_
        exact V.zret C hr (bI_nar _) d_M_isWord_153 (by rw [hV1, hV2]; exact bI_c ⟨fun q => absurd q (by decide), fun q => by first | exact absurd q.1 (by assumption) | exact absurd q.2 (by assumption)⟩) (by rw [hV2])
      · refine V.iconst C (v := nI 1) (n := 143) d_M_isWord_142 (by decide) rfl ?_
        refine V.goto C (n := 147) d_M_isWord_143 (by decide) ?_
        refine V.cv C (y := bI (true = true)) (bI_1 rfl) ?_
        refine V.istore_n C (n := 148) (lv' := [(0, .ref (w 0)), (1, .int (nI 1)), (2, .int (bI (true = true))), (3, .int (nI k))]) [1, 2, 0, 3] d_M_isWord_147 rfl (by decide) rfl rfl ?_
        refine V.aload_n C (n := 149) (j := 0) d_M_isWord_148 rfl rfl rfl ?_
        refine V.callV_v C (n := 152) (ws2 := fun _ => (ModW w cI nf se pe ra ga of ti fm tm ex sz tx ld ro wh be (psS tx sz p) nu)) (c_M_passSpaces l D cI cC E (w) (nf) (se) (pe) (ra) (ga) (of) (ti) (fm) (tm) (ex) (sz) (tx) (ld) (ro) (wh) (be) (p) (nu) ht (by omega)) cw_M_141 [0, 1, 2, 3, 4, 5, 6, 7, 8, 9, 10, 11, 12, 13] [] [0, 1, 2, 3, 4, 5, 6, 7, 8, 9, 10, 11, 12, 13] (qr := 0) rfl rfl rfl (of_decide_eq_true rfl) rfl (of_decide_eq_true rfl) rfl (of_decide_eq_true rfl) (fun _ => rfl) (fun _ => of_decide_eq_true rfl) rfl ⟨rfl, rfl⟩ ⟨by decide, by decide⟩ ⟨by decide, by decide⟩ rfl rfl (of_decide_eq_true rfl) d_M_isWord_149 rfl (fun _ _ => ?_)
        refine V.iload_n C (n := 153) (j := 2) d_M_isWord_152 rfl rfl rfl ?_
        exact V.zret C hr (bI_nar _) d_M_isWord_153 (by rw [hV1, hV2]; exact bI_c ⟨fun _ => ⟨by assumption, by assumption⟩, fun _ => rfl⟩) (by rw [hV2])
  · refine V.iload_n C (n := 10) (j := 3) d_M_isWord_9 rfl rfl rfl ?_
    refine V.ifn_ne C (tgt := 27) (n := 13) (by omega) d_M_isWord_10 (by decide) rfl (fun c10_4 => ?_) (fun c10_4 => ?_)
    · refine V.iload_n C (n := 28) (j := 3) d_M_isWord_27 rfl rfl rfl ?_
      refine V.iconst C (v := nI 1) (n := 29) d_M_isWord_28 (by decide) rfl ?_
      refine V.icmpn_ne C (tgt := 46) (n := 32) (by omega) (by omega) d_M_isWord_29 (by decide) rfl (fun c29_5 => ?_) (fun c29_5 => ?_)
      · refine V.iload_n C (n := 47) (j := 3) d_M_isWord_46 rfl rfl rfl ?_
        refine V.iconst C (v := nI 2) (n := 48) d_M_isWord_47 (by decide) rfl ?_
        refine V.icmpn_ne C (tgt := 56) (n := 51) (by omega) (by omega) d_M_isWord_48 (by decide) rfl (fun c48_6 => ?_) (fun c48_6 => ?_)
        · refine V.iload_n C (n := 57) (j := 3) d_M_isWord_56 rfl rfl rfl ?_
          refine V.iconst C (v := nI 3) (n := 58) d_M_isWord_57 (by decide) rfl ?_
          refine V.icmpn_ne C (tgt := 75) (n := 61) (by omega) (by omega) d_M_isWord_58 (by decide) rfl (fun c58_7 => ?_) (fun c58_7 => ?_)
          · refine V.iload_n C (n := 76) (j := 1) d_M_isWord_75 rfl rfl rfl ?_
            refine V.ifn_eq C (tgt := 84) (n := 79) (by omega) d_M_isWord_76 (by decide) rfl (fun c76_8 => ?_) (fun c76_8 => ?_)
            · exact absurd c76_8 (by decide)
            · refine V.bipush C (v := nI 115) (n := 81) d_M_isWord_79 (by decide) rfl ?_
              refine V.goto C (n := 86) d_M_isWord_81 (by decide) ?_
              refine V.istore C (n := 88) (lv' := [(0, .ref (w 0)), (1, .int (nI 1)), (2, .int (bI (g = true))), (3, .int (nI k)), (4, .int (nI 115))]) [1, 2, 3, 4, 0] d_M_isWord_86 (by decide) rfl rfl ?_
              refine V.iload_n C (n := 89) (j := 2) d_M_isWord_88 rfl rfl rfl ?_
              refine V.ifb_eq C (tgt := 105) (n := 92) d_M_isWord_89 (by decide) rfl (fun c89_9 => ?_) (fun c89_9 => ?_)
              · refine V.iconst C (v := nI 0) (n := 106) d_M_isWord_105 (by decide) rfl ?_
                refine V.cv C (y := bI (false = true)) (bI_0 (by decide)) ?_
                refine V.istore_n C (n := 107) (lv' := [(0, .ref (w 0)), (1, .int (nI 1)), (2, .int (bI (false = true))), (3, .int (nI k)), (4, .int (nI 115))]) [1, 2, 0, 3, 4] d_M_isWord_106 rfl (by decide) rfl rfl ?_
                refine V.aload_n C (n := 108) (j := 0) d_M_isWord_107 rfl rfl rfl ?_
                refine V.dup C (n := 109) d_M_isWord_108 rfl rfl ?_
                refine V.get C (n := 112) (q0 := 0) (k0 := 17) clOk_6 rfl (by decide) rfl fl_M_128 rfl d_M_isWord_109 rfl ?_
                refine V.iload_n C (n := 113) (j := 2) d_M_isWord_112 rfl rfl rfl ?_
                refine V.ifb_eq C (tgt := 120) (n := 116) d_M_isWord_113 (by decide) rfl (fun c113_10 => ?_) (fun c113_10 => ?_)
                · refine V.iconst C (v := nI 0) (n := 121) d_M_isWord_120 (by decide) rfl ?_
                  refine V.iadd_n C (n := 122) d_M_isWord_121 rfl ?_
                  refine V.put C (n := 125) (q0 := 0) (k0 := 17) (ws' := (ModW w cI nf se pe ra ga of ti fm tm ex sz tx ld ro wh be (p + 0) nu)) clOk_6 rfl (by decide) rfl rfl fl_M_128 rfl rfl (of_decide_eq_true rfl) rfl d_M_isWord_122 rfl ?_
                  refine V.iinc C (n := 128) (j := 3) (v := nI (k + 1)) (lv' := [(0, .ref (w 0)), (1, .int (nI 1)), (2, .int (bI (false = true))), (3, .int (nI (k + 1))), (4, .int (nI 115))]) [1, 2, 3, 0, 4] d_M_isWord_125 rfl (nI_inc (k) 1) (by decide) rfl rfl ?_
                  refine V.goto C (n := 4) d_M_isWord_128 (by decide) ?_
                  refine V.lsub C [0, 1, 2, 3] (lv' := [(0, .ref (w 0)), (1, .int (nI 1)), (2, .int (bI (false = true))), (3, .int (nI (k + 1)))]) rfl ?_
                  refine V.lsub C [0, 1, 2, 3] (lv' := [(0, .ref (w 0)), (1, .int (nI 1)), (2, .int (bI (false = true))), (3, .int (nI (k + 1)))]) rfl ?_
                  exact ih4 (k + 1) (false) (p) ⟨by omega, wM_f hw (by rintro ⟨q1, q2⟩; first | exact absurd q1 (by assumption) | (rw [show k = 4 by omega] at q2; exact absurd q2 (by show ¬ _ = 115; omega))), by omega⟩ (by omega)
                · exact absurd c113_10 (by decide)
              · refine V.aload_n C (n := 93) (j := 0) d_M_isWord_92 rfl rfl rfl ?_
                refine V.callV_i C (n := 96) (ws' := (ModW w cI nf se pe ra ga of ti fm tm ex sz tx ld ro wh be p nu)) (c_M_at0 l D cI cC E (w) (nf) (se) (pe) (ra) (ga) (of) (ti) (fm) (tm) (ex) (sz) (tx) (ld) (ro) (wh) (be) (p) (nu) ht (by omega)) cw_M_131 [0, 1, 2, 3, 4, 5, 6, 7, 8, 9, 10, 11, 12, 13] [] [0, 1, 2, 3, 4, 5, 6, 7, 8, 9, 10, 11, 12, 13] (qr := 0) rfl rfl rfl (of_decide_eq_true rfl) rfl (of_decide_eq_true rfl) rfl (of_decide_eq_true rfl) rfl (of_decide_eq_true rfl) rfl ⟨rfl, rfl⟩ ⟨by decide, by decide⟩ ⟨by decide, by decide⟩ rfl rfl (of_decide_eq_true rfl) d_M_isWord_93 rfl ?_
                have b_1 := a0_le (tx := tx) (sz := sz) htx (p)
                refine V.iload C (n := 98) (j := 4) d_M_isWord_96 rfl rfl ?_
                refine V.icmpn_ne C (tgt := 105) (n := 101) (by omega) (by omega) d_M_isWord_98 (by decide) rfl (fun c98_11 => ?_) (fun c98_11 => ?_)
                · refine V.iconst C (v := nI 0) (n := 106) d_M_isWord_105 (by decide) rfl ?_
                  refine V.cv C (y := bI (false = true)) (bI_0 (by decide)) ?_
                  refine V.istore_n C (n := 107) (lv' := [(0, .ref (w 0)), (1, .int (nI 1)), (2, .int (bI (false = true))), (3, .int (nI k)), (4, .int (nI 115))]) [1, 2, 0, 3, 4] d_M_isWord_106 rfl (by decide) rfl rfl ?_
                  refine V.aload_n C (n := 108) (j := 0) d_M_isWord_107 rfl rfl rfl ?_
                  refine V.dup C (n := 109) d_M_isWord_108 rfl rfl ?_
                  refine V.get C (n := 112) (q0 := 0) (k0 := 17) clOk_6 rfl (by decide) rfl fl_M_128 rfl d_M_isWord_109 rfl ?_
                  refine V.iload_n C (n := 113) (j := 2) d_M_isWord_112 rfl rfl rfl ?_
                  refine V.ifb_eq C (tgt := 120) (n := 116) d_M_isWord_113 (by decide) rfl (fun c113_12 => ?_) (fun c113_12 => ?_)
                  · refine V.iconst C (v := nI 0) (n := 121) d_M_isWord_120 (by decide) rfl ?_
                    refine V.iadd_n C (n := 122) d_M_isWord_121 rfl ?_
                    refine V.put C (n := 125) (q0 := 0) (k0 := 17) (ws' := (ModW w cI nf se pe ra ga of ti fm tm ex sz tx ld ro wh be (p + 0) nu)) clOk_6 rfl (by decide) rfl rfl fl_M_128 rfl rfl (of_decide_eq_true rfl) rfl d_M_isWord_122 rfl ?_
                    refine V.iinc C (n := 128) (j := 3) (v := nI (k + 1)) (lv' := [(0, .ref (w 0)), (1, .int (nI 1)), (2, .int (bI (false = true))), (3, .int (nI (k + 1))), (4, .int (nI 115))]) [1, 2, 3, 0, 4] d_M_isWord_125 rfl (nI_inc (k) 1) (by decide) rfl rfl ?_
                    refine V.goto C (n := 4) d_M_isWord_128 (by decide) ?_
                    refine V.lsub C [0, 1, 2, 3] (lv' := [(0, .ref (w 0)), (1, .int (nI 1)), (2, .int (bI (false = true))), (3, .int (nI (k + 1)))]) rfl ?_
                    refine V.lsub C [0, 1, 2, 3] (lv' := [(0, .ref (w 0)), (1, .int (nI 1)), (2, .int (bI (false = true))), (3, .int (nI (k + 1)))]) rfl ?_
                    exact ih4 (k + 1) (false) (p) ⟨by omega, wM_f hw (by rintro ⟨q1, q2⟩; first | exact absurd q1 (by assumption) | (rw [show k = 4 by omega] at q2; exact absurd q2 (by show ¬ _ = 115; omega))), by omega⟩ (by omega)
                  · exact absurd c113_12 (by decide)
                · refine V.iconst C (v := nI 1) (n := 102) d_M_isWord_101 (by decide) rfl ?_
                  refine V.goto C (n := 106) d_M_isWord_102 (by decide) ?_
                  refine V.cv C (y := bI (true = true)) (bI_1 rfl) ?_
                  refine V.istore_n C (n := 107) (lv' := [(0, .ref (w 0)), (1, .int (nI 1)), (2, .int (bI (true = true))), (3, .int (nI k)), (4, .int (nI 115))]) [1, 2, 0, 3, 4] d_M_isWord_106 rfl (by decide) rfl rfl ?_
                  refine V.aload_n C (n := 108) (j := 0) d_M_isWord_107 rfl rfl rfl ?_
                  refine V.dup C (n := 109) d_M_isWord_108 rfl rfl ?_
                  refine V.get C (n := 112) (q0 := 0) (k0 := 17) clOk_6 rfl (by decide) rfl fl_M_128 rfl d_M_isWord_109 rfl ?_
                  refine V.iload_n C (n := 113) (j := 2) d_M_isWord_112 rfl rfl rfl ?_
                  refine V.ifb_eq C (tgt := 120) (n := 116) d_M_isWord_113 (by decide) rfl (fun c113_13 => ?_) (fun c113_13 => ?_)
                  · exact absurd c113_13 (by decide)
                  · refine V.iconst C (v := nI 1) (n := 117) d_M_isWord_116 (by decide) rfl ?_
                    refine V.goto C (n := 121) d_M_isWord_117 (by decide) ?_
                    refine V.iadd_n C (n := 122) d_M_isWord_121 rfl ?_
                    refine V.put C (n := 125) (q0 := 0) (k0 := 17) (ws' := (ModW w cI nf se pe ra ga of ti fm tm ex sz tx ld ro wh be (p + 1) nu)) clOk_6 rfl (by decide) rfl rfl fl_M_128 rfl rfl (of_decide_eq_true rfl) rfl d_M_isWord_122 rfl ?_
                    refine V.iinc C (n := 128) (j := 3) (v := nI (k + 1)) (lv' := [(0, .ref (w 0)), (1, .int (nI 1)), (2, .int (bI (true = true))), (3, .int (nI (k + 1))), (4, .int (nI 115))]) [1, 2, 3, 0, 4] d_M_isWord_125 rfl (nI_inc (k) 1) (by decide) rfl rfl ?_
                    refine V.goto C (n := 4) d_M_isWord_128 (by decide) ?_
                    refine V.lsub C [0, 1, 2, 3] (lv' := [(0, .ref (w 0)), (1, .int (nI 1)), (2, .int (bI (true = true))), (3, .int (nI (k + 1)))]) rfl ?_
                    refine V.lsub C [0, 1, 2, 3] (lv' := [(0, .ref (w 0)), (1, .int (nI 1)), (2, .int (bI (true = true))), (3, .int (nI (k + 1)))]) rfl ?_
                    exact ih4 (k + 1) (true) (p + 1) ⟨by omega, wM_t hw (by assumption) (by rw [show k = 4 by omega]; show _ = 115; omega), by omega⟩ (by omega)
          · refine V.iload_n C (n := 62) (j := 1) d_M_isWord_61 rfl rfl rfl ?_
            refine V.ifn_eq C (tgt := 70) (n := 65) (by omega) d_M_isWord_62 (by decide) rfl (fun c62_14 => ?_) (fun c62_14 => ?_)
            · exact absurd c62_14 (by decide)
            · refine V.bipush C (v := nI 100) (n := 67) d_M_isWord_65 (by decide) rfl ?_
              refine V.goto C (n := 86) d_M_isWord_67 (by decide) ?_
              refine V.istore C (n := 88) (lv' := [(0, .ref (w 0)), (1, .int (nI 1)), (2, .int (bI (g = true))), (3, .int (nI k)), (4, .int (nI 100))]) [1, 2, 3, 4, 0] d_M_isWord_86 (by decide) rfl rfl ?_
              refine V.iload_n C (n := 89) (j := 2) d_M_isWord_88 rfl rfl rfl ?_
              refine V.ifb_eq C (tgt := 105) (n := 92) d_M_isWord_89 (by decide) rfl (fun c89_15 => ?_) (fun c89_15 => ?_)
              · refine V.iconst C (v := nI 0) (n := 106) d_M_isWord_105 (by decide) rfl ?_
                refine V.cv C (y := bI (false = true)) (bI_0 (by decide)) ?_
                refine V.istore_n C (n := 107) (lv' := [(0, .ref (w 0)), (1, .int (nI 1)), (2, .int (bI (false = true))), (3, .int (nI k)), (4, .int (nI 100))]) [1, 2, 0, 3, 4] d_M_isWord_106 rfl (by decide) rfl rfl ?_
                refine V.aload_n C (n := 108) (j := 0) d_M_isWord_107 rfl rfl rfl ?_
                refine V.dup C (n := 109) d_M_isWord_108 rfl rfl ?_
                refine V.get C (n := 112) (q0 := 0) (k0 := 17) clOk_6 rfl (by decide) rfl fl_M_128 rfl d_M_isWord_109 rfl ?_
                refine V.iload_n C (n := 113) (j := 2) d_M_isWord_112 rfl rfl rfl ?_
                refine V.ifb_eq C (tgt := 120) (n := 116) d_M_isWord_113 (by decide) rfl (fun c113_16 => ?_) (fun c113_16 => ?_)
                · refine V.iconst C (v := nI 0) (n := 121) d_M_isWord_120 (by decide) rfl ?_
                  refine V.iadd_n C (n := 122) d_M_isWord_121 rfl ?_
                  refine V.put C (n := 125) (q0 := 0) (k0 := 17) (ws' := (ModW w cI nf se pe ra ga of ti fm tm ex sz tx ld ro wh be (p + 0) nu)) clOk_6 rfl (by decide) rfl rfl fl_M_128 rfl rfl (of_decide_eq_true rfl) rfl d_M_isWord_122 rfl ?_
                  refine V.iinc C (n := 128) (j := 3) (v := nI (k + 1)) (lv' := [(0, .ref (w 0)), (1, .int (nI 1)), (2, .int (bI (false = true))), (3, .int (nI (k + 1))), (4, .int (nI 100))]) [1, 2, 3, 0, 4] d_M_isWord_125 rfl (nI_inc (k) 1) (by decide) rfl rfl ?_
                  refine V.goto C (n := 4) d_M_isWord_128 (by decide) ?_
                  refine V.lsub C [0, 1, 2, 3] (lv' := [(0, .ref (w 0)), (1, .int (nI 1)), (2, .int (bI (false = true))), (3, .int (nI (k + 1)))]) rfl ?_
                  refine V.lsub C [0, 1, 2, 3] (lv' := [(0, .ref (w 0)), (1, .int (nI 1)), (2, .int (bI (false = true))), (3, .int (nI (k + 1)))]) rfl ?_
                  exact ih4 (k + 1) (false) (p) ⟨by omega, wM_f hw (by rintro ⟨q1, q2⟩; first | exact absurd q1 (by assumption) | (rw [show k = 3 by omega] at q2; exact absurd q2 (by show ¬ _ = 100; omega))), by omega⟩ (by omega)
                · exact absurd c113_16 (by decide)
              · refine V.aload_n C (n := 93) (j := 0) d_M_isWord_92 rfl rfl rfl ?_
                refine V.callV_i C (n := 96) (ws' := (ModW w cI nf se pe ra ga of ti fm tm ex sz tx ld ro wh be p nu)) (c_M_at0 l D cI cC E (w) (nf) (se) (pe) (ra) (ga) (of) (ti) (fm) (tm) (ex) (sz) (tx) (ld) (ro) (wh) (be) (p) (nu) ht (by omega)) cw_M_131 [0, 1, 2, 3, 4, 5, 6, 7, 8, 9, 10, 11, 12, 13] [] [0, 1, 2, 3, 4, 5, 6, 7, 8, 9, 10, 11, 12, 13] (qr := 0) rfl rfl rfl (of_decide_eq_true rfl) rfl (of_decide_eq_true rfl) rfl (of_decide_eq_true rfl) rfl (of_decide_eq_true rfl) rfl ⟨rfl, rfl⟩ ⟨by decide, by decide⟩ ⟨by decide, by decide⟩ rfl rfl (of_decide_eq_true rfl) d_M_isWord_93 rfl ?_
                have b_2 := a0_le (tx := tx) (sz := sz) htx (p)
                refine V.iload C (n := 98) (j := 4) d_M_isWord_96 rfl rfl ?_
                refine V.icmpn_ne C (tgt := 105) (n := 101) (by omega) (by omega) d_M_isWord_98 (by decide) rfl (fun c98_17 => ?_) (fun c98_17 => ?_)
                · refine V.iconst C (v := nI 0) (n := 106) d_M_isWord_105 (by decide) rfl ?_
                  refine V.cv C (y := bI (false = true)) (bI_0 (by decide)) ?_
                  refine V.istore_n C (n := 107) (lv' := [(0, .ref (w 0)), (1, .int (nI 1)), (2, .int (bI (false = true))), (3, .int (nI k)), (4, .int (nI 100))]) [1, 2, 0, 3, 4] d_M_isWord_106 rfl (by decide) rfl rfl ?_
                  refine V.aload_n C (n := 108) (j := 0) d_M_isWord_107 rfl rfl rfl ?_
                  refine V.dup C (n := 109) d_M_isWord_108 rfl rfl ?_
                  refine V.get C (n := 112) (q0 := 0) (k0 := 17) clOk_6 rfl (by decide) rfl fl_M_128 rfl d_M_isWord_109 rfl ?_
                  refine V.iload_n C (n := 113) (j := 2) d_M_isWord_112 rfl rfl rfl ?_
                  refine V.ifb_eq C (tgt := 120) (n := 116) d_M_isWord_113 (by decide) rfl (fun c113_18 => ?_) (fun c113_18 => ?_)
                  · refine V.iconst C (v := nI 0) (n := 121) d_M_isWord_120 (by decide) rfl ?_
                    refine V.iadd_n C (n := 122) d_M_isWord_121 rfl ?_
                    refine V.put C (n := 125) (q0 := 0) (k0 := 17) (ws' := (ModW w cI nf se pe ra ga of ti fm tm ex sz tx ld ro wh be (p + 0) nu)) clOk_6 rfl (by decide) rfl rfl fl_M_128 rfl rfl (of_decide_eq_true rfl) rfl d_M_isWord_122 rfl ?_
                    refine V.iinc C (n := 128) (j := 3) (v := nI (k + 1)) (lv' := [(0, .ref (w 0)), (1, .int (nI 1)), (2, .int (bI (false = true))), (3, .int (nI (k + 1))), (4, .int (nI 100))]) [1, 2, 3, 0, 4] d_M_isWord_125 rfl (nI_inc (k) 1) (by decide) rfl rfl ?_
                    refine V.goto C (n := 4) d_M_isWord_128 (by decide) ?_
                    refine V.lsub C [0, 1, 2, 3] (lv' := [(0, .ref (w 0)), (1, .int (nI 1)), (2, .int (bI (false = true))), (3, .int (nI (k + 1)))]) rfl ?_
                    refine V.lsub C [0, 1, 2, 3] (lv' := [(0, .ref (w 0)), (1, .int (nI 1)), (2, .int (bI (false = true))), (3, .int (nI (k + 1)))]) rfl ?_
                    exact ih4 (k + 1) (false) (p) ⟨by omega, wM_f hw (by rintro ⟨q1, q2⟩; first | exact absurd q1 (by assumption) | (rw [show k = 3 by omega] at q2; exact absurd q2 (by show ¬ _ = 100; omega))), by omega⟩ (by omega)
                  · exact absurd c113_18 (by decide)
                · refine V.iconst C (v := nI 1) (n := 102) d_M_isWord_101 (by decide) rfl ?_
                  refine V.goto C (n := 106) d_M_isWord_102 (by decide) ?_
                  refine V.cv C (y := bI (true = true)) (bI_1 rfl) ?_
                  refine V.istore_n C (n := 107) (lv' := [(0, .ref (w 0)), (1, .int (nI 1)), (2, .int (bI (true = true))), (3, .int (nI k)), (4, .int (nI 100))]) [1, 2, 0, 3, 4] d_M_isWord_106 rfl (by decide) rfl rfl ?_
                  refine V.aload_n C (n := 108) (j := 0) d_M_isWord_107 rfl rfl rfl ?_
                  refine V.dup C (n := 109) d_M_isWord_108 rfl rfl ?_
                  refine V.get C (n := 112) (q0 := 0) (k0 := 17) clOk_6 rfl (by decide) rfl fl_M_128 rfl d_M_isWord_109 rfl ?_
                  refine V.iload_n C (n := 113) (j := 2) d_M_isWord_112 rfl rfl rfl ?_
                  refine V.ifb_eq C (tgt := 120) (n := 116) d_M_isWord_113 (by decide) rfl (fun c113_19 => ?_) (fun c113_19 => ?_)
                  · exact absurd c113_19 (by decide)
                  · refine V.iconst C (v := nI 1) (n := 117) d_M_isWord_116 (by decide) rfl ?_
                    refine V.goto C (n := 121) d_M_isWord_117 (by decide) ?_
                    refine V.iadd_n C (n := 122) d_M_isWord_121 rfl ?_
                    refine V.put C (n := 125) (q0 := 0) (k0 := 17) (ws' := (ModW w cI nf se pe ra ga of ti fm tm ex sz tx ld ro wh be (p + 1) nu)) clOk_6 rfl (by decide) rfl rfl fl_M_128 rfl rfl (of_decide_eq_true rfl) rfl d_M_isWord_122 rfl ?_
                    refine V.iinc C (n := 128) (j := 3) (v := nI (k + 1)) (lv' := [(0, .ref (w 0)), (1, .int (nI 1)), (2, .int (bI (true = true))), (3, .int (nI (k + 1))), (4, .int (nI 100))]) [1, 2, 3, 0, 4] d_M_isWord_125 rfl (nI_inc (k) 1) (by decide) rfl rfl ?_
                    refine V.goto C (n := 4) d_M_isWord_128 (by decide) ?_
                    refine V.lsub C [0, 1, 2, 3] (lv' := [(0, .ref (w 0)), (1, .int (nI 1)), (2, .int (bI (true = true))), (3, .int (nI (k + 1)))]) rfl ?_
                    refine V.lsub C [0, 1, 2, 3] (lv' := [(0, .ref (w 0)), (1, .int (nI 1)), (2, .int (bI (true = true))), (3, .int (nI (k + 1)))]) rfl ?_
                    exact ih4 (k + 1) (true) (p + 1) ⟨by omega, wM_t hw (by assumption) (by rw [show k = 3 by omega]; show _ = 100; omega), by omega⟩ (by omega)
        · refine V.bipush C (v := nI 97) (n := 53) d_M_isWord_51 (by decide) rfl ?_
          refine V.goto C (n := 86) d_M_isWord_53 (by decide) ?_
          refine V.istore C (n := 88) (lv' := [(0, .ref (w 0)), (1, .int (nI 1)), (2, .int (bI (g = true))), (3, .int (nI k)), (4, .int (nI 97))]) [1, 2, 3, 4, 0] d_M_isWord_86 (by decide) rfl rfl ?_
          refine V.iload_n C (n := 89) (j := 2) d_M_isWord_88 rfl rfl rfl ?_
          refine V.ifb_eq C (tgt := 105) (n := 92) d_M_isWord_89 (by decide) rfl (fun c89_20 => ?_) (fun c89_20 => ?_)
          · refine V.iconst C (v := nI 0) (n := 106) d_M_isWord_105 (by decide) rfl ?_
            refine V.cv C (y := bI (false = true)) (bI_0 (by decide)) ?_
            refine V.istore_n C (n := 107) (lv' := [(0, .ref (w 0)), (1, .int (nI 1)), (2, .int (bI (false = true))), (3, .int (nI k)), (4, .int (nI 97))]) [1, 2, 0, 3, 4] d_M_isWord_106 rfl (by decide) rfl rfl ?_
            refine V.aload_n C (n := 108) (j := 0) d_M_isWord_107 rfl rfl rfl ?_
            refine V.dup C (n := 109) d_M_isWord_108 rfl rfl ?_
            refine V.get C (n := 112) (q0 := 0) (k0 := 17) clOk_6 rfl (by decide) rfl fl_M_128 rfl d_M_isWord_109 rfl ?_
            refine V.iload_n C (n := 113) (j := 2) d_M_isWord_112 rfl rfl rfl ?_
            refine V.ifb_eq C (tgt := 120) (n := 116) d_M_isWord_113 (by decide) rfl (fun c113_21 => ?_) (fun c113_21 => ?_)
            · refine V.iconst C (v := nI 0) (n := 121) d_M_isWord_120 (by decide) rfl ?_
              refine V.iadd_n C (n := 122) d_M_isWord_121 rfl ?_
              refine V.put C (n := 125) (q0 := 0) (k0 := 17) (ws' := (ModW w cI nf se pe ra ga of ti fm tm ex sz tx ld ro wh be (p + 0) nu)) clOk_6 rfl (by decide) rfl rfl fl_M_128 rfl rfl (of_decide_eq_true rfl) rfl d_M_isWord_122 rfl ?_
              refine V.iinc C (n := 128) (j := 3) (v := nI (k + 1)) (lv' := [(0, .ref (w 0)), (1, .int (nI 1)), (2, .int (bI (false = true))), (3, .int (nI (k + 1))), (4, .int (nI 97))]) [1, 2, 3, 0, 4] d_M_isWord_125 rfl (nI_inc (k) 1) (by decide) rfl rfl ?_
              refine V.goto C (n := 4) d_M_isWord_128 (by decide) ?_
              refine V.lsub C [0, 1, 2, 3] (lv' := [(0, .ref (w 0)), (1, .int (nI 1)), (2, .int (bI (false = true))), (3, .int (nI (k + 1)))]) rfl ?_
              refine V.lsub C [0, 1, 2, 3] (lv' := [(0, .ref (w 0)), (1, .int (nI 1)), (2, .int (bI (false = true))), (3, .int (nI (k + 1)))]) rfl ?_
              exact ih4 (k + 1) (false) (p) ⟨by omega, wM_f hw (by rintro ⟨q1, q2⟩; first | exact absurd q1 (by assumption) | (rw [show k = 2 by omega] at q2; exact absurd q2 (by show ¬ _ = 97; omega))), by omega⟩ (by omega)
            · exact absurd c113_21 (by decide)
          · refine V.aload_n C (n := 93) (j := 0) d_M_isWord_92 rfl rfl rfl ?_
            refine V.callV_i C (n := 96) (ws' := (ModW w cI nf se pe ra ga of ti fm tm ex sz tx ld ro wh be p nu)) (c_M_at0 l D cI cC E (w) (nf) (se) (pe) (ra) (ga) (of) (ti) (fm) (tm) (ex) (sz) (tx) (ld) (ro) (wh) (be) (p) (nu) ht (by omega)) cw_M_131 [0, 1, 2, 3, 4, 5, 6, 7, 8, 9, 10, 11, 12, 13] [] [0, 1, 2, 3, 4, 5, 6, 7, 8, 9, 10, 11, 12, 13] (qr := 0) rfl rfl rfl (of_decide_eq_true rfl) rfl (of_decide_eq_true rfl) rfl (of_decide_eq_true rfl) rfl (of_decide_eq_true rfl) rfl ⟨rfl, rfl⟩ ⟨by decide, by decide⟩ ⟨by decide, by decide⟩ rfl rfl (of_decide_eq_true rfl) d_M_isWord_93 rfl ?_
            have b_3 := a0_le (tx := tx) (sz := sz) htx (p)
            refine V.iload C (n := 98) (j := 4) d_M_isWord_96 rfl rfl ?_
            refine V.icmpn_ne C (tgt := 105) (n := 101) (by omega) (by omega) d_M_isWord_98 (by decide) rfl (fun c98_22 => ?_) (fun c98_22 => ?_)
            · refine V.iconst C (v := nI 0) (n := 106) d_M_isWord_105 (by decide) rfl ?_
              refine V.cv C (y := bI (false = true)) (bI_0 (by decide)) ?_
              refine V.istore_n C (n := 107) (lv' := [(0, .ref (w 0)), (1, .int (nI 1)), (2, .int (bI (false = true))), (3, .int (nI k)), (4, .int (nI 97))]) [1, 2, 0, 3, 4] d_M_isWord_106 rfl (by decide) rfl rfl ?_
              refine V.aload_n C (n := 108) (j := 0) d_M_isWord_107 rfl rfl rfl ?_
              refine V.dup C (n := 109) d_M_isWord_108 rfl rfl ?_
              refine V.get C (n := 112) (q0 := 0) (k0 := 17) clOk_6 rfl (by decide) rfl fl_M_128 rfl d_M_isWord_109 rfl ?_
              refine V.iload_n C (n := 113) (j := 2) d_M_isWord_112 rfl rfl rfl ?_
              refine V.ifb_eq C (tgt := 120) (n := 116) d_M_isWord_113 (by decide) rfl (fun c113_23 => ?_) (fun c113_23 => ?_)
              · refine V.iconst C (v := nI 0) (n := 121) d_M_isWord_120 (by decide) rfl ?_
                refine V.iadd_n C (n := 122) d_M_isWord_121 rfl ?_
                refine V.put C (n := 125) (q0 := 0) (k0 := 17) (ws' := (ModW w cI nf se pe ra ga of ti fm tm ex sz tx ld ro wh be (p + 0) nu)) clOk_6 rfl (by decide) rfl rfl fl_M_128 rfl rfl (of_decide_eq_true rfl) rfl d_M_isWord_122 rfl ?_
                refine V.iinc C (n := 128) (j := 3) (v := nI (k + 1)) (lv' := [(0, .ref (w 0)), (1, .int (nI 1)), (2, .int (bI (false = true))), (3, .int (nI (k + 1))), (4, .int (nI 97))]) [1, 2, 3, 0, 4] d_M_isWord_125 rfl (nI_inc (k) 1) (by decide) rfl rfl ?_
                refine V.goto C (n := 4) d_M_isWord_128 (by decide) ?_
                refine V.lsub C [0, 1, 2, 3] (lv' := [(0, .ref (w 0)), (1, .int (nI 1)), (2, .int (bI (false = true))), (3, .int (nI (k + 1)))]) rfl ?_
                refine V.lsub C [0, 1, 2, 3] (lv' := [(0, .ref (w 0)), (1, .int (nI 1)), (2, .int (bI (false = true))), (3, .int (nI (k + 1)))]) rfl ?_
                exact ih4 (k + 1) (false) (p) ⟨by omega, wM_f hw (by rintro ⟨q1, q2⟩; first | exact absurd q1 (by assumption) | (rw [show k = 2 by omega] at q2; exact absurd q2 (by show ¬ _ = 97; omega))), by omega⟩ (by omega)
              · exact absurd c113_23 (by decide)
            · refine V.iconst C (v := nI 1) (n := 102) d_M_isWord_101 (by decide) rfl ?_
              refine V.goto C (n := 106) d_M_isWord_102 (by decide) ?_
              refine V.cv C (y := bI (true = true)) (bI_1 rfl) ?_
              refine V.istore_n C (n := 107) (lv' := [(0, .ref (w 0)), (1, .int (nI 1)), (2, .int (bI (true = true))), (3, .int (nI k)), (4, .int (nI 97))]) [1, 2, 0, 3, 4] d_M_isWord_106 rfl (by decide) rfl rfl ?_
              refine V.aload_n C (n := 108) (j := 0) d_M_isWord_107 rfl rfl rfl ?_
              refine V.dup C (n := 109) d_M_isWord_108 rfl rfl ?_
              refine V.get C (n := 112) (q0 := 0) (k0 := 17) clOk_6 rfl (by decide) rfl fl_M_128 rfl d_M_isWord_109 rfl ?_
              refine V.iload_n C (n := 113) (j := 2) d_M_isWord_112 rfl rfl rfl ?_
              refine V.ifb_eq C (tgt := 120) (n := 116) d_M_isWord_113 (by decide) rfl (fun c113_24 => ?_) (fun c113_24 => ?_)
              · exact absurd c113_24 (by decide)
              · refine V.iconst C (v := nI 1) (n := 117) d_M_isWord_116 (by decide) rfl ?_
                refine V.goto C (n := 121) d_M_isWord_117 (by decide) ?_
                refine V.iadd_n C (n := 122) d_M_isWord_121 rfl ?_
                refine V.put C (n := 125) (q0 := 0) (k0 := 17) (ws' := (ModW w cI nf se pe ra ga of ti fm tm ex sz tx ld ro wh be (p + 1) nu)) clOk_6 rfl (by decide) rfl rfl fl_M_128 rfl rfl (of_decide_eq_true rfl) rfl d_M_isWord_122 rfl ?_
                refine V.iinc C (n := 128) (j := 3) (v := nI (k + 1)) (lv' := [(0, .ref (w 0)), (1, .int (nI 1)), (2, .int (bI (true = true))), (3, .int (nI (k + 1))), (4, .int (nI 97))]) [1, 2, 3, 0, 4] d_M_isWord_125 rfl (nI_inc (k) 1) (by decide) rfl rfl ?_
                refine V.goto C (n := 4) d_M_isWord_128 (by decide) ?_
                refine V.lsub C [0, 1, 2, 3] (lv' := [(0, .ref (w 0)), (1, .int (nI 1)), (2, .int (bI (true = true))), (3, .int (nI (k + 1)))]) rfl ?_
                refine V.lsub C [0, 1, 2, 3] (lv' := [(0, .ref (w 0)), (1, .int (nI 1)), (2, .int (bI (true = true))), (3, .int (nI (k + 1)))]) rfl ?_
                exact ih4 (k + 1) (true) (p + 1) ⟨by omega, wM_t hw (by assumption) (by rw [show k = 2 by omega]; show _ = 97; omega), by omega⟩ (by omega)
      · refine V.iload_n C (n := 33) (j := 1) d_M_isWord_32 rfl rfl rfl ?_
        refine V.ifn_eq C (tgt := 41) (n := 36) (by omega) d_M_isWord_33 (by decide) rfl (fun c33_25 => ?_) (fun c33_25 => ?_)
        · exact absurd c33_25 (by decide)
        · refine V.bipush C (v := nI 101) (n := 38) d_M_isWord_36 (by decide) rfl ?_
          refine V.goto C (n := 86) d_M_isWord_38 (by decide) ?_
          refine V.istore C (n := 88) (lv' := [(0, .ref (w 0)), (1, .int (nI 1)), (2, .int (bI (g = true))), (3, .int (nI k)), (4, .int (nI 101))]) [1, 2, 3, 4, 0] d_M_isWord_86 (by decide) rfl rfl ?_
          refine V.iload_n C (n := 89) (j := 2) d_M_isWord_88 rfl rfl rfl ?_
          refine V.ifb_eq C (tgt := 105) (n := 92) d_M_isWord_89 (by decide) rfl (fun c89_26 => ?_) (fun c89_26 => ?_)
          · refine V.iconst C (v := nI 0) (n := 106) d_M_isWord_105 (by decide) rfl ?_
            refine V.cv C (y := bI (false = true)) (bI_0 (by decide)) ?_
            refine V.istore_n C (n := 107) (lv' := [(0, .ref (w 0)), (1, .int (nI 1)), (2, .int (bI (false = true))), (3, .int (nI k)), (4, .int (nI 101))]) [1, 2, 0, 3, 4] d_M_isWord_106 rfl (by decide) rfl rfl ?_
            refine V.aload_n C (n := 108) (j := 0) d_M_isWord_107 rfl rfl rfl ?_
            refine V.dup C (n := 109) d_M_isWord_108 rfl rfl ?_
            refine V.get C (n := 112) (q0 := 0) (k0 := 17) clOk_6 rfl (by decide) rfl fl_M_128 rfl d_M_isWord_109 rfl ?_
            refine V.iload_n C (n := 113) (j := 2) d_M_isWord_112 rfl rfl rfl ?_
            refine V.ifb_eq C (tgt := 120) (n := 116) d_M_isWord_113 (by decide) rfl (fun c113_27 => ?_) (fun c113_27 => ?_)
            · refine V.iconst C (v := nI 0) (n := 121) d_M_isWord_120 (by decide) rfl ?_
              refine V.iadd_n C (n := 122) d_M_isWord_121 rfl ?_
              refine V.put C (n := 125) (q0 := 0) (k0 := 17) (ws' := (ModW w cI nf se pe ra ga of ti fm tm ex sz tx ld ro wh be (p + 0) nu)) clOk_6 rfl (by decide) rfl rfl fl_M_128 rfl rfl (of_decide_eq_true rfl) rfl d_M_isWord_122 rfl ?_
              refine V.iinc C (n := 128) (j := 3) (v := nI (k + 1)) (lv' := [(0, .ref (w 0)), (1, .int (nI 1)), (2, .int (bI (false = true))), (3, .int (nI (k + 1))), (4, .int (nI 101))]) [1, 2, 3, 0, 4] d_M_isWord_125 rfl (nI_inc (k) 1) (by decide) rfl rfl ?_
              refine V.goto C (n := 4) d_M_isWord_128 (by decide) ?_
              refine V.lsub C [0, 1, 2, 3] (lv' := [(0, .ref (w 0)), (1, .int (nI 1)), (2, .int (bI (false = true))), (3, .int (nI (k + 1)))]) rfl ?_
              refine V.lsub C [0, 1, 2, 3] (lv' := [(0, .ref (w 0)), (1, .int (nI 1)), (2, .int (bI (false = true))), (3, .int (nI (k + 1)))]) rfl ?_
              exact ih4 (k + 1) (false) (p) ⟨by omega, wM_f hw (by rintro ⟨q1, q2⟩; first | exact absurd q1 (by assumption) | (rw [show k = 1 by omega] at q2; exact absurd q2 (by show ¬ _ = 101; omega))), by omega⟩ (by omega)
            · exact absurd c113_27 (by decide)
          · refine V.aload_n C (n := 93) (j := 0) d_M_isWord_92 rfl rfl rfl ?_
            refine V.callV_i C (n := 96) (ws' := (ModW w cI nf se pe ra ga of ti fm tm ex sz tx ld ro wh be p nu)) (c_M_at0 l D cI cC E (w) (nf) (se) (pe) (ra) (ga) (of) (ti) (fm) (tm) (ex) (sz) (tx) (ld) (ro) (wh) (be) (p) (nu) ht (by omega)) cw_M_131 [0, 1, 2, 3, 4, 5, 6, 7, 8, 9, 10, 11, 12, 13] [] [0, 1, 2, 3, 4, 5, 6, 7, 8, 9, 10, 11, 12, 13] (qr := 0) rfl rfl rfl (of_decide_eq_true rfl) rfl (of_decide_eq_true rfl) rfl (of_decide_eq_true rfl) rfl (of_decide_eq_true rfl) rfl ⟨rfl, rfl⟩ ⟨by decide, by decide⟩ ⟨by decide, by decide⟩ rfl rfl (of_decide_eq_true rfl) d_M_isWord_93 rfl ?_
            have b_4 := a0_le (tx := tx) (sz := sz) htx (p)
            refine V.iload C (n := 98) (j := 4) d_M_isWord_96 rfl rfl ?_
            refine V.icmpn_ne C (tgt := 105) (n := 101) (by omega) (by omega) d_M_isWord_98 (by decide) rfl (fun c98_28 => ?_) (fun c98_28 => ?_)
            · refine V.iconst C (v := nI 0) (n := 106) d_M_isWord_105 (by decide) rfl ?_
              refine V.cv C (y := bI (false = true)) (bI_0 (by decide)) ?_
              refine V.istore_n C (n := 107) (lv' := [(0, .ref (w 0)), (1, .int (nI 1)), (2, .int (bI (false = true))), (3, .int (nI k)), (4, .int (nI 101))]) [1, 2, 0, 3, 4] d_M_isWord_106 rfl (by decide) rfl rfl ?_
              refine V.aload_n C (n := 108) (j := 0) d_M_isWord_107 rfl rfl rfl ?_
              refine V.dup C (n := 109) d_M_isWord_108 rfl rfl ?_
              refine V.get C (n := 112) (q0 := 0) (k0 := 17) clOk_6 rfl (by decide) rfl fl_M_128 rfl d_M_isWord_109 rfl ?_
              refine V.iload_n C (n := 113) (j := 2) d_M_isWord_112 rfl rfl rfl ?_
              refine V.ifb_eq C (tgt := 120) (n := 116) d_M_isWord_113 (by decide) rfl (fun c113_29 => ?_) (fun c113_29 => ?_)
              · refine V.iconst C (v := nI 0) (n := 121) d_M_isWord_120 (by decide) rfl ?_
                refine V.iadd_n C (n := 122) d_M_isWord_121 rfl ?_
                refine V.put C (n := 125) (q0 := 0) (k0 := 17) (ws' := (ModW w cI nf se pe ra ga of ti fm tm ex sz tx ld ro wh be (p + 0) nu)) clOk_6 rfl (by decide) rfl rfl fl_M_128 rfl rfl (of_decide_eq_true rfl) rfl d_M_isWord_122 rfl ?_
                refine V.iinc C (n := 128) (j := 3) (v := nI (k + 1)) (lv' := [(0, .ref (w 0)), (1, .int (nI 1)), (2, .int (bI (false = true))), (3, .int (nI (k + 1))), (4, .int (nI 101))]) [1, 2, 3, 0, 4] d_M_isWord_125 rfl (nI_inc (k) 1) (by decide) rfl rfl ?_
                refine V.goto C (n := 4) d_M_isWord_128 (by decide) ?_
                refine V.lsub C [0, 1, 2, 3] (lv' := [(0, .ref (w 0)), (1, .int (nI 1)), (2, .int (bI (false = true))), (3, .int (nI (k + 1)))]) rfl ?_
                refine V.lsub C [0, 1, 2, 3] (lv' := [(0, .ref (w 0)), (1, .int (nI 1)), (2, .int (bI (false = true))), (3, .int (nI (k + 1)))]) rfl ?_
                exact ih4 (k + 1) (false) (p) ⟨by omega, wM_f hw (by rintro ⟨q1, q2⟩; first | exact absurd q1 (by assumption) | (rw [show k = 1 by omega] at q2; exact absurd q2 (by show ¬ _ = 101; omega))), by omega⟩ (by omega)
              · exact absurd c113_29 (by decide)
            · refine V.iconst C (v := nI 1) (n := 102) d_M_isWord_101 (by decide) rfl ?_
              refine V.goto C (n := 106) d_M_isWord_102 (by decide) ?_
              refine V.cv C (y := bI (true = true)) (bI_1 rfl) ?_
              refine V.istore_n C (n := 107) (lv' := [(0, .ref (w 0)), (1, .int (nI 1)), (2, .int (bI (true = true))), (3, .int (nI k)), (4, .int (nI 101))]) [1, 2, 0, 3, 4] d_M_isWord_106 rfl (by decide) rfl rfl ?_
              refine V.aload_n C (n := 108) (j := 0) d_M_isWord_107 rfl rfl rfl ?_
              refine V.dup C (n := 109) d_M_isWord_108 rfl rfl ?_
              refine V.get C (n := 112) (q0 := 0) (k0 := 17) clOk_6 rfl (by decide) rfl fl_M_128 rfl d_M_isWord_109 rfl ?_
              refine V.iload_n C (n := 113) (j := 2) d_M_isWord_112 rfl rfl rfl ?_
              refine V.ifb_eq C (tgt := 120) (n := 116) d_M_isWord_113 (by decide) rfl (fun c113_30 => ?_) (fun c113_30 => ?_)
              · exact absurd c113_30 (by decide)
              · refine V.iconst C (v := nI 1) (n := 117) d_M_isWord_116 (by decide) rfl ?_
                refine V.goto C (n := 121) d_M_isWord_117 (by decide) ?_
                refine V.iadd_n C (n := 122) d_M_isWord_121 rfl ?_
                refine V.put C (n := 125) (q0 := 0) (k0 := 17) (ws' := (ModW w cI nf se pe ra ga of ti fm tm ex sz tx ld ro wh be (p + 1) nu)) clOk_6 rfl (by decide) rfl rfl fl_M_128 rfl rfl (of_decide_eq_true rfl) rfl d_M_isWord_122 rfl ?_
                refine V.iinc C (n := 128) (j := 3) (v := nI (k + 1)) (lv' := [(0, .ref (w 0)), (1, .int (nI 1)), (2, .int (bI (true = true))), (3, .int (nI (k + 1))), (4, .int (nI 101))]) [1, 2, 3, 0, 4] d_M_isWord_125 rfl (nI_inc (k) 1) (by decide) rfl rfl ?_
                refine V.goto C (n := 4) d_M_isWord_128 (by decide) ?_
                refine V.lsub C [0, 1, 2, 3] (lv' := [(0, .ref (w 0)), (1, .int (nI 1)), (2, .int (bI (true = true))), (3, .int (nI (k + 1)))]) rfl ?_
                refine V.lsub C [0, 1, 2, 3] (lv' := [(0, .ref (w 0)), (1, .int (nI 1)), (2, .int (bI (true = true))), (3, .int (nI (k + 1)))]) rfl ?_
                exact ih4 (k + 1) (true) (p + 1) ⟨by omega, wM_t hw (by assumption) (by rw [show k = 1 by omega]; show _ = 101; omega), by omega⟩ (by omega)
    · refine V.iload_n C (n := 14) (j := 1) d_M_isWord_13 rfl rfl rfl ?_
      refine V.ifn_eq C (tgt := 22) (n := 17) (by omega) d_M_isWord_14 (by decide) rfl (fun c14_31 => ?_) (fun c14_31 => ?_)
      · exact absurd c14_31 (by decide)
      · refine V.bipush C (v := nI 114) (n := 19) d_M_isWord_17 (by decide) rfl ?_
        refine V.goto C (n := 86) d_M_isWord_19 (by decide) ?_
        refine V.istore C (n := 88) (lv' := [(0, .ref (w 0)), (1, .int (nI 1)), (2, .int (bI (g = true))), (3, .int (nI k)), (4, .int (nI 114))]) [1, 2, 3, 4, 0] d_M_isWord_86 (by decide) rfl rfl ?_
        refine V.iload_n C (n := 89) (j := 2) d_M_isWord_88 rfl rfl rfl ?_
        refine V.ifb_eq C (tgt := 105) (n := 92) d_M_isWord_89 (by decide) rfl (fun c89_32 => ?_) (fun c89_32 => ?_)
        · refine V.iconst C (v := nI 0) (n := 106) d_M_isWord_105 (by decide) rfl ?_
          refine V.cv C (y := bI (false = true)) (bI_0 (by decide)) ?_
          refine V.istore_n C (n := 107) (lv' := [(0, .ref (w 0)), (1, .int (nI 1)), (2, .int (bI (false = true))), (3, .int (nI k)), (4, .int (nI 114))]) [1, 2, 0, 3, 4] d_M_isWord_106 rfl (by decide) rfl rfl ?_
          refine V.aload_n C (n := 108) (j := 0) d_M_isWord_107 rfl rfl rfl ?_
          refine V.dup C (n := 109) d_M_isWord_108 rfl rfl ?_
          refine V.get C (n := 112) (q0 := 0) (k0 := 17) clOk_6 rfl (by decide) rfl fl_M_128 rfl d_M_isWord_109 rfl ?_
          refine V.iload_n C (n := 113) (j := 2) d_M_isWord_112 rfl rfl rfl ?_
          refine V.ifb_eq C (tgt := 120) (n := 116) d_M_isWord_113 (by decide) rfl (fun c113_33 => ?_) (fun c113_33 => ?_)
          · refine V.iconst C (v := nI 0) (n := 121) d_M_isWord_120 (by decide) rfl ?_
            refine V.iadd_n C (n := 122) d_M_isWord_121 rfl ?_
            refine V.put C (n := 125) (q0 := 0) (k0 := 17) (ws' := (ModW w cI nf se pe ra ga of ti fm tm ex sz tx ld ro wh be (p + 0) nu)) clOk_6 rfl (by decide) rfl rfl fl_M_128 rfl rfl (of_decide_eq_true rfl) rfl d_M_isWord_122 rfl ?_
            refine V.iinc C (n := 128) (j := 3) (v := nI (k + 1)) (lv' := [(0, .ref (w 0)), (1, .int (nI 1)), (2, .int (bI (false = true))), (3, .int (nI (k + 1))), (4, .int (nI 114))]) [1, 2, 3, 0, 4] d_M_isWord_125 rfl (nI_inc (k) 1) (by decide) rfl rfl ?_
            refine V.goto C (n := 4) d_M_isWord_128 (by decide) ?_
            refine V.lsub C [0, 1, 2, 3] (lv' := [(0, .ref (w 0)), (1, .int (nI 1)), (2, .int (bI (false = true))), (3, .int (nI (k + 1)))]) rfl ?_
            refine V.lsub C [0, 1, 2, 3] (lv' := [(0, .ref (w 0)), (1, .int (nI 1)), (2, .int (bI (false = true))), (3, .int (nI (k + 1)))]) rfl ?_
            exact ih4 (k + 1) (false) (p) ⟨by omega, wM_f hw (by rintro ⟨q1, q2⟩; first | exact absurd q1 (by assumption) | (rw [show k = 0 by omega] at q2; exact absurd q2 (by show ¬ _ = 114; omega))), by omega⟩ (by omega)
          · exact absurd c113_33 (by decide)
        · refine V.aload_n C (n := 93) (j := 0) d_M_isWord_92 rfl rfl rfl ?_
          refine V.callV_i C (n := 96) (ws' := (ModW w cI nf se pe ra ga of ti fm tm ex sz tx ld ro wh be p nu)) (c_M_at0 l D cI cC E (w) (nf) (se) (pe) (ra) (ga) (of) (ti) (fm) (tm) (ex) (sz) (tx) (ld) (ro) (wh) (be) (p) (nu) ht (by omega)) cw_M_131 [0, 1, 2, 3, 4, 5, 6, 7, 8, 9, 10, 11, 12, 13] [] [0, 1, 2, 3, 4, 5, 6, 7, 8, 9, 10, 11, 12, 13] (qr := 0) rfl rfl rfl (of_decide_eq_true rfl) rfl (of_decide_eq_true rfl) rfl (of_decide_eq_true rfl) rfl (of_decide_eq_true rfl) rfl ⟨rfl, rfl⟩ ⟨by decide, by decide⟩ ⟨by decide, by decide⟩ rfl rfl (of_decide_eq_true rfl) d_M_isWord_93 rfl ?_
          have b_5 := a0_le (tx := tx) (sz := sz) htx (p)
          refine V.iload C (n := 98) (j := 4) d_M_isWord_96 rfl rfl ?_
          refine V.icmpn_ne C (tgt := 105) (n := 101) (by omega) (by omega) d_M_isWord_98 (by decide) rfl (fun c98_34 => ?_) (fun c98_34 => ?_)
          · refine V.iconst C (v := nI 0) (n := 106) d_M_isWord_105 (by decide) rfl ?_
            refine V.cv C (y := bI (false = true)) (bI_0 (by decide)) ?_
            refine V.istore_n C (n := 107) (lv' := [(0, .ref (w 0)), (1, .int (nI 1)), (2, .int (bI (false = true))), (3, .int (nI k)), (4, .int (nI 114))]) [1, 2, 0, 3, 4] d_M_isWord_106 rfl (by decide) rfl rfl ?_
            refine V.aload_n C (n := 108) (j := 0) d_M_isWord_107 rfl rfl rfl ?_
            refine V.dup C (n := 109) d_M_isWord_108 rfl rfl ?_
            refine V.get C (n := 112) (q0 := 0) (k0 := 17) clOk_6 rfl (by decide) rfl fl_M_128 rfl d_M_isWord_109 rfl ?_
            refine V.iload_n C (n := 113) (j := 2) d_M_isWord_112 rfl rfl rfl ?_
            refine V.ifb_eq C (tgt := 120) (n := 116) d_M_isWord_113 (by decide) rfl (fun c113_35 => ?_) (fun c113_35 => ?_)
            · refine V.iconst C (v := nI 0) (n := 121) d_M_isWord_120 (by decide) rfl ?_
              refine V.iadd_n C (n := 122) d_M_isWord_121 rfl ?_
              refine V.put C (n := 125) (q0 := 0) (k0 := 17) (ws' := (ModW w cI nf se pe ra ga of ti fm tm ex sz tx ld ro wh be (p + 0) nu)) clOk_6 rfl (by decide) rfl rfl fl_M_128 rfl rfl (of_decide_eq_true rfl) rfl d_M_isWord_122 rfl ?_
              refine V.iinc C (n := 128) (j := 3) (v := nI (k + 1)) (lv' := [(0, .ref (w 0)), (1, .int (nI 1)), (2, .int (bI (false = true))), (3, .int (nI (k + 1))), (4, .int (nI 114))]) [1, 2, 3, 0, 4] d_M_isWord_125 rfl (nI_inc (k) 1) (by decide) rfl rfl ?_
              refine V.goto C (n := 4) d_M_isWord_128 (by decide) ?_
              refine V.lsub C [0, 1, 2, 3] (lv' := [(0, .ref (w 0)), (1, .int (nI 1)), (2, .int (bI (false = true))), (3, .int (nI (k + 1)))]) rfl ?_
              refine V.lsub C [0, 1, 2, 3] (lv' := [(0, .ref (w 0)), (1, .int (nI 1)), (2, .int (bI (false = true))), (3, .int (nI (k + 1)))]) rfl ?_
              exact ih4 (k + 1) (false) (p) ⟨by omega, wM_f hw (by rintro ⟨q1, q2⟩; first | exact absurd q1 (by assumption) | (rw [show k = 0 by omega] at q2; exact absurd q2 (by show ¬ _ = 114; omega))), by omega⟩ (by omega)
            · exact absurd c113_35 (by decide)
          · refine V.iconst C (v := nI 1) (n := 102) d_M_isWord_101 (by decide) rfl ?_
            refine V.goto C (n := 106) d_M_isWord_102 (by decide) ?_
            refine V.cv C (y := bI (true = true)) (bI_1 rfl) ?_
            refine V.istore_n C (n := 107) (lv' := [(0, .ref (w 0)), (1, .int (nI 1)), (2, .int (bI (true = true))), (3, .int (nI k)), (4, .int (nI 114))]) [1, 2, 0, 3, 4] d_M_isWord_106 rfl (by decide) rfl rfl ?_
            refine V.aload_n C (n := 108) (j := 0) d_M_isWord_107 rfl rfl rfl ?_
            refine V.dup C (n := 109) d_M_isWord_108 rfl rfl ?_
            refine V.get C (n := 112) (q0 := 0) (k0 := 17) clOk_6 rfl (by decide) rfl fl_M_128 rfl d_M_isWord_109 rfl ?_
            refine V.iload_n C (n := 113) (j := 2) d_M_isWord_112 rfl rfl rfl ?_
            refine V.ifb_eq C (tgt := 120) (n := 116) d_M_isWord_113 (by decide) rfl (fun c113_36 => ?_) (fun c113_36 => ?_)
            · exact absurd c113_36 (by decide)
            · refine V.iconst C (v := nI 1) (n := 117) d_M_isWord_116 (by decide) rfl ?_
              refine V.goto C (n := 121) d_M_isWord_117 (by decide) ?_
              refine V.iadd_n C (n := 122) d_M_isWord_121 rfl ?_
              refine V.put C (n := 125) (q0 := 0) (k0 := 17) (ws' := (ModW w cI nf se pe ra ga of ti fm tm ex sz tx ld ro wh be (p + 1) nu)) clOk_6 rfl (by decide) rfl rfl fl_M_128 rfl rfl (of_decide_eq_true rfl) rfl d_M_isWord_122 rfl ?_
              refine V.iinc C (n := 128) (j := 3) (v := nI (k + 1)) (lv' := [(0, .ref (w 0)), (1, .int (nI 1)), (2, .int (bI (true = true))), (3, .int (nI (k + 1))), (4, .int (nI 114))]) [1, 2, 3, 0, 4] d_M_isWord_125 rfl (nI_inc (k) 1) (by decide) rfl rfl ?_
              refine V.goto C (n := 4) d_M_isWord_128 (by decide) ?_
              refine V.lsub C [0, 1, 2, 3] (lv' := [(0, .ref (w 0)), (1, .int (nI 1)), (2, .int (bI (true = true))), (3, .int (nI (k + 1)))]) rfl ?_
              refine V.lsub C [0, 1, 2, 3] (lv' := [(0, .ref (w 0)), (1, .int (nI 1)), (2, .int (bI (true = true))), (3, .int (nI (k + 1)))]) rfl ?_
              exact ih4 (k + 1) (true) (p + 1) ⟨by omega, wM_t hw (by assumption) (by rw [show k = 0 by omega]; show _ = 114; omega), by omega⟩ (by omega)
set_option maxHeartbeats 4000000 in
set_option maxRecDepth 100000 in
theorem c_M_isNumber (l : Launch) (D : va_G) (cI cC : ClassId) (E : Nat → Nat) (w : Nat → Nat) (nf : Nat) (se pe ra ga of ti fm tm : Nat → Nat) (ex : Bool) (sz : Nat) (tx ld : Nat → Nat) (ro : Nat → Int) (wh be : Nat → Nat) (pl nu : Nat) (lw hh e9 v9 : Nat) (ht : typOK (tx, sz)) (hpl : pl ≤ 2990) (he9 : e9 = dgE tx sz pl) (hv9 : dgs tx pl (e9 - pl) = ((v9 : Nat) : Int)) (hlo : lw ≤ 10000 ∧ hh ≤ 10000) : CI l D (TY cI cC E) m_M_isNumber (rmD 3) [.ref (w 0), .int (nI lw), .int (nI hh)] ((ModW w cI nf se pe ra ga of ti fm tm ex sz tx ld ro wh be pl nu)) (bI (pl < e9 ∧ e9 < pl + 7 ∧ (a0 tx sz e9 = 32 ∨ a0 tx sz e9 = 10) ∧ lw ≤ v9 ∧ v9 ≤ hh)) ((ModW w cI nf se pe ra ga of ti fm tm ex sz tx ld ro wh be (psS tx sz e9) v9)) := by
  have hsz : sz ≤ 2001 := ht.1
  have htx : ∀ j, tx j ≤ 255 := ht.2
  refine CI.of (by decide +kernel) (of_decide_eq_true rfl) ?_
  intro p e s m args below meth c C hr
  refine V.iconst C (v := nI 0) (n := 1) d_M_isNumber_0 (by decide) rfl ?_
  refine V.istore_n C (n := 2) (lv' := [(0, .ref (w 0)), (1, .int (nI lw)), (2, .int (nI hh)), (3, .int (nI 0))]) [1, 2, 3, 0] d_M_isNumber_1 rfl (by decide) rfl rfl ?_
  refine V.aload_n C (n := 3) (j := 0) d_M_isNumber_2 rfl rfl rfl ?_
  refine V.iconst C (v := nI 0) (n := 4) d_M_isNumber_3 (by decide) rfl ?_
  refine V.put C (n := 7) (q0 := 0) (k0 := 18) (ws' := (ModW w cI nf se pe ra ga of ti fm tm ex sz tx ld ro wh be pl 0)) clOk_6 rfl (by decide) rfl rfl fl_M_144 rfl rfl (of_decide_eq_true rfl) rfl d_M_isNumber_4 rfl ?_
  refine V.lsub C [0, 1, 2, 3] (lv' := [(0, .ref (w 0)), (1, .int (nI lw)), (2, .int (nI hh)), (3, .int (nI 0))]) rfl ?_
  refine V.ind2 C (fun (d : Nat) (v : Nat) => (ModW w cI nf se pe ra ga of ti fm tm ex sz tx ld ro wh be (pl + d) v)) (fun (d : Nat) (v : Nat) => [(0, .ref (w 0)), (1, .int (nI lw)), (2, .int (nI hh)), (3, .int (nI d))]) (fun (d : Nat) (v : Nat) => (d ≤ 7) ∧ (skq (isDg tx) (min sz (pl + 7)) (pl + d) = e9) ∧ (dgs tx pl d = ((v : Nat) : Int)) ∧ (v < 10 ^ d)) (fun (d : Nat) (v : Nat) => 7 - d) (0) (0) ⟨by omega, he9.symm, rfl, by decide⟩ rfl rfl ?_
  rintro d v ⟨hd, hq, hv, hb⟩ ih7
  try dsimp only
  have hp7 : 10 ^ d ≤ 10 ^ 7 := Nat.pow_le_pow_right (by decide) hd
  have h107 : (10 : Nat) ^ 7 = 10000000 := by decide
  refine V.aload_n C (n := 8) (j := 0) d_M_isNumber_7 rfl rfl rfl ?_
  refine V.callV_i C (n := 11) (ws' := (ModW w cI nf se pe ra ga of ti fm tm ex sz tx ld ro wh be (pl + d) v)) (c_M_at0 l D cI cC E (w) (nf) (se) (pe) (ra) (ga) (of) (ti) (fm) (tm) (ex) (sz) (tx) (ld) (ro) (wh) (be) (pl + d) (v) ht (by omega)) cw_M_131 [0, 1, 2, 3, 4, 5, 6, 7, 8, 9, 10, 11, 12, 13] [] [0, 1, 2, 3, 4, 5, 6, 7, 8, 9, 10, 11, 12, 13] (qr := 0) rfl rfl rfl (of_decide_eq_true rfl) rfl (of_decide_eq_true rfl) rfl (of_decide_eq_true rfl) rfl (of_decide_eq_true rfl) rfl ⟨rfl, rfl⟩ ⟨by decide, by decide⟩ ⟨by decide, by decide⟩ rfl rfl (of_decide_eq_true rfl) d_M_isNumber_8 rfl ?_
  have b_1 := a0_le (tx := tx) (sz := sz) htx ((pl + d))
  refine V.bipush C (v := nI 48) (n := 13) d_M_isNumber_11 (by decide) rfl ?_
  refine V.icmpn_lt C (tgt := 66) (n := 16) (by omega) (by omega) d_M_isNumber_13 (by decide) rfl (fun c13_1 => ?_) (fun c13_1 => ?_)
  · have hst : e9 = pl + d := by rw [← hq]; exact skq_stop (fun q => by have q3 := of_decide_eq_true q.2; rw [a0_in (by omega)] at *; omega)
    have hvv : v9 = v := by rw [hst, show pl + d - pl = d by omega, hv] at hv9; omega
    refine V.iload_n C (n := 67) (j := 3) d_M_isNumber_66 rfl rfl rfl ?_
    refine V.ifn_le C (tgt := 103) (n := 70) (by omega) d_M_isNumber_67 (by decide) rfl (fun c67_2 => ?_) (fun c67_2 => ?_)
    · refine V.iconst C (v := nI 0) (n := 104) d_M_isNumber_103 (by decide) rfl ?_
      refine V.istore C (n := 106) (lv' := [(0, .ref (w 0)), (1, .int (nI lw)), (2, .int (nI hh)), (3, .int (nI d)), (4, .int (nI 0))]) [1, 2, 3, 4, 0] d_M_isNumber_104 (by decide) rfl rfl ?_
      refine V.aload_n C (n := 107) (j := 0) d_M_isNumber_106 rfl rfl rfl ?_
      refine V.callV_v C (n := 110) (ws2 := fun _ => (ModW w cI nf se pe ra ga of ti fm tm ex sz tx ld ro wh be (psS tx sz (pl + d)) v)) (c_M_passSpaces l D cI cC E (w) (nf) (se) (pe) (ra) (ga) (of) (ti) (fm) (tm) (ex) (sz) (tx) (ld) (ro) (wh) (be) (pl + d) (v) ht (by omega)) cw_M_141 [0, 1, 2, 3, 4, 5, 6, 7, 8, 9, 10, 11, 12, 13] [] [0, 1, 2, 3, 4, 5, 6, 7, 8, 9, 10, 11, 12, 13] (qr := 0) rfl rfl rfl (of_decide_eq_true rfl) rfl (of_decide_eq_true rfl) rfl (of_decide_eq_true rfl) (fun _ => rfl) (fun _ => of_decide_eq_true rfl) rfl ⟨rfl, rfl⟩ ⟨by decide, by decide⟩ ⟨by decide, by decide⟩ rfl rfl (of_decide_eq_true rfl) d_M_isNumber_107 rfl (fun _ _ => ?_)
      refine V.iload C (n := 112) (j := 4) d_M_isNumber_110 rfl rfl ?_
      exact V.zret C hr (bI_nar _) d_M_isNumber_112 (by rw [hst, hvv]; first | exact bI_1 (by omega) | exact bI_0 (by omega)) (by rw [hst, hvv])
    · refine V.iload_n C (n := 71) (j := 3) d_M_isNumber_70 rfl rfl rfl ?_
      refine V.bipush C (v := nI 7) (n := 73) d_M_isNumber_71 (by decide) rfl ?_
      refine V.icmpn_ge C (tgt := 103) (n := 76) (by omega) (by omega) d_M_isNumber_73 (by decide) rfl (fun c73_3 => ?_) (fun c73_3 => ?_)
      · refine V.iconst C (v := nI 0) (n := 104) d_M_isNumber_103 (by decide) rfl ?_
        refine V.istore C (n := 106) (lv' := [(0, .ref (w 0)), (1, .int (nI lw)), (2, .int (nI hh)), (3, .int (nI d)), (4, .int (nI 0))]) [1, 2, 3, 4, 0] d_M_isNumber_104 (by decide) rfl rfl ?_
        refine V.aload_n C (n := 107) (j := 0) d_M_isNumber_106 rfl rfl rfl ?_
        refine V.callV_v C (n := 110) (ws2 := fun _ => (ModW w cI nf se pe ra ga of ti fm tm ex sz tx ld ro wh be (psS tx sz (pl + d)) v)) (c_M_passSpaces l D cI cC E (w) (nf) (se) (pe) (ra) (ga) (of) (ti) (fm) (tm) (ex) (sz) (tx) (ld) (ro) (wh) (be) (pl + d) (v) ht (by omega)) cw_M_141 [0, 1, 2, 3, 4, 5, 6, 7, 8, 9, 10, 11, 12, 13] [] [0, 1, 2, 3, 4, 5, 6, 7, 8, 9, 10, 11, 12, 13] (qr := 0) rfl rfl rfl (of_decide_eq_true rfl) rfl (of_decide_eq_true rfl) rfl (of_decide_eq_true rfl) (fun _ => rfl) (fun _ => of_decide_eq_true rfl) rfl ⟨rfl, rfl⟩ ⟨by decide, by decide⟩ ⟨by decide, by decide⟩ rfl rfl (of_decide_eq_true rfl) d_M_isNumber_107 rfl (fun _ _ => ?_)
        refine V.iload C (n := 112) (j := 4) d_M_isNumber_110 rfl rfl ?_
        exact V.zret C hr (bI_nar _) d_M_isNumber_112 (by rw [hst, hvv]; first | exact bI_1 (by omega) | exact bI_0 (by omega)) (by rw [hst, hvv])
      · refine V.aload_n C (n := 77) (j := 0) d_M_isNumber_76 rfl rfl rfl ?_
        refine V.callV_i C (n := 80) (ws' := (ModW w cI nf se pe ra ga of ti fm tm ex sz tx ld ro wh be (pl + d) v)) (c_M_isBetween l D cI cC E (w) (nf) (se) (pe) (ra) (ga) (of) (ti) (fm) (tm) (ex) (sz) (tx) (ld) (ro) (wh) (be) (pl + d) (v) ht (by omega)) cw_M_138 [0, 1, 2, 3, 4, 5, 6, 7, 8, 9, 10, 11, 12, 13] [] [0, 1, 2, 3, 4, 5, 6, 7, 8, 9, 10, 11, 12, 13] (qr := 0) rfl rfl rfl (of_decide_eq_true rfl) rfl (of_decide_eq_true rfl) rfl (of_decide_eq_true rfl) rfl (of_decide_eq_true rfl) rfl ⟨rfl, rfl⟩ ⟨by decide, by decide⟩ ⟨by decide, by decide⟩ rfl rfl (of_decide_eq_true rfl) d_M_isNumber_77 rfl ?_
        refine V.ifb_eq C (tgt := 103) (n := 83) d_M_isNumber_80 (by decide) rfl (fun c80_4 => ?_) (fun c80_4 => ?_)
        · refine V.iconst C (v := nI 0) (n := 104) d_M_isNumber_103 (by decide) rfl ?_
          refine V.istore C (n := 106) (lv' := [(0, .ref (w 0)), (1, .int (nI lw)), (2, .int (nI hh)), (3, .int (nI d)), (4, .int (nI 0))]) [1, 2, 3, 4, 0] d_M_isNumber_104 (by decide) rfl rfl ?_
          refine V.aload_n C (n := 107) (j := 0) d_M_isNumber_106 rfl rfl rfl ?_
          refine V.callV_v C (n := 110) (ws2 := fun _ => (ModW w cI nf se pe ra ga of ti fm tm ex sz tx ld ro wh be (psS tx sz (pl + d)) v)) (c_M_passSpaces l D cI cC E (w) (nf) (se) (pe) (ra) (ga) (of) (ti) (fm) (tm) (ex) (sz) (tx) (ld) (ro) (wh) (be) (pl + d) (v) ht (by omega)) cw_M_141 [0, 1, 2, 3, 4, 5, 6, 7, 8, 9, 10, 11, 12, 13] [] [0, 1, 2, 3, 4, 5, 6, 7, 8, 9, 10, 11, 12, 13] (qr := 0) rfl rfl rfl (of_decide_eq_true rfl) rfl (of_decide_eq_true rfl) rfl (of_decide_eq_true rfl) (fun _ => rfl) (fun _ => of_decide_eq_true rfl) rfl ⟨rfl, rfl⟩ ⟨by decide, by decide⟩ ⟨by decide, by decide⟩ rfl rfl (of_decide_eq_true rfl) d_M_isNumber_107 rfl (fun _ _ => ?_)
          refine V.iload C (n := 112) (j := 4) d_M_isNumber_110 rfl rfl ?_
          exact V.zret C hr (bI_nar _) d_M_isNumber_112 (by rw [hst, hvv]; first | exact bI_1 (by omega) | exact bI_0 (by omega)) (by rw [hst, hvv])
        · refine V.aload_n C (n := 84) (j := 0) d_M_isNumber_83 rfl rfl rfl ?_
          refine V.get C (n := 87) (q0 := 0) (k0 := 18) clOk_6 rfl (by decide) rfl fl_M_144 rfl d_M_isNumber_84 rfl ?_
          refine V.iload_n C (n := 88) (j := 1) d_M_isNumber_87 rfl rfl rfl ?_
          refine V.icmpn_lt C (tgt := 103) (n := 91) (by omega) (by omega) d_M_isNumber_88 (by decide) rfl (fun c88_5 => ?_) (fun c88_5 => ?_)
          · refine V.iconst C (v := nI 0) (n := 104) d_M_isNumber_103 (by decide) rfl ?_
            refine V.istore C (n := 106) (lv' := [(0, .ref (w 0)), (1, .int (nI lw)), (2, .int (nI hh)), (3, .int (nI d)), (4, .int (nI 0))]) [1, 2, 3, 4, 0] d_M_isNumber_104 (by decide) rfl rfl ?_
            refine V.aload_n C (n := 107) (j := 0) d_M_isNumber_106 rfl rfl rfl ?_
            refine V.callV_v C (n := 110) (ws2 := fun _ => (ModW w cI nf se pe ra ga of ti fm tm ex sz tx ld ro wh be (psS tx sz (pl + d)) v)) (c_M_passSpaces l D cI cC E (w) (nf) (se) (pe) (ra) (ga) (of) (ti) (fm) (tm) (ex) (sz) (tx) (ld) (ro) (wh) (be) (pl + d) (v) ht (by omega)) cw_M_141 [0, 1, 2, 3, 4, 5, 6, 7, 8, 9, 10, 11, 12, 13] [] [0, 1, 2, 3, 4, 5, 6, 7, 8, 9, 10, 11, 12, 13] (qr := 0) rfl rfl rfl (of_decide_eq_true rfl) rfl (of_decide_eq_true rfl) rfl (of_decide_eq_true rfl) (fun _ => rfl) (fun _ => of_decide_eq_true rfl) rfl ⟨rfl, rfl⟩ ⟨by decide, by decide⟩ ⟨by decide, by decide⟩ rfl rfl (of_decide_eq_true rfl) d_M_isNumber_107 rfl (fun _ _ => ?_)
            refine V.iload C (n := 112) (j := 4) d_M_isNumber_110 rfl rfl ?_
            exact V.zret C hr (bI_nar _) d_M_isNumber_112 (by rw [hst, hvv]; first | exact bI_1 (by omega) | exact bI_0 (by omega)) (by rw [hst, hvv])
          · refine V.aload_n C (n := 92) (j := 0) d_M_isNumber_91 rfl rfl rfl ?_
            refine V.get C (n := 95) (q0 := 0) (k0 := 18) clOk_6 rfl (by decide) rfl fl_M_144 rfl d_M_isNumber_92 rfl ?_
            refine V.iload_n C (n := 96) (j := 2) d_M_isNumber_95 rfl rfl rfl ?_
            refine V.icmpn_gt C (tgt := 103) (n := 99) (by omega) (by omega) d_M_isNumber_96 (by decide) rfl (fun c96_6 => ?_) (fun c96_6 => ?_)
            · refine V.iconst C (v := nI 0) (n := 104) d_M_isNumber_103 (by decide) rfl ?_
              refine V.istore C (n := 106) (lv' := [(0, .ref (w 0)), (1, .int (nI lw)), (2, .int (nI hh)), (3, .int (nI d)), (4, .int (nI 0))]) [1, 2, 3, 4, 0] d_M_isNumber_104 (by decide) rfl rfl ?_
              refine V.aload_n C (n := 107) (j := 0) d_M_isNumber_106 rfl rfl rfl ?_
              refine V.callV_v C (n := 110) (ws2 := fun _ => (ModW w cI nf se pe ra ga of ti fm tm ex sz tx ld ro wh be (psS tx sz (pl + d)) v)) (c_M_passSpaces l D cI cC E (w) (nf) (se) (pe) (ra) (ga) (of) (ti) (fm) (tm) (ex) (sz) (tx) (ld) (ro) (wh) (be) (pl + d) (v) ht (by omega)) cw_M_141 [0, 1, 2, 3, 4, 5, 6, 7, 8, 9, 10, 11, 12, 13] [] [0, 1, 2, 3, 4, 5, 6, 7, 8, 9, 10, 11, 12, 13] (qr := 0) rfl rfl rfl (of_decide_eq_true rfl) rfl (of_decide_eq_true rfl) rfl (of_decide_eq_true rfl) (fun _ => rfl) (fun _ => of_decide_eq_true rfl) rfl ⟨rfl, rfl⟩ ⟨by decide, by decide⟩ ⟨by decide, by decide⟩ rfl rfl (of_decide_eq_true rfl) d_M_isNumber_107 rfl (fun _ _ => ?_)
              refine V.iload C (n := 112) (j := 4) d_M_isNumber_110 rfl rfl ?_
              exact V.zret C hr (bI_nar _) d_M_isNumber_112 (by rw [hst, hvv]; first | exact bI_1 (by omega) | exact bI_0 (by omega)) (by rw [hst, hvv])
            · refine V.iconst C (v := nI 1) (n := 100) d_M_isNumber_99 (by decide) rfl ?_
              refine V.goto C (n := 104) d_M_isNumber_100 (by decide) ?_
              refine V.istore C (n := 106) (lv' := [(0, .ref (w 0)), (1, .int (nI lw)), (2, .int (nI hh)), (3, .int (nI d)), (4, .int (nI 1))]) [1, 2, 3, 4, 0] d_M_isNumber_104 (by decide) rfl rfl ?_
              refine V.aload_n C (n := 107) (j := 0) d_M_isNumber_106 rfl rfl rfl ?_
              refine V.callV_v C (n := 110) (ws2 := fun _ => (ModW w cI nf se pe ra ga of ti fm tm ex sz tx ld ro wh be (psS tx sz (pl + d)) v)) (c_M_passSpaces l D cI cC E (w) (nf) (se) (pe) (ra) (ga) (of) (ti) (fm) (tm) (ex) (sz) (tx) (ld) (ro) (wh) (be) (pl + d) (v) ht (by omega)) cw_M_141 [0, 1, 2, 3, 4, 5, 6, 7, 8, 9, 10, 11, 12, 13] [] [0, 1, 2, 3, 4, 5, 6, 7, 8, 9, 10, 11, 12, 13] (qr := 0) rfl rfl rfl (of_decide_eq_true rfl) rfl (of_decide_eq_true rfl) rfl (of_decide_eq_true rfl) (fun _ => rfl) (fun _ => of_decide_eq_true rfl) rfl ⟨rfl, rfl⟩ ⟨by decide, by decide⟩ ⟨by decide, by decide⟩ rfl rfl (of_decide_eq_true rfl) d_M_isNumber_107 rfl (fun _ _ => ?_)
              refine V.iload C (n := 112) (j := 4) d_M_isNumber_110 rfl rfl ?_
              exact V.zret C hr (bI_nar _) d_M_isNumber_112 (by rw [hst, hvv]; first | exact bI_1 (by omega) | exact bI_0 (by omega)) (by rw [hst, hvv])
  · have hd48 := c13_1
    refine V.aload_n C (n := 17) (j := 0) d_M_isNumber_16 rfl rfl rfl ?_
    refine V.callV_i C (n := 20) (ws' := (ModW w cI nf se pe ra ga of ti fm tm ex sz tx ld ro wh be (pl + d) v)) (c_M_at0 l D cI cC E (w) (nf) (se) (pe) (ra) (ga) (of) (ti) (fm) (tm) (ex) (sz) (tx) (ld) (ro) (wh) (be) (pl + d) (v) ht (by omega)) cw_M_131 [0, 1, 2, 3, 4, 5, 6, 7, 8, 9, 10, 11, 12, 13] [] [0, 1, 2, 3, 4, 5, 6, 7, 8, 9, 10, 11, 12, 13] (qr := 0) rfl rfl rfl (of_decide_eq_true rfl) rfl (of_decide_eq_true rfl) rfl (of_decide_eq_true rfl) rfl (of_decide_eq_true rfl) rfl ⟨rfl, rfl⟩ ⟨by decide, by decide⟩ ⟨by decide, by decide⟩ rfl rfl (of_decide_eq_true rfl) d_M_isNumber_17 rfl ?_
    have b_2 := a0_le (tx := tx) (sz := sz) htx ((pl + d))
    refine V.bipush C (v := nI 57) (n := 22) d_M_isNumber_20 (by decide) rfl ?_
    refine V.icmpn_gt C (tgt := 66) (n := 25) (by omega) (by omega) d_M_isNumber_22 (by decide) rfl (fun c22_7 => ?_) (fun c22_7 => ?_)
    · have hst : e9 = pl + d := by rw [← hq]; exact skq_stop (fun q => by have q3 := of_decide_eq_true q.2; rw [a0_in (by omega)] at *; omega)
      have hvv : v9 = v := by rw [hst, show pl + d - pl = d by omega, hv] at hv9; omega
      refine V.iload_n C (n := 67) (j := 3) d_M_isNumber_66 rfl rfl rfl ?_
      refine V.ifn_le C (tgt := 103) (n := 70) (by omega) d_M_isNumber_67 (by decide) rfl (fun c67_8 => ?_) (fun c67_8 => ?_)
      · refine V.iconst C (v := nI 0) (n := 104) d_M_isNumber_103 (by decide) rfl ?_
        refine V.istore C (n := 106) (lv' := [(0, .ref (w 0)), (1, .int (nI lw)), (2, .int (nI hh)), (3, .int (nI d)), (4, .int (nI 0))]) [1, 2, 3, 4, 0] d_M_isNumber_104 (by decide) rfl rfl ?_
        refine V.aload_n C (n := 107) (j := 0) d_M_isNumber_106 rfl rfl rfl ?_
        refine V.callV_v C (n := 110) (ws2 := fun _ => (ModW w cI nf se pe ra ga of ti fm tm ex sz tx ld ro wh be (psS tx sz (pl + d)) v)) (c_M_passSpaces l D cI cC E (w) (nf) (se) (pe) (ra) (ga) (of) (ti) (fm) (tm) (ex) (sz) (tx) (ld) (ro) (wh) (be) (pl + d) (v) ht (by omega)) cw_M_141 [0, 1, 2, 3, 4, 5, 6, 7, 8, 9, 10, 11, 12, 13] [] [0, 1, 2, 3, 4, 5, 6, 7, 8, 9, 10, 11, 12, 13] (qr := 0) rfl rfl rfl (of_decide_eq_true rfl) rfl (of_decide_eq_true rfl) rfl (of_decide_eq_true rfl) (fun _ => rfl) (fun _ => of_decide_eq_true rfl) rfl ⟨rfl, rfl⟩ ⟨by decide, by decide⟩ ⟨by decide, by decide⟩ rfl rfl (of_decide_eq_true rfl) d_M_isNumber_107 rfl (fun _ _ => ?_)
        refine V.iload C (n := 112) (j := 4) d_M_isNumber_110 rfl rfl ?_
        exact V.zret C hr (bI_nar _) d_M_isNumber_112 (by rw [hst, hvv]; first | exact bI_1 (by omega) | exact bI_0 (by omega)) (by rw [hst, hvv])
      · refine V.iload_n C (n := 71) (j := 3) d_M_isNumber_70 rfl rfl rfl ?_
        refine V.bipush C (v := nI 7) (n := 73) d_M_isNumber_71 (by decide) rfl ?_
        refine V.icmpn_ge C (tgt := 103) (n := 76) (by omega) (by omega) d_M_isNumber_73 (by decide) rfl (fun c73_9 => ?_) (fun c73_9 => ?_)
        · refine V.iconst C (v := nI 0) (n := 104) d_M_isNumber_103 (by decide) rfl ?_
          refine V.istore C (n := 106) (lv' := [(0, .ref (w 0)), (1, .int (nI lw)), (2, .int (nI hh)), (3, .int (nI d)), (4, .int (nI 0))]) [1, 2, 3, 4, 0] d_M_isNumber_104 (by decide) rfl rfl ?_
          refine V.aload_n C (n := 107) (j := 0) d_M_isNumber_106 rfl rfl rfl ?_
          refine V.callV_v C (n := 110) (ws2 := fun _ => (ModW w cI nf se pe ra ga of ti fm tm ex sz tx ld ro wh be (psS tx sz (pl + d)) v)) (c_M_passSpaces l D cI cC E (w) (nf) (se) (pe) (ra) (ga) (of) (ti) (fm) (tm) (ex) (sz) (tx) (ld) (ro) (wh) (be) (pl + d) (v) ht (by omega)) cw_M_141 [0, 1, 2, 3, 4, 5, 6, 7, 8, 9, 10, 11, 12, 13] [] [0, 1, 2, 3, 4, 5, 6, 7, 8, 9, 10, 11, 12, 13] (qr := 0) rfl rfl rfl (of_decide_eq_true rfl) rfl (of_decide_eq_true rfl) rfl (of_decide_eq_true rfl) (fun _ => rfl) (fun _ => of_decide_eq_true rfl) rfl ⟨rfl, rfl⟩ ⟨by decide, by decide⟩ ⟨by decide, by decide⟩ rfl rfl (of_decide_eq_true rfl) d_M_isNumber_107 rfl (fun _ _ => ?_)
          refine V.iload C (n := 112) (j := 4) d_M_isNumber_110 rfl rfl ?_
          exact V.zret C hr (bI_nar _) d_M_isNumber_112 (by rw [hst, hvv]; first | exact bI_1 (by omega) | exact bI_0 (by omega)) (by rw [hst, hvv])
        · refine V.aload_n C (n := 77) (j := 0) d_M_isNumber_76 rfl rfl rfl ?_
          refine V.callV_i C (n := 80) (ws' := (ModW w cI nf se pe ra ga of ti fm tm ex sz tx ld ro wh be (pl + d) v)) (c_M_isBetween l D cI cC E (w) (nf) (se) (pe) (ra) (ga) (of) (ti) (fm) (tm) (ex) (sz) (tx) (ld) (ro) (wh) (be) (pl + d) (v) ht (by omega)) cw_M_138 [0, 1, 2, 3, 4, 5, 6, 7, 8, 9, 10, 11, 12, 13] [] [0, 1, 2, 3, 4, 5, 6, 7, 8, 9, 10, 11, 12, 13] (qr := 0) rfl rfl rfl (of_decide_eq_true rfl) rfl (of_decide_eq_true rfl) rfl (of_decide_eq_true rfl) rfl (of_decide_eq_true rfl) rfl ⟨rfl, rfl⟩ ⟨by decide, by decide⟩ ⟨by decide, by decide⟩ rfl rfl (of_decide_eq_true rfl) d_M_isNumber_77 rfl ?_
          refine V.ifb_eq C (tgt := 103) (n := 83) d_M_isNumber_80 (by decide) rfl (fun c80_10 => ?_) (fun c80_10 => ?_)
          · refine V.iconst C (v := nI 0) (n := 104) d_M_isNumber_103 (by decide) rfl ?_
            refine V.istore C (n := 106) (lv' := [(0, .ref (w 0)), (1, .int (nI lw)), (2, .int (nI hh)), (3, .int (nI d)), (4, .int (nI 0))]) [1, 2, 3, 4, 0] d_M_isNumber_104 (by decide) rfl rfl ?_
            refine V.aload_n C (n := 107) (j := 0) d_M_isNumber_106 rfl rfl rfl ?_
            refine V.callV_v C (n := 110) (ws2 := fun _ => (ModW w cI nf se pe ra ga of ti fm tm ex sz tx ld ro wh be (psS tx sz (pl + d)) v)) (c_M_passSpaces l D cI cC E (w) (nf) (se) (pe) (ra) (ga) (of) (ti) (fm) (tm) (ex) (sz) (tx) (ld) (ro) (wh) (be) (pl + d) (v) ht (by omega)) cw_M_141 [0, 1, 2, 3, 4, 5, 6, 7, 8, 9, 10, 11, 12, 13] [] [0, 1, 2, 3, 4, 5, 6, 7, 8, 9, 10, 11, 12, 13] (qr := 0) rfl rfl rfl (of_decide_eq_true rfl) rfl (of_decide_eq_true rfl) rfl (of_decide_eq_true rfl) (fun _ => rfl) (fun _ => of_decide_eq_true rfl) rfl ⟨rfl, rfl⟩ ⟨by decide, by decide⟩ ⟨by decide, by decide⟩ rfl rfl (of_decide_eq_true rfl) d_M_isNumber_107 rfl (fun _ _ => ?_)
            refine V.iload C (n := 112) (j := 4) d_M_isNumber_110 rfl rfl ?_
            exact V.zret C hr (bI_nar _) d_M_isNumber_112 (by rw [hst, hvv]; first | exact bI_1 (by omega) | exact bI_0 (by omega)) (by rw [hst, hvv])
          · refine V.aload_n C (n := 84) (j := 0) d_M_isNumber_83 rfl rfl rfl ?_
            refine V.get C (n := 87) (q0 := 0) (k0 := 18) clOk_6 rfl (by decide) rfl fl_M_144 rfl d_M_isNumber_84 rfl ?_
            refine V.iload_n C (n := 88) (j := 1) d_M_isNumber_87 rfl rfl rfl ?_
            refine V.icmpn_lt C (tgt := 103) (n := 91) (by omega) (by omega) d_M_isNumber_88 (by decide) rfl (fun c88_11 => ?_) (fun c88_11 => ?_)
            · refine V.iconst C (v := nI 0) (n := 104) d_M_isNumber_103 (by decide) rfl ?_
              refine V.istore C (n := 106) (lv' := [(0, .ref (w 0)), (1, .int (nI lw)), (2, .int (nI hh)), (3, .int (nI d)), (4, .int (nI 0))]) [1, 2, 3, 4, 0] d_M_isNumber_104 (by decide) rfl rfl ?_
              refine V.aload_n C (n := 107) (j := 0) d_M_isNumber_106 rfl rfl rfl ?_
              refine V.callV_v C (n := 110) (ws2 := fun _ => (ModW w cI nf se pe ra ga of ti fm tm ex sz tx ld ro wh be (psS tx sz (pl + d)) v)) (c_M_passSpaces l D cI cC E (w) (nf) (se) (pe) (ra) (ga) (of) (ti) (fm) (tm) (ex) (sz) (tx) (ld) (ro) (wh) (be) (pl + d) (v) ht (by omega)) cw_M_141 [0, 1, 2, 3, 4, 5, 6, 7, 8, 9, 10, 11, 12, 13] [] [0, 1, 2, 3, 4, 5, 6, 7, 8, 9, 10, 11, 12, 13] (qr := 0) rfl rfl rfl (of_decide_eq_true rfl) rfl (of_decide_eq_true rfl) rfl (of_decide_eq_true rfl) (fun _ => rfl) (fun _ => of_decide_eq_true rfl) rfl ⟨rfl, rfl⟩ ⟨by decide, by decide⟩ ⟨by decide, by decide⟩ rfl rfl (of_decide_eq_true rfl) d_M_isNumber_107 rfl (fun _ _ => ?_)
              refine V.iload C (n := 112) (j := 4) d_M_isNumber_110 rfl rfl ?_
              exact V.zret C hr (bI_nar _) d_M_isNumber_112 (by rw [hst, hvv]; first | exact bI_1 (by omega) | exact bI_0 (by omega)) (by rw [hst, hvv])
            · refine V.aload_n C (n := 92) (j := 0) d_M_isNumber_91 rfl rfl rfl ?_
              refine V.get C (n := 95) (q0 := 0) (k0 := 18) clOk_6 rfl (by decide) rfl fl_M_144 rfl d_M_isNumber_92 rfl ?_
              refine V.iload_n C (n := 96) (j := 2) d_M_isNumber_95 rfl rfl rfl ?_
              refine V.icmpn_gt C (tgt := 103) (n := 99) (by omega) (by omega) d_M_isNumber_96 (by decide) rfl (fun c96_12 => ?_) (fun c96_12 => ?_)
              · refine V.iconst C (v := nI 0) (n := 104) d_M_isNumber_103 (by decide) rfl ?_
                refine V.istore C (n := 106) (lv' := [(0, .ref (w 0)), (1, .int (nI lw)), (2, .int (nI hh)), (3, .int (nI d)), (4, .int (nI 0))]) [1, 2, 3, 4, 0] d_M_isNumber_104 (by decide) rfl rfl ?_
                refine V.aload_n C (n := 107) (j := 0) d_M_isNumber_106 rfl rfl rfl ?_
                refine V.callV_v C (n := 110) (ws2 := fun _ => (ModW w cI nf se pe ra ga of ti fm tm ex sz tx ld ro wh be (psS tx sz (pl + d)) v)) (c_M_passSpaces l D cI cC E (w) (nf) (se) (pe) (ra) (ga) (of) (ti) (fm) (tm) (ex) (sz) (tx) (ld) (ro) (wh) (be) (pl + d) (v) ht (by omega)) cw_M_141 [0, 1, 2, 3, 4, 5, 6, 7, 8, 9, 10, 11, 12, 13] [] [0, 1, 2, 3, 4, 5, 6, 7, 8, 9, 10, 11, 12, 13] (qr := 0) rfl rfl rfl (of_decide_eq_true rfl) rfl (of_decide_eq_true rfl) rfl (of_decide_eq_true rfl) (fun _ => rfl) (fun _ => of_decide_eq_true rfl) rfl ⟨rfl, rfl⟩ ⟨by decide, by decide⟩ ⟨by decide, by decide⟩ rfl rfl (of_decide_eq_true rfl) d_M_isNumber_107 rfl (fun _ _ => ?_)
                refine V.iload C (n := 112) (j := 4) d_M_isNumber_110 rfl rfl ?_
                exact V.zret C hr (bI_nar _) d_M_isNumber_112 (by rw [hst, hvv]; first | exact bI_1 (by omega) | exact bI_0 (by omega)) (by rw [hst, hvv])
              · refine V.iconst C (v := nI 1) (n := 100) d_M_isNumber_99 (by decide) rfl ?_
                refine V.goto C (n := 104) d_M_isNumber_100 (by decide) ?_
                refine V.istore C (n := 106) (lv' := [(0, .ref (w 0)), (1, .int (nI lw)), (2, .int (nI hh)), (3, .int (nI d)), (4, .int (nI 1))]) [1, 2, 3, 4, 0] d_M_isNumber_104 (by decide) rfl rfl ?_
                refine V.aload_n C (n := 107) (j := 0) d_M_isNumber_106 rfl rfl rfl ?_
                refine V.callV_v C (n := 110) (ws2 := fun _ => (ModW w cI nf se pe ra ga of ti fm tm ex sz tx ld ro wh be (psS tx sz (pl + d)) v)) (c_M_passSpaces l D cI cC E (w) (nf) (se) (pe) (ra) (ga) (of) (ti) (fm) (tm) (ex) (sz) (tx) (ld) (ro) (wh) (be) (pl + d) (v) ht (by omega)) cw_M_141 [0, 1, 2, 3, 4, 5, 6, 7, 8, 9, 10, 11, 12, 13] [] [0, 1, 2, 3, 4, 5, 6, 7, 8, 9, 10, 11, 12, 13] (qr := 0) rfl rfl rfl (of_decide_eq_true rfl) rfl (of_decide_eq_true rfl) rfl (of_decide_eq_true rfl) (fun _ => rfl) (fun _ => of_decide_eq_true rfl) rfl ⟨rfl, rfl⟩ ⟨by decide, by decide⟩ ⟨by decide, by decide⟩ rfl rfl (of_decide_eq_true rfl) d_M_isNumber_107 rfl (fun _ _ => ?_)
                refine V.iload C (n := 112) (j := 4) d_M_isNumber_110 rfl rfl ?_
                exact V.zret C hr (bI_nar _) d_M_isNumber_112 (by rw [hst, hvv]; first | exact bI_1 (by omega) | exact bI_0 (by omega)) (by rw [hst, hvv])
    · have h9a := a0_ne (show a0 tx sz (pl + d) ≠ 10 by omega)
      refine V.iload_n C (n := 26) (j := 3) d_M_isNumber_25 rfl rfl rfl ?_
      refine V.bipush C (v := nI 7) (n := 28) d_M_isNumber_26 (by decide) rfl ?_
      refine V.icmpn_ge C (tgt := 66) (n := 31) (by omega) (by omega) d_M_isNumber_28 (by decide) rfl (fun c28_13 => ?_) (fun c28_13 => ?_)
      · have hst : e9 = pl + d := by rw [← hq]; exact skq_stop (by omega)
        have hvv : v9 = v := by rw [hst, show pl + d - pl = d by omega, hv] at hv9; omega
        refine V.iload_n C (n := 67) (j := 3) d_M_isNumber_66 rfl rfl rfl ?_
        refine V.ifn_le C (tgt := 103) (n := 70) (by omega) d_M_isNumber_67 (by decide) rfl (fun c67_14 => ?_) (fun c67_14 => ?_)
        · refine V.iconst C (v := nI 0) (n := 104) d_M_isNumber_103 (by decide) rfl ?_
          refine V.istore C (n := 106) (lv' := [(0, .ref (w 0)), (1, .int (nI lw)), (2, .int (nI hh)), (3, .int (nI d)), (4, .int (nI 0))]) [1, 2, 3, 4, 0] d_M_isNumber_104 (by decide) rfl rfl ?_
          refine V.aload_n C (n := 107) (j := 0) d_M_isNumber_106 rfl rfl rfl ?_
          refine V.callV_v C (n := 110) (ws2 := fun _ => (ModW w cI nf se pe ra ga of ti fm tm ex sz tx ld ro wh be (psS tx sz (pl + d)) v)) (c_M_passSpaces l D cI cC E (w) (nf) (se) (pe) (ra) (ga) (of) (ti) (fm) (tm) (ex) (sz) (tx) (ld) (ro) (wh) (be) (pl + d) (v) ht (by omega)) cw_M_141 [0, 1, 2, 3, 4, 5, 6, 7, 8, 9, 10, 11, 12, 13] [] [0, 1, 2, 3, 4, 5, 6, 7, 8, 9, 10, 11, 12, 13] (qr := 0) rfl rfl rfl (of_decide_eq_true rfl) rfl (of_decide_eq_true rfl) rfl (of_decide_eq_true rfl) (fun _ => rfl) (fun _ => of_decide_eq_true rfl) rfl ⟨rfl, rfl⟩ ⟨by decide, by decide⟩ ⟨by decide, by decide⟩ rfl rfl (of_decide_eq_true rfl) d_M_isNumber_107 rfl (fun _ _ => ?_)
          refine V.iload C (n := 112) (j := 4) d_M_isNumber_110 rfl rfl ?_
          exact V.zret C hr (bI_nar _) d_M_isNumber_112 (by rw [hst, hvv]; first | exact bI_1 (by omega) | exact bI_0 (by omega)) (by rw [hst, hvv])
        · refine V.iload_n C (n := 71) (j := 3) d_M_isNumber_70 rfl rfl rfl ?_
          refine V.bipush C (v := nI 7) (n := 73) d_M_isNumber_71 (by decide) rfl ?_
          refine V.icmpn_ge C (tgt := 103) (n := 76) (by omega) (by omega) d_M_isNumber_73 (by decide) rfl (fun c73_15 => ?_) (fun c73_15 => ?_)
          · refine V.iconst C (v := nI 0) (n := 104) d_M_isNumber_103 (by decide) rfl ?_
            refine V.istore C (n := 106) (lv' := [(0, .ref (w 0)), (1, .int (nI lw)), (2, .int (nI hh)), (3, .int (nI d)), (4, .int (nI 0))]) [1, 2, 3, 4, 0] d_M_isNumber_104 (by decide) rfl rfl ?_
            refine V.aload_n C (n := 107) (j := 0) d_M_isNumber_106 rfl rfl rfl ?_
            refine V.callV_v C (n := 110) (ws2 := fun _ => (ModW w cI nf se pe ra ga of ti fm tm ex sz tx ld ro wh be (psS tx sz (pl + d)) v)) (c_M_passSpaces l D cI cC E (w) (nf) (se) (pe) (ra) (ga) (of) (ti) (fm) (tm) (ex) (sz) (tx) (ld) (ro) (wh) (be) (pl + d) (v) ht (by omega)) cw_M_141 [0, 1, 2, 3, 4, 5, 6, 7, 8, 9, 10, 11, 12, 13] [] [0, 1, 2, 3, 4, 5, 6, 7, 8, 9, 10, 11, 12, 13] (qr := 0) rfl rfl rfl (of_decide_eq_true rfl) rfl (of_decide_eq_true rfl) rfl (of_decide_eq_true rfl) (fun _ => rfl) (fun _ => of_decide_eq_true rfl) rfl ⟨rfl, rfl⟩ ⟨by decide, by decide⟩ ⟨by decide, by decide⟩ rfl rfl (of_decide_eq_true rfl) d_M_isNumber_107 rfl (fun _ _ => ?_)
            refine V.iload C (n := 112) (j := 4) d_M_isNumber_110 rfl rfl ?_
            exact V.zret C hr (bI_nar _) d_M_isNumber_112 (by rw [hst, hvv]; first | exact bI_1 (by omega) | exact bI_0 (by omega)) (by rw [hst, hvv])
          · refine V.aload_n C (n := 77) (j := 0) d_M_isNumber_76 rfl rfl rfl ?_
            refine V.callV_i C (n := 80) (ws' := (ModW w cI nf se pe ra ga of ti fm tm ex sz tx ld ro wh be (pl + d) v)) (c_M_isBetween l D cI cC E (w) (nf) (se) (pe) (ra) (ga) (of) (ti) (fm) (tm) (ex) (sz) (tx) (ld) (ro) (wh) (be) (pl + d) (v) ht (by omega)) cw_M_138 [0, 1, 2, 3, 4, 5, 6, 7, 8, 9, 10, 11, 12, 13] [] [0, 1, 2, 3, 4, 5, 6, 7, 8, 9, 10, 11, 12, 13] (qr := 0) rfl rfl rfl (of_decide_eq_true rfl) rfl (of_decide_eq_true rfl) rfl (of_decide_eq_true rfl) rfl (of_decide_eq_true rfl) rfl ⟨rfl, rfl⟩ ⟨by decide, by decide⟩ ⟨by decide, by decide⟩ rfl rfl (of_decide_eq_true rfl) d_M_isNumber_77 rfl ?_
            refine V.ifb_eq C (tgt := 103) (n := 83) d_M_isNumber_80 (by decide) rfl (fun c80_16 => ?_) (fun c80_16 => ?_)
            · refine V.iconst C (v := nI 0) (n := 104) d_M_isNumber_103 (by decide) rfl ?_
              refine V.istore C (n := 106) (lv' := [(0, .ref (w 0)), (1, .int (nI lw)), (2, .int (nI hh)), (3, .int (nI d)), (4, .int (nI 0))]) [1, 2, 3, 4, 0] d_M_isNumber_104 (by decide) rfl rfl ?_
              refine V.aload_n C (n := 107) (j := 0) d_M_isNumber_106 rfl rfl rfl ?_
              refine V.callV_v C (n := 110) (ws2 := fun _ => (ModW w cI nf se pe ra ga of ti fm tm ex sz tx ld ro wh be (psS tx sz (pl + d)) v)) (c_M_passSpaces l D cI cC E (w) (nf) (se) (pe) (ra) (ga) (of) (ti) (fm) (tm) (ex) (sz) (tx) (ld) (ro) (wh) (be) (pl + d) (v) ht (by omega)) cw_M_141 [0, 1, 2, 3, 4, 5, 6, 7, 8, 9, 10, 11, 12, 13] [] [0, 1, 2, 3, 4, 5, 6, 7, 8, 9, 10, 11, 12, 13] (qr := 0) rfl rfl rfl (of_decide_eq_true rfl) rfl (of_decide_eq_true rfl) rfl (of_decide_eq_true rfl) (fun _ => rfl) (fun _ => of_decide_eq_true rfl) rfl ⟨rfl, rfl⟩ ⟨by decide, by decide⟩ ⟨by decide, by decide⟩ rfl rfl (of_decide_eq_true rfl) d_M_isNumber_107 rfl (fun _ _ => ?_)
              refine V.iload C (n := 112) (j := 4) d_M_isNumber_110 rfl rfl ?_
              exact V.zret C hr (bI_nar _) d_M_isNumber_112 (by rw [hst, hvv]; first | exact bI_1 (by omega) | exact bI_0 (by omega)) (by rw [hst, hvv])
            · refine V.aload_n C (n := 84) (j := 0) d_M_isNumber_83 rfl rfl rfl ?_
              refine V.get C (n := 87) (q0 := 0) (k0 := 18) clOk_6 rfl (by decide) rfl fl_M_144 rfl d_M_isNumber_84 rfl ?_
              refine V.iload_n C (n := 88) (j := 1) d_M_isNumber_87 rfl rfl rfl ?_
              refine V.icmpn_lt C (tgt := 103) (n := 91) (by omega) (by omega) d_M_isNumber_88 (by decide) rfl (fun c88_17 => ?_) (fun c88_17 => ?_)
              · refine V.iconst C (v := nI 0) (n := 104) d_M_isNumber_103 (by decide) rfl ?_
                refine V.istore C (n := 106) (lv' := [(0, .ref (w 0)), (1, .int (nI lw)), (2, .int (nI hh)), (3, .int (nI d)), (4, .int (nI 0))]) [1, 2, 3, 4, 0] d_M_isNumber_104 (by decide) rfl rfl ?_
                refine V.aload_n C (n := 107) (j := 0) d_M_isNumber_106 rfl rfl rfl ?_
                refine V.callV_v C (n := 110) (ws2 := fun _ => (ModW w cI nf se pe ra ga of ti fm tm ex sz tx ld ro wh be (psS tx sz (pl + d)) v)) (c_M_passSpaces l D cI cC E (w) (nf) (se) (pe) (ra) (ga) (of) (ti) (fm) (tm) (ex) (sz) (tx) (ld) (ro) (wh) (be) (pl + d) (v) ht (by omega)) cw_M_141 [0, 1, 2, 3, 4, 5, 6, 7, 8, 9, 10, 11, 12, 13] [] [0, 1, 2, 3, 4, 5, 6, 7, 8, 9, 10, 11, 12, 13] (qr := 0) rfl rfl rfl (of_decide_eq_true rfl) rfl (of_decide_eq_true rfl) rfl (of_decide_eq_true rfl) (fun _ => rfl) (fun _ => of_decide_eq_true rfl) rfl ⟨rfl, rfl⟩ ⟨by decide, by decide⟩ ⟨by decide, by decide⟩ rfl rfl (of_decide_eq_true rfl) d_M_isNumber_107 rfl (fun _ _ => ?_)
                refine V.iload C (n := 112) (j := 4) d_M_isNumber_110 rfl rfl ?_
                exact V.zret C hr (bI_nar _) d_M_isNumber_112 (by rw [hst, hvv]; first | exact bI_1 (by omega) | exact bI_0 (by omega)) (by rw [hst, hvv])
              · refine V.aload_n C (n := 92) (j := 0) d_M_isNumber_91 rfl rfl rfl ?_
                refine V.get C (n := 95) (q0 := 0) (k0 := 18) clOk_6 rfl (by decide) rfl fl_M_144 rfl d_M_isNumber_92 rfl ?_
                refine V.iload_n C (n := 96) (j := 2) d_M_isNumber_95 rfl rfl rfl ?_
                refine V.icmpn_gt C (tgt := 103) (n := 99) (by omega) (by omega) d_M_isNumber_96 (by decide) rfl (fun c96_18 => ?_) (fun c96_18 => ?_)
                · refine V.iconst C (v := nI 0) (n := 104) d_M_isNumber_103 (by decide) rfl ?_
                  refine V.istore C (n := 106) (lv' := [(0, .ref (w 0)), (1, .int (nI lw)), (2, .int (nI hh)), (3, .int (nI d)), (4, .int (nI 0))]) [1, 2, 3, 4, 0] d_M_isNumber_104 (by decide) rfl rfl ?_
                  refine V.aload_n C (n := 107) (j := 0) d_M_isNumber_106 rfl rfl rfl ?_
                  refine V.callV_v C (n := 110) (ws2 := fun _ => (ModW w cI nf se pe ra ga of ti fm tm ex sz tx ld ro wh be (psS tx sz (pl + d)) v)) (c_M_passSpaces l D cI cC E (w) (nf) (se) (pe) (ra) (ga) (of) (ti) (fm) (tm) (ex) (sz) (tx) (ld) (ro) (wh) (be) (pl + d) (v) ht (by omega)) cw_M_141 [0, 1, 2, 3, 4, 5, 6, 7, 8, 9, 10, 11, 12, 13] [] [0, 1, 2, 3, 4, 5, 6, 7, 8, 9, 10, 11, 12, 13] (qr := 0) rfl rfl rfl (of_decide_eq_true rfl) rfl (of_decide_eq_true rfl) rfl (of_decide_eq_true rfl) (fun _ => rfl) (fun _ => of_decide_eq_true rfl) rfl ⟨rfl, rfl⟩ ⟨by decide, by decide⟩ ⟨by decide, by decide⟩ rfl rfl (of_decide_eq_true rfl) d_M_isNumber_107 rfl (fun _ _ => ?_)
                  refine V.iload C (n := 112) (j := 4) d_M_isNumber_110 rfl rfl ?_
                  exact V.zret C hr (bI_nar _) d_M_isNumber_112 (by rw [hst, hvv]; first | exact bI_1 (by omega) | exact bI_0 (by omega)) (by rw [hst, hvv])
                · refine V.iconst C (v := nI 1) (n := 100) d_M_isNumber_99 (by decide) rfl ?_
                  refine V.goto C (n := 104) d_M_isNumber_100 (by decide) ?_
                  refine V.istore C (n := 106) (lv' := [(0, .ref (w 0)), (1, .int (nI lw)), (2, .int (nI hh)), (3, .int (nI d)), (4, .int (nI 1))]) [1, 2, 3, 4, 0] d_M_isNumber_104 (by decide) rfl rfl ?_
                  refine V.aload_n C (n := 107) (j := 0) d_M_isNumber_106 rfl rfl rfl ?_
                  refine V.callV_v C (n := 110) (ws2 := fun _ => (ModW w cI nf se pe ra ga of ti fm tm ex sz tx ld ro wh be (psS tx sz (pl + d)) v)) (c_M_passSpaces l D cI cC E (w) (nf) (se) (pe) (ra) (ga) (of) (ti) (fm) (tm) (ex) (sz) (tx) (ld) (ro) (wh) (be) (pl + d) (v) ht (by omega)) cw_M_141 [0, 1, 2, 3, 4, 5, 6, 7, 8, 9, 10, 11, 12, 13] [] [0, 1, 2, 3, 4, 5, 6, 7, 8, 9, 10, 11, 12, 13] (qr := 0) rfl rfl rfl (of_decide_eq_true rfl) rfl (of_decide_eq_true rfl) rfl (of_decide_eq_true rfl) (fun _ => rfl) (fun _ => of_decide_eq_true rfl) rfl ⟨rfl, rfl⟩ ⟨by decide, by decide⟩ ⟨by decide, by decide⟩ rfl rfl (of_decide_eq_true rfl) d_M_isNumber_107 rfl (fun _ _ => ?_)
                  refine V.iload C (n := 112) (j := 4) d_M_isNumber_110 rfl rfl ?_
                  exact V.zret C hr (bI_nar _) d_M_isNumber_112 (by rw [hst, hvv]; first | exact bI_1 (by omega) | exact bI_0 (by omega)) (by rw [hst, hvv])
      · refine V.aload_n C (n := 32) (j := 0) d_M_isNumber_31 rfl rfl rfl ?_
        refine V.bipush C (v := nI 10) (n := 34) d_M_isNumber_32 (by decide) rfl ?_
        refine V.aload_n C (n := 35) (j := 0) d_M_isNumber_34 rfl rfl rfl ?_
        refine V.get C (n := 38) (q0 := 0) (k0 := 18) clOk_6 rfl (by decide) rfl fl_M_144 rfl d_M_isNumber_35 rfl ?_
        refine V.imul_n C (n := 39) d_M_isNumber_38 rfl ?_
        refine V.aload_n C (n := 40) (j := 0) d_M_isNumber_39 rfl rfl rfl ?_
        refine V.callV_i C (n := 43) (ws' := (ModW w cI nf se pe ra ga of ti fm tm ex sz tx ld ro wh be (pl + d) v)) (c_M_at0 l D cI cC E (w) (nf) (se) (pe) (ra) (ga) (of) (ti) (fm) (tm) (ex) (sz) (tx) (ld) (ro) (wh) (be) (pl + d) (v) ht (by omega)) cw_M_131 [0, 1, 2, 3, 4, 5, 6, 7, 8, 9, 10, 11, 12, 13] [] [0, 1, 2, 3, 4, 5, 6, 7, 8, 9, 10, 11, 12, 13] (qr := 0) rfl rfl rfl (of_decide_eq_true rfl) rfl (of_decide_eq_true rfl) rfl (of_decide_eq_true rfl) rfl (of_decide_eq_true rfl) rfl ⟨rfl, rfl⟩ ⟨by decide, by decide⟩ ⟨by decide, by decide⟩ rfl rfl (of_decide_eq_true rfl) d_M_isNumber_40 rfl ?_
        have b_3 := a0_le (tx := tx) (sz := sz) htx ((pl + d))
        refine V.iadd_n C (n := 44) d_M_isNumber_43 rfl ?_
        refine V.bipush C (v := nI 48) (n := 46) d_M_isNumber_44 (by decide) rfl ?_
        refine V.isub_n C (n := 47) d_M_isNumber_46 (by omega) rfl ?_
        refine V.cv C (y := nI (10 * v + (tx (pl + d) - 48))) (congrArg nI (by omega)) ?_
        refine V.put C (n := 50) (q0 := 0) (k0 := 18) (ws' := (ModW w cI nf se pe ra ga of ti fm tm ex sz tx ld ro wh be (pl + d) (10 * v + (tx (pl + d) - 48)))) clOk_6 rfl (by decide) rfl rfl fl_M_144 rfl rfl (of_decide_eq_true rfl) rfl d_M_isNumber_47 rfl ?_
        refine V.iinc C (n := 53) (j := 3) (v := nI (d + 1)) (lv' := [(0, .ref (w 0)), (1, .int (nI lw)), (2, .int (nI hh)), (3, .int (nI (d + 1)))]) [1, 2, 3, 0] d_M_isNumber_50 rfl (nI_inc (d) 1) (by decide) rfl rfl ?_
        refine V.aload_n C (n := 54) (j := 0) d_M_isNumber_53 rfl rfl rfl ?_
        refine V.dup C (n := 55) d_M_isNumber_54 rfl rfl ?_
        refine V.get C (n := 58) (q0 := 0) (k0 := 17) clOk_6 rfl (by decide) rfl fl_M_128 rfl d_M_isNumber_55 rfl ?_
        refine V.iconst C (v := nI 1) (n := 59) d_M_isNumber_58 (by decide) rfl ?_
        refine V.iadd_n C (n := 60) d_M_isNumber_59 rfl ?_
        refine V.put C (n := 63) (q0 := 0) (k0 := 17) (ws' := (ModW w cI nf se pe ra ga of ti fm tm ex sz tx ld ro wh be ((pl + d) + 1) (10 * v + (tx (pl + d) - 48)))) clOk_6 rfl (by decide) rfl rfl fl_M_128 rfl rfl (of_decide_eq_true rfl) rfl d_M_isNumber_60 rfl ?_
        refine V.goto C (n := 7) d_M_isNumber_63 (by decide) ?_
        exact ih7 (d + 1) (10 * v + (tx (pl + d) - 48)) ⟨by omega, by rw [← hq]; exact (skq_t (i := pl + d) (p := isDg tx) (by omega) (show isDg tx (pl + d) = true from decide_eq_true (by omega))).symm, by rw [dgs_ok hv (by omega)]; exact congrArg Int.ofNat (by omega), by rw [Nat.pow_succ]; omega⟩ (by omega)
