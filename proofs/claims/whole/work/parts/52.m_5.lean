set_option maxHeartbeats 4000000 in
set_option maxRecDepth 100000 in
theorem c_M_offset_bad (l : Launch) (D : va_G) (cI cC : ClassId) (E : Nat → Nat) (w : Nat → Nat) (nf : Nat) (se pe ra ga of ti fm tm : Nat → Nat) (ex : Bool) (sz : Nat) (tx ld : Nat → Nat) (ro : Nat → Int) (wh be : Nat → Nat) (pl nu : Nat) (X : Int) (hM : MOK nf se pe ra ga of ti fm tm sz tx) (hX : -9223372036854775808 ≤ X ∧ X < 9223372036854775808) (hbad : ¬ (0 ≤ X ∧ X ≤ 3000)) : CI l D (TY cI cC E) m_M_offset (rmD 3) [.ref (w 0), .long (jI (X))] ((ModW w cI nf se pe ra ga of ti fm tm ex sz tx ld ro wh be pl nu)) (iI (-2)) ((ModW w cI nf se pe ra ga of ti fm tm ex sz tx ld ro wh be pl nu)) := by
  obtain ⟨hnf, hse, hpe, hp1, hra, hga, hof, hti, hfm, htm, hsz, htx⟩ := id hM
  refine CI.of (by decide +kernel) (of_decide_eq_true rfl) ?_
  intro p e s m args below meth c C hr
  refine V.aload_n C (n := 1) (j := 0) d_M_offset_0 rfl rfl rfl ?_
  refine V.iconst C (v := nI 0) (n := 2) d_M_offset_1 (by decide) rfl ?_
  refine V.put C (n := 5) (q0 := 0) (k0 := 0) (ws' := (ModW w cI nf se pe ra ga of ti fm tm ex sz tx ld ro wh be pl nu)) clOk_6 rfl (by decide) rfl rfl fl_M_49 rfl rfl (of_decide_eq_true rfl) rfl d_M_offset_2 rfl ?_
  refine V.lload_n C (n := 6) (j := 1) d_M_offset_5 rfl rfl rfl ?_
  refine V.lconst C (v := jI 0) (n := 7) d_M_offset_6 (by decide) rfl ?_
  refine V.ldc2 C (n := 10) l2_M_99 d_M_offset_7 rfl ?_
  refine V.callS_i C (n := 13) (ws' := (ModW w cI nf se pe ra ga of ti fm tm ex sz tx ld ro wh be pl nu)) (c_M_isIn l D cI cC E (X) (0) (3000) (by first | omega | assumption) (by first | omega | assumption) (by first | omega | assumption)) cw_M_56 [] [0, 1, 2, 3, 4, 5, 6, 7, 8, 9, 10, 11, 12, 13] [0, 1, 2, 3, 4, 5, 6, 7, 8, 9, 10, 11, 12, 13] rfl (of_decide_eq_true rfl) rfl (of_decide_eq_true rfl) rfl (of_decide_eq_true rfl) rfl (of_decide_eq_true rfl) rfl ⟨rfl, rfl⟩ ⟨by decide, by decide⟩ ⟨by decide, by decide⟩ rfl rfl (of_decide_eq_true rfl) d_M_offset_10 rfl ?_
  refine V.ifb_ne C (tgt := 19) (n := 16) d_M_offset_13 (by decide) rfl (fun c13_1 => ?_) (fun c13_1 => ?_)
  · exfalso; omega
  · refine V.bipush C (v := iI (-2)) (n := 18) d_M_offset_16 (by decide) rfl ?_
    exact V.iret C hr d_M_offset_18 (rfl) (rfl)
set_option maxHeartbeats 4000000 in
set_option maxRecDepth 100000 in
theorem c_M_offset_0 (l : Launch) (D : va_G) (cI cC : ClassId) (E : Nat → Nat) (w : Nat → Nat) (nf : Nat) (se pe ra ga of ti fm tm : Nat → Nat) (ex : Bool) (sz : Nat) (tx ld : Nat → Nat) (ro : Nat → Int) (wh be : Nat → Nat) (pl nu : Nat) (N9 : Nat) (hM : MOK nf se pe ra ga of ti fm tm sz tx) (h9 : N9 ≤ 3000) (hwh : ∀ j, wh j ≤ 40) (hbe : ∀ j, be j ≤ 60) (hz : ∀ u, 420 ≤ u → ld u = 0) (hn0 : (layS pe wh zF nf).2.2 = 0) : CE l D (TY cI cC E) m_M_offset (rmD 3) [.ref (w 0), .long (jI (((N9 : Nat) : Int)))] ((ModW w cI nf se pe ra ga of ti fm tm ex sz tx ld ro wh be pl nu)) (nI (mxA (BG zF (fun q => of ((layS pe wh zF nf).1 q)) (layS pe wh zF nf).2.2) 420)) (fun u : (Nat → Nat) × (Nat → Int) × (Nat → Nat) => (∀ t, 420 ≤ t → u.1 t = 0) ∧ ∀ j, u.2.2 j ≤ 60) (fun u => (ModW w cI nf se pe ra ga of ti fm tm true sz tx u.1 u.2.1 ((layS pe wh zF nf).1) u.2.2 pl nu)) := by
  obtain ⟨hnf, hse, hpe, hp1, hra, hga, hof, hti, hfm, htm, hsz, htx⟩ := id hM
  have hle := layS_le pe wh zF nf
  have hfs := layS_fs (pd := pe) (fr := wh) (sr := zF) nf
  have hW9 := layS_fr (pd := pe) (sr := zF) hwh hnf
  have hof9 := hof
  have hsr : ∀ i, i < (layS pe wh zF nf).2.2 → zF i = pe ((layS pe wh zF nf).1 i) := fun i hi => by omega
  refine CE.of (by decide +kernel) (of_decide_eq_true rfl) ?_
  intro p e s m args below meth c C hr
  refine V.aload_n C (n := 1) (j := 0) d_M_offset_0 rfl rfl rfl ?_
  refine V.iconst C (v := nI 0) (n := 2) d_M_offset_1 (by decide) rfl ?_
  refine V.put C (n := 5) (q0 := 0) (k0 := 0) (ws' := (ModW w cI nf se pe ra ga of ti fm tm ex sz tx ld ro wh be pl nu)) clOk_6 rfl (by decide) rfl rfl fl_M_49 rfl rfl (of_decide_eq_true rfl) rfl d_M_offset_2 rfl ?_
  refine V.lload_n C (n := 6) (j := 1) d_M_offset_5 rfl rfl rfl ?_
  refine V.lconst C (v := jI 0) (n := 7) d_M_offset_6 (by decide) rfl ?_
  refine V.ldc2 C (n := 10) l2_M_99 d_M_offset_7 rfl ?_
  refine V.callS_i C (n := 13) (ws' := (ModW w cI nf se pe ra ga of ti fm tm ex sz tx ld ro wh be pl nu)) (c_M_isIn l D cI cC E (((N9 : Nat) : Int)) (0) (3000) (by first | omega | assumption) (by first | omega | assumption) (by first | omega | assumption)) cw_M_56 [] [0, 1, 2, 3, 4, 5, 6, 7, 8, 9, 10, 11, 12, 13] [0, 1, 2, 3, 4, 5, 6, 7, 8, 9, 10, 11, 12, 13] rfl (of_decide_eq_true rfl) rfl (of_decide_eq_true rfl) rfl (of_decide_eq_true rfl) rfl (of_decide_eq_true rfl) rfl ⟨rfl, rfl⟩ ⟨by decide, by decide⟩ ⟨by decide, by decide⟩ rfl rfl (of_decide_eq_true rfl) d_M_offset_10 rfl ?_
  refine V.ifb_ne C (tgt := 19) (n := 16) d_M_offset_13 (by decide) rfl (fun c13_1 => ?_) (fun c13_1 => ?_)
  · refine V.aload_n C (n := 20) (j := 0) d_M_offset_19 rfl rfl rfl ?_
    refine V.callV_i C (n := 23) (ws' := (ModW w cI nf se pe ra ga of ti fm tm ex sz tx ld ro ((layS pe wh zF nf).1) be pl nu)) (c_M_findCounted l D cI cC E (w) (nf) (se) (pe) (ra) (ga) (of) (ti) (fm) (tm) (ex) (sz) (tx) (ld) (ro) (wh) (be) (pl) (nu) hM) cw_M_101 [0, 1, 2, 3, 4, 5, 6, 7, 8, 9, 10, 11, 12, 13] [] [0, 1, 2, 3, 4, 5, 6, 7, 8, 9, 10, 11, 12, 13] (qr := 0) rfl rfl rfl (of_decide_eq_true rfl) rfl (of_decide_eq_true rfl) rfl (of_decide_eq_true rfl) rfl (of_decide_eq_true rfl) rfl ⟨rfl, rfl⟩ ⟨by decide, by decide⟩ ⟨by decide, by decide⟩ rfl rfl (of_decide_eq_true rfl) d_M_offset_20 rfl ?_
    refine V.istore_n C (n := 24) (lv' := [(0, .ref (w 0)), (1, .long (jI (((N9 : Nat) : Int)))), (3, .int (nI ((layS pe wh zF nf).2.2)))]) [1, 2, 0] d_M_offset_23 rfl (by decide) rfl rfl ?_
    refine V.aload_n C (n := 25) (j := 0) d_M_offset_24 rfl rfl rfl ?_
    refine V.callV_v C (n := 28) (ws2 := fun _ => (ModW w cI nf se pe ra ga of ti fm tm ex sz tx (fun _ => 0) ro ((layS pe wh zF nf).1) be pl nu)) (c_M_clearLoad l D cI cC E (w) (nf) (se) (pe) (ra) (ga) (of) (ti) (fm) (tm) (ex) (sz) (tx) (ld) (ro) ((layS pe wh zF nf).1) (be) (pl) (nu) hz) cw_M_104 [0, 1, 2, 3, 4, 5, 6, 7, 8, 9, 10, 11, 12, 13] [] [0, 1, 2, 3, 4, 5, 6, 7, 8, 9, 10, 11, 12, 13] (qr := 0) rfl rfl rfl (of_decide_eq_true rfl) rfl (of_decide_eq_true rfl) rfl (of_decide_eq_true rfl) (fun _ => rfl) (fun _ => of_decide_eq_true rfl) rfl ⟨rfl, rfl⟩ ⟨by decide, by decide⟩ ⟨by decide, by decide⟩ rfl rfl (of_decide_eq_true rfl) d_M_offset_25 rfl (fun _ _ => ?_)
    refine V.aload_n C (n := 29) (j := 0) d_M_offset_28 rfl rfl rfl ?_
    refine V.aload_n C (n := 30) (j := 0) d_M_offset_29 rfl rfl rfl ?_
    refine V.iload_n C (n := 31) (j := 2) d_M_offset_30 rfl rfl rfl ?_
    refine V.cv C (y := nI 0) (congrArg nI hn0) ?_
    refine V.lload_n C (n := 32) (j := 1) d_M_offset_31 rfl rfl rfl ?_
    refine V.callV_i C (n := 35) (ws' := (ModW w cI nf se pe ra ga of ti fm tm ex sz tx (fun _ => 0) ro ((layS pe wh zF nf).1) be pl nu)) (c_M_search_none l D cI cC E (w) (nf) (se) (pe) (ra) (ga) (of) (ti) (fm) (tm) (ex) (sz) (tx) (fun _ => 0) (ro) ((layS pe wh zF nf).1) (be) (pl) (nu) (N9) hM h9) cw_M_107 [0, 1, 2, 3, 4, 5, 6, 7, 8, 9, 10, 11, 12, 13] [] [0, 1, 2, 3, 4, 5, 6, 7, 8, 9, 10, 11, 12, 13] (qr := 0) rfl rfl rfl (of_decide_eq_true rfl) rfl (of_decide_eq_true rfl) rfl (of_decide_eq_true rfl) rfl (of_decide_eq_true rfl) rfl ⟨rfl, rfl⟩ ⟨by decide, by decide⟩ ⟨by decide, by decide⟩ rfl rfl (of_decide_eq_true rfl) d_M_offset_32 rfl ?_
    refine V.cv C (y := bI (decide (True) = true)) (bI_c decide_eq_true_iff.symm) ?_
    refine V.put C (n := 38) (q0 := 0) (k0 := 10) (ws' := (ModW w cI nf se pe ra ga of ti fm tm (decide (True)) sz tx (fun _ => 0) ro ((layS pe wh zF nf).1) be pl nu)) clOk_6 rfl (by decide) rfl rfl fl_M_66 (bI_nar _) (bI_fit _) (of_decide_eq_true rfl) rfl d_M_offset_35 rfl ?_
    refine V.aload_n C (n := 39) (j := 0) d_M_offset_38 rfl rfl rfl ?_
    refine V.callV_v C (n := 42) (ws2 := fun _ => (ModW w cI nf se pe ra ga of ti fm tm (decide (True)) sz tx (fun _ => 0) ro ((layS pe wh zF nf).1) be pl nu)) (c_M_clearLoad l D cI cC E (w) (nf) (se) (pe) (ra) (ga) (of) (ti) (fm) (tm) (decide (True)) (sz) (tx) (fun _ => 0) (ro) ((layS pe wh zF nf).1) (be) (pl) (nu) (fun _ _ => rfl)) cw_M_104 [0, 1, 2, 3, 4, 5, 6, 7, 8, 9, 10, 11, 12, 13] [] [0, 1, 2, 3, 4, 5, 6, 7, 8, 9, 10, 11, 12, 13] (qr := 0) rfl rfl rfl (of_decide_eq_true rfl) rfl (of_decide_eq_true rfl) rfl (of_decide_eq_true rfl) (fun _ => rfl) (fun _ => of_decide_eq_true rfl) rfl ⟨rfl, rfl⟩ ⟨by decide, by decide⟩ ⟨by decide, by decide⟩ rfl rfl (of_decide_eq_true rfl) d_M_offset_39 rfl (fun _ _ => ?_)
    refine V.iconst C (v := nI 0) (n := 43) d_M_offset_42 (by decide) rfl ?_
    refine V.istore C (n := 45) (lv' := [(0, .ref (w 0)), (1, .long (jI (((N9 : Nat) : Int)))), (3, .int (nI ((layS pe wh zF nf).2.2))), (4, .int (nI 0))]) [1, 2, 3, 0] d_M_offset_43 (by decide) rfl rfl ?_
    refine V.ind2 C (fun (i : Nat) (b : Nat → Nat) => (ModW w cI nf se pe ra ga of ti fm tm (decide (True)) sz tx b ro ((layS pe wh zF nf).1) be pl nu)) (fun (i : Nat) (b : Nat → Nat) => [(0, .ref (w 0)), (1, .long (jI (((N9 : Nat) : Int)))), (3, .int (nI ((layS pe wh zF nf).2.2))), (4, .int (nI i))]) (fun (i : Nat) (b : Nat → Nat) => (i ≤ (layS pe wh zF nf).2.2) ∧ (b = BG zF (fun q => of ((layS pe wh zF nf).1 q)) i)) (fun (i : Nat) (b : Nat → Nat) => (layS pe wh zF nf).2.2 - i) (0) (fun _ => 0) ⟨Nat.zero_le _, rfl⟩ rfl rfl ?_
    rintro i b ⟨hi, hb⟩ ih45
    try dsimp only
    refine V.iload C (n := 47) (j := 3) d_M_offset_45 rfl rfl ?_
    refine V.iload_n C (n := 48) (j := 2) d_M_offset_47 rfl rfl rfl ?_
    refine V.icmpn_ge C (tgt := 81) (n := 51) (by omega) (by omega) d_M_offset_48 (by decide) rfl (fun c48_2 => ?_) (fun c48_2 => ?_)
    · refine V.aload_n C (n := 82) (j := 0) d_M_offset_81 rfl rfl rfl ?_
      refine V.callV_i C (n := 85) (ws' := (ModW w cI nf se pe ra ga of ti fm tm (decide (True)) sz tx b ro ((layS pe wh zF nf).1) be pl nu)) (c_M_peak l D cI cC E (w) (nf) (se) (pe) (ra) (ga) (of) (ti) (fm) (tm) (decide (True)) (sz) (tx) (b) (ro) ((layS pe wh zF nf).1) (be) (pl) (nu) (fun j => Nat.le_trans (by rw [hb]; exact BG_le _ _ _ j) (by omega))) cw_M_91 [0, 1, 2, 3, 4, 5, 6, 7, 8, 9, 10, 11, 12, 13] [] [0, 1, 2, 3, 4, 5, 6, 7, 8, 9, 10, 11, 12, 13] (qr := 0) rfl rfl rfl (of_decide_eq_true rfl) rfl (of_decide_eq_true rfl) rfl (of_decide_eq_true rfl) rfl (of_decide_eq_true rfl) rfl ⟨rfl, rfl⟩ ⟨by decide, by decide⟩ ⟨by decide, by decide⟩ rfl rfl (of_decide_eq_true rfl) d_M_offset_82 rfl ?_
      exact V.iretE C hr d_M_offset_85 (b, ro, be) (⟨by rw [hb]; exact BG_z _ _ _, hbe⟩) (by rw [hb, show i = (layS pe wh zF nf).2.2 by omega]) (rfl)
    · refine V.aload_n C (n := 52) (j := 0) d_M_offset_51 rfl rfl rfl ?_
      refine V.aload_n C (n := 53) (j := 0) d_M_offset_52 rfl rfl rfl ?_
      refine V.get C (n := 56) (q0 := 0) (k0 := 15) clOk_6 rfl (by decide) rfl fl_M_43 rfl d_M_offset_53 rfl ?_
      refine V.iload C (n := 58) (j := 3) d_M_offset_56 rfl rfl ?_
      refine V.iaload_n C (n := 59) (q0 := 12) (t0 := 0) (i := i) rfl rfl (by omega) (by decide) d_M_offset_58 rfl ?_
      have b_1 := hW9 (i)
      refine V.aload_n C (n := 60) (j := 0) d_M_offset_59 rfl rfl rfl ?_
      refine V.get C (n := 63) (q0 := 0) (k0 := 6) clOk_6 rfl (by decide) rfl fl_M_22 rfl d_M_offset_60 rfl ?_
      refine V.aload_n C (n := 64) (j := 0) d_M_offset_63 rfl rfl rfl ?_
      refine V.get C (n := 67) (q0 := 0) (k0 := 15) clOk_6 rfl (by decide) rfl fl_M_43 rfl d_M_offset_64 rfl ?_
      refine V.iload C (n := 69) (j := 3) d_M_offset_67 rfl rfl ?_
      refine V.iaload_n C (n := 70) (q0 := 12) (t0 := 0) (i := i) rfl rfl (by omega) (by decide) d_M_offset_69 rfl ?_
      have b_2 := hW9 (i)
      refine V.iaload_n C (n := 71) (q0 := 5) (t0 := 0) (i := ((layS pe wh zF nf).1) i) rfl rfl (by omega) (by decide) d_M_offset_70 rfl ?_
      have b_3 := hof (((layS pe wh zF nf).1) i)
      refine V.iconst C (v := nI 1) (n := 72) d_M_offset_71 (by decide) rfl ?_
      refine V.callV_v C (n := 75) (ws2 := fun _ => (ModW w cI nf se pe ra ga of ti fm tm (decide (True)) sz tx (addH (pe (((layS pe wh zF nf).1) i)) (of (((layS pe wh zF nf).1) i)) b 420) ro ((layS pe wh zF nf).1) be pl nu)) (c_M_begin_up l D cI cC E (w) (nf) (se) (pe) (ra) (ga) (of) (ti) (fm) (tm) (decide (True)) (sz) (tx) (b) (ro) ((layS pe wh zF nf).1) (be) (pl) (nu) (((layS pe wh zF nf).1) i) (of (((layS pe wh zF nf).1) i)) hM (by have h7 := hfs i (by omega); have h6 := hp1 ((layS pe wh zF nf).1 i) h7.2.1 (by omega); omega) (hof9 _) (fun j => Nat.le_trans (by rw [hb]; exact BG_le _ _ _ j) (by omega))) cw_M_87 [0, 1, 2, 3, 4, 5, 6, 7, 8, 9, 10, 11, 12, 13] [] [0, 1, 2, 3, 4, 5, 6, 7, 8, 9, 10, 11, 12, 13] (qr := 0) rfl rfl rfl (of_decide_eq_true rfl) rfl (of_decide_eq_true rfl) rfl (of_decide_eq_true rfl) (fun _ => rfl) (fun _ => of_decide_eq_true rfl) rfl ⟨rfl, rfl⟩ ⟨by decide, by decide⟩ ⟨by decide, by decide⟩ rfl rfl (of_decide_eq_true rfl) d_M_offset_72 rfl (fun _ _ => ?_)
      refine V.iinc C (n := 78) (j := 3) (v := nI (i + 1)) (lv' := [(0, .ref (w 0)), (1, .long (jI (((N9 : Nat) : Int)))), (3, .int (nI ((layS pe wh zF nf).2.2))), (4, .int (nI (i + 1)))]) [1, 2, 3, 0] d_M_offset_75 rfl (nI_inc (i) 1) (by decide) rfl rfl ?_
      refine V.goto C (n := 45) d_M_offset_78 (by decide) ?_
      exact ih45 (i + 1) (addH (pe (((layS pe wh zF nf).1) i)) (of (((layS pe wh zF nf).1) i)) b 420) ⟨by omega, by have h8 := hsr i (by omega); have h7 := hfs i (by omega); have h6 := hp1 ((layS pe wh zF nf).1 i) h7.2.1 (by omega); rw [hb, ← show max 1 (zF i) = pe ((layS pe wh zF nf).1 i) by omega]; try rfl⟩ (by omega)
  · exfalso; omega
set_option maxHeartbeats 4000000 in
set_option maxRecDepth 100000 in
theorem c_M_offset_n (l : Launch) (D : va_G) (cI cC : ClassId) (E : Nat → Nat) (w : Nat → Nat) (nf : Nat) (se pe ra ga of ti fm tm : Nat → Nat) (ex : Bool) (sz : Nat) (tx ld : Nat → Nat) (ro : Nat → Int) (wh be : Nat → Nat) (pl nu : Nat) (sr nx0 pb0 br0 : Nat → Nat) (N9 : Nat) (hM : MOK nf se pe ra ga of ti fm tm sz tx) (h9 : N9 ≤ 3000) (hwh : ∀ j, wh j ≤ 40) (hbe : ∀ j, be j ≤ 60) (hz : ∀ u, 420 ≤ u → ld u = 0) (hn1 : 1 ≤ (layS pe wh zF nf).2.2) (hsr : ∀ i, i < (layS pe wh zF nf).2.2 → sr i = pe ((layS pe wh zF nf).1 i)) (h60 : ∀ j, sr j ≤ 60) (hnx : ∀ j, nx0 j ≤ 60) (hpb : ∀ j, pb0 j ≤ 41) (hbr0 : ∀ j, br0 j ≤ 60) (hn0 : nx0 0 = 0) (hp0 : pb0 0 = 0) : CE l D (TY cI cC E) m_M_offset (rmD 3) [.ref (w 0), .long (jI (((N9 : Nat) : Int)))] ((ModW w cI nf se pe ra ga of ti fm tm ex sz tx ld ro wh be pl nu)) (nI (mxA (BG sr (fun q => (offM (itO sr (layS pe wh zF nf).2.2 (nx0, pb0, br0, 0, 41) N9) (layS pe wh zF nf).1 of (layS pe wh zF nf).2.2) ((layS pe wh zF nf).1 q)) (layS pe wh zF nf).2.2) 420)) (fun u : (Nat → Nat) × (Nat → Int) × (Nat → Nat) => (∀ t, 420 ≤ t → u.1 t = 0) ∧ ∀ j, u.2.2 j ≤ 60) (fun u => (ModW w cI nf se pe ra ga ((offM (itO sr (layS pe wh zF nf).2.2 (nx0, pb0, br0, 0, 41) N9) (layS pe wh zF nf).1 of (layS pe wh zF nf).2.2)) ti fm tm ((decide ((itO sr (layS pe wh zF nf).2.2 (nx0, pb0, br0, 0, 41) N9).2.2.2.1 < 0))) sz tx u.1 u.2.1 ((layS pe wh zF nf).1) u.2.2 pl nu)) := by
  obtain ⟨hnf, hse, hpe, hp1, hra, hga, hof, hti, hfm, htm, hsz, htx⟩ := id hM
  have hle := layS_le pe wh zF nf
  have hfs := layS_fs (pd := pe) (fr := wh) (sr := zF) nf
  have hW9 := layS_fr (pd := pe) (sr := zF) hwh hnf
  have hs0 : 1 ≤ sr 0 := by have h7 := hfs 0 (by omega); have h6 := hp1 ((layS pe wh zF nf).1 0) h7.2.1 (by omega); have h5 := hsr 0 (by omega); omega
  have hFI : SeaI sr (layS pe wh zF nf).2.2 (itO sr (layS pe wh zF nf).2.2 (nx0, pb0, br0, 0, 41) N9) := itO_I (by omega) ⟨⟨h60, hnx, hpb, Nat.le_refl 41⟩, hbr0, by show (-1 : Int) ≤ 0; decide, by show (0 : Int) < _; omega, fun j hj => absurd hj (by show ¬ (j : Int) < 0; omega), fun _ => by show nx0 0 < sr 0; omega⟩ N9
  have hof9 := offM_le (wh := (layS pe wh zF nf).1) (n := (layS pe wh zF nf).2.2) hof hFI.2.1
  refine CE.of (by decide +kernel) (of_decide_eq_true rfl) ?_
  intro p e s m args below meth c C hr
  refine V.aload_n C (n := 1) (j := 0) d_M_offset_0 rfl rfl rfl ?_
  refine V.iconst C (v := nI 0) (n := 2) d_M_offset_1 (by decide) rfl ?_
  refine V.put C (n := 5) (q0 := 0) (k0 := 0) (ws' := (ModW w cI nf se pe ra ga of ti fm tm ex sz tx ld ro wh be pl nu)) clOk_6 rfl (by decide) rfl rfl fl_M_49 rfl rfl (of_decide_eq_true rfl) rfl d_M_offset_2 rfl ?_
  refine V.lload_n C (n := 6) (j := 1) d_M_offset_5 rfl rfl rfl ?_
  refine V.lconst C (v := jI 0) (n := 7) d_M_offset_6 (by decide) rfl ?_
  refine V.ldc2 C (n := 10) l2_M_99 d_M_offset_7 rfl ?_
  refine V.callS_i C (n := 13) (ws' := (ModW w cI nf se pe ra ga of ti fm tm ex sz tx ld ro wh be pl nu)) (c_M_isIn l D cI cC E (((N9 : Nat) : Int)) (0) (3000) (by first | omega | assumption) (by first | omega | assumption) (by first | omega | assumption)) cw_M_56 [] [0, 1, 2, 3, 4, 5, 6, 7, 8, 9, 10, 11, 12, 13] [0, 1, 2, 3, 4, 5, 6, 7, 8, 9, 10, 11, 12, 13] rfl (of_decide_eq_true rfl) rfl (of_decide_eq_true rfl) rfl (of_decide_eq_true rfl) rfl (of_decide_eq_true rfl) rfl ⟨rfl, rfl⟩ ⟨by decide, by decide⟩ ⟨by decide, by decide⟩ rfl rfl (of_decide_eq_true rfl) d_M_offset_10 rfl ?_
  refine V.ifb_ne C (tgt := 19) (n := 16) d_M_offset_13 (by decide) rfl (fun c13_1 => ?_) (fun c13_1 => ?_)
  · refine V.aload_n C (n := 20) (j := 0) d_M_offset_19 rfl rfl rfl ?_
    refine V.callV_i C (n := 23) (ws' := (ModW w cI nf se pe ra ga of ti fm tm ex sz tx ld ro ((layS pe wh zF nf).1) be pl nu)) (c_M_findCounted l D cI cC E (w) (nf) (se) (pe) (ra) (ga) (of) (ti) (fm) (tm) (ex) (sz) (tx) (ld) (ro) (wh) (be) (pl) (nu) hM) cw_M_101 [0, 1, 2, 3, 4, 5, 6, 7, 8, 9, 10, 11, 12, 13] [] [0, 1, 2, 3, 4, 5, 6, 7, 8, 9, 10, 11, 12, 13] (qr := 0) rfl rfl rfl (of_decide_eq_true rfl) rfl (of_decide_eq_true rfl) rfl (of_decide_eq_true rfl) rfl (of_decide_eq_true rfl) rfl ⟨rfl, rfl⟩ ⟨by decide, by decide⟩ ⟨by decide, by decide⟩ rfl rfl (of_decide_eq_true rfl) d_M_offset_20 rfl ?_
    refine V.istore_n C (n := 24) (lv' := [(0, .ref (w 0)), (1, .long (jI (((N9 : Nat) : Int)))), (3, .int (nI ((layS pe wh zF nf).2.2)))]) [1, 2, 0] d_M_offset_23 rfl (by decide) rfl rfl ?_
    refine V.aload_n C (n := 25) (j := 0) d_M_offset_24 rfl rfl rfl ?_
    refine V.callV_v C (n := 28) (ws2 := fun _ => (ModW w cI nf se pe ra ga of ti fm tm ex sz tx (fun _ => 0) ro ((layS pe wh zF nf).1) be pl nu)) (c_M_clearLoad l D cI cC E (w) (nf) (se) (pe) (ra) (ga) (of) (ti) (fm) (tm) (ex) (sz) (tx) (ld) (ro) ((layS pe wh zF nf).1) (be) (pl) (nu) hz) cw_M_104 [0, 1, 2, 3, 4, 5, 6, 7, 8, 9, 10, 11, 12, 13] [] [0, 1, 2, 3, 4, 5, 6, 7, 8, 9, 10, 11, 12, 13] (qr := 0) rfl rfl rfl (of_decide_eq_true rfl) rfl (of_decide_eq_true rfl) rfl (of_decide_eq_true rfl) (fun _ => rfl) (fun _ => of_decide_eq_true rfl) rfl ⟨rfl, rfl⟩ ⟨by decide, by decide⟩ ⟨by decide, by decide⟩ rfl rfl (of_decide_eq_true rfl) d_M_offset_25 rfl (fun _ _ => ?_)
    refine V.aload_n C (n := 29) (j := 0) d_M_offset_28 rfl rfl rfl ?_
    refine V.aload_n C (n := 30) (j := 0) d_M_offset_29 rfl rfl rfl ?_
    refine V.iload_n C (n := 31) (j := 2) d_M_offset_30 rfl rfl rfl ?_
    refine V.lload_n C (n := 32) (j := 1) d_M_offset_31 rfl rfl rfl ?_
    refine V.callV_e C (n := 35) (ws2 := fun u_1 => (ModW w cI nf se pe ra ga (offM (itO sr ((layS pe wh zF nf).2.2) (nx0, pb0, br0, 0, 41) N9) ((layS pe wh zF nf).1) of ((layS pe wh zF nf).2.2)) ti fm tm ex sz tx u_1.1 u_1.2.1 ((layS pe wh zF nf).1) u_1.2.2 pl nu)) (c_M_search l D cI cC E (w) (nf) (se) (pe) (ra) (ga) (of) (ti) (fm) (tm) (ex) (sz) (tx) (fun _ => 0) (ro) ((layS pe wh zF nf).1) (be) (pl) (nu) ((layS pe wh zF nf).2.2) (sr) (nx0) (pb0) (br0) (N9) hM h9 ⟨hn1, by omega⟩ hW9 (fun i hi => ⟨hsr i hi, by have h7 := hfs i hi; exact hp1 ((layS pe wh zF nf).1 i) h7.2.1 (by omega)⟩) h60 hbe hnx hpb hn0 hp0) cw_M_107 [0, 1, 2, 3, 4, 5, 6, 7, 8, 9, 10, 11, 12, 13] [] [0, 1, 2, 3, 4, 5, 6, 7, 8, 9, 10, 11, 12, 13] (qr := 0) rfl rfl rfl (of_decide_eq_true rfl) rfl (of_decide_eq_true rfl) rfl (of_decide_eq_true rfl) (fun _ => rfl) (fun _ => of_decide_eq_true rfl) rfl ⟨rfl, rfl⟩ ⟨by decide, by decide⟩ ⟨by decide, by decide⟩ rfl rfl (of_decide_eq_true rfl) d_M_offset_32 rfl (fun u_1 hu_1 => ?_)
    refine V.cv C (y := bI (decide ((itO sr ((layS pe wh zF nf).2.2) (nx0, pb0, br0, 0, 41) N9).2.2.2.1 < 0) = true)) (bI_c decide_eq_true_iff.symm) ?_
    refine V.put C (n := 38) (q0 := 0) (k0 := 10) (ws' := (ModW w cI nf se pe ra ga (offM (itO sr ((layS pe wh zF nf).2.2) (nx0, pb0, br0, 0, 41) N9) ((layS pe wh zF nf).1) of ((layS pe wh zF nf).2.2)) ti fm tm (decide ((itO sr ((layS pe wh zF nf).2.2) (nx0, pb0, br0, 0, 41) N9).2.2.2.1 < 0)) sz tx u_1.1 u_1.2.1 ((layS pe wh zF nf).1) u_1.2.2 pl nu)) clOk_6 rfl (by decide) rfl rfl fl_M_66 (bI_nar _) (bI_fit _) (of_decide_eq_true rfl) rfl d_M_offset_35 rfl ?_
    refine V.aload_n C (n := 39) (j := 0) d_M_offset_38 rfl rfl rfl ?_
    refine V.callV_v C (n := 42) (ws2 := fun _ => (ModW w cI nf se pe ra ga (offM (itO sr ((layS pe wh zF nf).2.2) (nx0, pb0, br0, 0, 41) N9) ((layS pe wh zF nf).1) of ((layS pe wh zF nf).2.2)) ti fm tm (decide ((itO sr ((layS pe wh zF nf).2.2) (nx0, pb0, br0, 0, 41) N9).2.2.2.1 < 0)) sz tx (fun _ => 0) u_1.2.1 ((layS pe wh zF nf).1) u_1.2.2 pl nu)) (c_M_clearLoad l D cI cC E (w) (nf) (se) (pe) (ra) (ga) (offM (itO sr ((layS pe wh zF nf).2.2) (nx0, pb0, br0, 0, 41) N9) ((layS pe wh zF nf).1) of ((layS pe wh zF nf).2.2)) (ti) (fm) (tm) (decide ((itO sr ((layS pe wh zF nf).2.2) (nx0, pb0, br0, 0, 41) N9).2.2.2.1 < 0)) (sz) (tx) (u_1.1) (u_1.2.1) ((layS pe wh zF nf).1) (u_1.2.2) (pl) (nu) hu_1.1) cw_M_104 [0, 1, 2, 3, 4, 5, 6, 7, 8, 9, 10, 11, 12, 13] [] [0, 1, 2, 3, 4, 5, 6, 7, 8, 9, 10, 11, 12, 13] (qr := 0) rfl rfl rfl (of_decide_eq_true rfl) rfl (of_decide_eq_true rfl) rfl (of_decide_eq_true rfl) (fun _ => rfl) (fun _ => of_decide_eq_true rfl) rfl ⟨rfl, rfl⟩ ⟨by decide, by decide⟩ ⟨by decide, by decide⟩ rfl rfl (of_decide_eq_true rfl) d_M_offset_39 rfl (fun _ _ => ?_)
    refine V.iconst C (v := nI 0) (n := 43) d_M_offset_42 (by decide) rfl ?_
    refine V.istore C (n := 45) (lv' := [(0, .ref (w 0)), (1, .long (jI (((N9 : Nat) : Int)))), (3, .int (nI ((layS pe wh zF nf).2.2))), (4, .int (nI 0))]) [1, 2, 3, 0] d_M_offset_43 (by decide) rfl rfl ?_
    refine V.ind2 C (fun (i : Nat) (b : Nat → Nat) => (ModW w cI nf se pe ra ga (offM (itO sr ((layS pe wh zF nf).2.2) (nx0, pb0, br0, 0, 41) N9) ((layS pe wh zF nf).1) of ((layS pe wh zF nf).2.2)) ti fm tm (decide ((itO sr ((layS pe wh zF nf).2.2) (nx0, pb0, br0, 0, 41) N9).2.2.2.1 < 0)) sz tx b u_1.2.1 ((layS pe wh zF nf).1) u_1.2.2 pl nu)) (fun (i : Nat) (b : Nat → Nat) => [(0, .ref (w 0)), (1, .long (jI (((N9 : Nat) : Int)))), (3, .int (nI ((layS pe wh zF nf).2.2))), (4, .int (nI i))]) (fun (i : Nat) (b : Nat → Nat) => (i ≤ (layS pe wh zF nf).2.2) ∧ (b = BG sr (fun q => (offM (itO sr (layS pe wh zF nf).2.2 (nx0, pb0, br0, 0, 41) N9) (layS pe wh zF nf).1 of (layS pe wh zF nf).2.2) ((layS pe wh zF nf).1 q)) i)) (fun (i : Nat) (b : Nat → Nat) => (layS pe wh zF nf).2.2 - i) (0) (fun _ => 0) ⟨Nat.zero_le _, rfl⟩ rfl rfl ?_
    rintro i b ⟨hi, hb⟩ ih45
    try dsimp only
    refine V.iload C (n := 47) (j := 3) d_M_offset_45 rfl rfl ?_
    refine V.iload_n C (n := 48) (j := 2) d_M_offset_47 rfl rfl rfl ?_
    refine V.icmpn_ge C (tgt := 81) (n := 51) (by omega) (by omega) d_M_offset_48 (by decide) rfl (fun c48_2 => ?_) (fun c48_2 => ?_)
    · refine V.aload_n C (n := 82) (j := 0) d_M_offset_81 rfl rfl rfl ?_
      refine V.callV_i C (n := 85) (ws' := (ModW w cI nf se pe ra ga (offM (itO sr ((layS pe wh zF nf).2.2) (nx0, pb0, br0, 0, 41) N9) ((layS pe wh zF nf).1) of ((layS pe wh zF nf).2.2)) ti fm tm (decide ((itO sr ((layS pe wh zF nf).2.2) (nx0, pb0, br0, 0, 41) N9).2.2.2.1 < 0)) sz tx b u_1.2.1 ((layS pe wh zF nf).1) u_1.2.2 pl nu)) (c_M_peak l D cI cC E (w) (nf) (se) (pe) (ra) (ga) (offM (itO sr ((layS pe wh zF nf).2.2) (nx0, pb0, br0, 0, 41) N9) ((layS pe wh zF nf).1) of ((layS pe wh zF nf).2.2)) (ti) (fm) (tm) (decide ((itO sr ((layS pe wh zF nf).2.2) (nx0, pb0, br0, 0, 41) N9).2.2.2.1 < 0)) (sz) (tx) (b) (u_1.2.1) ((layS pe wh zF nf).1) (u_1.2.2) (pl) (nu) (fun j => Nat.le_trans (by rw [hb]; exact BG_le _ _ _ j) (by omega))) cw_M_91 [0, 1, 2, 3, 4, 5, 6, 7, 8, 9, 10, 11, 12, 13] [] [0, 1, 2, 3, 4, 5, 6, 7, 8, 9, 10, 11, 12, 13] (qr := 0) rfl rfl rfl (of_decide_eq_true rfl) rfl (of_decide_eq_true rfl) rfl (of_decide_eq_true rfl) rfl (of_decide_eq_true rfl) rfl ⟨rfl, rfl⟩ ⟨by decide, by decide⟩ ⟨by decide, by decide⟩ rfl rfl (of_decide_eq_true rfl) d_M_offset_82 rfl ?_
      exact V.iretE C hr d_M_offset_85 (b, u_1.2.1, u_1.2.2) (⟨by rw [hb]; exact BG_z _ _ _, hu_1.2⟩) (by rw [hb, show i = (layS pe wh zF nf).2.2 by omega]) (rfl)
    · refine V.aload_n C (n := 52) (j := 0) d_M_offset_51 rfl rfl rfl ?_
      refine V.aload_n C (n := 53) (j := 0) d_M_offset_52 rfl rfl rfl ?_
      refine V.get C (n := 56) (q0 := 0) (k0 := 15) clOk_6 rfl (by decide) rfl fl_M_43 rfl d_M_offset_53 rfl ?_
      refine V.iload C (n := 58) (j := 3) d_M_offset_56 rfl rfl ?_
      refine V.iaload_n C (n := 59) (q0 := 12) (t0 := 0) (i := i) rfl rfl (by omega) (by decide) d_M_offset_58 rfl ?_
      have b_2 := hW9 (i)
      refine V.aload_n C (n := 60) (j := 0) d_M_offset_59 rfl rfl rfl ?_
      refine V.get C (n := 63) (q0 := 0) (k0 := 6) clOk_6 rfl (by decide) rfl fl_M_22 rfl d_M_offset_60 rfl ?_
      refine V.aload_n C (n := 64) (j := 0) d_M_offset_63 rfl rfl rfl ?_
      refine V.get C (n := 67) (q0 := 0) (k0 := 15) clOk_6 rfl (by decide) rfl fl_M_43 rfl d_M_offset_64 rfl ?_
      refine V.iload C (n := 69) (j := 3) d_M_offset_67 rfl rfl ?_
      refine V.iaload_n C (n := 70) (q0 := 12) (t0 := 0) (i := i) rfl rfl (by omega) (by decide) d_M_offset_69 rfl ?_
      have b_3 := hW9 (i)
      refine V.iaload_n C (n := 71) (q0 := 5) (t0 := 0) (i := ((layS pe wh zF nf).1) i) rfl rfl (by omega) (by decide) d_M_offset_70 rfl ?_
      have b_4 := True.intro
      refine V.iconst C (v := nI 1) (n := 72) d_M_offset_71 (by decide) rfl ?_
      refine V.callV_v C (n := 75) (ws2 := fun _ => (ModW w cI nf se pe ra ga (offM (itO sr ((layS pe wh zF nf).2.2) (nx0, pb0, br0, 0, 41) N9) ((layS pe wh zF nf).1) of ((layS pe wh zF nf).2.2)) ti fm tm (decide ((itO sr ((layS pe wh zF nf).2.2) (nx0, pb0, br0, 0, 41) N9).2.2.2.1 < 0)) sz tx (addH (pe (((layS pe wh zF nf).1) i)) ((offM (itO sr ((layS pe wh zF nf).2.2) (nx0, pb0, br0, 0, 41) N9) ((layS pe wh zF nf).1) of ((layS pe wh zF nf).2.2)) (((layS pe wh zF nf).1) i)) b 420) u_1.2.1 ((layS pe wh zF nf).1) u_1.2.2 pl nu)) (c_M_begin_up l D cI cC E (w) (nf) (se) (pe) (ra) (ga) (offM (itO sr ((layS pe wh zF nf).2.2) (nx0, pb0, br0, 0, 41) N9) ((layS pe wh zF nf).1) of ((layS pe wh zF nf).2.2)) (ti) (fm) (tm) (decide ((itO sr ((layS pe wh zF nf).2.2) (nx0, pb0, br0, 0, 41) N9).2.2.2.1 < 0)) (sz) (tx) (b) (u_1.2.1) ((layS pe wh zF nf).1) (u_1.2.2) (pl) (nu) (((layS pe wh zF nf).1) i) ((offM (itO sr ((layS pe wh zF nf).2.2) (nx0, pb0, br0, 0, 41) N9) ((layS pe wh zF nf).1) of ((layS pe wh zF nf).2.2)) (((layS pe wh zF nf).1) i)) (MOK_of hM hof9) (by have h7 := hfs i (by omega); have h6 := hp1 ((layS pe wh zF nf).1 i) h7.2.1 (by omega); omega) (hof9 _) (fun j => Nat.le_trans (by rw [hb]; exact BG_le _ _ _ j) (by omega))) cw_M_87 [0, 1, 2, 3, 4, 5, 6, 7, 8, 9, 10, 11, 12, 13] [] [0, 1, 2, 3, 4, 5, 6, 7, 8, 9, 10, 11, 12, 13] (qr := 0) rfl rfl rfl (of_decide_eq_true rfl) rfl (of_decide_eq_true rfl) rfl (of_decide_eq_true rfl) (fun _ => rfl) (fun _ => of_decide_eq_true rfl) rfl ⟨rfl, rfl⟩ ⟨by decide, by decide⟩ ⟨by decide, by decide⟩ rfl rfl (of_decide_eq_true rfl) d_M_offset_72 rfl (fun _ _ => ?_)
      refine V.iinc C (n := 78) (j := 3) (v := nI (i + 1)) (lv' := [(0, .ref (w 0)), (1, .long (jI (((N9 : Nat) : Int)))), (3, .int (nI ((layS pe wh zF nf).2.2))), (4, .int (nI (i + 1)))]) [1, 2, 3, 0] d_M_offset_75 rfl (nI_inc (i) 1) (by decide) rfl rfl ?_
      refine V.goto C (n := 45) d_M_offset_78 (by decide) ?_
      exact ih45 (i + 1) (addH (pe (((layS pe wh zF nf).1) i)) ((offM (itO sr ((layS pe wh zF nf).2.2) (nx0, pb0, br0, 0, 41) N9) ((layS pe wh zF nf).1) of ((layS pe wh zF nf).2.2)) (((layS pe wh zF nf).1) i)) b 420) ⟨by omega, by have h8 := hsr i (by omega); have h7 := hfs i (by omega); have h6 := hp1 ((layS pe wh zF nf).1 i) h7.2.1 (by omega); rw [hb, ← show max 1 (sr i) = pe ((layS pe wh zF nf).1 i) by omega]; try rfl⟩ (by omega)
  · exfalso; omega
