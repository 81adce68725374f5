set_option maxHeartbeats 4000000 in
set_option maxRecDepth 100000 in
theorem c_M_takeFrames (l : Launch) (D : va_G) (cI cC : ClassId) (E : Nat → Nat) (w : Nat → Nat) (nf : Nat) (se pe ra ga of ti fm tm : Nat → Nat) (ex : Bool) (sz : Nat) (tx ld : Nat → Nat) (ro : Nat → Int) (wh be : Nat → Nat) (pl nu : Nat) (n : Nat) (hn : n ≤ 40) : CV l D (TY cI cC E) m_M_takeFrames (rmD 0) [.ref (w 0), .int (nI n)] (ModW w cI nf se pe ra ga of ti fm tm ex sz tx ld ro wh be pl nu) (ModW w cI n (cpR se n) (cpR pe n) (cpR ra n) (cpR ga n) (zrR of n) (cpT ti n 0) fm tm false sz tx ld ro wh be pl nu) := by
  refine CN.of (by decide +kernel) (of_decide_eq_true rfl) ?_
  intro p e s m args below meth c C hr hin
  refine V.aload_n C (n := 1) (j := 0) d_M_takeFrames_0 rfl rfl rfl ?_
  refine V.iload_n C (n := 2) (j := 1) d_M_takeFrames_1 rfl rfl rfl ?_
  refine V.put C (n := 5) (q0 := 0) (k0 := 1) (ws' := (ModW w cI n se pe ra ga of ti fm tm ex sz tx ld ro wh be pl nu)) clOk_6 rfl (by decide) rfl rfl fl_M_53 rfl rfl (of_decide_eq_true rfl) rfl d_M_takeFrames_2 rfl ?_
  refine V.iconst C (v := nI 1) (n := 6) d_M_takeFrames_5 (by decide) rfl ?_
  refine V.istore_n C (n := 7) (lv' := [(0, .ref (w 0)), (1, .int (nI n)), (2, .int (nI 1))]) [1, 2, 0] d_M_takeFrames_6 rfl (by decide) rfl rfl ?_
  refine V.lsub C [0, 1, 2] (lv' := [(0, .ref (w 0)), (1, .int (nI n)), (2, .int (nI 1))]) rfl ?_
  refine V.ind7 C (fun (j : Nat) (s9 : Nat → Nat) (p9 : Nat → Nat) (r9 : Nat → Nat) (g9 : Nat → Nat) (o9 : Nat → Nat) (t9 : Nat → Nat) => (ModW w cI n s9 p9 r9 g9 o9 t9 fm tm ex sz tx ld ro wh be pl nu)) (fun (j : Nat) (s9 : Nat → Nat) (p9 : Nat → Nat) (r9 : Nat → Nat) (g9 : Nat → Nat) (o9 : Nat → Nat) (t9 : Nat → Nat) => [(0, .ref (w 0)), (1, .int (nI n)), (2, .int (nI (j + 1)))]) (fun (j : Nat) (s9 : Nat → Nat) (p9 : Nat → Nat) (r9 : Nat → Nat) (g9 : Nat → Nat) (o9 : Nat → Nat) (t9 : Nat → Nat) => (j ≤ n) ∧ (s9 = cpR se j) ∧ (p9 = cpR pe j) ∧ (r9 = cpR ra j) ∧ (g9 = cpR ga j) ∧ (o9 = zrR of j) ∧ (t9 = cpT ti j 0)) (fun (j : Nat) (s9 : Nat → Nat) (p9 : Nat → Nat) (r9 : Nat → Nat) (g9 : Nat → Nat) (o9 : Nat → Nat) (t9 : Nat → Nat) => n - j) (0) (se) (pe) (ra) (ga) (of) (ti) ⟨by omega, (cpR_0 se).symm, (cpR_0 pe).symm, (cpR_0 ra).symm, (cpR_0 ga).symm, (zrR_0 of).symm, (cpT_0 ti).symm⟩ rfl rfl ?_
  rintro j s9 p9 r9 g9 o9 t9 ⟨hj, hs9, hp9, hr9, hg9, ho9, ht9⟩ ih7
  try dsimp only
  refine V.iload_n C (n := 8) (j := 2) d_M_takeFrames_7 rfl rfl rfl ?_
  refine V.iload_n C (n := 9) (j := 1) d_M_takeFrames_8 rfl rfl rfl ?_
  refine V.icmpn_gt C (tgt := 124) (n := 12) (by omega) (by omega) d_M_takeFrames_9 (by decide) rfl (fun c9_1 => ?_) (fun c9_1 => ?_)
  · refine V.aload_n C (n := 125) (j := 0) d_M_takeFrames_124 rfl rfl rfl ?_
    refine V.iconst C (v := nI 0) (n := 126) d_M_takeFrames_125 (by decide) rfl ?_
    refine V.cv C (y := bI (false = true)) (bI_0 (by decide)) ?_
    refine V.put C (n := 129) (q0 := 0) (k0 := 10) (ws' := (ModW w cI n s9 p9 r9 g9 o9 t9 fm tm false sz tx ld ro wh be pl nu)) clOk_6 rfl (by decide) rfl rfl fl_M_66 (bI_nar _) (bI_fit _) (of_decide_eq_true rfl) rfl d_M_takeFrames_126 rfl ?_
    exact V.vret C hr d_M_takeFrames_129 () (trivial) (by rw [hs9, hp9, hr9, hg9, ho9, ht9, show j = n by omega])
  · refine V.aload_n C (n := 13) (j := 0) d_M_takeFrames_12 rfl rfl rfl ?_
    refine V.get C (n := 16) (q0 := 0) (k0 := 2) clOk_6 rfl (by decide) rfl fl_M_7 rfl d_M_takeFrames_13 rfl ?_
    refine V.iload_n C (n := 17) (j := 2) d_M_takeFrames_16 rfl rfl rfl ?_
    refine V.aload_n C (n := 18) (j := 0) d_M_takeFrames_17 rfl rfl rfl ?_
    refine V.get C (n := 21) (q0 := 0) (k0 := 2) clOk_6 rfl (by decide) rfl fl_M_7 rfl d_M_takeFrames_18 rfl ?_
    refine V.bipush C (v := nI 41) (n := 23) d_M_takeFrames_21 (by decide) rfl ?_
    refine V.iload_n C (n := 24) (j := 2) d_M_takeFrames_23 rfl rfl rfl ?_
    refine V.iadd_n C (n := 25) d_M_takeFrames_24 rfl ?_
    refine V.iaload_n C (n := 26) (q0 := 1) (t0 := 0) (i := 41 + (j + 1)) rfl rfl (by omega) (by decide) d_M_takeFrames_25 rfl ?_
    have b_1 := True.intro
    refine V.iastore_n C (n := 27) (q0 := 1) (t0 := 0) (i := j + 1) (ws' := (ModW w cI n (updN s9 (j + 1) (s9 (41 + (j + 1)))) p9 r9 g9 o9 t9 fm tm ex sz tx ld ro wh be pl nu)) rfl rfl (by omega) (by decide) rfl d_M_takeFrames_26 rfl ?_
    refine V.aload_n C (n := 28) (j := 0) d_M_takeFrames_27 rfl rfl rfl ?_
    refine V.get C (n := 31) (q0 := 0) (k0 := 3) clOk_6 rfl (by decide) rfl fl_M_13 rfl d_M_takeFrames_28 rfl ?_
    refine V.iload_n C (n := 32) (j := 2) d_M_takeFrames_31 rfl rfl rfl ?_
    refine V.aload_n C (n := 33) (j := 0) d_M_takeFrames_32 rfl rfl rfl ?_
    refine V.get C (n := 36) (q0 := 0) (k0 := 3) clOk_6 rfl (by decide) rfl fl_M_13 rfl d_M_takeFrames_33 rfl ?_
    refine V.bipush C (v := nI 41) (n := 38) d_M_takeFrames_36 (by decide) rfl ?_
    refine V.iload_n C (n := 39) (j := 2) d_M_takeFrames_38 rfl rfl rfl ?_
    refine V.iadd_n C (n := 40) d_M_takeFrames_39 rfl ?_
    refine V.iaload_n C (n := 41) (q0 := 2) (t0 := 0) (i := 41 + (j + 1)) rfl rfl (by omega) (by decide) d_M_takeFrames_40 rfl ?_
    have b_2 := True.intro
    refine V.iastore_n C (n := 42) (q0 := 2) (t0 := 0) (i := j + 1) (ws' := (ModW w cI n (updN s9 (j + 1) (s9 (41 + (j + 1)))) (updN p9 (j + 1) (p9 (41 + (j + 1)))) r9 g9 o9 t9 fm tm ex sz tx ld ro wh be pl nu)) rfl rfl (by omega) (by decide) rfl d_M_takeFrames_41 rfl ?_
    refine V.aload_n C (n := 43) (j := 0) d_M_takeFrames_42 rfl rfl rfl ?_
    refine V.get C (n := 46) (q0 := 0) (k0 := 4) clOk_6 rfl (by decide) rfl fl_M_16 rfl d_M_takeFrames_43 rfl ?_
    refine V.iload_n C (n := 47) (j := 2) d_M_takeFrames_46 rfl rfl rfl ?_
    refine V.aload_n C (n := 48) (j := 0) d_M_takeFrames_47 rfl rfl rfl ?_
    refine V.get C (n := 51) (q0 := 0) (k0 := 4) clOk_6 rfl (by decide) rfl fl_M_16 rfl d_M_takeFrames_48 rfl ?_
    refine V.bipush C (v := nI 41) (n := 53) d_M_takeFrames_51 (by decide) rfl ?_
    refine V.iload_n C (n := 54) (j := 2) d_M_takeFrames_53 rfl rfl rfl ?_
    refine V.iadd_n C (n := 55) d_M_takeFrames_54 rfl ?_
    refine V.iaload_n C (n := 56) (q0 := 3) (t0 := 0) (i := 41 + (j + 1)) rfl rfl (by omega) (by decide) d_M_takeFrames_55 rfl ?_
    have b_3 := True.intro
    refine V.iastore_n C (n := 57) (q0 := 3) (t0 := 0) (i := j + 1) (ws' := (ModW w cI n (updN s9 (j + 1) (s9 (41 + (j + 1)))) (updN p9 (j + 1) (p9 (41 + (j + 1)))) (updN r9 (j + 1) (r9 (41 + (j + 1)))) g9 o9 t9 fm tm ex sz tx ld ro wh be pl nu)) rfl rfl (by omega) (by decide) rfl d_M_takeFrames_56 rfl ?_
    refine V.aload_n C (n := 58) (j := 0) d_M_takeFrames_57 rfl rfl rfl ?_
    refine V.get C (n := 61) (q0 := 0) (k0 := 5) clOk_6 rfl (by decide) rfl fl_M_19 rfl d_M_takeFrames_58 rfl ?_
    refine V.iload_n C (n := 62) (j := 2) d_M_takeFrames_61 rfl rfl rfl ?_
    refine V.aload_n C (n := 63) (j := 0) d_M_takeFrames_62 rfl rfl rfl ?_
    refine V.get C (n := 66) (q0 := 0) (k0 := 5) clOk_6 rfl (by decide) rfl fl_M_19 rfl d_M_takeFrames_63 rfl ?_
    refine V.bipush C (v := nI 41) (n := 68) d_M_takeFrames_66 (by decide) rfl ?_
    refine V.iload_n C (n := 69) (j := 2) d_M_takeFrames_68 rfl rfl rfl ?_
    refine V.iadd_n C (n := 70) d_M_takeFrames_69 rfl ?_
    refine V.iaload_n C (n := 71) (q0 := 4) (t0 := 0) (i := 41 + (j + 1)) rfl rfl (by omega) (by decide) d_M_takeFrames_70 rfl ?_
    have b_4 := True.intro
    refine V.iastore_n C (n := 72) (q0 := 4) (t0 := 0) (i := j + 1) (ws' := (ModW w cI n (updN s9 (j + 1) (s9 (41 + (j + 1)))) (updN p9 (j + 1) (p9 (41 + (j + 1)))) (updN r9 (j + 1) (r9 (41 + (j + 1)))) (updN g9 (j + 1) (g9 (41 + (j + 1)))) o9 t9 fm tm ex sz tx ld ro wh be pl nu)) rfl rfl (by omega) (by decide) rfl d_M_takeFrames_71 rfl ?_
    refine V.aload_n C (n := 73) (j := 0) d_M_takeFrames_72 rfl rfl rfl ?_
    refine V.get C (n := 76) (q0 := 0) (k0 := 6) clOk_6 rfl (by decide) rfl fl_M_22 rfl d_M_takeFrames_73 rfl ?_
    refine V.iload_n C (n := 77) (j := 2) d_M_takeFrames_76 rfl rfl rfl ?_
    refine V.iconst C (v := nI 0) (n := 78) d_M_takeFrames_77 (by decide) rfl ?_
    refine V.iastore_n C (n := 79) (q0 := 5) (t0 := 0) (i := j + 1) (ws' := (ModW w cI n (updN s9 (j + 1) (s9 (41 + (j + 1)))) (updN p9 (j + 1) (p9 (41 + (j + 1)))) (updN r9 (j + 1) (r9 (41 + (j + 1)))) (updN g9 (j + 1) (g9 (41 + (j + 1)))) (updN o9 (j + 1) 0) t9 fm tm ex sz tx ld ro wh be pl nu)) rfl rfl (by omega) (by decide) rfl d_M_takeFrames_78 rfl ?_
    refine V.iconst C (v := nI 1) (n := 80) d_M_takeFrames_79 (by decide) rfl ?_
    refine V.istore_n C (n := 81) (lv' := [(0, .ref (w 0)), (1, .int (nI n)), (2, .int (nI (j + 1))), (3, .int (nI 1))]) [1, 2, 3, 0] d_M_takeFrames_80 rfl (by decide) rfl rfl ?_
    refine V.ind2 C (fun (k : Nat) (tt : Nat → Nat) => (ModW w cI n (updN s9 (j + 1) (s9 (41 + (j + 1)))) (updN p9 (j + 1) (p9 (41 + (j + 1)))) (updN r9 (j + 1) (r9 (41 + (j + 1)))) (updN g9 (j + 1) (g9 (41 + (j + 1)))) (updN o9 (j + 1) 0) tt fm tm ex sz tx ld ro wh be pl nu)) (fun (k : Nat) (tt : Nat → Nat) => [(0, .ref (w 0)), (1, .int (nI n)), (2, .int (nI (j + 1))), (3, .int (nI (k + 1)))]) (fun (k : Nat) (tt : Nat → Nat) => (k ≤ 20) ∧ (tt = cpT ti j k)) (fun (k : Nat) (tt : Nat → Nat) => 20 - k) (0) (t9) ⟨by omega, ht9⟩ rfl rfl ?_
    rintro k tt ⟨hk, htt⟩ ih81
    try dsimp only
    refine V.iload_n C (n := 82) (j := 3) d_M_takeFrames_81 rfl rfl rfl ?_
    refine V.bipush C (v := nI 20) (n := 84) d_M_takeFrames_82 (by decide) rfl ?_
    refine V.icmpn_gt C (tgt := 118) (n := 87) (by omega) (by omega) d_M_takeFrames_84 (by decide) rfl (fun c84_2 => ?_) (fun c84_2 => ?_)
    · refine V.iinc C (n := 121) (j := 2) (v := nI (j + 1 + 1)) (lv' := [(0, .ref (w 0)), (1, .int (nI n)), (2, .int (nI (j + 1 + 1))), (3, .int (nI (k + 1)))]) [1, 2, 0, 3] d_M_takeFrames_118 rfl (nI_inc (j + 1) 1) (by decide) rfl rfl ?_
      refine V.goto C (n := 7) d_M_takeFrames_121 (by decide) ?_
      refine V.lsub C [0, 1, 2] (lv' := [(0, .ref (w 0)), (1, .int (nI n)), (2, .int (nI (j + 1 + 1)))]) rfl ?_
      refine V.lsub C [0, 1, 2] (lv' := [(0, .ref (w 0)), (1, .int (nI n)), (2, .int (nI (j + 1 + 1)))]) rfl ?_
      exact ih7 (j + 1) (updN s9 (j + 1) (s9 (41 + (j + 1)))) (updN p9 (j + 1) (p9 (41 + (j + 1)))) (updN r9 (j + 1) (r9 (41 + (j + 1)))) (updN g9 (j + 1) (g9 (41 + (j + 1)))) (updN o9 (j + 1) 0) (tt) ⟨by omega, by rw [hs9]; exact cpR_s se (by omega), by rw [hp9]; exact cpR_s pe (by omega), by rw [hr9]; exact cpR_s ra (by omega), by rw [hg9]; exact cpR_s ga (by omega), by rw [ho9]; exact zrR_s of j, by rw [htt, show k = 20 by omega]; exact cpT_n ti j⟩ (by omega)
    · refine V.aload_n C (n := 88) (j := 0) d_M_takeFrames_87 rfl rfl rfl ?_
      refine V.get C (n := 91) (q0 := 0) (k0 := 7) clOk_6 rfl (by decide) rfl fl_M_25 rfl d_M_takeFrames_88 rfl ?_
      refine V.bipush C (v := nI 21) (n := 93) d_M_takeFrames_91 (by decide) rfl ?_
      refine V.iload_n C (n := 94) (j := 2) d_M_takeFrames_93 rfl rfl rfl ?_
      refine V.imul_n C (n := 95) d_M_takeFrames_94 rfl ?_
      refine V.iload_n C (n := 96) (j := 3) d_M_takeFrames_95 rfl rfl rfl ?_
      refine V.iadd_n C (n := 97) d_M_takeFrames_96 rfl ?_
      refine V.aload_n C (n := 98) (j := 0) d_M_takeFrames_97 rfl rfl rfl ?_
      refine V.get C (n := 101) (q0 := 0) (k0 := 7) clOk_6 rfl (by decide) rfl fl_M_25 rfl d_M_takeFrames_98 rfl ?_
      refine V.bipush C (v := nI 21) (n := 103) d_M_takeFrames_101 (by decide) rfl ?_
      refine V.bipush C (v := nI 41) (n := 105) d_M_takeFrames_103 (by decide) rfl ?_
      refine V.iload_n C (n := 106) (j := 2) d_M_takeFrames_105 rfl rfl rfl ?_
      refine V.iadd_n C (n := 107) d_M_takeFrames_106 rfl ?_
      refine V.imul_n C (n := 108) d_M_takeFrames_107 rfl ?_
      refine V.iload_n C (n := 109) (j := 3) d_M_takeFrames_108 rfl rfl rfl ?_
      refine V.iadd_n C (n := 110) d_M_takeFrames_109 rfl ?_
      refine V.iaload_n C (n := 111) (q0 := 6) (t0 := 0) (i := (21 * (41 + (j + 1))) + (k + 1)) rfl rfl (by omega) (by decide) d_M_takeFrames_110 rfl ?_
      have b_5 := True.intro
      refine V.iastore_n C (n := 112) (q0 := 6) (t0 := 0) (i := (21 * (j + 1)) + (k + 1)) (ws' := (ModW w cI n (updN s9 (j + 1) (s9 (41 + (j + 1)))) (updN p9 (j + 1) (p9 (41 + (j + 1)))) (updN r9 (j + 1) (r9 (41 + (j + 1)))) (updN g9 (j + 1) (g9 (41 + (j + 1)))) (updN o9 (j + 1) 0) (updN tt ((21 * (j + 1)) + (k + 1)) (tt ((21 * (41 + (j + 1))) + (k + 1)))) fm tm ex sz tx ld ro wh be pl nu)) rfl rfl (by omega) (by decide) rfl d_M_takeFrames_111 rfl ?_
      refine V.iinc C (n := 115) (j := 3) (v := nI (k + 1 + 1)) (lv' := [(0, .ref (w 0)), (1, .int (nI n)), (2, .int (nI (j + 1))), (3, .int (nI (k + 1 + 1)))]) [1, 2, 3, 0] d_M_takeFrames_112 rfl (nI_inc (k + 1) 1) (by decide) rfl rfl ?_
      refine V.goto C (n := 81) d_M_takeFrames_115 (by decide) ?_
      exact ih81 (k + 1) (updN tt ((21 * (j + 1)) + (k + 1)) (tt ((21 * (41 + (j + 1))) + (k + 1)))) ⟨by omega, by rw [htt]; exact cpT_s ti (by omega) (by omega)⟩ (by omega)
set_option maxHeartbeats 4000000 in
set_option maxRecDepth 100000 in
theorem c_M_isLine (l : Launch) (D : va_G) (cI cC : ClassId) (E : Nat → Nat) (w : Nat → Nat) (nf : Nat) (se pe ra ga of ti fm tm : Nat → Nat) (ex : Bool) (sz : Nat) (tx ld : Nat → Nat) (ro : Nat → Int) (wh be : Nat → Nat) (pl nu : Nat) (f : Nat) (hM : MOK nf se pe ra ga of ti fm tm sz tx) (hf : 1 ≤ f ∧ f ≤ 41) (hps : pl ≤ sz) (hs2 : sz ≤ 2000) : CE l D (TY cI cC E) m_M_isLine (rmD 4) [.ref (w 0), .int (nI f)] ((ModW w cI nf se pe ra ga of ti fm tm ex sz tx ld ro wh be pl nu)) (bI (f ≤ 40 ∧ LnOK tx sz pl)) (fun u : ILS => ILP se pe ra ga ti tx sz pl f u) (fun u => (ModW w cI nf u.1 u.2.1 u.2.2.1 u.2.2.2.1 of u.2.2.2.2.1 fm tm ex sz tx ld ro wh be u.2.2.2.2.2.1 u.2.2.2.2.2.2)) := by
  obtain ⟨hnf, hse, hpe, hp1, hra, hga, hof, hti, hfm, htm, hsz, htx⟩ := id hM
  have ht : typOK (tx, sz) := ⟨hsz, htx⟩
  refine CE.of (by decide +kernel) (of_decide_eq_true rfl) ?_
  intro p e s m args below meth c C hr
  refine V.iload_n C (n := 1) (j := 1) d_M_isLine_0 rfl rfl rfl ?_
  refine V.bipush C (v := nI 40) (n := 3) d_M_isLine_1 (by decide) rfl ?_
  refine V.icmpn_gt C (tgt := 24) (n := 6) (by omega) (by omega) d_M_isLine_3 (by decide) rfl (fun c3_1 => ?_) (fun c3_1 => ?_)
  · refine V.iconst C (v := nI 0) (n := 25) d_M_isLine_24 (by decide) rfl ?_
    exact V.zretE C hr (bI_nar _) d_M_isLine_25 (se, pe, ra, ga, ti, pl, nu) (ILP_no ⟨by first | exact hse | exact updN_le hse (by omega), by first | exact hpe | exact updN_le hpe (by omega), by first | exact hra | exact updN_le hra (by omega), by first | exact hga | exact updN_le hga (by omega), by first | exact hti | exact htb⟩ (fun j hj => ⟨by first | rfl | exact updN_n hj, by first | rfl | exact updN_n hj, by first | rfl | exact updN_n hj, by first | rfl | exact updN_n hj⟩) (fun x hx => by first | rfl | exact hfr x hx) (fun h => by omega)) (bI_0 (fun h => by omega)) (rfl)
  · refine V.aload_n C (n := 7) (j := 0) d_M_isLine_6 rfl rfl rfl ?_
    refine V.iconst C (v := nI 0) (n := 8) d_M_isLine_7 (by decide) rfl ?_
    obtain ⟨V1, hV1⟩ : ∃ V, V = wM tx sz 0 pl 5 := ⟨_, rfl⟩
    refine V.callV_i C (n := 11) (ws' := (ModW w cI nf se pe ra ga of ti fm tm ex sz tx ld ro wh be (psS tx sz V1.2) nu)) (c_M_isWord_f l D cI cC E (w) (nf) (se) (pe) (ra) (ga) (of) (ti) (fm) (tm) (ex) (sz) (tx) (ld) (ro) (wh) (be) (pl) (nu) (V1) ht (by omega) hV1) cw_M_147 [0, 1, 2, 3, 4, 5, 6, 7, 8, 9, 10, 11, 12, 13] [] [0, 1, 2, 3, 4, 5, 6, 7, 8, 9, 10, 11, 12, 13] (qr := 0) rfl rfl rfl (of_decide_eq_true rfl) rfl (of_decide_eq_true rfl) rfl (of_decide_eq_true rfl) rfl (of_decide_eq_true rfl) rfl ⟨rfl, rfl⟩ ⟨by decide, by decide⟩ ⟨by decide, by decide⟩ rfl rfl (of_decide_eq_true rfl) d_M_isLine_8 rfl ?_
    refine V.ifb_eq C (tgt := 24) (n := 14) d_M_isLine_11 (by decide) rfl (fun c11_2 => ?_) (fun c11_2 => ?_)
    · have hno : ¬ LnOK tx sz pl := by rintro ⟨s, p, r, g, r1, q, p5, F, ⟨q1, q2, q3, q4, hw, hq⟩, hR⟩; exact WrdAt_no hV1 c11_2 hw
      refine V.iconst C (v := nI 0) (n := 25) d_M_isLine_24 (by decide) rfl ?_
      exact V.zretE C hr (bI_nar _) d_M_isLine_25 (se, pe, ra, ga, ti, psS tx sz V1.2, nu) (ILP_no ⟨by first | exact hse | exact updN_le hse (by omega), by first | exact hpe | exact updN_le hpe (by omega), by first | exact hra | exact updN_le hra (by omega), by first | exact hga | exact updN_le hga (by omega), by first | exact hti | exact htb⟩ (fun j hj => ⟨by first | rfl | exact updN_n hj, by first | rfl | exact updN_n hj, by first | rfl | exact updN_n hj, by first | rfl | exact updN_n hj⟩) (fun x hx => by first | rfl | exact hfr x hx) (fun _ => hno)) (bI_0 (fun h => hno h.2)) (rfl)
    · obtain ⟨p1, hp1⟩ : ∃ p, p = psS tx sz V1.2 := ⟨_, rfl⟩
      have hWp1 : WrdAt tx sz 0 pl p1 := WrdAt_is hV1 c11_2 hp1
      have hbp1 := WrdAt_b (by omega) (by omega) hWp1
      refine V.wo C (ws' := (ModW w cI nf se pe ra ga of ti fm tm ex sz tx ld ro wh be p1 nu)) (by rw [hp1]) ?_
      refine V.aload_n C (n := 15) (j := 0) d_M_isLine_14 rfl rfl rfl ?_
      refine V.iconst C (v := nI 1) (n := 16) d_M_isLine_15 (by decide) rfl ?_
      refine V.bipush C (v := nI 20) (n := 18) d_M_isLine_16 (by decide) rfl ?_
      obtain ⟨e2, he2⟩ : ∃ e, e = dgE tx sz p1 := ⟨_, rfl⟩
      obtain ⟨v2, hv2, hxv2⟩ := dgs_ex he2
      refine V.callV_i C (n := 21) (ws' := (ModW w cI nf se pe ra ga of ti fm tm ex sz tx ld ro wh be (psS tx sz e2) v2)) (c_M_isNumber l D cI cC E (w) (nf) (se) (pe) (ra) (ga) (of) (ti) (fm) (tm) (ex) (sz) (tx) (ld) (ro) (wh) (be) (p1) (nu) (1) (20) (e2) (v2) ht (by omega) he2 hv2 (by omega)) cw_M_151 [0, 1, 2, 3, 4, 5, 6, 7, 8, 9, 10, 11, 12, 13] [] [0, 1, 2, 3, 4, 5, 6, 7, 8, 9, 10, 11, 12, 13] (qr := 0) rfl rfl rfl (of_decide_eq_true rfl) rfl (of_decide_eq_true rfl) rfl (of_decide_eq_true rfl) rfl (of_decide_eq_true rfl) rfl ⟨rfl, rfl⟩ ⟨by decide, by decide⟩ ⟨by decide, by decide⟩ rfl rfl (of_decide_eq_true rfl) d_M_isLine_18 rfl ?_
      refine V.ifb_ne C (tgt := 26) (n := 24) d_M_isLine_21 (by decide) rfl (fun c21_3 => ?_) (fun c21_3 => ?_)
      · obtain ⟨p2, hp2⟩ : ∃ p, p = psS tx sz e2 := ⟨_, rfl⟩
        have hNp2 : NumAt tx sz p1 1 20 v2 p2 := NumAt_is he2 hv2 c21_3 hp2
        have hbp2 := NumAt_b hNp2
        have hcp2 := c21_3.2.2.2
        refine V.wo C (ws' := (ModW w cI nf se pe ra ga of ti fm tm ex sz tx ld ro wh be p2 v2)) (by rw [hp2]) ?_
        refine V.bipush C (v := nI 41) (n := 28) d_M_isLine_26 (by decide) rfl ?_
        refine V.iload_n C (n := 29) (j := 1) d_M_isLine_28 rfl rfl rfl ?_
        refine V.iadd_n C (n := 30) d_M_isLine_29 rfl ?_
        refine V.istore_n C (n := 31) (lv' := [(0, .ref (w 0)), (1, .int (nI f)), (2, .int (nI (41 + f)))]) [1, 2, 0] d_M_isLine_30 rfl (by decide) rfl rfl ?_
        refine V.aload_n C (n := 32) (j := 0) d_M_isLine_31 rfl rfl rfl ?_
        refine V.get C (n := 35) (q0 := 0) (k0 := 2) clOk_6 rfl (by decide) rfl fl_M_7 rfl d_M_isLine_32 rfl ?_
        refine V.iload_n C (n := 36) (j := 2) d_M_isLine_35 rfl rfl rfl ?_
        refine V.aload_n C (n := 37) (j := 0) d_M_isLine_36 rfl rfl rfl ?_
        refine V.get C (n := 40) (q0 := 0) (k0 := 18) clOk_6 rfl (by decide) rfl fl_M_144 rfl d_M_isLine_37 rfl ?_
        refine V.iastore_n C (n := 41) (q0 := 1) (t0 := 0) (i := 41 + f) (ws' := (ModW w cI nf (updN se (41 + f) v2) pe ra ga of ti fm tm ex sz tx ld ro wh be p2 v2)) rfl rfl (by omega) (by decide) rfl d_M_isLine_40 rfl ?_
        refine V.aload_n C (n := 42) (j := 0) d_M_isLine_41 rfl rfl rfl ?_
        refine V.iconst C (v := nI 1) (n := 43) d_M_isLine_42 (by decide) rfl ?_
        refine V.bipush C (v := nI 60) (n := 45) d_M_isLine_43 (by decide) rfl ?_
        obtain ⟨e3, he3⟩ : ∃ e, e = dgE tx sz p2 := ⟨_, rfl⟩
        obtain ⟨v3, hv3, hxv3⟩ := dgs_ex he3
        refine V.callV_i C (n := 48) (ws' := (ModW w cI nf (updN se (41 + f) v2) pe ra ga of ti fm tm ex sz tx ld ro wh be (psS tx sz e3) v3)) (c_M_isNumber l D cI cC E (w) (nf) (updN se (41 + f) v2) (pe) (ra) (ga) (of) (ti) (fm) (tm) (ex) (sz) (tx) (ld) (ro) (wh) (be) (p2) (v2) (1) (60) (e3) (v3) ht (by omega) he3 hv3 (by omega)) cw_M_151 [0, 1, 2, 3, 4, 5, 6, 7, 8, 9, 10, 11, 12, 13] [] [0, 1, 2, 3, 4, 5, 6, 7, 8, 9, 10, 11, 12, 13] (qr := 0) rfl rfl rfl (of_decide_eq_true rfl) rfl (of_decide_eq_true rfl) rfl (of_decide_eq_true rfl) rfl (of_decide_eq_true rfl) rfl ⟨rfl, rfl⟩ ⟨by decide, by decide⟩ ⟨by decide, by decide⟩ rfl rfl (of_decide_eq_true rfl) d_M_isLine_45 rfl ?_
        refine V.ifb_ne C (tgt := 53) (n := 51) d_M_isLine_48 (by decide) rfl (fun c48_4 => ?_) (fun c48_4 => ?_)
        · obtain ⟨p3, hp3⟩ : ∃ p, p = psS tx sz e3 := ⟨_, rfl⟩
          have hNp3 : NumAt tx sz p2 1 60 v3 p3 := NumAt_is he3 hv3 c48_4 hp3
          have hbp3 := NumAt_b hNp3
          have hcp3 := c48_4.2.2.2
          refine V.wo C (ws' := (ModW w cI nf (updN se (41 + f) v2) pe ra ga of ti fm tm ex sz tx ld ro wh be p3 v3)) (by rw [hp3]) ?_
          refine V.aload_n C (n := 54) (j := 0) d_M_isLine_53 rfl rfl rfl ?_
          refine V.get C (n := 57) (q0 := 0) (k0 := 3) clOk_6 rfl (by decide) rfl fl_M_13 rfl d_M_isLine_54 rfl ?_
          refine V.iload_n C (n := 58) (j := 2) d_M_isLine_57 rfl rfl rfl ?_
          refine V.aload_n C (n := 59) (j := 0) d_M_isLine_58 rfl rfl rfl ?_
          refine V.get C (n := 62) (q0 := 0) (k0 := 18) clOk_6 rfl (by decide) rfl fl_M_144 rfl d_M_isLine_59 rfl ?_
          refine V.iastore_n C (n := 63) (q0 := 2) (t0 := 0) (i := 41 + f) (ws' := (ModW w cI nf (updN se (41 + f) v2) (updN pe (41 + f) v3) ra ga of ti fm tm ex sz tx ld ro wh be p3 v3)) rfl rfl (by omega) (by decide) rfl d_M_isLine_62 rfl ?_
          refine V.aload_n C (n := 64) (j := 0) d_M_isLine_63 rfl rfl rfl ?_
          refine V.iconst C (v := nI 0) (n := 65) d_M_isLine_64 (by decide) rfl ?_
          refine V.bipush C (v := nI 99) (n := 67) d_M_isLine_65 (by decide) rfl ?_
          obtain ⟨e4, he4⟩ : ∃ e, e = dgE tx sz p3 := ⟨_, rfl⟩
          obtain ⟨v4, hv4, hxv4⟩ := dgs_ex he4
          refine V.callV_i C (n := 70) (ws' := (ModW w cI nf (updN se (41 + f) v2) (updN pe (41 + f) v3) ra ga of ti fm tm ex sz tx ld ro wh be (psS tx sz e4) v4)) (c_M_isNumber l D cI cC E (w) (nf) (updN se (41 + f) v2) (updN pe (41 + f) v3) (ra) (ga) (of) (ti) (fm) (tm) (ex) (sz) (tx) (ld) (ro) (wh) (be) (p3) (v3) (0) (99) (e4) (v4) ht (by omega) he4 hv4 (by omega)) cw_M_151 [0, 1, 2, 3, 4, 5, 6, 7, 8, 9, 10, 11, 12, 13] [] [0, 1, 2, 3, 4, 5, 6, 7, 8, 9, 10, 11, 12, 13] (qr := 0) rfl rfl rfl (of_decide_eq_true rfl) rfl (of_decide_eq_true rfl) rfl (of_decide_eq_true rfl) rfl (of_decide_eq_true rfl) rfl ⟨rfl, rfl⟩ ⟨by decide, by decide⟩ ⟨by decide, by decide⟩ rfl rfl (of_decide_eq_true rfl) d_M_isLine_67 rfl ?_
          refine V.ifb_ne C (tgt := 75) (n := 73) d_M_isLine_70 (by decide) rfl (fun c70_5 => ?_) (fun c70_5 => ?_)
          · obtain ⟨p4, hp4⟩ : ∃ p, p = psS tx sz e4 := ⟨_, rfl⟩
            have hNp4 : NumAt tx sz p3 0 99 v4 p4 := NumAt_is he4 hv4 c70_5 hp4
            have hbp4 := NumAt_b hNp4
            have hcp4 := c70_5.2.2.2
            refine V.wo C (ws' := (ModW w cI nf (updN se (41 + f) v2) (updN pe (41 + f) v3) ra ga of ti fm tm ex sz tx ld ro wh be p4 v4)) (by rw [hp4]) ?_
            refine V.aload_n C (n := 76) (j := 0) d_M_isLine_75 rfl rfl rfl ?_
            refine V.get C (n := 79) (q0 := 0) (k0 := 4) clOk_6 rfl (by decide) rfl fl_M_16 rfl d_M_isLine_76 rfl ?_
            refine V.iload_n C (n := 80) (j := 2) d_M_isLine_79 rfl rfl rfl ?_
            refine V.aload_n C (n := 81) (j := 0) d_M_isLine_80 rfl rfl rfl ?_
            refine V.get C (n := 84) (q0 := 0) (k0 := 18) clOk_6 rfl (by decide) rfl fl_M_144 rfl d_M_isLine_81 rfl ?_
            refine V.iastore_n C (n := 85) (q0 := 3) (t0 := 0) (i := 41 + f) (ws' := (ModW w cI nf (updN se (41 + f) v2) (updN pe (41 + f) v3) (updN ra (41 + f) v4) ga of ti fm tm ex sz tx ld ro wh be p4 v4)) rfl rfl (by omega) (by decide) rfl d_M_isLine_84 rfl ?_
            refine V.aload_n C (n := 86) (j := 0) d_M_isLine_85 rfl rfl rfl ?_
            refine V.iconst C (v := nI 0) (n := 87) d_M_isLine_86 (by decide) rfl ?_
            refine V.aload_n C (n := 88) (j := 0) d_M_isLine_87 rfl rfl rfl ?_
            refine V.get C (n := 91) (q0 := 0) (k0 := 3) clOk_6 rfl (by decide) rfl fl_M_13 rfl d_M_isLine_88 rfl ?_
            refine V.iload_n C (n := 92) (j := 2) d_M_isLine_91 rfl rfl rfl ?_
            refine V.iaload_n C (n := 93) (q0 := 2) (t0 := 0) (i := 41 + f) rfl rfl (by omega) (by decide) d_M_isLine_92 rfl ?_
            have b_1 := True.intro
            refine V.cv C (y := nI v3) (by rw [updN_s]) ?_
            obtain ⟨e5, he5⟩ : ∃ e, e = dgE tx sz p4 := ⟨_, rfl⟩
            obtain ⟨v5, hv5, hxv5⟩ := dgs_ex he5
            refine V.callV_i C (n := 96) (ws' := (ModW w cI nf (updN se (41 + f) v2) (updN pe (41 + f) v3) (updN ra (41 + f) v4) ga of ti fm tm ex sz tx ld ro wh be (psS tx sz e5) v5)) (c_M_isNumber l D cI cC E (w) (nf) (updN se (41 + f) v2) (updN pe (41 + f) v3) (updN ra (41 + f) v4) (ga) (of) (ti) (fm) (tm) (ex) (sz) (tx) (ld) (ro) (wh) (be) (p4) (v4) (0) (v3) (e5) (v5) ht (by omega) he5 hv5 (by omega)) cw_M_151 [0, 1, 2, 3, 4, 5, 6, 7, 8, 9, 10, 11, 12, 13] [] [0, 1, 2, 3, 4, 5, 6, 7, 8, 9, 10, 11, 12, 13] (qr := 0) rfl rfl rfl (of_decide_eq_true rfl) rfl (of_decide_eq_true rfl) rfl (of_decide_eq_true rfl) rfl (of_decide_eq_true rfl) rfl ⟨rfl, rfl⟩ ⟨by decide, by decide⟩ ⟨by decide, by decide⟩ rfl rfl (of_decide_eq_true rfl) d_M_isLine_93 rfl ?_
            refine V.ifb_ne C (tgt := 101) (n := 99) d_M_isLine_96 (by decide) rfl (fun c96_6 => ?_) (fun c96_6 => ?_)
            · obtain ⟨p5, hp5⟩ : ∃ p, p = psS tx sz e5 := ⟨_, rfl⟩
              have hNp5 : NumAt tx sz p4 0 v3 v5 p5 := NumAt_is he5 hv5 c96_6 hp5
              have hbp5 := NumAt_b hNp5
              have hcp5 := c96_6.2.2.2
              refine V.wo C (ws' := (ModW w cI nf (updN se (41 + f) v2) (updN pe (41 + f) v3) (updN ra (41 + f) v4) ga of ti fm tm ex sz tx ld ro wh be p5 v5)) (by rw [hp5]) ?_
              refine V.aload_n C (n := 102) (j := 0) d_M_isLine_101 rfl rfl rfl ?_
              refine V.get C (n := 105) (q0 := 0) (k0 := 5) clOk_6 rfl (by decide) rfl fl_M_19 rfl d_M_isLine_102 rfl ?_
              refine V.iload_n C (n := 106) (j := 2) d_M_isLine_105 rfl rfl rfl ?_
              refine V.aload_n C (n := 107) (j := 0) d_M_isLine_106 rfl rfl rfl ?_
              refine V.get C (n := 110) (q0 := 0) (k0 := 18) clOk_6 rfl (by decide) rfl fl_M_144 rfl d_M_isLine_107 rfl ?_
              refine V.iastore_n C (n := 111) (q0 := 4) (t0 := 0) (i := 41 + f) (ws' := (ModW w cI nf (updN se (41 + f) v2) (updN pe (41 + f) v3) (updN ra (41 + f) v4) (updN ga (41 + f) v5) of ti fm tm ex sz tx ld ro wh be p5 v5)) rfl rfl (by omega) (by decide) rfl d_M_isLine_110 rfl ?_
              refine V.iconst C (v := nI 1) (n := 112) d_M_isLine_111 (by decide) rfl ?_
              refine V.istore_n C (n := 113) (lv' := [(0, .ref (w 0)), (1, .int (nI f)), (2, .int (nI (41 + f))), (3, .int (nI 1))]) [1, 2, 3, 0] d_M_isLine_112 rfl (by decide) rfl rfl ?_
              refine V.ind2 C (fun (j : Nat) (tt : Nat → Nat) => (ModW w cI nf (updN se (41 + f) v2) (updN pe (41 + f) v3) (updN ra (41 + f) v4) (updN ga (41 + f) v5) of tt fm tm ex sz tx ld ro wh be p5 v5)) (fun (j : Nat) (tt : Nat → Nat) => [(0, .ref (w 0)), (1, .int (nI f)), (2, .int (nI (41 + f))), (3, .int (nI (j + 1)))]) (fun (j : Nat) (tt : Nat → Nat) => (j ≤ 20) ∧ (tt = clrM ti (41 + f) j)) (fun (j : Nat) (tt : Nat → Nat) => 20 - j) (0) (ti) ⟨by omega, (clrM_0 ti (41 + f)).symm⟩ rfl rfl ?_
              rintro j tt ⟨hj, htt⟩ ih113
              try dsimp only
              refine V.iload_n C (n := 114) (j := 3) d_M_isLine_113 rfl rfl rfl ?_
              refine V.bipush C (v := nI 20) (n := 116) d_M_isLine_114 (by decide) rfl ?_
              refine V.icmpn_gt C (tgt := 137) (n := 119) (by omega) (by omega) d_M_isLine_116 (by decide) rfl (fun c116_7 => ?_) (fun c116_7 => ?_)
              · refine V.lsub C [0, 1, 2] (lv' := [(0, .ref (w 0)), (1, .int (nI f)), (2, .int (nI (41 + f)))]) rfl ?_
                refine V.ind4 C (fun (p9 : Nat) (t9 : Nat → Nat) (n9 : Nat) (ρ : Nat → Nat) => (ModW w cI nf (updN se (41 + f) v2) (updN pe (41 + f) v3) (updN ra (41 + f) v4) (updN ga (41 + f) v5) of t9 fm tm ex sz tx ld ro wh be p9 n9)) (fun (p9 : Nat) (t9 : Nat → Nat) (n9 : Nat) (ρ : Nat → Nat) => [(0, .ref (w 0)), (1, .int (nI f)), (2, .int (nI (41 + f)))]) (fun (p9 : Nat) (t9 : Nat → Nat) (n9 : Nat) (ρ : Nat → Nat) => (p9 ≤ sz) ∧ (∀ x, t9 x ≤ 10000) ∧ (∀ x, ¬ (21 * (41 + f) + 1 ≤ x ∧ x ≤ 21 * (41 + f) + 20) → t9 x = ti x) ∧ (∀ k, 1 ≤ k → k ≤ 20 → t9 (21 * (41 + f) + k) = ρ k) ∧ (∀ r1 q, (∃ F, RdsF tx sz v2 F p5 (fun _ => 0) r1 q) ↔ ∃ F, RdsF tx sz v2 F p9 ρ r1 q)) (fun (p9 : Nat) (t9 : Nat → Nat) (n9 : Nat) (ρ : Nat → Nat) => 3000 - p9) (p5) (tt) (v5) (fun _ => 0) ⟨by omega, by rw [htt]; exact clrM_le hti, fun x hx => by rw [htt]; unfold clrM; rw [if_neg (by omega)], fun k h1 h2 => by rw [htt]; unfold clrM; rw [if_pos (by omega)], fun _ _ => Iff.rfl⟩ rfl rfl ?_
                rintro p9 t9 n9 ρ ⟨hp9, htb, hfr, hrow, hlink⟩ ih137
                try dsimp only
                refine V.aload_n C (n := 138) (j := 0) d_M_isLine_137 rfl rfl rfl ?_
                refine V.callV_i C (n := 141) (ws' := (ModW w cI nf (updN se (41 + f) v2) (updN pe (41 + f) v3) (updN ra (41 + f) v4) (updN ga (41 + f) v5) of t9 fm tm ex sz tx ld ro wh be p9 n9)) (c_M_isEnd l D cI cC E (w) (nf) (updN se (41 + f) v2) (updN pe (41 + f) v3) (updN ra (41 + f) v4) (updN ga (41 + f) v5) (of) (t9) (fm) (tm) (ex) (sz) (tx) (ld) (ro) (wh) (be) (p9) (n9) ht (by omega)) cw_M_134 [0, 1, 2, 3, 4, 5, 6, 7, 8, 9, 10, 11, 12, 13] [] [0, 1, 2, 3, 4, 5, 6, 7, 8, 9, 10, 11, 12, 13] (qr := 0) rfl rfl rfl (of_decide_eq_true rfl) rfl (of_decide_eq_true rfl) rfl (of_decide_eq_true rfl) rfl (of_decide_eq_true rfl) rfl ⟨rfl, rfl⟩ ⟨by decide, by decide⟩ ⟨by decide, by decide⟩ rfl rfl (of_decide_eq_true rfl) d_M_isLine_138 rfl ?_
                refine V.ifb_ne C (tgt := 213) (n := 144) d_M_isLine_141 (by decide) rfl (fun c141_8 => ?_) (fun c141_8 => ?_)
                · have hend := c141_8
                  have hLK : ∀ s p r g r1 q, LnIs tx sz pl s p r g r1 q → ∃ F, RdsF tx sz v2 F p9 ρ r1 q := fun s p r g r1 q hL => (hlink r1 q).mp (Ln5 hWp1 hNp2 hNp3 hNp4 hNp5 hL).2.2.2.2
                  refine V.iconst C (v := nI 1) (n := 214) d_M_isLine_213 (by decide) rfl ?_
                  exact V.zretE C hr (bI_nar _) d_M_isLine_214 (updN se (41 + f) v2, updN pe (41 + f) v3, updN ra (41 + f) v4, updN ga (41 + f) v5, t9, p9, n9) (⟨⟨by first | exact hse | exact updN_le hse (by omega), by first | exact hpe | exact updN_le hpe (by omega), by first | exact hra | exact updN_le hra (by omega), by first | exact hga | exact updN_le hga (by omega), by first | exact hti | exact htb⟩, (fun j hj => ⟨by first | rfl | exact updN_n hj, by first | rfl | exact updN_n hj, by first | rfl | exact updN_n hj, by first | rfl | exact updN_n hj⟩), (fun x hx => hfr x hx), fun _ s p r g r1 q hL => by obtain ⟨e0, e1, e2, e3, -⟩ := Ln5 hWp1 hNp2 hNp3 hNp4 hNp5 hL; obtain ⟨F, hR⟩ := hLK s p r g r1 q hL; obtain ⟨e4, e5⟩ := RdsF_e hend hR; subst e0; subst e1; subst e2; subst e3; subst e4; subst e5; exact ⟨updN_s _ _ _, updN_s _ _ _, updN_s _ _ _, updN_s _ _ _, hrow, rfl⟩⟩) (bI_1 ⟨by omega, by obtain ⟨F, hR⟩ := (hlink ρ p9).mpr ⟨1, Or.inl ⟨hend, rfl, rfl⟩⟩; exact ⟨v2, v3, v4, v5, ρ, p9, Ln5' hWp1 hNp2 hNp3 hNp4 hNp5 hR⟩⟩) (rfl)
                · have hne := c141_8
                  have hLK : ∀ s p r g r1 q, LnIs tx sz pl s p r g r1 q → ∃ F, RdsF tx sz v2 F p9 ρ r1 q := fun s p r g r1 q hL => (hlink r1 q).mp (Ln5 hWp1 hNp2 hNp3 hNp4 hNp5 hL).2.2.2.2
                  refine V.aload_n C (n := 145) (j := 0) d_M_isLine_144 rfl rfl rfl ?_
                  refine V.iconst C (v := nI 1) (n := 146) d_M_isLine_145 (by decide) rfl ?_
                  obtain ⟨V6, hV6⟩ : ∃ V, V = wM tx sz 1 p9 5 := ⟨_, rfl⟩
                  refine V.callV_i C (n := 149) (ws' := (ModW w cI nf (updN se (41 + f) v2) (updN pe (41 + f) v3) (updN ra (41 + f) v4) (updN ga (41 + f) v5) of t9 fm tm ex sz tx ld ro wh be (psS tx sz V6.2) n9)) (c_M_isWord_r l D cI cC E (w) (nf) (updN se (41 + f) v2) (updN pe (41 + f) v3) (updN ra (41 + f) v4) (updN ga (41 + f) v5) (of) (t9) (fm) (tm) (ex) (sz) (tx) (ld) (ro) (wh) (be) (p9) (n9) (V6) ht (by omega) hV6) cw_M_147 [0, 1, 2, 3, 4, 5, 6, 7, 8, 9, 10, 11, 12, 13] [] [0, 1, 2, 3, 4, 5, 6, 7, 8, 9, 10, 11, 12, 13] (qr := 0) rfl rfl rfl (of_decide_eq_true rfl) rfl (of_decide_eq_true rfl) rfl (of_decide_eq_true rfl) rfl (of_decide_eq_true rfl) rfl ⟨rfl, rfl⟩ ⟨by decide, by decide⟩ ⟨by decide, by decide⟩ rfl rfl (of_decide_eq_true rfl) d_M_isLine_146 rfl ?_
                  refine V.ifb_eq C (tgt := 175) (n := 152) d_M_isLine_149 (by decide) rfl (fun c149_9 => ?_) (fun c149_9 => ?_)
                  · have hno : ¬ LnOK tx sz pl := by rintro ⟨s, p, r, g, r1, q, hL⟩; obtain ⟨F, hR⟩ := hLK s p r g r1 q hL; obtain ⟨a1, a2, a3, a4, a5, F', w1, n1, k1, n2, hR'⟩ := RdsF_ne hne hR; exact WrdAt_no hV6 c149_9 w1
                    refine V.iconst C (v := nI 0) (n := 176) d_M_isLine_175 (by decide) rfl ?_
                    exact V.zretE C hr (bI_nar _) d_M_isLine_176 (updN se (41 + f) v2, updN pe (41 + f) v3, updN ra (41 + f) v4, updN ga (41 + f) v5, t9, psS tx sz V6.2, n9) (ILP_no ⟨by first | exact hse | exact updN_le hse (by omega), by first | exact hpe | exact updN_le hpe (by omega), by first | exact hra | exact updN_le hra (by omega), by first | exact hga | exact updN_le hga (by omega), by first | exact hti | exact htb⟩ (fun j hj => ⟨by first | rfl | exact updN_n hj, by first | rfl | exact updN_n hj, by first | rfl | exact updN_n hj, by first | rfl | exact updN_n hj⟩) (fun x hx => by first | rfl | exact hfr x hx) (fun _ => hno)) (bI_0 (fun h => hno h.2)) (rfl)
                  · obtain ⟨p6, hp6⟩ : ∃ p, p = psS tx sz V6.2 := ⟨_, rfl⟩
                    have hWp6 : WrdAt tx sz 1 p9 p6 := WrdAt_is hV6 c149_9 hp6
                    have hbp6 := WrdAt_b (by omega) (by omega) hWp6
                    refine V.wo C (ws' := (ModW w cI nf (updN se (41 + f) v2) (updN pe (41 + f) v3) (updN ra (41 + f) v4) (updN ga (41 + f) v5) of t9 fm tm ex sz tx ld ro wh be p6 n9)) (by rw [hp6]) ?_
                    refine V.aload_n C (n := 153) (j := 0) d_M_isLine_152 rfl rfl rfl ?_
                    refine V.iconst C (v := nI 1) (n := 154) d_M_isLine_153 (by decide) rfl ?_
                    refine V.bipush C (v := nI 20) (n := 156) d_M_isLine_154 (by decide) rfl ?_
                    obtain ⟨e7, he7⟩ : ∃ e, e = dgE tx sz p6 := ⟨_, rfl⟩
                    obtain ⟨v7, hv7, hxv7⟩ := dgs_ex he7
                    refine V.callV_i C (n := 159) (ws' := (ModW w cI nf (updN se (41 + f) v2) (updN pe (41 + f) v3) (updN ra (41 + f) v4) (updN ga (41 + f) v5) of t9 fm tm ex sz tx ld ro wh be (psS tx sz e7) v7)) (c_M_isNumber l D cI cC E (w) (nf) (updN se (41 + f) v2) (updN pe (41 + f) v3) (updN ra (41 + f) v4) (updN ga (41 + f) v5) (of) (t9) (fm) (tm) (ex) (sz) (tx) (ld) (ro) (wh) (be) (p6) (n9) (1) (20) (e7) (v7) ht (by omega) he7 hv7 (by omega)) cw_M_151 [0, 1, 2, 3, 4, 5, 6, 7, 8, 9, 10, 11, 12, 13] [] [0, 1, 2, 3, 4, 5, 6, 7, 8, 9, 10, 11, 12, 13] (qr := 0) rfl rfl rfl (of_decide_eq_true rfl) rfl (of_decide_eq_true rfl) rfl (of_decide_eq_true rfl) rfl (of_decide_eq_true rfl) rfl ⟨rfl, rfl⟩ ⟨by decide, by decide⟩ ⟨by decide, by decide⟩ rfl rfl (of_decide_eq_true rfl) d_M_isLine_156 rfl ?_
                    refine V.ifb_eq C (tgt := 175) (n := 162) d_M_isLine_159 (by decide) rfl (fun c159_10 => ?_) (fun c159_10 => ?_)
                    · have hno : ¬ LnOK tx sz pl := by rintro ⟨s, p, r, g, r1, q, hL⟩; obtain ⟨F, hR⟩ := hLK s p r g r1 q hL; obtain ⟨a1, a2, a3, a4, a5, F', w1, n1, k1, n2, hR'⟩ := RdsF_ne hne hR; have e1 := WrdAt_u hWp6 w1; subst e1; exact NumAt_no he7 hv7 c159_10 n1
                      refine V.iconst C (v := nI 0) (n := 176) d_M_isLine_175 (by decide) rfl ?_
                      exact V.zretE C hr (bI_nar _) d_M_isLine_176 (updN se (41 + f) v2, updN pe (41 + f) v3, updN ra (41 + f) v4, updN ga (41 + f) v5, t9, psS tx sz e7, v7) (ILP_no ⟨by first | exact hse | exact updN_le hse (by omega), by first | exact hpe | exact updN_le hpe (by omega), by first | exact hra | exact updN_le hra (by omega), by first | exact hga | exact updN_le hga (by omega), by first | exact hti | exact htb⟩ (fun j hj => ⟨by first | rfl | exact updN_n hj, by first | rfl | exact updN_n hj, by first | rfl | exact updN_n hj, by first | rfl | exact updN_n hj⟩) (fun x hx => by first | rfl | exact hfr x hx) (fun _ => hno)) (bI_0 (fun h => hno h.2)) (rfl)
                    · obtain ⟨p7, hp7⟩ : ∃ p, p = psS tx sz e7 := ⟨_, rfl⟩
                      have hNp7 : NumAt tx sz p6 1 20 v7 p7 := NumAt_is he7 hv7 c159_10 hp7
                      have hbp7 := NumAt_b hNp7
                      have hcp7 := c159_10.2.2.2
                      refine V.wo C (ws' := (ModW w cI nf (updN se (41 + f) v2) (updN pe (41 + f) v3) (updN ra (41 + f) v4) (updN ga (41 + f) v5) of t9 fm tm ex sz tx ld ro wh be p7 v7)) (by rw [hp7]) ?_
                      refine V.aload_n C (n := 163) (j := 0) d_M_isLine_162 rfl rfl rfl ?_
                      refine V.get C (n := 166) (q0 := 0) (k0 := 18) clOk_6 rfl (by decide) rfl fl_M_144 rfl d_M_isLine_163 rfl ?_
                      refine V.aload_n C (n := 167) (j := 0) d_M_isLine_166 rfl rfl rfl ?_
                      refine V.get C (n := 170) (q0 := 0) (k0 := 2) clOk_6 rfl (by decide) rfl fl_M_7 rfl d_M_isLine_167 rfl ?_
                      refine V.iload_n C (n := 171) (j := 2) d_M_isLine_170 rfl rfl rfl ?_
                      refine V.iaload_n C (n := 172) (q0 := 1) (t0 := 0) (i := 41 + f) rfl rfl (by omega) (by decide) d_M_isLine_171 rfl ?_
                      have b_2 := True.intro
                      refine V.cv C (y := nI v2) (by rw [updN_s]) ?_
                      refine V.icmpn_ne C (tgt := 177) (n := 175) (by omega) (by omega) d_M_isLine_172 (by decide) rfl (fun c172_11 => ?_) (fun c172_11 => ?_)
                      · have hk7 : v7 ≠ v2 := c172_11
                        refine V.aload_n C (n := 178) (j := 0) d_M_isLine_177 rfl rfl rfl ?_
                        refine V.get C (n := 181) (q0 := 0) (k0 := 18) clOk_6 rfl (by decide) rfl fl_M_144 rfl d_M_isLine_178 rfl ?_
                        refine V.istore_n C (n := 182) (lv' := [(0, .ref (w 0)), (1, .int (nI f)), (2, .int (nI (41 + f))), (3, .int (nI v7))]) [1, 2, 3, 0] d_M_isLine_181 rfl (by decide) rfl rfl ?_
                        refine V.aload_n C (n := 183) (j := 0) d_M_isLine_182 rfl rfl rfl ?_
                        refine V.iconst C (v := nI 1) (n := 184) d_M_isLine_183 (by decide) rfl ?_
                        refine V.sipush C (v := nI 10000) (n := 187) d_M_isLine_184 (by decide) rfl ?_
                        obtain ⟨e8, he8⟩ : ∃ e, e = dgE tx sz p7 := ⟨_, rfl⟩
                        obtain ⟨v8, hv8, hxv8⟩ := dgs_ex he8
                        refine V.callV_i C (n := 190) (ws' := (ModW w cI nf (updN se (41 + f) v2) (updN pe (41 + f) v3) (updN ra (41 + f) v4) (updN ga (41 + f) v5) of t9 fm tm ex sz tx ld ro wh be (psS tx sz e8) v8)) (c_M_isNumber l D cI cC E (w) (nf) (updN se (41 + f) v2) (updN pe (41 + f) v3) (updN ra (41 + f) v4) (updN ga (41 + f) v5) (of) (t9) (fm) (tm) (ex) (sz) (tx) (ld) (ro) (wh) (be) (p7) (v7) (1) (10000) (e8) (v8) ht (by omega) he8 hv8 (by omega)) cw_M_151 [0, 1, 2, 3, 4, 5, 6, 7, 8, 9, 10, 11, 12, 13] [] [0, 1, 2, 3, 4, 5, 6, 7, 8, 9, 10, 11, 12, 13] (qr := 0) rfl rfl rfl (of_decide_eq_true rfl) rfl (of_decide_eq_true rfl) rfl (of_decide_eq_true rfl) rfl (of_decide_eq_true rfl) rfl ⟨rfl, rfl⟩ ⟨by decide, by decide⟩ ⟨by decide, by decide⟩ rfl rfl (of_decide_eq_true rfl) d_M_isLine_187 rfl ?_
                        refine V.ifb_ne C (tgt := 195) (n := 193) d_M_isLine_190 (by decide) rfl (fun c190_12 => ?_) (fun c190_12 => ?_)
                        · obtain ⟨p8, hp8⟩ : ∃ p, p = psS tx sz e8 := ⟨_, rfl⟩
                          have hNp8 : NumAt tx sz p7 1 10000 v8 p8 := NumAt_is he8 hv8 c190_12 hp8
                          have hbp8 := NumAt_b hNp8
                          have hcp8 := c190_12.2.2.2
                          refine V.wo C (ws' := (ModW w cI nf (updN se (41 + f) v2) (updN pe (41 + f) v3) (updN ra (41 + f) v4) (updN ga (41 + f) v5) of t9 fm tm ex sz tx ld ro wh be p8 v8)) (by rw [hp8]) ?_
                          refine V.aload_n C (n := 196) (j := 0) d_M_isLine_195 rfl rfl rfl ?_
                          refine V.get C (n := 199) (q0 := 0) (k0 := 7) clOk_6 rfl (by decide) rfl fl_M_25 rfl d_M_isLine_196 rfl ?_
                          refine V.bipush C (v := nI 21) (n := 201) d_M_isLine_199 (by decide) rfl ?_
                          refine V.iload_n C (n := 202) (j := 2) d_M_isLine_201 rfl rfl rfl ?_
                          refine V.imul_n C (n := 203) d_M_isLine_202 rfl ?_
                          refine V.iload_n C (n := 204) (j := 3) d_M_isLine_203 rfl rfl rfl ?_
                          refine V.iadd_n C (n := 205) d_M_isLine_204 rfl ?_
                          refine V.aload_n C (n := 206) (j := 0) d_M_isLine_205 rfl rfl rfl ?_
                          refine V.get C (n := 209) (q0 := 0) (k0 := 18) clOk_6 rfl (by decide) rfl fl_M_144 rfl d_M_isLine_206 rfl ?_
                          refine V.iastore_n C (n := 210) (q0 := 6) (t0 := 0) (i := (21 * (41 + f)) + v7) (ws' := (ModW w cI nf (updN se (41 + f) v2) (updN pe (41 + f) v3) (updN ra (41 + f) v4) (updN ga (41 + f) v5) of (updN t9 ((21 * (41 + f)) + v7) v8) fm tm ex sz tx ld ro wh be p8 v8)) rfl rfl (by omega) (by decide) rfl d_M_isLine_209 rfl ?_
                          refine V.goto C (n := 137) d_M_isLine_210 (by decide) ?_
                          refine V.lsub C [0, 1, 2] (lv' := [(0, .ref (w 0)), (1, .int (nI f)), (2, .int (nI (41 + f)))]) rfl ?_
                          refine V.lsub C [0, 1, 2] (lv' := [(0, .ref (w 0)), (1, .int (nI f)), (2, .int (nI (41 + f)))]) rfl ?_
                          exact ih137 (p8) (updN t9 (21 * (41 + f) + v7) v8) (v8) (updN ρ v7 v8) ⟨by omega, updN_le htb (by omega), fun x hx => by rw [updN_n (by omega)]; exact hfr x hx, fun k h1 h2 => by (by_cases e : k = v7; (· subst e; rw [updN_s, updN_s]); (· rw [updN_n (by omega), updN_n e]; exact hrow k h1 h2)), fun r1 q => (hlink r1 q).trans (RD_step hne hWp6 hNp7 hk7 hNp8 r1 q)⟩ (by omega)
                        · have hno : ¬ LnOK tx sz pl := by rintro ⟨s, p, r, g, r1, q, hL⟩; obtain ⟨F, hR⟩ := hLK s p r g r1 q hL; obtain ⟨a1, a2, a3, a4, a5, F', w1, n1, k1, n2, hR'⟩ := RdsF_ne hne hR; have e1 := WrdAt_u hWp6 w1; subst e1; obtain ⟨e2, e3⟩ := NumAt_u hNp7 n1; subst e2; subst e3; exact NumAt_no he8 hv8 c190_12 n2
                          refine V.iconst C (v := nI 0) (n := 194) d_M_isLine_193 (by decide) rfl ?_
                          exact V.zretE C hr (bI_nar _) d_M_isLine_194 (updN se (41 + f) v2, updN pe (41 + f) v3, updN ra (41 + f) v4, updN ga (41 + f) v5, t9, psS tx sz e8, v8) (ILP_no ⟨by first | exact hse | exact updN_le hse (by omega), by first | exact hpe | exact updN_le hpe (by omega), by first | exact hra | exact updN_le hra (by omega), by first | exact hga | exact updN_le hga (by omega), by first | exact hti | exact htb⟩ (fun j hj => ⟨by first | rfl | exact updN_n hj, by first | rfl | exact updN_n hj, by first | rfl | exact updN_n hj, by first | rfl | exact updN_n hj⟩) (fun x hx => by first | rfl | exact hfr x hx) (fun _ => hno)) (bI_0 (fun h => hno h.2)) (rfl)
                      · have hk7 : v7 = v2 := c172_11
                        have hno : ¬ LnOK tx sz pl := by rintro ⟨s, p, r, g, r1, q, hL⟩; obtain ⟨F, hR⟩ := hLK s p r g r1 q hL; obtain ⟨a1, a2, a3, a4, a5, F', w1, n1, k1, n2, hR'⟩ := RdsF_ne hne hR; have e1 := WrdAt_u hWp6 w1; subst e1; obtain ⟨e2, e3⟩ := NumAt_u hNp7 n1; subst e2; subst e3; exact k1 hk7
                        refine V.iconst C (v := nI 0) (n := 176) d_M_isLine_175 (by decide) rfl ?_
                        exact V.zretE C hr (bI_nar _) d_M_isLine_176 (updN se (41 + f) v2, updN pe (41 + f) v3, updN ra (41 + f) v4, updN ga (41 + f) v5, t9, p7, v7) (ILP_no ⟨by first | exact hse | exact updN_le hse (by omega), by first | exact hpe | exact updN_le hpe (by omega), by first | exact hra | exact updN_le hra (by omega), by first | exact hga | exact updN_le hga (by omega), by first | exact hti | exact htb⟩ (fun j hj => ⟨by first | rfl | exact updN_n hj, by first | rfl | exact updN_n hj, by first | rfl | exact updN_n hj, by first | rfl | exact updN_n hj⟩) (fun x hx => by first | rfl | exact hfr x hx) (fun _ => hno)) (bI_0 (fun h => hno h.2)) (rfl)
              · refine V.aload_n C (n := 120) (j := 0) d_M_isLine_119 rfl rfl rfl ?_
                refine V.get C (n := 123) (q0 := 0) (k0 := 7) clOk_6 rfl (by decide) rfl fl_M_25 rfl d_M_isLine_120 rfl ?_
                refine V.bipush C (v := nI 21) (n := 125) d_M_isLine_123 (by decide) rfl ?_
                refine V.iload_n C (n := 126) (j := 2) d_M_isLine_125 rfl rfl rfl ?_
                refine V.imul_n C (n := 127) d_M_isLine_126 rfl ?_
                refine V.iload_n C (n := 128) (j := 3) d_M_isLine_127 rfl rfl rfl ?_
                refine V.iadd_n C (n := 129) d_M_isLine_128 rfl ?_
                refine V.iconst C (v := nI 0) (n := 130) d_M_isLine_129 (by decide) rfl ?_
                refine V.iastore_n C (n := 131) (q0 := 6) (t0 := 0) (i := (21 * (41 + f)) + (j + 1)) (ws' := (ModW w cI nf (updN se (41 + f) v2) (updN pe (41 + f) v3) (updN ra (41 + f) v4) (updN ga (41 + f) v5) of (updN tt ((21 * (41 + f)) + (j + 1)) 0) fm tm ex sz tx ld ro wh be p5 v5)) rfl rfl (by omega) (by decide) rfl d_M_isLine_130 rfl ?_
                refine V.iinc C (n := 134) (j := 3) (v := nI (j + 1 + 1)) (lv' := [(0, .ref (w 0)), (1, .int (nI f)), (2, .int (nI (41 + f))), (3, .int (nI (j + 1 + 1)))]) [1, 2, 3, 0] d_M_isLine_131 rfl (nI_inc (j + 1) 1) (by decide) rfl rfl ?_
                refine V.goto C (n := 113) d_M_isLine_134 (by decide) ?_
                exact ih113 (j + 1) (updN tt ((21 * (41 + f)) + (j + 1)) 0) ⟨by omega, by rw [htt]; exact clrM_s ti (41 + f) j⟩ (by omega)
            · have hno : ¬ LnOK tx sz pl := by rintro ⟨s, p, r, g, r1, q, hL⟩; obtain ⟨e0, e1, e9, q5, F, n2, hq⟩ := Ln4 hWp1 hNp2 hNp3 hNp4 hL; subst e1; exact NumAt_no he5 hv5 c96_6 n2
              refine V.iconst C (v := nI 0) (n := 100) d_M_isLine_99 (by decide) rfl ?_
              exact V.zretE C hr (bI_nar _) d_M_isLine_100 (updN se (41 + f) v2, updN pe (41 + f) v3, updN ra (41 + f) v4, ga, ti, psS tx sz e5, v5) (ILP_no ⟨by first | exact hse | exact updN_le hse (by omega), by first | exact hpe | exact updN_le hpe (by omega), by first | exact hra | exact updN_le hra (by omega), by first | exact hga | exact updN_le hga (by omega), by first | exact hti | exact htb⟩ (fun j hj => ⟨by first | rfl | exact updN_n hj, by first | rfl | exact updN_n hj, by first | rfl | exact updN_n hj, by first | rfl | exact updN_n hj⟩) (fun x hx => by first | rfl | exact hfr x hx) (fun _ => hno)) (bI_0 (fun h => hno h.2)) (rfl)
          · have hno : ¬ LnOK tx sz pl := by rintro ⟨s, p, r, g, r1, q, hL⟩; obtain ⟨e0, e1, q4, q5, F, n2, hq⟩ := Ln3 hWp1 hNp2 hNp3 hL; exact NumAt_no he4 hv4 c70_5 n2
            refine V.iconst C (v := nI 0) (n := 74) d_M_isLine_73 (by decide) rfl ?_
            exact V.zretE C hr (bI_nar _) d_M_isLine_74 (updN se (41 + f) v2, updN pe (41 + f) v3, ra, ga, ti, psS tx sz e4, v4) (ILP_no ⟨by first | exact hse | exact updN_le hse (by omega), by first | exact hpe | exact updN_le hpe (by omega), by first | exact hra | exact updN_le hra (by omega), by first | exact hga | exact updN_le hga (by omega), by first | exact hti | exact htb⟩ (fun j hj => ⟨by first | rfl | exact updN_n hj, by first | rfl | exact updN_n hj, by first | rfl | exact updN_n hj, by first | rfl | exact updN_n hj⟩) (fun x hx => by first | rfl | exact hfr x hx) (fun _ => hno)) (bI_0 (fun h => hno h.2)) (rfl)
        · have hno : ¬ LnOK tx sz pl := by rintro ⟨s, p, r, g, r1, q, hL⟩; obtain ⟨e0, q3, q4, q5, F, n2, hq⟩ := Ln2 hWp1 hNp2 hL; exact NumAt_no he3 hv3 c48_4 n2
          refine V.iconst C (v := nI 0) (n := 52) d_M_isLine_51 (by decide) rfl ?_
          exact V.zretE C hr (bI_nar _) d_M_isLine_52 (updN se (41 + f) v2, pe, ra, ga, ti, psS tx sz e3, v3) (ILP_no ⟨by first | exact hse | exact updN_le hse (by omega), by first | exact hpe | exact updN_le hpe (by omega), by first | exact hra | exact updN_le hra (by omega), by first | exact hga | exact updN_le hga (by omega), by first | exact hti | exact htb⟩ (fun j hj => ⟨by first | rfl | exact updN_n hj, by first | rfl | exact updN_n hj, by first | rfl | exact updN_n hj, by first | rfl | exact updN_n hj⟩) (fun x hx => by first | rfl | exact hfr x hx) (fun _ => hno)) (bI_0 (fun h => hno h.2)) (rfl)
      · have hno : ¬ LnOK tx sz pl := by rintro ⟨s, p, r, g, r1, q, hL⟩; obtain ⟨q2, q3, q4, q5, F, n2, hq⟩ := Ln1 hWp1 hL; exact NumAt_no he2 hv2 c21_3 n2
        refine V.iconst C (v := nI 0) (n := 25) d_M_isLine_24 (by decide) rfl ?_
        exact V.zretE C hr (bI_nar _) d_M_isLine_25 (se, pe, ra, ga, ti, psS tx sz e2, v2) (ILP_no ⟨by first | exact hse | exact updN_le hse (by omega), by first | exact hpe | exact updN_le hpe (by omega), by first | exact hra | exact updN_le hra (by omega), by first | exact hga | exact updN_le hga (by omega), by first | exact hti | exact htb⟩ (fun j hj => ⟨by first | rfl | exact updN_n hj, by first | rfl | exact updN_n hj, by first | rfl | exact updN_n hj, by first | rfl | exact updN_n hj⟩) (fun x hx => by first | rfl | exact hfr x hx) (fun _ => hno)) (bI_0 (fun h => hno h.2)) (rfl)
