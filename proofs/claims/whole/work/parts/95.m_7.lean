set_option maxHeartbeats 4000000 in
set_option maxRecDepth 100000 in
theorem c_M_read_bad (l : Launch) (D : va_G) (cI cC : ClassId) (E : Nat → Nat) (w : Nat → Nat) (nf : Nat) (se pe ra ga of ti fm tm : Nat → Nat) (ex : Bool) (sz : Nat) (tx ld : Nat → Nat) (ro : Nat → Int) (wh be : Nat → Nat) (pl nu : Nat) (T0 : TbS) (Y : Nat × TbS) (hM : MOK nf se pe ra ga of ti fm tm sz tx) (hs2 : sz ≤ 2000) (hT0 : T0.2.2.2.2.2.2 = 0) (hY : Y = flO tx sz (sz + 1) 1 0 T0) (hbad : 0 < Y.1) : CE l D (TY cI cC E) m_M_read (rmD 6) [.ref (w 0)] ((ModW w cI nf se pe ra ga of ti fm tm ex sz tx ld ro wh be pl nu)) (iI (-(((Y.1 : Nat) : Int)))) (fun u : ILS => RDB se pe ra ga ti u) (fun u => (ModW w cI nf u.1 u.2.1 u.2.2.1 u.2.2.2.1 of u.2.2.2.2.1 fm tm ex 0 tx ld ro wh be u.2.2.2.2.2.1 u.2.2.2.2.2.2)) := by
  obtain ⟨hnf, hse, hpe, hp1, hra, hga, hof, hti, hfm, htm, hsz, htx⟩ := id hM
  have ht : typOK (tx, sz) := ⟨hsz, htx⟩
  refine CE.of (by decide +kernel) (of_decide_eq_true rfl) ?_
  intro p e s m args below meth c C hr
  refine V.aload_n C (n := 1) (j := 0) d_M_read_0 rfl rfl rfl ?_
  refine V.iconst C (v := nI 0) (n := 2) d_M_read_1 (by decide) rfl ?_
  refine V.put C (n := 5) (q0 := 0) (k0 := 0) (ws' := (ModW w cI nf se pe ra ga of ti fm tm ex sz tx ld ro wh be pl nu)) clOk_6 rfl (by decide) rfl rfl fl_M_49 rfl rfl (of_decide_eq_true rfl) rfl d_M_read_2 rfl ?_
  refine V.aload_n C (n := 6) (j := 0) d_M_read_5 rfl rfl rfl ?_
  refine V.iconst C (v := nI 0) (n := 7) d_M_read_6 (by decide) rfl ?_
  refine V.put C (n := 10) (q0 := 0) (k0 := 17) (ws' := (ModW w cI nf se pe ra ga of ti fm tm ex sz tx ld ro wh be 0 nu)) clOk_6 rfl (by decide) rfl rfl fl_M_128 rfl rfl (of_decide_eq_true rfl) rfl d_M_read_7 rfl ?_
  refine V.iconst C (v := nI 0) (n := 11) d_M_read_10 (by decide) rfl ?_
  refine V.istore_n C (n := 12) (lv' := [(0, .ref (w 0)), (1, .int (nI 0))]) [1, 0] d_M_read_11 rfl (by decide) rfl rfl ?_
  refine V.iconst C (v := nI 0) (n := 13) d_M_read_12 (by decide) rfl ?_
  refine V.istore_n C (n := 14) (lv' := [(0, .ref (w 0)), (1, .int (nI 0)), (2, .int (nI 0))]) [1, 2, 0] d_M_read_13 rfl (by decide) rfl rfl ?_
  refine V.ind4 C (fun (U : ILS) (L : Nat) (n : Nat) (T : TbS) => (ModW w cI nf U.1 U.2.1 U.2.2.1 U.2.2.2.1 of U.2.2.2.2.1 fm tm ex sz tx ld ro wh be U.2.2.2.2.2.1 U.2.2.2.2.2.2)) (fun (U : ILS) (L : Nat) (n : Nat) (T : TbS) => [(0, .ref (w 0)), (1, .int (nI L)), (2, .int (nI n))]) (fun (U : ILS) (L : Nat) (n : Nat) (T : TbS) => (U.2.2.2.2.2.1 ≤ sz + 1) ∧ (L ≤ U.2.2.2.2.2.1) ∧ (n ≤ 40) ∧ (RDI se pe ra ga ti tx sz Y U L n T)) (fun (U : ILS) (L : Nat) (n : Nat) (T : TbS) => sz + 2 - U.2.2.2.2.2.1) ((se, pe, ra, ga, ti, 0, nu)) (0) (0) (T0) ⟨Nat.zero_le _, Nat.zero_le _, by omega, by rw [hY]; exact RDI_0 ⟨hse, hpe, hra, hga, hti⟩ hT0⟩ rfl rfl ?_
  rintro U L n T ⟨hU, hLU, hn40, hI⟩ ih14
  try dsimp only
  refine V.aload_n C (n := 15) (j := 0) d_M_read_14 rfl rfl rfl ?_
  refine V.get C (n := 18) (q0 := 0) (k0 := 17) clOk_6 rfl (by decide) rfl fl_M_128 rfl d_M_read_15 rfl ?_
  refine V.aload_n C (n := 19) (j := 0) d_M_read_18 rfl rfl rfl ?_
  refine V.get C (n := 22) (q0 := 0) (k0 := 11) clOk_6 rfl (by decide) rfl fl_M_115 rfl d_M_read_19 rfl ?_
  refine V.icmpn_ge C (tgt := 73) (n := 25) (by omega) (by omega) d_M_read_22 (by decide) rfl (fun c22_1 => ?_) (fun c22_1 => ?_)
  · exfalso; have h8 := RDI_end hI (by omega); rw [h8] at hbad; exact absurd hbad (Nat.lt_irrefl 0)
  · have hlt : U.2.2.2.2.2.1 < sz := c22_1
    have hpr := psS_rng tx sz U.2.2.2.2.2.1
    refine V.iinc C (n := 28) (j := 1) (v := nI (L + 1)) (lv' := [(0, .ref (w 0)), (1, .int (nI (L + 1))), (2, .int (nI n))]) [1, 0, 2] d_M_read_25 rfl (nI_inc (L) 1) (by decide) rfl rfl ?_
    refine V.aload_n C (n := 29) (j := 0) d_M_read_28 rfl rfl rfl ?_
    refine V.callV_v C (n := 32) (ws2 := fun _ => (ModW w cI nf U.1 U.2.1 U.2.2.1 U.2.2.2.1 of U.2.2.2.2.1 fm tm ex sz tx ld ro wh be (psS tx sz U.2.2.2.2.2.1) U.2.2.2.2.2.2)) (c_M_passSpaces l D cI cC E (w) (nf) (U.1) (U.2.1) (U.2.2.1) (U.2.2.2.1) (of) (U.2.2.2.2.1) (fm) (tm) (ex) (sz) (tx) (ld) (ro) (wh) (be) (U.2.2.2.2.2.1) (U.2.2.2.2.2.2) ht (by omega)) cw_M_141 [0, 1, 2, 3, 4, 5, 6, 7, 8, 9, 10, 11, 12, 13] [] [0, 1, 2, 3, 4, 5, 6, 7, 8, 9, 10, 11, 12, 13] (qr := 0) rfl rfl rfl (of_decide_eq_true rfl) rfl (of_decide_eq_true rfl) rfl (of_decide_eq_true rfl) (fun _ => rfl) (fun _ => of_decide_eq_true rfl) rfl ⟨rfl, rfl⟩ ⟨by decide, by decide⟩ ⟨by decide, by decide⟩ rfl rfl (of_decide_eq_true rfl) d_M_read_29 rfl (fun _ _ => ?_)
    refine V.aload_n C (n := 33) (j := 0) d_M_read_32 rfl rfl rfl ?_
    refine V.callV_i C (n := 36) (ws' := (ModW w cI nf U.1 U.2.1 U.2.2.1 U.2.2.2.1 of U.2.2.2.2.1 fm tm ex sz tx ld ro wh be (psS tx sz U.2.2.2.2.2.1) U.2.2.2.2.2.2)) (c_M_isEnd l D cI cC E (w) (nf) (U.1) (U.2.1) (U.2.2.1) (U.2.2.2.1) (of) (U.2.2.2.2.1) (fm) (tm) (ex) (sz) (tx) (ld) (ro) (wh) (be) (psS tx sz U.2.2.2.2.2.1) (U.2.2.2.2.2.2) ht (by omega)) cw_M_134 [0, 1, 2, 3, 4, 5, 6, 7, 8, 9, 10, 11, 12, 13] [] [0, 1, 2, 3, 4, 5, 6, 7, 8, 9, 10, 11, 12, 13] (qr := 0) rfl rfl rfl (of_decide_eq_true rfl) rfl (of_decide_eq_true rfl) rfl (of_decide_eq_true rfl) rfl (of_decide_eq_true rfl) rfl ⟨rfl, rfl⟩ ⟨by decide, by decide⟩ ⟨by decide, by decide⟩ rfl rfl (of_decide_eq_true rfl) d_M_read_33 rfl ?_
    refine V.ifb_ne C (tgt := 60) (n := 39) d_M_read_36 (by decide) rfl (fun c36_2 => ?_) (fun c36_2 => ?_)
    · have hend := c36_2
      refine V.aload_n C (n := 61) (j := 0) d_M_read_60 rfl rfl rfl ?_
      refine V.dup C (n := 62) d_M_read_61 rfl rfl ?_
      refine V.get C (n := 65) (q0 := 0) (k0 := 17) clOk_6 rfl (by decide) rfl fl_M_128 rfl d_M_read_62 rfl ?_
      refine V.iconst C (v := nI 1) (n := 66) d_M_read_65 (by decide) rfl ?_
      refine V.iadd_n C (n := 67) d_M_read_66 rfl ?_
      refine V.put C (n := 70) (q0 := 0) (k0 := 17) (ws' := (ModW w cI nf U.1 U.2.1 U.2.2.1 U.2.2.2.1 of U.2.2.2.2.1 fm tm ex sz tx ld ro wh be ((psS tx sz U.2.2.2.2.2.1) + 1) U.2.2.2.2.2.2)) clOk_6 rfl (by decide) rfl rfl fl_M_128 rfl rfl (of_decide_eq_true rfl) rfl d_M_read_67 rfl ?_
      refine V.goto C (n := 14) d_M_read_70 (by decide) ?_
      exact ih14 ((U.1, U.2.1, U.2.2.1, U.2.2.2.1, U.2.2.2.2.1, (psS tx sz U.2.2.2.2.2.1) + 1, U.2.2.2.2.2.2)) (L + 1) (n) (T) ⟨by dsimp only; omega, by dsimp only; omega, hn40, RDI_e hI hlt hend⟩ (by dsimp only; omega)
    · have hne := c36_2
      refine V.aload_n C (n := 40) (j := 0) d_M_read_39 rfl rfl rfl ?_
      refine V.iload_n C (n := 41) (j := 2) d_M_read_40 rfl rfl rfl ?_
      refine V.iconst C (v := nI 1) (n := 42) d_M_read_41 (by decide) rfl ?_
      refine V.iadd_n C (n := 43) d_M_read_42 rfl ?_
      refine V.callV_e C (n := 46) (ws2 := fun u_1 => (ModW w cI nf u_1.1 u_1.2.1 u_1.2.2.1 u_1.2.2.2.1 of u_1.2.2.2.2.1 fm tm ex sz tx ld ro wh be u_1.2.2.2.2.2.1 u_1.2.2.2.2.2.2)) (c_M_isLine l D cI cC E (w) (nf) (U.1) (U.2.1) (U.2.2.1) (U.2.2.2.1) (of) (U.2.2.2.2.1) (fm) (tm) (ex) (sz) (tx) (ld) (ro) (wh) (be) (psS tx sz U.2.2.2.2.2.1) (U.2.2.2.2.2.2) (n + 1) (MOK_U hM hI) (by omega) (by omega) hs2) cw_M_154 [0, 1, 2, 3, 4, 5, 6, 7, 8, 9, 10, 11, 12, 13] [] [0, 1, 2, 3, 4, 5, 6, 7, 8, 9, 10, 11, 12, 13] (qr := 0) rfl rfl rfl (of_decide_eq_true rfl) rfl (of_decide_eq_true rfl) rfl (of_decide_eq_true rfl) (fun _ => rfl) (fun _ => of_decide_eq_true rfl) rfl ⟨rfl, rfl⟩ ⟨by decide, by decide⟩ ⟨by decide, by decide⟩ rfl rfl (of_decide_eq_true rfl) d_M_read_43 rfl (fun u_1 hu_1 => ?_)
      refine V.ifb_ne C (tgt := 57) (n := 49) d_M_read_46 (by decide) rfl (fun c46_3 => ?_) (fun c46_3 => ?_)
      · obtain ⟨hVb, T1, hI1⟩ := RDI_t hI (by omega) hs2 hne c46_3 hu_1
        refine V.iinc C (n := 60) (j := 2) (v := nI (n + 1)) (lv' := [(0, .ref (w 0)), (1, .int (nI (L + 1))), (2, .int (nI (n + 1)))]) [1, 2, 0] d_M_read_57 rfl (nI_inc (n) 1) (by decide) rfl rfl ?_
        refine V.aload_n C (n := 61) (j := 0) d_M_read_60 rfl rfl rfl ?_
        refine V.dup C (n := 62) d_M_read_61 rfl rfl ?_
        refine V.get C (n := 65) (q0 := 0) (k0 := 17) clOk_6 rfl (by decide) rfl fl_M_128 rfl d_M_read_62 rfl ?_
        refine V.iconst C (v := nI 1) (n := 66) d_M_read_65 (by decide) rfl ?_
        refine V.iadd_n C (n := 67) d_M_read_66 rfl ?_
        refine V.put C (n := 70) (q0 := 0) (k0 := 17) (ws' := (ModW w cI nf u_1.1 u_1.2.1 u_1.2.2.1 u_1.2.2.2.1 of u_1.2.2.2.2.1 fm tm ex sz tx ld ro wh be (u_1.2.2.2.2.2.1 + 1) u_1.2.2.2.2.2.2)) clOk_6 rfl (by decide) rfl rfl fl_M_128 rfl rfl (of_decide_eq_true rfl) rfl d_M_read_67 rfl ?_
        refine V.goto C (n := 14) d_M_read_70 (by decide) ?_
        exact ih14 ((u_1.1, u_1.2.1, u_1.2.2.1, u_1.2.2.2.1, u_1.2.2.2.2.1, u_1.2.2.2.2.2.1 + 1, u_1.2.2.2.2.2.2)) (L + 1) (n + 1) (T1) ⟨by dsimp only; omega, by dsimp only; omega, by have := hI1.2.2.2.1.2; omega, hI1⟩ (by dsimp only; omega)
      · have hno46 := c46_3
        refine V.aload_n C (n := 50) (j := 0) d_M_read_49 rfl rfl rfl ?_
        refine V.iconst C (v := nI 0) (n := 51) d_M_read_50 (by decide) rfl ?_
        refine V.put C (n := 54) (q0 := 0) (k0 := 11) (ws' := (ModW w cI nf u_1.1 u_1.2.1 u_1.2.2.1 u_1.2.2.2.1 of u_1.2.2.2.2.1 fm tm ex 0 tx ld ro wh be u_1.2.2.2.2.2.1 u_1.2.2.2.2.2.2)) clOk_6 rfl (by decide) rfl rfl fl_M_115 rfl rfl (of_decide_eq_true rfl) rfl d_M_read_51 rfl ?_
        refine V.iload_n C (n := 55) (j := 1) d_M_read_54 rfl rfl rfl ?_
        refine V.ineg_z C (n := 56) d_M_read_55 (nI_iI (L + 1)) rfl ?_
        exact V.iretE C hr d_M_read_56 (u_1.1, u_1.2.1, u_1.2.2.1, u_1.2.2.2.1, u_1.2.2.2.2.1, u_1.2.2.2.2.2.1, u_1.2.2.2.2.2.2) (RDB_of hI hu_1) (by rw [RDI_f hI hlt hs2 hne hno46]) (rfl)
set_option maxHeartbeats 4000000 in
set_option maxRecDepth 100000 in
theorem c_M_read_ok (l : Launch) (D : va_G) (cI cC : ClassId) (E : Nat → Nat) (w : Nat → Nat) (nf : Nat) (se pe ra ga of ti fm tm : Nat → Nat) (ex : Bool) (sz : Nat) (tx ld : Nat → Nat) (ro : Nat → Int) (wh be : Nat → Nat) (pl nu : Nat) (T0 : TbS) (Y : Nat × TbS) (hM : MOK nf se pe ra ga of ti fm tm sz tx) (hs2 : sz ≤ 2000) (hT0 : T0.2.2.2.2.2.2 = 0) (hY : Y = flO tx sz (sz + 1) 1 0 T0) (hok : Y.1 = 0) : CE l D (TY cI cC E) m_M_read (rmD 6) [.ref (w 0)] ((ModW w cI nf se pe ra ga of ti fm tm ex sz tx ld ro wh be pl nu)) (nI (Y.2.2.2.2.2.2.2)) (fun u : ILS => RDK Y.2 u) (fun u => (ModW w cI Y.2.2.2.2.2.2.2 (cpR u.1 Y.2.2.2.2.2.2.2) (cpR u.2.1 Y.2.2.2.2.2.2.2) (cpR u.2.2.1 Y.2.2.2.2.2.2.2) (cpR u.2.2.2.1 Y.2.2.2.2.2.2.2) (zrR of Y.2.2.2.2.2.2.2) (cpT u.2.2.2.2.1 Y.2.2.2.2.2.2.2 0) fm tm false 0 tx ld ro wh be u.2.2.2.2.2.1 u.2.2.2.2.2.2)) := by
  obtain ⟨hnf, hse, hpe, hp1, hra, hga, hof, hti, hfm, htm, hsz, htx⟩ := id hM
  have ht : typOK (tx, sz) := ⟨hsz, htx⟩
  refine CE.of (by decide +kernel) (of_decide_eq_true rfl) ?_
  intro p e s m args below meth c C hr
  refine V.aload_n C (n := 1) (j := 0) d_M_read_0 rfl rfl rfl ?_
  refine V.iconst C (v := nI 0) (n := 2) d_M_read_1 (by decide) rfl ?_
  refine V.put C (n := 5) (q0 := 0) (k0 := 0) (ws' := (ModW w cI nf se pe ra ga of ti fm tm ex sz tx ld ro wh be pl nu)) clOk_6 rfl (by decide) rfl rfl fl_M_49 rfl rfl (of_decide_eq_true rfl) rfl d_M_read_2 rfl ?_
  refine V.aload_n C (n := 6) (j := 0) d_M_read_5 rfl rfl rfl ?_
  refine V.iconst C (v := nI 0) (n := 7) d_M_read_6 (by decide) rfl ?_
  refine V.put C (n := 10) (q0 := 0) (k0 := 17) (ws' := (ModW w cI nf se pe ra ga of ti fm tm ex sz tx ld ro wh be 0 nu)) clOk_6 rfl (by decide) rfl rfl fl_M_128 rfl rfl (of_decide_eq_true rfl) rfl d_M_read_7 rfl ?_
  refine V.iconst C (v := nI 0) (n := 11) d_M_read_10 (by decide) rfl ?_
  refine V.istore_n C (n := 12) (lv' := [(0, .ref (w 0)), (1, .int (nI 0))]) [1, 0] d_M_read_11 rfl (by decide) rfl rfl ?_
  refine V.iconst C (v := nI 0) (n := 13) d_M_read_12 (by decide) rfl ?_
  refine V.istore_n C (n := 14) (lv' := [(0, .ref (w 0)), (1, .int (nI 0)), (2, .int (nI 0))]) [1, 2, 0] d_M_read_13 rfl (by decide) rfl rfl ?_
  refine V.ind4 C (fun (U : ILS) (L : Nat) (n : Nat) (T : TbS) => (ModW w cI nf U.1 U.2.1 U.2.2.1 U.2.2.2.1 of U.2.2.2.2.1 fm tm ex sz tx ld ro wh be U.2.2.2.2.2.1 U.2.2.2.2.2.2)) (fun (U : ILS) (L : Nat) (n : Nat) (T : TbS) => [(0, .ref (w 0)), (1, .int (nI L)), (2, .int (nI n))]) (fun (U : ILS) (L : Nat) (n : Nat) (T : TbS) => (U.2.2.2.2.2.1 ≤ sz + 1) ∧ (L ≤ U.2.2.2.2.2.1) ∧ (n ≤ 40) ∧ (RDI se pe ra ga ti tx sz Y U L n T)) (fun (U : ILS) (L : Nat) (n : Nat) (T : TbS) => sz + 2 - U.2.2.2.2.2.1) ((se, pe, ra, ga, ti, 0, nu)) (0) (0) (T0) ⟨Nat.zero_le _, Nat.zero_le _, by omega, by rw [hY]; exact RDI_0 ⟨hse, hpe, hra, hga, hti⟩ hT0⟩ rfl rfl ?_
  rintro U L n T ⟨hU, hLU, hn40, hI⟩ ih14
  try dsimp only
  refine V.aload_n C (n := 15) (j := 0) d_M_read_14 rfl rfl rfl ?_
  refine V.get C (n := 18) (q0 := 0) (k0 := 17) clOk_6 rfl (by decide) rfl fl_M_128 rfl d_M_read_15 rfl ?_
  refine V.aload_n C (n := 19) (j := 0) d_M_read_18 rfl rfl rfl ?_
  refine V.get C (n := 22) (q0 := 0) (k0 := 11) clOk_6 rfl (by decide) rfl fl_M_115 rfl d_M_read_19 rfl ?_
  refine V.icmpn_ge C (tgt := 73) (n := 25) (by omega) (by omega) d_M_read_22 (by decide) rfl (fun c22_1 => ?_) (fun c22_1 => ?_)
  · obtain ⟨hRK, hNn⟩ := RDK_of hI (show ¬ U.2.2.2.2.2.1 < sz by omega)
    refine V.aload_n C (n := 74) (j := 0) d_M_read_73 rfl rfl rfl ?_
    refine V.iconst C (v := nI 0) (n := 75) d_M_read_74 (by decide) rfl ?_
    refine V.put C (n := 78) (q0 := 0) (k0 := 11) (ws' := (ModW w cI nf U.1 U.2.1 U.2.2.1 U.2.2.2.1 of U.2.2.2.2.1 fm tm ex 0 tx ld ro wh be U.2.2.2.2.2.1 U.2.2.2.2.2.2)) clOk_6 rfl (by decide) rfl rfl fl_M_115 rfl rfl (of_decide_eq_true rfl) rfl d_M_read_75 rfl ?_
    refine V.aload_n C (n := 79) (j := 0) d_M_read_78 rfl rfl rfl ?_
    refine V.iload_n C (n := 80) (j := 2) d_M_read_79 rfl rfl rfl ?_
    refine V.callV_v C (n := 83) (ws2 := fun _ => (ModW w cI n (cpR U.1 n) (cpR U.2.1 n) (cpR U.2.2.1 n) (cpR U.2.2.2.1 n) (zrR of n) (cpT U.2.2.2.2.1 n 0) fm tm false 0 tx ld ro wh be U.2.2.2.2.2.1 U.2.2.2.2.2.2)) (c_M_takeFrames l D cI cC E (w) (nf) (U.1) (U.2.1) (U.2.2.1) (U.2.2.2.1) (of) (U.2.2.2.2.1) (fm) (tm) (ex) (0) (tx) (ld) (ro) (wh) (be) (U.2.2.2.2.2.1) (U.2.2.2.2.2.2) (n) (by omega)) cw_M_157 [0, 1, 2, 3, 4, 5, 6, 7, 8, 9, 10, 11, 12, 13] [] [0, 1, 2, 3, 4, 5, 6, 7, 8, 9, 10, 11, 12, 13] (qr := 0) rfl rfl rfl (of_decide_eq_true rfl) rfl (of_decide_eq_true rfl) rfl (of_decide_eq_true rfl) (fun _ => rfl) (fun _ => of_decide_eq_true rfl) rfl ⟨rfl, rfl⟩ ⟨by decide, by decide⟩ ⟨by decide, by decide⟩ rfl rfl (of_decide_eq_true rfl) d_M_read_80 rfl (fun _ _ => ?_)
    refine V.iload_n C (n := 84) (j := 2) d_M_read_83 rfl rfl rfl ?_
    exact V.iretE C hr d_M_read_84 U (hRK) (by rw [hNn]) (by rw [hNn])
  · have hlt : U.2.2.2.2.2.1 < sz := c22_1
    have hpr := psS_rng tx sz U.2.2.2.2.2.1
    refine V.iinc C (n := 28) (j := 1) (v := nI (L + 1)) (lv' := [(0, .ref (w 0)), (1, .int (nI (L + 1))), (2, .int (nI n))]) [1, 0, 2] d_M_read_25 rfl (nI_inc (L) 1) (by decide) rfl rfl ?_
    refine V.aload_n C (n := 29) (j := 0) d_M_read_28 rfl rfl rfl ?_
    refine V.callV_v C (n := 32) (ws2 := fun _ => (ModW w cI nf U.1 U.2.1 U.2.2.1 U.2.2.2.1 of U.2.2.2.2.1 fm tm ex sz tx ld ro wh be (psS tx sz U.2.2.2.2.2.1) U.2.2.2.2.2.2)) (c_M_passSpaces l D cI cC E (w) (nf) (U.1) (U.2.1) (U.2.2.1) (U.2.2.2.1) (of) (U.2.2.2.2.1) (fm) (tm) (ex) (sz) (tx) (ld) (ro) (wh) (be) (U.2.2.2.2.2.1) (U.2.2.2.2.2.2) ht (by omega)) cw_M_141 [0, 1, 2, 3, 4, 5, 6, 7, 8, 9, 10, 11, 12, 13] [] [0, 1, 2, 3, 4, 5, 6, 7, 8, 9, 10, 11, 12, 13] (qr := 0) rfl rfl rfl (of_decide_eq_true rfl) rfl (of_decide_eq_true rfl) rfl (of_decide_eq_true rfl) (fun _ => rfl) (fun _ => of_decide_eq_true rfl) rfl ⟨rfl, rfl⟩ ⟨by decide, by decide⟩ ⟨by decide, by decide⟩ rfl rfl (of_decide_eq_true rfl) d_M_read_29 rfl (fun _ _ => ?_)
    refine V.aload_n C (n := 33) (j := 0) d_M_read_32 rfl rfl rfl ?_
    refine V.callV_i C (n := 36) (ws' := (ModW w cI nf U.1 U.2.1 U.2.2.1 U.2.2.2.1 of U.2.2.2.2.1 fm tm ex sz tx ld ro wh be (psS tx sz U.2.2.2.2.2.1) U.2.2.2.2.2.2)) (c_M_isEnd l D cI cC E (w) (nf) (U.1) (U.2.1) (U.2.2.1) (U.2.2.2.1) (of) (U.2.2.2.2.1) (fm) (tm) (ex) (sz) (tx) (ld) (ro) (wh) (be) (psS tx sz U.2.2.2.2.2.1) (U.2.2.2.2.2.2) ht (by omega)) cw_M_134 [0, 1, 2, 3, 4, 5, 6, 7, 8, 9, 10, 11, 12, 13] [] [0, 1, 2, 3, 4, 5, 6, 7, 8, 9, 10, 11, 12, 13] (qr := 0) rfl rfl rfl (of_decide_eq_true rfl) rfl (of_decide_eq_true rfl) rfl (of_decide_eq_true rfl) rfl (of_decide_eq_true rfl) rfl ⟨rfl, rfl⟩ ⟨by decide, by decide⟩ ⟨by decide, by decide⟩ rfl rfl (of_decide_eq_true rfl) d_M_read_33 rfl ?_
    refine V.ifb_ne C (tgt := 60) (n := 39) d_M_read_36 (by decide) rfl (fun c36_2 => ?_) (fun c36_2 => ?_)
    · have hend := c36_2
      refine V.aload_n C (n := 61) (j := 0) d_M_read_60 rfl rfl rfl ?_
      refine V.dup C (n := 62) d_M_read_61 rfl rfl ?_
      refine V.get C (n := 65) (q0 := 0) (k0 := 17) clOk_6 rfl (by decide) rfl fl_M_128 rfl d_M_read_62 rfl ?_
      refine V.iconst C (v := nI 1) (n := 66) d_M_read_65 (by decide) rfl ?_
      refine V.iadd_n C (n := 67) d_M_read_66 rfl ?_
      refine V.put C (n := 70) (q0 := 0) (k0 := 17) (ws' := (ModW w cI nf U.1 U.2.1 U.2.2.1 U.2.2.2.1 of U.2.2.2.2.1 fm tm ex sz tx ld ro wh be ((psS tx sz U.2.2.2.2.2.1) + 1) U.2.2.2.2.2.2)) clOk_6 rfl (by decide) rfl rfl fl_M_128 rfl rfl (of_decide_eq_true rfl) rfl d_M_read_67 rfl ?_
      refine V.goto C (n := 14) d_M_read_70 (by decide) ?_
      exact ih14 ((U.1, U.2.1, U.2.2.1, U.2.2.2.1, U.2.2.2.2.1, (psS tx sz U.2.2.2.2.2.1) + 1, U.2.2.2.2.2.2)) (L + 1) (n) (T) ⟨by dsimp only; omega, by dsimp only; omega, hn40, RDI_e hI hlt hend⟩ (by dsimp only; omega)
    · have hne := c36_2
      refine V.aload_n C (n := 40) (j := 0) d_M_read_39 rfl rfl rfl ?_
      refine V.iload_n C (n := 41) (j := 2) d_M_read_40 rfl rfl rfl ?_
      refine V.iconst C (v := nI 1) (n := 42) d_M_read_41 (by decide) rfl ?_
      refine V.iadd_n C (n := 43) d_M_read_42 rfl ?_
      refine V.callV_e C (n := 46) (ws2 := fun u_1 => (ModW w cI nf u_1.1 u_1.2.1 u_1.2.2.1 u_1.2.2.2.1 of u_1.2.2.2.2.1 fm tm ex sz tx ld ro wh be u_1.2.2.2.2.2.1 u_1.2.2.2.2.2.2)) (c_M_isLine l D cI cC E (w) (nf) (U.1) (U.2.1) (U.2.2.1) (U.2.2.2.1) (of) (U.2.2.2.2.1) (fm) (tm) (ex) (sz) (tx) (ld) (ro) (wh) (be) (psS tx sz U.2.2.2.2.2.1) (U.2.2.2.2.2.2) (n + 1) (MOK_U hM hI) (by omega) (by omega) hs2) cw_M_154 [0, 1, 2, 3, 4, 5, 6, 7, 8, 9, 10, 11, 12, 13] [] [0, 1, 2, 3, 4, 5, 6, 7, 8, 9, 10, 11, 12, 13] (qr := 0) rfl rfl rfl (of_decide_eq_true rfl) rfl (of_decide_eq_true rfl) rfl (of_decide_eq_true rfl) (fun _ => rfl) (fun _ => of_decide_eq_true rfl) rfl ⟨rfl, rfl⟩ ⟨by decide, by decide⟩ ⟨by decide, by decide⟩ rfl rfl (of_decide_eq_true rfl) d_M_read_43 rfl (fun u_1 hu_1 => ?_)
      refine V.ifb_ne C (tgt := 57) (n := 49) d_M_read_46 (by decide) rfl (fun c46_3 => ?_) (fun c46_3 => ?_)
      · obtain ⟨hVb, T1, hI1⟩ := RDI_t hI (by omega) hs2 hne c46_3 hu_1
        refine V.iinc C (n := 60) (j := 2) (v := nI (n + 1)) (lv' := [(0, .ref (w 0)), (1, .int (nI (L + 1))), (2, .int (nI (n + 1)))]) [1, 2, 0] d_M_read_57 rfl (nI_inc (n) 1) (by decide) rfl rfl ?_
        refine V.aload_n C (n := 61) (j := 0) d_M_read_60 rfl rfl rfl ?_
        refine V.dup C (n := 62) d_M_read_61 rfl rfl ?_
        refine V.get C (n := 65) (q0 := 0) (k0 := 17) clOk_6 rfl (by decide) rfl fl_M_128 rfl d_M_read_62 rfl ?_
        refine V.iconst C (v := nI 1) (n := 66) d_M_read_65 (by decide) rfl ?_
        refine V.iadd_n C (n := 67) d_M_read_66 rfl ?_
        refine V.put C (n := 70) (q0 := 0) (k0 := 17) (ws' := (ModW w cI nf u_1.1 u_1.2.1 u_1.2.2.1 u_1.2.2.2.1 of u_1.2.2.2.2.1 fm tm ex sz tx ld ro wh be (u_1.2.2.2.2.2.1 + 1) u_1.2.2.2.2.2.2)) clOk_6 rfl (by decide) rfl rfl fl_M_128 rfl rfl (of_decide_eq_true rfl) rfl d_M_read_67 rfl ?_
        refine V.goto C (n := 14) d_M_read_70 (by decide) ?_
        exact ih14 ((u_1.1, u_1.2.1, u_1.2.2.1, u_1.2.2.2.1, u_1.2.2.2.2.1, u_1.2.2.2.2.2.1 + 1, u_1.2.2.2.2.2.2)) (L + 1) (n + 1) (T1) ⟨by dsimp only; omega, by dsimp only; omega, by have := hI1.2.2.2.1.2; omega, hI1⟩ (by dsimp only; omega)
      · exfalso; have h8 := RDI_f hI hlt hs2 hne c46_3; omega
